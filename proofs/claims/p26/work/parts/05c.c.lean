def zo_d_minL : List Cond := [.code yJ9_min_f86c9 cJ9_min_f86c9 4 (some .long)]
def zw_d_minL : List Cond := zo_d_minL ++ []
theorem gz_d_minL : zw_d_minL.all goodWord = true := p1_ga (by decide +kernel) p1_g0
theorem iz_d_minL : ∀ w ∈ zw_d_minL, w ∈ lw_tbl := p1_ia (p1_all [793] (by decide +kernel)) p1_i0
set_option maxHeartbeats 4000000 in
set_option maxRecDepth 100000 in
theorem d_minL (l : Launch) (dC : Nat → ClassId) (dI : Nat → Nat → Nat) (sz : Nat) (a1 : Int64) (a2 : Int64) : Met l yJ9_min_f86c9 zw_d_minL ({ frames := 0, cells := 0, slots := 0, locals := 0 }) (va_Pc [.long a1, .long a2] (fun U => U.heap.size = sz ∧ va_P (dC, dI) vwCl [] U.heap ∧ va_K (dC, dI) vwCl [] U ∧ va_D (fun _ => True) [])) (va_Ql (fun (r : Int64) (_ : Unit) => True) (fun _ t => va_P (dC, dI) vwCl [] t.heap ∧ va_K (dC, dI) vwCl [] t ∧ va_D (va_A [] sz) []) (va_A [] sz)) 0 0 (va_A [] sz) := by
  refine Met.ofW (cc := cJ9_min_f86c9) (maxL := 4) (ret := (some .long)) (by decide) rfl ?_
  intro p e s m args below meth c s₁ B hml hv
  obtain ⟨rfl, hsz, hP, hK, hD0⟩ := hv
  have hx := B.exec
  have hb := B.bytes
  have hr := B.returns
  have hts := atoms_spec (ws := zw_d_minL) B.pre
  have hown : s.vm.findClass RJ9 = some m.cls := findClass_of_methodNamed B.named
  have hlocks := B.notSynchronized
  subst hsz
  have hD := hD0.self (sz := s.heap.size)
  generalize hAe : va_A [] s.heap.size = A at hD ⊢
  have hA : ∀ q : Nat, s.heap.size ≤ q → A q := fun q h => by rw [← hAe]; exact Or.inr h
  have hS : va_S A s.heap s.heap [] := va_S.rf
  have hP : va_P (dC, dI) vwCl [] s.heap := hP
  have hl := lv_entry ([.long a1, .long a2]) (n := 4) (Nat.le_of_ble_eq_true rfl)
  rw [lg_entry_eq]
  generalize (lg_sl ([.long a1, .long a2]) ++ List.replicate (4 - (lg_sl ([.long a1, .long a2])).length) Slot.unset).toArray = ls at hl ⊢
  have hl : lv_has ls 4 [(0, .long a1), (2, .long a2)] := hl
  refine lv_lload_n hx hb dJ9_min_f86c9_0 rfl (lv_at hl 0 rfl) ?_
  refine lv_lload_n hx hb dJ9_min_f86c9_1 rfl (lv_at hl 1 rfl) ?_
  refine W.lcmp hx hb dJ9_min_f86c9_2 ?_
  refine lv_topi (fun v_1 ev_1 => ?_)
  refine lv_if_gt (tgt := 10) hx hb dJ9_min_f86c9_3 (by decide) (fun c3 => ?_) (fun c3 => ?_)
  · refine lv_lload_n hx hb dJ9_min_f86c9_10 rfl (lv_at hl 1 rfl) ?_
    have hP9 := hP.sub (ws' := []) [] rfl
    have hD9 := hD.sub (ws' := []) [] (by decide) rfl
    have hK9 := hK.sub (tys' := []) [] rfl
    exact W.lret (v := a2) hx hb hr (fun t ht hW => ⟨⟨a2, (), rfl, trivial, by rw [ht]; exact hP9, va_K.moved hW.alike hK9, hD9⟩, hS.F ht⟩) hS.2.2 dJ9_min_f86c9_11
  · refine lv_lload_n hx hb dJ9_min_f86c9_6 rfl (lv_at hl 0 rfl) ?_
    refine lv_goto (tgt := 11) hx hb dJ9_min_f86c9_7 (by decide) ?_
    have hP9 := hP.sub (ws' := []) [] rfl
    have hD9 := hD.sub (ws' := []) [] (by decide) rfl
    have hK9 := hK.sub (tys' := []) [] rfl
    exact W.lret (v := a1) hx hb hr (fun t ht hW => ⟨⟨a1, (), rfl, trivial, by rw [ht]; exact hP9, va_K.moved hW.alike hK9, hD9⟩, hS.F ht⟩) hS.2.2 dJ9_min_f86c9_11
def zo_d_slipOf : List Cond := [.code yX0_slipOf cX0_slipOf 6 (some .int), .constantLong RX0 91 (9), .constantLong RX0 93 (10), .fieldLink RX0 11 "BowWalk$Bow" "tight" "[I", .methodLink RX0 95 yJ9_min_f86c9, .static yJ9_min_f86c9, .initialized RJ9]
def zw_d_slipOf : List Cond := zo_d_slipOf ++ (zw_d_minL ++ (wsX00 ++ []))
theorem gz_d_slipOf : zw_d_slipOf.all goodWord = true := p1_ga (by decide +kernel) (p1_ga gz_d_minL (p1_ga gk_X0 p1_g0))
theorem iz_d_slipOf : ∀ w ∈ zw_d_slipOf, w ∈ lw_tbl := p1_ia (p1_all [788, 789, 790, 350, 791, 792, 117] (by decide +kernel)) (p1_ia iz_d_minL (p1_ia ik_X0 p1_i0))
set_option maxHeartbeats 4000000 in
set_option maxRecDepth 100000 in
theorem d_slipOf (l : Launch) (dC : Nat → ClassId) (dI : Nat → Nat → Nat) (sz : Nat) (bw : Nat) (bf : List Value) (tg : Nat) (en : Nat) (bcrossings : Int32) (bleft : Int32) (bsteps : Int32) (bslipped : Int32) (bwalk : Int32) (bnextStep : Int32) (bsides : Int32) (blikes : Int32) (bsmooth : Int32) (bweight : Int32) (blength : Int32) (bstrike : Int32) (bswing : Int32) (cT : ClassId) (tf : Nat → Int32) (a1 : Int32) (a2 : Int32) (a3 : Int32) (f_bf_0 : bf[0]? = some (.ref tg)) (f_bf_1 : bf[1]? = some (.ref en)) (f_bf_2 : bf[2]? = some (.int bcrossings)) (f_bf_3 : bf[3]? = some (.int bleft)) (f_bf_4 : bf[4]? = some (.int bsteps)) (f_bf_5 : bf[5]? = some (.int bslipped)) (f_bf_6 : bf[6]? = some (.int bwalk)) (f_bf_7 : bf[7]? = some (.int bnextStep)) (f_bf_8 : bf[8]? = some (.int bsides)) (f_bf_9 : bf[9]? = some (.int blikes)) (f_bf_10 : bf[10]? = some (.int bsmooth)) (f_bf_11 : bf[11]? = some (.int bweight)) (f_bf_12 : bf[12]? = some (.int blength)) (f_bf_13 : bf[13]? = some (.int bstrike)) (f_bf_14 : bf[14]? = some (.int bswing)) (h1 : 0 ≤ a1.toInt ∧ a1.toInt < 12) : Met l yX0_slipOf zw_d_slipOf ({ frames := 1, cells := 0, slots := 0, locals := 23 }) (va_Pc [.ref bw, .int a1, .int a2, .int a3] (fun U => U.heap.size = sz ∧ va_P (dC, dI) vwCl [(bw, .inr (0, bf)), (tg, .inl (cT, 12, .inl tf))] U.heap ∧ va_K (dC, dI) vwCl [(cT, .int)] U ∧ va_D (fun _ => True) [(bw, .inr (0, bf)), (tg, .inl (cT, 12, .inl tf))])) (va_Qi (fun (r : Int32) (_ : Unit) => True) (fun _ t => va_P (dC, dI) vwCl [(bw, .inr (0, bf)), (tg, .inl (cT, 12, .inl tf))] t.heap ∧ va_K (dC, dI) vwCl [(cT, .int)] t ∧ va_D (va_A [(bw, .inr (0, bf)), (tg, .inl (cT, 12, .inl tf))] sz) [(bw, .inr (0, bf)), (tg, .inl (cT, 12, .inl tf))]) (va_A [(bw, .inr (0, bf)), (tg, .inl (cT, 12, .inl tf))] sz)) 0 0 (va_A [(bw, .inr (0, bf)), (tg, .inl (cT, 12, .inl tf))] sz) := by
  refine Met.ofW (cc := cX0_slipOf) (maxL := 6) (ret := (some .int)) (by decide) rfl ?_
  intro p e s m args below meth c s₁ B hml hv
  obtain ⟨rfl, hsz, hP, hK, hD0⟩ := hv
  have hx := B.exec
  have hb := B.bytes
  have hr := B.returns
  have hts := atoms_spec (ws := zw_d_slipOf) B.pre
  have hown : s.vm.findClass RX0 = some m.cls := findClass_of_methodNamed B.named
  have hlocks := B.notSynchronized
  subst hsz
  have hD := hD0.self (sz := s.heap.size)
  generalize hAe : va_A [(bw, .inr (0, bf)), (tg, .inl (cT, 12, .inl tf))] s.heap.size = A at hD ⊢
  have hA : ∀ q : Nat, s.heap.size ≤ q → A q := fun q h => by rw [← hAe]; exact Or.inr h
  have hS : va_S A s.heap s.heap [] := va_S.rf
  have hP : va_P (dC, dI) vwCl [(bw, .inr (0, bf)), (tg, .inl (cT, 12, .inl tf))] s.heap := hP
  have m_0 : (.constantLong RX0 91 (9) : Cond) ∈ zw_d_slipOf := List.mem_append_left _ (List.mem_of_getElem? (i := 1) rfl)
  have k_0 := hts _ m_0
  have m_1 : (.constantLong RX0 93 (10) : Cond) ∈ zw_d_slipOf := List.mem_append_left _ (List.mem_of_getElem? (i := 2) rfl)
  have k_1 := hts _ m_1
  have m_2 : (.fieldLink RX0 11 "BowWalk$Bow" "tight" "[I" : Cond) ∈ zw_d_slipOf := List.mem_append_left _ (List.mem_of_getElem? (i := 3) rfl)
  have k_2 := hts _ m_2
  have m_3 : (.methodLink RX0 95 yJ9_min_f86c9 : Cond) ∈ zw_d_slipOf := List.mem_append_left _ (List.mem_of_getElem? (i := 4) rfl)
  have k_3 := hts _ m_3
  have m_4 : (.static yJ9_min_f86c9 : Cond) ∈ zw_d_slipOf := List.mem_append_left _ (List.mem_of_getElem? (i := 5) rfl)
  have k_4 := hts _ m_4
  have m_5 : (.initialized RJ9 : Cond) ∈ zw_d_slipOf := List.mem_append_left _ (List.mem_of_getElem? (i := 6) rfl)
  have k_5 := hts _ m_5
  have g_d_minL : ∀ w ∈ zw_d_minL, w ∈ zw_d_slipOf := fun w h => List.mem_append_right _ (List.mem_append_left _ h)
  have i_X0 : ∀ w ∈ u_ws RX0 TX0 15, w ∈ zw_d_slipOf := fun w h => List.mem_append_right _ (List.mem_append_right _ (List.mem_append_left _ h))
  have lt_0 : (0 : Int32).toInt = 0 := by decide
  have hl := lv_entry ([.ref bw, .int a1, .int a2, .int a3]) (n := 6) (Nat.le_of_ble_eq_true rfl)
  rw [lg_entry_eq]
  generalize (lg_sl ([.ref bw, .int a1, .int a2, .int a3]) ++ List.replicate (6 - (lg_sl ([.ref bw, .int a1, .int a2, .int a3])).length) Slot.unset).toArray = ls at hl ⊢
  have hl : lv_has ls 6 [(0, .ref bw), (1, .int a1), (2, .int a2), (3, .int a3)] := hl
  refine lv_iload_n hx hb dX0_slipOf_0 rfl (lv_at hl 2 rfl) ?_
  refine lv_iload_n hx hb dX0_slipOf_1 rfl (lv_at hl 3 rfl) ?_
  refine lv_icmp_gt (tgt := 7) hx hb dX0_slipOf_2 (by decide) (fun c2 => ?_) (fun c2 => ?_)
  · have tc2 := q_gt c2
    refine lv_iload_n hx hb dX0_slipOf_7 rfl (lv_at hl 2 rfl) ?_
    refine lv_i2l hx hb dX0_slipOf_8 rfl ?_
    refine lv_topl (fun w_2 ew_2 => ?_)
    refine lv_iload_n hx hb dX0_slipOf_9 rfl (lv_at hl 3 rfl) ?_
    refine lv_i2l hx hb dX0_slipOf_10 rfl ?_
    refine lv_topl (fun w_4 ew_4 => ?_)
    refine lv_lsub hx hb dX0_slipOf_11 ?_
    refine lv_topl (fun w_5 ew_5 => ?_)
    refine lv_lstore (lv' := [(4, .long w_5), (0, .ref bw), (1, .int a1), (2, .int a2), (3, .int a3)]) hx hb dX0_slipOf_12 hl (by decide) rfl (fun ls hl => ?_)
    refine lv_lload hx hb dX0_slipOf_14 (lv_at hl 0 rfl) ?_
    refine lv_ldc2 (v := 9) hx hb hown k_0 dX0_slipOf_16 ?_
    refine lv_ladd hx hb dX0_slipOf_19 ?_
    refine lv_topl (fun w_6 ew_6 => ?_)
    refine lv_ldc2 (v := 10) hx hb hown k_1 dX0_slipOf_20 ?_
    refine lv_ldiv hx hb dX0_slipOf_23 (by decide) ?_
    refine lv_topl (fun w_7 ew_7 => ?_)
    refine lv_aload_n hx hb dX0_slipOf_24 rfl (lv_at hl 1 rfl) ?_
    refine va_get (D := (dC, dI)) (ci := 0) (v := .ref tg) (C := RX0) (T := TX0) (N := 15) hx hb hts i_X0 hown hK hP 0 rfl rfl 0 (by decide) k_2 (fun _ h9 => h9) f_bf_0 dX0_slipOf_25 ?_
    refine lv_iload_n hx hb dX0_slipOf_28 rfl (lv_at hl 2 rfl) ?_
    refine va_iald hx hb hK hP 1 0 rfl rfl (q_in (by omega) (by omega)) dX0_slipOf_29 ?_
    refine lv_topi (fun v_8 ev_8 => ?_)
    have uv_8 : v_8.toInt = (tf a1.toNatClampNeg).toInt := by rw [ev_8]
    refine lv_i2l hx hb dX0_slipOf_30 rfl ?_
    refine lv_topl (fun w_10 ew_10 => ?_)
    have hPc := hP.sub (ws' := []) [] rfl
    have hDc := hD.sub (ws' := []) [] (by decide) rfl
    have hKc := hK.sub (tys' := []) [] rfl
    have hFc := va_free (wc := []) hD hS hA [] rfl
    refine va_calll (va_runS (As := [.long w_7, .long w_10]) (rest := []) ⟨hx, hb, hml, hown, hts⟩ (d_minL l dC dI s.heap.size w_7 w_10) (va_cwS 2 hts (p1_gS m_3 m_4 m_5 g_d_minL gz_d_minL) rfl rfl rfl (by decide +kernel) ⟨by decide, by decide⟩) ⟨fun a U g mk q => by obtain ⟨q0, q1, qP, qK, qD⟩ := q; exact ⟨q0, q1, qP, va_K.moved (u := U) (U := U.calling g mk a) (Vm.Alike.refl U.vm) qK, qD⟩, fun U hU hW => ⟨rfl, by rw [hU], by rw [hU]; exact hPc, va_K.moved hW.alike hKc, hDc.weaken (fun _ _ _ _ => trivial)⟩⟩ rfl rfl hl.1 rfl (lv_room (Nat.le_of_ble_eq_true rfl)) dX0_slipOf_31 ⟨by decide, by decide⟩) hS (fun q _ h => hFc q h) hFc (fun r_11 u t H1 locs ht hvm hw hB hz1 hk1 hS => ?_)
    obtain ⟨hP1, hK1, hD1⟩ := hB
    rw [ht] at hP1
    obtain ⟨hP, hD⟩ := va_join (wr := [(bw, .inr (0, bf)), (tg, .inl (cT, 12, .inl tf))]) (w1 := []) hP hD [] [0, 1] rfl rfl (by decide) (by decide) hk1 hFc hP1 hD1
    generalize H1 = H at hP hS ⊢
    have hP : va_P (dC, dI) vwCl [(bw, .inr (0, bf)), (tg, .inl (cT, 12, .inl tf))] H := hP
    have hD : va_D A [(bw, .inr (0, bf)), (tg, .inl (cT, 12, .inl tf))] := hD
    try dsimp only at hw
    refine lv_l2i hx hb dX0_slipOf_34 rfl ?_
    refine lv_topi (fun v_13 ev_13 => ?_)
    have hP9 := hP.sub (ws' := [(bw, .inr (0, bf)), (tg, .inl (cT, 12, .inl tf))]) [0, 1] rfl
    have hD9 := hD.sub (ws' := [(bw, .inr (0, bf)), (tg, .inl (cT, 12, .inl tf))]) [0, 1] (by decide) rfl
    have hK9 := hK.sub (tys' := [(cT, .int)]) [0] rfl
    exact W.iret (v := v_13) hx hb hr (fun t ht hW => ⟨⟨v_13, (), rfl, trivial, by rw [ht]; exact hP9, va_K.moved hW.alike hK9, hD9⟩, hS.F ht⟩) hS.2.2 dX0_slipOf_35
  · have tc2 := q_leN c2
    refine lv_iconst (v := 0) hx hb dX0_slipOf_5 (by decide) ?_
    have hP9 := hP.sub (ws' := [(bw, .inr (0, bf)), (tg, .inl (cT, 12, .inl tf))]) [0, 1] rfl
    have hD9 := hD.sub (ws' := [(bw, .inr (0, bf)), (tg, .inl (cT, 12, .inl tf))]) [0, 1] (by decide) rfl
    have hK9 := hK.sub (tys' := [(cT, .int)]) [0] rfl
    exact W.iret (v := 0) hx hb hr (fun t ht hW => ⟨⟨0, (), rfl, trivial, by rw [ht]; exact hP9, va_K.moved hW.alike hK9, hD9⟩, hS.F ht⟩) hS.2.2 dX0_slipOf_6
def zo_d_slip : List Cond := [.code yX0_slip cX0_slip 8 (some .int), .fieldLink RX0 24 "BowWalk$Bow" "left" "I", .fieldLink RX0 30 "BowWalk$Bow" "slipped" "I", .fieldLink RX0 11 "BowWalk$Bow" "tight" "[I", .methodLink RX0 77 yX3_ask, .instanceMethod yX3_ask, .selects RX3 yX3_ask yX3_ask, .initialized RX3, .methodLink RX0 87 yX0_slipOf, .instanceMethod yX0_slipOf, .selects RX0 yX0_slipOf yX0_slipOf, .initialized RX0, .fieldLink RX0 17 "BowWalk$Bow" "ends" "[I", .fieldLink RX0 39 "BowWalk$Bow" "sides" "I"]
def zw_d_slip : List Cond := zo_d_slip ++ (zw_d_ask ++ (zw_d_slipOf ++ (wsX00 ++ [])))
theorem gz_d_slip : zw_d_slip.all goodWord = true := p1_ga (by decide +kernel) (p1_ga gz_d_ask (p1_ga gz_d_slipOf (p1_ga gk_X0 p1_g0)))
theorem iz_d_slip : ∀ w ∈ zw_d_slip, w ∈ lw_tbl := p1_ia (p1_all [784, 357, 362, 350, 769, 770, 771, 107, 785, 787, 27, 112, 352, 368] (by decide +kernel)) (p1_ia iz_d_ask (p1_ia iz_d_slipOf (p1_ia ik_X0 p1_i0)))
set_option maxHeartbeats 4000000 in
set_option maxRecDepth 100000 in
theorem d_slip (l : Launch) (dC : Nat → ClassId) (dI : Nat → Nat → Nat) (sz : Nat) (lw : Nat) (lf : List Value) (lc : Nat) (lb : Nat) (lk : Nat) (lus : Int32) (lro : Int32) (lun : Int32) (cC : ClassId) (cf : Nat → Int32) (cB : ClassId) (bf : Nat → Int32) (cK : ClassId) (kf : Nat → Int32) (bw : Nat) (bfs : List Value) (tg : Nat) (en : Nat) (bcrossings : Int32) (bleft : Int32) (bsteps : Int32) (bslipped : Int32) (bwalk : Int32) (bnextStep : Int32) (bsides : Int32) (blikes : Int32) (bsmooth : Int32) (bweight : Int32) (blength : Int32) (bstrike : Int32) (bswing : Int32) (cT : ClassId) (tf : Nat → Int32) (cE : ClassId) (ef : Nat → Int32) (a1 : Int32) (a2 : Int32) (f_lf_0 : lf[0]? = some (.ref lc)) (f_lf_1 : lf[1]? = some (.ref lb)) (f_lf_2 : lf[2]? = some (.ref lk)) (f_lf_3 : lf[3]? = some (.int lus)) (f_lf_4 : lf[4]? = some (.int lro)) (f_lf_5 : lf[5]? = some (.int lun)) (f_bfs_0 : bfs[0]? = some (.ref tg)) (f_bfs_1 : bfs[1]? = some (.ref en)) (f_bfs_2 : bfs[2]? = some (.int bcrossings)) (f_bfs_3 : bfs[3]? = some (.int bleft)) (f_bfs_4 : bfs[4]? = some (.int bsteps)) (f_bfs_5 : bfs[5]? = some (.int bslipped)) (f_bfs_6 : bfs[6]? = some (.int bwalk)) (f_bfs_7 : bfs[7]? = some (.int bnextStep)) (f_bfs_8 : bfs[8]? = some (.int bsides)) (f_bfs_9 : bfs[9]? = some (.int blikes)) (f_bfs_10 : bfs[10]? = some (.int bsmooth)) (f_bfs_11 : bfs[11]? = some (.int bweight)) (f_bfs_12 : bfs[12]? = some (.int blength)) (f_bfs_13 : bfs[13]? = some (.int bstrike)) (f_bfs_14 : bfs[14]? = some (.int bswing)) (l_bfs : bfs.length = 15) (hr_bf : ∀ k, k < 6 → 0 ≤ ((bf k)).toInt ∧ ((bf k)).toInt ≤ 600) (h2 : 0 ≤ lro.toInt ∧ lro.toInt ≤ 6) (h3 : 0 ≤ bleft.toInt ∧ bleft.toInt ≤ 12) : Met l yX0_slip zw_d_slip ({ frames := 2, cells := 0, slots := 0, locals := 49 }) (va_Pc [.ref bw, .ref lw, .int a1, .int a2] (fun U => U.heap.size = sz ∧ va_P (dC, dI) vwCl [(lw, .inr (3, lf)), (lc, .inl (cC, 600, .inl cf)), (lb, .inl (cB, 6, .inl bf)), (lk, .inl (cK, 60, .inl kf)), (bw, .inr (0, bfs)), (tg, .inl (cT, 12, .inl tf)), (en, .inl (cE, 2, .inl ef))] U.heap ∧ va_K (dC, dI) vwCl [(cC, .int), (cB, .int), (cK, .int), (cT, .int), (cE, .int)] U ∧ va_D (fun _ => True) [(lw, .inr (3, lf)), (lc, .inl (cC, 600, .inl cf)), (lb, .inl (cB, 6, .inl bf)), (lk, .inl (cK, 60, .inl kf)), (bw, .inr (0, bfs)), (tg, .inl (cT, 12, .inl tf)), (en, .inl (cE, 2, .inl ef))])) (va_Qi (fun (r : Int32) (_ : Unit) => True) (fun _ t => ∃ (kg : Nat → Int32) (bg : List Value) (olf : Int32) (osl : Int32) (tg2 : Nat → Int32) (eg2 : Nat → Int32), lf[0]? = some (.ref lc) ∧ lf[1]? = some (.ref lb) ∧ lf[2]? = some (.ref lk) ∧ lf[3]? = some (.int lus) ∧ lf[4]? = some (.int lro) ∧ lf[5]? = some (.int lun) ∧ bg.length = 15 ∧ bg[0]? = some (.ref tg) ∧ bg[1]? = some (.ref en) ∧ bg[2]? = some (.int bcrossings) ∧ bg[3]? = some (.int olf) ∧ bg[4]? = some (.int bsteps) ∧ bg[5]? = some (.int osl) ∧ bg[6]? = some (.int bwalk) ∧ bg[7]? = some (.int bnextStep) ∧ bg[8]? = some (.int bsides) ∧ bg[9]? = some (.int blikes) ∧ bg[10]? = some (.int bsmooth) ∧ bg[11]? = some (.int bweight) ∧ bg[12]? = some (.int blength) ∧ bg[13]? = some (.int bstrike) ∧ bg[14]? = some (.int bswing) ∧ (∀ k, k < 6 → 0 ≤ ((bf k)).toInt ∧ ((bf k)).toInt ≤ 600) ∧ (0 ≤ olf.toInt ∧ olf.toInt ≤ bleft.toInt) ∧ va_P (dC, dI) vwCl [(lw, .inr (3, lf)), (lc, .inl (cC, 600, .inl cf)), (lb, .inl (cB, 6, .inl bf)), (lk, .inl (cK, 60, .inl kg)), (bw, .inr (0, bg)), (tg, .inl (cT, 12, .inl tg2)), (en, .inl (cE, 2, .inl eg2))] t.heap ∧ va_K (dC, dI) vwCl [] t ∧ va_D (va_A [(lw, .inr (3, lf)), (lc, .inl (cC, 600, .inl cf)), (lb, .inl (cB, 6, .inl bf)), (lk, .inl (cK, 60, .inl kf)), (bw, .inr (0, bfs)), (tg, .inl (cT, 12, .inl tf)), (en, .inl (cE, 2, .inl ef))] sz) [(lw, .inr (3, lf)), (lc, .inl (cC, 600, .inl cf)), (lb, .inl (cB, 6, .inl bf)), (lk, .inl (cK, 60, .inl kg)), (bw, .inr (0, bg)), (tg, .inl (cT, 12, .inl tg2)), (en, .inl (cE, 2, .inl eg2))]) (va_A [(lw, .inr (3, lf)), (lc, .inl (cC, 600, .inl cf)), (lb, .inl (cB, 6, .inl bf)), (lk, .inl (cK, 60, .inl kf)), (bw, .inr (0, bfs)), (tg, .inl (cT, 12, .inl tf)), (en, .inl (cE, 2, .inl ef))] sz)) 0 0 (va_A [(lw, .inr (3, lf)), (lc, .inl (cC, 600, .inl cf)), (lb, .inl (cB, 6, .inl bf)), (lk, .inl (cK, 60, .inl kf)), (bw, .inr (0, bfs)), (tg, .inl (cT, 12, .inl tf)), (en, .inl (cE, 2, .inl ef))] sz) := by
  refine Met.ofW (cc := cX0_slip) (maxL := 8) (ret := (some .int)) (by decide) rfl ?_
  intro p e s m args below meth c s₁ B hml hv
  obtain ⟨rfl, hsz, hP, hK, hD0⟩ := hv
  have hx := B.exec
  have hb := B.bytes
  have hr := B.returns
  have hts := atoms_spec (ws := zw_d_slip) B.pre
  have hown : s.vm.findClass RX0 = some m.cls := findClass_of_methodNamed B.named
  have hlocks := B.notSynchronized
  subst hsz
  have hD := hD0.self (sz := s.heap.size)
  generalize hAe : va_A [(lw, .inr (3, lf)), (lc, .inl (cC, 600, .inl cf)), (lb, .inl (cB, 6, .inl bf)), (lk, .inl (cK, 60, .inl kf)), (bw, .inr (0, bfs)), (tg, .inl (cT, 12, .inl tf)), (en, .inl (cE, 2, .inl ef))] s.heap.size = A at hD ⊢
  have hA : ∀ q : Nat, s.heap.size ≤ q → A q := fun q h => by rw [← hAe]; exact Or.inr h
  have hS : va_S A s.heap s.heap [] := va_S.rf
  have hP : va_P (dC, dI) vwCl [(lw, .inr (3, lf)), (lc, .inl (cC, 600, .inl cf)), (lb, .inl (cB, 6, .inl bf)), (lk, .inl (cK, 60, .inl kf)), (bw, .inr (0, bfs)), (tg, .inl (cT, 12, .inl tf)), (en, .inl (cE, 2, .inl ef))] s.heap := hP
  have m_0 : (.fieldLink RX0 24 "BowWalk$Bow" "left" "I" : Cond) ∈ zw_d_slip := List.mem_append_left _ (List.mem_of_getElem? (i := 1) rfl)
  have k_0 := hts _ m_0
  have m_1 : (.fieldLink RX0 30 "BowWalk$Bow" "slipped" "I" : Cond) ∈ zw_d_slip := List.mem_append_left _ (List.mem_of_getElem? (i := 2) rfl)
  have k_1 := hts _ m_1
  have m_2 : (.fieldLink RX0 11 "BowWalk$Bow" "tight" "[I" : Cond) ∈ zw_d_slip := List.mem_append_left _ (List.mem_of_getElem? (i := 3) rfl)
  have k_2 := hts _ m_2
  have m_3 : (.methodLink RX0 77 yX3_ask : Cond) ∈ zw_d_slip := List.mem_append_left _ (List.mem_of_getElem? (i := 4) rfl)
  have k_3 := hts _ m_3
  have m_4 : (.instanceMethod yX3_ask : Cond) ∈ zw_d_slip := List.mem_append_left _ (List.mem_of_getElem? (i := 5) rfl)
  have k_4 := hts _ m_4
  have m_5 : (.selects RX3 yX3_ask yX3_ask : Cond) ∈ zw_d_slip := List.mem_append_left _ (List.mem_of_getElem? (i := 6) rfl)
  have k_5 := hts _ m_5
  have m_6 : (.initialized RX3 : Cond) ∈ zw_d_slip := List.mem_append_left _ (List.mem_of_getElem? (i := 7) rfl)
  have k_6 := hts _ m_6
  have m_7 : (.methodLink RX0 87 yX0_slipOf : Cond) ∈ zw_d_slip := List.mem_append_left _ (List.mem_of_getElem? (i := 8) rfl)
  have k_7 := hts _ m_7
  have m_8 : (.instanceMethod yX0_slipOf : Cond) ∈ zw_d_slip := List.mem_append_left _ (List.mem_of_getElem? (i := 9) rfl)
  have k_8 := hts _ m_8
  have m_9 : (.selects RX0 yX0_slipOf yX0_slipOf : Cond) ∈ zw_d_slip := List.mem_append_left _ (List.mem_of_getElem? (i := 10) rfl)
  have k_9 := hts _ m_9
  have m_10 : (.initialized RX0 : Cond) ∈ zw_d_slip := List.mem_append_left _ (List.mem_of_getElem? (i := 11) rfl)
  have k_10 := hts _ m_10
  have m_11 : (.fieldLink RX0 17 "BowWalk$Bow" "ends" "[I" : Cond) ∈ zw_d_slip := List.mem_append_left _ (List.mem_of_getElem? (i := 12) rfl)
  have k_11 := hts _ m_11
  have m_12 : (.fieldLink RX0 39 "BowWalk$Bow" "sides" "I" : Cond) ∈ zw_d_slip := List.mem_append_left _ (List.mem_of_getElem? (i := 13) rfl)
  have k_12 := hts _ m_12
  have g_d_ask : ∀ w ∈ zw_d_ask, w ∈ zw_d_slip := fun w h => List.mem_append_right _ (List.mem_append_left _ h)
  have g_d_slipOf : ∀ w ∈ zw_d_slipOf, w ∈ zw_d_slip := fun w h => List.mem_append_right _ (List.mem_append_right _ (List.mem_append_left _ h))
  have i_X0 : ∀ w ∈ u_ws RX0 TX0 15, w ∈ zw_d_slip := fun w h => List.mem_append_right _ (List.mem_append_right _ (List.mem_append_right _ (List.mem_append_left _ h)))
  have lt_m1 : ((-1) : Int32).toInt = -1 := by decide
  have lt_0 : (0 : Int32).toInt = 0 := by decide
  have lt_1 : (1 : Int32).toInt = 1 := by decide
  have lt_2 : (2 : Int32).toInt = 2 := by decide
  have lt_4 : (4 : Int32).toInt = 4 := by decide
  have hl := lv_entry ([.ref bw, .ref lw, .int a1, .int a2]) (n := 8) (Nat.le_of_ble_eq_true rfl)
  rw [lg_entry_eq]
  generalize (lg_sl ([.ref bw, .ref lw, .int a1, .int a2]) ++ List.replicate (8 - (lg_sl ([.ref bw, .ref lw, .int a1, .int a2])).length) Slot.unset).toArray = ls at hl ⊢
  have hl : lv_has ls 8 [(0, .ref bw), (1, .ref lw), (2, .int a1), (3, .int a2)] := hl
  refine lv_iconst (v := 0) hx hb dX0_slip_0 (by decide) ?_
  refine lv_istore (lv' := [(4, .int 0), (0, .ref bw), (1, .ref lw), (2, .int a1), (3, .int a2)]) hx hb dX0_slip_1 hl (by decide) rfl (fun ls hl => ?_)
  refine lv_iload_n hx hb dX0_slip_3 rfl (lv_at hl 4 rfl) ?_
  refine lv_istore (lv' := [(5, .int a2), (4, .int 0), (0, .ref bw), (1, .ref lw), (2, .int a1), (3, .int a2)]) hx hb dX0_slip_4 hl (by decide) rfl (fun ls hl => ?_)
  refine lv_aload_n hx hb dX0_slip_6 rfl (lv_at hl 2 rfl) ?_
  refine va_get (D := (dC, dI)) (ci := 0) (v := .int bleft) (C := RX0) (T := TX0) (N := 15) hx hb hts i_X0 hown hK hP 4 rfl rfl 3 (by decide) k_0 (fun _ h9 => h9) f_bfs_3 dX0_slip_7 ?_
  refine lv_iconst (v := 1) hx hb dX0_slip_10 (by decide) ?_
  refine lv_isub hx hb dX0_slip_11 ?_
  refine lv_topi (fun v_1 ev_1 => ?_)
  try have tv_1 := q_sub ev_1 (by omega) (by omega)
  refine lv_istore (lv' := [(6, .int v_1), (5, .int a2), (4, .int 0), (0, .ref bw), (1, .ref lw), (2, .int a1), (3, .int a2)]) hx hb dX0_slip_12 hl (by decide) rfl (fun ls hl => ?_)
  have key14 : ∀ (fu : Nat) (al : Int32) (pu : Int32) (ii : Int32) (rz_tg : Nat → Int32) (rz_en : Nat → Int32) (rz_lk : Nat → Int32) (H : Heap) (locs : List Loc) (ls : Array Slot) (hfu : ii.toInt + 1 ≤ (fu : Int)) (hp0 : -1 ≤ ii.toInt ∧ ii.toInt < bleft.toInt), va_P (dC, dI) vwCl [(lw, .inr (3, lf)), (lc, .inl (cC, 600, .inl cf)), (lb, .inl (cB, 6, .inl bf)), (lk, .inl (cK, 60, .inl rz_lk)), (bw, .inr (0, bfs)), (tg, .inl (cT, 12, .inl rz_tg)), (en, .inl (cE, 2, .inl rz_en))] H → va_D A [(lw, .inr (3, lf)), (lc, .inl (cC, 600, .inl cf)), (lb, .inl (cB, 6, .inl bf)), (lk, .inl (cK, 60, .inl rz_lk)), (bw, .inr (0, bfs)), (tg, .inl (cT, 12, .inl rz_tg)), (en, .inl (cE, 2, .inl rz_en))] → va_S A s.heap H locs → lv_has ls 8 [(6, .int ii), (5, .int pu), (4, .int al), (0, .ref bw), (1, .ref lw), (2, .int a1), (3, .int a2)] → W p l e (headSpec zw_d_slip { frames := 2, cells := 0, slots := 0, locals := 49 }).room s m ([.ref bw, .ref lw, .int a1, .int a2] : List Value).toArray below meth c H locs 0 0 (MQ below (va_Qi (fun (r : Int32) (_ : Unit) => True) (fun _ t => ∃ (kg : Nat → Int32) (bg : List Value) (olf : Int32) (osl : Int32) (tg2 : Nat → Int32) (eg2 : Nat → Int32), lf[0]? = some (.ref lc) ∧ lf[1]? = some (.ref lb) ∧ lf[2]? = some (.ref lk) ∧ lf[3]? = some (.int lus) ∧ lf[4]? = some (.int lro) ∧ lf[5]? = some (.int lun) ∧ bg.length = 15 ∧ bg[0]? = some (.ref tg) ∧ bg[1]? = some (.ref en) ∧ bg[2]? = some (.int bcrossings) ∧ bg[3]? = some (.int olf) ∧ bg[4]? = some (.int bsteps) ∧ bg[5]? = some (.int osl) ∧ bg[6]? = some (.int bwalk) ∧ bg[7]? = some (.int bnextStep) ∧ bg[8]? = some (.int bsides) ∧ bg[9]? = some (.int blikes) ∧ bg[10]? = some (.int bsmooth) ∧ bg[11]? = some (.int bweight) ∧ bg[12]? = some (.int blength) ∧ bg[13]? = some (.int bstrike) ∧ bg[14]? = some (.int bswing) ∧ (∀ k, k < 6 → 0 ≤ ((bf k)).toInt ∧ ((bf k)).toInt ≤ 600) ∧ (0 ≤ olf.toInt ∧ olf.toInt ≤ bleft.toInt) ∧ va_P (dC, dI) vwCl [(lw, .inr (3, lf)), (lc, .inl (cC, 600, .inl cf)), (lb, .inl (cB, 6, .inl bf)), (lk, .inl (cK, 60, .inl kg)), (bw, .inr (0, bg)), (tg, .inl (cT, 12, .inl tg2)), (en, .inl (cE, 2, .inl eg2))] t.heap ∧ va_K (dC, dI) vwCl [] t ∧ va_D A [(lw, .inr (3, lf)), (lc, .inl (cC, 600, .inl cf)), (lb, .inl (cB, 6, .inl bf)), (lk, .inl (cK, 60, .inl kg)), (bw, .inr (0, bg)), (tg, .inl (cT, 12, .inl tg2)), (en, .inl (cE, 2, .inl eg2))]) A) ([.ref bw, .ref lw, .int a1, .int a2] : List Value).toArray s 0 0 A) (F0 m 14 ls []) := by
    intro fu
    induction fu with
    | zero =>
      intro al pu ii rz_tg rz_en rz_lk H locs ls hfu hp0 hP hD hS hl
      refine lv_iload hx hb dX0_slip_14 (lv_at hl 0 rfl) ?_
      refine lv_if_lt (tgt := 97) hx hb dX0_slip_16 (by decide) (fun c16 => ?_) (fun c16 => ?_)
      · have tc16 := q_lt c16
        have key97 : ∀ (fu : Nat) (fz_bw : List Value) (lfv : Int32) (H : Heap) (locs : List Loc) (ls : Array Slot) (hfu : lfv.toInt ≤ (fu : Int)) (hp0 : 0 ≤ lfv.toInt ∧ lfv.toInt ≤ bleft.toInt) (l_fz_bw : fz_bw.length = 15) (f_fz_bw_0 : fz_bw[0]? = some (.ref tg)) (f_fz_bw_1 : fz_bw[1]? = some (.ref en)) (f_fz_bw_2 : fz_bw[2]? = some (.int bcrossings)) (f_fz_bw_3 : fz_bw[3]? = some (.int lfv)) (f_fz_bw_4 : fz_bw[4]? = some (.int bsteps)) (f_fz_bw_5 : fz_bw[5]? = some (.int bslipped)) (f_fz_bw_6 : fz_bw[6]? = some (.int bwalk)) (f_fz_bw_7 : fz_bw[7]? = some (.int bnextStep)) (f_fz_bw_8 : fz_bw[8]? = some (.int bsides)) (f_fz_bw_9 : fz_bw[9]? = some (.int blikes)) (f_fz_bw_10 : fz_bw[10]? = some (.int bsmooth)) (f_fz_bw_11 : fz_bw[11]? = some (.int bweight)) (f_fz_bw_12 : fz_bw[12]? = some (.int blength)) (f_fz_bw_13 : fz_bw[13]? = some (.int bstrike)) (f_fz_bw_14 : fz_bw[14]? = some (.int bswing)), va_P (dC, dI) vwCl [(lw, .inr (3, lf)), (lc, .inl (cC, 600, .inl cf)), (lb, .inl (cB, 6, .inl bf)), (lk, .inl (cK, 60, .inl rz_lk)), (bw, .inr (0, fz_bw)), (tg, .inl (cT, 12, .inl rz_tg)), (en, .inl (cE, 2, .inl rz_en))] H → va_D A [(lw, .inr (3, lf)), (lc, .inl (cC, 600, .inl cf)), (lb, .inl (cB, 6, .inl bf)), (lk, .inl (cK, 60, .inl rz_lk)), (bw, .inr (0, fz_bw)), (tg, .inl (cT, 12, .inl rz_tg)), (en, .inl (cE, 2, .inl rz_en))] → va_S A s.heap H locs → lv_has ls 8 [(6, .int ii), (5, .int pu), (4, .int al), (0, .ref bw), (1, .ref lw), (2, .int a1), (3, .int a2)] → W p l e (headSpec zw_d_slip { frames := 2, cells := 0, slots := 0, locals := 49 }).room s m ([.ref bw, .ref lw, .int a1, .int a2] : List Value).toArray below meth c H locs 0 0 (MQ below (va_Qi (fun (r : Int32) (_ : Unit) => True) (fun _ t => ∃ (kg : Nat → Int32) (bg : List Value) (olf : Int32) (osl : Int32) (tg2 : Nat → Int32) (eg2 : Nat → Int32), lf[0]? = some (.ref lc) ∧ lf[1]? = some (.ref lb) ∧ lf[2]? = some (.ref lk) ∧ lf[3]? = some (.int lus) ∧ lf[4]? = some (.int lro) ∧ lf[5]? = some (.int lun) ∧ bg.length = 15 ∧ bg[0]? = some (.ref tg) ∧ bg[1]? = some (.ref en) ∧ bg[2]? = some (.int bcrossings) ∧ bg[3]? = some (.int olf) ∧ bg[4]? = some (.int bsteps) ∧ bg[5]? = some (.int osl) ∧ bg[6]? = some (.int bwalk) ∧ bg[7]? = some (.int bnextStep) ∧ bg[8]? = some (.int bsides) ∧ bg[9]? = some (.int blikes) ∧ bg[10]? = some (.int bsmooth) ∧ bg[11]? = some (.int bweight) ∧ bg[12]? = some (.int blength) ∧ bg[13]? = some (.int bstrike) ∧ bg[14]? = some (.int bswing) ∧ (∀ k, k < 6 → 0 ≤ ((bf k)).toInt ∧ ((bf k)).toInt ≤ 600) ∧ (0 ≤ olf.toInt ∧ olf.toInt ≤ bleft.toInt) ∧ va_P (dC, dI) vwCl [(lw, .inr (3, lf)), (lc, .inl (cC, 600, .inl cf)), (lb, .inl (cB, 6, .inl bf)), (lk, .inl (cK, 60, .inl kg)), (bw, .inr (0, bg)), (tg, .inl (cT, 12, .inl tg2)), (en, .inl (cE, 2, .inl eg2))] t.heap ∧ va_K (dC, dI) vwCl [] t ∧ va_D A [(lw, .inr (3, lf)), (lc, .inl (cC, 600, .inl cf)), (lb, .inl (cB, 6, .inl bf)), (lk, .inl (cK, 60, .inl kg)), (bw, .inr (0, bg)), (tg, .inl (cT, 12, .inl tg2)), (en, .inl (cE, 2, .inl eg2))]) A) ([.ref bw, .ref lw, .int a1, .int a2] : List Value).toArray s 0 0 A) (F0 m 97 ls []) := by
          intro fu
          induction fu with
          | zero =>
            intro fz_bw lfv H locs ls hfu hp0 l_fz_bw f_fz_bw_0 f_fz_bw_1 f_fz_bw_2 f_fz_bw_3 f_fz_bw_4 f_fz_bw_5 f_fz_bw_6 f_fz_bw_7 f_fz_bw_8 f_fz_bw_9 f_fz_bw_10 f_fz_bw_11 f_fz_bw_12 f_fz_bw_13 f_fz_bw_14 hP hD hS hl
            refine lv_aload_n hx hb dX0_slip_97 rfl (lv_at hl 3 rfl) ?_
            refine va_get (D := (dC, dI)) (ci := 0) (v := .int lfv) (C := RX0) (T := TX0) (N := 15) hx hb hts i_X0 hown hK hP 4 rfl rfl 3 (by decide) k_0 (fun _ h9 => h9) f_fz_bw_3 dX0_slip_98 ?_
            refine lv_if_le (tgt := 131) hx hb dX0_slip_101 (by decide) (fun c101 => ?_) (fun c101 => ?_)
            · have tc101 := q_le c101
              refine lv_aload_n hx hb dX0_slip_131 rfl (lv_at hl 3 rfl) ?_
              refine lv_dup hx hb dX0_slip_132 rfl ?_
              refine va_get (D := (dC, dI)) (ci := 0) (v := .int bslipped) (C := RX0) (T := TX0) (N := 15) hx hb hts i_X0 hown hK hP 4 rfl rfl 5 (by decide) k_1 (fun _ h9 => h9) f_fz_bw_5 dX0_slip_133 ?_
              refine lv_iload hx hb dX0_slip_136 (lv_at hl 2 rfl) ?_
              refine lv_iadd hx hb dX0_slip_138 ?_
              refine lv_topi (fun v_2 ev_2 => ?_)
              try have tv_2 := q_add ev_2 (by omega) (by omega)
              refine va_put (D := (dC, dI)) (ci := 0) (v := .int v_2) (ty := .int) (C := RX0) (T := TX0) (N := 15) hx hb hts i_X0 tyX0 tyX0_ok nmX0 hown hK hP hD hS 4 rfl rfl 5 (by decide) k_1 (fun _ h9 => h9) rfl (by decide +kernel) rfl rfl (by rw [l_fz_bw]; decide) dX0_slip_139 (fun H locs hP hD hS => ?_)
              have hP : va_P (dC, dI) vwCl [(lw, .inr (3, lf)), (lc, .inl (cC, 600, .inl cf)), (lb, .inl (cB, 6, .inl bf)), (lk, .inl (cK, 60, .inl rz_lk)), (bw, .inr (0, (fz_bw.set 5 (.int v_2)))), (tg, .inl (cT, 12, .inl rz_tg)), (en, .inl (cE, 2, .inl rz_en))] H := hP
              have hD : va_D A [(lw, .inr (3, lf)), (lc, .inl (cC, 600, .inl cf)), (lb, .inl (cB, 6, .inl bf)), (lk, .inl (cK, 60, .inl rz_lk)), (bw, .inr (0, (fz_bw.set 5 (.int v_2)))), (tg, .inl (cT, 12, .inl rz_tg)), (en, .inl (cE, 2, .inl rz_en))] := hD
              generalize efs_3 : (fz_bw.set 5 (.int v_2)) = fs_3 at hP hD
              have lfs_3 : fs_3.length = 15 := by rw [← efs_3, List.length_set]; exact l_fz_bw
              have ffs_3_0 : fs_3[0]? = some (.ref tg) := by rw [← efs_3]; exact p1_sn (by decide) f_fz_bw_0
              have ffs_3_1 : fs_3[1]? = some (.ref en) := by rw [← efs_3]; exact p1_sn (by decide) f_fz_bw_1
              have ffs_3_2 : fs_3[2]? = some (.int bcrossings) := by rw [← efs_3]; exact p1_sn (by decide) f_fz_bw_2
              have ffs_3_3 : fs_3[3]? = some (.int lfv) := by rw [← efs_3]; exact p1_sn (by decide) f_fz_bw_3
              have ffs_3_4 : fs_3[4]? = some (.int bsteps) := by rw [← efs_3]; exact p1_sn (by decide) f_fz_bw_4
              have ffs_3_6 : fs_3[6]? = some (.int bwalk) := by rw [← efs_3]; exact p1_sn (by decide) f_fz_bw_6
              have ffs_3_7 : fs_3[7]? = some (.int bnextStep) := by rw [← efs_3]; exact p1_sn (by decide) f_fz_bw_7
              have ffs_3_8 : fs_3[8]? = some (.int bsides) := by rw [← efs_3]; exact p1_sn (by decide) f_fz_bw_8
              have ffs_3_9 : fs_3[9]? = some (.int blikes) := by rw [← efs_3]; exact p1_sn (by decide) f_fz_bw_9
              have ffs_3_10 : fs_3[10]? = some (.int bsmooth) := by rw [← efs_3]; exact p1_sn (by decide) f_fz_bw_10
              have ffs_3_11 : fs_3[11]? = some (.int bweight) := by rw [← efs_3]; exact p1_sn (by decide) f_fz_bw_11
              have ffs_3_12 : fs_3[12]? = some (.int blength) := by rw [← efs_3]; exact p1_sn (by decide) f_fz_bw_12
              have ffs_3_13 : fs_3[13]? = some (.int bstrike) := by rw [← efs_3]; exact p1_sn (by decide) f_fz_bw_13
              have ffs_3_14 : fs_3[14]? = some (.int bswing) := by rw [← efs_3]; exact p1_sn (by decide) f_fz_bw_14
              have ffs_3_5 : fs_3[5]? = some (.int v_2) := by rw [← efs_3]; exact p1_sa l_fz_bw (by decide)
              refine lv_iload hx hb dX0_slip_142 (lv_at hl 2 rfl) ?_
              have hP9 := hP.sub (ws' := [(lw, .inr (3, lf)), (lc, .inl (cC, 600, .inl cf)), (lb, .inl (cB, 6, .inl bf)), (lk, .inl (cK, 60, .inl rz_lk)), (bw, .inr (0, fs_3)), (tg, .inl (cT, 12, .inl rz_tg)), (en, .inl (cE, 2, .inl rz_en))]) [0, 1, 2, 3, 4, 5, 6] rfl
              have hD9 := hD.sub (ws' := [(lw, .inr (3, lf)), (lc, .inl (cC, 600, .inl cf)), (lb, .inl (cB, 6, .inl bf)), (lk, .inl (cK, 60, .inl rz_lk)), (bw, .inr (0, fs_3)), (tg, .inl (cT, 12, .inl rz_tg)), (en, .inl (cE, 2, .inl rz_en))]) [0, 1, 2, 3, 4, 5, 6] (by decide) rfl
              have hK9 := hK.sub (tys' := []) [] rfl
              exact W.iret (v := al) hx hb hr (fun t ht hW => ⟨⟨al, (), rfl, trivial, rz_lk, fs_3, lfv, v_2, rz_tg, rz_en, f_lf_0, f_lf_1, f_lf_2, f_lf_3, f_lf_4, f_lf_5, lfs_3, ffs_3_0, ffs_3_1, ffs_3_2, ffs_3_3, ffs_3_4, ffs_3_5, ffs_3_6, ffs_3_7, ffs_3_8, ffs_3_9, ffs_3_10, ffs_3_11, ffs_3_12, ffs_3_13, ffs_3_14, hr_bf, (by first | rfl | omega | exact ⟨by omega, by omega⟩), by rw [ht]; exact hP9, va_K.moved hW.alike hK9, hD9⟩, hS.F ht⟩) hS.2.2 dX0_slip_144
            · have tc101 := q_gtN c101
              refine lv_aload_n hx hb dX0_slip_104 rfl (lv_at hl 3 rfl) ?_
              refine va_get (D := (dC, dI)) (ci := 0) (v := .ref tg) (C := RX0) (T := TX0) (N := 15) hx hb hts i_X0 hown hK hP 4 rfl rfl 0 (by decide) k_2 (fun _ h9 => h9) f_fz_bw_0 dX0_slip_105 ?_
              refine lv_aload_n hx hb dX0_slip_108 rfl (lv_at hl 3 rfl) ?_
              refine va_get (D := (dC, dI)) (ci := 0) (v := .int lfv) (C := RX0) (T := TX0) (N := 15) hx hb hts i_X0 hown hK hP 4 rfl rfl 3 (by decide) k_0 (fun _ h9 => h9) f_fz_bw_3 dX0_slip_109 ?_
              refine lv_iconst (v := 1) hx hb dX0_slip_112 (by decide) ?_
              refine lv_isub hx hb dX0_slip_113 ?_
              refine lv_topi (fun v_4 ev_4 => ?_)
              try have tv_4 := q_sub ev_4 (by omega) (by omega)
              refine va_iald hx hb hK hP 5 3 rfl rfl (q_in (by omega) (by omega)) dX0_slip_114 ?_
              refine lv_topi (fun v_5 ev_5 => ?_)
              have uv_5 : v_5.toInt = (rz_tg v_4.toNatClampNeg).toInt := by rw [ev_5]
              refine lv_if_ne (tgt := 131) hx hb dX0_slip_115 (by decide) (fun c115 => ?_) (fun c115 => ?_)
              · have tc115 := q_ne c115
                refine lv_aload_n hx hb dX0_slip_131 rfl (lv_at hl 3 rfl) ?_
                refine lv_dup hx hb dX0_slip_132 rfl ?_
                refine va_get (D := (dC, dI)) (ci := 0) (v := .int bslipped) (C := RX0) (T := TX0) (N := 15) hx hb hts i_X0 hown hK hP 4 rfl rfl 5 (by decide) k_1 (fun _ h9 => h9) f_fz_bw_5 dX0_slip_133 ?_
                refine lv_iload hx hb dX0_slip_136 (lv_at hl 2 rfl) ?_
                refine lv_iadd hx hb dX0_slip_138 ?_
                refine lv_topi (fun v_6 ev_6 => ?_)
                try have tv_6 := q_add ev_6 (by omega) (by omega)
                refine va_put (D := (dC, dI)) (ci := 0) (v := .int v_6) (ty := .int) (C := RX0) (T := TX0) (N := 15) hx hb hts i_X0 tyX0 tyX0_ok nmX0 hown hK hP hD hS 4 rfl rfl 5 (by decide) k_1 (fun _ h9 => h9) rfl (by decide +kernel) rfl rfl (by rw [l_fz_bw]; decide) dX0_slip_139 (fun H locs hP hD hS => ?_)
                have hP : va_P (dC, dI) vwCl [(lw, .inr (3, lf)), (lc, .inl (cC, 600, .inl cf)), (lb, .inl (cB, 6, .inl bf)), (lk, .inl (cK, 60, .inl rz_lk)), (bw, .inr (0, (fz_bw.set 5 (.int v_6)))), (tg, .inl (cT, 12, .inl rz_tg)), (en, .inl (cE, 2, .inl rz_en))] H := hP
                have hD : va_D A [(lw, .inr (3, lf)), (lc, .inl (cC, 600, .inl cf)), (lb, .inl (cB, 6, .inl bf)), (lk, .inl (cK, 60, .inl rz_lk)), (bw, .inr (0, (fz_bw.set 5 (.int v_6)))), (tg, .inl (cT, 12, .inl rz_tg)), (en, .inl (cE, 2, .inl rz_en))] := hD
                generalize efs_7 : (fz_bw.set 5 (.int v_6)) = fs_7 at hP hD
                have lfs_7 : fs_7.length = 15 := by rw [← efs_7, List.length_set]; exact l_fz_bw
                have ffs_7_0 : fs_7[0]? = some (.ref tg) := by rw [← efs_7]; exact p1_sn (by decide) f_fz_bw_0
                have ffs_7_1 : fs_7[1]? = some (.ref en) := by rw [← efs_7]; exact p1_sn (by decide) f_fz_bw_1
                have ffs_7_2 : fs_7[2]? = some (.int bcrossings) := by rw [← efs_7]; exact p1_sn (by decide) f_fz_bw_2
                have ffs_7_3 : fs_7[3]? = some (.int lfv) := by rw [← efs_7]; exact p1_sn (by decide) f_fz_bw_3
                have ffs_7_4 : fs_7[4]? = some (.int bsteps) := by rw [← efs_7]; exact p1_sn (by decide) f_fz_bw_4
                have ffs_7_6 : fs_7[6]? = some (.int bwalk) := by rw [← efs_7]; exact p1_sn (by decide) f_fz_bw_6
                have ffs_7_7 : fs_7[7]? = some (.int bnextStep) := by rw [← efs_7]; exact p1_sn (by decide) f_fz_bw_7
                have ffs_7_8 : fs_7[8]? = some (.int bsides) := by rw [← efs_7]; exact p1_sn (by decide) f_fz_bw_8
                have ffs_7_9 : fs_7[9]? = some (.int blikes) := by rw [← efs_7]; exact p1_sn (by decide) f_fz_bw_9
                have ffs_7_10 : fs_7[10]? = some (.int bsmooth) := by rw [← efs_7]; exact p1_sn (by decide) f_fz_bw_10
                have ffs_7_11 : fs_7[11]? = some (.int bweight) := by rw [← efs_7]; exact p1_sn (by decide) f_fz_bw_11
                have ffs_7_12 : fs_7[12]? = some (.int blength) := by rw [← efs_7]; exact p1_sn (by decide) f_fz_bw_12
                have ffs_7_13 : fs_7[13]? = some (.int bstrike) := by rw [← efs_7]; exact p1_sn (by decide) f_fz_bw_13
                have ffs_7_14 : fs_7[14]? = some (.int bswing) := by rw [← efs_7]; exact p1_sn (by decide) f_fz_bw_14
                have ffs_7_5 : fs_7[5]? = some (.int v_6) := by rw [← efs_7]; exact p1_sa l_fz_bw (by decide)
                refine lv_iload hx hb dX0_slip_142 (lv_at hl 2 rfl) ?_
                have hP9 := hP.sub (ws' := [(lw, .inr (3, lf)), (lc, .inl (cC, 600, .inl cf)), (lb, .inl (cB, 6, .inl bf)), (lk, .inl (cK, 60, .inl rz_lk)), (bw, .inr (0, fs_7)), (tg, .inl (cT, 12, .inl rz_tg)), (en, .inl (cE, 2, .inl rz_en))]) [0, 1, 2, 3, 4, 5, 6] rfl
                have hD9 := hD.sub (ws' := [(lw, .inr (3, lf)), (lc, .inl (cC, 600, .inl cf)), (lb, .inl (cB, 6, .inl bf)), (lk, .inl (cK, 60, .inl rz_lk)), (bw, .inr (0, fs_7)), (tg, .inl (cT, 12, .inl rz_tg)), (en, .inl (cE, 2, .inl rz_en))]) [0, 1, 2, 3, 4, 5, 6] (by decide) rfl
                have hK9 := hK.sub (tys' := []) [] rfl
                exact W.iret (v := al) hx hb hr (fun t ht hW => ⟨⟨al, (), rfl, trivial, rz_lk, fs_7, lfv, v_6, rz_tg, rz_en, f_lf_0, f_lf_1, f_lf_2, f_lf_3, f_lf_4, f_lf_5, lfs_7, ffs_7_0, ffs_7_1, ffs_7_2, ffs_7_3, ffs_7_4, ffs_7_5, ffs_7_6, ffs_7_7, ffs_7_8, ffs_7_9, ffs_7_10, ffs_7_11, ffs_7_12, ffs_7_13, ffs_7_14, hr_bf, (by first | rfl | omega | exact ⟨by omega, by omega⟩), by rw [ht]; exact hP9, va_K.moved hW.alike hK9, hD9⟩, hS.F ht⟩) hS.2.2 dX0_slip_144
              · have tc115 := q_eqN c115
                refine lv_aload_n hx hb dX0_slip_118 rfl (lv_at hl 3 rfl) ?_
                refine lv_dup hx hb dX0_slip_119 rfl ?_
                refine va_get (D := (dC, dI)) (ci := 0) (v := .int lfv) (C := RX0) (T := TX0) (N := 15) hx hb hts i_X0 hown hK hP 4 rfl rfl 3 (by decide) k_0 (fun _ h9 => h9) f_fz_bw_3 dX0_slip_120 ?_
                refine lv_iconst (v := 1) hx hb dX0_slip_123 (by decide) ?_
                refine lv_isub hx hb dX0_slip_124 ?_
                refine lv_topi (fun v_8 ev_8 => ?_)
                try have tv_8 := q_sub ev_8 (by omega) (by omega)
                refine va_put (D := (dC, dI)) (ci := 0) (v := .int v_8) (ty := .int) (C := RX0) (T := TX0) (N := 15) hx hb hts i_X0 tyX0 tyX0_ok nmX0 hown hK hP hD hS 4 rfl rfl 3 (by decide) k_0 (fun _ h9 => h9) rfl (by decide +kernel) rfl rfl (by rw [l_fz_bw]; decide) dX0_slip_125 (fun H locs hP hD hS => ?_)
                have hP : va_P (dC, dI) vwCl [(lw, .inr (3, lf)), (lc, .inl (cC, 600, .inl cf)), (lb, .inl (cB, 6, .inl bf)), (lk, .inl (cK, 60, .inl rz_lk)), (bw, .inr (0, (fz_bw.set 3 (.int v_8)))), (tg, .inl (cT, 12, .inl rz_tg)), (en, .inl (cE, 2, .inl rz_en))] H := hP
                have hD : va_D A [(lw, .inr (3, lf)), (lc, .inl (cC, 600, .inl cf)), (lb, .inl (cB, 6, .inl bf)), (lk, .inl (cK, 60, .inl rz_lk)), (bw, .inr (0, (fz_bw.set 3 (.int v_8)))), (tg, .inl (cT, 12, .inl rz_tg)), (en, .inl (cE, 2, .inl rz_en))] := hD
                generalize efs_9 : (fz_bw.set 3 (.int v_8)) = fs_9 at hP hD
                have lfs_9 : fs_9.length = 15 := by rw [← efs_9, List.length_set]; exact l_fz_bw
                have ffs_9_0 : fs_9[0]? = some (.ref tg) := by rw [← efs_9]; exact p1_sn (by decide) f_fz_bw_0
                have ffs_9_1 : fs_9[1]? = some (.ref en) := by rw [← efs_9]; exact p1_sn (by decide) f_fz_bw_1
                have ffs_9_2 : fs_9[2]? = some (.int bcrossings) := by rw [← efs_9]; exact p1_sn (by decide) f_fz_bw_2
                have ffs_9_4 : fs_9[4]? = some (.int bsteps) := by rw [← efs_9]; exact p1_sn (by decide) f_fz_bw_4
                have ffs_9_5 : fs_9[5]? = some (.int bslipped) := by rw [← efs_9]; exact p1_sn (by decide) f_fz_bw_5
                have ffs_9_6 : fs_9[6]? = some (.int bwalk) := by rw [← efs_9]; exact p1_sn (by decide) f_fz_bw_6
                have ffs_9_7 : fs_9[7]? = some (.int bnextStep) := by rw [← efs_9]; exact p1_sn (by decide) f_fz_bw_7
                have ffs_9_8 : fs_9[8]? = some (.int bsides) := by rw [← efs_9]; exact p1_sn (by decide) f_fz_bw_8
                have ffs_9_9 : fs_9[9]? = some (.int blikes) := by rw [← efs_9]; exact p1_sn (by decide) f_fz_bw_9
                have ffs_9_10 : fs_9[10]? = some (.int bsmooth) := by rw [← efs_9]; exact p1_sn (by decide) f_fz_bw_10
                have ffs_9_11 : fs_9[11]? = some (.int bweight) := by rw [← efs_9]; exact p1_sn (by decide) f_fz_bw_11
                have ffs_9_12 : fs_9[12]? = some (.int blength) := by rw [← efs_9]; exact p1_sn (by decide) f_fz_bw_12
                have ffs_9_13 : fs_9[13]? = some (.int bstrike) := by rw [← efs_9]; exact p1_sn (by decide) f_fz_bw_13
                have ffs_9_14 : fs_9[14]? = some (.int bswing) := by rw [← efs_9]; exact p1_sn (by decide) f_fz_bw_14
                have ffs_9_3 : fs_9[3]? = some (.int v_8) := by rw [← efs_9]; exact p1_sa l_fz_bw (by decide)
                refine lv_goto (tgt := 97) hx hb dX0_slip_128 (by decide) ?_
                exfalso; omega
          | succ fu ih97 =>
            intro fz_bw lfv H locs ls hfu hp0 l_fz_bw f_fz_bw_0 f_fz_bw_1 f_fz_bw_2 f_fz_bw_3 f_fz_bw_4 f_fz_bw_5 f_fz_bw_6 f_fz_bw_7 f_fz_bw_8 f_fz_bw_9 f_fz_bw_10 f_fz_bw_11 f_fz_bw_12 f_fz_bw_13 f_fz_bw_14 hP hD hS hl
            refine lv_aload_n hx hb dX0_slip_97 rfl (lv_at hl 3 rfl) ?_
            refine va_get (D := (dC, dI)) (ci := 0) (v := .int lfv) (C := RX0) (T := TX0) (N := 15) hx hb hts i_X0 hown hK hP 4 rfl rfl 3 (by decide) k_0 (fun _ h9 => h9) f_fz_bw_3 dX0_slip_98 ?_
            refine lv_if_le (tgt := 131) hx hb dX0_slip_101 (by decide) (fun c101 => ?_) (fun c101 => ?_)
            · have tc101 := q_le c101
              refine lv_aload_n hx hb dX0_slip_131 rfl (lv_at hl 3 rfl) ?_
              refine lv_dup hx hb dX0_slip_132 rfl ?_
              refine va_get (D := (dC, dI)) (ci := 0) (v := .int bslipped) (C := RX0) (T := TX0) (N := 15) hx hb hts i_X0 hown hK hP 4 rfl rfl 5 (by decide) k_1 (fun _ h9 => h9) f_fz_bw_5 dX0_slip_133 ?_
              refine lv_iload hx hb dX0_slip_136 (lv_at hl 2 rfl) ?_
              refine lv_iadd hx hb dX0_slip_138 ?_
              refine lv_topi (fun v_10 ev_10 => ?_)
              try have tv_10 := q_add ev_10 (by omega) (by omega)
              refine va_put (D := (dC, dI)) (ci := 0) (v := .int v_10) (ty := .int) (C := RX0) (T := TX0) (N := 15) hx hb hts i_X0 tyX0 tyX0_ok nmX0 hown hK hP hD hS 4 rfl rfl 5 (by decide) k_1 (fun _ h9 => h9) rfl (by decide +kernel) rfl rfl (by rw [l_fz_bw]; decide) dX0_slip_139 (fun H locs hP hD hS => ?_)
              have hP : va_P (dC, dI) vwCl [(lw, .inr (3, lf)), (lc, .inl (cC, 600, .inl cf)), (lb, .inl (cB, 6, .inl bf)), (lk, .inl (cK, 60, .inl rz_lk)), (bw, .inr (0, (fz_bw.set 5 (.int v_10)))), (tg, .inl (cT, 12, .inl rz_tg)), (en, .inl (cE, 2, .inl rz_en))] H := hP
              have hD : va_D A [(lw, .inr (3, lf)), (lc, .inl (cC, 600, .inl cf)), (lb, .inl (cB, 6, .inl bf)), (lk, .inl (cK, 60, .inl rz_lk)), (bw, .inr (0, (fz_bw.set 5 (.int v_10)))), (tg, .inl (cT, 12, .inl rz_tg)), (en, .inl (cE, 2, .inl rz_en))] := hD
              generalize efs_11 : (fz_bw.set 5 (.int v_10)) = fs_11 at hP hD
              have lfs_11 : fs_11.length = 15 := by rw [← efs_11, List.length_set]; exact l_fz_bw
              have ffs_11_0 : fs_11[0]? = some (.ref tg) := by rw [← efs_11]; exact p1_sn (by decide) f_fz_bw_0
              have ffs_11_1 : fs_11[1]? = some (.ref en) := by rw [← efs_11]; exact p1_sn (by decide) f_fz_bw_1
              have ffs_11_2 : fs_11[2]? = some (.int bcrossings) := by rw [← efs_11]; exact p1_sn (by decide) f_fz_bw_2
              have ffs_11_3 : fs_11[3]? = some (.int lfv) := by rw [← efs_11]; exact p1_sn (by decide) f_fz_bw_3
              have ffs_11_4 : fs_11[4]? = some (.int bsteps) := by rw [← efs_11]; exact p1_sn (by decide) f_fz_bw_4
              have ffs_11_6 : fs_11[6]? = some (.int bwalk) := by rw [← efs_11]; exact p1_sn (by decide) f_fz_bw_6
              have ffs_11_7 : fs_11[7]? = some (.int bnextStep) := by rw [← efs_11]; exact p1_sn (by decide) f_fz_bw_7
              have ffs_11_8 : fs_11[8]? = some (.int bsides) := by rw [← efs_11]; exact p1_sn (by decide) f_fz_bw_8
              have ffs_11_9 : fs_11[9]? = some (.int blikes) := by rw [← efs_11]; exact p1_sn (by decide) f_fz_bw_9
              have ffs_11_10 : fs_11[10]? = some (.int bsmooth) := by rw [← efs_11]; exact p1_sn (by decide) f_fz_bw_10
              have ffs_11_11 : fs_11[11]? = some (.int bweight) := by rw [← efs_11]; exact p1_sn (by decide) f_fz_bw_11
              have ffs_11_12 : fs_11[12]? = some (.int blength) := by rw [← efs_11]; exact p1_sn (by decide) f_fz_bw_12
              have ffs_11_13 : fs_11[13]? = some (.int bstrike) := by rw [← efs_11]; exact p1_sn (by decide) f_fz_bw_13
              have ffs_11_14 : fs_11[14]? = some (.int bswing) := by rw [← efs_11]; exact p1_sn (by decide) f_fz_bw_14
              have ffs_11_5 : fs_11[5]? = some (.int v_10) := by rw [← efs_11]; exact p1_sa l_fz_bw (by decide)
              refine lv_iload hx hb dX0_slip_142 (lv_at hl 2 rfl) ?_
              have hP9 := hP.sub (ws' := [(lw, .inr (3, lf)), (lc, .inl (cC, 600, .inl cf)), (lb, .inl (cB, 6, .inl bf)), (lk, .inl (cK, 60, .inl rz_lk)), (bw, .inr (0, fs_11)), (tg, .inl (cT, 12, .inl rz_tg)), (en, .inl (cE, 2, .inl rz_en))]) [0, 1, 2, 3, 4, 5, 6] rfl
              have hD9 := hD.sub (ws' := [(lw, .inr (3, lf)), (lc, .inl (cC, 600, .inl cf)), (lb, .inl (cB, 6, .inl bf)), (lk, .inl (cK, 60, .inl rz_lk)), (bw, .inr (0, fs_11)), (tg, .inl (cT, 12, .inl rz_tg)), (en, .inl (cE, 2, .inl rz_en))]) [0, 1, 2, 3, 4, 5, 6] (by decide) rfl
              have hK9 := hK.sub (tys' := []) [] rfl
              exact W.iret (v := al) hx hb hr (fun t ht hW => ⟨⟨al, (), rfl, trivial, rz_lk, fs_11, lfv, v_10, rz_tg, rz_en, f_lf_0, f_lf_1, f_lf_2, f_lf_3, f_lf_4, f_lf_5, lfs_11, ffs_11_0, ffs_11_1, ffs_11_2, ffs_11_3, ffs_11_4, ffs_11_5, ffs_11_6, ffs_11_7, ffs_11_8, ffs_11_9, ffs_11_10, ffs_11_11, ffs_11_12, ffs_11_13, ffs_11_14, hr_bf, (by first | rfl | omega | exact ⟨by omega, by omega⟩), by rw [ht]; exact hP9, va_K.moved hW.alike hK9, hD9⟩, hS.F ht⟩) hS.2.2 dX0_slip_144
            · have tc101 := q_gtN c101
              refine lv_aload_n hx hb dX0_slip_104 rfl (lv_at hl 3 rfl) ?_
              refine va_get (D := (dC, dI)) (ci := 0) (v := .ref tg) (C := RX0) (T := TX0) (N := 15) hx hb hts i_X0 hown hK hP 4 rfl rfl 0 (by decide) k_2 (fun _ h9 => h9) f_fz_bw_0 dX0_slip_105 ?_
              refine lv_aload_n hx hb dX0_slip_108 rfl (lv_at hl 3 rfl) ?_
              refine va_get (D := (dC, dI)) (ci := 0) (v := .int lfv) (C := RX0) (T := TX0) (N := 15) hx hb hts i_X0 hown hK hP 4 rfl rfl 3 (by decide) k_0 (fun _ h9 => h9) f_fz_bw_3 dX0_slip_109 ?_
              refine lv_iconst (v := 1) hx hb dX0_slip_112 (by decide) ?_
              refine lv_isub hx hb dX0_slip_113 ?_
              refine lv_topi (fun v_12 ev_12 => ?_)
              try have tv_12 := q_sub ev_12 (by omega) (by omega)
              refine va_iald hx hb hK hP 5 3 rfl rfl (q_in (by omega) (by omega)) dX0_slip_114 ?_
              refine lv_topi (fun v_13 ev_13 => ?_)
              have uv_13 : v_13.toInt = (rz_tg v_12.toNatClampNeg).toInt := by rw [ev_13]
              refine lv_if_ne (tgt := 131) hx hb dX0_slip_115 (by decide) (fun c115 => ?_) (fun c115 => ?_)
              · have tc115 := q_ne c115
                refine lv_aload_n hx hb dX0_slip_131 rfl (lv_at hl 3 rfl) ?_
                refine lv_dup hx hb dX0_slip_132 rfl ?_
                refine va_get (D := (dC, dI)) (ci := 0) (v := .int bslipped) (C := RX0) (T := TX0) (N := 15) hx hb hts i_X0 hown hK hP 4 rfl rfl 5 (by decide) k_1 (fun _ h9 => h9) f_fz_bw_5 dX0_slip_133 ?_
                refine lv_iload hx hb dX0_slip_136 (lv_at hl 2 rfl) ?_
                refine lv_iadd hx hb dX0_slip_138 ?_
                refine lv_topi (fun v_14 ev_14 => ?_)
                try have tv_14 := q_add ev_14 (by omega) (by omega)
                refine va_put (D := (dC, dI)) (ci := 0) (v := .int v_14) (ty := .int) (C := RX0) (T := TX0) (N := 15) hx hb hts i_X0 tyX0 tyX0_ok nmX0 hown hK hP hD hS 4 rfl rfl 5 (by decide) k_1 (fun _ h9 => h9) rfl (by decide +kernel) rfl rfl (by rw [l_fz_bw]; decide) dX0_slip_139 (fun H locs hP hD hS => ?_)
                have hP : va_P (dC, dI) vwCl [(lw, .inr (3, lf)), (lc, .inl (cC, 600, .inl cf)), (lb, .inl (cB, 6, .inl bf)), (lk, .inl (cK, 60, .inl rz_lk)), (bw, .inr (0, (fz_bw.set 5 (.int v_14)))), (tg, .inl (cT, 12, .inl rz_tg)), (en, .inl (cE, 2, .inl rz_en))] H := hP
                have hD : va_D A [(lw, .inr (3, lf)), (lc, .inl (cC, 600, .inl cf)), (lb, .inl (cB, 6, .inl bf)), (lk, .inl (cK, 60, .inl rz_lk)), (bw, .inr (0, (fz_bw.set 5 (.int v_14)))), (tg, .inl (cT, 12, .inl rz_tg)), (en, .inl (cE, 2, .inl rz_en))] := hD
                generalize efs_15 : (fz_bw.set 5 (.int v_14)) = fs_15 at hP hD
                have lfs_15 : fs_15.length = 15 := by rw [← efs_15, List.length_set]; exact l_fz_bw
                have ffs_15_0 : fs_15[0]? = some (.ref tg) := by rw [← efs_15]; exact p1_sn (by decide) f_fz_bw_0
                have ffs_15_1 : fs_15[1]? = some (.ref en) := by rw [← efs_15]; exact p1_sn (by decide) f_fz_bw_1
                have ffs_15_2 : fs_15[2]? = some (.int bcrossings) := by rw [← efs_15]; exact p1_sn (by decide) f_fz_bw_2
                have ffs_15_3 : fs_15[3]? = some (.int lfv) := by rw [← efs_15]; exact p1_sn (by decide) f_fz_bw_3
                have ffs_15_4 : fs_15[4]? = some (.int bsteps) := by rw [← efs_15]; exact p1_sn (by decide) f_fz_bw_4
                have ffs_15_6 : fs_15[6]? = some (.int bwalk) := by rw [← efs_15]; exact p1_sn (by decide) f_fz_bw_6
                have ffs_15_7 : fs_15[7]? = some (.int bnextStep) := by rw [← efs_15]; exact p1_sn (by decide) f_fz_bw_7
                have ffs_15_8 : fs_15[8]? = some (.int bsides) := by rw [← efs_15]; exact p1_sn (by decide) f_fz_bw_8
                have ffs_15_9 : fs_15[9]? = some (.int blikes) := by rw [← efs_15]; exact p1_sn (by decide) f_fz_bw_9
                have ffs_15_10 : fs_15[10]? = some (.int bsmooth) := by rw [← efs_15]; exact p1_sn (by decide) f_fz_bw_10
                have ffs_15_11 : fs_15[11]? = some (.int bweight) := by rw [← efs_15]; exact p1_sn (by decide) f_fz_bw_11
                have ffs_15_12 : fs_15[12]? = some (.int blength) := by rw [← efs_15]; exact p1_sn (by decide) f_fz_bw_12
                have ffs_15_13 : fs_15[13]? = some (.int bstrike) := by rw [← efs_15]; exact p1_sn (by decide) f_fz_bw_13
                have ffs_15_14 : fs_15[14]? = some (.int bswing) := by rw [← efs_15]; exact p1_sn (by decide) f_fz_bw_14
                have ffs_15_5 : fs_15[5]? = some (.int v_14) := by rw [← efs_15]; exact p1_sa l_fz_bw (by decide)
                refine lv_iload hx hb dX0_slip_142 (lv_at hl 2 rfl) ?_
                have hP9 := hP.sub (ws' := [(lw, .inr (3, lf)), (lc, .inl (cC, 600, .inl cf)), (lb, .inl (cB, 6, .inl bf)), (lk, .inl (cK, 60, .inl rz_lk)), (bw, .inr (0, fs_15)), (tg, .inl (cT, 12, .inl rz_tg)), (en, .inl (cE, 2, .inl rz_en))]) [0, 1, 2, 3, 4, 5, 6] rfl
                have hD9 := hD.sub (ws' := [(lw, .inr (3, lf)), (lc, .inl (cC, 600, .inl cf)), (lb, .inl (cB, 6, .inl bf)), (lk, .inl (cK, 60, .inl rz_lk)), (bw, .inr (0, fs_15)), (tg, .inl (cT, 12, .inl rz_tg)), (en, .inl (cE, 2, .inl rz_en))]) [0, 1, 2, 3, 4, 5, 6] (by decide) rfl
                have hK9 := hK.sub (tys' := []) [] rfl
                exact W.iret (v := al) hx hb hr (fun t ht hW => ⟨⟨al, (), rfl, trivial, rz_lk, fs_15, lfv, v_14, rz_tg, rz_en, f_lf_0, f_lf_1, f_lf_2, f_lf_3, f_lf_4, f_lf_5, lfs_15, ffs_15_0, ffs_15_1, ffs_15_2, ffs_15_3, ffs_15_4, ffs_15_5, ffs_15_6, ffs_15_7, ffs_15_8, ffs_15_9, ffs_15_10, ffs_15_11, ffs_15_12, ffs_15_13, ffs_15_14, hr_bf, (by first | rfl | omega | exact ⟨by omega, by omega⟩), by rw [ht]; exact hP9, va_K.moved hW.alike hK9, hD9⟩, hS.F ht⟩) hS.2.2 dX0_slip_144
              · have tc115 := q_eqN c115
                refine lv_aload_n hx hb dX0_slip_118 rfl (lv_at hl 3 rfl) ?_
                refine lv_dup hx hb dX0_slip_119 rfl ?_
                refine va_get (D := (dC, dI)) (ci := 0) (v := .int lfv) (C := RX0) (T := TX0) (N := 15) hx hb hts i_X0 hown hK hP 4 rfl rfl 3 (by decide) k_0 (fun _ h9 => h9) f_fz_bw_3 dX0_slip_120 ?_
                refine lv_iconst (v := 1) hx hb dX0_slip_123 (by decide) ?_
                refine lv_isub hx hb dX0_slip_124 ?_
                refine lv_topi (fun v_16 ev_16 => ?_)
                try have tv_16 := q_sub ev_16 (by omega) (by omega)
                refine va_put (D := (dC, dI)) (ci := 0) (v := .int v_16) (ty := .int) (C := RX0) (T := TX0) (N := 15) hx hb hts i_X0 tyX0 tyX0_ok nmX0 hown hK hP hD hS 4 rfl rfl 3 (by decide) k_0 (fun _ h9 => h9) rfl (by decide +kernel) rfl rfl (by rw [l_fz_bw]; decide) dX0_slip_125 (fun H locs hP hD hS => ?_)
                have hP : va_P (dC, dI) vwCl [(lw, .inr (3, lf)), (lc, .inl (cC, 600, .inl cf)), (lb, .inl (cB, 6, .inl bf)), (lk, .inl (cK, 60, .inl rz_lk)), (bw, .inr (0, (fz_bw.set 3 (.int v_16)))), (tg, .inl (cT, 12, .inl rz_tg)), (en, .inl (cE, 2, .inl rz_en))] H := hP
                have hD : va_D A [(lw, .inr (3, lf)), (lc, .inl (cC, 600, .inl cf)), (lb, .inl (cB, 6, .inl bf)), (lk, .inl (cK, 60, .inl rz_lk)), (bw, .inr (0, (fz_bw.set 3 (.int v_16)))), (tg, .inl (cT, 12, .inl rz_tg)), (en, .inl (cE, 2, .inl rz_en))] := hD
                generalize efs_17 : (fz_bw.set 3 (.int v_16)) = fs_17 at hP hD
                have lfs_17 : fs_17.length = 15 := by rw [← efs_17, List.length_set]; exact l_fz_bw
                have ffs_17_0 : fs_17[0]? = some (.ref tg) := by rw [← efs_17]; exact p1_sn (by decide) f_fz_bw_0
                have ffs_17_1 : fs_17[1]? = some (.ref en) := by rw [← efs_17]; exact p1_sn (by decide) f_fz_bw_1
                have ffs_17_2 : fs_17[2]? = some (.int bcrossings) := by rw [← efs_17]; exact p1_sn (by decide) f_fz_bw_2
                have ffs_17_4 : fs_17[4]? = some (.int bsteps) := by rw [← efs_17]; exact p1_sn (by decide) f_fz_bw_4
                have ffs_17_5 : fs_17[5]? = some (.int bslipped) := by rw [← efs_17]; exact p1_sn (by decide) f_fz_bw_5
                have ffs_17_6 : fs_17[6]? = some (.int bwalk) := by rw [← efs_17]; exact p1_sn (by decide) f_fz_bw_6
                have ffs_17_7 : fs_17[7]? = some (.int bnextStep) := by rw [← efs_17]; exact p1_sn (by decide) f_fz_bw_7
                have ffs_17_8 : fs_17[8]? = some (.int bsides) := by rw [← efs_17]; exact p1_sn (by decide) f_fz_bw_8
                have ffs_17_9 : fs_17[9]? = some (.int blikes) := by rw [← efs_17]; exact p1_sn (by decide) f_fz_bw_9
                have ffs_17_10 : fs_17[10]? = some (.int bsmooth) := by rw [← efs_17]; exact p1_sn (by decide) f_fz_bw_10
                have ffs_17_11 : fs_17[11]? = some (.int bweight) := by rw [← efs_17]; exact p1_sn (by decide) f_fz_bw_11
                have ffs_17_12 : fs_17[12]? = some (.int blength) := by rw [← efs_17]; exact p1_sn (by decide) f_fz_bw_12
                have ffs_17_13 : fs_17[13]? = some (.int bstrike) := by rw [← efs_17]; exact p1_sn (by decide) f_fz_bw_13
                have ffs_17_14 : fs_17[14]? = some (.int bswing) := by rw [← efs_17]; exact p1_sn (by decide) f_fz_bw_14
                have ffs_17_3 : fs_17[3]? = some (.int v_16) := by rw [← efs_17]; exact p1_sa l_fz_bw (by decide)
                refine lv_goto (tgt := 97) hx hb dX0_slip_128 (by decide) ?_
                exact ih97 fs_17 v_16 _ _ _ (by omega) (by omega) lfs_17 ffs_17_0 ffs_17_1 ffs_17_2 ffs_17_3 ffs_17_4 ffs_17_5 ffs_17_6 ffs_17_7 ffs_17_8 ffs_17_9 ffs_17_10 ffs_17_11 ffs_17_12 ffs_17_13 ffs_17_14 (hP.sub [0, 1, 2, 3, 4, 5, 6] rfl) (hD.sub [0, 1, 2, 3, 4, 5, 6] (by decide) rfl) hS (lv_sub hl [0, 1, 2, 3, 4, 5, 6] rfl)
        exact key97 12 bfs bleft _ _ _ (by omega) (by omega) l_bfs f_bfs_0 f_bfs_1 f_bfs_2 f_bfs_3 f_bfs_4 f_bfs_5 f_bfs_6 f_bfs_7 f_bfs_8 f_bfs_9 f_bfs_10 f_bfs_11 f_bfs_12 f_bfs_13 f_bfs_14 hP hD hS (lv_sub hl [0, 1, 2, 3, 4, 5, 6] rfl)
      · have tc16 := q_geN c16
        refine lv_aload_n hx hb dX0_slip_19 rfl (lv_at hl 3 rfl) ?_
        refine lv_iload hx hb dX0_slip_20 (lv_at hl 0 rfl) ?_
        refine lv_iload hx hb dX0_slip_22 (lv_at hl 1 rfl) ?_
        refine lv_aload_n hx hb dX0_slip_24 rfl (lv_at hl 4 rfl) ?_
        refine lv_iconst (v := 2) hx hb dX0_slip_25 (by decide) ?_
        refine lv_iload_n hx hb dX0_slip_26 rfl (lv_at hl 5 rfl) ?_
        refine lv_imul hx hb dX0_slip_27 ?_
        refine lv_topi (fun v_18 ev_18 => ?_)
        try have tv_18 := q_mul ev_18 (by omega) (by omega)
        refine lv_aload_n hx hb dX0_slip_28 rfl (lv_at hl 3 rfl) ?_
        refine lv_iload hx hb dX0_slip_29 (lv_at hl 0 rfl) ?_
        have hPc := hP.sub (ws' := [(lw, .inr (3, lf)), (lc, .inl (cC, 600, .inl cf)), (lb, .inl (cB, 6, .inl bf)), (lk, .inl (cK, 60, .inl rz_lk)), (bw, .inr (0, bfs)), (tg, .inl (cT, 12, .inl rz_tg)), (en, .inl (cE, 2, .inl rz_en))]) [0, 1, 2, 3, 4, 5, 6] rfl
        have hDc := hD.sub (ws' := [(lw, .inr (3, lf)), (lc, .inl (cC, 600, .inl cf)), (lb, .inl (cB, 6, .inl bf)), (lk, .inl (cK, 60, .inl rz_lk)), (bw, .inr (0, bfs)), (tg, .inl (cT, 12, .inl rz_tg)), (en, .inl (cE, 2, .inl rz_en))]) [0, 1, 2, 3, 4, 5, 6] (by decide) rfl
        have hKc := hK.sub (tys' := [(cC, .int), (cB, .int), (cK, .int), (cT, .int), (cE, .int)]) [0, 1, 2, 3, 4] rfl
        have hFc := va_free (wc := [(lw, .inr (3, lf)), (lc, .inl (cC, 600, .inl cf)), (lb, .inl (cB, 6, .inl bf)), (lk, .inl (cK, 60, .inl rz_lk)), (bw, .inr (0, bfs)), (tg, .inl (cT, 12, .inl rz_tg)), (en, .inl (cE, 2, .inl rz_en))]) hD hS hA [0, 1, 2, 3, 4, 5, 6] rfl
        refine va_calli (va_runV (As := [.int v_18, .ref bw, .int ii]) (rest := [.int pu, .int ii, .ref bw]) ⟨hx, hb, hml, hown, hts⟩ (d_ask l dC dI H.size lw lf lc lb lk lus lro lun cC cf cB bf cK rz_lk bw bfs tg en bcrossings bleft bsteps bslipped bwalk bnextStep bsides blikes bsmooth bweight blength bstrike bswing cT rz_tg cE rz_en v_18 ii f_lf_0 f_lf_1 f_lf_2 f_lf_3 f_lf_4 f_lf_5 f_bfs_0 f_bfs_1 f_bfs_2 f_bfs_3 f_bfs_4 f_bfs_5 f_bfs_6 f_bfs_7 f_bfs_8 f_bfs_9 f_bfs_10 f_bfs_11 f_bfs_12 f_bfs_13 f_bfs_14 hr_bf ((by omega)) ((by omega))) (cwV 3 hts (p1_gV m_3 m_4 m_5 m_6 g_d_ask gz_d_ask) rfl rfl rfl (by decide +kernel) ⟨by decide, by decide⟩) ⟨fun a U g mk q => by obtain ⟨q0, q1, qP, qK, qD⟩ := q; exact ⟨q0, q1, qP, va_K.moved (u := U) (U := U.calling g mk a) (Vm.Alike.refl U.vm) qK, qD⟩, va_recv hKc hPc (ci := 3) (q0 := 0) rfl rfl, fun U hU hW => ⟨rfl, by rw [hU], by rw [hU]; exact hPc, va_K.moved hW.alike hKc, hDc.weaken (fun _ _ _ _ => trivial)⟩⟩ rfl rfl hl.1 rfl (lv_room (Nat.le_of_ble_eq_true rfl)) dX0_slip_31 ⟨by decide, by decide⟩) hS (fun q _ h => hFc q h) hFc (fun r_19 u t H1 locs ht hvm hw hB hz1 hk1 hS => ?_)
        obtain ⟨kg_20, z_21, z_22, z_23, z_24, z_25, z_26, z_27, z_28, z_29, z_30, z_31, z_32, z_33, z_34, z_35, z_36, z_37, z_38, z_39, z_40, z_41, z_42, hP1, hK1, hD1⟩ := hB
        rw [ht] at hP1
        obtain ⟨hP, hD⟩ := va_join (wr := []) (w1 := [(lw, .inr (3, lf)), (lc, .inl (cC, 600, .inl cf)), (lb, .inl (cB, 6, .inl bf)), (lk, .inl (cK, 60, .inl kg_20)), (bw, .inr (0, bfs)), (tg, .inl (cT, 12, .inl rz_tg)), (en, .inl (cE, 2, .inl rz_en))]) hP hD [0, 1, 2, 3, 4, 5, 6] [] rfl rfl (by decide) (by decide) hk1 hFc hP1 hD1
        generalize H1 = H at hP hS ⊢
        have hP : va_P (dC, dI) vwCl [(lw, .inr (3, lf)), (lc, .inl (cC, 600, .inl cf)), (lb, .inl (cB, 6, .inl bf)), (lk, .inl (cK, 60, .inl kg_20)), (bw, .inr (0, bfs)), (tg, .inl (cT, 12, .inl rz_tg)), (en, .inl (cE, 2, .inl rz_en))] H := hP
        have hD : va_D A [(lw, .inr (3, lf)), (lc, .inl (cC, 600, .inl cf)), (lb, .inl (cB, 6, .inl bf)), (lk, .inl (cK, 60, .inl kg_20)), (bw, .inr (0, bfs)), (tg, .inl (cT, 12, .inl rz_tg)), (en, .inl (cE, 2, .inl rz_en))] := hD
        try dsimp only at hw
        have hw_43 := hw
        have hPc := hP.sub (ws' := [(bw, .inr (0, bfs)), (tg, .inl (cT, 12, .inl rz_tg))]) [4, 5] rfl
        have hDc := hD.sub (ws' := [(bw, .inr (0, bfs)), (tg, .inl (cT, 12, .inl rz_tg))]) [4, 5] (by decide) rfl
        have hKc := hK.sub (tys' := [(cT, .int)]) [3] rfl
        have hFc := va_free (wc := [(bw, .inr (0, bfs)), (tg, .inl (cT, 12, .inl rz_tg))]) hD hS hA [4, 5] rfl
        refine va_calli (va_runV (As := [.int ii, .int pu, .int r_19]) (rest := []) ⟨hx, hb, hml, hown, hts⟩ (d_slipOf l dC dI H.size bw bfs tg en bcrossings bleft bsteps bslipped bwalk bnextStep bsides blikes bsmooth bweight blength bstrike bswing cT rz_tg ii pu r_19 z_27 z_28 z_29 z_30 z_31 z_32 z_33 z_34 z_35 z_36 z_37 z_38 z_39 z_40 z_41 ((by omega))) (cwV 3 hts (p1_gV m_7 m_8 m_9 m_10 g_d_slipOf gz_d_slipOf) rfl rfl rfl (by decide +kernel) ⟨by decide, by decide⟩) ⟨fun a U g mk q => by obtain ⟨q0, q1, qP, qK, qD⟩ := q; exact ⟨q0, q1, qP, va_K.moved (u := U) (U := U.calling g mk a) (Vm.Alike.refl U.vm) qK, qD⟩, va_recv hKc hPc (ci := 0) (q0 := 0) rfl rfl, fun U hU hW => ⟨rfl, by rw [hU], by rw [hU]; exact hPc, va_K.moved hW.alike hKc, hDc.weaken (fun _ _ _ _ => trivial)⟩⟩ rfl rfl hl.1 rfl (lv_room (Nat.le_of_ble_eq_true rfl)) dX0_slip_34 ⟨by decide, by decide⟩) hS (fun q _ h => hFc q h) hFc (fun r_44 u t H1 locs ht hvm hw hB hz1 hk1 hS => ?_)
        obtain ⟨hP1, hK1, hD1⟩ := hB
        rw [ht] at hP1
        obtain ⟨hP, hD⟩ := va_join (wr := [(lw, .inr (3, lf)), (lc, .inl (cC, 600, .inl cf)), (lb, .inl (cB, 6, .inl bf)), (lk, .inl (cK, 60, .inl kg_20)), (en, .inl (cE, 2, .inl rz_en))]) (w1 := [(bw, .inr (0, bfs)), (tg, .inl (cT, 12, .inl rz_tg))]) hP hD [4, 5] [0, 1, 2, 3, 6] rfl rfl (by decide) (by decide) hk1 hFc hP1 hD1
        generalize H1 = H at hP hS ⊢
        have hP : va_P (dC, dI) vwCl [(lw, .inr (3, lf)), (lc, .inl (cC, 600, .inl cf)), (lb, .inl (cB, 6, .inl bf)), (lk, .inl (cK, 60, .inl kg_20)), (en, .inl (cE, 2, .inl rz_en)), (bw, .inr (0, bfs)), (tg, .inl (cT, 12, .inl rz_tg))] H := hP
        have hD : va_D A [(lw, .inr (3, lf)), (lc, .inl (cC, 600, .inl cf)), (lb, .inl (cB, 6, .inl bf)), (lk, .inl (cK, 60, .inl kg_20)), (en, .inl (cE, 2, .inl rz_en)), (bw, .inr (0, bfs)), (tg, .inl (cT, 12, .inl rz_tg))] := hD
        try dsimp only at hw
        have hw_45 := hw
        refine lv_istore (lv' := [(7, .int r_44), (6, .int ii), (5, .int pu), (4, .int al), (0, .ref bw), (1, .ref lw), (2, .int a1), (3, .int a2)]) hx hb dX0_slip_37 hl (by decide) rfl (fun ls hl => ?_)
        refine lv_iload hx hb dX0_slip_39 (lv_at hl 0 rfl) ?_
        refine lv_if_ne (tgt := 47) hx hb dX0_slip_41 (by decide) (fun c41 => ?_) (fun c41 => ?_)
        · have tc41 := q_ne c41
          refine lv_aload_n hx hb dX0_slip_47 rfl (lv_at hl 4 rfl) ?_
          refine va_get (D := (dC, dI)) (ci := 0) (v := .ref tg) (C := RX0) (T := TX0) (N := 15) hx hb hts i_X0 hown hK hP 5 rfl rfl 0 (by decide) k_2 (fun _ h9 => h9) z_27 dX0_slip_48 ?_
          refine lv_iload hx hb dX0_slip_51 (lv_at hl 1 rfl) ?_
          refine lv_dup2_11 hx hb dX0_slip_53 rfl rfl ?_
          refine va_iald hx hb hK hP 6 3 rfl rfl (q_in (by omega) (by omega)) dX0_slip_54 ?_
          refine lv_topi (fun v_46 ev_46 => ?_)
          have uv_46 : v_46.toInt = (rz_tg ii.toNatClampNeg).toInt := by rw [ev_46]
          refine lv_iload hx hb dX0_slip_55 (lv_at hl 0 rfl) ?_
          refine lv_isub hx hb dX0_slip_57 ?_
          refine lv_topi (fun v_47 ev_47 => ?_)
          try have tv_47 := q_sub ev_47 (by omega) (by omega)
          refine va_iast hx hb hK hP hD hS 6 3 rfl rfl (q_in (by omega) (by omega)) dX0_slip_58 (fun H locs hP hD hS => ?_)
          have hP : va_P (dC, dI) vwCl [(lw, .inr (3, lf)), (lc, .inl (cC, 600, .inl cf)), (lb, .inl (cB, 6, .inl bf)), (lk, .inl (cK, 60, .inl kg_20)), (en, .inl (cE, 2, .inl rz_en)), (bw, .inr (0, bfs)), (tg, .inl (cT, 12, .inl (upd rz_tg ii.toNatClampNeg v_47)))] H := hP
          have hD : va_D A [(lw, .inr (3, lf)), (lc, .inl (cC, 600, .inl cf)), (lb, .inl (cB, 6, .inl bf)), (lk, .inl (cK, 60, .inl kg_20)), (en, .inl (cE, 2, .inl rz_en)), (bw, .inr (0, bfs)), (tg, .inl (cT, 12, .inl (upd rz_tg ii.toNatClampNeg v_47)))] := hD
          generalize eg_48 : (upd rz_tg ii.toNatClampNeg v_47) = g_48 at hP hD
          refine lv_aload_n hx hb dX0_slip_59 rfl (lv_at hl 4 rfl) ?_
          refine va_get (D := (dC, dI)) (ci := 0) (v := .ref en) (C := RX0) (T := TX0) (N := 15) hx hb hts i_X0 hown hK hP 5 rfl rfl 1 (by decide) k_11 (fun _ h9 => h9) z_28 dX0_slip_60 ?_
          refine lv_aload_n hx hb dX0_slip_63 rfl (lv_at hl 4 rfl) ?_
          refine va_get (D := (dC, dI)) (ci := 0) (v := .int bsides) (C := RX0) (T := TX0) (N := 15) hx hb hts i_X0 hown hK hP 5 rfl rfl 8 (by decide) k_12 (fun _ h9 => h9) z_35 dX0_slip_64 ?_
          refine lv_iload hx hb dX0_slip_67 (lv_at hl 1 rfl) ?_
          refine lv_ishr hx hb dX0_slip_69 ?_
          refine lv_topi (fun v_49 ev_49 => ?_)
          refine lv_iconst (v := 1) hx hb dX0_slip_70 (by decide) ?_
          refine lv_iand hx hb dX0_slip_71 ?_
          refine lv_topi (fun v_50 ev_50 => ?_)
          have tv_50 := q_and (k := 1) ev_50 (by decide) (by decide)
          refine lv_dup2_11 hx hb dX0_slip_72 rfl rfl ?_
          refine va_iald hx hb hK hP 4 4 rfl rfl (q_in (by omega) (by omega)) dX0_slip_73 ?_
          refine lv_topi (fun v_51 ev_51 => ?_)
          have uv_51 : v_51.toInt = (rz_en v_50.toNatClampNeg).toInt := by rw [ev_51]
          refine lv_iload hx hb dX0_slip_74 (lv_at hl 0 rfl) ?_
          refine lv_iadd hx hb dX0_slip_76 ?_
          refine lv_topi (fun v_52 ev_52 => ?_)
          try have tv_52 := q_add ev_52 (by omega) (by omega)
          refine va_iast hx hb hK hP hD hS 4 4 rfl rfl (q_in (by omega) (by omega)) dX0_slip_77 (fun H locs hP hD hS => ?_)
          have hP : va_P (dC, dI) vwCl [(lw, .inr (3, lf)), (lc, .inl (cC, 600, .inl cf)), (lb, .inl (cB, 6, .inl bf)), (lk, .inl (cK, 60, .inl kg_20)), (en, .inl (cE, 2, .inl (upd rz_en v_50.toNatClampNeg v_52))), (bw, .inr (0, bfs)), (tg, .inl (cT, 12, .inl g_48))] H := hP
          have hD : va_D A [(lw, .inr (3, lf)), (lc, .inl (cC, 600, .inl cf)), (lb, .inl (cB, 6, .inl bf)), (lk, .inl (cK, 60, .inl kg_20)), (en, .inl (cE, 2, .inl (upd rz_en v_50.toNatClampNeg v_52))), (bw, .inr (0, bfs)), (tg, .inl (cT, 12, .inl g_48))] := hD
          generalize eg_53 : (upd rz_en v_50.toNatClampNeg v_52) = g_53 at hP hD
          refine lv_iload hx hb dX0_slip_78 (lv_at hl 3 rfl) ?_
          refine lv_iload hx hb dX0_slip_80 (lv_at hl 0 rfl) ?_
          refine lv_iadd hx hb dX0_slip_82 ?_
          refine lv_topi (fun v_54 ev_54 => ?_)
          try have tv_54 := q_add ev_54 (by omega) (by omega)
          refine lv_istore (lv' := [(4, .int v_54), (7, .int r_44), (6, .int ii), (5, .int pu), (0, .ref bw), (1, .ref lw), (2, .int a1), (3, .int a2)]) hx hb dX0_slip_83 hl (by decide) rfl (fun ls hl => ?_)
          refine lv_iconst (v := 4) hx hb dX0_slip_85 (by decide) ?_
          refine lv_iload hx hb dX0_slip_86 (lv_at hl 1 rfl) ?_
          refine lv_imul hx hb dX0_slip_88 ?_
          refine lv_topi (fun v_55 ev_55 => ?_)
          try have tv_55 := q_mul ev_55 (by omega) (by omega)
          refine lv_istore (lv' := [(5, .int v_55), (4, .int v_54), (7, .int r_44), (6, .int ii), (0, .ref bw), (1, .ref lw), (2, .int a1), (3, .int a2)]) hx hb dX0_slip_89 hl (by decide) rfl (fun ls hl => ?_)
          obtain ⟨v_56, ev_56⟩ : ∃ y : Int32, y = ii + (-1) := ⟨_, rfl⟩
          try have tv_56 := q_add ev_56 (by omega) (by omega)
          refine lv_iinc (v := v_56) (lv' := [(6, .int v_56), (5, .int v_55), (4, .int v_54), (7, .int r_44), (0, .ref bw), (1, .ref lw), (2, .int a1), (3, .int a2)]) hx hb dX0_slip_91 hl (k := 3) rfl (by rw [ev_56]; rfl) (by decide) rfl (fun ls hl => ?_)
          refine lv_goto (tgt := 14) hx hb dX0_slip_94 (by decide) ?_
          exfalso; omega
        · have tc41 := q_eqN c41
          refine lv_goto (tgt := 97) hx hb dX0_slip_44 (by decide) ?_
          have key97 : ∀ (fu : Nat) (fz_bw : List Value) (lfv : Int32) (H : Heap) (locs : List Loc) (ls : Array Slot) (hfu : lfv.toInt ≤ (fu : Int)) (hp0 : 0 ≤ lfv.toInt ∧ lfv.toInt ≤ bleft.toInt) (l_fz_bw : fz_bw.length = 15) (f_fz_bw_0 : fz_bw[0]? = some (.ref tg)) (f_fz_bw_1 : fz_bw[1]? = some (.ref en)) (f_fz_bw_2 : fz_bw[2]? = some (.int bcrossings)) (f_fz_bw_3 : fz_bw[3]? = some (.int lfv)) (f_fz_bw_4 : fz_bw[4]? = some (.int bsteps)) (f_fz_bw_5 : fz_bw[5]? = some (.int bslipped)) (f_fz_bw_6 : fz_bw[6]? = some (.int bwalk)) (f_fz_bw_7 : fz_bw[7]? = some (.int bnextStep)) (f_fz_bw_8 : fz_bw[8]? = some (.int bsides)) (f_fz_bw_9 : fz_bw[9]? = some (.int blikes)) (f_fz_bw_10 : fz_bw[10]? = some (.int bsmooth)) (f_fz_bw_11 : fz_bw[11]? = some (.int bweight)) (f_fz_bw_12 : fz_bw[12]? = some (.int blength)) (f_fz_bw_13 : fz_bw[13]? = some (.int bstrike)) (f_fz_bw_14 : fz_bw[14]? = some (.int bswing)), va_P (dC, dI) vwCl [(lw, .inr (3, lf)), (lc, .inl (cC, 600, .inl cf)), (lb, .inl (cB, 6, .inl bf)), (lk, .inl (cK, 60, .inl kg_20)), (en, .inl (cE, 2, .inl rz_en)), (bw, .inr (0, fz_bw)), (tg, .inl (cT, 12, .inl rz_tg))] H → va_D A [(lw, .inr (3, lf)), (lc, .inl (cC, 600, .inl cf)), (lb, .inl (cB, 6, .inl bf)), (lk, .inl (cK, 60, .inl kg_20)), (en, .inl (cE, 2, .inl rz_en)), (bw, .inr (0, fz_bw)), (tg, .inl (cT, 12, .inl rz_tg))] → va_S A s.heap H locs → lv_has ls 8 [(7, .int r_44), (6, .int ii), (5, .int pu), (4, .int al), (0, .ref bw), (1, .ref lw), (2, .int a1), (3, .int a2)] → W p l e (headSpec zw_d_slip { frames := 2, cells := 0, slots := 0, locals := 49 }).room s m ([.ref bw, .ref lw, .int a1, .int a2] : List Value).toArray below meth c H locs 0 0 (MQ below (va_Qi (fun (r : Int32) (_ : Unit) => True) (fun _ t => ∃ (kg : Nat → Int32) (bg : List Value) (olf : Int32) (osl : Int32) (tg2 : Nat → Int32) (eg2 : Nat → Int32), lf[0]? = some (.ref lc) ∧ lf[1]? = some (.ref lb) ∧ lf[2]? = some (.ref lk) ∧ lf[3]? = some (.int lus) ∧ lf[4]? = some (.int lro) ∧ lf[5]? = some (.int lun) ∧ bg.length = 15 ∧ bg[0]? = some (.ref tg) ∧ bg[1]? = some (.ref en) ∧ bg[2]? = some (.int bcrossings) ∧ bg[3]? = some (.int olf) ∧ bg[4]? = some (.int bsteps) ∧ bg[5]? = some (.int osl) ∧ bg[6]? = some (.int bwalk) ∧ bg[7]? = some (.int bnextStep) ∧ bg[8]? = some (.int bsides) ∧ bg[9]? = some (.int blikes) ∧ bg[10]? = some (.int bsmooth) ∧ bg[11]? = some (.int bweight) ∧ bg[12]? = some (.int blength) ∧ bg[13]? = some (.int bstrike) ∧ bg[14]? = some (.int bswing) ∧ (∀ k, k < 6 → 0 ≤ ((bf k)).toInt ∧ ((bf k)).toInt ≤ 600) ∧ (0 ≤ olf.toInt ∧ olf.toInt ≤ bleft.toInt) ∧ va_P (dC, dI) vwCl [(lw, .inr (3, lf)), (lc, .inl (cC, 600, .inl cf)), (lb, .inl (cB, 6, .inl bf)), (lk, .inl (cK, 60, .inl kg)), (bw, .inr (0, bg)), (tg, .inl (cT, 12, .inl tg2)), (en, .inl (cE, 2, .inl eg2))] t.heap ∧ va_K (dC, dI) vwCl [] t ∧ va_D A [(lw, .inr (3, lf)), (lc, .inl (cC, 600, .inl cf)), (lb, .inl (cB, 6, .inl bf)), (lk, .inl (cK, 60, .inl kg)), (bw, .inr (0, bg)), (tg, .inl (cT, 12, .inl tg2)), (en, .inl (cE, 2, .inl eg2))]) A) ([.ref bw, .ref lw, .int a1, .int a2] : List Value).toArray s 0 0 A) (F0 m 97 ls []) := by
            intro fu
            induction fu with
            | zero =>
              intro fz_bw lfv H locs ls hfu hp0 l_fz_bw f_fz_bw_0 f_fz_bw_1 f_fz_bw_2 f_fz_bw_3 f_fz_bw_4 f_fz_bw_5 f_fz_bw_6 f_fz_bw_7 f_fz_bw_8 f_fz_bw_9 f_fz_bw_10 f_fz_bw_11 f_fz_bw_12 f_fz_bw_13 f_fz_bw_14 hP hD hS hl
              refine lv_aload_n hx hb dX0_slip_97 rfl (lv_at hl 4 rfl) ?_
              refine va_get (D := (dC, dI)) (ci := 0) (v := .int lfv) (C := RX0) (T := TX0) (N := 15) hx hb hts i_X0 hown hK hP 5 rfl rfl 3 (by decide) k_0 (fun _ h9 => h9) f_fz_bw_3 dX0_slip_98 ?_
              refine lv_if_le (tgt := 131) hx hb dX0_slip_101 (by decide) (fun c101 => ?_) (fun c101 => ?_)
              · have tc101 := q_le c101
                refine lv_aload_n hx hb dX0_slip_131 rfl (lv_at hl 4 rfl) ?_
                refine lv_dup hx hb dX0_slip_132 rfl ?_
                refine va_get (D := (dC, dI)) (ci := 0) (v := .int bslipped) (C := RX0) (T := TX0) (N := 15) hx hb hts i_X0 hown hK hP 5 rfl rfl 5 (by decide) k_1 (fun _ h9 => h9) f_fz_bw_5 dX0_slip_133 ?_
                refine lv_iload hx hb dX0_slip_136 (lv_at hl 3 rfl) ?_
                refine lv_iadd hx hb dX0_slip_138 ?_
                refine lv_topi (fun v_57 ev_57 => ?_)
                try have tv_57 := q_add ev_57 (by omega) (by omega)
                refine va_put (D := (dC, dI)) (ci := 0) (v := .int v_57) (ty := .int) (C := RX0) (T := TX0) (N := 15) hx hb hts i_X0 tyX0 tyX0_ok nmX0 hown hK hP hD hS 5 rfl rfl 5 (by decide) k_1 (fun _ h9 => h9) rfl (by decide +kernel) rfl rfl (by rw [l_fz_bw]; decide) dX0_slip_139 (fun H locs hP hD hS => ?_)
                have hP : va_P (dC, dI) vwCl [(lw, .inr (3, lf)), (lc, .inl (cC, 600, .inl cf)), (lb, .inl (cB, 6, .inl bf)), (lk, .inl (cK, 60, .inl kg_20)), (en, .inl (cE, 2, .inl rz_en)), (bw, .inr (0, (fz_bw.set 5 (.int v_57)))), (tg, .inl (cT, 12, .inl rz_tg))] H := hP
                have hD : va_D A [(lw, .inr (3, lf)), (lc, .inl (cC, 600, .inl cf)), (lb, .inl (cB, 6, .inl bf)), (lk, .inl (cK, 60, .inl kg_20)), (en, .inl (cE, 2, .inl rz_en)), (bw, .inr (0, (fz_bw.set 5 (.int v_57)))), (tg, .inl (cT, 12, .inl rz_tg))] := hD
                generalize efs_58 : (fz_bw.set 5 (.int v_57)) = fs_58 at hP hD
                have lfs_58 : fs_58.length = 15 := by rw [← efs_58, List.length_set]; exact l_fz_bw
                have ffs_58_0 : fs_58[0]? = some (.ref tg) := by rw [← efs_58]; exact p1_sn (by decide) f_fz_bw_0
                have ffs_58_1 : fs_58[1]? = some (.ref en) := by rw [← efs_58]; exact p1_sn (by decide) f_fz_bw_1
                have ffs_58_2 : fs_58[2]? = some (.int bcrossings) := by rw [← efs_58]; exact p1_sn (by decide) f_fz_bw_2
                have ffs_58_3 : fs_58[3]? = some (.int lfv) := by rw [← efs_58]; exact p1_sn (by decide) f_fz_bw_3
                have ffs_58_4 : fs_58[4]? = some (.int bsteps) := by rw [← efs_58]; exact p1_sn (by decide) f_fz_bw_4
                have ffs_58_6 : fs_58[6]? = some (.int bwalk) := by rw [← efs_58]; exact p1_sn (by decide) f_fz_bw_6
                have ffs_58_7 : fs_58[7]? = some (.int bnextStep) := by rw [← efs_58]; exact p1_sn (by decide) f_fz_bw_7
                have ffs_58_8 : fs_58[8]? = some (.int bsides) := by rw [← efs_58]; exact p1_sn (by decide) f_fz_bw_8
                have ffs_58_9 : fs_58[9]? = some (.int blikes) := by rw [← efs_58]; exact p1_sn (by decide) f_fz_bw_9
                have ffs_58_10 : fs_58[10]? = some (.int bsmooth) := by rw [← efs_58]; exact p1_sn (by decide) f_fz_bw_10
                have ffs_58_11 : fs_58[11]? = some (.int bweight) := by rw [← efs_58]; exact p1_sn (by decide) f_fz_bw_11
                have ffs_58_12 : fs_58[12]? = some (.int blength) := by rw [← efs_58]; exact p1_sn (by decide) f_fz_bw_12
                have ffs_58_13 : fs_58[13]? = some (.int bstrike) := by rw [← efs_58]; exact p1_sn (by decide) f_fz_bw_13
                have ffs_58_14 : fs_58[14]? = some (.int bswing) := by rw [← efs_58]; exact p1_sn (by decide) f_fz_bw_14
                have ffs_58_5 : fs_58[5]? = some (.int v_57) := by rw [← efs_58]; exact p1_sa l_fz_bw (by decide)
                refine lv_iload hx hb dX0_slip_142 (lv_at hl 3 rfl) ?_
                have hP9 := hP.sub (ws' := [(lw, .inr (3, lf)), (lc, .inl (cC, 600, .inl cf)), (lb, .inl (cB, 6, .inl bf)), (lk, .inl (cK, 60, .inl kg_20)), (bw, .inr (0, fs_58)), (tg, .inl (cT, 12, .inl rz_tg)), (en, .inl (cE, 2, .inl rz_en))]) [0, 1, 2, 3, 5, 6, 4] rfl
                have hD9 := hD.sub (ws' := [(lw, .inr (3, lf)), (lc, .inl (cC, 600, .inl cf)), (lb, .inl (cB, 6, .inl bf)), (lk, .inl (cK, 60, .inl kg_20)), (bw, .inr (0, fs_58)), (tg, .inl (cT, 12, .inl rz_tg)), (en, .inl (cE, 2, .inl rz_en))]) [0, 1, 2, 3, 5, 6, 4] (by decide) rfl
                have hK9 := hK.sub (tys' := []) [] rfl
                exact W.iret (v := al) hx hb hr (fun t ht hW => ⟨⟨al, (), rfl, trivial, kg_20, fs_58, lfv, v_57, rz_tg, rz_en, z_21, z_22, z_23, z_24, z_25, z_26, lfs_58, ffs_58_0, ffs_58_1, ffs_58_2, ffs_58_3, ffs_58_4, ffs_58_5, ffs_58_6, ffs_58_7, ffs_58_8, ffs_58_9, ffs_58_10, ffs_58_11, ffs_58_12, ffs_58_13, ffs_58_14, z_42, (by first | rfl | omega | exact ⟨by omega, by omega⟩), by rw [ht]; exact hP9, va_K.moved hW.alike hK9, hD9⟩, hS.F ht⟩) hS.2.2 dX0_slip_144
              · have tc101 := q_gtN c101
                refine lv_aload_n hx hb dX0_slip_104 rfl (lv_at hl 4 rfl) ?_
                refine va_get (D := (dC, dI)) (ci := 0) (v := .ref tg) (C := RX0) (T := TX0) (N := 15) hx hb hts i_X0 hown hK hP 5 rfl rfl 0 (by decide) k_2 (fun _ h9 => h9) f_fz_bw_0 dX0_slip_105 ?_
                refine lv_aload_n hx hb dX0_slip_108 rfl (lv_at hl 4 rfl) ?_
                refine va_get (D := (dC, dI)) (ci := 0) (v := .int lfv) (C := RX0) (T := TX0) (N := 15) hx hb hts i_X0 hown hK hP 5 rfl rfl 3 (by decide) k_0 (fun _ h9 => h9) f_fz_bw_3 dX0_slip_109 ?_
                refine lv_iconst (v := 1) hx hb dX0_slip_112 (by decide) ?_
                refine lv_isub hx hb dX0_slip_113 ?_
                refine lv_topi (fun v_59 ev_59 => ?_)
                try have tv_59 := q_sub ev_59 (by omega) (by omega)
                refine va_iald hx hb hK hP 6 3 rfl rfl (q_in (by omega) (by omega)) dX0_slip_114 ?_
                refine lv_topi (fun v_60 ev_60 => ?_)
                have uv_60 : v_60.toInt = (rz_tg v_59.toNatClampNeg).toInt := by rw [ev_60]
                refine lv_if_ne (tgt := 131) hx hb dX0_slip_115 (by decide) (fun c115 => ?_) (fun c115 => ?_)
                · have tc115 := q_ne c115
                  refine lv_aload_n hx hb dX0_slip_131 rfl (lv_at hl 4 rfl) ?_
                  refine lv_dup hx hb dX0_slip_132 rfl ?_
                  refine va_get (D := (dC, dI)) (ci := 0) (v := .int bslipped) (C := RX0) (T := TX0) (N := 15) hx hb hts i_X0 hown hK hP 5 rfl rfl 5 (by decide) k_1 (fun _ h9 => h9) f_fz_bw_5 dX0_slip_133 ?_
                  refine lv_iload hx hb dX0_slip_136 (lv_at hl 3 rfl) ?_
                  refine lv_iadd hx hb dX0_slip_138 ?_
                  refine lv_topi (fun v_61 ev_61 => ?_)
                  try have tv_61 := q_add ev_61 (by omega) (by omega)
                  refine va_put (D := (dC, dI)) (ci := 0) (v := .int v_61) (ty := .int) (C := RX0) (T := TX0) (N := 15) hx hb hts i_X0 tyX0 tyX0_ok nmX0 hown hK hP hD hS 5 rfl rfl 5 (by decide) k_1 (fun _ h9 => h9) rfl (by decide +kernel) rfl rfl (by rw [l_fz_bw]; decide) dX0_slip_139 (fun H locs hP hD hS => ?_)
                  have hP : va_P (dC, dI) vwCl [(lw, .inr (3, lf)), (lc, .inl (cC, 600, .inl cf)), (lb, .inl (cB, 6, .inl bf)), (lk, .inl (cK, 60, .inl kg_20)), (en, .inl (cE, 2, .inl rz_en)), (bw, .inr (0, (fz_bw.set 5 (.int v_61)))), (tg, .inl (cT, 12, .inl rz_tg))] H := hP
                  have hD : va_D A [(lw, .inr (3, lf)), (lc, .inl (cC, 600, .inl cf)), (lb, .inl (cB, 6, .inl bf)), (lk, .inl (cK, 60, .inl kg_20)), (en, .inl (cE, 2, .inl rz_en)), (bw, .inr (0, (fz_bw.set 5 (.int v_61)))), (tg, .inl (cT, 12, .inl rz_tg))] := hD
                  generalize efs_62 : (fz_bw.set 5 (.int v_61)) = fs_62 at hP hD
                  have lfs_62 : fs_62.length = 15 := by rw [← efs_62, List.length_set]; exact l_fz_bw
                  have ffs_62_0 : fs_62[0]? = some (.ref tg) := by rw [← efs_62]; exact p1_sn (by decide) f_fz_bw_0
                  have ffs_62_1 : fs_62[1]? = some (.ref en) := by rw [← efs_62]; exact p1_sn (by decide) f_fz_bw_1
                  have ffs_62_2 : fs_62[2]? = some (.int bcrossings) := by rw [← efs_62]; exact p1_sn (by decide) f_fz_bw_2
                  have ffs_62_3 : fs_62[3]? = some (.int lfv) := by rw [← efs_62]; exact p1_sn (by decide) f_fz_bw_3
                  have ffs_62_4 : fs_62[4]? = some (.int bsteps) := by rw [← efs_62]; exact p1_sn (by decide) f_fz_bw_4
                  have ffs_62_6 : fs_62[6]? = some (.int bwalk) := by rw [← efs_62]; exact p1_sn (by decide) f_fz_bw_6
                  have ffs_62_7 : fs_62[7]? = some (.int bnextStep) := by rw [← efs_62]; exact p1_sn (by decide) f_fz_bw_7
                  have ffs_62_8 : fs_62[8]? = some (.int bsides) := by rw [← efs_62]; exact p1_sn (by decide) f_fz_bw_8
                  have ffs_62_9 : fs_62[9]? = some (.int blikes) := by rw [← efs_62]; exact p1_sn (by decide) f_fz_bw_9
                  have ffs_62_10 : fs_62[10]? = some (.int bsmooth) := by rw [← efs_62]; exact p1_sn (by decide) f_fz_bw_10
                  have ffs_62_11 : fs_62[11]? = some (.int bweight) := by rw [← efs_62]; exact p1_sn (by decide) f_fz_bw_11
                  have ffs_62_12 : fs_62[12]? = some (.int blength) := by rw [← efs_62]; exact p1_sn (by decide) f_fz_bw_12
                  have ffs_62_13 : fs_62[13]? = some (.int bstrike) := by rw [← efs_62]; exact p1_sn (by decide) f_fz_bw_13
                  have ffs_62_14 : fs_62[14]? = some (.int bswing) := by rw [← efs_62]; exact p1_sn (by decide) f_fz_bw_14
                  have ffs_62_5 : fs_62[5]? = some (.int v_61) := by rw [← efs_62]; exact p1_sa l_fz_bw (by decide)
                  refine lv_iload hx hb dX0_slip_142 (lv_at hl 3 rfl) ?_
                  have hP9 := hP.sub (ws' := [(lw, .inr (3, lf)), (lc, .inl (cC, 600, .inl cf)), (lb, .inl (cB, 6, .inl bf)), (lk, .inl (cK, 60, .inl kg_20)), (bw, .inr (0, fs_62)), (tg, .inl (cT, 12, .inl rz_tg)), (en, .inl (cE, 2, .inl rz_en))]) [0, 1, 2, 3, 5, 6, 4] rfl
                  have hD9 := hD.sub (ws' := [(lw, .inr (3, lf)), (lc, .inl (cC, 600, .inl cf)), (lb, .inl (cB, 6, .inl bf)), (lk, .inl (cK, 60, .inl kg_20)), (bw, .inr (0, fs_62)), (tg, .inl (cT, 12, .inl rz_tg)), (en, .inl (cE, 2, .inl rz_en))]) [0, 1, 2, 3, 5, 6, 4] (by decide) rfl
                  have hK9 := hK.sub (tys' := []) [] rfl
                  exact W.iret (v := al) hx hb hr (fun t ht hW => ⟨⟨al, (), rfl, trivial, kg_20, fs_62, lfv, v_61, rz_tg, rz_en, z_21, z_22, z_23, z_24, z_25, z_26, lfs_62, ffs_62_0, ffs_62_1, ffs_62_2, ffs_62_3, ffs_62_4, ffs_62_5, ffs_62_6, ffs_62_7, ffs_62_8, ffs_62_9, ffs_62_10, ffs_62_11, ffs_62_12, ffs_62_13, ffs_62_14, z_42, (by first | rfl | omega | exact ⟨by omega, by omega⟩), by rw [ht]; exact hP9, va_K.moved hW.alike hK9, hD9⟩, hS.F ht⟩) hS.2.2 dX0_slip_144
                · have tc115 := q_eqN c115
                  refine lv_aload_n hx hb dX0_slip_118 rfl (lv_at hl 4 rfl) ?_
                  refine lv_dup hx hb dX0_slip_119 rfl ?_
                  refine va_get (D := (dC, dI)) (ci := 0) (v := .int lfv) (C := RX0) (T := TX0) (N := 15) hx hb hts i_X0 hown hK hP 5 rfl rfl 3 (by decide) k_0 (fun _ h9 => h9) f_fz_bw_3 dX0_slip_120 ?_
                  refine lv_iconst (v := 1) hx hb dX0_slip_123 (by decide) ?_
                  refine lv_isub hx hb dX0_slip_124 ?_
                  refine lv_topi (fun v_63 ev_63 => ?_)
                  try have tv_63 := q_sub ev_63 (by omega) (by omega)
                  refine va_put (D := (dC, dI)) (ci := 0) (v := .int v_63) (ty := .int) (C := RX0) (T := TX0) (N := 15) hx hb hts i_X0 tyX0 tyX0_ok nmX0 hown hK hP hD hS 5 rfl rfl 3 (by decide) k_0 (fun _ h9 => h9) rfl (by decide +kernel) rfl rfl (by rw [l_fz_bw]; decide) dX0_slip_125 (fun H locs hP hD hS => ?_)
                  have hP : va_P (dC, dI) vwCl [(lw, .inr (3, lf)), (lc, .inl (cC, 600, .inl cf)), (lb, .inl (cB, 6, .inl bf)), (lk, .inl (cK, 60, .inl kg_20)), (en, .inl (cE, 2, .inl rz_en)), (bw, .inr (0, (fz_bw.set 3 (.int v_63)))), (tg, .inl (cT, 12, .inl rz_tg))] H := hP
                  have hD : va_D A [(lw, .inr (3, lf)), (lc, .inl (cC, 600, .inl cf)), (lb, .inl (cB, 6, .inl bf)), (lk, .inl (cK, 60, .inl kg_20)), (en, .inl (cE, 2, .inl rz_en)), (bw, .inr (0, (fz_bw.set 3 (.int v_63)))), (tg, .inl (cT, 12, .inl rz_tg))] := hD
                  generalize efs_64 : (fz_bw.set 3 (.int v_63)) = fs_64 at hP hD
                  have lfs_64 : fs_64.length = 15 := by rw [← efs_64, List.length_set]; exact l_fz_bw
                  have ffs_64_0 : fs_64[0]? = some (.ref tg) := by rw [← efs_64]; exact p1_sn (by decide) f_fz_bw_0
                  have ffs_64_1 : fs_64[1]? = some (.ref en) := by rw [← efs_64]; exact p1_sn (by decide) f_fz_bw_1
                  have ffs_64_2 : fs_64[2]? = some (.int bcrossings) := by rw [← efs_64]; exact p1_sn (by decide) f_fz_bw_2
                  have ffs_64_4 : fs_64[4]? = some (.int bsteps) := by rw [← efs_64]; exact p1_sn (by decide) f_fz_bw_4
                  have ffs_64_5 : fs_64[5]? = some (.int bslipped) := by rw [← efs_64]; exact p1_sn (by decide) f_fz_bw_5
                  have ffs_64_6 : fs_64[6]? = some (.int bwalk) := by rw [← efs_64]; exact p1_sn (by decide) f_fz_bw_6
                  have ffs_64_7 : fs_64[7]? = some (.int bnextStep) := by rw [← efs_64]; exact p1_sn (by decide) f_fz_bw_7
                  have ffs_64_8 : fs_64[8]? = some (.int bsides) := by rw [← efs_64]; exact p1_sn (by decide) f_fz_bw_8
                  have ffs_64_9 : fs_64[9]? = some (.int blikes) := by rw [← efs_64]; exact p1_sn (by decide) f_fz_bw_9
                  have ffs_64_10 : fs_64[10]? = some (.int bsmooth) := by rw [← efs_64]; exact p1_sn (by decide) f_fz_bw_10
                  have ffs_64_11 : fs_64[11]? = some (.int bweight) := by rw [← efs_64]; exact p1_sn (by decide) f_fz_bw_11
                  have ffs_64_12 : fs_64[12]? = some (.int blength) := by rw [← efs_64]; exact p1_sn (by decide) f_fz_bw_12
                  have ffs_64_13 : fs_64[13]? = some (.int bstrike) := by rw [← efs_64]; exact p1_sn (by decide) f_fz_bw_13
                  have ffs_64_14 : fs_64[14]? = some (.int bswing) := by rw [← efs_64]; exact p1_sn (by decide) f_fz_bw_14
                  have ffs_64_3 : fs_64[3]? = some (.int v_63) := by rw [← efs_64]; exact p1_sa l_fz_bw (by decide)
                  refine lv_goto (tgt := 97) hx hb dX0_slip_128 (by decide) ?_
                  exfalso; omega
            | succ fu ih97 =>
              intro fz_bw lfv H locs ls hfu hp0 l_fz_bw f_fz_bw_0 f_fz_bw_1 f_fz_bw_2 f_fz_bw_3 f_fz_bw_4 f_fz_bw_5 f_fz_bw_6 f_fz_bw_7 f_fz_bw_8 f_fz_bw_9 f_fz_bw_10 f_fz_bw_11 f_fz_bw_12 f_fz_bw_13 f_fz_bw_14 hP hD hS hl
              refine lv_aload_n hx hb dX0_slip_97 rfl (lv_at hl 4 rfl) ?_
              refine va_get (D := (dC, dI)) (ci := 0) (v := .int lfv) (C := RX0) (T := TX0) (N := 15) hx hb hts i_X0 hown hK hP 5 rfl rfl 3 (by decide) k_0 (fun _ h9 => h9) f_fz_bw_3 dX0_slip_98 ?_
              refine lv_if_le (tgt := 131) hx hb dX0_slip_101 (by decide) (fun c101 => ?_) (fun c101 => ?_)
              · have tc101 := q_le c101
                refine lv_aload_n hx hb dX0_slip_131 rfl (lv_at hl 4 rfl) ?_
                refine lv_dup hx hb dX0_slip_132 rfl ?_
                refine va_get (D := (dC, dI)) (ci := 0) (v := .int bslipped) (C := RX0) (T := TX0) (N := 15) hx hb hts i_X0 hown hK hP 5 rfl rfl 5 (by decide) k_1 (fun _ h9 => h9) f_fz_bw_5 dX0_slip_133 ?_
                refine lv_iload hx hb dX0_slip_136 (lv_at hl 3 rfl) ?_
                refine lv_iadd hx hb dX0_slip_138 ?_
                refine lv_topi (fun v_65 ev_65 => ?_)
                try have tv_65 := q_add ev_65 (by omega) (by omega)
                refine va_put (D := (dC, dI)) (ci := 0) (v := .int v_65) (ty := .int) (C := RX0) (T := TX0) (N := 15) hx hb hts i_X0 tyX0 tyX0_ok nmX0 hown hK hP hD hS 5 rfl rfl 5 (by decide) k_1 (fun _ h9 => h9) rfl (by decide +kernel) rfl rfl (by rw [l_fz_bw]; decide) dX0_slip_139 (fun H locs hP hD hS => ?_)
                have hP : va_P (dC, dI) vwCl [(lw, .inr (3, lf)), (lc, .inl (cC, 600, .inl cf)), (lb, .inl (cB, 6, .inl bf)), (lk, .inl (cK, 60, .inl kg_20)), (en, .inl (cE, 2, .inl rz_en)), (bw, .inr (0, (fz_bw.set 5 (.int v_65)))), (tg, .inl (cT, 12, .inl rz_tg))] H := hP
                have hD : va_D A [(lw, .inr (3, lf)), (lc, .inl (cC, 600, .inl cf)), (lb, .inl (cB, 6, .inl bf)), (lk, .inl (cK, 60, .inl kg_20)), (en, .inl (cE, 2, .inl rz_en)), (bw, .inr (0, (fz_bw.set 5 (.int v_65)))), (tg, .inl (cT, 12, .inl rz_tg))] := hD
                generalize efs_66 : (fz_bw.set 5 (.int v_65)) = fs_66 at hP hD
                have lfs_66 : fs_66.length = 15 := by rw [← efs_66, List.length_set]; exact l_fz_bw
                have ffs_66_0 : fs_66[0]? = some (.ref tg) := by rw [← efs_66]; exact p1_sn (by decide) f_fz_bw_0
                have ffs_66_1 : fs_66[1]? = some (.ref en) := by rw [← efs_66]; exact p1_sn (by decide) f_fz_bw_1
                have ffs_66_2 : fs_66[2]? = some (.int bcrossings) := by rw [← efs_66]; exact p1_sn (by decide) f_fz_bw_2
                have ffs_66_3 : fs_66[3]? = some (.int lfv) := by rw [← efs_66]; exact p1_sn (by decide) f_fz_bw_3
                have ffs_66_4 : fs_66[4]? = some (.int bsteps) := by rw [← efs_66]; exact p1_sn (by decide) f_fz_bw_4
                have ffs_66_6 : fs_66[6]? = some (.int bwalk) := by rw [← efs_66]; exact p1_sn (by decide) f_fz_bw_6
                have ffs_66_7 : fs_66[7]? = some (.int bnextStep) := by rw [← efs_66]; exact p1_sn (by decide) f_fz_bw_7
                have ffs_66_8 : fs_66[8]? = some (.int bsides) := by rw [← efs_66]; exact p1_sn (by decide) f_fz_bw_8
                have ffs_66_9 : fs_66[9]? = some (.int blikes) := by rw [← efs_66]; exact p1_sn (by decide) f_fz_bw_9
                have ffs_66_10 : fs_66[10]? = some (.int bsmooth) := by rw [← efs_66]; exact p1_sn (by decide) f_fz_bw_10
                have ffs_66_11 : fs_66[11]? = some (.int bweight) := by rw [← efs_66]; exact p1_sn (by decide) f_fz_bw_11
                have ffs_66_12 : fs_66[12]? = some (.int blength) := by rw [← efs_66]; exact p1_sn (by decide) f_fz_bw_12
                have ffs_66_13 : fs_66[13]? = some (.int bstrike) := by rw [← efs_66]; exact p1_sn (by decide) f_fz_bw_13
                have ffs_66_14 : fs_66[14]? = some (.int bswing) := by rw [← efs_66]; exact p1_sn (by decide) f_fz_bw_14
                have ffs_66_5 : fs_66[5]? = some (.int v_65) := by rw [← efs_66]; exact p1_sa l_fz_bw (by decide)
                refine lv_iload hx hb dX0_slip_142 (lv_at hl 3 rfl) ?_
                have hP9 := hP.sub (ws' := [(lw, .inr (3, lf)), (lc, .inl (cC, 600, .inl cf)), (lb, .inl (cB, 6, .inl bf)), (lk, .inl (cK, 60, .inl kg_20)), (bw, .inr (0, fs_66)), (tg, .inl (cT, 12, .inl rz_tg)), (en, .inl (cE, 2, .inl rz_en))]) [0, 1, 2, 3, 5, 6, 4] rfl
                have hD9 := hD.sub (ws' := [(lw, .inr (3, lf)), (lc, .inl (cC, 600, .inl cf)), (lb, .inl (cB, 6, .inl bf)), (lk, .inl (cK, 60, .inl kg_20)), (bw, .inr (0, fs_66)), (tg, .inl (cT, 12, .inl rz_tg)), (en, .inl (cE, 2, .inl rz_en))]) [0, 1, 2, 3, 5, 6, 4] (by decide) rfl
                have hK9 := hK.sub (tys' := []) [] rfl
                exact W.iret (v := al) hx hb hr (fun t ht hW => ⟨⟨al, (), rfl, trivial, kg_20, fs_66, lfv, v_65, rz_tg, rz_en, z_21, z_22, z_23, z_24, z_25, z_26, lfs_66, ffs_66_0, ffs_66_1, ffs_66_2, ffs_66_3, ffs_66_4, ffs_66_5, ffs_66_6, ffs_66_7, ffs_66_8, ffs_66_9, ffs_66_10, ffs_66_11, ffs_66_12, ffs_66_13, ffs_66_14, z_42, (by first | rfl | omega | exact ⟨by omega, by omega⟩), by rw [ht]; exact hP9, va_K.moved hW.alike hK9, hD9⟩, hS.F ht⟩) hS.2.2 dX0_slip_144
              · have tc101 := q_gtN c101
                refine lv_aload_n hx hb dX0_slip_104 rfl (lv_at hl 4 rfl) ?_
                refine va_get (D := (dC, dI)) (ci := 0) (v := .ref tg) (C := RX0) (T := TX0) (N := 15) hx hb hts i_X0 hown hK hP 5 rfl rfl 0 (by decide) k_2 (fun _ h9 => h9) f_fz_bw_0 dX0_slip_105 ?_
                refine lv_aload_n hx hb dX0_slip_108 rfl (lv_at hl 4 rfl) ?_
                refine va_get (D := (dC, dI)) (ci := 0) (v := .int lfv) (C := RX0) (T := TX0) (N := 15) hx hb hts i_X0 hown hK hP 5 rfl rfl 3 (by decide) k_0 (fun _ h9 => h9) f_fz_bw_3 dX0_slip_109 ?_
                refine lv_iconst (v := 1) hx hb dX0_slip_112 (by decide) ?_
                refine lv_isub hx hb dX0_slip_113 ?_
                refine lv_topi (fun v_67 ev_67 => ?_)
                try have tv_67 := q_sub ev_67 (by omega) (by omega)
                refine va_iald hx hb hK hP 6 3 rfl rfl (q_in (by omega) (by omega)) dX0_slip_114 ?_
                refine lv_topi (fun v_68 ev_68 => ?_)
                have uv_68 : v_68.toInt = (rz_tg v_67.toNatClampNeg).toInt := by rw [ev_68]
                refine lv_if_ne (tgt := 131) hx hb dX0_slip_115 (by decide) (fun c115 => ?_) (fun c115 => ?_)
                · have tc115 := q_ne c115
                  refine lv_aload_n hx hb dX0_slip_131 rfl (lv_at hl 4 rfl) ?_
                  refine lv_dup hx hb dX0_slip_132 rfl ?_
                  refine va_get (D := (dC, dI)) (ci := 0) (v := .int bslipped) (C := RX0) (T := TX0) (N := 15) hx hb hts i_X0 hown hK hP 5 rfl rfl 5 (by decide) k_1 (fun _ h9 => h9) f_fz_bw_5 dX0_slip_133 ?_
                  refine lv_iload hx hb dX0_slip_136 (lv_at hl 3 rfl) ?_
                  refine lv_iadd hx hb dX0_slip_138 ?_
                  refine lv_topi (fun v_69 ev_69 => ?_)
                  try have tv_69 := q_add ev_69 (by omega) (by omega)
                  refine va_put (D := (dC, dI)) (ci := 0) (v := .int v_69) (ty := .int) (C := RX0) (T := TX0) (N := 15) hx hb hts i_X0 tyX0 tyX0_ok nmX0 hown hK hP hD hS 5 rfl rfl 5 (by decide) k_1 (fun _ h9 => h9) rfl (by decide +kernel) rfl rfl (by rw [l_fz_bw]; decide) dX0_slip_139 (fun H locs hP hD hS => ?_)
                  have hP : va_P (dC, dI) vwCl [(lw, .inr (3, lf)), (lc, .inl (cC, 600, .inl cf)), (lb, .inl (cB, 6, .inl bf)), (lk, .inl (cK, 60, .inl kg_20)), (en, .inl (cE, 2, .inl rz_en)), (bw, .inr (0, (fz_bw.set 5 (.int v_69)))), (tg, .inl (cT, 12, .inl rz_tg))] H := hP
                  have hD : va_D A [(lw, .inr (3, lf)), (lc, .inl (cC, 600, .inl cf)), (lb, .inl (cB, 6, .inl bf)), (lk, .inl (cK, 60, .inl kg_20)), (en, .inl (cE, 2, .inl rz_en)), (bw, .inr (0, (fz_bw.set 5 (.int v_69)))), (tg, .inl (cT, 12, .inl rz_tg))] := hD
                  generalize efs_70 : (fz_bw.set 5 (.int v_69)) = fs_70 at hP hD
                  have lfs_70 : fs_70.length = 15 := by rw [← efs_70, List.length_set]; exact l_fz_bw
                  have ffs_70_0 : fs_70[0]? = some (.ref tg) := by rw [← efs_70]; exact p1_sn (by decide) f_fz_bw_0
                  have ffs_70_1 : fs_70[1]? = some (.ref en) := by rw [← efs_70]; exact p1_sn (by decide) f_fz_bw_1
                  have ffs_70_2 : fs_70[2]? = some (.int bcrossings) := by rw [← efs_70]; exact p1_sn (by decide) f_fz_bw_2
                  have ffs_70_3 : fs_70[3]? = some (.int lfv) := by rw [← efs_70]; exact p1_sn (by decide) f_fz_bw_3
                  have ffs_70_4 : fs_70[4]? = some (.int bsteps) := by rw [← efs_70]; exact p1_sn (by decide) f_fz_bw_4
                  have ffs_70_6 : fs_70[6]? = some (.int bwalk) := by rw [← efs_70]; exact p1_sn (by decide) f_fz_bw_6
                  have ffs_70_7 : fs_70[7]? = some (.int bnextStep) := by rw [← efs_70]; exact p1_sn (by decide) f_fz_bw_7
                  have ffs_70_8 : fs_70[8]? = some (.int bsides) := by rw [← efs_70]; exact p1_sn (by decide) f_fz_bw_8
                  have ffs_70_9 : fs_70[9]? = some (.int blikes) := by rw [← efs_70]; exact p1_sn (by decide) f_fz_bw_9
                  have ffs_70_10 : fs_70[10]? = some (.int bsmooth) := by rw [← efs_70]; exact p1_sn (by decide) f_fz_bw_10
                  have ffs_70_11 : fs_70[11]? = some (.int bweight) := by rw [← efs_70]; exact p1_sn (by decide) f_fz_bw_11
                  have ffs_70_12 : fs_70[12]? = some (.int blength) := by rw [← efs_70]; exact p1_sn (by decide) f_fz_bw_12
                  have ffs_70_13 : fs_70[13]? = some (.int bstrike) := by rw [← efs_70]; exact p1_sn (by decide) f_fz_bw_13
                  have ffs_70_14 : fs_70[14]? = some (.int bswing) := by rw [← efs_70]; exact p1_sn (by decide) f_fz_bw_14
                  have ffs_70_5 : fs_70[5]? = some (.int v_69) := by rw [← efs_70]; exact p1_sa l_fz_bw (by decide)
                  refine lv_iload hx hb dX0_slip_142 (lv_at hl 3 rfl) ?_
                  have hP9 := hP.sub (ws' := [(lw, .inr (3, lf)), (lc, .inl (cC, 600, .inl cf)), (lb, .inl (cB, 6, .inl bf)), (lk, .inl (cK, 60, .inl kg_20)), (bw, .inr (0, fs_70)), (tg, .inl (cT, 12, .inl rz_tg)), (en, .inl (cE, 2, .inl rz_en))]) [0, 1, 2, 3, 5, 6, 4] rfl
                  have hD9 := hD.sub (ws' := [(lw, .inr (3, lf)), (lc, .inl (cC, 600, .inl cf)), (lb, .inl (cB, 6, .inl bf)), (lk, .inl (cK, 60, .inl kg_20)), (bw, .inr (0, fs_70)), (tg, .inl (cT, 12, .inl rz_tg)), (en, .inl (cE, 2, .inl rz_en))]) [0, 1, 2, 3, 5, 6, 4] (by decide) rfl
                  have hK9 := hK.sub (tys' := []) [] rfl
                  exact W.iret (v := al) hx hb hr (fun t ht hW => ⟨⟨al, (), rfl, trivial, kg_20, fs_70, lfv, v_69, rz_tg, rz_en, z_21, z_22, z_23, z_24, z_25, z_26, lfs_70, ffs_70_0, ffs_70_1, ffs_70_2, ffs_70_3, ffs_70_4, ffs_70_5, ffs_70_6, ffs_70_7, ffs_70_8, ffs_70_9, ffs_70_10, ffs_70_11, ffs_70_12, ffs_70_13, ffs_70_14, z_42, (by first | rfl | omega | exact ⟨by omega, by omega⟩), by rw [ht]; exact hP9, va_K.moved hW.alike hK9, hD9⟩, hS.F ht⟩) hS.2.2 dX0_slip_144
                · have tc115 := q_eqN c115
                  refine lv_aload_n hx hb dX0_slip_118 rfl (lv_at hl 4 rfl) ?_
                  refine lv_dup hx hb dX0_slip_119 rfl ?_
                  refine va_get (D := (dC, dI)) (ci := 0) (v := .int lfv) (C := RX0) (T := TX0) (N := 15) hx hb hts i_X0 hown hK hP 5 rfl rfl 3 (by decide) k_0 (fun _ h9 => h9) f_fz_bw_3 dX0_slip_120 ?_
                  refine lv_iconst (v := 1) hx hb dX0_slip_123 (by decide) ?_
                  refine lv_isub hx hb dX0_slip_124 ?_
                  refine lv_topi (fun v_71 ev_71 => ?_)
                  try have tv_71 := q_sub ev_71 (by omega) (by omega)
                  refine va_put (D := (dC, dI)) (ci := 0) (v := .int v_71) (ty := .int) (C := RX0) (T := TX0) (N := 15) hx hb hts i_X0 tyX0 tyX0_ok nmX0 hown hK hP hD hS 5 rfl rfl 3 (by decide) k_0 (fun _ h9 => h9) rfl (by decide +kernel) rfl rfl (by rw [l_fz_bw]; decide) dX0_slip_125 (fun H locs hP hD hS => ?_)
                  have hP : va_P (dC, dI) vwCl [(lw, .inr (3, lf)), (lc, .inl (cC, 600, .inl cf)), (lb, .inl (cB, 6, .inl bf)), (lk, .inl (cK, 60, .inl kg_20)), (en, .inl (cE, 2, .inl rz_en)), (bw, .inr (0, (fz_bw.set 3 (.int v_71)))), (tg, .inl (cT, 12, .inl rz_tg))] H := hP
                  have hD : va_D A [(lw, .inr (3, lf)), (lc, .inl (cC, 600, .inl cf)), (lb, .inl (cB, 6, .inl bf)), (lk, .inl (cK, 60, .inl kg_20)), (en, .inl (cE, 2, .inl rz_en)), (bw, .inr (0, (fz_bw.set 3 (.int v_71)))), (tg, .inl (cT, 12, .inl rz_tg))] := hD
                  generalize efs_72 : (fz_bw.set 3 (.int v_71)) = fs_72 at hP hD
                  have lfs_72 : fs_72.length = 15 := by rw [← efs_72, List.length_set]; exact l_fz_bw
                  have ffs_72_0 : fs_72[0]? = some (.ref tg) := by rw [← efs_72]; exact p1_sn (by decide) f_fz_bw_0
                  have ffs_72_1 : fs_72[1]? = some (.ref en) := by rw [← efs_72]; exact p1_sn (by decide) f_fz_bw_1
                  have ffs_72_2 : fs_72[2]? = some (.int bcrossings) := by rw [← efs_72]; exact p1_sn (by decide) f_fz_bw_2
                  have ffs_72_4 : fs_72[4]? = some (.int bsteps) := by rw [← efs_72]; exact p1_sn (by decide) f_fz_bw_4
                  have ffs_72_5 : fs_72[5]? = some (.int bslipped) := by rw [← efs_72]; exact p1_sn (by decide) f_fz_bw_5
                  have ffs_72_6 : fs_72[6]? = some (.int bwalk) := by rw [← efs_72]; exact p1_sn (by decide) f_fz_bw_6
                  have ffs_72_7 : fs_72[7]? = some (.int bnextStep) := by rw [← efs_72]; exact p1_sn (by decide) f_fz_bw_7
                  have ffs_72_8 : fs_72[8]? = some (.int bsides) := by rw [← efs_72]; exact p1_sn (by decide) f_fz_bw_8
                  have ffs_72_9 : fs_72[9]? = some (.int blikes) := by rw [← efs_72]; exact p1_sn (by decide) f_fz_bw_9
                  have ffs_72_10 : fs_72[10]? = some (.int bsmooth) := by rw [← efs_72]; exact p1_sn (by decide) f_fz_bw_10
                  have ffs_72_11 : fs_72[11]? = some (.int bweight) := by rw [← efs_72]; exact p1_sn (by decide) f_fz_bw_11
                  have ffs_72_12 : fs_72[12]? = some (.int blength) := by rw [← efs_72]; exact p1_sn (by decide) f_fz_bw_12
                  have ffs_72_13 : fs_72[13]? = some (.int bstrike) := by rw [← efs_72]; exact p1_sn (by decide) f_fz_bw_13
                  have ffs_72_14 : fs_72[14]? = some (.int bswing) := by rw [← efs_72]; exact p1_sn (by decide) f_fz_bw_14
                  have ffs_72_3 : fs_72[3]? = some (.int v_71) := by rw [← efs_72]; exact p1_sa l_fz_bw (by decide)
                  refine lv_goto (tgt := 97) hx hb dX0_slip_128 (by decide) ?_
                  exact ih97 fs_72 v_71 _ _ _ (by omega) (by omega) lfs_72 ffs_72_0 ffs_72_1 ffs_72_2 ffs_72_3 ffs_72_4 ffs_72_5 ffs_72_6 ffs_72_7 ffs_72_8 ffs_72_9 ffs_72_10 ffs_72_11 ffs_72_12 ffs_72_13 ffs_72_14 (hP.sub [0, 1, 2, 3, 4, 5, 6] rfl) (hD.sub [0, 1, 2, 3, 4, 5, 6] (by decide) rfl) hS (lv_sub hl [0, 1, 2, 3, 4, 5, 6, 7] rfl)
          exact key97 12 bfs bleft _ _ _ (by omega) (by omega) NOLEN z_27 z_28 z_29 z_30 z_31 z_32 z_33 z_34 z_35 z_36 z_37 z_38 z_39 z_40 z_41 hP hD hS (lv_sub hl [0, 1, 2, 3, 4, 5, 6, 7] rfl)
    | succ fu ih14 =>
      intro al pu ii rz_tg rz_en rz_lk H locs ls hfu hp0 hP hD hS hl
      refine lv_iload hx hb dX0_slip_14 (lv_at hl 0 rfl) ?_
      refine lv_if_lt (tgt := 97) hx hb dX0_slip_16 (by decide) (fun c16 => ?_) (fun c16 => ?_)
      · have tc16 := q_lt c16
        have key97 : ∀ (fu : Nat) (fz_bw : List Value) (lfv : Int32) (H : Heap) (locs : List Loc) (ls : Array Slot) (hfu : lfv.toInt ≤ (fu : Int)) (hp0 : 0 ≤ lfv.toInt ∧ lfv.toInt ≤ bleft.toInt) (l_fz_bw : fz_bw.length = 15) (f_fz_bw_0 : fz_bw[0]? = some (.ref tg)) (f_fz_bw_1 : fz_bw[1]? = some (.ref en)) (f_fz_bw_2 : fz_bw[2]? = some (.int bcrossings)) (f_fz_bw_3 : fz_bw[3]? = some (.int lfv)) (f_fz_bw_4 : fz_bw[4]? = some (.int bsteps)) (f_fz_bw_5 : fz_bw[5]? = some (.int bslipped)) (f_fz_bw_6 : fz_bw[6]? = some (.int bwalk)) (f_fz_bw_7 : fz_bw[7]? = some (.int bnextStep)) (f_fz_bw_8 : fz_bw[8]? = some (.int bsides)) (f_fz_bw_9 : fz_bw[9]? = some (.int blikes)) (f_fz_bw_10 : fz_bw[10]? = some (.int bsmooth)) (f_fz_bw_11 : fz_bw[11]? = some (.int bweight)) (f_fz_bw_12 : fz_bw[12]? = some (.int blength)) (f_fz_bw_13 : fz_bw[13]? = some (.int bstrike)) (f_fz_bw_14 : fz_bw[14]? = some (.int bswing)), va_P (dC, dI) vwCl [(lw, .inr (3, lf)), (lc, .inl (cC, 600, .inl cf)), (lb, .inl (cB, 6, .inl bf)), (lk, .inl (cK, 60, .inl rz_lk)), (bw, .inr (0, fz_bw)), (tg, .inl (cT, 12, .inl rz_tg)), (en, .inl (cE, 2, .inl rz_en))] H → va_D A [(lw, .inr (3, lf)), (lc, .inl (cC, 600, .inl cf)), (lb, .inl (cB, 6, .inl bf)), (lk, .inl (cK, 60, .inl rz_lk)), (bw, .inr (0, fz_bw)), (tg, .inl (cT, 12, .inl rz_tg)), (en, .inl (cE, 2, .inl rz_en))] → va_S A s.heap H locs → lv_has ls 8 [(6, .int ii), (5, .int pu), (4, .int al), (0, .ref bw), (1, .ref lw), (2, .int a1), (3, .int a2)] → W p l e (headSpec zw_d_slip { frames := 2, cells := 0, slots := 0, locals := 49 }).room s m ([.ref bw, .ref lw, .int a1, .int a2] : List Value).toArray below meth c H locs 0 0 (MQ below (va_Qi (fun (r : Int32) (_ : Unit) => True) (fun _ t => ∃ (kg : Nat → Int32) (bg : List Value) (olf : Int32) (osl : Int32) (tg2 : Nat → Int32) (eg2 : Nat → Int32), lf[0]? = some (.ref lc) ∧ lf[1]? = some (.ref lb) ∧ lf[2]? = some (.ref lk) ∧ lf[3]? = some (.int lus) ∧ lf[4]? = some (.int lro) ∧ lf[5]? = some (.int lun) ∧ bg.length = 15 ∧ bg[0]? = some (.ref tg) ∧ bg[1]? = some (.ref en) ∧ bg[2]? = some (.int bcrossings) ∧ bg[3]? = some (.int olf) ∧ bg[4]? = some (.int bsteps) ∧ bg[5]? = some (.int osl) ∧ bg[6]? = some (.int bwalk) ∧ bg[7]? = some (.int bnextStep) ∧ bg[8]? = some (.int bsides) ∧ bg[9]? = some (.int blikes) ∧ bg[10]? = some (.int bsmooth) ∧ bg[11]? = some (.int bweight) ∧ bg[12]? = some (.int blength) ∧ bg[13]? = some (.int bstrike) ∧ bg[14]? = some (.int bswing) ∧ (∀ k, k < 6 → 0 ≤ ((bf k)).toInt ∧ ((bf k)).toInt ≤ 600) ∧ (0 ≤ olf.toInt ∧ olf.toInt ≤ bleft.toInt) ∧ va_P (dC, dI) vwCl [(lw, .inr (3, lf)), (lc, .inl (cC, 600, .inl cf)), (lb, .inl (cB, 6, .inl bf)), (lk, .inl (cK, 60, .inl kg)), (bw, .inr (0, bg)), (tg, .inl (cT, 12, .inl tg2)), (en, .inl (cE, 2, .inl eg2))] t.heap ∧ va_K (dC, dI) vwCl [] t ∧ va_D A [(lw, .inr (3, lf)), (lc, .inl (cC, 600, .inl cf)), (lb, .inl (cB, 6, .inl bf)), (lk, .inl (cK, 60, .inl kg)), (bw, .inr (0, bg)), (tg, .inl (cT, 12, .inl tg2)), (en, .inl (cE, 2, .inl eg2))]) A) ([.ref bw, .ref lw, .int a1, .int a2] : List Value).toArray s 0 0 A) (F0 m 97 ls []) := by
          intro fu
          induction fu with
          | zero =>
            intro fz_bw lfv H locs ls hfu hp0 l_fz_bw f_fz_bw_0 f_fz_bw_1 f_fz_bw_2 f_fz_bw_3 f_fz_bw_4 f_fz_bw_5 f_fz_bw_6 f_fz_bw_7 f_fz_bw_8 f_fz_bw_9 f_fz_bw_10 f_fz_bw_11 f_fz_bw_12 f_fz_bw_13 f_fz_bw_14 hP hD hS hl
            refine lv_aload_n hx hb dX0_slip_97 rfl (lv_at hl 3 rfl) ?_
            refine va_get (D := (dC, dI)) (ci := 0) (v := .int lfv) (C := RX0) (T := TX0) (N := 15) hx hb hts i_X0 hown hK hP 4 rfl rfl 3 (by decide) k_0 (fun _ h9 => h9) f_fz_bw_3 dX0_slip_98 ?_
            refine lv_if_le (tgt := 131) hx hb dX0_slip_101 (by decide) (fun c101 => ?_) (fun c101 => ?_)
            · have tc101 := q_le c101
              refine lv_aload_n hx hb dX0_slip_131 rfl (lv_at hl 3 rfl) ?_
              refine lv_dup hx hb dX0_slip_132 rfl ?_
              refine va_get (D := (dC, dI)) (ci := 0) (v := .int bslipped) (C := RX0) (T := TX0) (N := 15) hx hb hts i_X0 hown hK hP 4 rfl rfl 5 (by decide) k_1 (fun _ h9 => h9) f_fz_bw_5 dX0_slip_133 ?_
              refine lv_iload hx hb dX0_slip_136 (lv_at hl 2 rfl) ?_
              refine lv_iadd hx hb dX0_slip_138 ?_
              refine lv_topi (fun v_73 ev_73 => ?_)
              try have tv_73 := q_add ev_73 (by omega) (by omega)
              refine va_put (D := (dC, dI)) (ci := 0) (v := .int v_73) (ty := .int) (C := RX0) (T := TX0) (N := 15) hx hb hts i_X0 tyX0 tyX0_ok nmX0 hown hK hP hD hS 4 rfl rfl 5 (by decide) k_1 (fun _ h9 => h9) rfl (by decide +kernel) rfl rfl (by rw [l_fz_bw]; decide) dX0_slip_139 (fun H locs hP hD hS => ?_)
              have hP : va_P (dC, dI) vwCl [(lw, .inr (3, lf)), (lc, .inl (cC, 600, .inl cf)), (lb, .inl (cB, 6, .inl bf)), (lk, .inl (cK, 60, .inl rz_lk)), (bw, .inr (0, (fz_bw.set 5 (.int v_73)))), (tg, .inl (cT, 12, .inl rz_tg)), (en, .inl (cE, 2, .inl rz_en))] H := hP
              have hD : va_D A [(lw, .inr (3, lf)), (lc, .inl (cC, 600, .inl cf)), (lb, .inl (cB, 6, .inl bf)), (lk, .inl (cK, 60, .inl rz_lk)), (bw, .inr (0, (fz_bw.set 5 (.int v_73)))), (tg, .inl (cT, 12, .inl rz_tg)), (en, .inl (cE, 2, .inl rz_en))] := hD
              generalize efs_74 : (fz_bw.set 5 (.int v_73)) = fs_74 at hP hD
              have lfs_74 : fs_74.length = 15 := by rw [← efs_74, List.length_set]; exact l_fz_bw
              have ffs_74_0 : fs_74[0]? = some (.ref tg) := by rw [← efs_74]; exact p1_sn (by decide) f_fz_bw_0
              have ffs_74_1 : fs_74[1]? = some (.ref en) := by rw [← efs_74]; exact p1_sn (by decide) f_fz_bw_1
              have ffs_74_2 : fs_74[2]? = some (.int bcrossings) := by rw [← efs_74]; exact p1_sn (by decide) f_fz_bw_2
              have ffs_74_3 : fs_74[3]? = some (.int lfv) := by rw [← efs_74]; exact p1_sn (by decide) f_fz_bw_3
              have ffs_74_4 : fs_74[4]? = some (.int bsteps) := by rw [← efs_74]; exact p1_sn (by decide) f_fz_bw_4
              have ffs_74_6 : fs_74[6]? = some (.int bwalk) := by rw [← efs_74]; exact p1_sn (by decide) f_fz_bw_6
              have ffs_74_7 : fs_74[7]? = some (.int bnextStep) := by rw [← efs_74]; exact p1_sn (by decide) f_fz_bw_7
              have ffs_74_8 : fs_74[8]? = some (.int bsides) := by rw [← efs_74]; exact p1_sn (by decide) f_fz_bw_8
              have ffs_74_9 : fs_74[9]? = some (.int blikes) := by rw [← efs_74]; exact p1_sn (by decide) f_fz_bw_9
              have ffs_74_10 : fs_74[10]? = some (.int bsmooth) := by rw [← efs_74]; exact p1_sn (by decide) f_fz_bw_10
              have ffs_74_11 : fs_74[11]? = some (.int bweight) := by rw [← efs_74]; exact p1_sn (by decide) f_fz_bw_11
              have ffs_74_12 : fs_74[12]? = some (.int blength) := by rw [← efs_74]; exact p1_sn (by decide) f_fz_bw_12
              have ffs_74_13 : fs_74[13]? = some (.int bstrike) := by rw [← efs_74]; exact p1_sn (by decide) f_fz_bw_13
              have ffs_74_14 : fs_74[14]? = some (.int bswing) := by rw [← efs_74]; exact p1_sn (by decide) f_fz_bw_14
              have ffs_74_5 : fs_74[5]? = some (.int v_73) := by rw [← efs_74]; exact p1_sa l_fz_bw (by decide)
              refine lv_iload hx hb dX0_slip_142 (lv_at hl 2 rfl) ?_
              have hP9 := hP.sub (ws' := [(lw, .inr (3, lf)), (lc, .inl (cC, 600, .inl cf)), (lb, .inl (cB, 6, .inl bf)), (lk, .inl (cK, 60, .inl rz_lk)), (bw, .inr (0, fs_74)), (tg, .inl (cT, 12, .inl rz_tg)), (en, .inl (cE, 2, .inl rz_en))]) [0, 1, 2, 3, 4, 5, 6] rfl
              have hD9 := hD.sub (ws' := [(lw, .inr (3, lf)), (lc, .inl (cC, 600, .inl cf)), (lb, .inl (cB, 6, .inl bf)), (lk, .inl (cK, 60, .inl rz_lk)), (bw, .inr (0, fs_74)), (tg, .inl (cT, 12, .inl rz_tg)), (en, .inl (cE, 2, .inl rz_en))]) [0, 1, 2, 3, 4, 5, 6] (by decide) rfl
              have hK9 := hK.sub (tys' := []) [] rfl
              exact W.iret (v := al) hx hb hr (fun t ht hW => ⟨⟨al, (), rfl, trivial, rz_lk, fs_74, lfv, v_73, rz_tg, rz_en, f_lf_0, f_lf_1, f_lf_2, f_lf_3, f_lf_4, f_lf_5, lfs_74, ffs_74_0, ffs_74_1, ffs_74_2, ffs_74_3, ffs_74_4, ffs_74_5, ffs_74_6, ffs_74_7, ffs_74_8, ffs_74_9, ffs_74_10, ffs_74_11, ffs_74_12, ffs_74_13, ffs_74_14, hr_bf, (by first | rfl | omega | exact ⟨by omega, by omega⟩), by rw [ht]; exact hP9, va_K.moved hW.alike hK9, hD9⟩, hS.F ht⟩) hS.2.2 dX0_slip_144
            · have tc101 := q_gtN c101
              refine lv_aload_n hx hb dX0_slip_104 rfl (lv_at hl 3 rfl) ?_
              refine va_get (D := (dC, dI)) (ci := 0) (v := .ref tg) (C := RX0) (T := TX0) (N := 15) hx hb hts i_X0 hown hK hP 4 rfl rfl 0 (by decide) k_2 (fun _ h9 => h9) f_fz_bw_0 dX0_slip_105 ?_
              refine lv_aload_n hx hb dX0_slip_108 rfl (lv_at hl 3 rfl) ?_
              refine va_get (D := (dC, dI)) (ci := 0) (v := .int lfv) (C := RX0) (T := TX0) (N := 15) hx hb hts i_X0 hown hK hP 4 rfl rfl 3 (by decide) k_0 (fun _ h9 => h9) f_fz_bw_3 dX0_slip_109 ?_
              refine lv_iconst (v := 1) hx hb dX0_slip_112 (by decide) ?_
              refine lv_isub hx hb dX0_slip_113 ?_
              refine lv_topi (fun v_75 ev_75 => ?_)
              try have tv_75 := q_sub ev_75 (by omega) (by omega)
              refine va_iald hx hb hK hP 5 3 rfl rfl (q_in (by omega) (by omega)) dX0_slip_114 ?_
              refine lv_topi (fun v_76 ev_76 => ?_)
              have uv_76 : v_76.toInt = (rz_tg v_75.toNatClampNeg).toInt := by rw [ev_76]
              refine lv_if_ne (tgt := 131) hx hb dX0_slip_115 (by decide) (fun c115 => ?_) (fun c115 => ?_)
              · have tc115 := q_ne c115
                refine lv_aload_n hx hb dX0_slip_131 rfl (lv_at hl 3 rfl) ?_
                refine lv_dup hx hb dX0_slip_132 rfl ?_
                refine va_get (D := (dC, dI)) (ci := 0) (v := .int bslipped) (C := RX0) (T := TX0) (N := 15) hx hb hts i_X0 hown hK hP 4 rfl rfl 5 (by decide) k_1 (fun _ h9 => h9) f_fz_bw_5 dX0_slip_133 ?_
                refine lv_iload hx hb dX0_slip_136 (lv_at hl 2 rfl) ?_
                refine lv_iadd hx hb dX0_slip_138 ?_
                refine lv_topi (fun v_77 ev_77 => ?_)
                try have tv_77 := q_add ev_77 (by omega) (by omega)
                refine va_put (D := (dC, dI)) (ci := 0) (v := .int v_77) (ty := .int) (C := RX0) (T := TX0) (N := 15) hx hb hts i_X0 tyX0 tyX0_ok nmX0 hown hK hP hD hS 4 rfl rfl 5 (by decide) k_1 (fun _ h9 => h9) rfl (by decide +kernel) rfl rfl (by rw [l_fz_bw]; decide) dX0_slip_139 (fun H locs hP hD hS => ?_)
                have hP : va_P (dC, dI) vwCl [(lw, .inr (3, lf)), (lc, .inl (cC, 600, .inl cf)), (lb, .inl (cB, 6, .inl bf)), (lk, .inl (cK, 60, .inl rz_lk)), (bw, .inr (0, (fz_bw.set 5 (.int v_77)))), (tg, .inl (cT, 12, .inl rz_tg)), (en, .inl (cE, 2, .inl rz_en))] H := hP
                have hD : va_D A [(lw, .inr (3, lf)), (lc, .inl (cC, 600, .inl cf)), (lb, .inl (cB, 6, .inl bf)), (lk, .inl (cK, 60, .inl rz_lk)), (bw, .inr (0, (fz_bw.set 5 (.int v_77)))), (tg, .inl (cT, 12, .inl rz_tg)), (en, .inl (cE, 2, .inl rz_en))] := hD
                generalize efs_78 : (fz_bw.set 5 (.int v_77)) = fs_78 at hP hD
                have lfs_78 : fs_78.length = 15 := by rw [← efs_78, List.length_set]; exact l_fz_bw
                have ffs_78_0 : fs_78[0]? = some (.ref tg) := by rw [← efs_78]; exact p1_sn (by decide) f_fz_bw_0
                have ffs_78_1 : fs_78[1]? = some (.ref en) := by rw [← efs_78]; exact p1_sn (by decide) f_fz_bw_1
                have ffs_78_2 : fs_78[2]? = some (.int bcrossings) := by rw [← efs_78]; exact p1_sn (by decide) f_fz_bw_2
                have ffs_78_3 : fs_78[3]? = some (.int lfv) := by rw [← efs_78]; exact p1_sn (by decide) f_fz_bw_3
                have ffs_78_4 : fs_78[4]? = some (.int bsteps) := by rw [← efs_78]; exact p1_sn (by decide) f_fz_bw_4
                have ffs_78_6 : fs_78[6]? = some (.int bwalk) := by rw [← efs_78]; exact p1_sn (by decide) f_fz_bw_6
                have ffs_78_7 : fs_78[7]? = some (.int bnextStep) := by rw [← efs_78]; exact p1_sn (by decide) f_fz_bw_7
                have ffs_78_8 : fs_78[8]? = some (.int bsides) := by rw [← efs_78]; exact p1_sn (by decide) f_fz_bw_8
                have ffs_78_9 : fs_78[9]? = some (.int blikes) := by rw [← efs_78]; exact p1_sn (by decide) f_fz_bw_9
                have ffs_78_10 : fs_78[10]? = some (.int bsmooth) := by rw [← efs_78]; exact p1_sn (by decide) f_fz_bw_10
                have ffs_78_11 : fs_78[11]? = some (.int bweight) := by rw [← efs_78]; exact p1_sn (by decide) f_fz_bw_11
                have ffs_78_12 : fs_78[12]? = some (.int blength) := by rw [← efs_78]; exact p1_sn (by decide) f_fz_bw_12
                have ffs_78_13 : fs_78[13]? = some (.int bstrike) := by rw [← efs_78]; exact p1_sn (by decide) f_fz_bw_13
                have ffs_78_14 : fs_78[14]? = some (.int bswing) := by rw [← efs_78]; exact p1_sn (by decide) f_fz_bw_14
                have ffs_78_5 : fs_78[5]? = some (.int v_77) := by rw [← efs_78]; exact p1_sa l_fz_bw (by decide)
                refine lv_iload hx hb dX0_slip_142 (lv_at hl 2 rfl) ?_
                have hP9 := hP.sub (ws' := [(lw, .inr (3, lf)), (lc, .inl (cC, 600, .inl cf)), (lb, .inl (cB, 6, .inl bf)), (lk, .inl (cK, 60, .inl rz_lk)), (bw, .inr (0, fs_78)), (tg, .inl (cT, 12, .inl rz_tg)), (en, .inl (cE, 2, .inl rz_en))]) [0, 1, 2, 3, 4, 5, 6] rfl
                have hD9 := hD.sub (ws' := [(lw, .inr (3, lf)), (lc, .inl (cC, 600, .inl cf)), (lb, .inl (cB, 6, .inl bf)), (lk, .inl (cK, 60, .inl rz_lk)), (bw, .inr (0, fs_78)), (tg, .inl (cT, 12, .inl rz_tg)), (en, .inl (cE, 2, .inl rz_en))]) [0, 1, 2, 3, 4, 5, 6] (by decide) rfl
                have hK9 := hK.sub (tys' := []) [] rfl
                exact W.iret (v := al) hx hb hr (fun t ht hW => ⟨⟨al, (), rfl, trivial, rz_lk, fs_78, lfv, v_77, rz_tg, rz_en, f_lf_0, f_lf_1, f_lf_2, f_lf_3, f_lf_4, f_lf_5, lfs_78, ffs_78_0, ffs_78_1, ffs_78_2, ffs_78_3, ffs_78_4, ffs_78_5, ffs_78_6, ffs_78_7, ffs_78_8, ffs_78_9, ffs_78_10, ffs_78_11, ffs_78_12, ffs_78_13, ffs_78_14, hr_bf, (by first | rfl | omega | exact ⟨by omega, by omega⟩), by rw [ht]; exact hP9, va_K.moved hW.alike hK9, hD9⟩, hS.F ht⟩) hS.2.2 dX0_slip_144
              · have tc115 := q_eqN c115
                refine lv_aload_n hx hb dX0_slip_118 rfl (lv_at hl 3 rfl) ?_
                refine lv_dup hx hb dX0_slip_119 rfl ?_
                refine va_get (D := (dC, dI)) (ci := 0) (v := .int lfv) (C := RX0) (T := TX0) (N := 15) hx hb hts i_X0 hown hK hP 4 rfl rfl 3 (by decide) k_0 (fun _ h9 => h9) f_fz_bw_3 dX0_slip_120 ?_
                refine lv_iconst (v := 1) hx hb dX0_slip_123 (by decide) ?_
                refine lv_isub hx hb dX0_slip_124 ?_
                refine lv_topi (fun v_79 ev_79 => ?_)
                try have tv_79 := q_sub ev_79 (by omega) (by omega)
                refine va_put (D := (dC, dI)) (ci := 0) (v := .int v_79) (ty := .int) (C := RX0) (T := TX0) (N := 15) hx hb hts i_X0 tyX0 tyX0_ok nmX0 hown hK hP hD hS 4 rfl rfl 3 (by decide) k_0 (fun _ h9 => h9) rfl (by decide +kernel) rfl rfl (by rw [l_fz_bw]; decide) dX0_slip_125 (fun H locs hP hD hS => ?_)
                have hP : va_P (dC, dI) vwCl [(lw, .inr (3, lf)), (lc, .inl (cC, 600, .inl cf)), (lb, .inl (cB, 6, .inl bf)), (lk, .inl (cK, 60, .inl rz_lk)), (bw, .inr (0, (fz_bw.set 3 (.int v_79)))), (tg, .inl (cT, 12, .inl rz_tg)), (en, .inl (cE, 2, .inl rz_en))] H := hP
                have hD : va_D A [(lw, .inr (3, lf)), (lc, .inl (cC, 600, .inl cf)), (lb, .inl (cB, 6, .inl bf)), (lk, .inl (cK, 60, .inl rz_lk)), (bw, .inr (0, (fz_bw.set 3 (.int v_79)))), (tg, .inl (cT, 12, .inl rz_tg)), (en, .inl (cE, 2, .inl rz_en))] := hD
                generalize efs_80 : (fz_bw.set 3 (.int v_79)) = fs_80 at hP hD
                have lfs_80 : fs_80.length = 15 := by rw [← efs_80, List.length_set]; exact l_fz_bw
                have ffs_80_0 : fs_80[0]? = some (.ref tg) := by rw [← efs_80]; exact p1_sn (by decide) f_fz_bw_0
                have ffs_80_1 : fs_80[1]? = some (.ref en) := by rw [← efs_80]; exact p1_sn (by decide) f_fz_bw_1
                have ffs_80_2 : fs_80[2]? = some (.int bcrossings) := by rw [← efs_80]; exact p1_sn (by decide) f_fz_bw_2
                have ffs_80_4 : fs_80[4]? = some (.int bsteps) := by rw [← efs_80]; exact p1_sn (by decide) f_fz_bw_4
                have ffs_80_5 : fs_80[5]? = some (.int bslipped) := by rw [← efs_80]; exact p1_sn (by decide) f_fz_bw_5
                have ffs_80_6 : fs_80[6]? = some (.int bwalk) := by rw [← efs_80]; exact p1_sn (by decide) f_fz_bw_6
                have ffs_80_7 : fs_80[7]? = some (.int bnextStep) := by rw [← efs_80]; exact p1_sn (by decide) f_fz_bw_7
                have ffs_80_8 : fs_80[8]? = some (.int bsides) := by rw [← efs_80]; exact p1_sn (by decide) f_fz_bw_8
                have ffs_80_9 : fs_80[9]? = some (.int blikes) := by rw [← efs_80]; exact p1_sn (by decide) f_fz_bw_9
                have ffs_80_10 : fs_80[10]? = some (.int bsmooth) := by rw [← efs_80]; exact p1_sn (by decide) f_fz_bw_10
                have ffs_80_11 : fs_80[11]? = some (.int bweight) := by rw [← efs_80]; exact p1_sn (by decide) f_fz_bw_11
                have ffs_80_12 : fs_80[12]? = some (.int blength) := by rw [← efs_80]; exact p1_sn (by decide) f_fz_bw_12
                have ffs_80_13 : fs_80[13]? = some (.int bstrike) := by rw [← efs_80]; exact p1_sn (by decide) f_fz_bw_13
                have ffs_80_14 : fs_80[14]? = some (.int bswing) := by rw [← efs_80]; exact p1_sn (by decide) f_fz_bw_14
                have ffs_80_3 : fs_80[3]? = some (.int v_79) := by rw [← efs_80]; exact p1_sa l_fz_bw (by decide)
                refine lv_goto (tgt := 97) hx hb dX0_slip_128 (by decide) ?_
                exfalso; omega
          | succ fu ih97 =>
            intro fz_bw lfv H locs ls hfu hp0 l_fz_bw f_fz_bw_0 f_fz_bw_1 f_fz_bw_2 f_fz_bw_3 f_fz_bw_4 f_fz_bw_5 f_fz_bw_6 f_fz_bw_7 f_fz_bw_8 f_fz_bw_9 f_fz_bw_10 f_fz_bw_11 f_fz_bw_12 f_fz_bw_13 f_fz_bw_14 hP hD hS hl
            refine lv_aload_n hx hb dX0_slip_97 rfl (lv_at hl 3 rfl) ?_
            refine va_get (D := (dC, dI)) (ci := 0) (v := .int lfv) (C := RX0) (T := TX0) (N := 15) hx hb hts i_X0 hown hK hP 4 rfl rfl 3 (by decide) k_0 (fun _ h9 => h9) f_fz_bw_3 dX0_slip_98 ?_
            refine lv_if_le (tgt := 131) hx hb dX0_slip_101 (by decide) (fun c101 => ?_) (fun c101 => ?_)
            · have tc101 := q_le c101
              refine lv_aload_n hx hb dX0_slip_131 rfl (lv_at hl 3 rfl) ?_
              refine lv_dup hx hb dX0_slip_132 rfl ?_
              refine va_get (D := (dC, dI)) (ci := 0) (v := .int bslipped) (C := RX0) (T := TX0) (N := 15) hx hb hts i_X0 hown hK hP 4 rfl rfl 5 (by decide) k_1 (fun _ h9 => h9) f_fz_bw_5 dX0_slip_133 ?_
              refine lv_iload hx hb dX0_slip_136 (lv_at hl 2 rfl) ?_
              refine lv_iadd hx hb dX0_slip_138 ?_
              refine lv_topi (fun v_81 ev_81 => ?_)
              try have tv_81 := q_add ev_81 (by omega) (by omega)
              refine va_put (D := (dC, dI)) (ci := 0) (v := .int v_81) (ty := .int) (C := RX0) (T := TX0) (N := 15) hx hb hts i_X0 tyX0 tyX0_ok nmX0 hown hK hP hD hS 4 rfl rfl 5 (by decide) k_1 (fun _ h9 => h9) rfl (by decide +kernel) rfl rfl (by rw [l_fz_bw]; decide) dX0_slip_139 (fun H locs hP hD hS => ?_)
              have hP : va_P (dC, dI) vwCl [(lw, .inr (3, lf)), (lc, .inl (cC, 600, .inl cf)), (lb, .inl (cB, 6, .inl bf)), (lk, .inl (cK, 60, .inl rz_lk)), (bw, .inr (0, (fz_bw.set 5 (.int v_81)))), (tg, .inl (cT, 12, .inl rz_tg)), (en, .inl (cE, 2, .inl rz_en))] H := hP
              have hD : va_D A [(lw, .inr (3, lf)), (lc, .inl (cC, 600, .inl cf)), (lb, .inl (cB, 6, .inl bf)), (lk, .inl (cK, 60, .inl rz_lk)), (bw, .inr (0, (fz_bw.set 5 (.int v_81)))), (tg, .inl (cT, 12, .inl rz_tg)), (en, .inl (cE, 2, .inl rz_en))] := hD
              generalize efs_82 : (fz_bw.set 5 (.int v_81)) = fs_82 at hP hD
              have lfs_82 : fs_82.length = 15 := by rw [← efs_82, List.length_set]; exact l_fz_bw
              have ffs_82_0 : fs_82[0]? = some (.ref tg) := by rw [← efs_82]; exact p1_sn (by decide) f_fz_bw_0
              have ffs_82_1 : fs_82[1]? = some (.ref en) := by rw [← efs_82]; exact p1_sn (by decide) f_fz_bw_1
              have ffs_82_2 : fs_82[2]? = some (.int bcrossings) := by rw [← efs_82]; exact p1_sn (by decide) f_fz_bw_2
              have ffs_82_3 : fs_82[3]? = some (.int lfv) := by rw [← efs_82]; exact p1_sn (by decide) f_fz_bw_3
              have ffs_82_4 : fs_82[4]? = some (.int bsteps) := by rw [← efs_82]; exact p1_sn (by decide) f_fz_bw_4
              have ffs_82_6 : fs_82[6]? = some (.int bwalk) := by rw [← efs_82]; exact p1_sn (by decide) f_fz_bw_6
              have ffs_82_7 : fs_82[7]? = some (.int bnextStep) := by rw [← efs_82]; exact p1_sn (by decide) f_fz_bw_7
              have ffs_82_8 : fs_82[8]? = some (.int bsides) := by rw [← efs_82]; exact p1_sn (by decide) f_fz_bw_8
              have ffs_82_9 : fs_82[9]? = some (.int blikes) := by rw [← efs_82]; exact p1_sn (by decide) f_fz_bw_9
              have ffs_82_10 : fs_82[10]? = some (.int bsmooth) := by rw [← efs_82]; exact p1_sn (by decide) f_fz_bw_10
              have ffs_82_11 : fs_82[11]? = some (.int bweight) := by rw [← efs_82]; exact p1_sn (by decide) f_fz_bw_11
              have ffs_82_12 : fs_82[12]? = some (.int blength) := by rw [← efs_82]; exact p1_sn (by decide) f_fz_bw_12
              have ffs_82_13 : fs_82[13]? = some (.int bstrike) := by rw [← efs_82]; exact p1_sn (by decide) f_fz_bw_13
              have ffs_82_14 : fs_82[14]? = some (.int bswing) := by rw [← efs_82]; exact p1_sn (by decide) f_fz_bw_14
              have ffs_82_5 : fs_82[5]? = some (.int v_81) := by rw [← efs_82]; exact p1_sa l_fz_bw (by decide)
              refine lv_iload hx hb dX0_slip_142 (lv_at hl 2 rfl) ?_
              have hP9 := hP.sub (ws' := [(lw, .inr (3, lf)), (lc, .inl (cC, 600, .inl cf)), (lb, .inl (cB, 6, .inl bf)), (lk, .inl (cK, 60, .inl rz_lk)), (bw, .inr (0, fs_82)), (tg, .inl (cT, 12, .inl rz_tg)), (en, .inl (cE, 2, .inl rz_en))]) [0, 1, 2, 3, 4, 5, 6] rfl
              have hD9 := hD.sub (ws' := [(lw, .inr (3, lf)), (lc, .inl (cC, 600, .inl cf)), (lb, .inl (cB, 6, .inl bf)), (lk, .inl (cK, 60, .inl rz_lk)), (bw, .inr (0, fs_82)), (tg, .inl (cT, 12, .inl rz_tg)), (en, .inl (cE, 2, .inl rz_en))]) [0, 1, 2, 3, 4, 5, 6] (by decide) rfl
              have hK9 := hK.sub (tys' := []) [] rfl
              exact W.iret (v := al) hx hb hr (fun t ht hW => ⟨⟨al, (), rfl, trivial, rz_lk, fs_82, lfv, v_81, rz_tg, rz_en, f_lf_0, f_lf_1, f_lf_2, f_lf_3, f_lf_4, f_lf_5, lfs_82, ffs_82_0, ffs_82_1, ffs_82_2, ffs_82_3, ffs_82_4, ffs_82_5, ffs_82_6, ffs_82_7, ffs_82_8, ffs_82_9, ffs_82_10, ffs_82_11, ffs_82_12, ffs_82_13, ffs_82_14, hr_bf, (by first | rfl | omega | exact ⟨by omega, by omega⟩), by rw [ht]; exact hP9, va_K.moved hW.alike hK9, hD9⟩, hS.F ht⟩) hS.2.2 dX0_slip_144
            · have tc101 := q_gtN c101
              refine lv_aload_n hx hb dX0_slip_104 rfl (lv_at hl 3 rfl) ?_
              refine va_get (D := (dC, dI)) (ci := 0) (v := .ref tg) (C := RX0) (T := TX0) (N := 15) hx hb hts i_X0 hown hK hP 4 rfl rfl 0 (by decide) k_2 (fun _ h9 => h9) f_fz_bw_0 dX0_slip_105 ?_
              refine lv_aload_n hx hb dX0_slip_108 rfl (lv_at hl 3 rfl) ?_
              refine va_get (D := (dC, dI)) (ci := 0) (v := .int lfv) (C := RX0) (T := TX0) (N := 15) hx hb hts i_X0 hown hK hP 4 rfl rfl 3 (by decide) k_0 (fun _ h9 => h9) f_fz_bw_3 dX0_slip_109 ?_
              refine lv_iconst (v := 1) hx hb dX0_slip_112 (by decide) ?_
              refine lv_isub hx hb dX0_slip_113 ?_
              refine lv_topi (fun v_83 ev_83 => ?_)
              try have tv_83 := q_sub ev_83 (by omega) (by omega)
              refine va_iald hx hb hK hP 5 3 rfl rfl (q_in (by omega) (by omega)) dX0_slip_114 ?_
              refine lv_topi (fun v_84 ev_84 => ?_)
              have uv_84 : v_84.toInt = (rz_tg v_83.toNatClampNeg).toInt := by rw [ev_84]
              refine lv_if_ne (tgt := 131) hx hb dX0_slip_115 (by decide) (fun c115 => ?_) (fun c115 => ?_)
              · have tc115 := q_ne c115
                refine lv_aload_n hx hb dX0_slip_131 rfl (lv_at hl 3 rfl) ?_
                refine lv_dup hx hb dX0_slip_132 rfl ?_
                refine va_get (D := (dC, dI)) (ci := 0) (v := .int bslipped) (C := RX0) (T := TX0) (N := 15) hx hb hts i_X0 hown hK hP 4 rfl rfl 5 (by decide) k_1 (fun _ h9 => h9) f_fz_bw_5 dX0_slip_133 ?_
                refine lv_iload hx hb dX0_slip_136 (lv_at hl 2 rfl) ?_
                refine lv_iadd hx hb dX0_slip_138 ?_
                refine lv_topi (fun v_85 ev_85 => ?_)
                try have tv_85 := q_add ev_85 (by omega) (by omega)
                refine va_put (D := (dC, dI)) (ci := 0) (v := .int v_85) (ty := .int) (C := RX0) (T := TX0) (N := 15) hx hb hts i_X0 tyX0 tyX0_ok nmX0 hown hK hP hD hS 4 rfl rfl 5 (by decide) k_1 (fun _ h9 => h9) rfl (by decide +kernel) rfl rfl (by rw [l_fz_bw]; decide) dX0_slip_139 (fun H locs hP hD hS => ?_)
                have hP : va_P (dC, dI) vwCl [(lw, .inr (3, lf)), (lc, .inl (cC, 600, .inl cf)), (lb, .inl (cB, 6, .inl bf)), (lk, .inl (cK, 60, .inl rz_lk)), (bw, .inr (0, (fz_bw.set 5 (.int v_85)))), (tg, .inl (cT, 12, .inl rz_tg)), (en, .inl (cE, 2, .inl rz_en))] H := hP
                have hD : va_D A [(lw, .inr (3, lf)), (lc, .inl (cC, 600, .inl cf)), (lb, .inl (cB, 6, .inl bf)), (lk, .inl (cK, 60, .inl rz_lk)), (bw, .inr (0, (fz_bw.set 5 (.int v_85)))), (tg, .inl (cT, 12, .inl rz_tg)), (en, .inl (cE, 2, .inl rz_en))] := hD
                generalize efs_86 : (fz_bw.set 5 (.int v_85)) = fs_86 at hP hD
                have lfs_86 : fs_86.length = 15 := by rw [← efs_86, List.length_set]; exact l_fz_bw
                have ffs_86_0 : fs_86[0]? = some (.ref tg) := by rw [← efs_86]; exact p1_sn (by decide) f_fz_bw_0
                have ffs_86_1 : fs_86[1]? = some (.ref en) := by rw [← efs_86]; exact p1_sn (by decide) f_fz_bw_1
                have ffs_86_2 : fs_86[2]? = some (.int bcrossings) := by rw [← efs_86]; exact p1_sn (by decide) f_fz_bw_2
                have ffs_86_3 : fs_86[3]? = some (.int lfv) := by rw [← efs_86]; exact p1_sn (by decide) f_fz_bw_3
                have ffs_86_4 : fs_86[4]? = some (.int bsteps) := by rw [← efs_86]; exact p1_sn (by decide) f_fz_bw_4
                have ffs_86_6 : fs_86[6]? = some (.int bwalk) := by rw [← efs_86]; exact p1_sn (by decide) f_fz_bw_6
                have ffs_86_7 : fs_86[7]? = some (.int bnextStep) := by rw [← efs_86]; exact p1_sn (by decide) f_fz_bw_7
                have ffs_86_8 : fs_86[8]? = some (.int bsides) := by rw [← efs_86]; exact p1_sn (by decide) f_fz_bw_8
                have ffs_86_9 : fs_86[9]? = some (.int blikes) := by rw [← efs_86]; exact p1_sn (by decide) f_fz_bw_9
                have ffs_86_10 : fs_86[10]? = some (.int bsmooth) := by rw [← efs_86]; exact p1_sn (by decide) f_fz_bw_10
                have ffs_86_11 : fs_86[11]? = some (.int bweight) := by rw [← efs_86]; exact p1_sn (by decide) f_fz_bw_11
                have ffs_86_12 : fs_86[12]? = some (.int blength) := by rw [← efs_86]; exact p1_sn (by decide) f_fz_bw_12
                have ffs_86_13 : fs_86[13]? = some (.int bstrike) := by rw [← efs_86]; exact p1_sn (by decide) f_fz_bw_13
                have ffs_86_14 : fs_86[14]? = some (.int bswing) := by rw [← efs_86]; exact p1_sn (by decide) f_fz_bw_14
                have ffs_86_5 : fs_86[5]? = some (.int v_85) := by rw [← efs_86]; exact p1_sa l_fz_bw (by decide)
                refine lv_iload hx hb dX0_slip_142 (lv_at hl 2 rfl) ?_
                have hP9 := hP.sub (ws' := [(lw, .inr (3, lf)), (lc, .inl (cC, 600, .inl cf)), (lb, .inl (cB, 6, .inl bf)), (lk, .inl (cK, 60, .inl rz_lk)), (bw, .inr (0, fs_86)), (tg, .inl (cT, 12, .inl rz_tg)), (en, .inl (cE, 2, .inl rz_en))]) [0, 1, 2, 3, 4, 5, 6] rfl
                have hD9 := hD.sub (ws' := [(lw, .inr (3, lf)), (lc, .inl (cC, 600, .inl cf)), (lb, .inl (cB, 6, .inl bf)), (lk, .inl (cK, 60, .inl rz_lk)), (bw, .inr (0, fs_86)), (tg, .inl (cT, 12, .inl rz_tg)), (en, .inl (cE, 2, .inl rz_en))]) [0, 1, 2, 3, 4, 5, 6] (by decide) rfl
                have hK9 := hK.sub (tys' := []) [] rfl
                exact W.iret (v := al) hx hb hr (fun t ht hW => ⟨⟨al, (), rfl, trivial, rz_lk, fs_86, lfv, v_85, rz_tg, rz_en, f_lf_0, f_lf_1, f_lf_2, f_lf_3, f_lf_4, f_lf_5, lfs_86, ffs_86_0, ffs_86_1, ffs_86_2, ffs_86_3, ffs_86_4, ffs_86_5, ffs_86_6, ffs_86_7, ffs_86_8, ffs_86_9, ffs_86_10, ffs_86_11, ffs_86_12, ffs_86_13, ffs_86_14, hr_bf, (by first | rfl | omega | exact ⟨by omega, by omega⟩), by rw [ht]; exact hP9, va_K.moved hW.alike hK9, hD9⟩, hS.F ht⟩) hS.2.2 dX0_slip_144
              · have tc115 := q_eqN c115
                refine lv_aload_n hx hb dX0_slip_118 rfl (lv_at hl 3 rfl) ?_
                refine lv_dup hx hb dX0_slip_119 rfl ?_
                refine va_get (D := (dC, dI)) (ci := 0) (v := .int lfv) (C := RX0) (T := TX0) (N := 15) hx hb hts i_X0 hown hK hP 4 rfl rfl 3 (by decide) k_0 (fun _ h9 => h9) f_fz_bw_3 dX0_slip_120 ?_
                refine lv_iconst (v := 1) hx hb dX0_slip_123 (by decide) ?_
                refine lv_isub hx hb dX0_slip_124 ?_
                refine lv_topi (fun v_87 ev_87 => ?_)
                try have tv_87 := q_sub ev_87 (by omega) (by omega)
                refine va_put (D := (dC, dI)) (ci := 0) (v := .int v_87) (ty := .int) (C := RX0) (T := TX0) (N := 15) hx hb hts i_X0 tyX0 tyX0_ok nmX0 hown hK hP hD hS 4 rfl rfl 3 (by decide) k_0 (fun _ h9 => h9) rfl (by decide +kernel) rfl rfl (by rw [l_fz_bw]; decide) dX0_slip_125 (fun H locs hP hD hS => ?_)
                have hP : va_P (dC, dI) vwCl [(lw, .inr (3, lf)), (lc, .inl (cC, 600, .inl cf)), (lb, .inl (cB, 6, .inl bf)), (lk, .inl (cK, 60, .inl rz_lk)), (bw, .inr (0, (fz_bw.set 3 (.int v_87)))), (tg, .inl (cT, 12, .inl rz_tg)), (en, .inl (cE, 2, .inl rz_en))] H := hP
                have hD : va_D A [(lw, .inr (3, lf)), (lc, .inl (cC, 600, .inl cf)), (lb, .inl (cB, 6, .inl bf)), (lk, .inl (cK, 60, .inl rz_lk)), (bw, .inr (0, (fz_bw.set 3 (.int v_87)))), (tg, .inl (cT, 12, .inl rz_tg)), (en, .inl (cE, 2, .inl rz_en))] := hD
                generalize efs_88 : (fz_bw.set 3 (.int v_87)) = fs_88 at hP hD
                have lfs_88 : fs_88.length = 15 := by rw [← efs_88, List.length_set]; exact l_fz_bw
                have ffs_88_0 : fs_88[0]? = some (.ref tg) := by rw [← efs_88]; exact p1_sn (by decide) f_fz_bw_0
                have ffs_88_1 : fs_88[1]? = some (.ref en) := by rw [← efs_88]; exact p1_sn (by decide) f_fz_bw_1
                have ffs_88_2 : fs_88[2]? = some (.int bcrossings) := by rw [← efs_88]; exact p1_sn (by decide) f_fz_bw_2
                have ffs_88_4 : fs_88[4]? = some (.int bsteps) := by rw [← efs_88]; exact p1_sn (by decide) f_fz_bw_4
                have ffs_88_5 : fs_88[5]? = some (.int bslipped) := by rw [← efs_88]; exact p1_sn (by decide) f_fz_bw_5
                have ffs_88_6 : fs_88[6]? = some (.int bwalk) := by rw [← efs_88]; exact p1_sn (by decide) f_fz_bw_6
                have ffs_88_7 : fs_88[7]? = some (.int bnextStep) := by rw [← efs_88]; exact p1_sn (by decide) f_fz_bw_7
                have ffs_88_8 : fs_88[8]? = some (.int bsides) := by rw [← efs_88]; exact p1_sn (by decide) f_fz_bw_8
                have ffs_88_9 : fs_88[9]? = some (.int blikes) := by rw [← efs_88]; exact p1_sn (by decide) f_fz_bw_9
                have ffs_88_10 : fs_88[10]? = some (.int bsmooth) := by rw [← efs_88]; exact p1_sn (by decide) f_fz_bw_10
                have ffs_88_11 : fs_88[11]? = some (.int bweight) := by rw [← efs_88]; exact p1_sn (by decide) f_fz_bw_11
                have ffs_88_12 : fs_88[12]? = some (.int blength) := by rw [← efs_88]; exact p1_sn (by decide) f_fz_bw_12
                have ffs_88_13 : fs_88[13]? = some (.int bstrike) := by rw [← efs_88]; exact p1_sn (by decide) f_fz_bw_13
                have ffs_88_14 : fs_88[14]? = some (.int bswing) := by rw [← efs_88]; exact p1_sn (by decide) f_fz_bw_14
                have ffs_88_3 : fs_88[3]? = some (.int v_87) := by rw [← efs_88]; exact p1_sa l_fz_bw (by decide)
                refine lv_goto (tgt := 97) hx hb dX0_slip_128 (by decide) ?_
                exact ih97 fs_88 v_87 _ _ _ (by omega) (by omega) lfs_88 ffs_88_0 ffs_88_1 ffs_88_2 ffs_88_3 ffs_88_4 ffs_88_5 ffs_88_6 ffs_88_7 ffs_88_8 ffs_88_9 ffs_88_10 ffs_88_11 ffs_88_12 ffs_88_13 ffs_88_14 (hP.sub [0, 1, 2, 3, 4, 5, 6] rfl) (hD.sub [0, 1, 2, 3, 4, 5, 6] (by decide) rfl) hS (lv_sub hl [0, 1, 2, 3, 4, 5, 6] rfl)
        exact key97 12 bfs bleft _ _ _ (by omega) (by omega) l_bfs f_bfs_0 f_bfs_1 f_bfs_2 f_bfs_3 f_bfs_4 f_bfs_5 f_bfs_6 f_bfs_7 f_bfs_8 f_bfs_9 f_bfs_10 f_bfs_11 f_bfs_12 f_bfs_13 f_bfs_14 hP hD hS (lv_sub hl [0, 1, 2, 3, 4, 5, 6] rfl)
      · have tc16 := q_geN c16
        refine lv_aload_n hx hb dX0_slip_19 rfl (lv_at hl 3 rfl) ?_
        refine lv_iload hx hb dX0_slip_20 (lv_at hl 0 rfl) ?_
        refine lv_iload hx hb dX0_slip_22 (lv_at hl 1 rfl) ?_
        refine lv_aload_n hx hb dX0_slip_24 rfl (lv_at hl 4 rfl) ?_
        refine lv_iconst (v := 2) hx hb dX0_slip_25 (by decide) ?_
        refine lv_iload_n hx hb dX0_slip_26 rfl (lv_at hl 5 rfl) ?_
        refine lv_imul hx hb dX0_slip_27 ?_
        refine lv_topi (fun v_89 ev_89 => ?_)
        try have tv_89 := q_mul ev_89 (by omega) (by omega)
        refine lv_aload_n hx hb dX0_slip_28 rfl (lv_at hl 3 rfl) ?_
        refine lv_iload hx hb dX0_slip_29 (lv_at hl 0 rfl) ?_
        have hPc := hP.sub (ws' := [(lw, .inr (3, lf)), (lc, .inl (cC, 600, .inl cf)), (lb, .inl (cB, 6, .inl bf)), (lk, .inl (cK, 60, .inl rz_lk)), (bw, .inr (0, bfs)), (tg, .inl (cT, 12, .inl rz_tg)), (en, .inl (cE, 2, .inl rz_en))]) [0, 1, 2, 3, 4, 5, 6] rfl
        have hDc := hD.sub (ws' := [(lw, .inr (3, lf)), (lc, .inl (cC, 600, .inl cf)), (lb, .inl (cB, 6, .inl bf)), (lk, .inl (cK, 60, .inl rz_lk)), (bw, .inr (0, bfs)), (tg, .inl (cT, 12, .inl rz_tg)), (en, .inl (cE, 2, .inl rz_en))]) [0, 1, 2, 3, 4, 5, 6] (by decide) rfl
        have hKc := hK.sub (tys' := [(cC, .int), (cB, .int), (cK, .int), (cT, .int), (cE, .int)]) [0, 1, 2, 3, 4] rfl
        have hFc := va_free (wc := [(lw, .inr (3, lf)), (lc, .inl (cC, 600, .inl cf)), (lb, .inl (cB, 6, .inl bf)), (lk, .inl (cK, 60, .inl rz_lk)), (bw, .inr (0, bfs)), (tg, .inl (cT, 12, .inl rz_tg)), (en, .inl (cE, 2, .inl rz_en))]) hD hS hA [0, 1, 2, 3, 4, 5, 6] rfl
        refine va_calli (va_runV (As := [.int v_89, .ref bw, .int ii]) (rest := [.int pu, .int ii, .ref bw]) ⟨hx, hb, hml, hown, hts⟩ (d_ask l dC dI H.size lw lf lc lb lk lus lro lun cC cf cB bf cK rz_lk bw bfs tg en bcrossings bleft bsteps bslipped bwalk bnextStep bsides blikes bsmooth bweight blength bstrike bswing cT rz_tg cE rz_en v_89 ii f_lf_0 f_lf_1 f_lf_2 f_lf_3 f_lf_4 f_lf_5 f_bfs_0 f_bfs_1 f_bfs_2 f_bfs_3 f_bfs_4 f_bfs_5 f_bfs_6 f_bfs_7 f_bfs_8 f_bfs_9 f_bfs_10 f_bfs_11 f_bfs_12 f_bfs_13 f_bfs_14 hr_bf ((by omega)) ((by omega))) (cwV 3 hts (p1_gV m_3 m_4 m_5 m_6 g_d_ask gz_d_ask) rfl rfl rfl (by decide +kernel) ⟨by decide, by decide⟩) ⟨fun a U g mk q => by obtain ⟨q0, q1, qP, qK, qD⟩ := q; exact ⟨q0, q1, qP, va_K.moved (u := U) (U := U.calling g mk a) (Vm.Alike.refl U.vm) qK, qD⟩, va_recv hKc hPc (ci := 3) (q0 := 0) rfl rfl, fun U hU hW => ⟨rfl, by rw [hU], by rw [hU]; exact hPc, va_K.moved hW.alike hKc, hDc.weaken (fun _ _ _ _ => trivial)⟩⟩ rfl rfl hl.1 rfl (lv_room (Nat.le_of_ble_eq_true rfl)) dX0_slip_31 ⟨by decide, by decide⟩) hS (fun q _ h => hFc q h) hFc (fun r_90 u t H1 locs ht hvm hw hB hz1 hk1 hS => ?_)
        obtain ⟨kg_91, z_92, z_93, z_94, z_95, z_96, z_97, z_98, z_99, z_100, z_101, z_102, z_103, z_104, z_105, z_106, z_107, z_108, z_109, z_110, z_111, z_112, z_113, hP1, hK1, hD1⟩ := hB
        rw [ht] at hP1
        obtain ⟨hP, hD⟩ := va_join (wr := []) (w1 := [(lw, .inr (3, lf)), (lc, .inl (cC, 600, .inl cf)), (lb, .inl (cB, 6, .inl bf)), (lk, .inl (cK, 60, .inl kg_91)), (bw, .inr (0, bfs)), (tg, .inl (cT, 12, .inl rz_tg)), (en, .inl (cE, 2, .inl rz_en))]) hP hD [0, 1, 2, 3, 4, 5, 6] [] rfl rfl (by decide) (by decide) hk1 hFc hP1 hD1
        generalize H1 = H at hP hS ⊢
        have hP : va_P (dC, dI) vwCl [(lw, .inr (3, lf)), (lc, .inl (cC, 600, .inl cf)), (lb, .inl (cB, 6, .inl bf)), (lk, .inl (cK, 60, .inl kg_91)), (bw, .inr (0, bfs)), (tg, .inl (cT, 12, .inl rz_tg)), (en, .inl (cE, 2, .inl rz_en))] H := hP
        have hD : va_D A [(lw, .inr (3, lf)), (lc, .inl (cC, 600, .inl cf)), (lb, .inl (cB, 6, .inl bf)), (lk, .inl (cK, 60, .inl kg_91)), (bw, .inr (0, bfs)), (tg, .inl (cT, 12, .inl rz_tg)), (en, .inl (cE, 2, .inl rz_en))] := hD
        try dsimp only at hw
        have hw_114 := hw
        have hPc := hP.sub (ws' := [(bw, .inr (0, bfs)), (tg, .inl (cT, 12, .inl rz_tg))]) [4, 5] rfl
        have hDc := hD.sub (ws' := [(bw, .inr (0, bfs)), (tg, .inl (cT, 12, .inl rz_tg))]) [4, 5] (by decide) rfl
        have hKc := hK.sub (tys' := [(cT, .int)]) [3] rfl
        have hFc := va_free (wc := [(bw, .inr (0, bfs)), (tg, .inl (cT, 12, .inl rz_tg))]) hD hS hA [4, 5] rfl
        refine va_calli (va_runV (As := [.int ii, .int pu, .int r_90]) (rest := []) ⟨hx, hb, hml, hown, hts⟩ (d_slipOf l dC dI H.size bw bfs tg en bcrossings bleft bsteps bslipped bwalk bnextStep bsides blikes bsmooth bweight blength bstrike bswing cT rz_tg ii pu r_90 z_98 z_99 z_100 z_101 z_102 z_103 z_104 z_105 z_106 z_107 z_108 z_109 z_110 z_111 z_112 ((by omega))) (cwV 3 hts (p1_gV m_7 m_8 m_9 m_10 g_d_slipOf gz_d_slipOf) rfl rfl rfl (by decide +kernel) ⟨by decide, by decide⟩) ⟨fun a U g mk q => by obtain ⟨q0, q1, qP, qK, qD⟩ := q; exact ⟨q0, q1, qP, va_K.moved (u := U) (U := U.calling g mk a) (Vm.Alike.refl U.vm) qK, qD⟩, va_recv hKc hPc (ci := 0) (q0 := 0) rfl rfl, fun U hU hW => ⟨rfl, by rw [hU], by rw [hU]; exact hPc, va_K.moved hW.alike hKc, hDc.weaken (fun _ _ _ _ => trivial)⟩⟩ rfl rfl hl.1 rfl (lv_room (Nat.le_of_ble_eq_true rfl)) dX0_slip_34 ⟨by decide, by decide⟩) hS (fun q _ h => hFc q h) hFc (fun r_115 u t H1 locs ht hvm hw hB hz1 hk1 hS => ?_)
        obtain ⟨hP1, hK1, hD1⟩ := hB
        rw [ht] at hP1
        obtain ⟨hP, hD⟩ := va_join (wr := [(lw, .inr (3, lf)), (lc, .inl (cC, 600, .inl cf)), (lb, .inl (cB, 6, .inl bf)), (lk, .inl (cK, 60, .inl kg_91)), (en, .inl (cE, 2, .inl rz_en))]) (w1 := [(bw, .inr (0, bfs)), (tg, .inl (cT, 12, .inl rz_tg))]) hP hD [4, 5] [0, 1, 2, 3, 6] rfl rfl (by decide) (by decide) hk1 hFc hP1 hD1
        generalize H1 = H at hP hS ⊢
        have hP : va_P (dC, dI) vwCl [(lw, .inr (3, lf)), (lc, .inl (cC, 600, .inl cf)), (lb, .inl (cB, 6, .inl bf)), (lk, .inl (cK, 60, .inl kg_91)), (en, .inl (cE, 2, .inl rz_en)), (bw, .inr (0, bfs)), (tg, .inl (cT, 12, .inl rz_tg))] H := hP
        have hD : va_D A [(lw, .inr (3, lf)), (lc, .inl (cC, 600, .inl cf)), (lb, .inl (cB, 6, .inl bf)), (lk, .inl (cK, 60, .inl kg_91)), (en, .inl (cE, 2, .inl rz_en)), (bw, .inr (0, bfs)), (tg, .inl (cT, 12, .inl rz_tg))] := hD
        try dsimp only at hw
        have hw_116 := hw
        refine lv_istore (lv' := [(7, .int r_115), (6, .int ii), (5, .int pu), (4, .int al), (0, .ref bw), (1, .ref lw), (2, .int a1), (3, .int a2)]) hx hb dX0_slip_37 hl (by decide) rfl (fun ls hl => ?_)
        refine lv_iload hx hb dX0_slip_39 (lv_at hl 0 rfl) ?_
        refine lv_if_ne (tgt := 47) hx hb dX0_slip_41 (by decide) (fun c41 => ?_) (fun c41 => ?_)
        · have tc41 := q_ne c41
          refine lv_aload_n hx hb dX0_slip_47 rfl (lv_at hl 4 rfl) ?_
          refine va_get (D := (dC, dI)) (ci := 0) (v := .ref tg) (C := RX0) (T := TX0) (N := 15) hx hb hts i_X0 hown hK hP 5 rfl rfl 0 (by decide) k_2 (fun _ h9 => h9) z_98 dX0_slip_48 ?_
          refine lv_iload hx hb dX0_slip_51 (lv_at hl 1 rfl) ?_
          refine lv_dup2_11 hx hb dX0_slip_53 rfl rfl ?_
          refine va_iald hx hb hK hP 6 3 rfl rfl (q_in (by omega) (by omega)) dX0_slip_54 ?_
          refine lv_topi (fun v_117 ev_117 => ?_)
          have uv_117 : v_117.toInt = (rz_tg ii.toNatClampNeg).toInt := by rw [ev_117]
          refine lv_iload hx hb dX0_slip_55 (lv_at hl 0 rfl) ?_
          refine lv_isub hx hb dX0_slip_57 ?_
          refine lv_topi (fun v_118 ev_118 => ?_)
          try have tv_118 := q_sub ev_118 (by omega) (by omega)
          refine va_iast hx hb hK hP hD hS 6 3 rfl rfl (q_in (by omega) (by omega)) dX0_slip_58 (fun H locs hP hD hS => ?_)
          have hP : va_P (dC, dI) vwCl [(lw, .inr (3, lf)), (lc, .inl (cC, 600, .inl cf)), (lb, .inl (cB, 6, .inl bf)), (lk, .inl (cK, 60, .inl kg_91)), (en, .inl (cE, 2, .inl rz_en)), (bw, .inr (0, bfs)), (tg, .inl (cT, 12, .inl (upd rz_tg ii.toNatClampNeg v_118)))] H := hP
          have hD : va_D A [(lw, .inr (3, lf)), (lc, .inl (cC, 600, .inl cf)), (lb, .inl (cB, 6, .inl bf)), (lk, .inl (cK, 60, .inl kg_91)), (en, .inl (cE, 2, .inl rz_en)), (bw, .inr (0, bfs)), (tg, .inl (cT, 12, .inl (upd rz_tg ii.toNatClampNeg v_118)))] := hD
          generalize eg_119 : (upd rz_tg ii.toNatClampNeg v_118) = g_119 at hP hD
          refine lv_aload_n hx hb dX0_slip_59 rfl (lv_at hl 4 rfl) ?_
          refine va_get (D := (dC, dI)) (ci := 0) (v := .ref en) (C := RX0) (T := TX0) (N := 15) hx hb hts i_X0 hown hK hP 5 rfl rfl 1 (by decide) k_11 (fun _ h9 => h9) z_99 dX0_slip_60 ?_
          refine lv_aload_n hx hb dX0_slip_63 rfl (lv_at hl 4 rfl) ?_
          refine va_get (D := (dC, dI)) (ci := 0) (v := .int bsides) (C := RX0) (T := TX0) (N := 15) hx hb hts i_X0 hown hK hP 5 rfl rfl 8 (by decide) k_12 (fun _ h9 => h9) z_106 dX0_slip_64 ?_
          refine lv_iload hx hb dX0_slip_67 (lv_at hl 1 rfl) ?_
          refine lv_ishr hx hb dX0_slip_69 ?_
          refine lv_topi (fun v_120 ev_120 => ?_)
          refine lv_iconst (v := 1) hx hb dX0_slip_70 (by decide) ?_
          refine lv_iand hx hb dX0_slip_71 ?_
          refine lv_topi (fun v_121 ev_121 => ?_)
          have tv_121 := q_and (k := 1) ev_121 (by decide) (by decide)
          refine lv_dup2_11 hx hb dX0_slip_72 rfl rfl ?_
          refine va_iald hx hb hK hP 4 4 rfl rfl (q_in (by omega) (by omega)) dX0_slip_73 ?_
          refine lv_topi (fun v_122 ev_122 => ?_)
          have uv_122 : v_122.toInt = (rz_en v_121.toNatClampNeg).toInt := by rw [ev_122]
          refine lv_iload hx hb dX0_slip_74 (lv_at hl 0 rfl) ?_
          refine lv_iadd hx hb dX0_slip_76 ?_
          refine lv_topi (fun v_123 ev_123 => ?_)
          try have tv_123 := q_add ev_123 (by omega) (by omega)
          refine va_iast hx hb hK hP hD hS 4 4 rfl rfl (q_in (by omega) (by omega)) dX0_slip_77 (fun H locs hP hD hS => ?_)
          have hP : va_P (dC, dI) vwCl [(lw, .inr (3, lf)), (lc, .inl (cC, 600, .inl cf)), (lb, .inl (cB, 6, .inl bf)), (lk, .inl (cK, 60, .inl kg_91)), (en, .inl (cE, 2, .inl (upd rz_en v_121.toNatClampNeg v_123))), (bw, .inr (0, bfs)), (tg, .inl (cT, 12, .inl g_119))] H := hP
          have hD : va_D A [(lw, .inr (3, lf)), (lc, .inl (cC, 600, .inl cf)), (lb, .inl (cB, 6, .inl bf)), (lk, .inl (cK, 60, .inl kg_91)), (en, .inl (cE, 2, .inl (upd rz_en v_121.toNatClampNeg v_123))), (bw, .inr (0, bfs)), (tg, .inl (cT, 12, .inl g_119))] := hD
          generalize eg_124 : (upd rz_en v_121.toNatClampNeg v_123) = g_124 at hP hD
          refine lv_iload hx hb dX0_slip_78 (lv_at hl 3 rfl) ?_
          refine lv_iload hx hb dX0_slip_80 (lv_at hl 0 rfl) ?_
          refine lv_iadd hx hb dX0_slip_82 ?_
          refine lv_topi (fun v_125 ev_125 => ?_)
          try have tv_125 := q_add ev_125 (by omega) (by omega)
          refine lv_istore (lv' := [(4, .int v_125), (7, .int r_115), (6, .int ii), (5, .int pu), (0, .ref bw), (1, .ref lw), (2, .int a1), (3, .int a2)]) hx hb dX0_slip_83 hl (by decide) rfl (fun ls hl => ?_)
          refine lv_iconst (v := 4) hx hb dX0_slip_85 (by decide) ?_
          refine lv_iload hx hb dX0_slip_86 (lv_at hl 1 rfl) ?_
          refine lv_imul hx hb dX0_slip_88 ?_
          refine lv_topi (fun v_126 ev_126 => ?_)
          try have tv_126 := q_mul ev_126 (by omega) (by omega)
          refine lv_istore (lv' := [(5, .int v_126), (4, .int v_125), (7, .int r_115), (6, .int ii), (0, .ref bw), (1, .ref lw), (2, .int a1), (3, .int a2)]) hx hb dX0_slip_89 hl (by decide) rfl (fun ls hl => ?_)
          obtain ⟨v_127, ev_127⟩ : ∃ y : Int32, y = ii + (-1) := ⟨_, rfl⟩
          try have tv_127 := q_add ev_127 (by omega) (by omega)
          refine lv_iinc (v := v_127) (lv' := [(6, .int v_127), (5, .int v_126), (4, .int v_125), (7, .int r_115), (0, .ref bw), (1, .ref lw), (2, .int a1), (3, .int a2)]) hx hb dX0_slip_91 hl (k := 3) rfl (by rw [ev_127]; rfl) (by decide) rfl (fun ls hl => ?_)
          refine lv_goto (tgt := 14) hx hb dX0_slip_94 (by decide) ?_
          exact ih14 v_125 v_126 v_127 g_119 g_124 kg_91 _ _ _ (by omega) (by omega) (hP.sub [0, 1, 2, 3, 5, 6, 4] rfl) (hD.sub [0, 1, 2, 3, 5, 6, 4] (by decide) rfl) hS (lv_sub hl [0, 1, 2, 4, 5, 6, 7] rfl)
        · have tc41 := q_eqN c41
          refine lv_goto (tgt := 97) hx hb dX0_slip_44 (by decide) ?_
          have key97 : ∀ (fu : Nat) (fz_bw : List Value) (lfv : Int32) (H : Heap) (locs : List Loc) (ls : Array Slot) (hfu : lfv.toInt ≤ (fu : Int)) (hp0 : 0 ≤ lfv.toInt ∧ lfv.toInt ≤ bleft.toInt) (l_fz_bw : fz_bw.length = 15) (f_fz_bw_0 : fz_bw[0]? = some (.ref tg)) (f_fz_bw_1 : fz_bw[1]? = some (.ref en)) (f_fz_bw_2 : fz_bw[2]? = some (.int bcrossings)) (f_fz_bw_3 : fz_bw[3]? = some (.int lfv)) (f_fz_bw_4 : fz_bw[4]? = some (.int bsteps)) (f_fz_bw_5 : fz_bw[5]? = some (.int bslipped)) (f_fz_bw_6 : fz_bw[6]? = some (.int bwalk)) (f_fz_bw_7 : fz_bw[7]? = some (.int bnextStep)) (f_fz_bw_8 : fz_bw[8]? = some (.int bsides)) (f_fz_bw_9 : fz_bw[9]? = some (.int blikes)) (f_fz_bw_10 : fz_bw[10]? = some (.int bsmooth)) (f_fz_bw_11 : fz_bw[11]? = some (.int bweight)) (f_fz_bw_12 : fz_bw[12]? = some (.int blength)) (f_fz_bw_13 : fz_bw[13]? = some (.int bstrike)) (f_fz_bw_14 : fz_bw[14]? = some (.int bswing)), va_P (dC, dI) vwCl [(lw, .inr (3, lf)), (lc, .inl (cC, 600, .inl cf)), (lb, .inl (cB, 6, .inl bf)), (lk, .inl (cK, 60, .inl kg_91)), (en, .inl (cE, 2, .inl rz_en)), (bw, .inr (0, fz_bw)), (tg, .inl (cT, 12, .inl rz_tg))] H → va_D A [(lw, .inr (3, lf)), (lc, .inl (cC, 600, .inl cf)), (lb, .inl (cB, 6, .inl bf)), (lk, .inl (cK, 60, .inl kg_91)), (en, .inl (cE, 2, .inl rz_en)), (bw, .inr (0, fz_bw)), (tg, .inl (cT, 12, .inl rz_tg))] → va_S A s.heap H locs → lv_has ls 8 [(7, .int r_115), (6, .int ii), (5, .int pu), (4, .int al), (0, .ref bw), (1, .ref lw), (2, .int a1), (3, .int a2)] → W p l e (headSpec zw_d_slip { frames := 2, cells := 0, slots := 0, locals := 49 }).room s m ([.ref bw, .ref lw, .int a1, .int a2] : List Value).toArray below meth c H locs 0 0 (MQ below (va_Qi (fun (r : Int32) (_ : Unit) => True) (fun _ t => ∃ (kg : Nat → Int32) (bg : List Value) (olf : Int32) (osl : Int32) (tg2 : Nat → Int32) (eg2 : Nat → Int32), lf[0]? = some (.ref lc) ∧ lf[1]? = some (.ref lb) ∧ lf[2]? = some (.ref lk) ∧ lf[3]? = some (.int lus) ∧ lf[4]? = some (.int lro) ∧ lf[5]? = some (.int lun) ∧ bg.length = 15 ∧ bg[0]? = some (.ref tg) ∧ bg[1]? = some (.ref en) ∧ bg[2]? = some (.int bcrossings) ∧ bg[3]? = some (.int olf) ∧ bg[4]? = some (.int bsteps) ∧ bg[5]? = some (.int osl) ∧ bg[6]? = some (.int bwalk) ∧ bg[7]? = some (.int bnextStep) ∧ bg[8]? = some (.int bsides) ∧ bg[9]? = some (.int blikes) ∧ bg[10]? = some (.int bsmooth) ∧ bg[11]? = some (.int bweight) ∧ bg[12]? = some (.int blength) ∧ bg[13]? = some (.int bstrike) ∧ bg[14]? = some (.int bswing) ∧ (∀ k, k < 6 → 0 ≤ ((bf k)).toInt ∧ ((bf k)).toInt ≤ 600) ∧ (0 ≤ olf.toInt ∧ olf.toInt ≤ bleft.toInt) ∧ va_P (dC, dI) vwCl [(lw, .inr (3, lf)), (lc, .inl (cC, 600, .inl cf)), (lb, .inl (cB, 6, .inl bf)), (lk, .inl (cK, 60, .inl kg)), (bw, .inr (0, bg)), (tg, .inl (cT, 12, .inl tg2)), (en, .inl (cE, 2, .inl eg2))] t.heap ∧ va_K (dC, dI) vwCl [] t ∧ va_D A [(lw, .inr (3, lf)), (lc, .inl (cC, 600, .inl cf)), (lb, .inl (cB, 6, .inl bf)), (lk, .inl (cK, 60, .inl kg)), (bw, .inr (0, bg)), (tg, .inl (cT, 12, .inl tg2)), (en, .inl (cE, 2, .inl eg2))]) A) ([.ref bw, .ref lw, .int a1, .int a2] : List Value).toArray s 0 0 A) (F0 m 97 ls []) := by
            intro fu
            induction fu with
            | zero =>
              intro fz_bw lfv H locs ls hfu hp0 l_fz_bw f_fz_bw_0 f_fz_bw_1 f_fz_bw_2 f_fz_bw_3 f_fz_bw_4 f_fz_bw_5 f_fz_bw_6 f_fz_bw_7 f_fz_bw_8 f_fz_bw_9 f_fz_bw_10 f_fz_bw_11 f_fz_bw_12 f_fz_bw_13 f_fz_bw_14 hP hD hS hl
              refine lv_aload_n hx hb dX0_slip_97 rfl (lv_at hl 4 rfl) ?_
              refine va_get (D := (dC, dI)) (ci := 0) (v := .int lfv) (C := RX0) (T := TX0) (N := 15) hx hb hts i_X0 hown hK hP 5 rfl rfl 3 (by decide) k_0 (fun _ h9 => h9) f_fz_bw_3 dX0_slip_98 ?_
              refine lv_if_le (tgt := 131) hx hb dX0_slip_101 (by decide) (fun c101 => ?_) (fun c101 => ?_)
              · have tc101 := q_le c101
                refine lv_aload_n hx hb dX0_slip_131 rfl (lv_at hl 4 rfl) ?_
                refine lv_dup hx hb dX0_slip_132 rfl ?_
                refine va_get (D := (dC, dI)) (ci := 0) (v := .int bslipped) (C := RX0) (T := TX0) (N := 15) hx hb hts i_X0 hown hK hP 5 rfl rfl 5 (by decide) k_1 (fun _ h9 => h9) f_fz_bw_5 dX0_slip_133 ?_
                refine lv_iload hx hb dX0_slip_136 (lv_at hl 3 rfl) ?_
                refine lv_iadd hx hb dX0_slip_138 ?_
                refine lv_topi (fun v_128 ev_128 => ?_)
                try have tv_128 := q_add ev_128 (by omega) (by omega)
                refine va_put (D := (dC, dI)) (ci := 0) (v := .int v_128) (ty := .int) (C := RX0) (T := TX0) (N := 15) hx hb hts i_X0 tyX0 tyX0_ok nmX0 hown hK hP hD hS 5 rfl rfl 5 (by decide) k_1 (fun _ h9 => h9) rfl (by decide +kernel) rfl rfl (by rw [l_fz_bw]; decide) dX0_slip_139 (fun H locs hP hD hS => ?_)
                have hP : va_P (dC, dI) vwCl [(lw, .inr (3, lf)), (lc, .inl (cC, 600, .inl cf)), (lb, .inl (cB, 6, .inl bf)), (lk, .inl (cK, 60, .inl kg_91)), (en, .inl (cE, 2, .inl rz_en)), (bw, .inr (0, (fz_bw.set 5 (.int v_128)))), (tg, .inl (cT, 12, .inl rz_tg))] H := hP
                have hD : va_D A [(lw, .inr (3, lf)), (lc, .inl (cC, 600, .inl cf)), (lb, .inl (cB, 6, .inl bf)), (lk, .inl (cK, 60, .inl kg_91)), (en, .inl (cE, 2, .inl rz_en)), (bw, .inr (0, (fz_bw.set 5 (.int v_128)))), (tg, .inl (cT, 12, .inl rz_tg))] := hD
                generalize efs_129 : (fz_bw.set 5 (.int v_128)) = fs_129 at hP hD
                have lfs_129 : fs_129.length = 15 := by rw [← efs_129, List.length_set]; exact l_fz_bw
                have ffs_129_0 : fs_129[0]? = some (.ref tg) := by rw [← efs_129]; exact p1_sn (by decide) f_fz_bw_0
                have ffs_129_1 : fs_129[1]? = some (.ref en) := by rw [← efs_129]; exact p1_sn (by decide) f_fz_bw_1
                have ffs_129_2 : fs_129[2]? = some (.int bcrossings) := by rw [← efs_129]; exact p1_sn (by decide) f_fz_bw_2
                have ffs_129_3 : fs_129[3]? = some (.int lfv) := by rw [← efs_129]; exact p1_sn (by decide) f_fz_bw_3
                have ffs_129_4 : fs_129[4]? = some (.int bsteps) := by rw [← efs_129]; exact p1_sn (by decide) f_fz_bw_4
                have ffs_129_6 : fs_129[6]? = some (.int bwalk) := by rw [← efs_129]; exact p1_sn (by decide) f_fz_bw_6
                have ffs_129_7 : fs_129[7]? = some (.int bnextStep) := by rw [← efs_129]; exact p1_sn (by decide) f_fz_bw_7
                have ffs_129_8 : fs_129[8]? = some (.int bsides) := by rw [← efs_129]; exact p1_sn (by decide) f_fz_bw_8
                have ffs_129_9 : fs_129[9]? = some (.int blikes) := by rw [← efs_129]; exact p1_sn (by decide) f_fz_bw_9
                have ffs_129_10 : fs_129[10]? = some (.int bsmooth) := by rw [← efs_129]; exact p1_sn (by decide) f_fz_bw_10
                have ffs_129_11 : fs_129[11]? = some (.int bweight) := by rw [← efs_129]; exact p1_sn (by decide) f_fz_bw_11
                have ffs_129_12 : fs_129[12]? = some (.int blength) := by rw [← efs_129]; exact p1_sn (by decide) f_fz_bw_12
                have ffs_129_13 : fs_129[13]? = some (.int bstrike) := by rw [← efs_129]; exact p1_sn (by decide) f_fz_bw_13
                have ffs_129_14 : fs_129[14]? = some (.int bswing) := by rw [← efs_129]; exact p1_sn (by decide) f_fz_bw_14
                have ffs_129_5 : fs_129[5]? = some (.int v_128) := by rw [← efs_129]; exact p1_sa l_fz_bw (by decide)
                refine lv_iload hx hb dX0_slip_142 (lv_at hl 3 rfl) ?_
                have hP9 := hP.sub (ws' := [(lw, .inr (3, lf)), (lc, .inl (cC, 600, .inl cf)), (lb, .inl (cB, 6, .inl bf)), (lk, .inl (cK, 60, .inl kg_91)), (bw, .inr (0, fs_129)), (tg, .inl (cT, 12, .inl rz_tg)), (en, .inl (cE, 2, .inl rz_en))]) [0, 1, 2, 3, 5, 6, 4] rfl
                have hD9 := hD.sub (ws' := [(lw, .inr (3, lf)), (lc, .inl (cC, 600, .inl cf)), (lb, .inl (cB, 6, .inl bf)), (lk, .inl (cK, 60, .inl kg_91)), (bw, .inr (0, fs_129)), (tg, .inl (cT, 12, .inl rz_tg)), (en, .inl (cE, 2, .inl rz_en))]) [0, 1, 2, 3, 5, 6, 4] (by decide) rfl
                have hK9 := hK.sub (tys' := []) [] rfl
                exact W.iret (v := al) hx hb hr (fun t ht hW => ⟨⟨al, (), rfl, trivial, kg_91, fs_129, lfv, v_128, rz_tg, rz_en, z_92, z_93, z_94, z_95, z_96, z_97, lfs_129, ffs_129_0, ffs_129_1, ffs_129_2, ffs_129_3, ffs_129_4, ffs_129_5, ffs_129_6, ffs_129_7, ffs_129_8, ffs_129_9, ffs_129_10, ffs_129_11, ffs_129_12, ffs_129_13, ffs_129_14, z_113, (by first | rfl | omega | exact ⟨by omega, by omega⟩), by rw [ht]; exact hP9, va_K.moved hW.alike hK9, hD9⟩, hS.F ht⟩) hS.2.2 dX0_slip_144
              · have tc101 := q_gtN c101
                refine lv_aload_n hx hb dX0_slip_104 rfl (lv_at hl 4 rfl) ?_
                refine va_get (D := (dC, dI)) (ci := 0) (v := .ref tg) (C := RX0) (T := TX0) (N := 15) hx hb hts i_X0 hown hK hP 5 rfl rfl 0 (by decide) k_2 (fun _ h9 => h9) f_fz_bw_0 dX0_slip_105 ?_
                refine lv_aload_n hx hb dX0_slip_108 rfl (lv_at hl 4 rfl) ?_
                refine va_get (D := (dC, dI)) (ci := 0) (v := .int lfv) (C := RX0) (T := TX0) (N := 15) hx hb hts i_X0 hown hK hP 5 rfl rfl 3 (by decide) k_0 (fun _ h9 => h9) f_fz_bw_3 dX0_slip_109 ?_
                refine lv_iconst (v := 1) hx hb dX0_slip_112 (by decide) ?_
                refine lv_isub hx hb dX0_slip_113 ?_
                refine lv_topi (fun v_130 ev_130 => ?_)
                try have tv_130 := q_sub ev_130 (by omega) (by omega)
                refine va_iald hx hb hK hP 6 3 rfl rfl (q_in (by omega) (by omega)) dX0_slip_114 ?_
                refine lv_topi (fun v_131 ev_131 => ?_)
                have uv_131 : v_131.toInt = (rz_tg v_130.toNatClampNeg).toInt := by rw [ev_131]
                refine lv_if_ne (tgt := 131) hx hb dX0_slip_115 (by decide) (fun c115 => ?_) (fun c115 => ?_)
                · have tc115 := q_ne c115
                  refine lv_aload_n hx hb dX0_slip_131 rfl (lv_at hl 4 rfl) ?_
                  refine lv_dup hx hb dX0_slip_132 rfl ?_
                  refine va_get (D := (dC, dI)) (ci := 0) (v := .int bslipped) (C := RX0) (T := TX0) (N := 15) hx hb hts i_X0 hown hK hP 5 rfl rfl 5 (by decide) k_1 (fun _ h9 => h9) f_fz_bw_5 dX0_slip_133 ?_
                  refine lv_iload hx hb dX0_slip_136 (lv_at hl 3 rfl) ?_
                  refine lv_iadd hx hb dX0_slip_138 ?_
                  refine lv_topi (fun v_132 ev_132 => ?_)
                  try have tv_132 := q_add ev_132 (by omega) (by omega)
                  refine va_put (D := (dC, dI)) (ci := 0) (v := .int v_132) (ty := .int) (C := RX0) (T := TX0) (N := 15) hx hb hts i_X0 tyX0 tyX0_ok nmX0 hown hK hP hD hS 5 rfl rfl 5 (by decide) k_1 (fun _ h9 => h9) rfl (by decide +kernel) rfl rfl (by rw [l_fz_bw]; decide) dX0_slip_139 (fun H locs hP hD hS => ?_)
                  have hP : va_P (dC, dI) vwCl [(lw, .inr (3, lf)), (lc, .inl (cC, 600, .inl cf)), (lb, .inl (cB, 6, .inl bf)), (lk, .inl (cK, 60, .inl kg_91)), (en, .inl (cE, 2, .inl rz_en)), (bw, .inr (0, (fz_bw.set 5 (.int v_132)))), (tg, .inl (cT, 12, .inl rz_tg))] H := hP
                  have hD : va_D A [(lw, .inr (3, lf)), (lc, .inl (cC, 600, .inl cf)), (lb, .inl (cB, 6, .inl bf)), (lk, .inl (cK, 60, .inl kg_91)), (en, .inl (cE, 2, .inl rz_en)), (bw, .inr (0, (fz_bw.set 5 (.int v_132)))), (tg, .inl (cT, 12, .inl rz_tg))] := hD
                  generalize efs_133 : (fz_bw.set 5 (.int v_132)) = fs_133 at hP hD
                  have lfs_133 : fs_133.length = 15 := by rw [← efs_133, List.length_set]; exact l_fz_bw
                  have ffs_133_0 : fs_133[0]? = some (.ref tg) := by rw [← efs_133]; exact p1_sn (by decide) f_fz_bw_0
                  have ffs_133_1 : fs_133[1]? = some (.ref en) := by rw [← efs_133]; exact p1_sn (by decide) f_fz_bw_1
                  have ffs_133_2 : fs_133[2]? = some (.int bcrossings) := by rw [← efs_133]; exact p1_sn (by decide) f_fz_bw_2
                  have ffs_133_3 : fs_133[3]? = some (.int lfv) := by rw [← efs_133]; exact p1_sn (by decide) f_fz_bw_3
                  have ffs_133_4 : fs_133[4]? = some (.int bsteps) := by rw [← efs_133]; exact p1_sn (by decide) f_fz_bw_4
                  have ffs_133_6 : fs_133[6]? = some (.int bwalk) := by rw [← efs_133]; exact p1_sn (by decide) f_fz_bw_6
                  have ffs_133_7 : fs_133[7]? = some (.int bnextStep) := by rw [← efs_133]; exact p1_sn (by decide) f_fz_bw_7
                  have ffs_133_8 : fs_133[8]? = some (.int bsides) := by rw [← efs_133]; exact p1_sn (by decide) f_fz_bw_8
                  have ffs_133_9 : fs_133[9]? = some (.int blikes) := by rw [← efs_133]; exact p1_sn (by decide) f_fz_bw_9
                  have ffs_133_10 : fs_133[10]? = some (.int bsmooth) := by rw [← efs_133]; exact p1_sn (by decide) f_fz_bw_10
                  have ffs_133_11 : fs_133[11]? = some (.int bweight) := by rw [← efs_133]; exact p1_sn (by decide) f_fz_bw_11
                  have ffs_133_12 : fs_133[12]? = some (.int blength) := by rw [← efs_133]; exact p1_sn (by decide) f_fz_bw_12
                  have ffs_133_13 : fs_133[13]? = some (.int bstrike) := by rw [← efs_133]; exact p1_sn (by decide) f_fz_bw_13
                  have ffs_133_14 : fs_133[14]? = some (.int bswing) := by rw [← efs_133]; exact p1_sn (by decide) f_fz_bw_14
                  have ffs_133_5 : fs_133[5]? = some (.int v_132) := by rw [← efs_133]; exact p1_sa l_fz_bw (by decide)
                  refine lv_iload hx hb dX0_slip_142 (lv_at hl 3 rfl) ?_
                  have hP9 := hP.sub (ws' := [(lw, .inr (3, lf)), (lc, .inl (cC, 600, .inl cf)), (lb, .inl (cB, 6, .inl bf)), (lk, .inl (cK, 60, .inl kg_91)), (bw, .inr (0, fs_133)), (tg, .inl (cT, 12, .inl rz_tg)), (en, .inl (cE, 2, .inl rz_en))]) [0, 1, 2, 3, 5, 6, 4] rfl
                  have hD9 := hD.sub (ws' := [(lw, .inr (3, lf)), (lc, .inl (cC, 600, .inl cf)), (lb, .inl (cB, 6, .inl bf)), (lk, .inl (cK, 60, .inl kg_91)), (bw, .inr (0, fs_133)), (tg, .inl (cT, 12, .inl rz_tg)), (en, .inl (cE, 2, .inl rz_en))]) [0, 1, 2, 3, 5, 6, 4] (by decide) rfl
                  have hK9 := hK.sub (tys' := []) [] rfl
                  exact W.iret (v := al) hx hb hr (fun t ht hW => ⟨⟨al, (), rfl, trivial, kg_91, fs_133, lfv, v_132, rz_tg, rz_en, z_92, z_93, z_94, z_95, z_96, z_97, lfs_133, ffs_133_0, ffs_133_1, ffs_133_2, ffs_133_3, ffs_133_4, ffs_133_5, ffs_133_6, ffs_133_7, ffs_133_8, ffs_133_9, ffs_133_10, ffs_133_11, ffs_133_12, ffs_133_13, ffs_133_14, z_113, (by first | rfl | omega | exact ⟨by omega, by omega⟩), by rw [ht]; exact hP9, va_K.moved hW.alike hK9, hD9⟩, hS.F ht⟩) hS.2.2 dX0_slip_144
                · have tc115 := q_eqN c115
                  refine lv_aload_n hx hb dX0_slip_118 rfl (lv_at hl 4 rfl) ?_
                  refine lv_dup hx hb dX0_slip_119 rfl ?_
                  refine va_get (D := (dC, dI)) (ci := 0) (v := .int lfv) (C := RX0) (T := TX0) (N := 15) hx hb hts i_X0 hown hK hP 5 rfl rfl 3 (by decide) k_0 (fun _ h9 => h9) f_fz_bw_3 dX0_slip_120 ?_
                  refine lv_iconst (v := 1) hx hb dX0_slip_123 (by decide) ?_
                  refine lv_isub hx hb dX0_slip_124 ?_
                  refine lv_topi (fun v_134 ev_134 => ?_)
                  try have tv_134 := q_sub ev_134 (by omega) (by omega)
                  refine va_put (D := (dC, dI)) (ci := 0) (v := .int v_134) (ty := .int) (C := RX0) (T := TX0) (N := 15) hx hb hts i_X0 tyX0 tyX0_ok nmX0 hown hK hP hD hS 5 rfl rfl 3 (by decide) k_0 (fun _ h9 => h9) rfl (by decide +kernel) rfl rfl (by rw [l_fz_bw]; decide) dX0_slip_125 (fun H locs hP hD hS => ?_)
                  have hP : va_P (dC, dI) vwCl [(lw, .inr (3, lf)), (lc, .inl (cC, 600, .inl cf)), (lb, .inl (cB, 6, .inl bf)), (lk, .inl (cK, 60, .inl kg_91)), (en, .inl (cE, 2, .inl rz_en)), (bw, .inr (0, (fz_bw.set 3 (.int v_134)))), (tg, .inl (cT, 12, .inl rz_tg))] H := hP
                  have hD : va_D A [(lw, .inr (3, lf)), (lc, .inl (cC, 600, .inl cf)), (lb, .inl (cB, 6, .inl bf)), (lk, .inl (cK, 60, .inl kg_91)), (en, .inl (cE, 2, .inl rz_en)), (bw, .inr (0, (fz_bw.set 3 (.int v_134)))), (tg, .inl (cT, 12, .inl rz_tg))] := hD
                  generalize efs_135 : (fz_bw.set 3 (.int v_134)) = fs_135 at hP hD
                  have lfs_135 : fs_135.length = 15 := by rw [← efs_135, List.length_set]; exact l_fz_bw
                  have ffs_135_0 : fs_135[0]? = some (.ref tg) := by rw [← efs_135]; exact p1_sn (by decide) f_fz_bw_0
                  have ffs_135_1 : fs_135[1]? = some (.ref en) := by rw [← efs_135]; exact p1_sn (by decide) f_fz_bw_1
                  have ffs_135_2 : fs_135[2]? = some (.int bcrossings) := by rw [← efs_135]; exact p1_sn (by decide) f_fz_bw_2
                  have ffs_135_4 : fs_135[4]? = some (.int bsteps) := by rw [← efs_135]; exact p1_sn (by decide) f_fz_bw_4
                  have ffs_135_5 : fs_135[5]? = some (.int bslipped) := by rw [← efs_135]; exact p1_sn (by decide) f_fz_bw_5
                  have ffs_135_6 : fs_135[6]? = some (.int bwalk) := by rw [← efs_135]; exact p1_sn (by decide) f_fz_bw_6
                  have ffs_135_7 : fs_135[7]? = some (.int bnextStep) := by rw [← efs_135]; exact p1_sn (by decide) f_fz_bw_7
                  have ffs_135_8 : fs_135[8]? = some (.int bsides) := by rw [← efs_135]; exact p1_sn (by decide) f_fz_bw_8
                  have ffs_135_9 : fs_135[9]? = some (.int blikes) := by rw [← efs_135]; exact p1_sn (by decide) f_fz_bw_9
                  have ffs_135_10 : fs_135[10]? = some (.int bsmooth) := by rw [← efs_135]; exact p1_sn (by decide) f_fz_bw_10
                  have ffs_135_11 : fs_135[11]? = some (.int bweight) := by rw [← efs_135]; exact p1_sn (by decide) f_fz_bw_11
                  have ffs_135_12 : fs_135[12]? = some (.int blength) := by rw [← efs_135]; exact p1_sn (by decide) f_fz_bw_12
                  have ffs_135_13 : fs_135[13]? = some (.int bstrike) := by rw [← efs_135]; exact p1_sn (by decide) f_fz_bw_13
                  have ffs_135_14 : fs_135[14]? = some (.int bswing) := by rw [← efs_135]; exact p1_sn (by decide) f_fz_bw_14
                  have ffs_135_3 : fs_135[3]? = some (.int v_134) := by rw [← efs_135]; exact p1_sa l_fz_bw (by decide)
                  refine lv_goto (tgt := 97) hx hb dX0_slip_128 (by decide) ?_
                  exfalso; omega
            | succ fu ih97 =>
              intro fz_bw lfv H locs ls hfu hp0 l_fz_bw f_fz_bw_0 f_fz_bw_1 f_fz_bw_2 f_fz_bw_3 f_fz_bw_4 f_fz_bw_5 f_fz_bw_6 f_fz_bw_7 f_fz_bw_8 f_fz_bw_9 f_fz_bw_10 f_fz_bw_11 f_fz_bw_12 f_fz_bw_13 f_fz_bw_14 hP hD hS hl
              refine lv_aload_n hx hb dX0_slip_97 rfl (lv_at hl 4 rfl) ?_
              refine va_get (D := (dC, dI)) (ci := 0) (v := .int lfv) (C := RX0) (T := TX0) (N := 15) hx hb hts i_X0 hown hK hP 5 rfl rfl 3 (by decide) k_0 (fun _ h9 => h9) f_fz_bw_3 dX0_slip_98 ?_
              refine lv_if_le (tgt := 131) hx hb dX0_slip_101 (by decide) (fun c101 => ?_) (fun c101 => ?_)
              · have tc101 := q_le c101
                refine lv_aload_n hx hb dX0_slip_131 rfl (lv_at hl 4 rfl) ?_
                refine lv_dup hx hb dX0_slip_132 rfl ?_
                refine va_get (D := (dC, dI)) (ci := 0) (v := .int bslipped) (C := RX0) (T := TX0) (N := 15) hx hb hts i_X0 hown hK hP 5 rfl rfl 5 (by decide) k_1 (fun _ h9 => h9) f_fz_bw_5 dX0_slip_133 ?_
                refine lv_iload hx hb dX0_slip_136 (lv_at hl 3 rfl) ?_
                refine lv_iadd hx hb dX0_slip_138 ?_
                refine lv_topi (fun v_136 ev_136 => ?_)
                try have tv_136 := q_add ev_136 (by omega) (by omega)
                refine va_put (D := (dC, dI)) (ci := 0) (v := .int v_136) (ty := .int) (C := RX0) (T := TX0) (N := 15) hx hb hts i_X0 tyX0 tyX0_ok nmX0 hown hK hP hD hS 5 rfl rfl 5 (by decide) k_1 (fun _ h9 => h9) rfl (by decide +kernel) rfl rfl (by rw [l_fz_bw]; decide) dX0_slip_139 (fun H locs hP hD hS => ?_)
                have hP : va_P (dC, dI) vwCl [(lw, .inr (3, lf)), (lc, .inl (cC, 600, .inl cf)), (lb, .inl (cB, 6, .inl bf)), (lk, .inl (cK, 60, .inl kg_91)), (en, .inl (cE, 2, .inl rz_en)), (bw, .inr (0, (fz_bw.set 5 (.int v_136)))), (tg, .inl (cT, 12, .inl rz_tg))] H := hP
                have hD : va_D A [(lw, .inr (3, lf)), (lc, .inl (cC, 600, .inl cf)), (lb, .inl (cB, 6, .inl bf)), (lk, .inl (cK, 60, .inl kg_91)), (en, .inl (cE, 2, .inl rz_en)), (bw, .inr (0, (fz_bw.set 5 (.int v_136)))), (tg, .inl (cT, 12, .inl rz_tg))] := hD
                generalize efs_137 : (fz_bw.set 5 (.int v_136)) = fs_137 at hP hD
                have lfs_137 : fs_137.length = 15 := by rw [← efs_137, List.length_set]; exact l_fz_bw
                have ffs_137_0 : fs_137[0]? = some (.ref tg) := by rw [← efs_137]; exact p1_sn (by decide) f_fz_bw_0
                have ffs_137_1 : fs_137[1]? = some (.ref en) := by rw [← efs_137]; exact p1_sn (by decide) f_fz_bw_1
                have ffs_137_2 : fs_137[2]? = some (.int bcrossings) := by rw [← efs_137]; exact p1_sn (by decide) f_fz_bw_2
                have ffs_137_3 : fs_137[3]? = some (.int lfv) := by rw [← efs_137]; exact p1_sn (by decide) f_fz_bw_3
                have ffs_137_4 : fs_137[4]? = some (.int bsteps) := by rw [← efs_137]; exact p1_sn (by decide) f_fz_bw_4
                have ffs_137_6 : fs_137[6]? = some (.int bwalk) := by rw [← efs_137]; exact p1_sn (by decide) f_fz_bw_6
                have ffs_137_7 : fs_137[7]? = some (.int bnextStep) := by rw [← efs_137]; exact p1_sn (by decide) f_fz_bw_7
                have ffs_137_8 : fs_137[8]? = some (.int bsides) := by rw [← efs_137]; exact p1_sn (by decide) f_fz_bw_8
                have ffs_137_9 : fs_137[9]? = some (.int blikes) := by rw [← efs_137]; exact p1_sn (by decide) f_fz_bw_9
                have ffs_137_10 : fs_137[10]? = some (.int bsmooth) := by rw [← efs_137]; exact p1_sn (by decide) f_fz_bw_10
                have ffs_137_11 : fs_137[11]? = some (.int bweight) := by rw [← efs_137]; exact p1_sn (by decide) f_fz_bw_11
                have ffs_137_12 : fs_137[12]? = some (.int blength) := by rw [← efs_137]; exact p1_sn (by decide) f_fz_bw_12
                have ffs_137_13 : fs_137[13]? = some (.int bstrike) := by rw [← efs_137]; exact p1_sn (by decide) f_fz_bw_13
                have ffs_137_14 : fs_137[14]? = some (.int bswing) := by rw [← efs_137]; exact p1_sn (by decide) f_fz_bw_14
                have ffs_137_5 : fs_137[5]? = some (.int v_136) := by rw [← efs_137]; exact p1_sa l_fz_bw (by decide)
                refine lv_iload hx hb dX0_slip_142 (lv_at hl 3 rfl) ?_
                have hP9 := hP.sub (ws' := [(lw, .inr (3, lf)), (lc, .inl (cC, 600, .inl cf)), (lb, .inl (cB, 6, .inl bf)), (lk, .inl (cK, 60, .inl kg_91)), (bw, .inr (0, fs_137)), (tg, .inl (cT, 12, .inl rz_tg)), (en, .inl (cE, 2, .inl rz_en))]) [0, 1, 2, 3, 5, 6, 4] rfl
                have hD9 := hD.sub (ws' := [(lw, .inr (3, lf)), (lc, .inl (cC, 600, .inl cf)), (lb, .inl (cB, 6, .inl bf)), (lk, .inl (cK, 60, .inl kg_91)), (bw, .inr (0, fs_137)), (tg, .inl (cT, 12, .inl rz_tg)), (en, .inl (cE, 2, .inl rz_en))]) [0, 1, 2, 3, 5, 6, 4] (by decide) rfl
                have hK9 := hK.sub (tys' := []) [] rfl
                exact W.iret (v := al) hx hb hr (fun t ht hW => ⟨⟨al, (), rfl, trivial, kg_91, fs_137, lfv, v_136, rz_tg, rz_en, z_92, z_93, z_94, z_95, z_96, z_97, lfs_137, ffs_137_0, ffs_137_1, ffs_137_2, ffs_137_3, ffs_137_4, ffs_137_5, ffs_137_6, ffs_137_7, ffs_137_8, ffs_137_9, ffs_137_10, ffs_137_11, ffs_137_12, ffs_137_13, ffs_137_14, z_113, (by first | rfl | omega | exact ⟨by omega, by omega⟩), by rw [ht]; exact hP9, va_K.moved hW.alike hK9, hD9⟩, hS.F ht⟩) hS.2.2 dX0_slip_144
              · have tc101 := q_gtN c101
                refine lv_aload_n hx hb dX0_slip_104 rfl (lv_at hl 4 rfl) ?_
                refine va_get (D := (dC, dI)) (ci := 0) (v := .ref tg) (C := RX0) (T := TX0) (N := 15) hx hb hts i_X0 hown hK hP 5 rfl rfl 0 (by decide) k_2 (fun _ h9 => h9) f_fz_bw_0 dX0_slip_105 ?_
                refine lv_aload_n hx hb dX0_slip_108 rfl (lv_at hl 4 rfl) ?_
                refine va_get (D := (dC, dI)) (ci := 0) (v := .int lfv) (C := RX0) (T := TX0) (N := 15) hx hb hts i_X0 hown hK hP 5 rfl rfl 3 (by decide) k_0 (fun _ h9 => h9) f_fz_bw_3 dX0_slip_109 ?_
                refine lv_iconst (v := 1) hx hb dX0_slip_112 (by decide) ?_
                refine lv_isub hx hb dX0_slip_113 ?_
                refine lv_topi (fun v_138 ev_138 => ?_)
                try have tv_138 := q_sub ev_138 (by omega) (by omega)
                refine va_iald hx hb hK hP 6 3 rfl rfl (q_in (by omega) (by omega)) dX0_slip_114 ?_
                refine lv_topi (fun v_139 ev_139 => ?_)
                have uv_139 : v_139.toInt = (rz_tg v_138.toNatClampNeg).toInt := by rw [ev_139]
                refine lv_if_ne (tgt := 131) hx hb dX0_slip_115 (by decide) (fun c115 => ?_) (fun c115 => ?_)
                · have tc115 := q_ne c115
                  refine lv_aload_n hx hb dX0_slip_131 rfl (lv_at hl 4 rfl) ?_
                  refine lv_dup hx hb dX0_slip_132 rfl ?_
                  refine va_get (D := (dC, dI)) (ci := 0) (v := .int bslipped) (C := RX0) (T := TX0) (N := 15) hx hb hts i_X0 hown hK hP 5 rfl rfl 5 (by decide) k_1 (fun _ h9 => h9) f_fz_bw_5 dX0_slip_133 ?_
                  refine lv_iload hx hb dX0_slip_136 (lv_at hl 3 rfl) ?_
                  refine lv_iadd hx hb dX0_slip_138 ?_
                  refine lv_topi (fun v_140 ev_140 => ?_)
                  try have tv_140 := q_add ev_140 (by omega) (by omega)
                  refine va_put (D := (dC, dI)) (ci := 0) (v := .int v_140) (ty := .int) (C := RX0) (T := TX0) (N := 15) hx hb hts i_X0 tyX0 tyX0_ok nmX0 hown hK hP hD hS 5 rfl rfl 5 (by decide) k_1 (fun _ h9 => h9) rfl (by decide +kernel) rfl rfl (by rw [l_fz_bw]; decide) dX0_slip_139 (fun H locs hP hD hS => ?_)
                  have hP : va_P (dC, dI) vwCl [(lw, .inr (3, lf)), (lc, .inl (cC, 600, .inl cf)), (lb, .inl (cB, 6, .inl bf)), (lk, .inl (cK, 60, .inl kg_91)), (en, .inl (cE, 2, .inl rz_en)), (bw, .inr (0, (fz_bw.set 5 (.int v_140)))), (tg, .inl (cT, 12, .inl rz_tg))] H := hP
                  have hD : va_D A [(lw, .inr (3, lf)), (lc, .inl (cC, 600, .inl cf)), (lb, .inl (cB, 6, .inl bf)), (lk, .inl (cK, 60, .inl kg_91)), (en, .inl (cE, 2, .inl rz_en)), (bw, .inr (0, (fz_bw.set 5 (.int v_140)))), (tg, .inl (cT, 12, .inl rz_tg))] := hD
                  generalize efs_141 : (fz_bw.set 5 (.int v_140)) = fs_141 at hP hD
                  have lfs_141 : fs_141.length = 15 := by rw [← efs_141, List.length_set]; exact l_fz_bw
                  have ffs_141_0 : fs_141[0]? = some (.ref tg) := by rw [← efs_141]; exact p1_sn (by decide) f_fz_bw_0
                  have ffs_141_1 : fs_141[1]? = some (.ref en) := by rw [← efs_141]; exact p1_sn (by decide) f_fz_bw_1
                  have ffs_141_2 : fs_141[2]? = some (.int bcrossings) := by rw [← efs_141]; exact p1_sn (by decide) f_fz_bw_2
                  have ffs_141_3 : fs_141[3]? = some (.int lfv) := by rw [← efs_141]; exact p1_sn (by decide) f_fz_bw_3
                  have ffs_141_4 : fs_141[4]? = some (.int bsteps) := by rw [← efs_141]; exact p1_sn (by decide) f_fz_bw_4
                  have ffs_141_6 : fs_141[6]? = some (.int bwalk) := by rw [← efs_141]; exact p1_sn (by decide) f_fz_bw_6
                  have ffs_141_7 : fs_141[7]? = some (.int bnextStep) := by rw [← efs_141]; exact p1_sn (by decide) f_fz_bw_7
                  have ffs_141_8 : fs_141[8]? = some (.int bsides) := by rw [← efs_141]; exact p1_sn (by decide) f_fz_bw_8
                  have ffs_141_9 : fs_141[9]? = some (.int blikes) := by rw [← efs_141]; exact p1_sn (by decide) f_fz_bw_9
                  have ffs_141_10 : fs_141[10]? = some (.int bsmooth) := by rw [← efs_141]; exact p1_sn (by decide) f_fz_bw_10
                  have ffs_141_11 : fs_141[11]? = some (.int bweight) := by rw [← efs_141]; exact p1_sn (by decide) f_fz_bw_11
                  have ffs_141_12 : fs_141[12]? = some (.int blength) := by rw [← efs_141]; exact p1_sn (by decide) f_fz_bw_12
                  have ffs_141_13 : fs_141[13]? = some (.int bstrike) := by rw [← efs_141]; exact p1_sn (by decide) f_fz_bw_13
                  have ffs_141_14 : fs_141[14]? = some (.int bswing) := by rw [← efs_141]; exact p1_sn (by decide) f_fz_bw_14
                  have ffs_141_5 : fs_141[5]? = some (.int v_140) := by rw [← efs_141]; exact p1_sa l_fz_bw (by decide)
                  refine lv_iload hx hb dX0_slip_142 (lv_at hl 3 rfl) ?_
                  have hP9 := hP.sub (ws' := [(lw, .inr (3, lf)), (lc, .inl (cC, 600, .inl cf)), (lb, .inl (cB, 6, .inl bf)), (lk, .inl (cK, 60, .inl kg_91)), (bw, .inr (0, fs_141)), (tg, .inl (cT, 12, .inl rz_tg)), (en, .inl (cE, 2, .inl rz_en))]) [0, 1, 2, 3, 5, 6, 4] rfl
                  have hD9 := hD.sub (ws' := [(lw, .inr (3, lf)), (lc, .inl (cC, 600, .inl cf)), (lb, .inl (cB, 6, .inl bf)), (lk, .inl (cK, 60, .inl kg_91)), (bw, .inr (0, fs_141)), (tg, .inl (cT, 12, .inl rz_tg)), (en, .inl (cE, 2, .inl rz_en))]) [0, 1, 2, 3, 5, 6, 4] (by decide) rfl
                  have hK9 := hK.sub (tys' := []) [] rfl
                  exact W.iret (v := al) hx hb hr (fun t ht hW => ⟨⟨al, (), rfl, trivial, kg_91, fs_141, lfv, v_140, rz_tg, rz_en, z_92, z_93, z_94, z_95, z_96, z_97, lfs_141, ffs_141_0, ffs_141_1, ffs_141_2, ffs_141_3, ffs_141_4, ffs_141_5, ffs_141_6, ffs_141_7, ffs_141_8, ffs_141_9, ffs_141_10, ffs_141_11, ffs_141_12, ffs_141_13, ffs_141_14, z_113, (by first | rfl | omega | exact ⟨by omega, by omega⟩), by rw [ht]; exact hP9, va_K.moved hW.alike hK9, hD9⟩, hS.F ht⟩) hS.2.2 dX0_slip_144
                · have tc115 := q_eqN c115
                  refine lv_aload_n hx hb dX0_slip_118 rfl (lv_at hl 4 rfl) ?_
                  refine lv_dup hx hb dX0_slip_119 rfl ?_
                  refine va_get (D := (dC, dI)) (ci := 0) (v := .int lfv) (C := RX0) (T := TX0) (N := 15) hx hb hts i_X0 hown hK hP 5 rfl rfl 3 (by decide) k_0 (fun _ h9 => h9) f_fz_bw_3 dX0_slip_120 ?_
                  refine lv_iconst (v := 1) hx hb dX0_slip_123 (by decide) ?_
                  refine lv_isub hx hb dX0_slip_124 ?_
                  refine lv_topi (fun v_142 ev_142 => ?_)
                  try have tv_142 := q_sub ev_142 (by omega) (by omega)
                  refine va_put (D := (dC, dI)) (ci := 0) (v := .int v_142) (ty := .int) (C := RX0) (T := TX0) (N := 15) hx hb hts i_X0 tyX0 tyX0_ok nmX0 hown hK hP hD hS 5 rfl rfl 3 (by decide) k_0 (fun _ h9 => h9) rfl (by decide +kernel) rfl rfl (by rw [l_fz_bw]; decide) dX0_slip_125 (fun H locs hP hD hS => ?_)
                  have hP : va_P (dC, dI) vwCl [(lw, .inr (3, lf)), (lc, .inl (cC, 600, .inl cf)), (lb, .inl (cB, 6, .inl bf)), (lk, .inl (cK, 60, .inl kg_91)), (en, .inl (cE, 2, .inl rz_en)), (bw, .inr (0, (fz_bw.set 3 (.int v_142)))), (tg, .inl (cT, 12, .inl rz_tg))] H := hP
                  have hD : va_D A [(lw, .inr (3, lf)), (lc, .inl (cC, 600, .inl cf)), (lb, .inl (cB, 6, .inl bf)), (lk, .inl (cK, 60, .inl kg_91)), (en, .inl (cE, 2, .inl rz_en)), (bw, .inr (0, (fz_bw.set 3 (.int v_142)))), (tg, .inl (cT, 12, .inl rz_tg))] := hD
                  generalize efs_143 : (fz_bw.set 3 (.int v_142)) = fs_143 at hP hD
                  have lfs_143 : fs_143.length = 15 := by rw [← efs_143, List.length_set]; exact l_fz_bw
                  have ffs_143_0 : fs_143[0]? = some (.ref tg) := by rw [← efs_143]; exact p1_sn (by decide) f_fz_bw_0
                  have ffs_143_1 : fs_143[1]? = some (.ref en) := by rw [← efs_143]; exact p1_sn (by decide) f_fz_bw_1
                  have ffs_143_2 : fs_143[2]? = some (.int bcrossings) := by rw [← efs_143]; exact p1_sn (by decide) f_fz_bw_2
                  have ffs_143_4 : fs_143[4]? = some (.int bsteps) := by rw [← efs_143]; exact p1_sn (by decide) f_fz_bw_4
                  have ffs_143_5 : fs_143[5]? = some (.int bslipped) := by rw [← efs_143]; exact p1_sn (by decide) f_fz_bw_5
                  have ffs_143_6 : fs_143[6]? = some (.int bwalk) := by rw [← efs_143]; exact p1_sn (by decide) f_fz_bw_6
                  have ffs_143_7 : fs_143[7]? = some (.int bnextStep) := by rw [← efs_143]; exact p1_sn (by decide) f_fz_bw_7
                  have ffs_143_8 : fs_143[8]? = some (.int bsides) := by rw [← efs_143]; exact p1_sn (by decide) f_fz_bw_8
                  have ffs_143_9 : fs_143[9]? = some (.int blikes) := by rw [← efs_143]; exact p1_sn (by decide) f_fz_bw_9
                  have ffs_143_10 : fs_143[10]? = some (.int bsmooth) := by rw [← efs_143]; exact p1_sn (by decide) f_fz_bw_10
                  have ffs_143_11 : fs_143[11]? = some (.int bweight) := by rw [← efs_143]; exact p1_sn (by decide) f_fz_bw_11
                  have ffs_143_12 : fs_143[12]? = some (.int blength) := by rw [← efs_143]; exact p1_sn (by decide) f_fz_bw_12
                  have ffs_143_13 : fs_143[13]? = some (.int bstrike) := by rw [← efs_143]; exact p1_sn (by decide) f_fz_bw_13
                  have ffs_143_14 : fs_143[14]? = some (.int bswing) := by rw [← efs_143]; exact p1_sn (by decide) f_fz_bw_14
                  have ffs_143_3 : fs_143[3]? = some (.int v_142) := by rw [← efs_143]; exact p1_sa l_fz_bw (by decide)
                  refine lv_goto (tgt := 97) hx hb dX0_slip_128 (by decide) ?_
                  exact ih97 fs_143 v_142 _ _ _ (by omega) (by omega) lfs_143 ffs_143_0 ffs_143_1 ffs_143_2 ffs_143_3 ffs_143_4 ffs_143_5 ffs_143_6 ffs_143_7 ffs_143_8 ffs_143_9 ffs_143_10 ffs_143_11 ffs_143_12 ffs_143_13 ffs_143_14 (hP.sub [0, 1, 2, 3, 4, 5, 6] rfl) (hD.sub [0, 1, 2, 3, 4, 5, 6] (by decide) rfl) hS (lv_sub hl [0, 1, 2, 3, 4, 5, 6, 7] rfl)
          exact key97 12 bfs bleft _ _ _ (by omega) (by omega) NOLEN z_98 z_99 z_100 z_101 z_102 z_103 z_104 z_105 z_106 z_107 z_108 z_109 z_110 z_111 z_112 hP hD hS (lv_sub hl [0, 1, 2, 3, 4, 5, 6, 7] rfl)
  exact key14 12 0 a2 v_1 tf ef kf _ _ _ (by omega) (by omega) hP hD hS (lv_sub hl [0, 1, 2, 3, 4, 5, 6] rfl)
def zo_d_goStep : List Cond := [.code yX0_goStep cX0_goStep 5 (some .int), .fieldLink RX0 24 "BowWalk$Bow" "left" "I", .fieldLink RX0 54 "BowWalk$Bow" "strike" "I", .fieldLink RX0 57 "BowWalk$Bow" "swing" "I", .methodLink RX0 77 yX3_ask, .instanceMethod yX3_ask, .selects RX3 yX3_ask yX3_ask, .initialized RX3, .methodLink RX0 83 yX0_slip, .instanceMethod yX0_slip, .selects RX0 yX0_slip yX0_slip, .initialized RX0]
def zw_d_goStep : List Cond := zo_d_goStep ++ (zw_d_ask ++ (zw_d_slip ++ (wsX00 ++ [])))
theorem gz_d_goStep : zw_d_goStep.all goodWord = true := p1_ga (by decide +kernel) (p1_ga gz_d_ask (p1_ga gz_d_slip (p1_ga gk_X0 p1_g0)))
theorem iz_d_goStep : ∀ w ∈ zw_d_goStep, w ∈ lw_tbl := p1_ia (p1_all [768, 357, 373, 374, 769, 770, 771, 107, 781, 783, 26, 112] (by decide +kernel)) (p1_ia iz_d_ask (p1_ia iz_d_slip (p1_ia ik_X0 p1_i0)))
set_option maxHeartbeats 4000000 in
set_option maxRecDepth 100000 in
theorem d_goStep (l : Launch) (dC : Nat → ClassId) (dI : Nat → Nat → Nat) (sz : Nat) (lw : Nat) (lf : List Value) (lc : Nat) (lb : Nat) (lk : Nat) (lus : Int32) (lro : Int32) (lun : Int32) (cC : ClassId) (cf : Nat → Int32) (cB : ClassId) (bf : Nat → Int32) (cK : ClassId) (kf : Nat → Int32) (bw : Nat) (bfs : List Value) (tg : Nat) (en : Nat) (bcrossings : Int32) (bleft : Int32) (bsteps : Int32) (bslipped : Int32) (bwalk : Int32) (bnextStep : Int32) (bsides : Int32) (blikes : Int32) (bsmooth : Int32) (bweight : Int32) (blength : Int32) (bstrike : Int32) (bswing : Int32) (cT : ClassId) (tf : Nat → Int32) (cE : ClassId) (ef : Nat → Int32) (a1 : Int32) (a2 : Int32) (a3 : Int32) (f_lf_0 : lf[0]? = some (.ref lc)) (f_lf_1 : lf[1]? = some (.ref lb)) (f_lf_2 : lf[2]? = some (.ref lk)) (f_lf_3 : lf[3]? = some (.int lus)) (f_lf_4 : lf[4]? = some (.int lro)) (f_lf_5 : lf[5]? = some (.int lun)) (f_bfs_0 : bfs[0]? = some (.ref tg)) (f_bfs_1 : bfs[1]? = some (.ref en)) (f_bfs_2 : bfs[2]? = some (.int bcrossings)) (f_bfs_3 : bfs[3]? = some (.int bleft)) (f_bfs_4 : bfs[4]? = some (.int bsteps)) (f_bfs_5 : bfs[5]? = some (.int bslipped)) (f_bfs_6 : bfs[6]? = some (.int bwalk)) (f_bfs_7 : bfs[7]? = some (.int bnextStep)) (f_bfs_8 : bfs[8]? = some (.int bsides)) (f_bfs_9 : bfs[9]? = some (.int blikes)) (f_bfs_10 : bfs[10]? = some (.int bsmooth)) (f_bfs_11 : bfs[11]? = some (.int bweight)) (f_bfs_12 : bfs[12]? = some (.int blength)) (f_bfs_13 : bfs[13]? = some (.int bstrike)) (f_bfs_14 : bfs[14]? = some (.int bswing)) (l_bfs : bfs.length = 15) (hr_bf : ∀ k, k < 6 → 0 ≤ ((bf k)).toInt ∧ ((bf k)).toInt ≤ 600) (h2 : 0 ≤ lro.toInt ∧ lro.toInt ≤ 6) (h3 : 0 ≤ bleft.toInt ∧ bleft.toInt ≤ 12) : Met l yX0_goStep zw_d_goStep ({ frames := 3, cells := 0, slots := 0, locals := 76 }) (va_Pc [.ref bw, .ref lw, .int a1, .int a2, .int a3] (fun U => U.heap.size = sz ∧ va_P (dC, dI) vwCl [(lw, .inr (3, lf)), (lc, .inl (cC, 600, .inl cf)), (lb, .inl (cB, 6, .inl bf)), (lk, .inl (cK, 60, .inl kf)), (bw, .inr (0, bfs)), (tg, .inl (cT, 12, .inl tf)), (en, .inl (cE, 2, .inl ef))] U.heap ∧ va_K (dC, dI) vwCl [(cC, .int), (cB, .int), (cK, .int), (cT, .int), (cE, .int)] U ∧ va_D (fun _ => True) [(lw, .inr (3, lf)), (lc, .inl (cC, 600, .inl cf)), (lb, .inl (cB, 6, .inl bf)), (lk, .inl (cK, 60, .inl kf)), (bw, .inr (0, bfs)), (tg, .inl (cT, 12, .inl tf)), (en, .inl (cE, 2, .inl ef))])) (va_Qi (fun (r : Int32) (_ : Unit) => True) (fun _ t => ∃ (kg : Nat → Int32) (bg : List Value) (olf : Int32) (osl : Int32) (ostr : Int32) (osw : Int32) (tg2 : Nat → Int32) (eg2 : Nat → Int32), lf[0]? = some (.ref lc) ∧ lf[1]? = some (.ref lb) ∧ lf[2]? = some (.ref lk) ∧ lf[3]? = some (.int lus) ∧ lf[4]? = some (.int lro) ∧ lf[5]? = some (.int lun) ∧ bg.length = 15 ∧ bg[0]? = some (.ref tg) ∧ bg[1]? = some (.ref en) ∧ bg[2]? = some (.int bcrossings) ∧ bg[3]? = some (.int olf) ∧ bg[4]? = some (.int bsteps) ∧ bg[5]? = some (.int osl) ∧ bg[6]? = some (.int bwalk) ∧ bg[7]? = some (.int bnextStep) ∧ bg[8]? = some (.int bsides) ∧ bg[9]? = some (.int blikes) ∧ bg[10]? = some (.int bsmooth) ∧ bg[11]? = some (.int bweight) ∧ bg[12]? = some (.int blength) ∧ bg[13]? = some (.int ostr) ∧ bg[14]? = some (.int osw) ∧ (∀ k, k < 6 → 0 ≤ ((bf k)).toInt ∧ ((bf k)).toInt ≤ 600) ∧ (0 ≤ olf.toInt ∧ olf.toInt ≤ bleft.toInt) ∧ va_P (dC, dI) vwCl [(lw, .inr (3, lf)), (lc, .inl (cC, 600, .inl cf)), (lb, .inl (cB, 6, .inl bf)), (lk, .inl (cK, 60, .inl kg)), (bw, .inr (0, bg)), (tg, .inl (cT, 12, .inl tg2)), (en, .inl (cE, 2, .inl eg2))] t.heap ∧ va_K (dC, dI) vwCl [] t ∧ va_D (va_A [(lw, .inr (3, lf)), (lc, .inl (cC, 600, .inl cf)), (lb, .inl (cB, 6, .inl bf)), (lk, .inl (cK, 60, .inl kf)), (bw, .inr (0, bfs)), (tg, .inl (cT, 12, .inl tf)), (en, .inl (cE, 2, .inl ef))] sz) [(lw, .inr (3, lf)), (lc, .inl (cC, 600, .inl cf)), (lb, .inl (cB, 6, .inl bf)), (lk, .inl (cK, 60, .inl kg)), (bw, .inr (0, bg)), (tg, .inl (cT, 12, .inl tg2)), (en, .inl (cE, 2, .inl eg2))]) (va_A [(lw, .inr (3, lf)), (lc, .inl (cC, 600, .inl cf)), (lb, .inl (cB, 6, .inl bf)), (lk, .inl (cK, 60, .inl kf)), (bw, .inr (0, bfs)), (tg, .inl (cT, 12, .inl tf)), (en, .inl (cE, 2, .inl ef))] sz)) 0 0 (va_A [(lw, .inr (3, lf)), (lc, .inl (cC, 600, .inl cf)), (lb, .inl (cB, 6, .inl bf)), (lk, .inl (cK, 60, .inl kf)), (bw, .inr (0, bfs)), (tg, .inl (cT, 12, .inl tf)), (en, .inl (cE, 2, .inl ef))] sz) := by
  refine Met.ofW (cc := cX0_goStep) (maxL := 5) (ret := (some .int)) (by decide) rfl ?_
  intro p e s m args below meth c s₁ B hml hv
  obtain ⟨rfl, hsz, hP, hK, hD0⟩ := hv
  have hx := B.exec
  have hb := B.bytes
  have hr := B.returns
  have hts := atoms_spec (ws := zw_d_goStep) B.pre
  have hown : s.vm.findClass RX0 = some m.cls := findClass_of_methodNamed B.named
  have hlocks := B.notSynchronized
  subst hsz
  have hD := hD0.self (sz := s.heap.size)
  generalize hAe : va_A [(lw, .inr (3, lf)), (lc, .inl (cC, 600, .inl cf)), (lb, .inl (cB, 6, .inl bf)), (lk, .inl (cK, 60, .inl kf)), (bw, .inr (0, bfs)), (tg, .inl (cT, 12, .inl tf)), (en, .inl (cE, 2, .inl ef))] s.heap.size = A at hD ⊢
  have hA : ∀ q : Nat, s.heap.size ≤ q → A q := fun q h => by rw [← hAe]; exact Or.inr h
  have hS : va_S A s.heap s.heap [] := va_S.rf
  have hP : va_P (dC, dI) vwCl [(lw, .inr (3, lf)), (lc, .inl (cC, 600, .inl cf)), (lb, .inl (cB, 6, .inl bf)), (lk, .inl (cK, 60, .inl kf)), (bw, .inr (0, bfs)), (tg, .inl (cT, 12, .inl tf)), (en, .inl (cE, 2, .inl ef))] s.heap := hP
  have m_0 : (.fieldLink RX0 24 "BowWalk$Bow" "left" "I" : Cond) ∈ zw_d_goStep := List.mem_append_left _ (List.mem_of_getElem? (i := 1) rfl)
  have k_0 := hts _ m_0
  have m_1 : (.fieldLink RX0 54 "BowWalk$Bow" "strike" "I" : Cond) ∈ zw_d_goStep := List.mem_append_left _ (List.mem_of_getElem? (i := 2) rfl)
  have k_1 := hts _ m_1
  have m_2 : (.fieldLink RX0 57 "BowWalk$Bow" "swing" "I" : Cond) ∈ zw_d_goStep := List.mem_append_left _ (List.mem_of_getElem? (i := 3) rfl)
  have k_2 := hts _ m_2
  have m_3 : (.methodLink RX0 77 yX3_ask : Cond) ∈ zw_d_goStep := List.mem_append_left _ (List.mem_of_getElem? (i := 4) rfl)
  have k_3 := hts _ m_3
  have m_4 : (.instanceMethod yX3_ask : Cond) ∈ zw_d_goStep := List.mem_append_left _ (List.mem_of_getElem? (i := 5) rfl)
  have k_4 := hts _ m_4
  have m_5 : (.selects RX3 yX3_ask yX3_ask : Cond) ∈ zw_d_goStep := List.mem_append_left _ (List.mem_of_getElem? (i := 6) rfl)
  have k_5 := hts _ m_5
  have m_6 : (.initialized RX3 : Cond) ∈ zw_d_goStep := List.mem_append_left _ (List.mem_of_getElem? (i := 7) rfl)
  have k_6 := hts _ m_6
  have m_7 : (.methodLink RX0 83 yX0_slip : Cond) ∈ zw_d_goStep := List.mem_append_left _ (List.mem_of_getElem? (i := 8) rfl)
  have k_7 := hts _ m_7
  have m_8 : (.instanceMethod yX0_slip : Cond) ∈ zw_d_goStep := List.mem_append_left _ (List.mem_of_getElem? (i := 9) rfl)
  have k_8 := hts _ m_8
  have m_9 : (.selects RX0 yX0_slip yX0_slip : Cond) ∈ zw_d_goStep := List.mem_append_left _ (List.mem_of_getElem? (i := 10) rfl)
  have k_9 := hts _ m_9
  have m_10 : (.initialized RX0 : Cond) ∈ zw_d_goStep := List.mem_append_left _ (List.mem_of_getElem? (i := 11) rfl)
  have k_10 := hts _ m_10
  have g_d_ask : ∀ w ∈ zw_d_ask, w ∈ zw_d_goStep := fun w h => List.mem_append_right _ (List.mem_append_left _ h)
  have g_d_slip : ∀ w ∈ zw_d_slip, w ∈ zw_d_goStep := fun w h => List.mem_append_right _ (List.mem_append_right _ (List.mem_append_left _ h))
  have i_X0 : ∀ w ∈ u_ws RX0 TX0 15, w ∈ zw_d_goStep := fun w h => List.mem_append_right _ (List.mem_append_right _ (List.mem_append_right _ (List.mem_append_left _ h)))
  have lt_0 : (0 : Int32).toInt = 0 := by decide
  have lt_1 : (1 : Int32).toInt = 1 := by decide
  have lt_2 : (2 : Int32).toInt = 2 := by decide
  have hl := lv_entry ([.ref bw, .ref lw, .int a1, .int a2, .int a3]) (n := 5) (Nat.le_of_ble_eq_true rfl)
  rw [lg_entry_eq]
  generalize (lg_sl ([.ref bw, .ref lw, .int a1, .int a2, .int a3]) ++ List.replicate (5 - (lg_sl ([.ref bw, .ref lw, .int a1, .int a2, .int a3])).length) Slot.unset).toArray = ls at hl ⊢
  have hl : lv_has ls 5 [(0, .ref bw), (1, .ref lw), (2, .int a1), (3, .int a2), (4, .int a3)] := hl
  refine lv_aload_n hx hb dX0_goStep_0 rfl (lv_at hl 0 rfl) ?_
  refine va_get (D := (dC, dI)) (ci := 0) (v := .int bleft) (C := RX0) (T := TX0) (N := 15) hx hb hts i_X0 hown hK hP 4 rfl rfl 3 (by decide) k_0 (fun _ h9 => h9) f_bfs_3 dX0_goStep_1 ?_
  refine lv_if_ne (tgt := 9) hx hb dX0_goStep_4 (by decide) (fun c4 => ?_) (fun c4 => ?_)
  · have tc4 := q_ne c4
    refine lv_aload_n hx hb dX0_goStep_9 rfl (lv_at hl 0 rfl) ?_
    refine lv_iload_n hx hb dX0_goStep_10 rfl (lv_at hl 3 rfl) ?_
    refine va_put (D := (dC, dI)) (ci := 0) (v := .int a2) (ty := .int) (C := RX0) (T := TX0) (N := 15) hx hb hts i_X0 tyX0 tyX0_ok nmX0 hown hK hP hD hS 4 rfl rfl 13 (by decide) k_1 (fun _ h9 => h9) rfl (by decide +kernel) rfl rfl (by rw [l_bfs]; decide) dX0_goStep_11 (fun H locs hP hD hS => ?_)
    have hP : va_P (dC, dI) vwCl [(lw, .inr (3, lf)), (lc, .inl (cC, 600, .inl cf)), (lb, .inl (cB, 6, .inl bf)), (lk, .inl (cK, 60, .inl kf)), (bw, .inr (0, (bfs.set 13 (.int a2)))), (tg, .inl (cT, 12, .inl tf)), (en, .inl (cE, 2, .inl ef))] H := hP
    have hD : va_D A [(lw, .inr (3, lf)), (lc, .inl (cC, 600, .inl cf)), (lb, .inl (cB, 6, .inl bf)), (lk, .inl (cK, 60, .inl kf)), (bw, .inr (0, (bfs.set 13 (.int a2)))), (tg, .inl (cT, 12, .inl tf)), (en, .inl (cE, 2, .inl ef))] := hD
    generalize efs_1 : (bfs.set 13 (.int a2)) = fs_1 at hP hD
    have lfs_1 : fs_1.length = 15 := by rw [← efs_1, List.length_set]; exact l_bfs
    have ffs_1_0 : fs_1[0]? = some (.ref tg) := by rw [← efs_1]; exact p1_sn (by decide) f_bfs_0
    have ffs_1_1 : fs_1[1]? = some (.ref en) := by rw [← efs_1]; exact p1_sn (by decide) f_bfs_1
    have ffs_1_2 : fs_1[2]? = some (.int bcrossings) := by rw [← efs_1]; exact p1_sn (by decide) f_bfs_2
    have ffs_1_3 : fs_1[3]? = some (.int bleft) := by rw [← efs_1]; exact p1_sn (by decide) f_bfs_3
    have ffs_1_4 : fs_1[4]? = some (.int bsteps) := by rw [← efs_1]; exact p1_sn (by decide) f_bfs_4
    have ffs_1_5 : fs_1[5]? = some (.int bslipped) := by rw [← efs_1]; exact p1_sn (by decide) f_bfs_5
    have ffs_1_6 : fs_1[6]? = some (.int bwalk) := by rw [← efs_1]; exact p1_sn (by decide) f_bfs_6
    have ffs_1_7 : fs_1[7]? = some (.int bnextStep) := by rw [← efs_1]; exact p1_sn (by decide) f_bfs_7
    have ffs_1_8 : fs_1[8]? = some (.int bsides) := by rw [← efs_1]; exact p1_sn (by decide) f_bfs_8
    have ffs_1_9 : fs_1[9]? = some (.int blikes) := by rw [← efs_1]; exact p1_sn (by decide) f_bfs_9
    have ffs_1_10 : fs_1[10]? = some (.int bsmooth) := by rw [← efs_1]; exact p1_sn (by decide) f_bfs_10
    have ffs_1_11 : fs_1[11]? = some (.int bweight) := by rw [← efs_1]; exact p1_sn (by decide) f_bfs_11
    have ffs_1_12 : fs_1[12]? = some (.int blength) := by rw [← efs_1]; exact p1_sn (by decide) f_bfs_12
    have ffs_1_14 : fs_1[14]? = some (.int bswing) := by rw [← efs_1]; exact p1_sn (by decide) f_bfs_14
    have ffs_1_13 : fs_1[13]? = some (.int a2) := by rw [← efs_1]; exact p1_sa l_bfs (by decide)
    refine lv_aload_n hx hb dX0_goStep_14 rfl (lv_at hl 0 rfl) ?_
    refine lv_iload hx hb dX0_goStep_15 (lv_at hl 4 rfl) ?_
    refine va_put (D := (dC, dI)) (ci := 0) (v := .int a3) (ty := .int) (C := RX0) (T := TX0) (N := 15) hx hb hts i_X0 tyX0 tyX0_ok nmX0 hown hK hP hD hS 4 rfl rfl 14 (by decide) k_2 (fun _ h9 => h9) rfl (by decide +kernel) rfl rfl (by rw [lfs_1]; decide) dX0_goStep_17 (fun H locs hP hD hS => ?_)
    have hP : va_P (dC, dI) vwCl [(lw, .inr (3, lf)), (lc, .inl (cC, 600, .inl cf)), (lb, .inl (cB, 6, .inl bf)), (lk, .inl (cK, 60, .inl kf)), (bw, .inr (0, (fs_1.set 14 (.int a3)))), (tg, .inl (cT, 12, .inl tf)), (en, .inl (cE, 2, .inl ef))] H := hP
    have hD : va_D A [(lw, .inr (3, lf)), (lc, .inl (cC, 600, .inl cf)), (lb, .inl (cB, 6, .inl bf)), (lk, .inl (cK, 60, .inl kf)), (bw, .inr (0, (fs_1.set 14 (.int a3)))), (tg, .inl (cT, 12, .inl tf)), (en, .inl (cE, 2, .inl ef))] := hD
    generalize efs_2 : (fs_1.set 14 (.int a3)) = fs_2 at hP hD
    have lfs_2 : fs_2.length = 15 := by rw [← efs_2, List.length_set]; exact lfs_1
    have ffs_2_0 : fs_2[0]? = some (.ref tg) := by rw [← efs_2]; exact p1_sn (by decide) ffs_1_0
    have ffs_2_1 : fs_2[1]? = some (.ref en) := by rw [← efs_2]; exact p1_sn (by decide) ffs_1_1
    have ffs_2_2 : fs_2[2]? = some (.int bcrossings) := by rw [← efs_2]; exact p1_sn (by decide) ffs_1_2
    have ffs_2_3 : fs_2[3]? = some (.int bleft) := by rw [← efs_2]; exact p1_sn (by decide) ffs_1_3
    have ffs_2_4 : fs_2[4]? = some (.int bsteps) := by rw [← efs_2]; exact p1_sn (by decide) ffs_1_4
    have ffs_2_5 : fs_2[5]? = some (.int bslipped) := by rw [← efs_2]; exact p1_sn (by decide) ffs_1_5
    have ffs_2_6 : fs_2[6]? = some (.int bwalk) := by rw [← efs_2]; exact p1_sn (by decide) ffs_1_6
    have ffs_2_7 : fs_2[7]? = some (.int bnextStep) := by rw [← efs_2]; exact p1_sn (by decide) ffs_1_7
    have ffs_2_8 : fs_2[8]? = some (.int bsides) := by rw [← efs_2]; exact p1_sn (by decide) ffs_1_8
    have ffs_2_9 : fs_2[9]? = some (.int blikes) := by rw [← efs_2]; exact p1_sn (by decide) ffs_1_9
    have ffs_2_10 : fs_2[10]? = some (.int bsmooth) := by rw [← efs_2]; exact p1_sn (by decide) ffs_1_10
    have ffs_2_11 : fs_2[11]? = some (.int bweight) := by rw [← efs_2]; exact p1_sn (by decide) ffs_1_11
    have ffs_2_12 : fs_2[12]? = some (.int blength) := by rw [← efs_2]; exact p1_sn (by decide) ffs_1_12
    have ffs_2_13 : fs_2[13]? = some (.int a2) := by rw [← efs_2]; exact p1_sn (by decide) ffs_1_13
    have ffs_2_14 : fs_2[14]? = some (.int a3) := by rw [← efs_2]; exact p1_sa lfs_1 (by decide)
    refine lv_aload_n hx hb dX0_goStep_20 rfl (lv_at hl 0 rfl) ?_
    refine lv_aload_n hx hb dX0_goStep_21 rfl (lv_at hl 1 rfl) ?_
    refine lv_iload_n hx hb dX0_goStep_22 rfl (lv_at hl 2 rfl) ?_
    refine lv_aload_n hx hb dX0_goStep_23 rfl (lv_at hl 1 rfl) ?_
    refine lv_iconst (v := 2) hx hb dX0_goStep_24 (by decide) ?_
    refine lv_iload_n hx hb dX0_goStep_25 rfl (lv_at hl 2 rfl) ?_
    refine lv_imul hx hb dX0_goStep_26 ?_
    refine lv_topi (fun v_3 ev_3 => ?_)
    try have tv_3 := q_mul ev_3 (by omega) (by omega)
    refine lv_iconst (v := 1) hx hb dX0_goStep_27 (by decide) ?_
    refine lv_iadd hx hb dX0_goStep_28 ?_
    refine lv_topi (fun v_4 ev_4 => ?_)
    try have tv_4 := q_add ev_4 (by omega) (by omega)
    refine lv_aload_n hx hb dX0_goStep_29 rfl (lv_at hl 0 rfl) ?_
    refine lv_aload_n hx hb dX0_goStep_30 rfl (lv_at hl 0 rfl) ?_
    refine va_get (D := (dC, dI)) (ci := 0) (v := .int bleft) (C := RX0) (T := TX0) (N := 15) hx hb hts i_X0 hown hK hP 4 rfl rfl 3 (by decide) k_0 (fun _ h9 => h9) ffs_2_3 dX0_goStep_31 ?_
    refine lv_iconst (v := 1) hx hb dX0_goStep_34 (by decide) ?_
    refine lv_isub hx hb dX0_goStep_35 ?_
    refine lv_topi (fun v_5 ev_5 => ?_)
    try have tv_5 := q_sub ev_5 (by omega) (by omega)
    have hPc := hP.sub (ws' := [(lw, .inr (3, lf)), (lc, .inl (cC, 600, .inl cf)), (lb, .inl (cB, 6, .inl bf)), (lk, .inl (cK, 60, .inl kf)), (bw, .inr (0, fs_2)), (tg, .inl (cT, 12, .inl tf)), (en, .inl (cE, 2, .inl ef))]) [0, 1, 2, 3, 4, 5, 6] rfl
    have hDc := hD.sub (ws' := [(lw, .inr (3, lf)), (lc, .inl (cC, 600, .inl cf)), (lb, .inl (cB, 6, .inl bf)), (lk, .inl (cK, 60, .inl kf)), (bw, .inr (0, fs_2)), (tg, .inl (cT, 12, .inl tf)), (en, .inl (cE, 2, .inl ef))]) [0, 1, 2, 3, 4, 5, 6] (by decide) rfl
    have hKc := hK.sub (tys' := [(cC, .int), (cB, .int), (cK, .int), (cT, .int), (cE, .int)]) [0, 1, 2, 3, 4] rfl
    have hFc := va_free (wc := [(lw, .inr (3, lf)), (lc, .inl (cC, 600, .inl cf)), (lb, .inl (cB, 6, .inl bf)), (lk, .inl (cK, 60, .inl kf)), (bw, .inr (0, fs_2)), (tg, .inl (cT, 12, .inl tf)), (en, .inl (cE, 2, .inl ef))]) hD hS hA [0, 1, 2, 3, 4, 5, 6] rfl
    refine va_calli (va_runV (As := [.int v_4, .ref bw, .int v_5]) (rest := [.int a1, .ref lw, .ref bw]) ⟨hx, hb, hml, hown, hts⟩ (d_ask l dC dI H.size lw lf lc lb lk lus lro lun cC cf cB bf cK kf bw fs_2 tg en bcrossings bleft bsteps bslipped bwalk bnextStep bsides blikes bsmooth bweight blength a2 a3 cT tf cE ef v_4 v_5 f_lf_0 f_lf_1 f_lf_2 f_lf_3 f_lf_4 f_lf_5 ffs_2_0 ffs_2_1 ffs_2_2 ffs_2_3 ffs_2_4 ffs_2_5 ffs_2_6 ffs_2_7 ffs_2_8 ffs_2_9 ffs_2_10 ffs_2_11 ffs_2_12 ffs_2_13 ffs_2_14 hr_bf ((by omega)) ((by omega))) (cwV 3 hts (p1_gV m_3 m_4 m_5 m_6 g_d_ask gz_d_ask) rfl rfl rfl (by decide +kernel) ⟨by decide, by decide⟩) ⟨fun a U g mk q => by obtain ⟨q0, q1, qP, qK, qD⟩ := q; exact ⟨q0, q1, qP, va_K.moved (u := U) (U := U.calling g mk a) (Vm.Alike.refl U.vm) qK, qD⟩, va_recv hKc hPc (ci := 3) (q0 := 0) rfl rfl, fun U hU hW => ⟨rfl, by rw [hU], by rw [hU]; exact hPc, va_K.moved hW.alike hKc, hDc.weaken (fun _ _ _ _ => trivial)⟩⟩ rfl rfl hl.1 rfl (lv_room (Nat.le_of_ble_eq_true rfl)) dX0_goStep_36 ⟨by decide, by decide⟩) hS (fun q _ h => hFc q h) hFc (fun r_6 u t H1 locs ht hvm hw hB hz1 hk1 hS => ?_)
    obtain ⟨kg_7, z_8, z_9, z_10, z_11, z_12, z_13, z_14, z_15, z_16, z_17, z_18, z_19, z_20, z_21, z_22, z_23, z_24, z_25, z_26, z_27, z_28, z_29, hP1, hK1, hD1⟩ := hB
    rw [ht] at hP1
    obtain ⟨hP, hD⟩ := va_join (wr := []) (w1 := [(lw, .inr (3, lf)), (lc, .inl (cC, 600, .inl cf)), (lb, .inl (cB, 6, .inl bf)), (lk, .inl (cK, 60, .inl kg_7)), (bw, .inr (0, fs_2)), (tg, .inl (cT, 12, .inl tf)), (en, .inl (cE, 2, .inl ef))]) hP hD [0, 1, 2, 3, 4, 5, 6] [] rfl rfl (by decide) (by decide) hk1 hFc hP1 hD1
    generalize H1 = H at hP hS ⊢
    have hP : va_P (dC, dI) vwCl [(lw, .inr (3, lf)), (lc, .inl (cC, 600, .inl cf)), (lb, .inl (cB, 6, .inl bf)), (lk, .inl (cK, 60, .inl kg_7)), (bw, .inr (0, fs_2)), (tg, .inl (cT, 12, .inl tf)), (en, .inl (cE, 2, .inl ef))] H := hP
    have hD : va_D A [(lw, .inr (3, lf)), (lc, .inl (cC, 600, .inl cf)), (lb, .inl (cB, 6, .inl bf)), (lk, .inl (cK, 60, .inl kg_7)), (bw, .inr (0, fs_2)), (tg, .inl (cT, 12, .inl tf)), (en, .inl (cE, 2, .inl ef))] := hD
    try dsimp only at hw
    have hw_30 := hw
    have hPc := hP.sub (ws' := [(lw, .inr (3, lf)), (lc, .inl (cC, 600, .inl cf)), (lb, .inl (cB, 6, .inl bf)), (lk, .inl (cK, 60, .inl kg_7)), (bw, .inr (0, fs_2)), (tg, .inl (cT, 12, .inl tf)), (en, .inl (cE, 2, .inl ef))]) [0, 1, 2, 3, 4, 5, 6] rfl
    have hDc := hD.sub (ws' := [(lw, .inr (3, lf)), (lc, .inl (cC, 600, .inl cf)), (lb, .inl (cB, 6, .inl bf)), (lk, .inl (cK, 60, .inl kg_7)), (bw, .inr (0, fs_2)), (tg, .inl (cT, 12, .inl tf)), (en, .inl (cE, 2, .inl ef))]) [0, 1, 2, 3, 4, 5, 6] (by decide) rfl
    have hKc := hK.sub (tys' := [(cC, .int), (cB, .int), (cK, .int), (cT, .int), (cE, .int)]) [0, 1, 2, 3, 4] rfl
    have hFc := va_free (wc := [(lw, .inr (3, lf)), (lc, .inl (cC, 600, .inl cf)), (lb, .inl (cB, 6, .inl bf)), (lk, .inl (cK, 60, .inl kg_7)), (bw, .inr (0, fs_2)), (tg, .inl (cT, 12, .inl tf)), (en, .inl (cE, 2, .inl ef))]) hD hS hA [0, 1, 2, 3, 4, 5, 6] rfl
    refine va_calli (va_runV (As := [.ref lw, .int a1, .int r_6]) (rest := []) ⟨hx, hb, hml, hown, hts⟩ (d_slip l dC dI H.size lw lf lc lb lk lus lro lun cC cf cB bf cK kg_7 bw fs_2 tg en bcrossings bleft bsteps bslipped bwalk bnextStep bsides blikes bsmooth bweight blength a2 a3 cT tf cE ef a1 r_6 z_8 z_9 z_10 z_11 z_12 z_13 z_14 z_15 z_16 z_17 z_18 z_19 z_20 z_21 z_22 z_23 z_24 z_25 z_26 z_27 z_28 NOLEN z_29 ((by omega)) ((by omega))) (cwV 3 hts (p1_gV m_7 m_8 m_9 m_10 g_d_slip gz_d_slip) rfl rfl rfl (by decide +kernel) ⟨by decide, by decide⟩) ⟨fun a U g mk q => by obtain ⟨q0, q1, qP, qK, qD⟩ := q; exact ⟨q0, q1, qP, va_K.moved (u := U) (U := U.calling g mk a) (Vm.Alike.refl U.vm) qK, qD⟩, va_recv hKc hPc (ci := 0) (q0 := 0) rfl rfl, fun U hU hW => ⟨rfl, by rw [hU], by rw [hU]; exact hPc, va_K.moved hW.alike hKc, hDc.weaken (fun _ _ _ _ => trivial)⟩⟩ rfl rfl hl.1 rfl (lv_room (Nat.le_of_ble_eq_true rfl)) dX0_goStep_39 ⟨by decide, by decide⟩) hS (fun q _ h => hFc q h) hFc (fun r_31 u t H1 locs ht hvm hw hB hz1 hk1 hS => ?_)
    obtain ⟨kg_32, bg_33, olf_34, osl_35, tg2_36, eg2_37, z_38, z_39, z_40, z_41, z_42, z_43, z_44, z_45, z_46, z_47, z_48, z_49, z_50, z_51, z_52, z_53, z_54, z_55, z_56, z_57, z_58, z_59, z_60, z_61, hP1, hK1, hD1⟩ := hB
    rw [ht] at hP1
    obtain ⟨hP, hD⟩ := va_join (wr := []) (w1 := [(lw, .inr (3, lf)), (lc, .inl (cC, 600, .inl cf)), (lb, .inl (cB, 6, .inl bf)), (lk, .inl (cK, 60, .inl kg_32)), (bw, .inr (0, bg_33)), (tg, .inl (cT, 12, .inl tg2_36)), (en, .inl (cE, 2, .inl eg2_37))]) hP hD [0, 1, 2, 3, 4, 5, 6] [] rfl rfl (by decide) (by decide) hk1 hFc hP1 hD1
    generalize H1 = H at hP hS ⊢
    have hP : va_P (dC, dI) vwCl [(lw, .inr (3, lf)), (lc, .inl (cC, 600, .inl cf)), (lb, .inl (cB, 6, .inl bf)), (lk, .inl (cK, 60, .inl kg_32)), (bw, .inr (0, bg_33)), (tg, .inl (cT, 12, .inl tg2_36)), (en, .inl (cE, 2, .inl eg2_37))] H := hP
    have hD : va_D A [(lw, .inr (3, lf)), (lc, .inl (cC, 600, .inl cf)), (lb, .inl (cB, 6, .inl bf)), (lk, .inl (cK, 60, .inl kg_32)), (bw, .inr (0, bg_33)), (tg, .inl (cT, 12, .inl tg2_36)), (en, .inl (cE, 2, .inl eg2_37))] := hD
    try dsimp only at hw
    have hw_62 := hw
    have hP9 := hP.sub (ws' := [(lw, .inr (3, lf)), (lc, .inl (cC, 600, .inl cf)), (lb, .inl (cB, 6, .inl bf)), (lk, .inl (cK, 60, .inl kg_32)), (bw, .inr (0, bg_33)), (tg, .inl (cT, 12, .inl tg2_36)), (en, .inl (cE, 2, .inl eg2_37))]) [0, 1, 2, 3, 4, 5, 6] rfl
    have hD9 := hD.sub (ws' := [(lw, .inr (3, lf)), (lc, .inl (cC, 600, .inl cf)), (lb, .inl (cB, 6, .inl bf)), (lk, .inl (cK, 60, .inl kg_32)), (bw, .inr (0, bg_33)), (tg, .inl (cT, 12, .inl tg2_36)), (en, .inl (cE, 2, .inl eg2_37))]) [0, 1, 2, 3, 4, 5, 6] (by decide) rfl
    have hK9 := hK.sub (tys' := []) [] rfl
    exact W.iret (v := r_31) hx hb hr (fun t ht hW => ⟨⟨r_31, (), rfl, trivial, kg_32, bg_33, olf_34, osl_35, a2, a3, tg2_36, eg2_37, z_38, z_39, z_40, z_41, z_42, z_43, z_44, z_45, z_46, z_47, z_48, z_49, z_50, z_51, z_52, z_53, z_54, z_55, z_56, z_57, z_58, z_59, z_60, (by first | rfl | omega | exact ⟨by omega, by omega⟩), by rw [ht]; exact hP9, va_K.moved hW.alike hK9, hD9⟩, hS.F ht⟩) hS.2.2 dX0_goStep_42
  · have tc4 := q_eqN c4
    refine lv_iconst (v := 0) hx hb dX0_goStep_7 (by decide) ?_
    have hP9 := hP.sub (ws' := [(lw, .inr (3, lf)), (lc, .inl (cC, 600, .inl cf)), (lb, .inl (cB, 6, .inl bf)), (lk, .inl (cK, 60, .inl kf)), (bw, .inr (0, bfs)), (tg, .inl (cT, 12, .inl tf)), (en, .inl (cE, 2, .inl ef))]) [0, 1, 2, 3, 4, 5, 6] rfl
    have hD9 := hD.sub (ws' := [(lw, .inr (3, lf)), (lc, .inl (cC, 600, .inl cf)), (lb, .inl (cB, 6, .inl bf)), (lk, .inl (cK, 60, .inl kf)), (bw, .inr (0, bfs)), (tg, .inl (cT, 12, .inl tf)), (en, .inl (cE, 2, .inl ef))]) [0, 1, 2, 3, 4, 5, 6] (by decide) rfl
    have hK9 := hK.sub (tys' := []) [] rfl
    exact W.iret (v := 0) hx hb hr (fun t ht hW => ⟨⟨0, (), rfl, trivial, kf, bfs, bleft, bslipped, bstrike, bswing, tf, ef, f_lf_0, f_lf_1, f_lf_2, f_lf_3, f_lf_4, f_lf_5, l_bfs, f_bfs_0, f_bfs_1, f_bfs_2, f_bfs_3, f_bfs_4, f_bfs_5, f_bfs_6, f_bfs_7, f_bfs_8, f_bfs_9, f_bfs_10, f_bfs_11, f_bfs_12, f_bfs_13, f_bfs_14, hr_bf, (by first | rfl | omega | exact ⟨by omega, by omega⟩), by rw [ht]; exact hP9, va_K.moved hW.alike hK9, hD9⟩, hS.F ht⟩) hS.2.2 dX0_goStep_8
def zo_d_pullByHand : List Cond := [.code yX0_pullByHand cX0_pullByHand 3 (some .int), .fieldLink RX0 54 "BowWalk$Bow" "strike" "I", .fieldLink RX0 57 "BowWalk$Bow" "swing" "I", .methodLink RX0 83 yX0_slip, .instanceMethod yX0_slip, .selects RX0 yX0_slip yX0_slip, .initialized RX0]
def zw_d_pullByHand : List Cond := zo_d_pullByHand ++ (zw_d_slip ++ (wsX00 ++ []))
theorem gz_d_pullByHand : zw_d_pullByHand.all goodWord = true := p1_ga (by decide +kernel) (p1_ga gz_d_slip (p1_ga gk_X0 p1_g0))
theorem iz_d_pullByHand : ∀ w ∈ zw_d_pullByHand, w ∈ lw_tbl := p1_ia (p1_all [801, 373, 374, 781, 783, 26, 112] (by decide +kernel)) (p1_ia iz_d_slip (p1_ia ik_X0 p1_i0))
set_option maxHeartbeats 4000000 in
set_option maxRecDepth 100000 in
theorem d_pullByHand (l : Launch) (dC : Nat → ClassId) (dI : Nat → Nat → Nat) (sz : Nat) (lw : Nat) (lf : List Value) (lc : Nat) (lb : Nat) (lk : Nat) (lus : Int32) (lro : Int32) (lun : Int32) (cC : ClassId) (cf : Nat → Int32) (cB : ClassId) (bf : Nat → Int32) (cK : ClassId) (kf : Nat → Int32) (bw : Nat) (bfs : List Value) (tg : Nat) (en : Nat) (bcrossings : Int32) (bleft : Int32) (bsteps : Int32) (bslipped : Int32) (bwalk : Int32) (bnextStep : Int32) (bsides : Int32) (blikes : Int32) (bsmooth : Int32) (bweight : Int32) (blength : Int32) (bstrike : Int32) (bswing : Int32) (cT : ClassId) (tf : Nat → Int32) (cE : ClassId) (ef : Nat → Int32) (a1 : Int32) (f_lf_0 : lf[0]? = some (.ref lc)) (f_lf_1 : lf[1]? = some (.ref lb)) (f_lf_2 : lf[2]? = some (.ref lk)) (f_lf_3 : lf[3]? = some (.int lus)) (f_lf_4 : lf[4]? = some (.int lro)) (f_lf_5 : lf[5]? = some (.int lun)) (f_bfs_0 : bfs[0]? = some (.ref tg)) (f_bfs_1 : bfs[1]? = some (.ref en)) (f_bfs_2 : bfs[2]? = some (.int bcrossings)) (f_bfs_3 : bfs[3]? = some (.int bleft)) (f_bfs_4 : bfs[4]? = some (.int bsteps)) (f_bfs_5 : bfs[5]? = some (.int bslipped)) (f_bfs_6 : bfs[6]? = some (.int bwalk)) (f_bfs_7 : bfs[7]? = some (.int bnextStep)) (f_bfs_8 : bfs[8]? = some (.int bsides)) (f_bfs_9 : bfs[9]? = some (.int blikes)) (f_bfs_10 : bfs[10]? = some (.int bsmooth)) (f_bfs_11 : bfs[11]? = some (.int bweight)) (f_bfs_12 : bfs[12]? = some (.int blength)) (f_bfs_13 : bfs[13]? = some (.int bstrike)) (f_bfs_14 : bfs[14]? = some (.int bswing)) (l_bfs : bfs.length = 15) (hr_bf : ∀ k, k < 6 → 0 ≤ ((bf k)).toInt ∧ ((bf k)).toInt ≤ 600) (h2 : 0 ≤ lro.toInt ∧ lro.toInt ≤ 6) (h3 : 0 ≤ bleft.toInt ∧ bleft.toInt ≤ 12) : Met l yX0_pullByHand zw_d_pullByHand ({ frames := 3, cells := 0, slots := 0, locals := 76 }) (va_Pc [.ref bw, .ref lw, .int a1] (fun U => U.heap.size = sz ∧ va_P (dC, dI) vwCl [(lw, .inr (3, lf)), (lc, .inl (cC, 600, .inl cf)), (lb, .inl (cB, 6, .inl bf)), (lk, .inl (cK, 60, .inl kf)), (bw, .inr (0, bfs)), (tg, .inl (cT, 12, .inl tf)), (en, .inl (cE, 2, .inl ef))] U.heap ∧ va_K (dC, dI) vwCl [(cC, .int), (cB, .int), (cK, .int), (cT, .int), (cE, .int)] U ∧ va_D (fun _ => True) [(lw, .inr (3, lf)), (lc, .inl (cC, 600, .inl cf)), (lb, .inl (cB, 6, .inl bf)), (lk, .inl (cK, 60, .inl kf)), (bw, .inr (0, bfs)), (tg, .inl (cT, 12, .inl tf)), (en, .inl (cE, 2, .inl ef))])) (va_Qi (fun (r : Int32) (_ : Unit) => True) (fun _ t => ∃ (kg : Nat → Int32) (bg : List Value) (olf : Int32) (osl : Int32) (ostr : Int32) (osw : Int32) (tg2 : Nat → Int32) (eg2 : Nat → Int32), lf[0]? = some (.ref lc) ∧ lf[1]? = some (.ref lb) ∧ lf[2]? = some (.ref lk) ∧ lf[3]? = some (.int lus) ∧ lf[4]? = some (.int lro) ∧ lf[5]? = some (.int lun) ∧ bg.length = 15 ∧ bg[0]? = some (.ref tg) ∧ bg[1]? = some (.ref en) ∧ bg[2]? = some (.int bcrossings) ∧ bg[3]? = some (.int olf) ∧ bg[4]? = some (.int bsteps) ∧ bg[5]? = some (.int osl) ∧ bg[6]? = some (.int bwalk) ∧ bg[7]? = some (.int bnextStep) ∧ bg[8]? = some (.int bsides) ∧ bg[9]? = some (.int blikes) ∧ bg[10]? = some (.int bsmooth) ∧ bg[11]? = some (.int bweight) ∧ bg[12]? = some (.int blength) ∧ bg[13]? = some (.int ostr) ∧ bg[14]? = some (.int osw) ∧ (∀ k, k < 6 → 0 ≤ ((bf k)).toInt ∧ ((bf k)).toInt ≤ 600) ∧ (0 ≤ olf.toInt ∧ olf.toInt ≤ bleft.toInt) ∧ va_P (dC, dI) vwCl [(lw, .inr (3, lf)), (lc, .inl (cC, 600, .inl cf)), (lb, .inl (cB, 6, .inl bf)), (lk, .inl (cK, 60, .inl kg)), (bw, .inr (0, bg)), (tg, .inl (cT, 12, .inl tg2)), (en, .inl (cE, 2, .inl eg2))] t.heap ∧ va_K (dC, dI) vwCl [] t ∧ va_D (va_A [(lw, .inr (3, lf)), (lc, .inl (cC, 600, .inl cf)), (lb, .inl (cB, 6, .inl bf)), (lk, .inl (cK, 60, .inl kf)), (bw, .inr (0, bfs)), (tg, .inl (cT, 12, .inl tf)), (en, .inl (cE, 2, .inl ef))] sz) [(lw, .inr (3, lf)), (lc, .inl (cC, 600, .inl cf)), (lb, .inl (cB, 6, .inl bf)), (lk, .inl (cK, 60, .inl kg)), (bw, .inr (0, bg)), (tg, .inl (cT, 12, .inl tg2)), (en, .inl (cE, 2, .inl eg2))]) (va_A [(lw, .inr (3, lf)), (lc, .inl (cC, 600, .inl cf)), (lb, .inl (cB, 6, .inl bf)), (lk, .inl (cK, 60, .inl kf)), (bw, .inr (0, bfs)), (tg, .inl (cT, 12, .inl tf)), (en, .inl (cE, 2, .inl ef))] sz)) 0 0 (va_A [(lw, .inr (3, lf)), (lc, .inl (cC, 600, .inl cf)), (lb, .inl (cB, 6, .inl bf)), (lk, .inl (cK, 60, .inl kf)), (bw, .inr (0, bfs)), (tg, .inl (cT, 12, .inl tf)), (en, .inl (cE, 2, .inl ef))] sz) := by
  refine Met.ofW (cc := cX0_pullByHand) (maxL := 3) (ret := (some .int)) (by decide) rfl ?_
  intro p e s m args below meth c s₁ B hml hv
  obtain ⟨rfl, hsz, hP, hK, hD0⟩ := hv
  have hx := B.exec
  have hb := B.bytes
  have hr := B.returns
  have hts := atoms_spec (ws := zw_d_pullByHand) B.pre
  have hown : s.vm.findClass RX0 = some m.cls := findClass_of_methodNamed B.named
  have hlocks := B.notSynchronized
  subst hsz
  have hD := hD0.self (sz := s.heap.size)
  generalize hAe : va_A [(lw, .inr (3, lf)), (lc, .inl (cC, 600, .inl cf)), (lb, .inl (cB, 6, .inl bf)), (lk, .inl (cK, 60, .inl kf)), (bw, .inr (0, bfs)), (tg, .inl (cT, 12, .inl tf)), (en, .inl (cE, 2, .inl ef))] s.heap.size = A at hD ⊢
  have hA : ∀ q : Nat, s.heap.size ≤ q → A q := fun q h => by rw [← hAe]; exact Or.inr h
  have hS : va_S A s.heap s.heap [] := va_S.rf
  have hP : va_P (dC, dI) vwCl [(lw, .inr (3, lf)), (lc, .inl (cC, 600, .inl cf)), (lb, .inl (cB, 6, .inl bf)), (lk, .inl (cK, 60, .inl kf)), (bw, .inr (0, bfs)), (tg, .inl (cT, 12, .inl tf)), (en, .inl (cE, 2, .inl ef))] s.heap := hP
  have m_0 : (.fieldLink RX0 54 "BowWalk$Bow" "strike" "I" : Cond) ∈ zw_d_pullByHand := List.mem_append_left _ (List.mem_of_getElem? (i := 1) rfl)
  have k_0 := hts _ m_0
  have m_1 : (.fieldLink RX0 57 "BowWalk$Bow" "swing" "I" : Cond) ∈ zw_d_pullByHand := List.mem_append_left _ (List.mem_of_getElem? (i := 2) rfl)
  have k_1 := hts _ m_1
  have m_2 : (.methodLink RX0 83 yX0_slip : Cond) ∈ zw_d_pullByHand := List.mem_append_left _ (List.mem_of_getElem? (i := 3) rfl)
  have k_2 := hts _ m_2
  have m_3 : (.instanceMethod yX0_slip : Cond) ∈ zw_d_pullByHand := List.mem_append_left _ (List.mem_of_getElem? (i := 4) rfl)
  have k_3 := hts _ m_3
  have m_4 : (.selects RX0 yX0_slip yX0_slip : Cond) ∈ zw_d_pullByHand := List.mem_append_left _ (List.mem_of_getElem? (i := 5) rfl)
  have k_4 := hts _ m_4
  have m_5 : (.initialized RX0 : Cond) ∈ zw_d_pullByHand := List.mem_append_left _ (List.mem_of_getElem? (i := 6) rfl)
  have k_5 := hts _ m_5
  have g_d_slip : ∀ w ∈ zw_d_slip, w ∈ zw_d_pullByHand := fun w h => List.mem_append_right _ (List.mem_append_left _ h)
  have i_X0 : ∀ w ∈ u_ws RX0 TX0 15, w ∈ zw_d_pullByHand := fun w h => List.mem_append_right _ (List.mem_append_right _ (List.mem_append_left _ h))
  have lt_0 : (0 : Int32).toInt = 0 := by decide
  have hl := lv_entry ([.ref bw, .ref lw, .int a1]) (n := 3) (Nat.le_of_ble_eq_true rfl)
  rw [lg_entry_eq]
  generalize (lg_sl ([.ref bw, .ref lw, .int a1]) ++ List.replicate (3 - (lg_sl ([.ref bw, .ref lw, .int a1])).length) Slot.unset).toArray = ls at hl ⊢
  have hl : lv_has ls 3 [(0, .ref bw), (1, .ref lw), (2, .int a1)] := hl
  refine lv_aload_n hx hb dX0_pullByHand_0 rfl (lv_at hl 0 rfl) ?_
  refine lv_iconst (v := 0) hx hb dX0_pullByHand_1 (by decide) ?_
  refine va_put (D := (dC, dI)) (ci := 0) (v := .int 0) (ty := .int) (C := RX0) (T := TX0) (N := 15) hx hb hts i_X0 tyX0 tyX0_ok nmX0 hown hK hP hD hS 4 rfl rfl 13 (by decide) k_0 (fun _ h9 => h9) rfl (by decide +kernel) rfl rfl (by rw [l_bfs]; decide) dX0_pullByHand_2 (fun H locs hP hD hS => ?_)
  have hP : va_P (dC, dI) vwCl [(lw, .inr (3, lf)), (lc, .inl (cC, 600, .inl cf)), (lb, .inl (cB, 6, .inl bf)), (lk, .inl (cK, 60, .inl kf)), (bw, .inr (0, (bfs.set 13 (.int 0)))), (tg, .inl (cT, 12, .inl tf)), (en, .inl (cE, 2, .inl ef))] H := hP
  have hD : va_D A [(lw, .inr (3, lf)), (lc, .inl (cC, 600, .inl cf)), (lb, .inl (cB, 6, .inl bf)), (lk, .inl (cK, 60, .inl kf)), (bw, .inr (0, (bfs.set 13 (.int 0)))), (tg, .inl (cT, 12, .inl tf)), (en, .inl (cE, 2, .inl ef))] := hD
  generalize efs_1 : (bfs.set 13 (.int 0)) = fs_1 at hP hD
  have lfs_1 : fs_1.length = 15 := by rw [← efs_1, List.length_set]; exact l_bfs
  have ffs_1_0 : fs_1[0]? = some (.ref tg) := by rw [← efs_1]; exact p1_sn (by decide) f_bfs_0
  have ffs_1_1 : fs_1[1]? = some (.ref en) := by rw [← efs_1]; exact p1_sn (by decide) f_bfs_1
  have ffs_1_2 : fs_1[2]? = some (.int bcrossings) := by rw [← efs_1]; exact p1_sn (by decide) f_bfs_2
  have ffs_1_3 : fs_1[3]? = some (.int bleft) := by rw [← efs_1]; exact p1_sn (by decide) f_bfs_3
  have ffs_1_4 : fs_1[4]? = some (.int bsteps) := by rw [← efs_1]; exact p1_sn (by decide) f_bfs_4
  have ffs_1_5 : fs_1[5]? = some (.int bslipped) := by rw [← efs_1]; exact p1_sn (by decide) f_bfs_5
  have ffs_1_6 : fs_1[6]? = some (.int bwalk) := by rw [← efs_1]; exact p1_sn (by decide) f_bfs_6
  have ffs_1_7 : fs_1[7]? = some (.int bnextStep) := by rw [← efs_1]; exact p1_sn (by decide) f_bfs_7
  have ffs_1_8 : fs_1[8]? = some (.int bsides) := by rw [← efs_1]; exact p1_sn (by decide) f_bfs_8
  have ffs_1_9 : fs_1[9]? = some (.int blikes) := by rw [← efs_1]; exact p1_sn (by decide) f_bfs_9
  have ffs_1_10 : fs_1[10]? = some (.int bsmooth) := by rw [← efs_1]; exact p1_sn (by decide) f_bfs_10
  have ffs_1_11 : fs_1[11]? = some (.int bweight) := by rw [← efs_1]; exact p1_sn (by decide) f_bfs_11
  have ffs_1_12 : fs_1[12]? = some (.int blength) := by rw [← efs_1]; exact p1_sn (by decide) f_bfs_12
  have ffs_1_14 : fs_1[14]? = some (.int bswing) := by rw [← efs_1]; exact p1_sn (by decide) f_bfs_14
  have ffs_1_13 : fs_1[13]? = some (.int 0) := by rw [← efs_1]; exact p1_sa l_bfs (by decide)
  refine lv_aload_n hx hb dX0_pullByHand_5 rfl (lv_at hl 0 rfl) ?_
  refine lv_iconst (v := 0) hx hb dX0_pullByHand_6 (by decide) ?_
  refine va_put (D := (dC, dI)) (ci := 0) (v := .int 0) (ty := .int) (C := RX0) (T := TX0) (N := 15) hx hb hts i_X0 tyX0 tyX0_ok nmX0 hown hK hP hD hS 4 rfl rfl 14 (by decide) k_1 (fun _ h9 => h9) rfl (by decide +kernel) rfl rfl (by rw [lfs_1]; decide) dX0_pullByHand_7 (fun H locs hP hD hS => ?_)
  have hP : va_P (dC, dI) vwCl [(lw, .inr (3, lf)), (lc, .inl (cC, 600, .inl cf)), (lb, .inl (cB, 6, .inl bf)), (lk, .inl (cK, 60, .inl kf)), (bw, .inr (0, (fs_1.set 14 (.int 0)))), (tg, .inl (cT, 12, .inl tf)), (en, .inl (cE, 2, .inl ef))] H := hP
  have hD : va_D A [(lw, .inr (3, lf)), (lc, .inl (cC, 600, .inl cf)), (lb, .inl (cB, 6, .inl bf)), (lk, .inl (cK, 60, .inl kf)), (bw, .inr (0, (fs_1.set 14 (.int 0)))), (tg, .inl (cT, 12, .inl tf)), (en, .inl (cE, 2, .inl ef))] := hD
  generalize efs_2 : (fs_1.set 14 (.int 0)) = fs_2 at hP hD
  have lfs_2 : fs_2.length = 15 := by rw [← efs_2, List.length_set]; exact lfs_1
  have ffs_2_0 : fs_2[0]? = some (.ref tg) := by rw [← efs_2]; exact p1_sn (by decide) ffs_1_0
  have ffs_2_1 : fs_2[1]? = some (.ref en) := by rw [← efs_2]; exact p1_sn (by decide) ffs_1_1
  have ffs_2_2 : fs_2[2]? = some (.int bcrossings) := by rw [← efs_2]; exact p1_sn (by decide) ffs_1_2
  have ffs_2_3 : fs_2[3]? = some (.int bleft) := by rw [← efs_2]; exact p1_sn (by decide) ffs_1_3
  have ffs_2_4 : fs_2[4]? = some (.int bsteps) := by rw [← efs_2]; exact p1_sn (by decide) ffs_1_4
  have ffs_2_5 : fs_2[5]? = some (.int bslipped) := by rw [← efs_2]; exact p1_sn (by decide) ffs_1_5
  have ffs_2_6 : fs_2[6]? = some (.int bwalk) := by rw [← efs_2]; exact p1_sn (by decide) ffs_1_6
  have ffs_2_7 : fs_2[7]? = some (.int bnextStep) := by rw [← efs_2]; exact p1_sn (by decide) ffs_1_7
  have ffs_2_8 : fs_2[8]? = some (.int bsides) := by rw [← efs_2]; exact p1_sn (by decide) ffs_1_8
  have ffs_2_9 : fs_2[9]? = some (.int blikes) := by rw [← efs_2]; exact p1_sn (by decide) ffs_1_9
  have ffs_2_10 : fs_2[10]? = some (.int bsmooth) := by rw [← efs_2]; exact p1_sn (by decide) ffs_1_10
  have ffs_2_11 : fs_2[11]? = some (.int bweight) := by rw [← efs_2]; exact p1_sn (by decide) ffs_1_11
  have ffs_2_12 : fs_2[12]? = some (.int blength) := by rw [← efs_2]; exact p1_sn (by decide) ffs_1_12
  have ffs_2_13 : fs_2[13]? = some (.int 0) := by rw [← efs_2]; exact p1_sn (by decide) ffs_1_13
  have ffs_2_14 : fs_2[14]? = some (.int 0) := by rw [← efs_2]; exact p1_sa lfs_1 (by decide)
  refine lv_aload_n hx hb dX0_pullByHand_10 rfl (lv_at hl 0 rfl) ?_
  refine lv_aload_n hx hb dX0_pullByHand_11 rfl (lv_at hl 1 rfl) ?_
  refine lv_iconst (v := 0) hx hb dX0_pullByHand_12 (by decide) ?_
  refine lv_iload_n hx hb dX0_pullByHand_13 rfl (lv_at hl 2 rfl) ?_
  have hPc := hP.sub (ws' := [(lw, .inr (3, lf)), (lc, .inl (cC, 600, .inl cf)), (lb, .inl (cB, 6, .inl bf)), (lk, .inl (cK, 60, .inl kf)), (bw, .inr (0, fs_2)), (tg, .inl (cT, 12, .inl tf)), (en, .inl (cE, 2, .inl ef))]) [0, 1, 2, 3, 4, 5, 6] rfl
  have hDc := hD.sub (ws' := [(lw, .inr (3, lf)), (lc, .inl (cC, 600, .inl cf)), (lb, .inl (cB, 6, .inl bf)), (lk, .inl (cK, 60, .inl kf)), (bw, .inr (0, fs_2)), (tg, .inl (cT, 12, .inl tf)), (en, .inl (cE, 2, .inl ef))]) [0, 1, 2, 3, 4, 5, 6] (by decide) rfl
  have hKc := hK.sub (tys' := [(cC, .int), (cB, .int), (cK, .int), (cT, .int), (cE, .int)]) [0, 1, 2, 3, 4] rfl
  have hFc := va_free (wc := [(lw, .inr (3, lf)), (lc, .inl (cC, 600, .inl cf)), (lb, .inl (cB, 6, .inl bf)), (lk, .inl (cK, 60, .inl kf)), (bw, .inr (0, fs_2)), (tg, .inl (cT, 12, .inl tf)), (en, .inl (cE, 2, .inl ef))]) hD hS hA [0, 1, 2, 3, 4, 5, 6] rfl
  refine va_calli (va_runV (As := [.ref lw, .int 0, .int a1]) (rest := []) ⟨hx, hb, hml, hown, hts⟩ (d_slip l dC dI H.size lw lf lc lb lk lus lro lun cC cf cB bf cK kf bw fs_2 tg en bcrossings bleft bsteps bslipped bwalk bnextStep bsides blikes bsmooth bweight blength 0 0 cT tf cE ef 0 a1 f_lf_0 f_lf_1 f_lf_2 f_lf_3 f_lf_4 f_lf_5 ffs_2_0 ffs_2_1 ffs_2_2 ffs_2_3 ffs_2_4 ffs_2_5 ffs_2_6 ffs_2_7 ffs_2_8 ffs_2_9 ffs_2_10 ffs_2_11 ffs_2_12 ffs_2_13 ffs_2_14 lfs_2 hr_bf ((by omega)) ((by omega))) (cwV 3 hts (p1_gV m_2 m_3 m_4 m_5 g_d_slip gz_d_slip) rfl rfl rfl (by decide +kernel) ⟨by decide, by decide⟩) ⟨fun a U g mk q => by obtain ⟨q0, q1, qP, qK, qD⟩ := q; exact ⟨q0, q1, qP, va_K.moved (u := U) (U := U.calling g mk a) (Vm.Alike.refl U.vm) qK, qD⟩, va_recv hKc hPc (ci := 0) (q0 := 0) rfl rfl, fun U hU hW => ⟨rfl, by rw [hU], by rw [hU]; exact hPc, va_K.moved hW.alike hKc, hDc.weaken (fun _ _ _ _ => trivial)⟩⟩ rfl rfl hl.1 rfl (lv_room (Nat.le_of_ble_eq_true rfl)) dX0_pullByHand_14 ⟨by decide, by decide⟩) hS (fun q _ h => hFc q h) hFc (fun r_3 u t H1 locs ht hvm hw hB hz1 hk1 hS => ?_)
  obtain ⟨kg_4, bg_5, olf_6, osl_7, tg2_8, eg2_9, z_10, z_11, z_12, z_13, z_14, z_15, z_16, z_17, z_18, z_19, z_20, z_21, z_22, z_23, z_24, z_25, z_26, z_27, z_28, z_29, z_30, z_31, z_32, z_33, hP1, hK1, hD1⟩ := hB
  rw [ht] at hP1
  obtain ⟨hP, hD⟩ := va_join (wr := []) (w1 := [(lw, .inr (3, lf)), (lc, .inl (cC, 600, .inl cf)), (lb, .inl (cB, 6, .inl bf)), (lk, .inl (cK, 60, .inl kg_4)), (bw, .inr (0, bg_5)), (tg, .inl (cT, 12, .inl tg2_8)), (en, .inl (cE, 2, .inl eg2_9))]) hP hD [0, 1, 2, 3, 4, 5, 6] [] rfl rfl (by decide) (by decide) hk1 hFc hP1 hD1
  generalize H1 = H at hP hS ⊢
  have hP : va_P (dC, dI) vwCl [(lw, .inr (3, lf)), (lc, .inl (cC, 600, .inl cf)), (lb, .inl (cB, 6, .inl bf)), (lk, .inl (cK, 60, .inl kg_4)), (bw, .inr (0, bg_5)), (tg, .inl (cT, 12, .inl tg2_8)), (en, .inl (cE, 2, .inl eg2_9))] H := hP
  have hD : va_D A [(lw, .inr (3, lf)), (lc, .inl (cC, 600, .inl cf)), (lb, .inl (cB, 6, .inl bf)), (lk, .inl (cK, 60, .inl kg_4)), (bw, .inr (0, bg_5)), (tg, .inl (cT, 12, .inl tg2_8)), (en, .inl (cE, 2, .inl eg2_9))] := hD
  try dsimp only at hw
  have hw_34 := hw
  have hP9 := hP.sub (ws' := [(lw, .inr (3, lf)), (lc, .inl (cC, 600, .inl cf)), (lb, .inl (cB, 6, .inl bf)), (lk, .inl (cK, 60, .inl kg_4)), (bw, .inr (0, bg_5)), (tg, .inl (cT, 12, .inl tg2_8)), (en, .inl (cE, 2, .inl eg2_9))]) [0, 1, 2, 3, 4, 5, 6] rfl
  have hD9 := hD.sub (ws' := [(lw, .inr (3, lf)), (lc, .inl (cC, 600, .inl cf)), (lb, .inl (cB, 6, .inl bf)), (lk, .inl (cK, 60, .inl kg_4)), (bw, .inr (0, bg_5)), (tg, .inl (cT, 12, .inl tg2_8)), (en, .inl (cE, 2, .inl eg2_9))]) [0, 1, 2, 3, 4, 5, 6] (by decide) rfl
  have hK9 := hK.sub (tys' := []) [] rfl
  exact W.iret (v := r_3) hx hb hr (fun t ht hW => ⟨⟨r_3, (), rfl, trivial, kg_4, bg_5, olf_6, osl_7, 0, 0, tg2_8, eg2_9, z_10, z_11, z_12, z_13, z_14, z_15, z_16, z_17, z_18, z_19, z_20, z_21, z_22, z_23, z_24, z_25, z_26, z_27, z_28, z_29, z_30, z_31, z_32, (by first | rfl | omega | exact ⟨by omega, by omega⟩), by rw [ht]; exact hP9, va_K.moved hW.alike hK9, hD9⟩, hS.F ht⟩) hS.2.2 dX0_pullByHand_17
