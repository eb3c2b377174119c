set_option maxHeartbeats 4000000 in
set_option maxRecDepth 100000 in
theorem law_alone {p : Program} {e : Env} {s : State} {m : MethodId} {below : List Frame} {meth : Method} {c : Code} (l : Launch) {b : Nat} {xs : Nat → Int32} (C0 : lw_At p s m meth c b 6 xs) {A : Nat → Prop} (hAe : A = fun q : Nat => s.heap.size ≤ q) (hE : p1_ex A s s.heap) (dC : Nat → ClassId) (dI : Nat → Nat → Nat) (xx : Nat) (xxs : List Value) (xsh : Nat) (xss : List Value) (xsc : Nat) (xcS : ClassId) (rmo : Nat) (rms : List Value) (rkn : Nat) (rcK : ClassId) (rkf : Nat → Int32) (f_xxs_9 : xxs[9]? = some (.ref xsh)) (f_xss_0 : xss[0]? = some (.ref xsc)) (f_rms_11 : rms[11]? = some (.ref rkn)) (f_rms_43 : rms[43]? = some (.int 0)) (h_rkf_0 : rkf 0 = 0) (H : Heap) (locs : List Loc) (ls : Array Slot) (hK : va_K (dC, dI) vwCl [(xcS, .int), (rcK, .int)] s) (hP : va_P (dC, dI) vwCl [(xx, .inr (7, xxs)), (xsh, .inr (5, xss)), (xsc, .inl (xcS, 5, .inl (fun _ => 0))), (rmo, .inr (8, rms)), (rkn, .inl (rcK, 2, .inl rkf))] H) (hD : va_D A [(xx, .inr (7, xxs)), (xsh, .inr (5, xss)), (xsc, .inl (xcS, 5, .inl (fun _ => 0))), (rmo, .inr (8, rms)), (rkn, .inl (rcK, 2, .inl rkf))]) (hS : va_S A s.heap H locs) (hl : lv_has ls 4 [(3, .int 0), (2, .ref rmo), (1, .ref xx), (0, .ref b)]) : W p l e room_1 s m #[Value.ref b] below meth c H locs 152 11751 (lw_Z below #[Value.ref b] s) (F0 m 539 ls []) := by
  obtain ⟨hx, hb, hr, hml, hown, hts, hX, hbl, hlocks, hgv⟩ := id C0
  have hown : s.vm.findClass RL = some m.cls := hown
  have hA : ∀ q : Nat, s.heap.size ≤ q → A q := by rw [hAe]; exact fun _ h => h
  have hbA : ¬ A b := by rw [hAe]; exact Nat.not_le.mpr hbl
  have m_0 : (.methodLink RL 63 yX8_alone : Cond) ∈ lw_tbl := p1_w 857 (by decide +kernel)
  have k_0 := hts _ m_0
  have m_1 : (.instanceMethod yX8_alone : Cond) ∈ lw_tbl := p1_w 858 (by decide +kernel)
  have k_1 := hts _ m_1
  have m_2 : (.selects RX8 yX8_alone yX8_alone : Cond) ∈ lw_tbl := p1_w 859 (by decide +kernel)
  have k_2 := hts _ m_2
  have m_3 : (.initialized RX8 : Cond) ∈ lw_tbl := p1_w 104 (by decide +kernel)
  have k_3 := hts _ m_3
  have m_4 : (.methodLink RL 66 yX9_alone : Cond) ∈ lw_tbl := p1_w 1562 (by decide +kernel)
  have k_4 := hts _ m_4
  have m_5 : (.instanceMethod yX9_alone : Cond) ∈ lw_tbl := p1_w 1563 (by decide +kernel)
  have k_5 := hts _ m_5
  have m_6 : (.selects RX9 yX9_alone yX9_alone : Cond) ∈ lw_tbl := p1_w 1564 (by decide +kernel)
  have k_6 := hts _ m_6
  have m_7 : (.initialized RX9 : Cond) ∈ lw_tbl := p1_w 116 (by decide +kernel)
  have k_7 := hts _ m_7
  have g_x_alone := iz_x_alone
  have g_m_alone := iz_m_alone
  refine lv_aload_n hx hb dL_law_539 rfl (lv_at hl 2 rfl) ?_
  refine lv_aload_n hx hb dL_law_540 rfl (lv_at hl 3 rfl) ?_
  refine lv_iload_n hx hb dL_law_541 rfl (lv_at hl 0 rfl) ?_
  refine lv_iconst (v := 1) hx hb dL_law_542 (by decide) ?_
  refine lv_iadd hx hb dL_law_543 ?_
  refine lv_topi (fun v_1 ev_1 => ?_)
  obtain rfl : v_1 = 1 := ev_1.trans (by decide)
  refine va_sld hx hb hX hbl hbA hS (p1_in (i := 1) (n := 6) (by decide)) dL_law_544 ?_
  refine lv_aload_n hx hb dL_law_545 rfl (lv_at hl 3 rfl) ?_
  refine lv_iload_n hx hb dL_law_546 rfl (lv_at hl 0 rfl) ?_
  refine lv_iconst (v := 2) hx hb dL_law_547 (by decide) ?_
  refine lv_iadd hx hb dL_law_548 ?_
  refine lv_topi (fun v_2 ev_2 => ?_)
  obtain rfl : v_2 = 2 := ev_2.trans (by decide)
  refine va_sld hx hb hX hbl hbA hS (p1_in (i := 2) (n := 6) (by decide)) dL_law_549 ?_
  refine lv_aload_n hx hb dL_law_550 rfl (lv_at hl 3 rfl) ?_
  refine lv_iload_n hx hb dL_law_551 rfl (lv_at hl 0 rfl) ?_
  refine lv_iconst (v := 3) hx hb dL_law_552 (by decide) ?_
  refine lv_iadd hx hb dL_law_553 ?_
  refine lv_topi (fun v_3 ev_3 => ?_)
  obtain rfl : v_3 = 3 := ev_3.trans (by decide)
  refine va_sld hx hb hX hbl hbA hS (p1_in (i := 3) (n := 6) (by decide)) dL_law_554 ?_
  refine lv_aload_n hx hb dL_law_555 rfl (lv_at hl 3 rfl) ?_
  refine lv_iload_n hx hb dL_law_556 rfl (lv_at hl 0 rfl) ?_
  refine lv_iconst (v := 4) hx hb dL_law_557 (by decide) ?_
  refine lv_iadd hx hb dL_law_558 ?_
  refine lv_topi (fun v_4 ev_4 => ?_)
  obtain rfl : v_4 = 4 := ev_4.trans (by decide)
  refine va_sld hx hb hX hbl hbA hS (p1_in (i := 4) (n := 6) (by decide)) dL_law_559 ?_
  have hPc := hP.sub (ws' := [(xx, .inr (7, xxs)), (xsh, .inr (5, xss)), (xsc, .inl (xcS, 5, .inl (fun _ => 0)))]) [0, 1, 2] rfl
  have hDc := hD.sub (ws' := [(xx, .inr (7, xxs)), (xsh, .inr (5, xss)), (xsc, .inl (xcS, 5, .inl (fun _ => 0)))]) [0, 1, 2] (by decide) rfl
  have hKc := hK.sub (tys' := [(xcS, .int)]) [0] rfl
  have hFc := va_free (wc := [(xx, .inr (7, xxs)), (xsh, .inr (5, xss)), (xsc, .inl (xcS, 5, .inl (fun _ => 0)))]) hD hS hA [0, 1, 2] rfl
  refine va_calli (va_runV (As := [.int (xs (1 : Int32).toNatClampNeg), .int (xs (2 : Int32).toNatClampNeg), .int (xs (3 : Int32).toNatClampNeg), .int (xs (4 : Int32).toNatClampNeg)]) (rest := []) ⟨hx, hb, hml, hown, hts⟩ (x_alone l dC dI H.size xx xxs xsh xss xsc xcS ((xs (1 : Int32).toNatClampNeg)) ((xs (2 : Int32).toNatClampNeg)) ((xs (3 : Int32).toNatClampNeg)) ((xs (4 : Int32).toNatClampNeg)) f_xxs_9 f_xss_0) (cwV 4 hts (p1_gV m_0 m_1 m_2 m_3 g_x_alone gz_x_alone) rfl rfl rfl (by decide +kernel) ⟨by decide, by decide⟩) ⟨fun a U g mk q => by obtain ⟨q0, q1, qP, qK, qD⟩ := q; exact ⟨q0, q1, qP, va_K.moved (u := U) (U := U.calling g mk a) (Vm.Alike.refl U.vm) qK, qD⟩, va_recv hKc hPc (ci := 7) (q0 := 0) rfl rfl, fun U hU hW => ⟨rfl, by rw [hU], by rw [hU]; exact hPc, va_K.moved hW.alike hKc, hDc.weaken (fun _ _ _ _ => trivial)⟩⟩ rfl rfl hl.1 rfl (lv_room (Nat.le_of_ble_eq_true rfl)) dL_law_560 ⟨by decide, by decide⟩) hS (fun q _ h => hFc q h) hFc (fun r_5 u t H1 locs ht hvm hw hB hz1 hk1 hS => ?_)
  obtain ⟨hP1, hK1, hD1⟩ := hB
  rw [ht] at hP1
  obtain ⟨hP, hD⟩ := va_join (wr := [(rmo, .inr (8, rms)), (rkn, .inl (rcK, 2, .inl rkf))]) (w1 := []) hP hD [0, 1, 2] [3, 4] rfl rfl (by decide) (by decide) hk1 hFc hP1 hD1
  generalize H1 = H at hP hS ⊢
  have hP : va_P (dC, dI) vwCl [(rmo, .inr (8, rms)), (rkn, .inl (rcK, 2, .inl rkf))] H := hP
  have hD : va_D A [(rmo, .inr (8, rms)), (rkn, .inl (rcK, 2, .inl rkf))] := hD
  try dsimp only at hw
  obtain rfl : r_5 = (-1) := hw
  refine lv_aload_n hx hb dL_law_563 rfl (lv_at hl 1 rfl) ?_
  refine lv_aload_n hx hb dL_law_564 rfl (lv_at hl 3 rfl) ?_
  refine lv_iload_n hx hb dL_law_565 rfl (lv_at hl 0 rfl) ?_
  refine lv_iconst (v := 1) hx hb dL_law_566 (by decide) ?_
  refine lv_iadd hx hb dL_law_567 ?_
  refine lv_topi (fun v_6 ev_6 => ?_)
  obtain rfl : v_6 = 1 := ev_6.trans (by decide)
  refine va_sld hx hb hX hbl hbA hS (p1_in (i := 1) (n := 6) (by decide)) dL_law_568 ?_
  refine lv_aload_n hx hb dL_law_569 rfl (lv_at hl 3 rfl) ?_
  refine lv_iload_n hx hb dL_law_570 rfl (lv_at hl 0 rfl) ?_
  refine lv_iconst (v := 2) hx hb dL_law_571 (by decide) ?_
  refine lv_iadd hx hb dL_law_572 ?_
  refine lv_topi (fun v_7 ev_7 => ?_)
  obtain rfl : v_7 = 2 := ev_7.trans (by decide)
  refine va_sld hx hb hX hbl hbA hS (p1_in (i := 2) (n := 6) (by decide)) dL_law_573 ?_
  refine lv_aload_n hx hb dL_law_574 rfl (lv_at hl 3 rfl) ?_
  refine lv_iload_n hx hb dL_law_575 rfl (lv_at hl 0 rfl) ?_
  refine lv_iconst (v := 3) hx hb dL_law_576 (by decide) ?_
  refine lv_iadd hx hb dL_law_577 ?_
  refine lv_topi (fun v_8 ev_8 => ?_)
  obtain rfl : v_8 = 3 := ev_8.trans (by decide)
  refine va_sld hx hb hX hbl hbA hS (p1_in (i := 3) (n := 6) (by decide)) dL_law_578 ?_
  refine lv_aload_n hx hb dL_law_579 rfl (lv_at hl 3 rfl) ?_
  refine lv_iload_n hx hb dL_law_580 rfl (lv_at hl 0 rfl) ?_
  refine lv_iconst (v := 4) hx hb dL_law_581 (by decide) ?_
  refine lv_iadd hx hb dL_law_582 ?_
  refine lv_topi (fun v_9 ev_9 => ?_)
  obtain rfl : v_9 = 4 := ev_9.trans (by decide)
  refine va_sld hx hb hX hbl hbA hS (p1_in (i := 4) (n := 6) (by decide)) dL_law_583 ?_
  have hPc := hP.sub (ws' := [(rmo, .inr (8, rms)), (rkn, .inl (rcK, 2, .inl rkf))]) [0, 1] rfl
  have hDc := hD.sub (ws' := [(rmo, .inr (8, rms)), (rkn, .inl (rcK, 2, .inl rkf))]) [0, 1] (by decide) rfl
  have hKc := hK.sub (tys' := [(rcK, .int)]) [1] rfl
  have hFc := va_free (wc := [(rmo, .inr (8, rms)), (rkn, .inl (rcK, 2, .inl rkf))]) hD hS hA [0, 1] rfl
  refine va_calli (va_runV (As := [.int (xs (1 : Int32).toNatClampNeg), .int (xs (2 : Int32).toNatClampNeg), .int (xs (3 : Int32).toNatClampNeg), .int (xs (4 : Int32).toNatClampNeg)]) (rest := [.int (-1)]) ⟨hx, hb, hml, hown, hts⟩ (m_alone l dC dI H.size rmo rms rkn rcK rkf ((xs (1 : Int32).toNatClampNeg)) ((xs (2 : Int32).toNatClampNeg)) ((xs (3 : Int32).toNatClampNeg)) ((xs (4 : Int32).toNatClampNeg)) f_rms_11 f_rms_43 h_rkf_0) (cwV 4 hts (p1_gV m_4 m_5 m_6 m_7 g_m_alone gz_m_alone) rfl rfl rfl (by decide +kernel) ⟨by decide, by decide⟩) ⟨fun a U g mk q => by obtain ⟨q0, q1, qP, qK, qD⟩ := q; exact ⟨q0, q1, qP, va_K.moved (u := U) (U := U.calling g mk a) (Vm.Alike.refl U.vm) qK, qD⟩, va_recv hKc hPc (ci := 8) (q0 := 0) rfl rfl, fun U hU hW => ⟨rfl, by rw [hU], by rw [hU]; exact hPc, va_K.moved hW.alike hKc, hDc.weaken (fun _ _ _ _ => trivial)⟩⟩ rfl rfl hl.1 rfl (lv_room (Nat.le_of_ble_eq_true rfl)) dL_law_584 ⟨by decide, by decide⟩) hS (fun q _ h => hFc q h) hFc (fun r_10 u t H1 locs ht hvm hw hB hz1 hk1 hS => ?_)
  obtain ⟨hP1, hK1, hD1⟩ := hB
  rw [ht] at hP1
  obtain ⟨hP, hD⟩ := va_join (wr := []) (w1 := []) hP hD [0, 1] [] rfl rfl (by decide) (by decide) hk1 hFc hP1 hD1
  generalize H1 = H at hP hS ⊢
  have hP : va_P (dC, dI) vwCl [] H := hP
  have hD : va_D A [] := hD
  try dsimp only at hw
  obtain rfl : r_10 = (-1) := hw
  refine lv_icmp_eq (tgt := 1382) hx hb dL_law_587 (by decide) (fun _ => ?_) (fun c9 => absurd c9 (by decide))
  refine lv_iinc (v := 6) (lv' := [(3, .int 6), (2, .ref rmo), (1, .ref xx), (0, .ref b)]) hx hb dL_law_1382 hl (k := 0) rfl (by decide) (by decide) rfl (fun ls hl => ?_)
  refine lv_goto (tgt := 18) hx hb dL_law_1385 (by decide) ?_
  refine lv_iload_n hx hb dL_law_18 rfl (lv_at hl 0 rfl) ?_
  refine lv_aload_n hx hb dL_law_19 rfl (lv_at hl 3 rfl) ?_
  refine va_slen hx hb hX hbl hbA hS dL_law_20 ?_
  refine lv_topi (fun v_12 ev_12 => ?_)
  obtain rfl : v_12 = 6 := ev_12.trans rfl
  refine lv_bipush (v := 6) hx hb dL_law_21 (by decide) ?_
  refine lv_isub hx hb dL_law_23 ?_
  refine lv_topi (fun v_13 ev_13 => ?_)
  obtain rfl : v_13 = 0 := ev_13.trans (by decide)
  refine lv_icmp_gt (tgt := 1388) hx hb dL_law_24 (by decide) (fun _ => ?_) (fun c9 => absurd c9 (by decide))
  refine lv_iconst (v := 1) hx hb dL_law_1388 (by decide) ?_
  refine va_forget (fun q hq => by have h9 := hS.2.2 q hq; rw [hAe] at h9; exact h9) ?_
  refine W.widen (k := 600000) (n := 7302249) (by decide) (by decide) ?_
  exact lw_ret hx hb hr hlocks dL_law_1389
set_option maxHeartbeats 4000000 in
set_option maxRecDepth 100000 in
theorem law_undone {p : Program} {e : Env} {s : State} {m : MethodId} {below : List Frame} {meth : Method} {c : Code} (l : Launch) {b : Nat} {xs : Nat → Int32} (C0 : lw_At p s m meth c b 6 xs) {A : Nat → Prop} (hAe : A = fun q : Nat => s.heap.size ≤ q) (hE : p1_ex A s s.heap) (dC : Nat → ClassId) (dI : Nat → Nat → Nat) (xx : Nat) (xxs : List Value) (xsh : Nat) (xss : List Value) (xsc : Nat) (xcS : ClassId) (rmo : Nat) (rms : List Value) (rkn : Nat) (rcK : ClassId) (rkf : Nat → Int32) (f_xxs_9 : xxs[9]? = some (.ref xsh)) (f_xss_0 : xss[0]? = some (.ref xsc)) (f_rms_11 : rms[11]? = some (.ref rkn)) (f_rms_43 : rms[43]? = some (.int 0)) (h_rkf_0 : rkf 0 = 0) (H : Heap) (locs : List Loc) (ls : Array Slot) (hK : va_K (dC, dI) vwCl [(xcS, .int), (rcK, .int)] s) (hP : va_P (dC, dI) vwCl [(xx, .inr (7, xxs)), (xsh, .inr (5, xss)), (xsc, .inl (xcS, 5, .inl (fun _ => 0))), (rmo, .inr (8, rms)), (rkn, .inl (rcK, 2, .inl rkf))] H) (hD : va_D A [(xx, .inr (7, xxs)), (xsh, .inr (5, xss)), (xsc, .inl (xcS, 5, .inl (fun _ => 0))), (rmo, .inr (8, rms)), (rkn, .inl (rcK, 2, .inl rkf))]) (hS : va_S A s.heap H locs) (hl : lv_has ls 4 [(3, .int 0), (2, .ref rmo), (1, .ref xx), (0, .ref b)]) : W p l e room_1 s m #[Value.ref b] below meth c H locs 152 11751 (lw_Z below #[Value.ref b] s) (F0 m 592 ls []) := by
  obtain ⟨hx, hb, hr, hml, hown, hts, hX, hbl, hlocks, hgv⟩ := id C0
  have hown : s.vm.findClass RL = some m.cls := hown
  have hA : ∀ q : Nat, s.heap.size ≤ q → A q := by rw [hAe]; exact fun _ h => h
  have hbA : ¬ A b := by rw [hAe]; exact Nat.not_le.mpr hbl
  have m_0 : (.methodLink RL 67 yX8_undone : Cond) ∈ lw_tbl := p1_w 866 (by decide +kernel)
  have k_0 := hts _ m_0
  have m_1 : (.instanceMethod yX8_undone : Cond) ∈ lw_tbl := p1_w 867 (by decide +kernel)
  have k_1 := hts _ m_1
  have m_2 : (.selects RX8 yX8_undone yX8_undone : Cond) ∈ lw_tbl := p1_w 868 (by decide +kernel)
  have k_2 := hts _ m_2
  have m_3 : (.initialized RX8 : Cond) ∈ lw_tbl := p1_w 104 (by decide +kernel)
  have k_3 := hts _ m_3
  have m_4 : (.methodLink RL 70 yX9_undone : Cond) ∈ lw_tbl := p1_w 1566 (by decide +kernel)
  have k_4 := hts _ m_4
  have m_5 : (.instanceMethod yX9_undone : Cond) ∈ lw_tbl := p1_w 1567 (by decide +kernel)
  have k_5 := hts _ m_5
  have m_6 : (.selects RX9 yX9_undone yX9_undone : Cond) ∈ lw_tbl := p1_w 1568 (by decide +kernel)
  have k_6 := hts _ m_6
  have m_7 : (.initialized RX9 : Cond) ∈ lw_tbl := p1_w 116 (by decide +kernel)
  have k_7 := hts _ m_7
  have g_x_undone := iz_x_undone
  have g_m_undone := iz_m_undone
  refine lv_aload_n hx hb dL_law_592 rfl (lv_at hl 2 rfl) ?_
  refine lv_aload_n hx hb dL_law_593 rfl (lv_at hl 3 rfl) ?_
  refine lv_iload_n hx hb dL_law_594 rfl (lv_at hl 0 rfl) ?_
  refine lv_iconst (v := 1) hx hb dL_law_595 (by decide) ?_
  refine lv_iadd hx hb dL_law_596 ?_
  refine lv_topi (fun v_1 ev_1 => ?_)
  obtain rfl : v_1 = 1 := ev_1.trans (by decide)
  refine va_sld hx hb hX hbl hbA hS (p1_in (i := 1) (n := 6) (by decide)) dL_law_597 ?_
  refine lv_aload_n hx hb dL_law_598 rfl (lv_at hl 3 rfl) ?_
  refine lv_iload_n hx hb dL_law_599 rfl (lv_at hl 0 rfl) ?_
  refine lv_iconst (v := 2) hx hb dL_law_600 (by decide) ?_
  refine lv_iadd hx hb dL_law_601 ?_
  refine lv_topi (fun v_2 ev_2 => ?_)
  obtain rfl : v_2 = 2 := ev_2.trans (by decide)
  refine va_sld hx hb hX hbl hbA hS (p1_in (i := 2) (n := 6) (by decide)) dL_law_602 ?_
  have hPc := hP.sub (ws' := [(xx, .inr (7, xxs)), (xsh, .inr (5, xss)), (xsc, .inl (xcS, 5, .inl (fun _ => 0)))]) [0, 1, 2] rfl
  have hDc := hD.sub (ws' := [(xx, .inr (7, xxs)), (xsh, .inr (5, xss)), (xsc, .inl (xcS, 5, .inl (fun _ => 0)))]) [0, 1, 2] (by decide) rfl
  have hKc := hK.sub (tys' := [(xcS, .int)]) [0] rfl
  have hFc := va_free (wc := [(xx, .inr (7, xxs)), (xsh, .inr (5, xss)), (xsc, .inl (xcS, 5, .inl (fun _ => 0)))]) hD hS hA [0, 1, 2] rfl
  refine va_calli (va_runV (As := [.int (xs (1 : Int32).toNatClampNeg), .int (xs (2 : Int32).toNatClampNeg)]) (rest := []) ⟨hx, hb, hml, hown, hts⟩ (x_undone l dC dI H.size xx xxs xsh xss xsc xcS ((xs (1 : Int32).toNatClampNeg)) ((xs (2 : Int32).toNatClampNeg)) f_xxs_9 f_xss_0) (cwV 2 hts (p1_gV m_0 m_1 m_2 m_3 g_x_undone gz_x_undone) rfl rfl rfl (by decide +kernel) ⟨by decide, by decide⟩) ⟨fun a U g mk q => by obtain ⟨q0, q1, qP, qK, qD⟩ := q; exact ⟨q0, q1, qP, va_K.moved (u := U) (U := U.calling g mk a) (Vm.Alike.refl U.vm) qK, qD⟩, va_recv hKc hPc (ci := 7) (q0 := 0) rfl rfl, fun U hU hW => ⟨rfl, by rw [hU], by rw [hU]; exact hPc, va_K.moved hW.alike hKc, hDc.weaken (fun _ _ _ _ => trivial)⟩⟩ rfl rfl hl.1 rfl (lv_room (Nat.le_of_ble_eq_true rfl)) dL_law_603 ⟨by decide, by decide⟩) hS (fun q _ h => hFc q h) hFc (fun r_3 u t H1 locs ht hvm hw hB hz1 hk1 hS => ?_)
  obtain ⟨hP1, hK1, hD1⟩ := hB
  rw [ht] at hP1
  obtain ⟨hP, hD⟩ := va_join (wr := [(rmo, .inr (8, rms)), (rkn, .inl (rcK, 2, .inl rkf))]) (w1 := []) hP hD [0, 1, 2] [3, 4] rfl rfl (by decide) (by decide) hk1 hFc hP1 hD1
  generalize H1 = H at hP hS ⊢
  have hP : va_P (dC, dI) vwCl [(rmo, .inr (8, rms)), (rkn, .inl (rcK, 2, .inl rkf))] H := hP
  have hD : va_D A [(rmo, .inr (8, rms)), (rkn, .inl (rcK, 2, .inl rkf))] := hD
  try dsimp only at hw
  obtain rfl : r_3 = (-1) := hw
  refine lv_aload_n hx hb dL_law_606 rfl (lv_at hl 1 rfl) ?_
  refine lv_aload_n hx hb dL_law_607 rfl (lv_at hl 3 rfl) ?_
  refine lv_iload_n hx hb dL_law_608 rfl (lv_at hl 0 rfl) ?_
  refine lv_iconst (v := 1) hx hb dL_law_609 (by decide) ?_
  refine lv_iadd hx hb dL_law_610 ?_
  refine lv_topi (fun v_4 ev_4 => ?_)
  obtain rfl : v_4 = 1 := ev_4.trans (by decide)
  refine va_sld hx hb hX hbl hbA hS (p1_in (i := 1) (n := 6) (by decide)) dL_law_611 ?_
  refine lv_aload_n hx hb dL_law_612 rfl (lv_at hl 3 rfl) ?_
  refine lv_iload_n hx hb dL_law_613 rfl (lv_at hl 0 rfl) ?_
  refine lv_iconst (v := 2) hx hb dL_law_614 (by decide) ?_
  refine lv_iadd hx hb dL_law_615 ?_
  refine lv_topi (fun v_5 ev_5 => ?_)
  obtain rfl : v_5 = 2 := ev_5.trans (by decide)
  refine va_sld hx hb hX hbl hbA hS (p1_in (i := 2) (n := 6) (by decide)) dL_law_616 ?_
  have hPc := hP.sub (ws' := [(rmo, .inr (8, rms)), (rkn, .inl (rcK, 2, .inl rkf))]) [0, 1] rfl
  have hDc := hD.sub (ws' := [(rmo, .inr (8, rms)), (rkn, .inl (rcK, 2, .inl rkf))]) [0, 1] (by decide) rfl
  have hKc := hK.sub (tys' := [(rcK, .int)]) [1] rfl
  have hFc := va_free (wc := [(rmo, .inr (8, rms)), (rkn, .inl (rcK, 2, .inl rkf))]) hD hS hA [0, 1] rfl
  refine va_calli (va_runV (As := [.int (xs (1 : Int32).toNatClampNeg), .int (xs (2 : Int32).toNatClampNeg)]) (rest := [.int (-1)]) ⟨hx, hb, hml, hown, hts⟩ (m_undone l dC dI H.size rmo rms rkn rcK rkf ((xs (1 : Int32).toNatClampNeg)) ((xs (2 : Int32).toNatClampNeg)) f_rms_11 f_rms_43 h_rkf_0) (cwV 2 hts (p1_gV m_4 m_5 m_6 m_7 g_m_undone gz_m_undone) rfl rfl rfl (by decide +kernel) ⟨by decide, by decide⟩) ⟨fun a U g mk q => by obtain ⟨q0, q1, qP, qK, qD⟩ := q; exact ⟨q0, q1, qP, va_K.moved (u := U) (U := U.calling g mk a) (Vm.Alike.refl U.vm) qK, qD⟩, va_recv hKc hPc (ci := 8) (q0 := 0) rfl rfl, fun U hU hW => ⟨rfl, by rw [hU], by rw [hU]; exact hPc, va_K.moved hW.alike hKc, hDc.weaken (fun _ _ _ _ => trivial)⟩⟩ rfl rfl hl.1 rfl (lv_room (Nat.le_of_ble_eq_true rfl)) dL_law_617 ⟨by decide, by decide⟩) hS (fun q _ h => hFc q h) hFc (fun r_6 u t H1 locs ht hvm hw hB hz1 hk1 hS => ?_)
  obtain ⟨hP1, hK1, hD1⟩ := hB
  rw [ht] at hP1
  obtain ⟨hP, hD⟩ := va_join (wr := []) (w1 := []) hP hD [0, 1] [] rfl rfl (by decide) (by decide) hk1 hFc hP1 hD1
  generalize H1 = H at hP hS ⊢
  have hP : va_P (dC, dI) vwCl [] H := hP
  have hD : va_D A [] := hD
  try dsimp only at hw
  obtain rfl : r_6 = (-1) := hw
  refine lv_icmp_eq (tgt := 1382) hx hb dL_law_620 (by decide) (fun _ => ?_) (fun c9 => absurd c9 (by decide))
  refine lv_iinc (v := 6) (lv' := [(3, .int 6), (2, .ref rmo), (1, .ref xx), (0, .ref b)]) hx hb dL_law_1382 hl (k := 0) rfl (by decide) (by decide) rfl (fun ls hl => ?_)
  refine lv_goto (tgt := 18) hx hb dL_law_1385 (by decide) ?_
  refine lv_iload_n hx hb dL_law_18 rfl (lv_at hl 0 rfl) ?_
  refine lv_aload_n hx hb dL_law_19 rfl (lv_at hl 3 rfl) ?_
  refine va_slen hx hb hX hbl hbA hS dL_law_20 ?_
  refine lv_topi (fun v_8 ev_8 => ?_)
  obtain rfl : v_8 = 6 := ev_8.trans rfl
  refine lv_bipush (v := 6) hx hb dL_law_21 (by decide) ?_
  refine lv_isub hx hb dL_law_23 ?_
  refine lv_topi (fun v_9 ev_9 => ?_)
  obtain rfl : v_9 = 0 := ev_9.trans (by decide)
  refine lv_icmp_gt (tgt := 1388) hx hb dL_law_24 (by decide) (fun _ => ?_) (fun c9 => absurd c9 (by decide))
  refine lv_iconst (v := 1) hx hb dL_law_1388 (by decide) ?_
  refine va_forget (fun q hq => by have h9 := hS.2.2 q hq; rw [hAe] at h9; exact h9) ?_
  refine W.widen (k := 600000) (n := 7302249) (by decide) (by decide) ?_
  exact lw_ret hx hb hr hlocks dL_law_1389
set_option maxHeartbeats 4000000 in
set_option maxRecDepth 100000 in
theorem law_met {p : Program} {e : Env} {s : State} {m : MethodId} {below : List Frame} {meth : Method} {c : Code} (l : Launch) {b : Nat} {xs : Nat → Int32} (C0 : lw_At p s m meth c b 6 xs) {A : Nat → Prop} (hAe : A = fun q : Nat => s.heap.size ≤ q) (hE : p1_ex A s s.heap) (dC : Nat → ClassId) (dI : Nat → Nat → Nat) (xx : Nat) (xxs : List Value) (xsh : Nat) (xss : List Value) (xsc : Nat) (xcS : ClassId) (rmo : Nat) (rms : List Value) (rwt : Nat) (rcT : ClassId) (rtf : Nat → Int32) (f_xxs_9 : xxs[9]? = some (.ref xsh)) (f_xss_0 : xss[0]? = some (.ref xsc)) (f_rms_15 : rms[15]? = some (.ref rwt)) (f_rms_43 : rms[43]? = some (.int 0)) (h_rtf_0 : rtf 0 = 0) (H : Heap) (locs : List Loc) (ls : Array Slot) (hK : va_K (dC, dI) vwCl [(xcS, .int), (rcT, .int)] s) (hP : va_P (dC, dI) vwCl [(xx, .inr (7, xxs)), (xsh, .inr (5, xss)), (xsc, .inl (xcS, 5, .inl (fun _ => 0))), (rmo, .inr (8, rms)), (rwt, .inl (rcT, 2, .inl rtf))] H) (hD : va_D A [(xx, .inr (7, xxs)), (xsh, .inr (5, xss)), (xsc, .inl (xcS, 5, .inl (fun _ => 0))), (rmo, .inr (8, rms)), (rwt, .inl (rcT, 2, .inl rtf))]) (hS : va_S A s.heap H locs) (hl : lv_has ls 4 [(3, .int 0), (2, .ref rmo), (1, .ref xx), (0, .ref b)]) : W p l e room_1 s m #[Value.ref b] below meth c H locs 152 11751 (lw_Z below #[Value.ref b] s) (F0 m 625 ls []) := by
  obtain ⟨hx, hb, hr, hml, hown, hts, hX, hbl, hlocks, hgv⟩ := id C0
  have hown : s.vm.findClass RL = some m.cls := hown
  have hA : ∀ q : Nat, s.heap.size ≤ q → A q := by rw [hAe]; exact fun _ h => h
  have hbA : ¬ A b := by rw [hAe]; exact Nat.not_le.mpr hbl
  have m_0 : (.methodLink RL 71 yX8_met : Cond) ∈ lw_tbl := p1_w 879 (by decide +kernel)
  have k_0 := hts _ m_0
  have m_1 : (.instanceMethod yX8_met : Cond) ∈ lw_tbl := p1_w 880 (by decide +kernel)
  have k_1 := hts _ m_1
  have m_2 : (.selects RX8 yX8_met yX8_met : Cond) ∈ lw_tbl := p1_w 881 (by decide +kernel)
  have k_2 := hts _ m_2
  have m_3 : (.initialized RX8 : Cond) ∈ lw_tbl := p1_w 104 (by decide +kernel)
  have k_3 := hts _ m_3
  have m_4 : (.methodLink RL 74 yX9_met : Cond) ∈ lw_tbl := p1_w 1578 (by decide +kernel)
  have k_4 := hts _ m_4
  have m_5 : (.instanceMethod yX9_met : Cond) ∈ lw_tbl := p1_w 1579 (by decide +kernel)
  have k_5 := hts _ m_5
  have m_6 : (.selects RX9 yX9_met yX9_met : Cond) ∈ lw_tbl := p1_w 1580 (by decide +kernel)
  have k_6 := hts _ m_6
  have m_7 : (.initialized RX9 : Cond) ∈ lw_tbl := p1_w 116 (by decide +kernel)
  have k_7 := hts _ m_7
  have g_x_met := iz_x_met
  have g_m_met := iz_m_met
  refine lv_aload_n hx hb dL_law_625 rfl (lv_at hl 2 rfl) ?_
  refine lv_aload_n hx hb dL_law_626 rfl (lv_at hl 3 rfl) ?_
  refine lv_iload_n hx hb dL_law_627 rfl (lv_at hl 0 rfl) ?_
  refine lv_iconst (v := 1) hx hb dL_law_628 (by decide) ?_
  refine lv_iadd hx hb dL_law_629 ?_
  refine lv_topi (fun v_1 ev_1 => ?_)
  obtain rfl : v_1 = 1 := ev_1.trans (by decide)
  refine va_sld hx hb hX hbl hbA hS (p1_in (i := 1) (n := 6) (by decide)) dL_law_630 ?_
  refine lv_aload_n hx hb dL_law_631 rfl (lv_at hl 3 rfl) ?_
  refine lv_iload_n hx hb dL_law_632 rfl (lv_at hl 0 rfl) ?_
  refine lv_iconst (v := 2) hx hb dL_law_633 (by decide) ?_
  refine lv_iadd hx hb dL_law_634 ?_
  refine lv_topi (fun v_2 ev_2 => ?_)
  obtain rfl : v_2 = 2 := ev_2.trans (by decide)
  refine va_sld hx hb hX hbl hbA hS (p1_in (i := 2) (n := 6) (by decide)) dL_law_635 ?_
  refine lv_aload_n hx hb dL_law_636 rfl (lv_at hl 3 rfl) ?_
  refine lv_iload_n hx hb dL_law_637 rfl (lv_at hl 0 rfl) ?_
  refine lv_iconst (v := 3) hx hb dL_law_638 (by decide) ?_
  refine lv_iadd hx hb dL_law_639 ?_
  refine lv_topi (fun v_3 ev_3 => ?_)
  obtain rfl : v_3 = 3 := ev_3.trans (by decide)
  refine va_sld hx hb hX hbl hbA hS (p1_in (i := 3) (n := 6) (by decide)) dL_law_640 ?_
  refine lv_aload_n hx hb dL_law_641 rfl (lv_at hl 3 rfl) ?_
  refine lv_iload_n hx hb dL_law_642 rfl (lv_at hl 0 rfl) ?_
  refine lv_iconst (v := 4) hx hb dL_law_643 (by decide) ?_
  refine lv_iadd hx hb dL_law_644 ?_
  refine lv_topi (fun v_4 ev_4 => ?_)
  obtain rfl : v_4 = 4 := ev_4.trans (by decide)
  refine va_sld hx hb hX hbl hbA hS (p1_in (i := 4) (n := 6) (by decide)) dL_law_645 ?_
  have hPc := hP.sub (ws' := [(xx, .inr (7, xxs)), (xsh, .inr (5, xss)), (xsc, .inl (xcS, 5, .inl (fun _ => 0)))]) [0, 1, 2] rfl
  have hDc := hD.sub (ws' := [(xx, .inr (7, xxs)), (xsh, .inr (5, xss)), (xsc, .inl (xcS, 5, .inl (fun _ => 0)))]) [0, 1, 2] (by decide) rfl
  have hKc := hK.sub (tys' := [(xcS, .int)]) [0] rfl
  have hFc := va_free (wc := [(xx, .inr (7, xxs)), (xsh, .inr (5, xss)), (xsc, .inl (xcS, 5, .inl (fun _ => 0)))]) hD hS hA [0, 1, 2] rfl
  refine va_calli (va_runV (As := [.int (xs (1 : Int32).toNatClampNeg), .int (xs (2 : Int32).toNatClampNeg), .int (xs (3 : Int32).toNatClampNeg), .int (xs (4 : Int32).toNatClampNeg)]) (rest := []) ⟨hx, hb, hml, hown, hts⟩ (x_met l dC dI H.size xx xxs xsh xss xsc xcS ((xs (1 : Int32).toNatClampNeg)) ((xs (2 : Int32).toNatClampNeg)) ((xs (3 : Int32).toNatClampNeg)) ((xs (4 : Int32).toNatClampNeg)) f_xxs_9 f_xss_0) (cwV 4 hts (p1_gV m_0 m_1 m_2 m_3 g_x_met gz_x_met) rfl rfl rfl (by decide +kernel) ⟨by decide, by decide⟩) ⟨fun a U g mk q => by obtain ⟨q0, q1, qP, qK, qD⟩ := q; exact ⟨q0, q1, qP, va_K.moved (u := U) (U := U.calling g mk a) (Vm.Alike.refl U.vm) qK, qD⟩, va_recv hKc hPc (ci := 7) (q0 := 0) rfl rfl, fun U hU hW => ⟨rfl, by rw [hU], by rw [hU]; exact hPc, va_K.moved hW.alike hKc, hDc.weaken (fun _ _ _ _ => trivial)⟩⟩ rfl rfl hl.1 rfl (lv_room (Nat.le_of_ble_eq_true rfl)) dL_law_646 ⟨by decide, by decide⟩) hS (fun q _ h => hFc q h) hFc (fun r_5 u t H1 locs ht hvm hw hB hz1 hk1 hS => ?_)
  obtain ⟨hP1, hK1, hD1⟩ := hB
  rw [ht] at hP1
  obtain ⟨hP, hD⟩ := va_join (wr := [(rmo, .inr (8, rms)), (rwt, .inl (rcT, 2, .inl rtf))]) (w1 := []) hP hD [0, 1, 2] [3, 4] rfl rfl (by decide) (by decide) hk1 hFc hP1 hD1
  generalize H1 = H at hP hS ⊢
  have hP : va_P (dC, dI) vwCl [(rmo, .inr (8, rms)), (rwt, .inl (rcT, 2, .inl rtf))] H := hP
  have hD : va_D A [(rmo, .inr (8, rms)), (rwt, .inl (rcT, 2, .inl rtf))] := hD
  try dsimp only at hw
  obtain rfl : r_5 = (-1) := hw
  refine lv_aload_n hx hb dL_law_649 rfl (lv_at hl 1 rfl) ?_
  refine lv_aload_n hx hb dL_law_650 rfl (lv_at hl 3 rfl) ?_
  refine lv_iload_n hx hb dL_law_651 rfl (lv_at hl 0 rfl) ?_
  refine lv_iconst (v := 1) hx hb dL_law_652 (by decide) ?_
  refine lv_iadd hx hb dL_law_653 ?_
  refine lv_topi (fun v_6 ev_6 => ?_)
  obtain rfl : v_6 = 1 := ev_6.trans (by decide)
  refine va_sld hx hb hX hbl hbA hS (p1_in (i := 1) (n := 6) (by decide)) dL_law_654 ?_
  refine lv_aload_n hx hb dL_law_655 rfl (lv_at hl 3 rfl) ?_
  refine lv_iload_n hx hb dL_law_656 rfl (lv_at hl 0 rfl) ?_
  refine lv_iconst (v := 2) hx hb dL_law_657 (by decide) ?_
  refine lv_iadd hx hb dL_law_658 ?_
  refine lv_topi (fun v_7 ev_7 => ?_)
  obtain rfl : v_7 = 2 := ev_7.trans (by decide)
  refine va_sld hx hb hX hbl hbA hS (p1_in (i := 2) (n := 6) (by decide)) dL_law_659 ?_
  refine lv_aload_n hx hb dL_law_660 rfl (lv_at hl 3 rfl) ?_
  refine lv_iload_n hx hb dL_law_661 rfl (lv_at hl 0 rfl) ?_
  refine lv_iconst (v := 3) hx hb dL_law_662 (by decide) ?_
  refine lv_iadd hx hb dL_law_663 ?_
  refine lv_topi (fun v_8 ev_8 => ?_)
  obtain rfl : v_8 = 3 := ev_8.trans (by decide)
  refine va_sld hx hb hX hbl hbA hS (p1_in (i := 3) (n := 6) (by decide)) dL_law_664 ?_
  refine lv_aload_n hx hb dL_law_665 rfl (lv_at hl 3 rfl) ?_
  refine lv_iload_n hx hb dL_law_666 rfl (lv_at hl 0 rfl) ?_
  refine lv_iconst (v := 4) hx hb dL_law_667 (by decide) ?_
  refine lv_iadd hx hb dL_law_668 ?_
  refine lv_topi (fun v_9 ev_9 => ?_)
  obtain rfl : v_9 = 4 := ev_9.trans (by decide)
  refine va_sld hx hb hX hbl hbA hS (p1_in (i := 4) (n := 6) (by decide)) dL_law_669 ?_
  have hPc := hP.sub (ws' := [(rmo, .inr (8, rms)), (rwt, .inl (rcT, 2, .inl rtf))]) [0, 1] rfl
  have hDc := hD.sub (ws' := [(rmo, .inr (8, rms)), (rwt, .inl (rcT, 2, .inl rtf))]) [0, 1] (by decide) rfl
  have hKc := hK.sub (tys' := [(rcT, .int)]) [1] rfl
  have hFc := va_free (wc := [(rmo, .inr (8, rms)), (rwt, .inl (rcT, 2, .inl rtf))]) hD hS hA [0, 1] rfl
  refine va_calli (va_runV (As := [.int (xs (1 : Int32).toNatClampNeg), .int (xs (2 : Int32).toNatClampNeg), .int (xs (3 : Int32).toNatClampNeg), .int (xs (4 : Int32).toNatClampNeg)]) (rest := [.int (-1)]) ⟨hx, hb, hml, hown, hts⟩ (m_met l dC dI H.size rmo rms rwt rcT rtf ((xs (1 : Int32).toNatClampNeg)) ((xs (2 : Int32).toNatClampNeg)) ((xs (3 : Int32).toNatClampNeg)) ((xs (4 : Int32).toNatClampNeg)) f_rms_15 f_rms_43 h_rtf_0) (cwV 4 hts (p1_gV m_4 m_5 m_6 m_7 g_m_met gz_m_met) rfl rfl rfl (by decide +kernel) ⟨by decide, by decide⟩) ⟨fun a U g mk q => by obtain ⟨q0, q1, qP, qK, qD⟩ := q; exact ⟨q0, q1, qP, va_K.moved (u := U) (U := U.calling g mk a) (Vm.Alike.refl U.vm) qK, qD⟩, va_recv hKc hPc (ci := 8) (q0 := 0) rfl rfl, fun U hU hW => ⟨rfl, by rw [hU], by rw [hU]; exact hPc, va_K.moved hW.alike hKc, hDc.weaken (fun _ _ _ _ => trivial)⟩⟩ rfl rfl hl.1 rfl (lv_room (Nat.le_of_ble_eq_true rfl)) dL_law_670 ⟨by decide, by decide⟩) hS (fun q _ h => hFc q h) hFc (fun r_10 u t H1 locs ht hvm hw hB hz1 hk1 hS => ?_)
  obtain ⟨hP1, hK1, hD1⟩ := hB
  rw [ht] at hP1
  obtain ⟨hP, hD⟩ := va_join (wr := []) (w1 := []) hP hD [0, 1] [] rfl rfl (by decide) (by decide) hk1 hFc hP1 hD1
  generalize H1 = H at hP hS ⊢
  have hP : va_P (dC, dI) vwCl [] H := hP
  have hD : va_D A [] := hD
  try dsimp only at hw
  obtain rfl : r_10 = (-1) := hw
  refine lv_icmp_eq (tgt := 1382) hx hb dL_law_673 (by decide) (fun _ => ?_) (fun c9 => absurd c9 (by decide))
  refine lv_iinc (v := 6) (lv' := [(3, .int 6), (2, .ref rmo), (1, .ref xx), (0, .ref b)]) hx hb dL_law_1382 hl (k := 0) rfl (by decide) (by decide) rfl (fun ls hl => ?_)
  refine lv_goto (tgt := 18) hx hb dL_law_1385 (by decide) ?_
  refine lv_iload_n hx hb dL_law_18 rfl (lv_at hl 0 rfl) ?_
  refine lv_aload_n hx hb dL_law_19 rfl (lv_at hl 3 rfl) ?_
  refine va_slen hx hb hX hbl hbA hS dL_law_20 ?_
  refine lv_topi (fun v_12 ev_12 => ?_)
  obtain rfl : v_12 = 6 := ev_12.trans rfl
  refine lv_bipush (v := 6) hx hb dL_law_21 (by decide) ?_
  refine lv_isub hx hb dL_law_23 ?_
  refine lv_topi (fun v_13 ev_13 => ?_)
  obtain rfl : v_13 = 0 := ev_13.trans (by decide)
  refine lv_icmp_gt (tgt := 1388) hx hb dL_law_24 (by decide) (fun _ => ?_) (fun c9 => absurd c9 (by decide))
  refine lv_iconst (v := 1) hx hb dL_law_1388 (by decide) ?_
  refine va_forget (fun q hq => by have h9 := hS.2.2 q hq; rw [hAe] at h9; exact h9) ?_
  refine W.widen (k := 600000) (n := 7302249) (by decide) (by decide) ?_
  exact lw_ret hx hb hr hlocks dL_law_1389
set_option maxHeartbeats 4000000 in
set_option maxRecDepth 100000 in
theorem law_meets {p : Program} {e : Env} {s : State} {m : MethodId} {below : List Frame} {meth : Method} {c : Code} (l : Launch) {b : Nat} {xs : Nat → Int32} (C0 : lw_At p s m meth c b 6 xs) {A : Nat → Prop} (hAe : A = fun q : Nat => s.heap.size ≤ q) (hE : p1_ex A s s.heap) (dC : Nat → ClassId) (dI : Nat → Nat → Nat) (xx : Nat) (xxs : List Value) (xsh : Nat) (xss : List Value) (xsc : Nat) (xcS : ClassId) (rmo : Nat) (rms : List Value) (rwt : Nat) (rcT : ClassId) (rtf : Nat → Int32) (f_xxs_9 : xxs[9]? = some (.ref xsh)) (f_xss_0 : xss[0]? = some (.ref xsc)) (f_rms_15 : rms[15]? = some (.ref rwt)) (f_rms_43 : rms[43]? = some (.int 0)) (h_rtf_0 : rtf 0 = 0) (H : Heap) (locs : List Loc) (ls : Array Slot) (hK : va_K (dC, dI) vwCl [(xcS, .int), (rcT, .int)] s) (hP : va_P (dC, dI) vwCl [(xx, .inr (7, xxs)), (xsh, .inr (5, xss)), (xsc, .inl (xcS, 5, .inl (fun _ => 0))), (rmo, .inr (8, rms)), (rwt, .inl (rcT, 2, .inl rtf))] H) (hD : va_D A [(xx, .inr (7, xxs)), (xsh, .inr (5, xss)), (xsc, .inl (xcS, 5, .inl (fun _ => 0))), (rmo, .inr (8, rms)), (rwt, .inl (rcT, 2, .inl rtf))]) (hS : va_S A s.heap H locs) (hl : lv_has ls 4 [(3, .int 0), (2, .ref rmo), (1, .ref xx), (0, .ref b)]) : W p l e room_1 s m #[Value.ref b] below meth c H locs 152 11751 (lw_Z below #[Value.ref b] s) (F0 m 678 ls []) := by
  obtain ⟨hx, hb, hr, hml, hown, hts, hX, hbl, hlocks, hgv⟩ := id C0
  have hown : s.vm.findClass RL = some m.cls := hown
  have hA : ∀ q : Nat, s.heap.size ≤ q → A q := by rw [hAe]; exact fun _ h => h
  have hbA : ¬ A b := by rw [hAe]; exact Nat.not_le.mpr hbl
  have m_0 : (.methodLink RL 75 yX8_meets : Cond) ∈ lw_tbl := p1_w 887 (by decide +kernel)
  have k_0 := hts _ m_0
  have m_1 : (.instanceMethod yX8_meets : Cond) ∈ lw_tbl := p1_w 888 (by decide +kernel)
  have k_1 := hts _ m_1
  have m_2 : (.selects RX8 yX8_meets yX8_meets : Cond) ∈ lw_tbl := p1_w 889 (by decide +kernel)
  have k_2 := hts _ m_2
  have m_3 : (.initialized RX8 : Cond) ∈ lw_tbl := p1_w 104 (by decide +kernel)
  have k_3 := hts _ m_3
  have m_4 : (.methodLink RL 78 yX9_meets : Cond) ∈ lw_tbl := p1_w 1590 (by decide +kernel)
  have k_4 := hts _ m_4
  have m_5 : (.instanceMethod yX9_meets : Cond) ∈ lw_tbl := p1_w 1591 (by decide +kernel)
  have k_5 := hts _ m_5
  have m_6 : (.selects RX9 yX9_meets yX9_meets : Cond) ∈ lw_tbl := p1_w 1592 (by decide +kernel)
  have k_6 := hts _ m_6
  have m_7 : (.initialized RX9 : Cond) ∈ lw_tbl := p1_w 116 (by decide +kernel)
  have k_7 := hts _ m_7
  have g_x_meets := iz_x_meets
  have g_m_meets := iz_m_meets
  refine lv_aload_n hx hb dL_law_678 rfl (lv_at hl 2 rfl) ?_
  refine lv_aload_n hx hb dL_law_679 rfl (lv_at hl 3 rfl) ?_
  refine lv_iload_n hx hb dL_law_680 rfl (lv_at hl 0 rfl) ?_
  refine lv_iconst (v := 1) hx hb dL_law_681 (by decide) ?_
  refine lv_iadd hx hb dL_law_682 ?_
  refine lv_topi (fun v_1 ev_1 => ?_)
  obtain rfl : v_1 = 1 := ev_1.trans (by decide)
  refine va_sld hx hb hX hbl hbA hS (p1_in (i := 1) (n := 6) (by decide)) dL_law_683 ?_
  refine lv_aload_n hx hb dL_law_684 rfl (lv_at hl 3 rfl) ?_
  refine lv_iload_n hx hb dL_law_685 rfl (lv_at hl 0 rfl) ?_
  refine lv_iconst (v := 2) hx hb dL_law_686 (by decide) ?_
  refine lv_iadd hx hb dL_law_687 ?_
  refine lv_topi (fun v_2 ev_2 => ?_)
  obtain rfl : v_2 = 2 := ev_2.trans (by decide)
  refine va_sld hx hb hX hbl hbA hS (p1_in (i := 2) (n := 6) (by decide)) dL_law_688 ?_
  refine lv_aload_n hx hb dL_law_689 rfl (lv_at hl 3 rfl) ?_
  refine lv_iload_n hx hb dL_law_690 rfl (lv_at hl 0 rfl) ?_
  refine lv_iconst (v := 3) hx hb dL_law_691 (by decide) ?_
  refine lv_iadd hx hb dL_law_692 ?_
  refine lv_topi (fun v_3 ev_3 => ?_)
  obtain rfl : v_3 = 3 := ev_3.trans (by decide)
  refine va_sld hx hb hX hbl hbA hS (p1_in (i := 3) (n := 6) (by decide)) dL_law_693 ?_
  have hPc := hP.sub (ws' := [(xx, .inr (7, xxs)), (xsh, .inr (5, xss)), (xsc, .inl (xcS, 5, .inl (fun _ => 0)))]) [0, 1, 2] rfl
  have hDc := hD.sub (ws' := [(xx, .inr (7, xxs)), (xsh, .inr (5, xss)), (xsc, .inl (xcS, 5, .inl (fun _ => 0)))]) [0, 1, 2] (by decide) rfl
  have hKc := hK.sub (tys' := [(xcS, .int)]) [0] rfl
  have hFc := va_free (wc := [(xx, .inr (7, xxs)), (xsh, .inr (5, xss)), (xsc, .inl (xcS, 5, .inl (fun _ => 0)))]) hD hS hA [0, 1, 2] rfl
  refine va_calli (va_runV (As := [.int (xs (1 : Int32).toNatClampNeg), .int (xs (2 : Int32).toNatClampNeg), .int (xs (3 : Int32).toNatClampNeg)]) (rest := []) ⟨hx, hb, hml, hown, hts⟩ (x_meets l dC dI H.size xx xxs xsh xss xsc xcS ((xs (1 : Int32).toNatClampNeg)) ((xs (2 : Int32).toNatClampNeg)) ((xs (3 : Int32).toNatClampNeg)) f_xxs_9 f_xss_0) (cwV 3 hts (p1_gV m_0 m_1 m_2 m_3 g_x_meets gz_x_meets) rfl rfl rfl (by decide +kernel) ⟨by decide, by decide⟩) ⟨fun a U g mk q => by obtain ⟨q0, q1, qP, qK, qD⟩ := q; exact ⟨q0, q1, qP, va_K.moved (u := U) (U := U.calling g mk a) (Vm.Alike.refl U.vm) qK, qD⟩, va_recv hKc hPc (ci := 7) (q0 := 0) rfl rfl, fun U hU hW => ⟨rfl, by rw [hU], by rw [hU]; exact hPc, va_K.moved hW.alike hKc, hDc.weaken (fun _ _ _ _ => trivial)⟩⟩ rfl rfl hl.1 rfl (lv_room (Nat.le_of_ble_eq_true rfl)) dL_law_694 ⟨by decide, by decide⟩) hS (fun q _ h => hFc q h) hFc (fun r_4 u t H1 locs ht hvm hw hB hz1 hk1 hS => ?_)
  obtain ⟨hP1, hK1, hD1⟩ := hB
  rw [ht] at hP1
  obtain ⟨hP, hD⟩ := va_join (wr := [(rmo, .inr (8, rms)), (rwt, .inl (rcT, 2, .inl rtf))]) (w1 := []) hP hD [0, 1, 2] [3, 4] rfl rfl (by decide) (by decide) hk1 hFc hP1 hD1
  generalize H1 = H at hP hS ⊢
  have hP : va_P (dC, dI) vwCl [(rmo, .inr (8, rms)), (rwt, .inl (rcT, 2, .inl rtf))] H := hP
  have hD : va_D A [(rmo, .inr (8, rms)), (rwt, .inl (rcT, 2, .inl rtf))] := hD
  try dsimp only at hw
  obtain rfl : r_4 = (-1) := hw
  refine lv_aload_n hx hb dL_law_697 rfl (lv_at hl 1 rfl) ?_
  refine lv_aload_n hx hb dL_law_698 rfl (lv_at hl 3 rfl) ?_
  refine lv_iload_n hx hb dL_law_699 rfl (lv_at hl 0 rfl) ?_
  refine lv_iconst (v := 1) hx hb dL_law_700 (by decide) ?_
  refine lv_iadd hx hb dL_law_701 ?_
  refine lv_topi (fun v_5 ev_5 => ?_)
  obtain rfl : v_5 = 1 := ev_5.trans (by decide)
  refine va_sld hx hb hX hbl hbA hS (p1_in (i := 1) (n := 6) (by decide)) dL_law_702 ?_
  refine lv_aload_n hx hb dL_law_703 rfl (lv_at hl 3 rfl) ?_
  refine lv_iload_n hx hb dL_law_704 rfl (lv_at hl 0 rfl) ?_
  refine lv_iconst (v := 2) hx hb dL_law_705 (by decide) ?_
  refine lv_iadd hx hb dL_law_706 ?_
  refine lv_topi (fun v_6 ev_6 => ?_)
  obtain rfl : v_6 = 2 := ev_6.trans (by decide)
  refine va_sld hx hb hX hbl hbA hS (p1_in (i := 2) (n := 6) (by decide)) dL_law_707 ?_
  refine lv_aload_n hx hb dL_law_708 rfl (lv_at hl 3 rfl) ?_
  refine lv_iload_n hx hb dL_law_709 rfl (lv_at hl 0 rfl) ?_
  refine lv_iconst (v := 3) hx hb dL_law_710 (by decide) ?_
  refine lv_iadd hx hb dL_law_711 ?_
  refine lv_topi (fun v_7 ev_7 => ?_)
  obtain rfl : v_7 = 3 := ev_7.trans (by decide)
  refine va_sld hx hb hX hbl hbA hS (p1_in (i := 3) (n := 6) (by decide)) dL_law_712 ?_
  have hPc := hP.sub (ws' := [(rmo, .inr (8, rms)), (rwt, .inl (rcT, 2, .inl rtf))]) [0, 1] rfl
  have hDc := hD.sub (ws' := [(rmo, .inr (8, rms)), (rwt, .inl (rcT, 2, .inl rtf))]) [0, 1] (by decide) rfl
  have hKc := hK.sub (tys' := [(rcT, .int)]) [1] rfl
  have hFc := va_free (wc := [(rmo, .inr (8, rms)), (rwt, .inl (rcT, 2, .inl rtf))]) hD hS hA [0, 1] rfl
  refine va_calli (va_runV (As := [.int (xs (1 : Int32).toNatClampNeg), .int (xs (2 : Int32).toNatClampNeg), .int (xs (3 : Int32).toNatClampNeg)]) (rest := [.int (-1)]) ⟨hx, hb, hml, hown, hts⟩ (m_meets l dC dI H.size rmo rms rwt rcT rtf ((xs (1 : Int32).toNatClampNeg)) ((xs (2 : Int32).toNatClampNeg)) ((xs (3 : Int32).toNatClampNeg)) f_rms_15 f_rms_43 h_rtf_0) (cwV 3 hts (p1_gV m_4 m_5 m_6 m_7 g_m_meets gz_m_meets) rfl rfl rfl (by decide +kernel) ⟨by decide, by decide⟩) ⟨fun a U g mk q => by obtain ⟨q0, q1, qP, qK, qD⟩ := q; exact ⟨q0, q1, qP, va_K.moved (u := U) (U := U.calling g mk a) (Vm.Alike.refl U.vm) qK, qD⟩, va_recv hKc hPc (ci := 8) (q0 := 0) rfl rfl, fun U hU hW => ⟨rfl, by rw [hU], by rw [hU]; exact hPc, va_K.moved hW.alike hKc, hDc.weaken (fun _ _ _ _ => trivial)⟩⟩ rfl rfl hl.1 rfl (lv_room (Nat.le_of_ble_eq_true rfl)) dL_law_713 ⟨by decide, by decide⟩) hS (fun q _ h => hFc q h) hFc (fun r_8 u t H1 locs ht hvm hw hB hz1 hk1 hS => ?_)
  obtain ⟨hP1, hK1, hD1⟩ := hB
  rw [ht] at hP1
  obtain ⟨hP, hD⟩ := va_join (wr := []) (w1 := []) hP hD [0, 1] [] rfl rfl (by decide) (by decide) hk1 hFc hP1 hD1
  generalize H1 = H at hP hS ⊢
  have hP : va_P (dC, dI) vwCl [] H := hP
  have hD : va_D A [] := hD
  try dsimp only at hw
  obtain rfl : r_8 = (-1) := hw
  refine lv_icmp_eq (tgt := 1382) hx hb dL_law_716 (by decide) (fun _ => ?_) (fun c9 => absurd c9 (by decide))
  refine lv_iinc (v := 6) (lv' := [(3, .int 6), (2, .ref rmo), (1, .ref xx), (0, .ref b)]) hx hb dL_law_1382 hl (k := 0) rfl (by decide) (by decide) rfl (fun ls hl => ?_)
  refine lv_goto (tgt := 18) hx hb dL_law_1385 (by decide) ?_
  refine lv_iload_n hx hb dL_law_18 rfl (lv_at hl 0 rfl) ?_
  refine lv_aload_n hx hb dL_law_19 rfl (lv_at hl 3 rfl) ?_
  refine va_slen hx hb hX hbl hbA hS dL_law_20 ?_
  refine lv_topi (fun v_10 ev_10 => ?_)
  obtain rfl : v_10 = 6 := ev_10.trans rfl
  refine lv_bipush (v := 6) hx hb dL_law_21 (by decide) ?_
  refine lv_isub hx hb dL_law_23 ?_
  refine lv_topi (fun v_11 ev_11 => ?_)
  obtain rfl : v_11 = 0 := ev_11.trans (by decide)
  refine lv_icmp_gt (tgt := 1388) hx hb dL_law_24 (by decide) (fun _ => ?_) (fun c9 => absurd c9 (by decide))
  refine lv_iconst (v := 1) hx hb dL_law_1388 (by decide) ?_
  refine va_forget (fun q hq => by have h9 := hS.2.2 q hq; rw [hAe] at h9; exact h9) ?_
  refine W.widen (k := 600000) (n := 7302249) (by decide) (by decide) ?_
  exact lw_ret hx hb hr hlocks dL_law_1389
set_option maxHeartbeats 4000000 in
set_option maxRecDepth 100000 in
theorem law_odds {p : Program} {e : Env} {s : State} {m : MethodId} {below : List Frame} {meth : Method} {c : Code} (l : Launch) {b : Nat} {xs : Nat → Int32} (C0 : lw_At p s m meth c b 6 xs) {A : Nat → Prop} (hAe : A = fun q : Nat => s.heap.size ≤ q) (hE : p1_ex A s s.heap) (dC : Nat → ClassId) (dI : Nat → Nat → Nat) (xx : Nat) (xxs : List Value) (xsh : Nat) (xss : List Value) (xsc : Nat) (xcS : ClassId) (rmo : Nat) (rms : List Value) (rkn : Nat) (rcK : ClassId) (rkf : Nat → Int32) (f_xxs_9 : xxs[9]? = some (.ref xsh)) (f_xss_0 : xss[0]? = some (.ref xsc)) (f_rms_11 : rms[11]? = some (.ref rkn)) (f_rms_43 : rms[43]? = some (.int 0)) (h_rkf_0 : rkf 0 = 0) (H : Heap) (locs : List Loc) (ls : Array Slot) (hK : va_K (dC, dI) vwCl [(xcS, .int), (rcK, .int)] s) (hP : va_P (dC, dI) vwCl [(xx, .inr (7, xxs)), (xsh, .inr (5, xss)), (xsc, .inl (xcS, 5, .inl (fun _ => 0))), (rmo, .inr (8, rms)), (rkn, .inl (rcK, 2, .inl rkf))] H) (hD : va_D A [(xx, .inr (7, xxs)), (xsh, .inr (5, xss)), (xsc, .inl (xcS, 5, .inl (fun _ => 0))), (rmo, .inr (8, rms)), (rkn, .inl (rcK, 2, .inl rkf))]) (hS : va_S A s.heap H locs) (hl : lv_has ls 4 [(3, .int 0), (2, .ref rmo), (1, .ref xx), (0, .ref b)]) : W p l e room_1 s m #[Value.ref b] below meth c H locs 152 11751 (lw_Z below #[Value.ref b] s) (F0 m 721 ls []) := by
  obtain ⟨hx, hb, hr, hml, hown, hts, hX, hbl, hlocks, hgv⟩ := id C0
  have hown : s.vm.findClass RL = some m.cls := hown
  have hA : ∀ q : Nat, s.heap.size ≤ q → A q := by rw [hAe]; exact fun _ h => h
  have hbA : ¬ A b := by rw [hAe]; exact Nat.not_le.mpr hbl
  have m_0 : (.methodLink RL 79 yX8_odds : Cond) ∈ lw_tbl := p1_w 891 (by decide +kernel)
  have k_0 := hts _ m_0
  have m_1 : (.instanceMethod yX8_odds : Cond) ∈ lw_tbl := p1_w 892 (by decide +kernel)
  have k_1 := hts _ m_1
  have m_2 : (.selects RX8 yX8_odds yX8_odds : Cond) ∈ lw_tbl := p1_w 893 (by decide +kernel)
  have k_2 := hts _ m_2
  have m_3 : (.initialized RX8 : Cond) ∈ lw_tbl := p1_w 104 (by decide +kernel)
  have k_3 := hts _ m_3
  have m_4 : (.methodLink RL 82 yX9_odds : Cond) ∈ lw_tbl := p1_w 1594 (by decide +kernel)
  have k_4 := hts _ m_4
  have m_5 : (.instanceMethod yX9_odds : Cond) ∈ lw_tbl := p1_w 1595 (by decide +kernel)
  have k_5 := hts _ m_5
  have m_6 : (.selects RX9 yX9_odds yX9_odds : Cond) ∈ lw_tbl := p1_w 1596 (by decide +kernel)
  have k_6 := hts _ m_6
  have m_7 : (.initialized RX9 : Cond) ∈ lw_tbl := p1_w 116 (by decide +kernel)
  have k_7 := hts _ m_7
  have g_x_odds := iz_x_odds
  have g_m_odds := iz_m_odds
  refine lv_aload_n hx hb dL_law_721 rfl (lv_at hl 2 rfl) ?_
  refine lv_aload_n hx hb dL_law_722 rfl (lv_at hl 3 rfl) ?_
  refine lv_iload_n hx hb dL_law_723 rfl (lv_at hl 0 rfl) ?_
  refine lv_iconst (v := 1) hx hb dL_law_724 (by decide) ?_
  refine lv_iadd hx hb dL_law_725 ?_
  refine lv_topi (fun v_1 ev_1 => ?_)
  obtain rfl : v_1 = 1 := ev_1.trans (by decide)
  refine va_sld hx hb hX hbl hbA hS (p1_in (i := 1) (n := 6) (by decide)) dL_law_726 ?_
  refine lv_aload_n hx hb dL_law_727 rfl (lv_at hl 3 rfl) ?_
  refine lv_iload_n hx hb dL_law_728 rfl (lv_at hl 0 rfl) ?_
  refine lv_iconst (v := 2) hx hb dL_law_729 (by decide) ?_
  refine lv_iadd hx hb dL_law_730 ?_
  refine lv_topi (fun v_2 ev_2 => ?_)
  obtain rfl : v_2 = 2 := ev_2.trans (by decide)
  refine va_sld hx hb hX hbl hbA hS (p1_in (i := 2) (n := 6) (by decide)) dL_law_731 ?_
  refine lv_aload_n hx hb dL_law_732 rfl (lv_at hl 3 rfl) ?_
  refine lv_iload_n hx hb dL_law_733 rfl (lv_at hl 0 rfl) ?_
  refine lv_iconst (v := 3) hx hb dL_law_734 (by decide) ?_
  refine lv_iadd hx hb dL_law_735 ?_
  refine lv_topi (fun v_3 ev_3 => ?_)
  obtain rfl : v_3 = 3 := ev_3.trans (by decide)
  refine va_sld hx hb hX hbl hbA hS (p1_in (i := 3) (n := 6) (by decide)) dL_law_736 ?_
  have hPc := hP.sub (ws' := [(xx, .inr (7, xxs)), (xsh, .inr (5, xss)), (xsc, .inl (xcS, 5, .inl (fun _ => 0)))]) [0, 1, 2] rfl
  have hDc := hD.sub (ws' := [(xx, .inr (7, xxs)), (xsh, .inr (5, xss)), (xsc, .inl (xcS, 5, .inl (fun _ => 0)))]) [0, 1, 2] (by decide) rfl
  have hKc := hK.sub (tys' := [(xcS, .int)]) [0] rfl
  have hFc := va_free (wc := [(xx, .inr (7, xxs)), (xsh, .inr (5, xss)), (xsc, .inl (xcS, 5, .inl (fun _ => 0)))]) hD hS hA [0, 1, 2] rfl
  refine va_calli (va_runV (As := [.int (xs (1 : Int32).toNatClampNeg), .int (xs (2 : Int32).toNatClampNeg), .int (xs (3 : Int32).toNatClampNeg)]) (rest := []) ⟨hx, hb, hml, hown, hts⟩ (x_odds l dC dI H.size xx xxs xsh xss xsc xcS ((xs (1 : Int32).toNatClampNeg)) ((xs (2 : Int32).toNatClampNeg)) ((xs (3 : Int32).toNatClampNeg)) f_xxs_9 f_xss_0) (cwV 3 hts (p1_gV m_0 m_1 m_2 m_3 g_x_odds gz_x_odds) rfl rfl rfl (by decide +kernel) ⟨by decide, by decide⟩) ⟨fun a U g mk q => by obtain ⟨q0, q1, qP, qK, qD⟩ := q; exact ⟨q0, q1, qP, va_K.moved (u := U) (U := U.calling g mk a) (Vm.Alike.refl U.vm) qK, qD⟩, va_recv hKc hPc (ci := 7) (q0 := 0) rfl rfl, fun U hU hW => ⟨rfl, by rw [hU], by rw [hU]; exact hPc, va_K.moved hW.alike hKc, hDc.weaken (fun _ _ _ _ => trivial)⟩⟩ rfl rfl hl.1 rfl (lv_room (Nat.le_of_ble_eq_true rfl)) dL_law_737 ⟨by decide, by decide⟩) hS (fun q _ h => hFc q h) hFc (fun r_4 u t H1 locs ht hvm hw hB hz1 hk1 hS => ?_)
  obtain ⟨hP1, hK1, hD1⟩ := hB
  rw [ht] at hP1
  obtain ⟨hP, hD⟩ := va_join (wr := [(rmo, .inr (8, rms)), (rkn, .inl (rcK, 2, .inl rkf))]) (w1 := []) hP hD [0, 1, 2] [3, 4] rfl rfl (by decide) (by decide) hk1 hFc hP1 hD1
  generalize H1 = H at hP hS ⊢
  have hP : va_P (dC, dI) vwCl [(rmo, .inr (8, rms)), (rkn, .inl (rcK, 2, .inl rkf))] H := hP
  have hD : va_D A [(rmo, .inr (8, rms)), (rkn, .inl (rcK, 2, .inl rkf))] := hD
  try dsimp only at hw
  obtain rfl : r_4 = (-1) := hw
  refine lv_aload_n hx hb dL_law_740 rfl (lv_at hl 1 rfl) ?_
  refine lv_aload_n hx hb dL_law_741 rfl (lv_at hl 3 rfl) ?_
  refine lv_iload_n hx hb dL_law_742 rfl (lv_at hl 0 rfl) ?_
  refine lv_iconst (v := 1) hx hb dL_law_743 (by decide) ?_
  refine lv_iadd hx hb dL_law_744 ?_
  refine lv_topi (fun v_5 ev_5 => ?_)
  obtain rfl : v_5 = 1 := ev_5.trans (by decide)
  refine va_sld hx hb hX hbl hbA hS (p1_in (i := 1) (n := 6) (by decide)) dL_law_745 ?_
  refine lv_aload_n hx hb dL_law_746 rfl (lv_at hl 3 rfl) ?_
  refine lv_iload_n hx hb dL_law_747 rfl (lv_at hl 0 rfl) ?_
  refine lv_iconst (v := 2) hx hb dL_law_748 (by decide) ?_
  refine lv_iadd hx hb dL_law_749 ?_
  refine lv_topi (fun v_6 ev_6 => ?_)
  obtain rfl : v_6 = 2 := ev_6.trans (by decide)
  refine va_sld hx hb hX hbl hbA hS (p1_in (i := 2) (n := 6) (by decide)) dL_law_750 ?_
  refine lv_aload_n hx hb dL_law_751 rfl (lv_at hl 3 rfl) ?_
  refine lv_iload_n hx hb dL_law_752 rfl (lv_at hl 0 rfl) ?_
  refine lv_iconst (v := 3) hx hb dL_law_753 (by decide) ?_
  refine lv_iadd hx hb dL_law_754 ?_
  refine lv_topi (fun v_7 ev_7 => ?_)
  obtain rfl : v_7 = 3 := ev_7.trans (by decide)
  refine va_sld hx hb hX hbl hbA hS (p1_in (i := 3) (n := 6) (by decide)) dL_law_755 ?_
  have hPc := hP.sub (ws' := [(rmo, .inr (8, rms)), (rkn, .inl (rcK, 2, .inl rkf))]) [0, 1] rfl
  have hDc := hD.sub (ws' := [(rmo, .inr (8, rms)), (rkn, .inl (rcK, 2, .inl rkf))]) [0, 1] (by decide) rfl
  have hKc := hK.sub (tys' := [(rcK, .int)]) [1] rfl
  have hFc := va_free (wc := [(rmo, .inr (8, rms)), (rkn, .inl (rcK, 2, .inl rkf))]) hD hS hA [0, 1] rfl
  refine va_calli (va_runV (As := [.int (xs (1 : Int32).toNatClampNeg), .int (xs (2 : Int32).toNatClampNeg), .int (xs (3 : Int32).toNatClampNeg)]) (rest := [.int (-1)]) ⟨hx, hb, hml, hown, hts⟩ (m_odds l dC dI H.size rmo rms rkn rcK rkf ((xs (1 : Int32).toNatClampNeg)) ((xs (2 : Int32).toNatClampNeg)) ((xs (3 : Int32).toNatClampNeg)) f_rms_11 f_rms_43 h_rkf_0) (cwV 3 hts (p1_gV m_4 m_5 m_6 m_7 g_m_odds gz_m_odds) rfl rfl rfl (by decide +kernel) ⟨by decide, by decide⟩) ⟨fun a U g mk q => by obtain ⟨q0, q1, qP, qK, qD⟩ := q; exact ⟨q0, q1, qP, va_K.moved (u := U) (U := U.calling g mk a) (Vm.Alike.refl U.vm) qK, qD⟩, va_recv hKc hPc (ci := 8) (q0 := 0) rfl rfl, fun U hU hW => ⟨rfl, by rw [hU], by rw [hU]; exact hPc, va_K.moved hW.alike hKc, hDc.weaken (fun _ _ _ _ => trivial)⟩⟩ rfl rfl hl.1 rfl (lv_room (Nat.le_of_ble_eq_true rfl)) dL_law_756 ⟨by decide, by decide⟩) hS (fun q _ h => hFc q h) hFc (fun r_8 u t H1 locs ht hvm hw hB hz1 hk1 hS => ?_)
  obtain ⟨hP1, hK1, hD1⟩ := hB
  rw [ht] at hP1
  obtain ⟨hP, hD⟩ := va_join (wr := []) (w1 := []) hP hD [0, 1] [] rfl rfl (by decide) (by decide) hk1 hFc hP1 hD1
  generalize H1 = H at hP hS ⊢
  have hP : va_P (dC, dI) vwCl [] H := hP
  have hD : va_D A [] := hD
  try dsimp only at hw
  obtain rfl : r_8 = (-1) := hw
  refine lv_icmp_eq (tgt := 1382) hx hb dL_law_759 (by decide) (fun _ => ?_) (fun c9 => absurd c9 (by decide))
  refine lv_iinc (v := 6) (lv' := [(3, .int 6), (2, .ref rmo), (1, .ref xx), (0, .ref b)]) hx hb dL_law_1382 hl (k := 0) rfl (by decide) (by decide) rfl (fun ls hl => ?_)
  refine lv_goto (tgt := 18) hx hb dL_law_1385 (by decide) ?_
  refine lv_iload_n hx hb dL_law_18 rfl (lv_at hl 0 rfl) ?_
  refine lv_aload_n hx hb dL_law_19 rfl (lv_at hl 3 rfl) ?_
  refine va_slen hx hb hX hbl hbA hS dL_law_20 ?_
  refine lv_topi (fun v_10 ev_10 => ?_)
  obtain rfl : v_10 = 6 := ev_10.trans rfl
  refine lv_bipush (v := 6) hx hb dL_law_21 (by decide) ?_
  refine lv_isub hx hb dL_law_23 ?_
  refine lv_topi (fun v_11 ev_11 => ?_)
  obtain rfl : v_11 = 0 := ev_11.trans (by decide)
  refine lv_icmp_gt (tgt := 1388) hx hb dL_law_24 (by decide) (fun _ => ?_) (fun c9 => absurd c9 (by decide))
  refine lv_iconst (v := 1) hx hb dL_law_1388 (by decide) ?_
  refine va_forget (fun q hq => by have h9 := hS.2.2 q hq; rw [hAe] at h9; exact h9) ?_
  refine W.widen (k := 600000) (n := 7302249) (by decide) (by decide) ?_
  exact lw_ret hx hb hr hlocks dL_law_1389
set_option maxHeartbeats 4000000 in
set_option maxRecDepth 100000 in
theorem law_worse {p : Program} {e : Env} {s : State} {m : MethodId} {below : List Frame} {meth : Method} {c : Code} (l : Launch) {b : Nat} {xs : Nat → Int32} (C0 : lw_At p s m meth c b 6 xs) {A : Nat → Prop} (hAe : A = fun q : Nat => s.heap.size ≤ q) (hE : p1_ex A s s.heap) (dC : Nat → ClassId) (dI : Nat → Nat → Nat) (xx : Nat) (xxs : List Value) (xsh : Nat) (xss : List Value) (xsc : Nat) (xcS : ClassId) (rmo : Nat) (rms : List Value) (rkn : Nat) (rcK : ClassId) (rkf : Nat → Int32) (f_xxs_9 : xxs[9]? = some (.ref xsh)) (f_xss_0 : xss[0]? = some (.ref xsc)) (f_rms_11 : rms[11]? = some (.ref rkn)) (f_rms_43 : rms[43]? = some (.int 0)) (h_rkf_0 : rkf 0 = 0) (H : Heap) (locs : List Loc) (ls : Array Slot) (hK : va_K (dC, dI) vwCl [(xcS, .int), (rcK, .int)] s) (hP : va_P (dC, dI) vwCl [(xx, .inr (7, xxs)), (xsh, .inr (5, xss)), (xsc, .inl (xcS, 5, .inl (fun _ => 0))), (rmo, .inr (8, rms)), (rkn, .inl (rcK, 2, .inl rkf))] H) (hD : va_D A [(xx, .inr (7, xxs)), (xsh, .inr (5, xss)), (xsc, .inl (xcS, 5, .inl (fun _ => 0))), (rmo, .inr (8, rms)), (rkn, .inl (rcK, 2, .inl rkf))]) (hS : va_S A s.heap H locs) (hl : lv_has ls 4 [(3, .int 0), (2, .ref rmo), (1, .ref xx), (0, .ref b)]) : W p l e room_1 s m #[Value.ref b] below meth c H locs 152 11751 (lw_Z below #[Value.ref b] s) (F0 m 764 ls []) := by
  obtain ⟨hx, hb, hr, hml, hown, hts, hX, hbl, hlocks, hgv⟩ := id C0
  have hown : s.vm.findClass RL = some m.cls := hown
  have hA : ∀ q : Nat, s.heap.size ≤ q → A q := by rw [hAe]; exact fun _ h => h
  have hbA : ¬ A b := by rw [hAe]; exact Nat.not_le.mpr hbl
  have m_0 : (.methodLink RL 83 yX8_worse : Cond) ∈ lw_tbl := p1_w 898 (by decide +kernel)
  have k_0 := hts _ m_0
  have m_1 : (.instanceMethod yX8_worse : Cond) ∈ lw_tbl := p1_w 899 (by decide +kernel)
  have k_1 := hts _ m_1
  have m_2 : (.selects RX8 yX8_worse yX8_worse : Cond) ∈ lw_tbl := p1_w 900 (by decide +kernel)
  have k_2 := hts _ m_2
  have m_3 : (.initialized RX8 : Cond) ∈ lw_tbl := p1_w 104 (by decide +kernel)
  have k_3 := hts _ m_3
  have m_4 : (.methodLink RL 86 yX9_worse : Cond) ∈ lw_tbl := p1_w 1604 (by decide +kernel)
  have k_4 := hts _ m_4
  have m_5 : (.instanceMethod yX9_worse : Cond) ∈ lw_tbl := p1_w 1605 (by decide +kernel)
  have k_5 := hts _ m_5
  have m_6 : (.selects RX9 yX9_worse yX9_worse : Cond) ∈ lw_tbl := p1_w 1606 (by decide +kernel)
  have k_6 := hts _ m_6
  have m_7 : (.initialized RX9 : Cond) ∈ lw_tbl := p1_w 116 (by decide +kernel)
  have k_7 := hts _ m_7
  have g_x_worse := iz_x_worse
  have g_m_worse := iz_m_worse
  refine lv_aload_n hx hb dL_law_764 rfl (lv_at hl 2 rfl) ?_
  refine lv_aload_n hx hb dL_law_765 rfl (lv_at hl 3 rfl) ?_
  refine lv_iload_n hx hb dL_law_766 rfl (lv_at hl 0 rfl) ?_
  refine lv_iconst (v := 1) hx hb dL_law_767 (by decide) ?_
  refine lv_iadd hx hb dL_law_768 ?_
  refine lv_topi (fun v_1 ev_1 => ?_)
  obtain rfl : v_1 = 1 := ev_1.trans (by decide)
  refine va_sld hx hb hX hbl hbA hS (p1_in (i := 1) (n := 6) (by decide)) dL_law_769 ?_
  refine lv_aload_n hx hb dL_law_770 rfl (lv_at hl 3 rfl) ?_
  refine lv_iload_n hx hb dL_law_771 rfl (lv_at hl 0 rfl) ?_
  refine lv_iconst (v := 2) hx hb dL_law_772 (by decide) ?_
  refine lv_iadd hx hb dL_law_773 ?_
  refine lv_topi (fun v_2 ev_2 => ?_)
  obtain rfl : v_2 = 2 := ev_2.trans (by decide)
  refine va_sld hx hb hX hbl hbA hS (p1_in (i := 2) (n := 6) (by decide)) dL_law_774 ?_
  refine lv_aload_n hx hb dL_law_775 rfl (lv_at hl 3 rfl) ?_
  refine lv_iload_n hx hb dL_law_776 rfl (lv_at hl 0 rfl) ?_
  refine lv_iconst (v := 3) hx hb dL_law_777 (by decide) ?_
  refine lv_iadd hx hb dL_law_778 ?_
  refine lv_topi (fun v_3 ev_3 => ?_)
  obtain rfl : v_3 = 3 := ev_3.trans (by decide)
  refine va_sld hx hb hX hbl hbA hS (p1_in (i := 3) (n := 6) (by decide)) dL_law_779 ?_
  refine lv_aload_n hx hb dL_law_780 rfl (lv_at hl 3 rfl) ?_
  refine lv_iload_n hx hb dL_law_781 rfl (lv_at hl 0 rfl) ?_
  refine lv_iconst (v := 4) hx hb dL_law_782 (by decide) ?_
  refine lv_iadd hx hb dL_law_783 ?_
  refine lv_topi (fun v_4 ev_4 => ?_)
  obtain rfl : v_4 = 4 := ev_4.trans (by decide)
  refine va_sld hx hb hX hbl hbA hS (p1_in (i := 4) (n := 6) (by decide)) dL_law_784 ?_
  have hPc := hP.sub (ws' := [(xx, .inr (7, xxs)), (xsh, .inr (5, xss)), (xsc, .inl (xcS, 5, .inl (fun _ => 0)))]) [0, 1, 2] rfl
  have hDc := hD.sub (ws' := [(xx, .inr (7, xxs)), (xsh, .inr (5, xss)), (xsc, .inl (xcS, 5, .inl (fun _ => 0)))]) [0, 1, 2] (by decide) rfl
  have hKc := hK.sub (tys' := [(xcS, .int)]) [0] rfl
  have hFc := va_free (wc := [(xx, .inr (7, xxs)), (xsh, .inr (5, xss)), (xsc, .inl (xcS, 5, .inl (fun _ => 0)))]) hD hS hA [0, 1, 2] rfl
  refine va_calli (va_runV (As := [.int (xs (1 : Int32).toNatClampNeg), .int (xs (2 : Int32).toNatClampNeg), .int (xs (3 : Int32).toNatClampNeg), .int (xs (4 : Int32).toNatClampNeg)]) (rest := []) ⟨hx, hb, hml, hown, hts⟩ (x_worse l dC dI H.size xx xxs xsh xss xsc xcS ((xs (1 : Int32).toNatClampNeg)) ((xs (2 : Int32).toNatClampNeg)) ((xs (3 : Int32).toNatClampNeg)) ((xs (4 : Int32).toNatClampNeg)) f_xxs_9 f_xss_0) (cwV 4 hts (p1_gV m_0 m_1 m_2 m_3 g_x_worse gz_x_worse) rfl rfl rfl (by decide +kernel) ⟨by decide, by decide⟩) ⟨fun a U g mk q => by obtain ⟨q0, q1, qP, qK, qD⟩ := q; exact ⟨q0, q1, qP, va_K.moved (u := U) (U := U.calling g mk a) (Vm.Alike.refl U.vm) qK, qD⟩, va_recv hKc hPc (ci := 7) (q0 := 0) rfl rfl, fun U hU hW => ⟨rfl, by rw [hU], by rw [hU]; exact hPc, va_K.moved hW.alike hKc, hDc.weaken (fun _ _ _ _ => trivial)⟩⟩ rfl rfl hl.1 rfl (lv_room (Nat.le_of_ble_eq_true rfl)) dL_law_785 ⟨by decide, by decide⟩) hS (fun q _ h => hFc q h) hFc (fun r_5 u t H1 locs ht hvm hw hB hz1 hk1 hS => ?_)
  obtain ⟨hP1, hK1, hD1⟩ := hB
  rw [ht] at hP1
  obtain ⟨hP, hD⟩ := va_join (wr := [(rmo, .inr (8, rms)), (rkn, .inl (rcK, 2, .inl rkf))]) (w1 := []) hP hD [0, 1, 2] [3, 4] rfl rfl (by decide) (by decide) hk1 hFc hP1 hD1
  generalize H1 = H at hP hS ⊢
  have hP : va_P (dC, dI) vwCl [(rmo, .inr (8, rms)), (rkn, .inl (rcK, 2, .inl rkf))] H := hP
  have hD : va_D A [(rmo, .inr (8, rms)), (rkn, .inl (rcK, 2, .inl rkf))] := hD
  try dsimp only at hw
  obtain rfl : r_5 = (-10000) := hw
  refine lv_aload_n hx hb dL_law_788 rfl (lv_at hl 1 rfl) ?_
  refine lv_aload_n hx hb dL_law_789 rfl (lv_at hl 3 rfl) ?_
  refine lv_iload_n hx hb dL_law_790 rfl (lv_at hl 0 rfl) ?_
  refine lv_iconst (v := 1) hx hb dL_law_791 (by decide) ?_
  refine lv_iadd hx hb dL_law_792 ?_
  refine lv_topi (fun v_6 ev_6 => ?_)
  obtain rfl : v_6 = 1 := ev_6.trans (by decide)
  refine va_sld hx hb hX hbl hbA hS (p1_in (i := 1) (n := 6) (by decide)) dL_law_793 ?_
  refine lv_aload_n hx hb dL_law_794 rfl (lv_at hl 3 rfl) ?_
  refine lv_iload_n hx hb dL_law_795 rfl (lv_at hl 0 rfl) ?_
  refine lv_iconst (v := 2) hx hb dL_law_796 (by decide) ?_
  refine lv_iadd hx hb dL_law_797 ?_
  refine lv_topi (fun v_7 ev_7 => ?_)
  obtain rfl : v_7 = 2 := ev_7.trans (by decide)
  refine va_sld hx hb hX hbl hbA hS (p1_in (i := 2) (n := 6) (by decide)) dL_law_798 ?_
  refine lv_aload_n hx hb dL_law_799 rfl (lv_at hl 3 rfl) ?_
  refine lv_iload_n hx hb dL_law_800 rfl (lv_at hl 0 rfl) ?_
  refine lv_iconst (v := 3) hx hb dL_law_801 (by decide) ?_
  refine lv_iadd hx hb dL_law_802 ?_
  refine lv_topi (fun v_8 ev_8 => ?_)
  obtain rfl : v_8 = 3 := ev_8.trans (by decide)
  refine va_sld hx hb hX hbl hbA hS (p1_in (i := 3) (n := 6) (by decide)) dL_law_803 ?_
  refine lv_aload_n hx hb dL_law_804 rfl (lv_at hl 3 rfl) ?_
  refine lv_iload_n hx hb dL_law_805 rfl (lv_at hl 0 rfl) ?_
  refine lv_iconst (v := 4) hx hb dL_law_806 (by decide) ?_
  refine lv_iadd hx hb dL_law_807 ?_
  refine lv_topi (fun v_9 ev_9 => ?_)
  obtain rfl : v_9 = 4 := ev_9.trans (by decide)
  refine va_sld hx hb hX hbl hbA hS (p1_in (i := 4) (n := 6) (by decide)) dL_law_808 ?_
  have hPc := hP.sub (ws' := [(rmo, .inr (8, rms)), (rkn, .inl (rcK, 2, .inl rkf))]) [0, 1] rfl
  have hDc := hD.sub (ws' := [(rmo, .inr (8, rms)), (rkn, .inl (rcK, 2, .inl rkf))]) [0, 1] (by decide) rfl
  have hKc := hK.sub (tys' := [(rcK, .int)]) [1] rfl
  have hFc := va_free (wc := [(rmo, .inr (8, rms)), (rkn, .inl (rcK, 2, .inl rkf))]) hD hS hA [0, 1] rfl
  refine va_calli (va_runV (As := [.int (xs (1 : Int32).toNatClampNeg), .int (xs (2 : Int32).toNatClampNeg), .int (xs (3 : Int32).toNatClampNeg), .int (xs (4 : Int32).toNatClampNeg)]) (rest := [.int (-10000)]) ⟨hx, hb, hml, hown, hts⟩ (m_worse l dC dI H.size rmo rms rkn rcK rkf ((xs (1 : Int32).toNatClampNeg)) ((xs (2 : Int32).toNatClampNeg)) ((xs (3 : Int32).toNatClampNeg)) ((xs (4 : Int32).toNatClampNeg)) f_rms_11 f_rms_43 h_rkf_0) (cwV 4 hts (p1_gV m_4 m_5 m_6 m_7 g_m_worse gz_m_worse) rfl rfl rfl (by decide +kernel) ⟨by decide, by decide⟩) ⟨fun a U g mk q => by obtain ⟨q0, q1, qP, qK, qD⟩ := q; exact ⟨q0, q1, qP, va_K.moved (u := U) (U := U.calling g mk a) (Vm.Alike.refl U.vm) qK, qD⟩, va_recv hKc hPc (ci := 8) (q0 := 0) rfl rfl, fun U hU hW => ⟨rfl, by rw [hU], by rw [hU]; exact hPc, va_K.moved hW.alike hKc, hDc.weaken (fun _ _ _ _ => trivial)⟩⟩ rfl rfl hl.1 rfl (lv_room (Nat.le_of_ble_eq_true rfl)) dL_law_809 ⟨by decide, by decide⟩) hS (fun q _ h => hFc q h) hFc (fun r_10 u t H1 locs ht hvm hw hB hz1 hk1 hS => ?_)
  obtain ⟨hP1, hK1, hD1⟩ := hB
  rw [ht] at hP1
  obtain ⟨hP, hD⟩ := va_join (wr := []) (w1 := []) hP hD [0, 1] [] rfl rfl (by decide) (by decide) hk1 hFc hP1 hD1
  generalize H1 = H at hP hS ⊢
  have hP : va_P (dC, dI) vwCl [] H := hP
  have hD : va_D A [] := hD
  try dsimp only at hw
  obtain rfl : r_10 = (-10000) := hw
  refine lv_icmp_eq (tgt := 1382) hx hb dL_law_812 (by decide) (fun _ => ?_) (fun c9 => absurd c9 (by decide))
  refine lv_iinc (v := 6) (lv' := [(3, .int 6), (2, .ref rmo), (1, .ref xx), (0, .ref b)]) hx hb dL_law_1382 hl (k := 0) rfl (by decide) (by decide) rfl (fun ls hl => ?_)
  refine lv_goto (tgt := 18) hx hb dL_law_1385 (by decide) ?_
  refine lv_iload_n hx hb dL_law_18 rfl (lv_at hl 0 rfl) ?_
  refine lv_aload_n hx hb dL_law_19 rfl (lv_at hl 3 rfl) ?_
  refine va_slen hx hb hX hbl hbA hS dL_law_20 ?_
  refine lv_topi (fun v_12 ev_12 => ?_)
  obtain rfl : v_12 = 6 := ev_12.trans rfl
  refine lv_bipush (v := 6) hx hb dL_law_21 (by decide) ?_
  refine lv_isub hx hb dL_law_23 ?_
  refine lv_topi (fun v_13 ev_13 => ?_)
  obtain rfl : v_13 = 0 := ev_13.trans (by decide)
  refine lv_icmp_gt (tgt := 1388) hx hb dL_law_24 (by decide) (fun _ => ?_) (fun c9 => absurd c9 (by decide))
  refine lv_iconst (v := 1) hx hb dL_law_1388 (by decide) ?_
  refine va_forget (fun q hq => by have h9 := hS.2.2 q hq; rw [hAe] at h9; exact h9) ?_
  refine W.widen (k := 600000) (n := 7302249) (by decide) (by decide) ?_
  exact lw_ret hx hb hr hlocks dL_law_1389
set_option maxHeartbeats 4000000 in
set_option maxRecDepth 100000 in
theorem law_which {p : Program} {e : Env} {s : State} {m : MethodId} {below : List Frame} {meth : Method} {c : Code} (l : Launch) {b : Nat} {xs : Nat → Int32} (C0 : lw_At p s m meth c b 6 xs) {A : Nat → Prop} (hAe : A = fun q : Nat => s.heap.size ≤ q) (hE : p1_ex A s s.heap) (dC : Nat → ClassId) (dI : Nat → Nat → Nat) (xx : Nat) (xxs : List Value) (xsh : Nat) (xss : List Value) (xsc : Nat) (xcS : ClassId) (rmo : Nat) (rms : List Value) (rkn : Nat) (rcK : ClassId) (rkf : Nat → Int32) (f_xxs_9 : xxs[9]? = some (.ref xsh)) (f_xss_0 : xss[0]? = some (.ref xsc)) (f_rms_11 : rms[11]? = some (.ref rkn)) (f_rms_43 : rms[43]? = some (.int 0)) (h_rkf_0 : rkf 0 = 0) (H : Heap) (locs : List Loc) (ls : Array Slot) (hK : va_K (dC, dI) vwCl [(xcS, .int), (rcK, .int)] s) (hP : va_P (dC, dI) vwCl [(xx, .inr (7, xxs)), (xsh, .inr (5, xss)), (xsc, .inl (xcS, 5, .inl (fun _ => 0))), (rmo, .inr (8, rms)), (rkn, .inl (rcK, 2, .inl rkf))] H) (hD : va_D A [(xx, .inr (7, xxs)), (xsh, .inr (5, xss)), (xsc, .inl (xcS, 5, .inl (fun _ => 0))), (rmo, .inr (8, rms)), (rkn, .inl (rcK, 2, .inl rkf))]) (hS : va_S A s.heap H locs) (hl : lv_has ls 4 [(3, .int 0), (2, .ref rmo), (1, .ref xx), (0, .ref b)]) : W p l e room_1 s m #[Value.ref b] below meth c H locs 152 11751 (lw_Z below #[Value.ref b] s) (F0 m 817 ls []) := by
  obtain ⟨hx, hb, hr, hml, hown, hts, hX, hbl, hlocks, hgv⟩ := id C0
  have hown : s.vm.findClass RL = some m.cls := hown
  have hA : ∀ q : Nat, s.heap.size ≤ q → A q := by rw [hAe]; exact fun _ h => h
  have hbA : ¬ A b := by rw [hAe]; exact Nat.not_le.mpr hbl
  have m_0 : (.methodLink RL 87 yX8_which : Cond) ∈ lw_tbl := p1_w 906 (by decide +kernel)
  have k_0 := hts _ m_0
  have m_1 : (.instanceMethod yX8_which : Cond) ∈ lw_tbl := p1_w 907 (by decide +kernel)
  have k_1 := hts _ m_1
  have m_2 : (.selects RX8 yX8_which yX8_which : Cond) ∈ lw_tbl := p1_w 908 (by decide +kernel)
  have k_2 := hts _ m_2
  have m_3 : (.initialized RX8 : Cond) ∈ lw_tbl := p1_w 104 (by decide +kernel)
  have k_3 := hts _ m_3
  have m_4 : (.methodLink RL 90 yX9_which : Cond) ∈ lw_tbl := p1_w 1612 (by decide +kernel)
  have k_4 := hts _ m_4
  have m_5 : (.instanceMethod yX9_which : Cond) ∈ lw_tbl := p1_w 1613 (by decide +kernel)
  have k_5 := hts _ m_5
  have m_6 : (.selects RX9 yX9_which yX9_which : Cond) ∈ lw_tbl := p1_w 1614 (by decide +kernel)
  have k_6 := hts _ m_6
  have m_7 : (.initialized RX9 : Cond) ∈ lw_tbl := p1_w 116 (by decide +kernel)
  have k_7 := hts _ m_7
  have g_x_which := iz_x_which
  have g_m_which := iz_m_which
  refine lv_aload_n hx hb dL_law_817 rfl (lv_at hl 2 rfl) ?_
  refine lv_aload_n hx hb dL_law_818 rfl (lv_at hl 3 rfl) ?_
  refine lv_iload_n hx hb dL_law_819 rfl (lv_at hl 0 rfl) ?_
  refine lv_iconst (v := 1) hx hb dL_law_820 (by decide) ?_
  refine lv_iadd hx hb dL_law_821 ?_
  refine lv_topi (fun v_1 ev_1 => ?_)
  obtain rfl : v_1 = 1 := ev_1.trans (by decide)
  refine va_sld hx hb hX hbl hbA hS (p1_in (i := 1) (n := 6) (by decide)) dL_law_822 ?_
  refine lv_aload_n hx hb dL_law_823 rfl (lv_at hl 3 rfl) ?_
  refine lv_iload_n hx hb dL_law_824 rfl (lv_at hl 0 rfl) ?_
  refine lv_iconst (v := 2) hx hb dL_law_825 (by decide) ?_
  refine lv_iadd hx hb dL_law_826 ?_
  refine lv_topi (fun v_2 ev_2 => ?_)
  obtain rfl : v_2 = 2 := ev_2.trans (by decide)
  refine va_sld hx hb hX hbl hbA hS (p1_in (i := 2) (n := 6) (by decide)) dL_law_827 ?_
  refine lv_aload_n hx hb dL_law_828 rfl (lv_at hl 3 rfl) ?_
  refine lv_iload_n hx hb dL_law_829 rfl (lv_at hl 0 rfl) ?_
  refine lv_iconst (v := 3) hx hb dL_law_830 (by decide) ?_
  refine lv_iadd hx hb dL_law_831 ?_
  refine lv_topi (fun v_3 ev_3 => ?_)
  obtain rfl : v_3 = 3 := ev_3.trans (by decide)
  refine va_sld hx hb hX hbl hbA hS (p1_in (i := 3) (n := 6) (by decide)) dL_law_832 ?_
  have hPc := hP.sub (ws' := [(xx, .inr (7, xxs)), (xsh, .inr (5, xss)), (xsc, .inl (xcS, 5, .inl (fun _ => 0)))]) [0, 1, 2] rfl
  have hDc := hD.sub (ws' := [(xx, .inr (7, xxs)), (xsh, .inr (5, xss)), (xsc, .inl (xcS, 5, .inl (fun _ => 0)))]) [0, 1, 2] (by decide) rfl
  have hKc := hK.sub (tys' := [(xcS, .int)]) [0] rfl
  have hFc := va_free (wc := [(xx, .inr (7, xxs)), (xsh, .inr (5, xss)), (xsc, .inl (xcS, 5, .inl (fun _ => 0)))]) hD hS hA [0, 1, 2] rfl
  refine va_calli (va_runV (As := [.int (xs (1 : Int32).toNatClampNeg), .int (xs (2 : Int32).toNatClampNeg), .int (xs (3 : Int32).toNatClampNeg)]) (rest := []) ⟨hx, hb, hml, hown, hts⟩ (x_which l dC dI H.size xx xxs xsh xss xsc xcS ((xs (1 : Int32).toNatClampNeg)) ((xs (2 : Int32).toNatClampNeg)) ((xs (3 : Int32).toNatClampNeg)) f_xxs_9 f_xss_0) (cwV 3 hts (p1_gV m_0 m_1 m_2 m_3 g_x_which gz_x_which) rfl rfl rfl (by decide +kernel) ⟨by decide, by decide⟩) ⟨fun a U g mk q => by obtain ⟨q0, q1, qP, qK, qD⟩ := q; exact ⟨q0, q1, qP, va_K.moved (u := U) (U := U.calling g mk a) (Vm.Alike.refl U.vm) qK, qD⟩, va_recv hKc hPc (ci := 7) (q0 := 0) rfl rfl, fun U hU hW => ⟨rfl, by rw [hU], by rw [hU]; exact hPc, va_K.moved hW.alike hKc, hDc.weaken (fun _ _ _ _ => trivial)⟩⟩ rfl rfl hl.1 rfl (lv_room (Nat.le_of_ble_eq_true rfl)) dL_law_833 ⟨by decide, by decide⟩) hS (fun q _ h => hFc q h) hFc (fun r_4 u t H1 locs ht hvm hw hB hz1 hk1 hS => ?_)
  obtain ⟨hP1, hK1, hD1⟩ := hB
  rw [ht] at hP1
  obtain ⟨hP, hD⟩ := va_join (wr := [(rmo, .inr (8, rms)), (rkn, .inl (rcK, 2, .inl rkf))]) (w1 := []) hP hD [0, 1, 2] [3, 4] rfl rfl (by decide) (by decide) hk1 hFc hP1 hD1
  generalize H1 = H at hP hS ⊢
  have hP : va_P (dC, dI) vwCl [(rmo, .inr (8, rms)), (rkn, .inl (rcK, 2, .inl rkf))] H := hP
  have hD : va_D A [(rmo, .inr (8, rms)), (rkn, .inl (rcK, 2, .inl rkf))] := hD
  try dsimp only at hw
  obtain rfl : r_4 = (-1) := hw
  refine lv_aload_n hx hb dL_law_836 rfl (lv_at hl 1 rfl) ?_
  refine lv_aload_n hx hb dL_law_837 rfl (lv_at hl 3 rfl) ?_
  refine lv_iload_n hx hb dL_law_838 rfl (lv_at hl 0 rfl) ?_
  refine lv_iconst (v := 1) hx hb dL_law_839 (by decide) ?_
  refine lv_iadd hx hb dL_law_840 ?_
  refine lv_topi (fun v_5 ev_5 => ?_)
  obtain rfl : v_5 = 1 := ev_5.trans (by decide)
  refine va_sld hx hb hX hbl hbA hS (p1_in (i := 1) (n := 6) (by decide)) dL_law_841 ?_
  refine lv_aload_n hx hb dL_law_842 rfl (lv_at hl 3 rfl) ?_
  refine lv_iload_n hx hb dL_law_843 rfl (lv_at hl 0 rfl) ?_
  refine lv_iconst (v := 2) hx hb dL_law_844 (by decide) ?_
  refine lv_iadd hx hb dL_law_845 ?_
  refine lv_topi (fun v_6 ev_6 => ?_)
  obtain rfl : v_6 = 2 := ev_6.trans (by decide)
  refine va_sld hx hb hX hbl hbA hS (p1_in (i := 2) (n := 6) (by decide)) dL_law_846 ?_
  refine lv_aload_n hx hb dL_law_847 rfl (lv_at hl 3 rfl) ?_
  refine lv_iload_n hx hb dL_law_848 rfl (lv_at hl 0 rfl) ?_
  refine lv_iconst (v := 3) hx hb dL_law_849 (by decide) ?_
  refine lv_iadd hx hb dL_law_850 ?_
  refine lv_topi (fun v_7 ev_7 => ?_)
  obtain rfl : v_7 = 3 := ev_7.trans (by decide)
  refine va_sld hx hb hX hbl hbA hS (p1_in (i := 3) (n := 6) (by decide)) dL_law_851 ?_
  have hPc := hP.sub (ws' := [(rmo, .inr (8, rms)), (rkn, .inl (rcK, 2, .inl rkf))]) [0, 1] rfl
  have hDc := hD.sub (ws' := [(rmo, .inr (8, rms)), (rkn, .inl (rcK, 2, .inl rkf))]) [0, 1] (by decide) rfl
  have hKc := hK.sub (tys' := [(rcK, .int)]) [1] rfl
  have hFc := va_free (wc := [(rmo, .inr (8, rms)), (rkn, .inl (rcK, 2, .inl rkf))]) hD hS hA [0, 1] rfl
  refine va_calli (va_runV (As := [.int (xs (1 : Int32).toNatClampNeg), .int (xs (2 : Int32).toNatClampNeg), .int (xs (3 : Int32).toNatClampNeg)]) (rest := [.int (-1)]) ⟨hx, hb, hml, hown, hts⟩ (m_which l dC dI H.size rmo rms rkn rcK rkf ((xs (1 : Int32).toNatClampNeg)) ((xs (2 : Int32).toNatClampNeg)) ((xs (3 : Int32).toNatClampNeg)) f_rms_11 f_rms_43 h_rkf_0) (cwV 3 hts (p1_gV m_4 m_5 m_6 m_7 g_m_which gz_m_which) rfl rfl rfl (by decide +kernel) ⟨by decide, by decide⟩) ⟨fun a U g mk q => by obtain ⟨q0, q1, qP, qK, qD⟩ := q; exact ⟨q0, q1, qP, va_K.moved (u := U) (U := U.calling g mk a) (Vm.Alike.refl U.vm) qK, qD⟩, va_recv hKc hPc (ci := 8) (q0 := 0) rfl rfl, fun U hU hW => ⟨rfl, by rw [hU], by rw [hU]; exact hPc, va_K.moved hW.alike hKc, hDc.weaken (fun _ _ _ _ => trivial)⟩⟩ rfl rfl hl.1 rfl (lv_room (Nat.le_of_ble_eq_true rfl)) dL_law_852 ⟨by decide, by decide⟩) hS (fun q _ h => hFc q h) hFc (fun r_8 u t H1 locs ht hvm hw hB hz1 hk1 hS => ?_)
  obtain ⟨hP1, hK1, hD1⟩ := hB
  rw [ht] at hP1
  obtain ⟨hP, hD⟩ := va_join (wr := []) (w1 := []) hP hD [0, 1] [] rfl rfl (by decide) (by decide) hk1 hFc hP1 hD1
  generalize H1 = H at hP hS ⊢
  have hP : va_P (dC, dI) vwCl [] H := hP
  have hD : va_D A [] := hD
  try dsimp only at hw
  obtain rfl : r_8 = (-1) := hw
  refine lv_icmp_eq (tgt := 1382) hx hb dL_law_855 (by decide) (fun _ => ?_) (fun c9 => absurd c9 (by decide))
  refine lv_iinc (v := 6) (lv' := [(3, .int 6), (2, .ref rmo), (1, .ref xx), (0, .ref b)]) hx hb dL_law_1382 hl (k := 0) rfl (by decide) (by decide) rfl (fun ls hl => ?_)
  refine lv_goto (tgt := 18) hx hb dL_law_1385 (by decide) ?_
  refine lv_iload_n hx hb dL_law_18 rfl (lv_at hl 0 rfl) ?_
  refine lv_aload_n hx hb dL_law_19 rfl (lv_at hl 3 rfl) ?_
  refine va_slen hx hb hX hbl hbA hS dL_law_20 ?_
  refine lv_topi (fun v_10 ev_10 => ?_)
  obtain rfl : v_10 = 6 := ev_10.trans rfl
  refine lv_bipush (v := 6) hx hb dL_law_21 (by decide) ?_
  refine lv_isub hx hb dL_law_23 ?_
  refine lv_topi (fun v_11 ev_11 => ?_)
  obtain rfl : v_11 = 0 := ev_11.trans (by decide)
  refine lv_icmp_gt (tgt := 1388) hx hb dL_law_24 (by decide) (fun _ => ?_) (fun c9 => absurd c9 (by decide))
  refine lv_iconst (v := 1) hx hb dL_law_1388 (by decide) ?_
  refine va_forget (fun q hq => by have h9 := hS.2.2 q hq; rw [hAe] at h9; exact h9) ?_
  refine W.widen (k := 600000) (n := 7302249) (by decide) (by decide) ?_
  exact lw_ret hx hb hr hlocks dL_law_1389
set_option maxHeartbeats 4000000 in
set_option maxRecDepth 100000 in
theorem law_best {p : Program} {e : Env} {s : State} {m : MethodId} {below : List Frame} {meth : Method} {c : Code} (l : Launch) {b : Nat} {xs : Nat → Int32} (C0 : lw_At p s m meth c b 6 xs) {A : Nat → Prop} (hAe : A = fun q : Nat => s.heap.size ≤ q) (hE : p1_ex A s s.heap) (dC : Nat → ClassId) (dI : Nat → Nat → Nat) (xx : Nat) (xxs : List Value) (xsh : Nat) (xss : List Value) (xsc : Nat) (xcS : ClassId) (rmo : Nat) (rms : List Value) (rco : Nat) (rcC : ClassId) (rcf : Nat → Int32) (f_xxs_9 : xxs[9]? = some (.ref xsh)) (f_xss_0 : xss[0]? = some (.ref xsc)) (f_rms_12 : rms[12]? = some (.ref rco)) (f_rms_43 : rms[43]? = some (.int 0)) (h_rcf_0 : rcf 0 = 0) (H : Heap) (locs : List Loc) (ls : Array Slot) (hK : va_K (dC, dI) vwCl [(xcS, .int), (rcC, .int)] s) (hP : va_P (dC, dI) vwCl [(xx, .inr (7, xxs)), (xsh, .inr (5, xss)), (xsc, .inl (xcS, 5, .inl (fun _ => 0))), (rmo, .inr (8, rms)), (rco, .inl (rcC, 2, .inl rcf))] H) (hD : va_D A [(xx, .inr (7, xxs)), (xsh, .inr (5, xss)), (xsc, .inl (xcS, 5, .inl (fun _ => 0))), (rmo, .inr (8, rms)), (rco, .inl (rcC, 2, .inl rcf))]) (hS : va_S A s.heap H locs) (hl : lv_has ls 4 [(3, .int 0), (2, .ref rmo), (1, .ref xx), (0, .ref b)]) : W p l e room_1 s m #[Value.ref b] below meth c H locs 152 11751 (lw_Z below #[Value.ref b] s) (F0 m 860 ls []) := by
  obtain ⟨hx, hb, hr, hml, hown, hts, hX, hbl, hlocks, hgv⟩ := id C0
  have hown : s.vm.findClass RL = some m.cls := hown
  have hA : ∀ q : Nat, s.heap.size ≤ q → A q := by rw [hAe]; exact fun _ h => h
  have hbA : ¬ A b := by rw [hAe]; exact Nat.not_le.mpr hbl
  have m_0 : (.methodLink RL 91 yX8_best : Cond) ∈ lw_tbl := p1_w 910 (by decide +kernel)
  have k_0 := hts _ m_0
  have m_1 : (.instanceMethod yX8_best : Cond) ∈ lw_tbl := p1_w 911 (by decide +kernel)
  have k_1 := hts _ m_1
  have m_2 : (.selects RX8 yX8_best yX8_best : Cond) ∈ lw_tbl := p1_w 912 (by decide +kernel)
  have k_2 := hts _ m_2
  have m_3 : (.initialized RX8 : Cond) ∈ lw_tbl := p1_w 104 (by decide +kernel)
  have k_3 := hts _ m_3
  have m_4 : (.methodLink RL 94 yX9_best : Cond) ∈ lw_tbl := p1_w 1616 (by decide +kernel)
  have k_4 := hts _ m_4
  have m_5 : (.instanceMethod yX9_best : Cond) ∈ lw_tbl := p1_w 1617 (by decide +kernel)
  have k_5 := hts _ m_5
  have m_6 : (.selects RX9 yX9_best yX9_best : Cond) ∈ lw_tbl := p1_w 1618 (by decide +kernel)
  have k_6 := hts _ m_6
  have m_7 : (.initialized RX9 : Cond) ∈ lw_tbl := p1_w 116 (by decide +kernel)
  have k_7 := hts _ m_7
  have g_x_best := iz_x_best
  have g_m_best := iz_m_best
  refine lv_aload_n hx hb dL_law_860 rfl (lv_at hl 2 rfl) ?_
  refine lv_aload_n hx hb dL_law_861 rfl (lv_at hl 3 rfl) ?_
  refine lv_iload_n hx hb dL_law_862 rfl (lv_at hl 0 rfl) ?_
  refine lv_iconst (v := 1) hx hb dL_law_863 (by decide) ?_
  refine lv_iadd hx hb dL_law_864 ?_
  refine lv_topi (fun v_1 ev_1 => ?_)
  obtain rfl : v_1 = 1 := ev_1.trans (by decide)
  refine va_sld hx hb hX hbl hbA hS (p1_in (i := 1) (n := 6) (by decide)) dL_law_865 ?_
  refine lv_aload_n hx hb dL_law_866 rfl (lv_at hl 3 rfl) ?_
  refine lv_iload_n hx hb dL_law_867 rfl (lv_at hl 0 rfl) ?_
  refine lv_iconst (v := 2) hx hb dL_law_868 (by decide) ?_
  refine lv_iadd hx hb dL_law_869 ?_
  refine lv_topi (fun v_2 ev_2 => ?_)
  obtain rfl : v_2 = 2 := ev_2.trans (by decide)
  refine va_sld hx hb hX hbl hbA hS (p1_in (i := 2) (n := 6) (by decide)) dL_law_870 ?_
  refine lv_aload_n hx hb dL_law_871 rfl (lv_at hl 3 rfl) ?_
  refine lv_iload_n hx hb dL_law_872 rfl (lv_at hl 0 rfl) ?_
  refine lv_iconst (v := 3) hx hb dL_law_873 (by decide) ?_
  refine lv_iadd hx hb dL_law_874 ?_
  refine lv_topi (fun v_3 ev_3 => ?_)
  obtain rfl : v_3 = 3 := ev_3.trans (by decide)
  refine va_sld hx hb hX hbl hbA hS (p1_in (i := 3) (n := 6) (by decide)) dL_law_875 ?_
  refine lv_aload_n hx hb dL_law_876 rfl (lv_at hl 3 rfl) ?_
  refine lv_iload_n hx hb dL_law_877 rfl (lv_at hl 0 rfl) ?_
  refine lv_iconst (v := 4) hx hb dL_law_878 (by decide) ?_
  refine lv_iadd hx hb dL_law_879 ?_
  refine lv_topi (fun v_4 ev_4 => ?_)
  obtain rfl : v_4 = 4 := ev_4.trans (by decide)
  refine va_sld hx hb hX hbl hbA hS (p1_in (i := 4) (n := 6) (by decide)) dL_law_880 ?_
  refine lv_aload_n hx hb dL_law_881 rfl (lv_at hl 3 rfl) ?_
  refine lv_iload_n hx hb dL_law_882 rfl (lv_at hl 0 rfl) ?_
  refine lv_iconst (v := 5) hx hb dL_law_883 (by decide) ?_
  refine lv_iadd hx hb dL_law_884 ?_
  refine lv_topi (fun v_5 ev_5 => ?_)
  obtain rfl : v_5 = 5 := ev_5.trans (by decide)
  refine va_sld hx hb hX hbl hbA hS (p1_in (i := 5) (n := 6) (by decide)) dL_law_885 ?_
  have hPc := hP.sub (ws' := [(xx, .inr (7, xxs)), (xsh, .inr (5, xss)), (xsc, .inl (xcS, 5, .inl (fun _ => 0)))]) [0, 1, 2] rfl
  have hDc := hD.sub (ws' := [(xx, .inr (7, xxs)), (xsh, .inr (5, xss)), (xsc, .inl (xcS, 5, .inl (fun _ => 0)))]) [0, 1, 2] (by decide) rfl
  have hKc := hK.sub (tys' := [(xcS, .int)]) [0] rfl
  have hFc := va_free (wc := [(xx, .inr (7, xxs)), (xsh, .inr (5, xss)), (xsc, .inl (xcS, 5, .inl (fun _ => 0)))]) hD hS hA [0, 1, 2] rfl
  refine va_calli (va_runV (As := [.int (xs (1 : Int32).toNatClampNeg), .int (xs (2 : Int32).toNatClampNeg), .int (xs (3 : Int32).toNatClampNeg), .int (xs (4 : Int32).toNatClampNeg), .int (xs (5 : Int32).toNatClampNeg)]) (rest := []) ⟨hx, hb, hml, hown, hts⟩ (x_best l dC dI H.size xx xxs xsh xss xsc xcS ((xs (1 : Int32).toNatClampNeg)) ((xs (2 : Int32).toNatClampNeg)) ((xs (3 : Int32).toNatClampNeg)) ((xs (4 : Int32).toNatClampNeg)) ((xs (5 : Int32).toNatClampNeg)) f_xxs_9 f_xss_0) (cwV 5 hts (p1_gV m_0 m_1 m_2 m_3 g_x_best gz_x_best) rfl rfl rfl (by decide +kernel) ⟨by decide, by decide⟩) ⟨fun a U g mk q => by obtain ⟨q0, q1, qP, qK, qD⟩ := q; exact ⟨q0, q1, qP, va_K.moved (u := U) (U := U.calling g mk a) (Vm.Alike.refl U.vm) qK, qD⟩, va_recv hKc hPc (ci := 7) (q0 := 0) rfl rfl, fun U hU hW => ⟨rfl, by rw [hU], by rw [hU]; exact hPc, va_K.moved hW.alike hKc, hDc.weaken (fun _ _ _ _ => trivial)⟩⟩ rfl rfl hl.1 rfl (lv_room (Nat.le_of_ble_eq_true rfl)) dL_law_886 ⟨by decide, by decide⟩) hS (fun q _ h => hFc q h) hFc (fun r_6 u t H1 locs ht hvm hw hB hz1 hk1 hS => ?_)
  obtain ⟨hP1, hK1, hD1⟩ := hB
  rw [ht] at hP1
  obtain ⟨hP, hD⟩ := va_join (wr := [(rmo, .inr (8, rms)), (rco, .inl (rcC, 2, .inl rcf))]) (w1 := []) hP hD [0, 1, 2] [3, 4] rfl rfl (by decide) (by decide) hk1 hFc hP1 hD1
  generalize H1 = H at hP hS ⊢
  have hP : va_P (dC, dI) vwCl [(rmo, .inr (8, rms)), (rco, .inl (rcC, 2, .inl rcf))] H := hP
  have hD : va_D A [(rmo, .inr (8, rms)), (rco, .inl (rcC, 2, .inl rcf))] := hD
  try dsimp only at hw
  obtain rfl : r_6 = (-1) := hw
  refine lv_aload_n hx hb dL_law_889 rfl (lv_at hl 1 rfl) ?_
  refine lv_aload_n hx hb dL_law_890 rfl (lv_at hl 3 rfl) ?_
  refine lv_iload_n hx hb dL_law_891 rfl (lv_at hl 0 rfl) ?_
  refine lv_iconst (v := 1) hx hb dL_law_892 (by decide) ?_
  refine lv_iadd hx hb dL_law_893 ?_
  refine lv_topi (fun v_7 ev_7 => ?_)
  obtain rfl : v_7 = 1 := ev_7.trans (by decide)
  refine va_sld hx hb hX hbl hbA hS (p1_in (i := 1) (n := 6) (by decide)) dL_law_894 ?_
  refine lv_aload_n hx hb dL_law_895 rfl (lv_at hl 3 rfl) ?_
  refine lv_iload_n hx hb dL_law_896 rfl (lv_at hl 0 rfl) ?_
  refine lv_iconst (v := 2) hx hb dL_law_897 (by decide) ?_
  refine lv_iadd hx hb dL_law_898 ?_
  refine lv_topi (fun v_8 ev_8 => ?_)
  obtain rfl : v_8 = 2 := ev_8.trans (by decide)
  refine va_sld hx hb hX hbl hbA hS (p1_in (i := 2) (n := 6) (by decide)) dL_law_899 ?_
  refine lv_aload_n hx hb dL_law_900 rfl (lv_at hl 3 rfl) ?_
  refine lv_iload_n hx hb dL_law_901 rfl (lv_at hl 0 rfl) ?_
  refine lv_iconst (v := 3) hx hb dL_law_902 (by decide) ?_
  refine lv_iadd hx hb dL_law_903 ?_
  refine lv_topi (fun v_9 ev_9 => ?_)
  obtain rfl : v_9 = 3 := ev_9.trans (by decide)
  refine va_sld hx hb hX hbl hbA hS (p1_in (i := 3) (n := 6) (by decide)) dL_law_904 ?_
  refine lv_aload_n hx hb dL_law_905 rfl (lv_at hl 3 rfl) ?_
  refine lv_iload_n hx hb dL_law_906 rfl (lv_at hl 0 rfl) ?_
  refine lv_iconst (v := 4) hx hb dL_law_907 (by decide) ?_
  refine lv_iadd hx hb dL_law_908 ?_
  refine lv_topi (fun v_10 ev_10 => ?_)
  obtain rfl : v_10 = 4 := ev_10.trans (by decide)
  refine va_sld hx hb hX hbl hbA hS (p1_in (i := 4) (n := 6) (by decide)) dL_law_909 ?_
  refine lv_aload_n hx hb dL_law_910 rfl (lv_at hl 3 rfl) ?_
  refine lv_iload_n hx hb dL_law_911 rfl (lv_at hl 0 rfl) ?_
  refine lv_iconst (v := 5) hx hb dL_law_912 (by decide) ?_
  refine lv_iadd hx hb dL_law_913 ?_
  refine lv_topi (fun v_11 ev_11 => ?_)
  obtain rfl : v_11 = 5 := ev_11.trans (by decide)
  refine va_sld hx hb hX hbl hbA hS (p1_in (i := 5) (n := 6) (by decide)) dL_law_914 ?_
  have hPc := hP.sub (ws' := [(rmo, .inr (8, rms)), (rco, .inl (rcC, 2, .inl rcf))]) [0, 1] rfl
  have hDc := hD.sub (ws' := [(rmo, .inr (8, rms)), (rco, .inl (rcC, 2, .inl rcf))]) [0, 1] (by decide) rfl
  have hKc := hK.sub (tys' := [(rcC, .int)]) [1] rfl
  have hFc := va_free (wc := [(rmo, .inr (8, rms)), (rco, .inl (rcC, 2, .inl rcf))]) hD hS hA [0, 1] rfl
  refine va_calli (va_runV (As := [.int (xs (1 : Int32).toNatClampNeg), .int (xs (2 : Int32).toNatClampNeg), .int (xs (3 : Int32).toNatClampNeg), .int (xs (4 : Int32).toNatClampNeg), .int (xs (5 : Int32).toNatClampNeg)]) (rest := [.int (-1)]) ⟨hx, hb, hml, hown, hts⟩ (m_best l dC dI H.size rmo rms rco rcC rcf ((xs (1 : Int32).toNatClampNeg)) ((xs (2 : Int32).toNatClampNeg)) ((xs (3 : Int32).toNatClampNeg)) ((xs (4 : Int32).toNatClampNeg)) ((xs (5 : Int32).toNatClampNeg)) f_rms_12 f_rms_43 h_rcf_0) (cwV 5 hts (p1_gV m_4 m_5 m_6 m_7 g_m_best gz_m_best) rfl rfl rfl (by decide +kernel) ⟨by decide, by decide⟩) ⟨fun a U g mk q => by obtain ⟨q0, q1, qP, qK, qD⟩ := q; exact ⟨q0, q1, qP, va_K.moved (u := U) (U := U.calling g mk a) (Vm.Alike.refl U.vm) qK, qD⟩, va_recv hKc hPc (ci := 8) (q0 := 0) rfl rfl, fun U hU hW => ⟨rfl, by rw [hU], by rw [hU]; exact hPc, va_K.moved hW.alike hKc, hDc.weaken (fun _ _ _ _ => trivial)⟩⟩ rfl rfl hl.1 rfl (lv_room (Nat.le_of_ble_eq_true rfl)) dL_law_915 ⟨by decide, by decide⟩) hS (fun q _ h => hFc q h) hFc (fun r_12 u t H1 locs ht hvm hw hB hz1 hk1 hS => ?_)
  obtain ⟨hP1, hK1, hD1⟩ := hB
  rw [ht] at hP1
  obtain ⟨hP, hD⟩ := va_join (wr := []) (w1 := []) hP hD [0, 1] [] rfl rfl (by decide) (by decide) hk1 hFc hP1 hD1
  generalize H1 = H at hP hS ⊢
  have hP : va_P (dC, dI) vwCl [] H := hP
  have hD : va_D A [] := hD
  try dsimp only at hw
  obtain rfl : r_12 = (-1) := hw
  refine lv_icmp_eq (tgt := 1382) hx hb dL_law_918 (by decide) (fun _ => ?_) (fun c9 => absurd c9 (by decide))
  refine lv_iinc (v := 6) (lv' := [(3, .int 6), (2, .ref rmo), (1, .ref xx), (0, .ref b)]) hx hb dL_law_1382 hl (k := 0) rfl (by decide) (by decide) rfl (fun ls hl => ?_)
  refine lv_goto (tgt := 18) hx hb dL_law_1385 (by decide) ?_
  refine lv_iload_n hx hb dL_law_18 rfl (lv_at hl 0 rfl) ?_
  refine lv_aload_n hx hb dL_law_19 rfl (lv_at hl 3 rfl) ?_
  refine va_slen hx hb hX hbl hbA hS dL_law_20 ?_
  refine lv_topi (fun v_14 ev_14 => ?_)
  obtain rfl : v_14 = 6 := ev_14.trans rfl
  refine lv_bipush (v := 6) hx hb dL_law_21 (by decide) ?_
  refine lv_isub hx hb dL_law_23 ?_
  refine lv_topi (fun v_15 ev_15 => ?_)
  obtain rfl : v_15 = 0 := ev_15.trans (by decide)
  refine lv_icmp_gt (tgt := 1388) hx hb dL_law_24 (by decide) (fun _ => ?_) (fun c9 => absurd c9 (by decide))
  refine lv_iconst (v := 1) hx hb dL_law_1388 (by decide) ?_
  refine va_forget (fun q hq => by have h9 := hS.2.2 q hq; rw [hAe] at h9; exact h9) ?_
  refine W.widen (k := 600000) (n := 7302249) (by decide) (by decide) ?_
  exact lw_ret hx hb hr hlocks dL_law_1389
set_option maxHeartbeats 4000000 in
set_option maxRecDepth 100000 in
theorem law_both {p : Program} {e : Env} {s : State} {m : MethodId} {below : List Frame} {meth : Method} {c : Code} (l : Launch) {b : Nat} {xs : Nat → Int32} (C0 : lw_At p s m meth c b 6 xs) {A : Nat → Prop} (hAe : A = fun q : Nat => s.heap.size ≤ q) (hE : p1_ex A s s.heap) (dC : Nat → ClassId) (dI : Nat → Nat → Nat) (xx : Nat) (xxs : List Value) (xsh : Nat) (xss : List Value) (xsc : Nat) (xcS : ClassId) (rmo : Nat) (rms : List Value) (rco : Nat) (rcC : ClassId) (rcf : Nat → Int32) (f_xxs_9 : xxs[9]? = some (.ref xsh)) (f_xss_0 : xss[0]? = some (.ref xsc)) (f_rms_12 : rms[12]? = some (.ref rco)) (f_rms_43 : rms[43]? = some (.int 0)) (h_rcf_0 : rcf 0 = 0) (H : Heap) (locs : List Loc) (ls : Array Slot) (hK : va_K (dC, dI) vwCl [(xcS, .int), (rcC, .int)] s) (hP : va_P (dC, dI) vwCl [(xx, .inr (7, xxs)), (xsh, .inr (5, xss)), (xsc, .inl (xcS, 5, .inl (fun _ => 0))), (rmo, .inr (8, rms)), (rco, .inl (rcC, 2, .inl rcf))] H) (hD : va_D A [(xx, .inr (7, xxs)), (xsh, .inr (5, xss)), (xsc, .inl (xcS, 5, .inl (fun _ => 0))), (rmo, .inr (8, rms)), (rco, .inl (rcC, 2, .inl rcf))]) (hS : va_S A s.heap H locs) (hl : lv_has ls 4 [(3, .int 0), (2, .ref rmo), (1, .ref xx), (0, .ref b)]) : W p l e room_1 s m #[Value.ref b] below meth c H locs 152 11751 (lw_Z below #[Value.ref b] s) (F0 m 923 ls []) := by
  obtain ⟨hx, hb, hr, hml, hown, hts, hX, hbl, hlocks, hgv⟩ := id C0
  have hown : s.vm.findClass RL = some m.cls := hown
  have hA : ∀ q : Nat, s.heap.size ≤ q → A q := by rw [hAe]; exact fun _ h => h
  have hbA : ¬ A b := by rw [hAe]; exact Nat.not_le.mpr hbl
  have m_0 : (.methodLink RL 95 yX8_both : Cond) ∈ lw_tbl := p1_w 918 (by decide +kernel)
  have k_0 := hts _ m_0
  have m_1 : (.instanceMethod yX8_both : Cond) ∈ lw_tbl := p1_w 919 (by decide +kernel)
  have k_1 := hts _ m_1
  have m_2 : (.selects RX8 yX8_both yX8_both : Cond) ∈ lw_tbl := p1_w 920 (by decide +kernel)
  have k_2 := hts _ m_2
  have m_3 : (.initialized RX8 : Cond) ∈ lw_tbl := p1_w 104 (by decide +kernel)
  have k_3 := hts _ m_3
  have m_4 : (.methodLink RL 98 yX9_both : Cond) ∈ lw_tbl := p1_w 1620 (by decide +kernel)
  have k_4 := hts _ m_4
  have m_5 : (.instanceMethod yX9_both : Cond) ∈ lw_tbl := p1_w 1621 (by decide +kernel)
  have k_5 := hts _ m_5
  have m_6 : (.selects RX9 yX9_both yX9_both : Cond) ∈ lw_tbl := p1_w 1622 (by decide +kernel)
  have k_6 := hts _ m_6
  have m_7 : (.initialized RX9 : Cond) ∈ lw_tbl := p1_w 116 (by decide +kernel)
  have k_7 := hts _ m_7
  have g_x_both := iz_x_both
  have g_m_both := iz_m_both
  refine lv_aload_n hx hb dL_law_923 rfl (lv_at hl 2 rfl) ?_
  refine lv_aload_n hx hb dL_law_924 rfl (lv_at hl 3 rfl) ?_
  refine lv_iload_n hx hb dL_law_925 rfl (lv_at hl 0 rfl) ?_
  refine lv_iconst (v := 1) hx hb dL_law_926 (by decide) ?_
  refine lv_iadd hx hb dL_law_927 ?_
  refine lv_topi (fun v_1 ev_1 => ?_)
  obtain rfl : v_1 = 1 := ev_1.trans (by decide)
  refine va_sld hx hb hX hbl hbA hS (p1_in (i := 1) (n := 6) (by decide)) dL_law_928 ?_
  refine lv_aload_n hx hb dL_law_929 rfl (lv_at hl 3 rfl) ?_
  refine lv_iload_n hx hb dL_law_930 rfl (lv_at hl 0 rfl) ?_
  refine lv_iconst (v := 2) hx hb dL_law_931 (by decide) ?_
  refine lv_iadd hx hb dL_law_932 ?_
  refine lv_topi (fun v_2 ev_2 => ?_)
  obtain rfl : v_2 = 2 := ev_2.trans (by decide)
  refine va_sld hx hb hX hbl hbA hS (p1_in (i := 2) (n := 6) (by decide)) dL_law_933 ?_
  have hPc := hP.sub (ws' := [(xx, .inr (7, xxs)), (xsh, .inr (5, xss)), (xsc, .inl (xcS, 5, .inl (fun _ => 0)))]) [0, 1, 2] rfl
  have hDc := hD.sub (ws' := [(xx, .inr (7, xxs)), (xsh, .inr (5, xss)), (xsc, .inl (xcS, 5, .inl (fun _ => 0)))]) [0, 1, 2] (by decide) rfl
  have hKc := hK.sub (tys' := [(xcS, .int)]) [0] rfl
  have hFc := va_free (wc := [(xx, .inr (7, xxs)), (xsh, .inr (5, xss)), (xsc, .inl (xcS, 5, .inl (fun _ => 0)))]) hD hS hA [0, 1, 2] rfl
  refine va_calli (va_runV (As := [.int (xs (1 : Int32).toNatClampNeg), .int (xs (2 : Int32).toNatClampNeg)]) (rest := []) ⟨hx, hb, hml, hown, hts⟩ (x_both l dC dI H.size xx xxs xsh xss xsc xcS ((xs (1 : Int32).toNatClampNeg)) ((xs (2 : Int32).toNatClampNeg)) f_xxs_9 f_xss_0) (cwV 2 hts (p1_gV m_0 m_1 m_2 m_3 g_x_both gz_x_both) rfl rfl rfl (by decide +kernel) ⟨by decide, by decide⟩) ⟨fun a U g mk q => by obtain ⟨q0, q1, qP, qK, qD⟩ := q; exact ⟨q0, q1, qP, va_K.moved (u := U) (U := U.calling g mk a) (Vm.Alike.refl U.vm) qK, qD⟩, va_recv hKc hPc (ci := 7) (q0 := 0) rfl rfl, fun U hU hW => ⟨rfl, by rw [hU], by rw [hU]; exact hPc, va_K.moved hW.alike hKc, hDc.weaken (fun _ _ _ _ => trivial)⟩⟩ rfl rfl hl.1 rfl (lv_room (Nat.le_of_ble_eq_true rfl)) dL_law_934 ⟨by decide, by decide⟩) hS (fun q _ h => hFc q h) hFc (fun r_3 u t H1 locs ht hvm hw hB hz1 hk1 hS => ?_)
  obtain ⟨hP1, hK1, hD1⟩ := hB
  rw [ht] at hP1
  obtain ⟨hP, hD⟩ := va_join (wr := [(rmo, .inr (8, rms)), (rco, .inl (rcC, 2, .inl rcf))]) (w1 := []) hP hD [0, 1, 2] [3, 4] rfl rfl (by decide) (by decide) hk1 hFc hP1 hD1
  generalize H1 = H at hP hS ⊢
  have hP : va_P (dC, dI) vwCl [(rmo, .inr (8, rms)), (rco, .inl (rcC, 2, .inl rcf))] H := hP
  have hD : va_D A [(rmo, .inr (8, rms)), (rco, .inl (rcC, 2, .inl rcf))] := hD
  try dsimp only at hw
  obtain rfl : r_3 = (-1) := hw
  refine lv_aload_n hx hb dL_law_937 rfl (lv_at hl 1 rfl) ?_
  refine lv_aload_n hx hb dL_law_938 rfl (lv_at hl 3 rfl) ?_
  refine lv_iload_n hx hb dL_law_939 rfl (lv_at hl 0 rfl) ?_
  refine lv_iconst (v := 1) hx hb dL_law_940 (by decide) ?_
  refine lv_iadd hx hb dL_law_941 ?_
  refine lv_topi (fun v_4 ev_4 => ?_)
  obtain rfl : v_4 = 1 := ev_4.trans (by decide)
  refine va_sld hx hb hX hbl hbA hS (p1_in (i := 1) (n := 6) (by decide)) dL_law_942 ?_
  refine lv_aload_n hx hb dL_law_943 rfl (lv_at hl 3 rfl) ?_
  refine lv_iload_n hx hb dL_law_944 rfl (lv_at hl 0 rfl) ?_
  refine lv_iconst (v := 2) hx hb dL_law_945 (by decide) ?_
  refine lv_iadd hx hb dL_law_946 ?_
  refine lv_topi (fun v_5 ev_5 => ?_)
  obtain rfl : v_5 = 2 := ev_5.trans (by decide)
  refine va_sld hx hb hX hbl hbA hS (p1_in (i := 2) (n := 6) (by decide)) dL_law_947 ?_
  have hPc := hP.sub (ws' := [(rmo, .inr (8, rms)), (rco, .inl (rcC, 2, .inl rcf))]) [0, 1] rfl
  have hDc := hD.sub (ws' := [(rmo, .inr (8, rms)), (rco, .inl (rcC, 2, .inl rcf))]) [0, 1] (by decide) rfl
  have hKc := hK.sub (tys' := [(rcC, .int)]) [1] rfl
  have hFc := va_free (wc := [(rmo, .inr (8, rms)), (rco, .inl (rcC, 2, .inl rcf))]) hD hS hA [0, 1] rfl
  refine va_calli (va_runV (As := [.int (xs (1 : Int32).toNatClampNeg), .int (xs (2 : Int32).toNatClampNeg)]) (rest := [.int (-1)]) ⟨hx, hb, hml, hown, hts⟩ (m_both l dC dI H.size rmo rms rco rcC rcf ((xs (1 : Int32).toNatClampNeg)) ((xs (2 : Int32).toNatClampNeg)) f_rms_12 f_rms_43 h_rcf_0) (cwV 2 hts (p1_gV m_4 m_5 m_6 m_7 g_m_both gz_m_both) rfl rfl rfl (by decide +kernel) ⟨by decide, by decide⟩) ⟨fun a U g mk q => by obtain ⟨q0, q1, qP, qK, qD⟩ := q; exact ⟨q0, q1, qP, va_K.moved (u := U) (U := U.calling g mk a) (Vm.Alike.refl U.vm) qK, qD⟩, va_recv hKc hPc (ci := 8) (q0 := 0) rfl rfl, fun U hU hW => ⟨rfl, by rw [hU], by rw [hU]; exact hPc, va_K.moved hW.alike hKc, hDc.weaken (fun _ _ _ _ => trivial)⟩⟩ rfl rfl hl.1 rfl (lv_room (Nat.le_of_ble_eq_true rfl)) dL_law_948 ⟨by decide, by decide⟩) hS (fun q _ h => hFc q h) hFc (fun r_6 u t H1 locs ht hvm hw hB hz1 hk1 hS => ?_)
  obtain ⟨hP1, hK1, hD1⟩ := hB
  rw [ht] at hP1
  obtain ⟨hP, hD⟩ := va_join (wr := []) (w1 := []) hP hD [0, 1] [] rfl rfl (by decide) (by decide) hk1 hFc hP1 hD1
  generalize H1 = H at hP hS ⊢
  have hP : va_P (dC, dI) vwCl [] H := hP
  have hD : va_D A [] := hD
  try dsimp only at hw
  obtain rfl : r_6 = (-1) := hw
  refine lv_icmp_eq (tgt := 1382) hx hb dL_law_951 (by decide) (fun _ => ?_) (fun c9 => absurd c9 (by decide))
  refine lv_iinc (v := 6) (lv' := [(3, .int 6), (2, .ref rmo), (1, .ref xx), (0, .ref b)]) hx hb dL_law_1382 hl (k := 0) rfl (by decide) (by decide) rfl (fun ls hl => ?_)
  refine lv_goto (tgt := 18) hx hb dL_law_1385 (by decide) ?_
  refine lv_iload_n hx hb dL_law_18 rfl (lv_at hl 0 rfl) ?_
  refine lv_aload_n hx hb dL_law_19 rfl (lv_at hl 3 rfl) ?_
  refine va_slen hx hb hX hbl hbA hS dL_law_20 ?_
  refine lv_topi (fun v_8 ev_8 => ?_)
  obtain rfl : v_8 = 6 := ev_8.trans rfl
  refine lv_bipush (v := 6) hx hb dL_law_21 (by decide) ?_
  refine lv_isub hx hb dL_law_23 ?_
  refine lv_topi (fun v_9 ev_9 => ?_)
  obtain rfl : v_9 = 0 := ev_9.trans (by decide)
  refine lv_icmp_gt (tgt := 1388) hx hb dL_law_24 (by decide) (fun _ => ?_) (fun c9 => absurd c9 (by decide))
  refine lv_iconst (v := 1) hx hb dL_law_1388 (by decide) ?_
  refine va_forget (fun q hq => by have h9 := hS.2.2 q hq; rw [hAe] at h9; exact h9) ?_
  refine W.widen (k := 600000) (n := 7302249) (by decide) (by decide) ?_
  exact lw_ret hx hb hr hlocks dL_law_1389
set_option maxHeartbeats 4000000 in
set_option maxRecDepth 100000 in
theorem law_ends {p : Program} {e : Env} {s : State} {m : MethodId} {below : List Frame} {meth : Method} {c : Code} (l : Launch) {b : Nat} {xs : Nat → Int32} (C0 : lw_At p s m meth c b 6 xs) {A : Nat → Prop} (hAe : A = fun q : Nat => s.heap.size ≤ q) (hE : p1_ex A s s.heap) (dC : Nat → ClassId) (dI : Nat → Nat → Nat) (xx : Nat) (xxs : List Value) (xsh : Nat) (xss : List Value) (xsc : Nat) (xcS : ClassId) (rmo : Nat) (rms : List Value) (rkn : Nat) (rcK : ClassId) (rkf : Nat → Int32) (f_xxs_9 : xxs[9]? = some (.ref xsh)) (f_xss_0 : xss[0]? = some (.ref xsc)) (f_rms_11 : rms[11]? = some (.ref rkn)) (f_rms_43 : rms[43]? = some (.int 0)) (h_rkf_0 : rkf 0 = 0) (H : Heap) (locs : List Loc) (ls : Array Slot) (hK : va_K (dC, dI) vwCl [(xcS, .int), (rcK, .int)] s) (hP : va_P (dC, dI) vwCl [(xx, .inr (7, xxs)), (xsh, .inr (5, xss)), (xsc, .inl (xcS, 5, .inl (fun _ => 0))), (rmo, .inr (8, rms)), (rkn, .inl (rcK, 2, .inl rkf))] H) (hD : va_D A [(xx, .inr (7, xxs)), (xsh, .inr (5, xss)), (xsc, .inl (xcS, 5, .inl (fun _ => 0))), (rmo, .inr (8, rms)), (rkn, .inl (rcK, 2, .inl rkf))]) (hS : va_S A s.heap H locs) (hl : lv_has ls 4 [(3, .int 0), (2, .ref rmo), (1, .ref xx), (0, .ref b)]) : W p l e room_1 s m #[Value.ref b] below meth c H locs 152 11751 (lw_Z below #[Value.ref b] s) (F0 m 956 ls []) := by
  obtain ⟨hx, hb, hr, hml, hown, hts, hX, hbl, hlocks, hgv⟩ := id C0
  have hown : s.vm.findClass RL = some m.cls := hown
  have hA : ∀ q : Nat, s.heap.size ≤ q → A q := by rw [hAe]; exact fun _ h => h
  have hbA : ¬ A b := by rw [hAe]; exact Nat.not_le.mpr hbl
  have m_0 : (.methodLink RL 99 yX8_ends : Cond) ∈ lw_tbl := p1_w 926 (by decide +kernel)
  have k_0 := hts _ m_0
  have m_1 : (.instanceMethod yX8_ends : Cond) ∈ lw_tbl := p1_w 927 (by decide +kernel)
  have k_1 := hts _ m_1
  have m_2 : (.selects RX8 yX8_ends yX8_ends : Cond) ∈ lw_tbl := p1_w 928 (by decide +kernel)
  have k_2 := hts _ m_2
  have m_3 : (.initialized RX8 : Cond) ∈ lw_tbl := p1_w 104 (by decide +kernel)
  have k_3 := hts _ m_3
  have m_4 : (.methodLink RL 102 yX9_ends : Cond) ∈ lw_tbl := p1_w 1624 (by decide +kernel)
  have k_4 := hts _ m_4
  have m_5 : (.instanceMethod yX9_ends : Cond) ∈ lw_tbl := p1_w 1625 (by decide +kernel)
  have k_5 := hts _ m_5
  have m_6 : (.selects RX9 yX9_ends yX9_ends : Cond) ∈ lw_tbl := p1_w 1626 (by decide +kernel)
  have k_6 := hts _ m_6
  have m_7 : (.initialized RX9 : Cond) ∈ lw_tbl := p1_w 116 (by decide +kernel)
  have k_7 := hts _ m_7
  have g_x_ends := iz_x_ends
  have g_m_ends := iz_m_ends
  refine lv_aload_n hx hb dL_law_956 rfl (lv_at hl 2 rfl) ?_
  refine lv_aload_n hx hb dL_law_957 rfl (lv_at hl 3 rfl) ?_
  refine lv_iload_n hx hb dL_law_958 rfl (lv_at hl 0 rfl) ?_
  refine lv_iconst (v := 1) hx hb dL_law_959 (by decide) ?_
  refine lv_iadd hx hb dL_law_960 ?_
  refine lv_topi (fun v_1 ev_1 => ?_)
  obtain rfl : v_1 = 1 := ev_1.trans (by decide)
  refine va_sld hx hb hX hbl hbA hS (p1_in (i := 1) (n := 6) (by decide)) dL_law_961 ?_
  refine lv_aload_n hx hb dL_law_962 rfl (lv_at hl 3 rfl) ?_
  refine lv_iload_n hx hb dL_law_963 rfl (lv_at hl 0 rfl) ?_
  refine lv_iconst (v := 2) hx hb dL_law_964 (by decide) ?_
  refine lv_iadd hx hb dL_law_965 ?_
  refine lv_topi (fun v_2 ev_2 => ?_)
  obtain rfl : v_2 = 2 := ev_2.trans (by decide)
  refine va_sld hx hb hX hbl hbA hS (p1_in (i := 2) (n := 6) (by decide)) dL_law_966 ?_
  refine lv_aload_n hx hb dL_law_967 rfl (lv_at hl 3 rfl) ?_
  refine lv_iload_n hx hb dL_law_968 rfl (lv_at hl 0 rfl) ?_
  refine lv_iconst (v := 3) hx hb dL_law_969 (by decide) ?_
  refine lv_iadd hx hb dL_law_970 ?_
  refine lv_topi (fun v_3 ev_3 => ?_)
  obtain rfl : v_3 = 3 := ev_3.trans (by decide)
  refine va_sld hx hb hX hbl hbA hS (p1_in (i := 3) (n := 6) (by decide)) dL_law_971 ?_
  refine lv_aload_n hx hb dL_law_972 rfl (lv_at hl 3 rfl) ?_
  refine lv_iload_n hx hb dL_law_973 rfl (lv_at hl 0 rfl) ?_
  refine lv_iconst (v := 4) hx hb dL_law_974 (by decide) ?_
  refine lv_iadd hx hb dL_law_975 ?_
  refine lv_topi (fun v_4 ev_4 => ?_)
  obtain rfl : v_4 = 4 := ev_4.trans (by decide)
  refine va_sld hx hb hX hbl hbA hS (p1_in (i := 4) (n := 6) (by decide)) dL_law_976 ?_
  have hPc := hP.sub (ws' := [(xx, .inr (7, xxs)), (xsh, .inr (5, xss)), (xsc, .inl (xcS, 5, .inl (fun _ => 0)))]) [0, 1, 2] rfl
  have hDc := hD.sub (ws' := [(xx, .inr (7, xxs)), (xsh, .inr (5, xss)), (xsc, .inl (xcS, 5, .inl (fun _ => 0)))]) [0, 1, 2] (by decide) rfl
  have hKc := hK.sub (tys' := [(xcS, .int)]) [0] rfl
  have hFc := va_free (wc := [(xx, .inr (7, xxs)), (xsh, .inr (5, xss)), (xsc, .inl (xcS, 5, .inl (fun _ => 0)))]) hD hS hA [0, 1, 2] rfl
  refine va_calli (va_runV (As := [.int (xs (1 : Int32).toNatClampNeg), .int (xs (2 : Int32).toNatClampNeg), .int (xs (3 : Int32).toNatClampNeg), .int (xs (4 : Int32).toNatClampNeg)]) (rest := []) ⟨hx, hb, hml, hown, hts⟩ (x_ends l dC dI H.size xx xxs xsh xss xsc xcS ((xs (1 : Int32).toNatClampNeg)) ((xs (2 : Int32).toNatClampNeg)) ((xs (3 : Int32).toNatClampNeg)) ((xs (4 : Int32).toNatClampNeg)) f_xxs_9 f_xss_0) (cwV 4 hts (p1_gV m_0 m_1 m_2 m_3 g_x_ends gz_x_ends) rfl rfl rfl (by decide +kernel) ⟨by decide, by decide⟩) ⟨fun a U g mk q => by obtain ⟨q0, q1, qP, qK, qD⟩ := q; exact ⟨q0, q1, qP, va_K.moved (u := U) (U := U.calling g mk a) (Vm.Alike.refl U.vm) qK, qD⟩, va_recv hKc hPc (ci := 7) (q0 := 0) rfl rfl, fun U hU hW => ⟨rfl, by rw [hU], by rw [hU]; exact hPc, va_K.moved hW.alike hKc, hDc.weaken (fun _ _ _ _ => trivial)⟩⟩ rfl rfl hl.1 rfl (lv_room (Nat.le_of_ble_eq_true rfl)) dL_law_977 ⟨by decide, by decide⟩) hS (fun q _ h => hFc q h) hFc (fun r_5 u t H1 locs ht hvm hw hB hz1 hk1 hS => ?_)
  obtain ⟨hP1, hK1, hD1⟩ := hB
  rw [ht] at hP1
  obtain ⟨hP, hD⟩ := va_join (wr := [(rmo, .inr (8, rms)), (rkn, .inl (rcK, 2, .inl rkf))]) (w1 := []) hP hD [0, 1, 2] [3, 4] rfl rfl (by decide) (by decide) hk1 hFc hP1 hD1
  generalize H1 = H at hP hS ⊢
  have hP : va_P (dC, dI) vwCl [(rmo, .inr (8, rms)), (rkn, .inl (rcK, 2, .inl rkf))] H := hP
  have hD : va_D A [(rmo, .inr (8, rms)), (rkn, .inl (rcK, 2, .inl rkf))] := hD
  try dsimp only at hw
  obtain rfl : r_5 = (-1) := hw
  refine lv_aload_n hx hb dL_law_980 rfl (lv_at hl 1 rfl) ?_
  refine lv_aload_n hx hb dL_law_981 rfl (lv_at hl 3 rfl) ?_
  refine lv_iload_n hx hb dL_law_982 rfl (lv_at hl 0 rfl) ?_
  refine lv_iconst (v := 1) hx hb dL_law_983 (by decide) ?_
  refine lv_iadd hx hb dL_law_984 ?_
  refine lv_topi (fun v_6 ev_6 => ?_)
  obtain rfl : v_6 = 1 := ev_6.trans (by decide)
  refine va_sld hx hb hX hbl hbA hS (p1_in (i := 1) (n := 6) (by decide)) dL_law_985 ?_
  refine lv_aload_n hx hb dL_law_986 rfl (lv_at hl 3 rfl) ?_
  refine lv_iload_n hx hb dL_law_987 rfl (lv_at hl 0 rfl) ?_
  refine lv_iconst (v := 2) hx hb dL_law_988 (by decide) ?_
  refine lv_iadd hx hb dL_law_989 ?_
  refine lv_topi (fun v_7 ev_7 => ?_)
  obtain rfl : v_7 = 2 := ev_7.trans (by decide)
  refine va_sld hx hb hX hbl hbA hS (p1_in (i := 2) (n := 6) (by decide)) dL_law_990 ?_
  refine lv_aload_n hx hb dL_law_991 rfl (lv_at hl 3 rfl) ?_
  refine lv_iload_n hx hb dL_law_992 rfl (lv_at hl 0 rfl) ?_
  refine lv_iconst (v := 3) hx hb dL_law_993 (by decide) ?_
  refine lv_iadd hx hb dL_law_994 ?_
  refine lv_topi (fun v_8 ev_8 => ?_)
  obtain rfl : v_8 = 3 := ev_8.trans (by decide)
  refine va_sld hx hb hX hbl hbA hS (p1_in (i := 3) (n := 6) (by decide)) dL_law_995 ?_
  refine lv_aload_n hx hb dL_law_996 rfl (lv_at hl 3 rfl) ?_
  refine lv_iload_n hx hb dL_law_997 rfl (lv_at hl 0 rfl) ?_
  refine lv_iconst (v := 4) hx hb dL_law_998 (by decide) ?_
  refine lv_iadd hx hb dL_law_999 ?_
  refine lv_topi (fun v_9 ev_9 => ?_)
  obtain rfl : v_9 = 4 := ev_9.trans (by decide)
  refine va_sld hx hb hX hbl hbA hS (p1_in (i := 4) (n := 6) (by decide)) dL_law_1000 ?_
  have hPc := hP.sub (ws' := [(rmo, .inr (8, rms)), (rkn, .inl (rcK, 2, .inl rkf))]) [0, 1] rfl
  have hDc := hD.sub (ws' := [(rmo, .inr (8, rms)), (rkn, .inl (rcK, 2, .inl rkf))]) [0, 1] (by decide) rfl
  have hKc := hK.sub (tys' := [(rcK, .int)]) [1] rfl
  have hFc := va_free (wc := [(rmo, .inr (8, rms)), (rkn, .inl (rcK, 2, .inl rkf))]) hD hS hA [0, 1] rfl
  refine va_calli (va_runV (As := [.int (xs (1 : Int32).toNatClampNeg), .int (xs (2 : Int32).toNatClampNeg), .int (xs (3 : Int32).toNatClampNeg), .int (xs (4 : Int32).toNatClampNeg)]) (rest := [.int (-1)]) ⟨hx, hb, hml, hown, hts⟩ (m_ends l dC dI H.size rmo rms rkn rcK rkf ((xs (1 : Int32).toNatClampNeg)) ((xs (2 : Int32).toNatClampNeg)) ((xs (3 : Int32).toNatClampNeg)) ((xs (4 : Int32).toNatClampNeg)) f_rms_11 f_rms_43 h_rkf_0) (cwV 4 hts (p1_gV m_4 m_5 m_6 m_7 g_m_ends gz_m_ends) rfl rfl rfl (by decide +kernel) ⟨by decide, by decide⟩) ⟨fun a U g mk q => by obtain ⟨q0, q1, qP, qK, qD⟩ := q; exact ⟨q0, q1, qP, va_K.moved (u := U) (U := U.calling g mk a) (Vm.Alike.refl U.vm) qK, qD⟩, va_recv hKc hPc (ci := 8) (q0 := 0) rfl rfl, fun U hU hW => ⟨rfl, by rw [hU], by rw [hU]; exact hPc, va_K.moved hW.alike hKc, hDc.weaken (fun _ _ _ _ => trivial)⟩⟩ rfl rfl hl.1 rfl (lv_room (Nat.le_of_ble_eq_true rfl)) dL_law_1001 ⟨by decide, by decide⟩) hS (fun q _ h => hFc q h) hFc (fun r_10 u t H1 locs ht hvm hw hB hz1 hk1 hS => ?_)
  obtain ⟨hP1, hK1, hD1⟩ := hB
  rw [ht] at hP1
  obtain ⟨hP, hD⟩ := va_join (wr := []) (w1 := []) hP hD [0, 1] [] rfl rfl (by decide) (by decide) hk1 hFc hP1 hD1
  generalize H1 = H at hP hS ⊢
  have hP : va_P (dC, dI) vwCl [] H := hP
  have hD : va_D A [] := hD
  try dsimp only at hw
  obtain rfl : r_10 = (-1) := hw
  refine lv_icmp_eq (tgt := 1382) hx hb dL_law_1004 (by decide) (fun _ => ?_) (fun c9 => absurd c9 (by decide))
  refine lv_iinc (v := 6) (lv' := [(3, .int 6), (2, .ref rmo), (1, .ref xx), (0, .ref b)]) hx hb dL_law_1382 hl (k := 0) rfl (by decide) (by decide) rfl (fun ls hl => ?_)
  refine lv_goto (tgt := 18) hx hb dL_law_1385 (by decide) ?_
  refine lv_iload_n hx hb dL_law_18 rfl (lv_at hl 0 rfl) ?_
  refine lv_aload_n hx hb dL_law_19 rfl (lv_at hl 3 rfl) ?_
  refine va_slen hx hb hX hbl hbA hS dL_law_20 ?_
  refine lv_topi (fun v_12 ev_12 => ?_)
  obtain rfl : v_12 = 6 := ev_12.trans rfl
  refine lv_bipush (v := 6) hx hb dL_law_21 (by decide) ?_
  refine lv_isub hx hb dL_law_23 ?_
  refine lv_topi (fun v_13 ev_13 => ?_)
  obtain rfl : v_13 = 0 := ev_13.trans (by decide)
  refine lv_icmp_gt (tgt := 1388) hx hb dL_law_24 (by decide) (fun _ => ?_) (fun c9 => absurd c9 (by decide))
  refine lv_iconst (v := 1) hx hb dL_law_1388 (by decide) ?_
  refine va_forget (fun q hq => by have h9 := hS.2.2 q hq; rw [hAe] at h9; exact h9) ?_
  refine W.widen (k := 600000) (n := 7302249) (by decide) (by decide) ?_
  exact lw_ret hx hb hr hlocks dL_law_1389
set_option maxHeartbeats 4000000 in
set_option maxRecDepth 100000 in
theorem law_change {p : Program} {e : Env} {s : State} {m : MethodId} {below : List Frame} {meth : Method} {c : Code} (l : Launch) {b : Nat} {xs : Nat → Int32} (C0 : lw_At p s m meth c b 6 xs) {A : Nat → Prop} (hAe : A = fun q : Nat => s.heap.size ≤ q) (hE : p1_ex A s s.heap) (dC : Nat → ClassId) (dI : Nat → Nat → Nat) (xx : Nat) (xxs : List Value) (xsh : Nat) (xss : List Value) (xsc : Nat) (xcS : ClassId) (rmo : Nat) (rms : List Value) (rkn : Nat) (rcK : ClassId) (rkf : Nat → Int32) (f_xxs_9 : xxs[9]? = some (.ref xsh)) (f_xss_0 : xss[0]? = some (.ref xsc)) (f_rms_11 : rms[11]? = some (.ref rkn)) (f_rms_43 : rms[43]? = some (.int 0)) (h_rkf_0 : rkf 0 = 0) (H : Heap) (locs : List Loc) (ls : Array Slot) (hK : va_K (dC, dI) vwCl [(xcS, .int), (rcK, .int)] s) (hP : va_P (dC, dI) vwCl [(xx, .inr (7, xxs)), (xsh, .inr (5, xss)), (xsc, .inl (xcS, 5, .inl (fun _ => 0))), (rmo, .inr (8, rms)), (rkn, .inl (rcK, 2, .inl rkf))] H) (hD : va_D A [(xx, .inr (7, xxs)), (xsh, .inr (5, xss)), (xsc, .inl (xcS, 5, .inl (fun _ => 0))), (rmo, .inr (8, rms)), (rkn, .inl (rcK, 2, .inl rkf))]) (hS : va_S A s.heap H locs) (hl : lv_has ls 4 [(3, .int 0), (2, .ref rmo), (1, .ref xx), (0, .ref b)]) : W p l e room_1 s m #[Value.ref b] below meth c H locs 152 11751 (lw_Z below #[Value.ref b] s) (F0 m 1009 ls []) := by
  obtain ⟨hx, hb, hr, hml, hown, hts, hX, hbl, hlocks, hgv⟩ := id C0
  have hown : s.vm.findClass RL = some m.cls := hown
  have hA : ∀ q : Nat, s.heap.size ≤ q → A q := by rw [hAe]; exact fun _ h => h
  have hbA : ¬ A b := by rw [hAe]; exact Nat.not_le.mpr hbl
  have m_0 : (.methodLink RL 103 yX8_change : Cond) ∈ lw_tbl := p1_w 930 (by decide +kernel)
  have k_0 := hts _ m_0
  have m_1 : (.instanceMethod yX8_change : Cond) ∈ lw_tbl := p1_w 931 (by decide +kernel)
  have k_1 := hts _ m_1
  have m_2 : (.selects RX8 yX8_change yX8_change : Cond) ∈ lw_tbl := p1_w 932 (by decide +kernel)
  have k_2 := hts _ m_2
  have m_3 : (.initialized RX8 : Cond) ∈ lw_tbl := p1_w 104 (by decide +kernel)
  have k_3 := hts _ m_3
  have m_4 : (.methodLink RL 106 yX9_change : Cond) ∈ lw_tbl := p1_w 1628 (by decide +kernel)
  have k_4 := hts _ m_4
  have m_5 : (.instanceMethod yX9_change : Cond) ∈ lw_tbl := p1_w 1629 (by decide +kernel)
  have k_5 := hts _ m_5
  have m_6 : (.selects RX9 yX9_change yX9_change : Cond) ∈ lw_tbl := p1_w 1630 (by decide +kernel)
  have k_6 := hts _ m_6
  have m_7 : (.initialized RX9 : Cond) ∈ lw_tbl := p1_w 116 (by decide +kernel)
  have k_7 := hts _ m_7
  have g_x_change := iz_x_change
  have g_m_change := iz_m_change
  refine lv_aload_n hx hb dL_law_1009 rfl (lv_at hl 2 rfl) ?_
  refine lv_aload_n hx hb dL_law_1010 rfl (lv_at hl 3 rfl) ?_
  refine lv_iload_n hx hb dL_law_1011 rfl (lv_at hl 0 rfl) ?_
  refine lv_iconst (v := 1) hx hb dL_law_1012 (by decide) ?_
  refine lv_iadd hx hb dL_law_1013 ?_
  refine lv_topi (fun v_1 ev_1 => ?_)
  obtain rfl : v_1 = 1 := ev_1.trans (by decide)
  refine va_sld hx hb hX hbl hbA hS (p1_in (i := 1) (n := 6) (by decide)) dL_law_1014 ?_
  refine lv_aload_n hx hb dL_law_1015 rfl (lv_at hl 3 rfl) ?_
  refine lv_iload_n hx hb dL_law_1016 rfl (lv_at hl 0 rfl) ?_
  refine lv_iconst (v := 2) hx hb dL_law_1017 (by decide) ?_
  refine lv_iadd hx hb dL_law_1018 ?_
  refine lv_topi (fun v_2 ev_2 => ?_)
  obtain rfl : v_2 = 2 := ev_2.trans (by decide)
  refine va_sld hx hb hX hbl hbA hS (p1_in (i := 2) (n := 6) (by decide)) dL_law_1019 ?_
  refine lv_aload_n hx hb dL_law_1020 rfl (lv_at hl 3 rfl) ?_
  refine lv_iload_n hx hb dL_law_1021 rfl (lv_at hl 0 rfl) ?_
  refine lv_iconst (v := 3) hx hb dL_law_1022 (by decide) ?_
  refine lv_iadd hx hb dL_law_1023 ?_
  refine lv_topi (fun v_3 ev_3 => ?_)
  obtain rfl : v_3 = 3 := ev_3.trans (by decide)
  refine va_sld hx hb hX hbl hbA hS (p1_in (i := 3) (n := 6) (by decide)) dL_law_1024 ?_
  refine lv_aload_n hx hb dL_law_1025 rfl (lv_at hl 3 rfl) ?_
  refine lv_iload_n hx hb dL_law_1026 rfl (lv_at hl 0 rfl) ?_
  refine lv_iconst (v := 4) hx hb dL_law_1027 (by decide) ?_
  refine lv_iadd hx hb dL_law_1028 ?_
  refine lv_topi (fun v_4 ev_4 => ?_)
  obtain rfl : v_4 = 4 := ev_4.trans (by decide)
  refine va_sld hx hb hX hbl hbA hS (p1_in (i := 4) (n := 6) (by decide)) dL_law_1029 ?_
  refine lv_aload_n hx hb dL_law_1030 rfl (lv_at hl 3 rfl) ?_
  refine lv_iload_n hx hb dL_law_1031 rfl (lv_at hl 0 rfl) ?_
  refine lv_iconst (v := 5) hx hb dL_law_1032 (by decide) ?_
  refine lv_iadd hx hb dL_law_1033 ?_
  refine lv_topi (fun v_5 ev_5 => ?_)
  obtain rfl : v_5 = 5 := ev_5.trans (by decide)
  refine va_sld hx hb hX hbl hbA hS (p1_in (i := 5) (n := 6) (by decide)) dL_law_1034 ?_
  have hPc := hP.sub (ws' := [(xx, .inr (7, xxs)), (xsh, .inr (5, xss)), (xsc, .inl (xcS, 5, .inl (fun _ => 0)))]) [0, 1, 2] rfl
  have hDc := hD.sub (ws' := [(xx, .inr (7, xxs)), (xsh, .inr (5, xss)), (xsc, .inl (xcS, 5, .inl (fun _ => 0)))]) [0, 1, 2] (by decide) rfl
  have hKc := hK.sub (tys' := [(xcS, .int)]) [0] rfl
  have hFc := va_free (wc := [(xx, .inr (7, xxs)), (xsh, .inr (5, xss)), (xsc, .inl (xcS, 5, .inl (fun _ => 0)))]) hD hS hA [0, 1, 2] rfl
  refine va_calli (va_runV (As := [.int (xs (1 : Int32).toNatClampNeg), .int (xs (2 : Int32).toNatClampNeg), .int (xs (3 : Int32).toNatClampNeg), .int (xs (4 : Int32).toNatClampNeg), .int (xs (5 : Int32).toNatClampNeg)]) (rest := []) ⟨hx, hb, hml, hown, hts⟩ (x_change l dC dI H.size xx xxs xsh xss xsc xcS ((xs (1 : Int32).toNatClampNeg)) ((xs (2 : Int32).toNatClampNeg)) ((xs (3 : Int32).toNatClampNeg)) ((xs (4 : Int32).toNatClampNeg)) ((xs (5 : Int32).toNatClampNeg)) f_xxs_9 f_xss_0) (cwV 5 hts (p1_gV m_0 m_1 m_2 m_3 g_x_change gz_x_change) rfl rfl rfl (by decide +kernel) ⟨by decide, by decide⟩) ⟨fun a U g mk q => by obtain ⟨q0, q1, qP, qK, qD⟩ := q; exact ⟨q0, q1, qP, va_K.moved (u := U) (U := U.calling g mk a) (Vm.Alike.refl U.vm) qK, qD⟩, va_recv hKc hPc (ci := 7) (q0 := 0) rfl rfl, fun U hU hW => ⟨rfl, by rw [hU], by rw [hU]; exact hPc, va_K.moved hW.alike hKc, hDc.weaken (fun _ _ _ _ => trivial)⟩⟩ rfl rfl hl.1 rfl (lv_room (Nat.le_of_ble_eq_true rfl)) dL_law_1035 ⟨by decide, by decide⟩) hS (fun q _ h => hFc q h) hFc (fun r_6 u t H1 locs ht hvm hw hB hz1 hk1 hS => ?_)
  obtain ⟨hP1, hK1, hD1⟩ := hB
  rw [ht] at hP1
  obtain ⟨hP, hD⟩ := va_join (wr := [(rmo, .inr (8, rms)), (rkn, .inl (rcK, 2, .inl rkf))]) (w1 := []) hP hD [0, 1, 2] [3, 4] rfl rfl (by decide) (by decide) hk1 hFc hP1 hD1
  generalize H1 = H at hP hS ⊢
  have hP : va_P (dC, dI) vwCl [(rmo, .inr (8, rms)), (rkn, .inl (rcK, 2, .inl rkf))] H := hP
  have hD : va_D A [(rmo, .inr (8, rms)), (rkn, .inl (rcK, 2, .inl rkf))] := hD
  try dsimp only at hw
  obtain rfl : r_6 = (-1) := hw
  refine lv_aload_n hx hb dL_law_1038 rfl (lv_at hl 1 rfl) ?_
  refine lv_aload_n hx hb dL_law_1039 rfl (lv_at hl 3 rfl) ?_
  refine lv_iload_n hx hb dL_law_1040 rfl (lv_at hl 0 rfl) ?_
  refine lv_iconst (v := 1) hx hb dL_law_1041 (by decide) ?_
  refine lv_iadd hx hb dL_law_1042 ?_
  refine lv_topi (fun v_7 ev_7 => ?_)
  obtain rfl : v_7 = 1 := ev_7.trans (by decide)
  refine va_sld hx hb hX hbl hbA hS (p1_in (i := 1) (n := 6) (by decide)) dL_law_1043 ?_
  refine lv_aload_n hx hb dL_law_1044 rfl (lv_at hl 3 rfl) ?_
  refine lv_iload_n hx hb dL_law_1045 rfl (lv_at hl 0 rfl) ?_
  refine lv_iconst (v := 2) hx hb dL_law_1046 (by decide) ?_
  refine lv_iadd hx hb dL_law_1047 ?_
  refine lv_topi (fun v_8 ev_8 => ?_)
  obtain rfl : v_8 = 2 := ev_8.trans (by decide)
  refine va_sld hx hb hX hbl hbA hS (p1_in (i := 2) (n := 6) (by decide)) dL_law_1048 ?_
  refine lv_aload_n hx hb dL_law_1049 rfl (lv_at hl 3 rfl) ?_
  refine lv_iload_n hx hb dL_law_1050 rfl (lv_at hl 0 rfl) ?_
  refine lv_iconst (v := 3) hx hb dL_law_1051 (by decide) ?_
  refine lv_iadd hx hb dL_law_1052 ?_
  refine lv_topi (fun v_9 ev_9 => ?_)
  obtain rfl : v_9 = 3 := ev_9.trans (by decide)
  refine va_sld hx hb hX hbl hbA hS (p1_in (i := 3) (n := 6) (by decide)) dL_law_1053 ?_
  refine lv_aload_n hx hb dL_law_1054 rfl (lv_at hl 3 rfl) ?_
  refine lv_iload_n hx hb dL_law_1055 rfl (lv_at hl 0 rfl) ?_
  refine lv_iconst (v := 4) hx hb dL_law_1056 (by decide) ?_
  refine lv_iadd hx hb dL_law_1057 ?_
  refine lv_topi (fun v_10 ev_10 => ?_)
  obtain rfl : v_10 = 4 := ev_10.trans (by decide)
  refine va_sld hx hb hX hbl hbA hS (p1_in (i := 4) (n := 6) (by decide)) dL_law_1058 ?_
  refine lv_aload_n hx hb dL_law_1059 rfl (lv_at hl 3 rfl) ?_
  refine lv_iload_n hx hb dL_law_1060 rfl (lv_at hl 0 rfl) ?_
  refine lv_iconst (v := 5) hx hb dL_law_1061 (by decide) ?_
  refine lv_iadd hx hb dL_law_1062 ?_
  refine lv_topi (fun v_11 ev_11 => ?_)
  obtain rfl : v_11 = 5 := ev_11.trans (by decide)
  refine va_sld hx hb hX hbl hbA hS (p1_in (i := 5) (n := 6) (by decide)) dL_law_1063 ?_
  have hPc := hP.sub (ws' := [(rmo, .inr (8, rms)), (rkn, .inl (rcK, 2, .inl rkf))]) [0, 1] rfl
  have hDc := hD.sub (ws' := [(rmo, .inr (8, rms)), (rkn, .inl (rcK, 2, .inl rkf))]) [0, 1] (by decide) rfl
  have hKc := hK.sub (tys' := [(rcK, .int)]) [1] rfl
  have hFc := va_free (wc := [(rmo, .inr (8, rms)), (rkn, .inl (rcK, 2, .inl rkf))]) hD hS hA [0, 1] rfl
  refine va_calli (va_runV (As := [.int (xs (1 : Int32).toNatClampNeg), .int (xs (2 : Int32).toNatClampNeg), .int (xs (3 : Int32).toNatClampNeg), .int (xs (4 : Int32).toNatClampNeg), .int (xs (5 : Int32).toNatClampNeg)]) (rest := [.int (-1)]) ⟨hx, hb, hml, hown, hts⟩ (m_change l dC dI H.size rmo rms rkn rcK rkf ((xs (1 : Int32).toNatClampNeg)) ((xs (2 : Int32).toNatClampNeg)) ((xs (3 : Int32).toNatClampNeg)) ((xs (4 : Int32).toNatClampNeg)) ((xs (5 : Int32).toNatClampNeg)) f_rms_11 f_rms_43 h_rkf_0) (cwV 5 hts (p1_gV m_4 m_5 m_6 m_7 g_m_change gz_m_change) rfl rfl rfl (by decide +kernel) ⟨by decide, by decide⟩) ⟨fun a U g mk q => by obtain ⟨q0, q1, qP, qK, qD⟩ := q; exact ⟨q0, q1, qP, va_K.moved (u := U) (U := U.calling g mk a) (Vm.Alike.refl U.vm) qK, qD⟩, va_recv hKc hPc (ci := 8) (q0 := 0) rfl rfl, fun U hU hW => ⟨rfl, by rw [hU], by rw [hU]; exact hPc, va_K.moved hW.alike hKc, hDc.weaken (fun _ _ _ _ => trivial)⟩⟩ rfl rfl hl.1 rfl (lv_room (Nat.le_of_ble_eq_true rfl)) dL_law_1064 ⟨by decide, by decide⟩) hS (fun q _ h => hFc q h) hFc (fun r_12 u t H1 locs ht hvm hw hB hz1 hk1 hS => ?_)
  obtain ⟨hP1, hK1, hD1⟩ := hB
  rw [ht] at hP1
  obtain ⟨hP, hD⟩ := va_join (wr := []) (w1 := []) hP hD [0, 1] [] rfl rfl (by decide) (by decide) hk1 hFc hP1 hD1
  generalize H1 = H at hP hS ⊢
  have hP : va_P (dC, dI) vwCl [] H := hP
  have hD : va_D A [] := hD
  try dsimp only at hw
  obtain rfl : r_12 = (-1) := hw
  refine lv_icmp_eq (tgt := 1382) hx hb dL_law_1067 (by decide) (fun _ => ?_) (fun c9 => absurd c9 (by decide))
  refine lv_iinc (v := 6) (lv' := [(3, .int 6), (2, .ref rmo), (1, .ref xx), (0, .ref b)]) hx hb dL_law_1382 hl (k := 0) rfl (by decide) (by decide) rfl (fun ls hl => ?_)
  refine lv_goto (tgt := 18) hx hb dL_law_1385 (by decide) ?_
  refine lv_iload_n hx hb dL_law_18 rfl (lv_at hl 0 rfl) ?_
  refine lv_aload_n hx hb dL_law_19 rfl (lv_at hl 3 rfl) ?_
  refine va_slen hx hb hX hbl hbA hS dL_law_20 ?_
  refine lv_topi (fun v_14 ev_14 => ?_)
  obtain rfl : v_14 = 6 := ev_14.trans rfl
  refine lv_bipush (v := 6) hx hb dL_law_21 (by decide) ?_
  refine lv_isub hx hb dL_law_23 ?_
  refine lv_topi (fun v_15 ev_15 => ?_)
  obtain rfl : v_15 = 0 := ev_15.trans (by decide)
  refine lv_icmp_gt (tgt := 1388) hx hb dL_law_24 (by decide) (fun _ => ?_) (fun c9 => absurd c9 (by decide))
  refine lv_iconst (v := 1) hx hb dL_law_1388 (by decide) ?_
  refine va_forget (fun q hq => by have h9 := hS.2.2 q hq; rw [hAe] at h9; exact h9) ?_
  refine W.widen (k := 600000) (n := 7302249) (by decide) (by decide) ?_
  exact lw_ret hx hb hr hlocks dL_law_1389
