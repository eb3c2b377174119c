set_option maxHeartbeats 4000000 in
set_option maxRecDepth 100000 in
theorem law_film {p : Program} {e : Env} {s : State} {m : MethodId} {below : List Frame} {meth : Method} {c : Code} (l : Launch) {b : Nat} {xs : Nat → Int32} (C0 : lw_At p s m meth c b 6 xs) {A : Nat → Prop} (hAe : A = fun q : Nat => s.heap.size ≤ q) (hE : p1_ex A s s.heap) (dC : Nat → ClassId) (dI : Nat → Nat → Nat) (xx : Nat) (xxs : List Value) (xsh : Nat) (xfl : Nat) (xss : List Value) (xsc : Nat) (xcS : ClassId) (xff : List Value) (rmo : Nat) (rms : List Value) (rkn : Nat) (rcK : ClassId) (rkf : Nat → Int32) (f_xxs_9 : xxs[9]? = some (.ref xsh)) (f_xxs_4 : xxs[4]? = some (.ref xfl)) (f_xss_0 : xss[0]? = some (.ref xsc)) (f_xff_7 : xff[7]? = some (.int 0)) (f_rms_11 : rms[11]? = some (.ref rkn)) (f_rms_43 : rms[43]? = some (.int 0)) (h_rkf_0 : rkf 0 = 0) (H : Heap) (locs : List Loc) (ls : Array Slot) (hK : va_K (dC, dI) vwCl [(xcS, .int), (rcK, .int)] s) (hP : va_P (dC, dI) vwCl [(xx, .inr (7, xxs)), (xsh, .inr (5, xss)), (xsc, .inl (xcS, 5, .inl (fun _ => 0))), (xfl, .inr (2, xff)), (rmo, .inr (8, rms)), (rkn, .inl (rcK, 2, .inl rkf))] H) (hD : va_D A [(xx, .inr (7, xxs)), (xsh, .inr (5, xss)), (xsc, .inl (xcS, 5, .inl (fun _ => 0))), (xfl, .inr (2, xff)), (rmo, .inr (8, rms)), (rkn, .inl (rcK, 2, .inl rkf))]) (hS : va_S A s.heap H locs) (hl : lv_has ls 4 [(3, .int 0), (2, .ref rmo), (1, .ref xx), (0, .ref b)]) : W p l e room_1 s m #[Value.ref b] below meth c H locs 152 11751 (lw_Z below #[Value.ref b] s) (F0 m 1072 ls []) := by
  obtain ⟨hx, hb, hr, hml, hown, hts, hX, hbl, hlocks, hgv⟩ := id C0
  have hown : s.vm.findClass RL = some m.cls := hown
  have hA : ∀ q : Nat, s.heap.size ≤ q → A q := by rw [hAe]; exact fun _ h => h
  have hbA : ¬ A b := by rw [hAe]; exact Nat.not_le.mpr hbl
  have m_0 : (.methodLink RL 107 yX8_film : Cond) ∈ lw_tbl := p1_w 938 (by decide +kernel)
  have k_0 := hts _ m_0
  have m_1 : (.instanceMethod yX8_film : Cond) ∈ lw_tbl := p1_w 939 (by decide +kernel)
  have k_1 := hts _ m_1
  have m_2 : (.selects RX8 yX8_film yX8_film : Cond) ∈ lw_tbl := p1_w 940 (by decide +kernel)
  have k_2 := hts _ m_2
  have m_3 : (.initialized RX8 : Cond) ∈ lw_tbl := p1_w 104 (by decide +kernel)
  have k_3 := hts _ m_3
  have m_4 : (.methodLink RL 110 yX9_film : Cond) ∈ lw_tbl := p1_w 1632 (by decide +kernel)
  have k_4 := hts _ m_4
  have m_5 : (.instanceMethod yX9_film : Cond) ∈ lw_tbl := p1_w 1633 (by decide +kernel)
  have k_5 := hts _ m_5
  have m_6 : (.selects RX9 yX9_film yX9_film : Cond) ∈ lw_tbl := p1_w 1634 (by decide +kernel)
  have k_6 := hts _ m_6
  have m_7 : (.initialized RX9 : Cond) ∈ lw_tbl := p1_w 116 (by decide +kernel)
  have k_7 := hts _ m_7
  have g_x_film := iz_x_film
  have g_m_film := iz_m_film
  refine lv_aload_n hx hb dL_law_1072 rfl (lv_at hl 2 rfl) ?_
  refine lv_aload_n hx hb dL_law_1073 rfl (lv_at hl 3 rfl) ?_
  refine lv_iload_n hx hb dL_law_1074 rfl (lv_at hl 0 rfl) ?_
  refine lv_iconst (v := 1) hx hb dL_law_1075 (by decide) ?_
  refine lv_iadd hx hb dL_law_1076 ?_
  refine lv_topi (fun v_1 ev_1 => ?_)
  obtain rfl : v_1 = 1 := ev_1.trans (by decide)
  refine va_sld hx hb hX hbl hbA hS (p1_in (i := 1) (n := 6) (by decide)) dL_law_1077 ?_
  refine lv_aload_n hx hb dL_law_1078 rfl (lv_at hl 3 rfl) ?_
  refine lv_iload_n hx hb dL_law_1079 rfl (lv_at hl 0 rfl) ?_
  refine lv_iconst (v := 2) hx hb dL_law_1080 (by decide) ?_
  refine lv_iadd hx hb dL_law_1081 ?_
  refine lv_topi (fun v_2 ev_2 => ?_)
  obtain rfl : v_2 = 2 := ev_2.trans (by decide)
  refine va_sld hx hb hX hbl hbA hS (p1_in (i := 2) (n := 6) (by decide)) dL_law_1082 ?_
  refine lv_aload_n hx hb dL_law_1083 rfl (lv_at hl 3 rfl) ?_
  refine lv_iload_n hx hb dL_law_1084 rfl (lv_at hl 0 rfl) ?_
  refine lv_iconst (v := 3) hx hb dL_law_1085 (by decide) ?_
  refine lv_iadd hx hb dL_law_1086 ?_
  refine lv_topi (fun v_3 ev_3 => ?_)
  obtain rfl : v_3 = 3 := ev_3.trans (by decide)
  refine va_sld hx hb hX hbl hbA hS (p1_in (i := 3) (n := 6) (by decide)) dL_law_1087 ?_
  refine lv_aload_n hx hb dL_law_1088 rfl (lv_at hl 3 rfl) ?_
  refine lv_iload_n hx hb dL_law_1089 rfl (lv_at hl 0 rfl) ?_
  refine lv_iconst (v := 4) hx hb dL_law_1090 (by decide) ?_
  refine lv_iadd hx hb dL_law_1091 ?_
  refine lv_topi (fun v_4 ev_4 => ?_)
  obtain rfl : v_4 = 4 := ev_4.trans (by decide)
  refine va_sld hx hb hX hbl hbA hS (p1_in (i := 4) (n := 6) (by decide)) dL_law_1092 ?_
  refine lv_aload_n hx hb dL_law_1093 rfl (lv_at hl 3 rfl) ?_
  refine lv_iload_n hx hb dL_law_1094 rfl (lv_at hl 0 rfl) ?_
  refine lv_iconst (v := 5) hx hb dL_law_1095 (by decide) ?_
  refine lv_iadd hx hb dL_law_1096 ?_
  refine lv_topi (fun v_5 ev_5 => ?_)
  obtain rfl : v_5 = 5 := ev_5.trans (by decide)
  refine va_sld hx hb hX hbl hbA hS (p1_in (i := 5) (n := 6) (by decide)) dL_law_1097 ?_
  have hPc := hP.sub (ws' := [(xx, .inr (7, xxs)), (xsh, .inr (5, xss)), (xsc, .inl (xcS, 5, .inl (fun _ => 0))), (xfl, .inr (2, xff))]) [0, 1, 2, 3] rfl
  have hDc := hD.sub (ws' := [(xx, .inr (7, xxs)), (xsh, .inr (5, xss)), (xsc, .inl (xcS, 5, .inl (fun _ => 0))), (xfl, .inr (2, xff))]) [0, 1, 2, 3] (by decide) rfl
  have hKc := hK.sub (tys' := [(xcS, .int)]) [0] rfl
  have hFc := va_free (wc := [(xx, .inr (7, xxs)), (xsh, .inr (5, xss)), (xsc, .inl (xcS, 5, .inl (fun _ => 0))), (xfl, .inr (2, xff))]) hD hS hA [0, 1, 2, 3] rfl
  refine va_calli (va_runV (As := [.int (xs (1 : Int32).toNatClampNeg), .int (xs (2 : Int32).toNatClampNeg), .int (xs (3 : Int32).toNatClampNeg), .int (xs (4 : Int32).toNatClampNeg), .int (xs (5 : Int32).toNatClampNeg)]) (rest := []) ⟨hx, hb, hml, hown, hts⟩ (x_film l dC dI H.size xx xxs xsh xfl xss xsc xcS xff ((xs (1 : Int32).toNatClampNeg)) ((xs (2 : Int32).toNatClampNeg)) ((xs (3 : Int32).toNatClampNeg)) ((xs (4 : Int32).toNatClampNeg)) ((xs (5 : Int32).toNatClampNeg)) f_xxs_9 f_xxs_4 f_xss_0 f_xff_7) (cwV 5 hts (p1_gV m_0 m_1 m_2 m_3 g_x_film gz_x_film) rfl rfl rfl (by decide +kernel) ⟨by decide, by decide⟩) ⟨fun a U g mk q => by obtain ⟨q0, q1, qP, qK, qD⟩ := q; exact ⟨q0, q1, qP, va_K.moved (u := U) (U := U.calling g mk a) (Vm.Alike.refl U.vm) qK, qD⟩, va_recv hKc hPc (ci := 7) (q0 := 0) rfl rfl, fun U hU hW => ⟨rfl, by rw [hU], by rw [hU]; exact hPc, va_K.moved hW.alike hKc, hDc.weaken (fun _ _ _ _ => trivial)⟩⟩ rfl rfl hl.1 rfl (lv_room (Nat.le_of_ble_eq_true rfl)) dL_law_1098 ⟨by decide, by decide⟩) hS (fun q _ h => hFc q h) hFc (fun r_6 u t H1 locs ht hvm hw hB hz1 hk1 hS => ?_)
  obtain ⟨hP1, hK1, hD1⟩ := hB
  rw [ht] at hP1
  obtain ⟨hP, hD⟩ := va_join (wr := [(rmo, .inr (8, rms)), (rkn, .inl (rcK, 2, .inl rkf))]) (w1 := []) hP hD [0, 1, 2, 3] [4, 5] rfl rfl (by decide) (by decide) hk1 hFc hP1 hD1
  generalize H1 = H at hP hS ⊢
  have hP : va_P (dC, dI) vwCl [(rmo, .inr (8, rms)), (rkn, .inl (rcK, 2, .inl rkf))] H := hP
  have hD : va_D A [(rmo, .inr (8, rms)), (rkn, .inl (rcK, 2, .inl rkf))] := hD
  try dsimp only at hw
  obtain rfl : r_6 = (-1) := hw
  refine lv_aload_n hx hb dL_law_1101 rfl (lv_at hl 1 rfl) ?_
  refine lv_aload_n hx hb dL_law_1102 rfl (lv_at hl 3 rfl) ?_
  refine lv_iload_n hx hb dL_law_1103 rfl (lv_at hl 0 rfl) ?_
  refine lv_iconst (v := 1) hx hb dL_law_1104 (by decide) ?_
  refine lv_iadd hx hb dL_law_1105 ?_
  refine lv_topi (fun v_7 ev_7 => ?_)
  obtain rfl : v_7 = 1 := ev_7.trans (by decide)
  refine va_sld hx hb hX hbl hbA hS (p1_in (i := 1) (n := 6) (by decide)) dL_law_1106 ?_
  refine lv_aload_n hx hb dL_law_1107 rfl (lv_at hl 3 rfl) ?_
  refine lv_iload_n hx hb dL_law_1108 rfl (lv_at hl 0 rfl) ?_
  refine lv_iconst (v := 2) hx hb dL_law_1109 (by decide) ?_
  refine lv_iadd hx hb dL_law_1110 ?_
  refine lv_topi (fun v_8 ev_8 => ?_)
  obtain rfl : v_8 = 2 := ev_8.trans (by decide)
  refine va_sld hx hb hX hbl hbA hS (p1_in (i := 2) (n := 6) (by decide)) dL_law_1111 ?_
  refine lv_aload_n hx hb dL_law_1112 rfl (lv_at hl 3 rfl) ?_
  refine lv_iload_n hx hb dL_law_1113 rfl (lv_at hl 0 rfl) ?_
  refine lv_iconst (v := 3) hx hb dL_law_1114 (by decide) ?_
  refine lv_iadd hx hb dL_law_1115 ?_
  refine lv_topi (fun v_9 ev_9 => ?_)
  obtain rfl : v_9 = 3 := ev_9.trans (by decide)
  refine va_sld hx hb hX hbl hbA hS (p1_in (i := 3) (n := 6) (by decide)) dL_law_1116 ?_
  refine lv_aload_n hx hb dL_law_1117 rfl (lv_at hl 3 rfl) ?_
  refine lv_iload_n hx hb dL_law_1118 rfl (lv_at hl 0 rfl) ?_
  refine lv_iconst (v := 4) hx hb dL_law_1119 (by decide) ?_
  refine lv_iadd hx hb dL_law_1120 ?_
  refine lv_topi (fun v_10 ev_10 => ?_)
  obtain rfl : v_10 = 4 := ev_10.trans (by decide)
  refine va_sld hx hb hX hbl hbA hS (p1_in (i := 4) (n := 6) (by decide)) dL_law_1121 ?_
  refine lv_aload_n hx hb dL_law_1122 rfl (lv_at hl 3 rfl) ?_
  refine lv_iload_n hx hb dL_law_1123 rfl (lv_at hl 0 rfl) ?_
  refine lv_iconst (v := 5) hx hb dL_law_1124 (by decide) ?_
  refine lv_iadd hx hb dL_law_1125 ?_
  refine lv_topi (fun v_11 ev_11 => ?_)
  obtain rfl : v_11 = 5 := ev_11.trans (by decide)
  refine va_sld hx hb hX hbl hbA hS (p1_in (i := 5) (n := 6) (by decide)) dL_law_1126 ?_
  have hPc := hP.sub (ws' := [(rmo, .inr (8, rms)), (rkn, .inl (rcK, 2, .inl rkf))]) [0, 1] rfl
  have hDc := hD.sub (ws' := [(rmo, .inr (8, rms)), (rkn, .inl (rcK, 2, .inl rkf))]) [0, 1] (by decide) rfl
  have hKc := hK.sub (tys' := [(rcK, .int)]) [1] rfl
  have hFc := va_free (wc := [(rmo, .inr (8, rms)), (rkn, .inl (rcK, 2, .inl rkf))]) hD hS hA [0, 1] rfl
  refine va_calli (va_runV (As := [.int (xs (1 : Int32).toNatClampNeg), .int (xs (2 : Int32).toNatClampNeg), .int (xs (3 : Int32).toNatClampNeg), .int (xs (4 : Int32).toNatClampNeg), .int (xs (5 : Int32).toNatClampNeg)]) (rest := [.int (-1)]) ⟨hx, hb, hml, hown, hts⟩ (m_film l dC dI H.size rmo rms rkn rcK rkf ((xs (1 : Int32).toNatClampNeg)) ((xs (2 : Int32).toNatClampNeg)) ((xs (3 : Int32).toNatClampNeg)) ((xs (4 : Int32).toNatClampNeg)) ((xs (5 : Int32).toNatClampNeg)) f_rms_11 f_rms_43 h_rkf_0) (cwV 5 hts (p1_gV m_4 m_5 m_6 m_7 g_m_film gz_m_film) rfl rfl rfl (by decide +kernel) ⟨by decide, by decide⟩) ⟨fun a U g mk q => by obtain ⟨q0, q1, qP, qK, qD⟩ := q; exact ⟨q0, q1, qP, va_K.moved (u := U) (U := U.calling g mk a) (Vm.Alike.refl U.vm) qK, qD⟩, va_recv hKc hPc (ci := 8) (q0 := 0) rfl rfl, fun U hU hW => ⟨rfl, by rw [hU], by rw [hU]; exact hPc, va_K.moved hW.alike hKc, hDc.weaken (fun _ _ _ _ => trivial)⟩⟩ rfl rfl hl.1 rfl (lv_room (Nat.le_of_ble_eq_true rfl)) dL_law_1127 ⟨by decide, by decide⟩) hS (fun q _ h => hFc q h) hFc (fun r_12 u t H1 locs ht hvm hw hB hz1 hk1 hS => ?_)
  obtain ⟨hP1, hK1, hD1⟩ := hB
  rw [ht] at hP1
  obtain ⟨hP, hD⟩ := va_join (wr := []) (w1 := []) hP hD [0, 1] [] rfl rfl (by decide) (by decide) hk1 hFc hP1 hD1
  generalize H1 = H at hP hS ⊢
  have hP : va_P (dC, dI) vwCl [] H := hP
  have hD : va_D A [] := hD
  try dsimp only at hw
  obtain rfl : r_12 = (-1) := hw
  refine lv_icmp_eq (tgt := 1382) hx hb dL_law_1130 (by decide) (fun _ => ?_) (fun c9 => absurd c9 (by decide))
  refine lv_iinc (v := 6) (lv' := [(3, .int 6), (2, .ref rmo), (1, .ref xx), (0, .ref b)]) hx hb dL_law_1382 hl (k := 0) rfl (by decide) (by decide) rfl (fun ls hl => ?_)
  refine lv_goto (tgt := 18) hx hb dL_law_1385 (by decide) ?_
  refine lv_iload_n hx hb dL_law_18 rfl (lv_at hl 0 rfl) ?_
  refine lv_aload_n hx hb dL_law_19 rfl (lv_at hl 3 rfl) ?_
  refine va_slen hx hb hX hbl hbA hS dL_law_20 ?_
  refine lv_topi (fun v_14 ev_14 => ?_)
  obtain rfl : v_14 = 6 := ev_14.trans rfl
  refine lv_bipush (v := 6) hx hb dL_law_21 (by decide) ?_
  refine lv_isub hx hb dL_law_23 ?_
  refine lv_topi (fun v_15 ev_15 => ?_)
  obtain rfl : v_15 = 0 := ev_15.trans (by decide)
  refine lv_icmp_gt (tgt := 1388) hx hb dL_law_24 (by decide) (fun _ => ?_) (fun c9 => absurd c9 (by decide))
  refine lv_iconst (v := 1) hx hb dL_law_1388 (by decide) ?_
  refine va_forget (fun q hq => by have h9 := hS.2.2 q hq; rw [hAe] at h9; exact h9) ?_
  refine W.widen (k := 600000) (n := 7302249) (by decide) (by decide) ?_
  exact lw_ret hx hb hr hlocks dL_law_1389
set_option maxHeartbeats 4000000 in
set_option maxRecDepth 100000 in
theorem law_untell {p : Program} {e : Env} {s : State} {m : MethodId} {below : List Frame} {meth : Method} {c : Code} (l : Launch) {b : Nat} {xs : Nat → Int32} (C0 : lw_At p s m meth c b 6 xs) {A : Nat → Prop} (hAe : A = fun q : Nat => s.heap.size ≤ q) (hE : p1_ex A s s.heap) (dC : Nat → ClassId) (dI : Nat → Nat → Nat) (xx : Nat) (xxs : List Value) (xfl : Nat) (xff : List Value) (rmo : Nat) (rms : List Value) (f_xxs_4 : xxs[4]? = some (.ref xfl)) (f_xff_7 : xff[7]? = some (.int 0)) (f_rms_75 : rms[75]? = some (.int 0)) (H : Heap) (locs : List Loc) (ls : Array Slot) (hK : va_K (dC, dI) vwCl [] s) (hP : va_P (dC, dI) vwCl [(xx, .inr (7, xxs)), (xfl, .inr (2, xff)), (rmo, .inr (8, rms))] H) (hD : va_D A [(xx, .inr (7, xxs)), (xfl, .inr (2, xff)), (rmo, .inr (8, rms))]) (hS : va_S A s.heap H locs) (hl : lv_has ls 4 [(3, .int 0), (2, .ref rmo), (1, .ref xx), (0, .ref b)]) : W p l e room_1 s m #[Value.ref b] below meth c H locs 152 11751 (lw_Z below #[Value.ref b] s) (F0 m 1135 ls []) := by
  obtain ⟨hx, hb, hr, hml, hown, hts, hX, hbl, hlocks, hgv⟩ := id C0
  have hown : s.vm.findClass RL = some m.cls := hown
  have hA : ∀ q : Nat, s.heap.size ≤ q → A q := by rw [hAe]; exact fun _ h => h
  have hbA : ¬ A b := by rw [hAe]; exact Nat.not_le.mpr hbl
  have m_0 : (.methodLink RL 111 yX8_untell : Cond) ∈ lw_tbl := p1_w 968 (by decide +kernel)
  have k_0 := hts _ m_0
  have m_1 : (.instanceMethod yX8_untell : Cond) ∈ lw_tbl := p1_w 969 (by decide +kernel)
  have k_1 := hts _ m_1
  have m_2 : (.selects RX8 yX8_untell yX8_untell : Cond) ∈ lw_tbl := p1_w 970 (by decide +kernel)
  have k_2 := hts _ m_2
  have m_3 : (.initialized RX8 : Cond) ∈ lw_tbl := p1_w 104 (by decide +kernel)
  have k_3 := hts _ m_3
  have m_4 : (.methodLink RL 115 yX9_untell : Cond) ∈ lw_tbl := p1_w 1636 (by decide +kernel)
  have k_4 := hts _ m_4
  have m_5 : (.instanceMethod yX9_untell : Cond) ∈ lw_tbl := p1_w 1637 (by decide +kernel)
  have k_5 := hts _ m_5
  have m_6 : (.selects RX9 yX9_untell yX9_untell : Cond) ∈ lw_tbl := p1_w 1638 (by decide +kernel)
  have k_6 := hts _ m_6
  have m_7 : (.initialized RX9 : Cond) ∈ lw_tbl := p1_w 116 (by decide +kernel)
  have k_7 := hts _ m_7
  have g_x_untell := iz_x_untell
  have g_m_untell := iz_m_untell
  refine lv_aload_n hx hb dL_law_1135 rfl (lv_at hl 2 rfl) ?_
  refine lv_aload_n hx hb dL_law_1136 rfl (lv_at hl 3 rfl) ?_
  refine lv_iload_n hx hb dL_law_1137 rfl (lv_at hl 0 rfl) ?_
  refine lv_iconst (v := 1) hx hb dL_law_1138 (by decide) ?_
  refine lv_iadd hx hb dL_law_1139 ?_
  refine lv_topi (fun v_1 ev_1 => ?_)
  obtain rfl : v_1 = 1 := ev_1.trans (by decide)
  refine va_sld hx hb hX hbl hbA hS (p1_in (i := 1) (n := 6) (by decide)) dL_law_1140 ?_
  have hPc := hP.sub (ws' := [(xx, .inr (7, xxs)), (xfl, .inr (2, xff))]) [0, 1] rfl
  have hDc := hD.sub (ws' := [(xx, .inr (7, xxs)), (xfl, .inr (2, xff))]) [0, 1] (by decide) rfl
  have hKc := hK.sub (tys' := []) [] rfl
  have hFc := va_free (wc := [(xx, .inr (7, xxs)), (xfl, .inr (2, xff))]) hD hS hA [0, 1] rfl
  refine va_calli (va_runV (As := [.int (xs (1 : Int32).toNatClampNeg)]) (rest := []) ⟨hx, hb, hml, hown, hts⟩ (x_untell l dC dI H.size xx xxs xfl xff ((xs (1 : Int32).toNatClampNeg)) f_xxs_4 f_xff_7) (cwV 1 hts (p1_gV m_0 m_1 m_2 m_3 g_x_untell gz_x_untell) rfl rfl rfl (by decide +kernel) ⟨by decide, by decide⟩) ⟨fun a U g mk q => by obtain ⟨q0, q1, qP, qK, qD⟩ := q; exact ⟨q0, q1, qP, va_K.moved (u := U) (U := U.calling g mk a) (Vm.Alike.refl U.vm) qK, qD⟩, va_recv hKc hPc (ci := 7) (q0 := 0) rfl rfl, fun U hU hW => ⟨rfl, by rw [hU], by rw [hU]; exact hPc, va_K.moved hW.alike hKc, hDc.weaken (fun _ _ _ _ => trivial)⟩⟩ rfl rfl hl.1 rfl (lv_room (Nat.le_of_ble_eq_true rfl)) dL_law_1141 ⟨by decide, by decide⟩) hS (fun q _ h => hFc q h) hFc (fun r_2 u t H1 locs ht hvm hw hB hz1 hk1 hS => ?_)
  obtain ⟨hP1, hK1, hD1⟩ := hB
  rw [ht] at hP1
  obtain ⟨hP, hD⟩ := va_join (wr := [(rmo, .inr (8, rms))]) (w1 := []) hP hD [0, 1] [2] rfl rfl (by decide) (by decide) hk1 hFc hP1 hD1
  generalize H1 = H at hP hS ⊢
  have hP : va_P (dC, dI) vwCl [(rmo, .inr (8, rms))] H := hP
  have hD : va_D A [(rmo, .inr (8, rms))] := hD
  try dsimp only at hw
  obtain rfl : r_2 = 0 := hw
  refine lv_aload_n hx hb dL_law_1144 rfl (lv_at hl 1 rfl) ?_
  refine lv_aload_n hx hb dL_law_1145 rfl (lv_at hl 3 rfl) ?_
  refine lv_iload_n hx hb dL_law_1146 rfl (lv_at hl 0 rfl) ?_
  refine lv_iconst (v := 1) hx hb dL_law_1147 (by decide) ?_
  refine lv_iadd hx hb dL_law_1148 ?_
  refine lv_topi (fun v_3 ev_3 => ?_)
  obtain rfl : v_3 = 1 := ev_3.trans (by decide)
  refine va_sld hx hb hX hbl hbA hS (p1_in (i := 1) (n := 6) (by decide)) dL_law_1149 ?_
  have hPc := hP.sub (ws' := [(rmo, .inr (8, rms))]) [0] rfl
  have hDc := hD.sub (ws' := [(rmo, .inr (8, rms))]) [0] (by decide) rfl
  have hKc := hK.sub (tys' := []) [] rfl
  have hFc := va_free (wc := [(rmo, .inr (8, rms))]) hD hS hA [0] rfl
  refine va_calli (va_runV (As := [.int (xs (1 : Int32).toNatClampNeg)]) (rest := [.int 0]) ⟨hx, hb, hml, hown, hts⟩ (m_untell l dC dI H.size rmo rms ((xs (1 : Int32).toNatClampNeg)) f_rms_75) (cwV 1 hts (p1_gV m_4 m_5 m_6 m_7 g_m_untell gz_m_untell) rfl rfl rfl (by decide +kernel) ⟨by decide, by decide⟩) ⟨fun a U g mk q => by obtain ⟨q0, q1, qP, qK, qD⟩ := q; exact ⟨q0, q1, qP, va_K.moved (u := U) (U := U.calling g mk a) (Vm.Alike.refl U.vm) qK, qD⟩, va_recv hKc hPc (ci := 8) (q0 := 0) rfl rfl, fun U hU hW => ⟨rfl, by rw [hU], by rw [hU]; exact hPc, va_K.moved hW.alike hKc, hDc.weaken (fun _ _ _ _ => trivial)⟩⟩ rfl rfl hl.1 rfl (lv_room (Nat.le_of_ble_eq_true rfl)) dL_law_1150 ⟨by decide, by decide⟩) hS (fun q _ h => hFc q h) hFc (fun r_4 u t H1 locs ht hvm hw hB hz1 hk1 hS => ?_)
  obtain ⟨hP1, hK1, hD1⟩ := hB
  rw [ht] at hP1
  obtain ⟨hP, hD⟩ := va_join (wr := []) (w1 := []) hP hD [0] [] rfl rfl (by decide) (by decide) hk1 hFc hP1 hD1
  generalize H1 = H at hP hS ⊢
  have hP : va_P (dC, dI) vwCl [] H := hP
  have hD : va_D A [] := hD
  try dsimp only at hw
  obtain rfl : r_4 = 0 := hw
  refine lv_icmp_eq (tgt := 1382) hx hb dL_law_1153 (by decide) (fun _ => ?_) (fun c9 => absurd c9 (by decide))
  refine lv_iinc (v := 6) (lv' := [(3, .int 6), (2, .ref rmo), (1, .ref xx), (0, .ref b)]) hx hb dL_law_1382 hl (k := 0) rfl (by decide) (by decide) rfl (fun ls hl => ?_)
  refine lv_goto (tgt := 18) hx hb dL_law_1385 (by decide) ?_
  refine lv_iload_n hx hb dL_law_18 rfl (lv_at hl 0 rfl) ?_
  refine lv_aload_n hx hb dL_law_19 rfl (lv_at hl 3 rfl) ?_
  refine va_slen hx hb hX hbl hbA hS dL_law_20 ?_
  refine lv_topi (fun v_6 ev_6 => ?_)
  obtain rfl : v_6 = 6 := ev_6.trans rfl
  refine lv_bipush (v := 6) hx hb dL_law_21 (by decide) ?_
  refine lv_isub hx hb dL_law_23 ?_
  refine lv_topi (fun v_7 ev_7 => ?_)
  obtain rfl : v_7 = 0 := ev_7.trans (by decide)
  refine lv_icmp_gt (tgt := 1388) hx hb dL_law_24 (by decide) (fun _ => ?_) (fun c9 => absurd c9 (by decide))
  refine lv_iconst (v := 1) hx hb dL_law_1388 (by decide) ?_
  refine va_forget (fun q hq => by have h9 := hS.2.2 q hq; rw [hAe] at h9; exact h9) ?_
  refine W.widen (k := 600000) (n := 7302249) (by decide) (by decide) ?_
  exact lw_ret hx hb hr hlocks dL_law_1389
set_option maxHeartbeats 4000000 in
set_option maxRecDepth 100000 in
theorem law_later {p : Program} {e : Env} {s : State} {m : MethodId} {below : List Frame} {meth : Method} {c : Code} (l : Launch) {b : Nat} {xs : Nat → Int32} (C0 : lw_At p s m meth c b 6 xs) {A : Nat → Prop} (hAe : A = fun q : Nat => s.heap.size ≤ q) (hE : p1_ex A s s.heap) (dC : Nat → ClassId) (dI : Nat → Nat → Nat) (xx : Nat) (xxs : List Value) (rmo : Nat) (rms : List Value) (f_xxs_13 : xxs[13]? = some (.int 0)) (l_xxs : xxs.length = 14) (f_rms_76 : rms[76]? = some (.int 0)) (l_rms : rms.length = 81) (H : Heap) (locs : List Loc) (ls : Array Slot) (hK : va_K (dC, dI) vwCl [] s) (hP : va_P (dC, dI) vwCl [(xx, .inr (7, xxs)), (rmo, .inr (8, rms))] H) (hD : va_D A [(xx, .inr (7, xxs)), (rmo, .inr (8, rms))]) (hS : va_S A s.heap H locs) (hl : lv_has ls 4 [(3, .int 0), (2, .ref rmo), (1, .ref xx), (0, .ref b)]) : W p l e room_1 s m #[Value.ref b] below meth c H locs 152 11751 (lw_Z below #[Value.ref b] s) (F0 m 1158 ls []) := by
  obtain ⟨hx, hb, hr, hml, hown, hts, hX, hbl, hlocks, hgv⟩ := id C0
  have hown : s.vm.findClass RL = some m.cls := hown
  have hA : ∀ q : Nat, s.heap.size ≤ q → A q := by rw [hAe]; exact fun _ h => h
  have hbA : ¬ A b := by rw [hAe]; exact Nat.not_le.mpr hbl
  have m_0 : (.methodLink RL 116 yX8_later : Cond) ∈ lw_tbl := p1_w 972 (by decide +kernel)
  have k_0 := hts _ m_0
  have m_1 : (.instanceMethod yX8_later : Cond) ∈ lw_tbl := p1_w 973 (by decide +kernel)
  have k_1 := hts _ m_1
  have m_2 : (.selects RX8 yX8_later yX8_later : Cond) ∈ lw_tbl := p1_w 974 (by decide +kernel)
  have k_2 := hts _ m_2
  have m_3 : (.initialized RX8 : Cond) ∈ lw_tbl := p1_w 104 (by decide +kernel)
  have k_3 := hts _ m_3
  have m_4 : (.methodLink RL 119 yX9_later : Cond) ∈ lw_tbl := p1_w 1640 (by decide +kernel)
  have k_4 := hts _ m_4
  have m_5 : (.instanceMethod yX9_later : Cond) ∈ lw_tbl := p1_w 1641 (by decide +kernel)
  have k_5 := hts _ m_5
  have m_6 : (.selects RX9 yX9_later yX9_later : Cond) ∈ lw_tbl := p1_w 1642 (by decide +kernel)
  have k_6 := hts _ m_6
  have m_7 : (.initialized RX9 : Cond) ∈ lw_tbl := p1_w 116 (by decide +kernel)
  have k_7 := hts _ m_7
  have g_x_later := iz_x_later
  have g_m_later := iz_m_later
  refine lv_aload_n hx hb dL_law_1158 rfl (lv_at hl 2 rfl) ?_
  refine lv_aload_n hx hb dL_law_1159 rfl (lv_at hl 3 rfl) ?_
  refine lv_iload_n hx hb dL_law_1160 rfl (lv_at hl 0 rfl) ?_
  refine lv_iconst (v := 1) hx hb dL_law_1161 (by decide) ?_
  refine lv_iadd hx hb dL_law_1162 ?_
  refine lv_topi (fun v_1 ev_1 => ?_)
  obtain rfl : v_1 = 1 := ev_1.trans (by decide)
  refine va_sld hx hb hX hbl hbA hS (p1_in (i := 1) (n := 6) (by decide)) dL_law_1163 ?_
  have hPc := hP.sub (ws' := [(xx, .inr (7, xxs))]) [0] rfl
  have hDc := hD.sub (ws' := [(xx, .inr (7, xxs))]) [0] (by decide) rfl
  have hKc := hK.sub (tys' := []) [] rfl
  have hFc := va_free (wc := [(xx, .inr (7, xxs))]) hD hS hA [0] rfl
  refine va_calli (va_runV (As := [.int (xs (1 : Int32).toNatClampNeg)]) (rest := []) ⟨hx, hb, hml, hown, hts⟩ (x_later l dC dI H.size xx xxs ((xs (1 : Int32).toNatClampNeg)) f_xxs_13 l_xxs) (cwV 1 hts (p1_gV m_0 m_1 m_2 m_3 g_x_later gz_x_later) rfl rfl rfl (by decide +kernel) ⟨by decide, by decide⟩) ⟨fun a U g mk q => by obtain ⟨q0, q1, qP, qK, qD⟩ := q; exact ⟨q0, q1, qP, va_K.moved (u := U) (U := U.calling g mk a) (Vm.Alike.refl U.vm) qK, qD⟩, va_recv hKc hPc (ci := 7) (q0 := 0) rfl rfl, fun U hU hW => ⟨rfl, by rw [hU], by rw [hU]; exact hPc, va_K.moved hW.alike hKc, hDc.weaken (fun _ _ _ _ => trivial)⟩⟩ rfl rfl hl.1 rfl (lv_room (Nat.le_of_ble_eq_true rfl)) dL_law_1164 ⟨by decide, by decide⟩) hS (fun q _ h => hFc q h) hFc (fun r_2 u t H1 locs ht hvm hw hB hz1 hk1 hS => ?_)
  obtain ⟨hP1, hK1, hD1⟩ := hB
  rw [ht] at hP1
  obtain ⟨hP, hD⟩ := va_join (wr := [(rmo, .inr (8, rms))]) (w1 := []) hP hD [0] [1] rfl rfl (by decide) (by decide) hk1 hFc hP1 hD1
  generalize H1 = H at hP hS ⊢
  have hP : va_P (dC, dI) vwCl [(rmo, .inr (8, rms))] H := hP
  have hD : va_D A [(rmo, .inr (8, rms))] := hD
  try dsimp only at hw
  have hw_3 := hw
  refine lv_aload_n hx hb dL_law_1167 rfl (lv_at hl 1 rfl) ?_
  refine lv_aload_n hx hb dL_law_1168 rfl (lv_at hl 3 rfl) ?_
  refine lv_iload_n hx hb dL_law_1169 rfl (lv_at hl 0 rfl) ?_
  refine lv_iconst (v := 1) hx hb dL_law_1170 (by decide) ?_
  refine lv_iadd hx hb dL_law_1171 ?_
  refine lv_topi (fun v_4 ev_4 => ?_)
  obtain rfl : v_4 = 1 := ev_4.trans (by decide)
  refine va_sld hx hb hX hbl hbA hS (p1_in (i := 1) (n := 6) (by decide)) dL_law_1172 ?_
  have hPc := hP.sub (ws' := [(rmo, .inr (8, rms))]) [0] rfl
  have hDc := hD.sub (ws' := [(rmo, .inr (8, rms))]) [0] (by decide) rfl
  have hKc := hK.sub (tys' := []) [] rfl
  have hFc := va_free (wc := [(rmo, .inr (8, rms))]) hD hS hA [0] rfl
  refine va_calli (va_runV (As := [.int (xs (1 : Int32).toNatClampNeg)]) (rest := [.int r_2]) ⟨hx, hb, hml, hown, hts⟩ (m_later l dC dI H.size rmo rms ((xs (1 : Int32).toNatClampNeg)) f_rms_76 l_rms) (cwV 1 hts (p1_gV m_4 m_5 m_6 m_7 g_m_later gz_m_later) rfl rfl rfl (by decide +kernel) ⟨by decide, by decide⟩) ⟨fun a U g mk q => by obtain ⟨q0, q1, qP, qK, qD⟩ := q; exact ⟨q0, q1, qP, va_K.moved (u := U) (U := U.calling g mk a) (Vm.Alike.refl U.vm) qK, qD⟩, va_recv hKc hPc (ci := 8) (q0 := 0) rfl rfl, fun U hU hW => ⟨rfl, by rw [hU], by rw [hU]; exact hPc, va_K.moved hW.alike hKc, hDc.weaken (fun _ _ _ _ => trivial)⟩⟩ rfl rfl hl.1 rfl (lv_room (Nat.le_of_ble_eq_true rfl)) dL_law_1173 ⟨by decide, by decide⟩) hS (fun q _ h => hFc q h) hFc (fun r_5 u t H1 locs ht hvm hw hB hz1 hk1 hS => ?_)
  obtain ⟨hP1, hK1, hD1⟩ := hB
  rw [ht] at hP1
  obtain ⟨hP, hD⟩ := va_join (wr := []) (w1 := []) hP hD [0] [] rfl rfl (by decide) (by decide) hk1 hFc hP1 hD1
  generalize H1 = H at hP hS ⊢
  have hP : va_P (dC, dI) vwCl [] H := hP
  have hD : va_D A [] := hD
  try dsimp only at hw
  have hw_6 := hw
  refine lv_icmp_eq (tgt := 1382) hx hb dL_law_1176 (by decide) (fun c1176_7 => ?_) (fun c1176_7 => absurd c1176_7 (fun z9 => z9 (hw_3.trans hw_6.symm)))
  refine lv_iinc (v := 6) (lv' := [(3, .int 6), (2, .ref rmo), (1, .ref xx), (0, .ref b)]) hx hb dL_law_1382 hl (k := 0) rfl (by decide) (by decide) rfl (fun ls hl => ?_)
  refine lv_goto (tgt := 18) hx hb dL_law_1385 (by decide) ?_
  refine lv_iload_n hx hb dL_law_18 rfl (lv_at hl 0 rfl) ?_
  refine lv_aload_n hx hb dL_law_19 rfl (lv_at hl 3 rfl) ?_
  refine va_slen hx hb hX hbl hbA hS dL_law_20 ?_
  refine lv_topi (fun v_8 ev_8 => ?_)
  obtain rfl : v_8 = 6 := ev_8.trans rfl
  refine lv_bipush (v := 6) hx hb dL_law_21 (by decide) ?_
  refine lv_isub hx hb dL_law_23 ?_
  refine lv_topi (fun v_9 ev_9 => ?_)
  obtain rfl : v_9 = 0 := ev_9.trans (by decide)
  refine lv_icmp_gt (tgt := 1388) hx hb dL_law_24 (by decide) (fun _ => ?_) (fun c9 => absurd c9 (by decide))
  refine lv_iconst (v := 1) hx hb dL_law_1388 (by decide) ?_
  refine va_forget (fun q hq => by have h9 := hS.2.2 q hq; rw [hAe] at h9; exact h9) ?_
  refine W.widen (k := 600000) (n := 7302249) (by decide) (by decide) ?_
  exact lw_ret hx hb hr hlocks dL_law_1389
set_option maxHeartbeats 4000000 in
set_option maxRecDepth 100000 in
theorem law_fits {p : Program} {e : Env} {s : State} {m : MethodId} {below : List Frame} {meth : Method} {c : Code} (l : Launch) {b : Nat} {xs : Nat → Int32} (C0 : lw_At p s m meth c b 6 xs) {A : Nat → Prop} (hAe : A = fun q : Nat => s.heap.size ≤ q) (hE : p1_ex A s s.heap) (dC : Nat → ClassId) (dI : Nat → Nat → Nat) (xx : Nat) (xxs : List Value) (xsh : Nat) (xfl : Nat) (xss : List Value) (xsc : Nat) (xcS : ClassId) (xff : List Value) (rmo : Nat) (rms : List Value) (rla : Nat) (rco : Nat) (rcL : ClassId) (rlf : Nat → Int32) (rcC : ClassId) (rcf : Nat → Int32) (f_xxs_9 : xxs[9]? = some (.ref xsh)) (f_xxs_4 : xxs[4]? = some (.ref xfl)) (f_xss_0 : xss[0]? = some (.ref xsc)) (f_xff_7 : xff[7]? = some (.int 0)) (f_rms_14 : rms[14]? = some (.ref rla)) (f_rms_12 : rms[12]? = some (.ref rco)) (f_rms_43 : rms[43]? = some (.int 0)) (h_rlf_0 : rlf 0 = 0) (h_rcf_0 : rcf 0 = 0) (H : Heap) (locs : List Loc) (ls : Array Slot) (hK : va_K (dC, dI) vwCl [(xcS, .int), (rcL, .int), (rcC, .int)] s) (hP : va_P (dC, dI) vwCl [(xx, .inr (7, xxs)), (xsh, .inr (5, xss)), (xsc, .inl (xcS, 5, .inl (fun _ => 0))), (xfl, .inr (2, xff)), (rmo, .inr (8, rms)), (rla, .inl (rcL, 2, .inl rlf)), (rco, .inl (rcC, 2, .inl rcf))] H) (hD : va_D A [(xx, .inr (7, xxs)), (xsh, .inr (5, xss)), (xsc, .inl (xcS, 5, .inl (fun _ => 0))), (xfl, .inr (2, xff)), (rmo, .inr (8, rms)), (rla, .inl (rcL, 2, .inl rlf)), (rco, .inl (rcC, 2, .inl rcf))]) (hS : va_S A s.heap H locs) (hl : lv_has ls 4 [(3, .int 0), (2, .ref rmo), (1, .ref xx), (0, .ref b)]) : W p l e room_1 s m #[Value.ref b] below meth c H locs 152 11751 (lw_Z below #[Value.ref b] s) (F0 m 1181 ls []) := by
  obtain ⟨hx, hb, hr, hml, hown, hts, hX, hbl, hlocks, hgv⟩ := id C0
  have hown : s.vm.findClass RL = some m.cls := hown
  have hA : ∀ q : Nat, s.heap.size ≤ q → A q := by rw [hAe]; exact fun _ h => h
  have hbA : ¬ A b := by rw [hAe]; exact Nat.not_le.mpr hbl
  have m_0 : (.methodLink RL 120 yX8_fits : Cond) ∈ lw_tbl := p1_w 976 (by decide +kernel)
  have k_0 := hts _ m_0
  have m_1 : (.instanceMethod yX8_fits : Cond) ∈ lw_tbl := p1_w 977 (by decide +kernel)
  have k_1 := hts _ m_1
  have m_2 : (.selects RX8 yX8_fits yX8_fits : Cond) ∈ lw_tbl := p1_w 978 (by decide +kernel)
  have k_2 := hts _ m_2
  have m_3 : (.initialized RX8 : Cond) ∈ lw_tbl := p1_w 104 (by decide +kernel)
  have k_3 := hts _ m_3
  have m_4 : (.methodLink RL 123 yX9_fits : Cond) ∈ lw_tbl := p1_w 1644 (by decide +kernel)
  have k_4 := hts _ m_4
  have m_5 : (.instanceMethod yX9_fits : Cond) ∈ lw_tbl := p1_w 1645 (by decide +kernel)
  have k_5 := hts _ m_5
  have m_6 : (.selects RX9 yX9_fits yX9_fits : Cond) ∈ lw_tbl := p1_w 1646 (by decide +kernel)
  have k_6 := hts _ m_6
  have m_7 : (.initialized RX9 : Cond) ∈ lw_tbl := p1_w 116 (by decide +kernel)
  have k_7 := hts _ m_7
  have g_x_fits := iz_x_fits
  have g_m_fits := iz_m_fits
  refine lv_aload_n hx hb dL_law_1181 rfl (lv_at hl 2 rfl) ?_
  refine lv_aload_n hx hb dL_law_1182 rfl (lv_at hl 3 rfl) ?_
  refine lv_iload_n hx hb dL_law_1183 rfl (lv_at hl 0 rfl) ?_
  refine lv_iconst (v := 1) hx hb dL_law_1184 (by decide) ?_
  refine lv_iadd hx hb dL_law_1185 ?_
  refine lv_topi (fun v_1 ev_1 => ?_)
  obtain rfl : v_1 = 1 := ev_1.trans (by decide)
  refine va_sld hx hb hX hbl hbA hS (p1_in (i := 1) (n := 6) (by decide)) dL_law_1186 ?_
  have hPc := hP.sub (ws' := [(xx, .inr (7, xxs)), (xsh, .inr (5, xss)), (xsc, .inl (xcS, 5, .inl (fun _ => 0))), (xfl, .inr (2, xff))]) [0, 1, 2, 3] rfl
  have hDc := hD.sub (ws' := [(xx, .inr (7, xxs)), (xsh, .inr (5, xss)), (xsc, .inl (xcS, 5, .inl (fun _ => 0))), (xfl, .inr (2, xff))]) [0, 1, 2, 3] (by decide) rfl
  have hKc := hK.sub (tys' := [(xcS, .int)]) [0] rfl
  have hFc := va_free (wc := [(xx, .inr (7, xxs)), (xsh, .inr (5, xss)), (xsc, .inl (xcS, 5, .inl (fun _ => 0))), (xfl, .inr (2, xff))]) hD hS hA [0, 1, 2, 3] rfl
  refine va_calli (va_runV (As := [.int (xs (1 : Int32).toNatClampNeg)]) (rest := []) ⟨hx, hb, hml, hown, hts⟩ (x_fits l dC dI H.size xx xxs xsh xfl xss xsc xcS xff ((xs (1 : Int32).toNatClampNeg)) f_xxs_9 f_xxs_4 f_xss_0 f_xff_7) (cwV 1 hts (p1_gV m_0 m_1 m_2 m_3 g_x_fits gz_x_fits) rfl rfl rfl (by decide +kernel) ⟨by decide, by decide⟩) ⟨fun a U g mk q => by obtain ⟨q0, q1, qP, qK, qD⟩ := q; exact ⟨q0, q1, qP, va_K.moved (u := U) (U := U.calling g mk a) (Vm.Alike.refl U.vm) qK, qD⟩, va_recv hKc hPc (ci := 7) (q0 := 0) rfl rfl, fun U hU hW => ⟨rfl, by rw [hU], by rw [hU]; exact hPc, va_K.moved hW.alike hKc, hDc.weaken (fun _ _ _ _ => trivial)⟩⟩ rfl rfl hl.1 rfl (lv_room (Nat.le_of_ble_eq_true rfl)) dL_law_1187 ⟨by decide, by decide⟩) hS (fun q _ h => hFc q h) hFc (fun r_2 u t H1 locs ht hvm hw hB hz1 hk1 hS => ?_)
  obtain ⟨hP1, hK1, hD1⟩ := hB
  rw [ht] at hP1
  obtain ⟨hP, hD⟩ := va_join (wr := [(rmo, .inr (8, rms)), (rla, .inl (rcL, 2, .inl rlf)), (rco, .inl (rcC, 2, .inl rcf))]) (w1 := []) hP hD [0, 1, 2, 3] [4, 5, 6] rfl rfl (by decide) (by decide) hk1 hFc hP1 hD1
  generalize H1 = H at hP hS ⊢
  have hP : va_P (dC, dI) vwCl [(rmo, .inr (8, rms)), (rla, .inl (rcL, 2, .inl rlf)), (rco, .inl (rcC, 2, .inl rcf))] H := hP
  have hD : va_D A [(rmo, .inr (8, rms)), (rla, .inl (rcL, 2, .inl rlf)), (rco, .inl (rcC, 2, .inl rcf))] := hD
  try dsimp only at hw
  obtain rfl : r_2 = 0 := hw
  refine lv_aload_n hx hb dL_law_1190 rfl (lv_at hl 1 rfl) ?_
  refine lv_aload_n hx hb dL_law_1191 rfl (lv_at hl 3 rfl) ?_
  refine lv_iload_n hx hb dL_law_1192 rfl (lv_at hl 0 rfl) ?_
  refine lv_iconst (v := 1) hx hb dL_law_1193 (by decide) ?_
  refine lv_iadd hx hb dL_law_1194 ?_
  refine lv_topi (fun v_3 ev_3 => ?_)
  obtain rfl : v_3 = 1 := ev_3.trans (by decide)
  refine va_sld hx hb hX hbl hbA hS (p1_in (i := 1) (n := 6) (by decide)) dL_law_1195 ?_
  have hPc := hP.sub (ws' := [(rmo, .inr (8, rms)), (rla, .inl (rcL, 2, .inl rlf)), (rco, .inl (rcC, 2, .inl rcf))]) [0, 1, 2] rfl
  have hDc := hD.sub (ws' := [(rmo, .inr (8, rms)), (rla, .inl (rcL, 2, .inl rlf)), (rco, .inl (rcC, 2, .inl rcf))]) [0, 1, 2] (by decide) rfl
  have hKc := hK.sub (tys' := [(rcL, .int), (rcC, .int)]) [1, 2] rfl
  have hFc := va_free (wc := [(rmo, .inr (8, rms)), (rla, .inl (rcL, 2, .inl rlf)), (rco, .inl (rcC, 2, .inl rcf))]) hD hS hA [0, 1, 2] rfl
  refine va_calli (va_runV (As := [.int (xs (1 : Int32).toNatClampNeg)]) (rest := [.int 0]) ⟨hx, hb, hml, hown, hts⟩ (m_fits l dC dI H.size rmo rms rla rco rcL rlf rcC rcf ((xs (1 : Int32).toNatClampNeg)) f_rms_14 f_rms_12 f_rms_43 h_rlf_0 h_rcf_0) (cwV 1 hts (p1_gV m_4 m_5 m_6 m_7 g_m_fits gz_m_fits) rfl rfl rfl (by decide +kernel) ⟨by decide, by decide⟩) ⟨fun a U g mk q => by obtain ⟨q0, q1, qP, qK, qD⟩ := q; exact ⟨q0, q1, qP, va_K.moved (u := U) (U := U.calling g mk a) (Vm.Alike.refl U.vm) qK, qD⟩, va_recv hKc hPc (ci := 8) (q0 := 0) rfl rfl, fun U hU hW => ⟨rfl, by rw [hU], by rw [hU]; exact hPc, va_K.moved hW.alike hKc, hDc.weaken (fun _ _ _ _ => trivial)⟩⟩ rfl rfl hl.1 rfl (lv_room (Nat.le_of_ble_eq_true rfl)) dL_law_1196 ⟨by decide, by decide⟩) hS (fun q _ h => hFc q h) hFc (fun r_4 u t H1 locs ht hvm hw hB hz1 hk1 hS => ?_)
  obtain ⟨hP1, hK1, hD1⟩ := hB
  rw [ht] at hP1
  obtain ⟨hP, hD⟩ := va_join (wr := []) (w1 := []) hP hD [0, 1, 2] [] rfl rfl (by decide) (by decide) hk1 hFc hP1 hD1
  generalize H1 = H at hP hS ⊢
  have hP : va_P (dC, dI) vwCl [] H := hP
  have hD : va_D A [] := hD
  try dsimp only at hw
  obtain rfl : r_4 = 0 := hw
  refine lv_icmp_eq (tgt := 1382) hx hb dL_law_1199 (by decide) (fun _ => ?_) (fun c9 => absurd c9 (by decide))
  refine lv_iinc (v := 6) (lv' := [(3, .int 6), (2, .ref rmo), (1, .ref xx), (0, .ref b)]) hx hb dL_law_1382 hl (k := 0) rfl (by decide) (by decide) rfl (fun ls hl => ?_)
  refine lv_goto (tgt := 18) hx hb dL_law_1385 (by decide) ?_
  refine lv_iload_n hx hb dL_law_18 rfl (lv_at hl 0 rfl) ?_
  refine lv_aload_n hx hb dL_law_19 rfl (lv_at hl 3 rfl) ?_
  refine va_slen hx hb hX hbl hbA hS dL_law_20 ?_
  refine lv_topi (fun v_6 ev_6 => ?_)
  obtain rfl : v_6 = 6 := ev_6.trans rfl
  refine lv_bipush (v := 6) hx hb dL_law_21 (by decide) ?_
  refine lv_isub hx hb dL_law_23 ?_
  refine lv_topi (fun v_7 ev_7 => ?_)
  obtain rfl : v_7 = 0 := ev_7.trans (by decide)
  refine lv_icmp_gt (tgt := 1388) hx hb dL_law_24 (by decide) (fun _ => ?_) (fun c9 => absurd c9 (by decide))
  refine lv_iconst (v := 1) hx hb dL_law_1388 (by decide) ?_
  refine va_forget (fun q hq => by have h9 := hS.2.2 q hq; rw [hAe] at h9; exact h9) ?_
  refine W.widen (k := 600000) (n := 7302249) (by decide) (by decide) ?_
  exact lw_ret hx hb hr hlocks dL_law_1389
set_option maxHeartbeats 4000000 in
set_option maxRecDepth 100000 in
theorem law_parts {p : Program} {e : Env} {s : State} {m : MethodId} {below : List Frame} {meth : Method} {c : Code} (l : Launch) {b : Nat} {xs : Nat → Int32} (C0 : lw_At p s m meth c b 6 xs) {A : Nat → Prop} (hAe : A = fun q : Nat => s.heap.size ≤ q) (hE : p1_ex A s s.heap) (dC : Nat → ClassId) (dI : Nat → Nat → Nat) (xx : Nat) (xxs : List Value) (xsh : Nat) (xss : List Value) (xsc : Nat) (xcS : ClassId) (rmo : Nat) (rms : List Value) (rkn : Nat) (rcK : ClassId) (rkf : Nat → Int32) (f_xxs_9 : xxs[9]? = some (.ref xsh)) (f_xss_0 : xss[0]? = some (.ref xsc)) (f_rms_11 : rms[11]? = some (.ref rkn)) (f_rms_43 : rms[43]? = some (.int 0)) (h_rkf_0 : rkf 0 = 0) (H : Heap) (locs : List Loc) (ls : Array Slot) (hK : va_K (dC, dI) vwCl [(xcS, .int), (rcK, .int)] s) (hP : va_P (dC, dI) vwCl [(xx, .inr (7, xxs)), (xsh, .inr (5, xss)), (xsc, .inl (xcS, 5, .inl (fun _ => 0))), (rmo, .inr (8, rms)), (rkn, .inl (rcK, 2, .inl rkf))] H) (hD : va_D A [(xx, .inr (7, xxs)), (xsh, .inr (5, xss)), (xsc, .inl (xcS, 5, .inl (fun _ => 0))), (rmo, .inr (8, rms)), (rkn, .inl (rcK, 2, .inl rkf))]) (hS : va_S A s.heap H locs) (hl : lv_has ls 4 [(3, .int 0), (2, .ref rmo), (1, .ref xx), (0, .ref b)]) : W p l e room_1 s m #[Value.ref b] below meth c H locs 152 11751 (lw_Z below #[Value.ref b] s) (F0 m 1204 ls []) := by
  obtain ⟨hx, hb, hr, hml, hown, hts, hX, hbl, hlocks, hgv⟩ := id C0
  have hown : s.vm.findClass RL = some m.cls := hown
  have hA : ∀ q : Nat, s.heap.size ≤ q → A q := by rw [hAe]; exact fun _ h => h
  have hbA : ¬ A b := by rw [hAe]; exact Nat.not_le.mpr hbl
  have m_0 : (.methodLink RL 124 yX8_parts : Cond) ∈ lw_tbl := p1_w 984 (by decide +kernel)
  have k_0 := hts _ m_0
  have m_1 : (.instanceMethod yX8_parts : Cond) ∈ lw_tbl := p1_w 985 (by decide +kernel)
  have k_1 := hts _ m_1
  have m_2 : (.selects RX8 yX8_parts yX8_parts : Cond) ∈ lw_tbl := p1_w 986 (by decide +kernel)
  have k_2 := hts _ m_2
  have m_3 : (.initialized RX8 : Cond) ∈ lw_tbl := p1_w 104 (by decide +kernel)
  have k_3 := hts _ m_3
  have m_4 : (.methodLink RL 127 yX9_parts : Cond) ∈ lw_tbl := p1_w 1660 (by decide +kernel)
  have k_4 := hts _ m_4
  have m_5 : (.instanceMethod yX9_parts : Cond) ∈ lw_tbl := p1_w 1661 (by decide +kernel)
  have k_5 := hts _ m_5
  have m_6 : (.selects RX9 yX9_parts yX9_parts : Cond) ∈ lw_tbl := p1_w 1662 (by decide +kernel)
  have k_6 := hts _ m_6
  have m_7 : (.initialized RX9 : Cond) ∈ lw_tbl := p1_w 116 (by decide +kernel)
  have k_7 := hts _ m_7
  have g_x_parts := iz_x_parts
  have g_m_parts := iz_m_parts
  refine lv_aload_n hx hb dL_law_1204 rfl (lv_at hl 2 rfl) ?_
  refine lv_aload_n hx hb dL_law_1205 rfl (lv_at hl 3 rfl) ?_
  refine lv_iload_n hx hb dL_law_1206 rfl (lv_at hl 0 rfl) ?_
  refine lv_iconst (v := 1) hx hb dL_law_1207 (by decide) ?_
  refine lv_iadd hx hb dL_law_1208 ?_
  refine lv_topi (fun v_1 ev_1 => ?_)
  obtain rfl : v_1 = 1 := ev_1.trans (by decide)
  refine va_sld hx hb hX hbl hbA hS (p1_in (i := 1) (n := 6) (by decide)) dL_law_1209 ?_
  refine lv_aload_n hx hb dL_law_1210 rfl (lv_at hl 3 rfl) ?_
  refine lv_iload_n hx hb dL_law_1211 rfl (lv_at hl 0 rfl) ?_
  refine lv_iconst (v := 2) hx hb dL_law_1212 (by decide) ?_
  refine lv_iadd hx hb dL_law_1213 ?_
  refine lv_topi (fun v_2 ev_2 => ?_)
  obtain rfl : v_2 = 2 := ev_2.trans (by decide)
  refine va_sld hx hb hX hbl hbA hS (p1_in (i := 2) (n := 6) (by decide)) dL_law_1214 ?_
  refine lv_aload_n hx hb dL_law_1215 rfl (lv_at hl 3 rfl) ?_
  refine lv_iload_n hx hb dL_law_1216 rfl (lv_at hl 0 rfl) ?_
  refine lv_iconst (v := 3) hx hb dL_law_1217 (by decide) ?_
  refine lv_iadd hx hb dL_law_1218 ?_
  refine lv_topi (fun v_3 ev_3 => ?_)
  obtain rfl : v_3 = 3 := ev_3.trans (by decide)
  refine va_sld hx hb hX hbl hbA hS (p1_in (i := 3) (n := 6) (by decide)) dL_law_1219 ?_
  refine lv_aload_n hx hb dL_law_1220 rfl (lv_at hl 3 rfl) ?_
  refine lv_iload_n hx hb dL_law_1221 rfl (lv_at hl 0 rfl) ?_
  refine lv_iconst (v := 4) hx hb dL_law_1222 (by decide) ?_
  refine lv_iadd hx hb dL_law_1223 ?_
  refine lv_topi (fun v_4 ev_4 => ?_)
  obtain rfl : v_4 = 4 := ev_4.trans (by decide)
  refine va_sld hx hb hX hbl hbA hS (p1_in (i := 4) (n := 6) (by decide)) dL_law_1224 ?_
  have hPc := hP.sub (ws' := [(xx, .inr (7, xxs)), (xsh, .inr (5, xss)), (xsc, .inl (xcS, 5, .inl (fun _ => 0)))]) [0, 1, 2] rfl
  have hDc := hD.sub (ws' := [(xx, .inr (7, xxs)), (xsh, .inr (5, xss)), (xsc, .inl (xcS, 5, .inl (fun _ => 0)))]) [0, 1, 2] (by decide) rfl
  have hKc := hK.sub (tys' := [(xcS, .int)]) [0] rfl
  have hFc := va_free (wc := [(xx, .inr (7, xxs)), (xsh, .inr (5, xss)), (xsc, .inl (xcS, 5, .inl (fun _ => 0)))]) hD hS hA [0, 1, 2] rfl
  refine va_calli (va_runV (As := [.int (xs (1 : Int32).toNatClampNeg), .int (xs (2 : Int32).toNatClampNeg), .int (xs (3 : Int32).toNatClampNeg), .int (xs (4 : Int32).toNatClampNeg)]) (rest := []) ⟨hx, hb, hml, hown, hts⟩ (x_parts l dC dI H.size xx xxs xsh xss xsc xcS ((xs (1 : Int32).toNatClampNeg)) ((xs (2 : Int32).toNatClampNeg)) ((xs (3 : Int32).toNatClampNeg)) ((xs (4 : Int32).toNatClampNeg)) f_xxs_9 f_xss_0) (cwV 4 hts (p1_gV m_0 m_1 m_2 m_3 g_x_parts gz_x_parts) rfl rfl rfl (by decide +kernel) ⟨by decide, by decide⟩) ⟨fun a U g mk q => by obtain ⟨q0, q1, qP, qK, qD⟩ := q; exact ⟨q0, q1, qP, va_K.moved (u := U) (U := U.calling g mk a) (Vm.Alike.refl U.vm) qK, qD⟩, va_recv hKc hPc (ci := 7) (q0 := 0) rfl rfl, fun U hU hW => ⟨rfl, by rw [hU], by rw [hU]; exact hPc, va_K.moved hW.alike hKc, hDc.weaken (fun _ _ _ _ => trivial)⟩⟩ rfl rfl hl.1 rfl (lv_room (Nat.le_of_ble_eq_true rfl)) dL_law_1225 ⟨by decide, by decide⟩) hS (fun q _ h => hFc q h) hFc (fun r_5 u t H1 locs ht hvm hw hB hz1 hk1 hS => ?_)
  obtain ⟨hP1, hK1, hD1⟩ := hB
  rw [ht] at hP1
  obtain ⟨hP, hD⟩ := va_join (wr := [(rmo, .inr (8, rms)), (rkn, .inl (rcK, 2, .inl rkf))]) (w1 := []) hP hD [0, 1, 2] [3, 4] rfl rfl (by decide) (by decide) hk1 hFc hP1 hD1
  generalize H1 = H at hP hS ⊢
  have hP : va_P (dC, dI) vwCl [(rmo, .inr (8, rms)), (rkn, .inl (rcK, 2, .inl rkf))] H := hP
  have hD : va_D A [(rmo, .inr (8, rms)), (rkn, .inl (rcK, 2, .inl rkf))] := hD
  try dsimp only at hw
  obtain rfl : r_5 = (-1) := hw
  refine lv_aload_n hx hb dL_law_1228 rfl (lv_at hl 1 rfl) ?_
  refine lv_aload_n hx hb dL_law_1229 rfl (lv_at hl 3 rfl) ?_
  refine lv_iload_n hx hb dL_law_1230 rfl (lv_at hl 0 rfl) ?_
  refine lv_iconst (v := 1) hx hb dL_law_1231 (by decide) ?_
  refine lv_iadd hx hb dL_law_1232 ?_
  refine lv_topi (fun v_6 ev_6 => ?_)
  obtain rfl : v_6 = 1 := ev_6.trans (by decide)
  refine va_sld hx hb hX hbl hbA hS (p1_in (i := 1) (n := 6) (by decide)) dL_law_1233 ?_
  refine lv_aload_n hx hb dL_law_1234 rfl (lv_at hl 3 rfl) ?_
  refine lv_iload_n hx hb dL_law_1235 rfl (lv_at hl 0 rfl) ?_
  refine lv_iconst (v := 2) hx hb dL_law_1236 (by decide) ?_
  refine lv_iadd hx hb dL_law_1237 ?_
  refine lv_topi (fun v_7 ev_7 => ?_)
  obtain rfl : v_7 = 2 := ev_7.trans (by decide)
  refine va_sld hx hb hX hbl hbA hS (p1_in (i := 2) (n := 6) (by decide)) dL_law_1238 ?_
  refine lv_aload_n hx hb dL_law_1239 rfl (lv_at hl 3 rfl) ?_
  refine lv_iload_n hx hb dL_law_1240 rfl (lv_at hl 0 rfl) ?_
  refine lv_iconst (v := 3) hx hb dL_law_1241 (by decide) ?_
  refine lv_iadd hx hb dL_law_1242 ?_
  refine lv_topi (fun v_8 ev_8 => ?_)
  obtain rfl : v_8 = 3 := ev_8.trans (by decide)
  refine va_sld hx hb hX hbl hbA hS (p1_in (i := 3) (n := 6) (by decide)) dL_law_1243 ?_
  refine lv_aload_n hx hb dL_law_1244 rfl (lv_at hl 3 rfl) ?_
  refine lv_iload_n hx hb dL_law_1245 rfl (lv_at hl 0 rfl) ?_
  refine lv_iconst (v := 4) hx hb dL_law_1246 (by decide) ?_
  refine lv_iadd hx hb dL_law_1247 ?_
  refine lv_topi (fun v_9 ev_9 => ?_)
  obtain rfl : v_9 = 4 := ev_9.trans (by decide)
  refine va_sld hx hb hX hbl hbA hS (p1_in (i := 4) (n := 6) (by decide)) dL_law_1248 ?_
  have hPc := hP.sub (ws' := [(rmo, .inr (8, rms)), (rkn, .inl (rcK, 2, .inl rkf))]) [0, 1] rfl
  have hDc := hD.sub (ws' := [(rmo, .inr (8, rms)), (rkn, .inl (rcK, 2, .inl rkf))]) [0, 1] (by decide) rfl
  have hKc := hK.sub (tys' := [(rcK, .int)]) [1] rfl
  have hFc := va_free (wc := [(rmo, .inr (8, rms)), (rkn, .inl (rcK, 2, .inl rkf))]) hD hS hA [0, 1] rfl
  refine va_calli (va_runV (As := [.int (xs (1 : Int32).toNatClampNeg), .int (xs (2 : Int32).toNatClampNeg), .int (xs (3 : Int32).toNatClampNeg), .int (xs (4 : Int32).toNatClampNeg)]) (rest := [.int (-1)]) ⟨hx, hb, hml, hown, hts⟩ (m_parts l dC dI H.size rmo rms rkn rcK rkf ((xs (1 : Int32).toNatClampNeg)) ((xs (2 : Int32).toNatClampNeg)) ((xs (3 : Int32).toNatClampNeg)) ((xs (4 : Int32).toNatClampNeg)) f_rms_11 f_rms_43 h_rkf_0) (cwV 4 hts (p1_gV m_4 m_5 m_6 m_7 g_m_parts gz_m_parts) rfl rfl rfl (by decide +kernel) ⟨by decide, by decide⟩) ⟨fun a U g mk q => by obtain ⟨q0, q1, qP, qK, qD⟩ := q; exact ⟨q0, q1, qP, va_K.moved (u := U) (U := U.calling g mk a) (Vm.Alike.refl U.vm) qK, qD⟩, va_recv hKc hPc (ci := 8) (q0 := 0) rfl rfl, fun U hU hW => ⟨rfl, by rw [hU], by rw [hU]; exact hPc, va_K.moved hW.alike hKc, hDc.weaken (fun _ _ _ _ => trivial)⟩⟩ rfl rfl hl.1 rfl (lv_room (Nat.le_of_ble_eq_true rfl)) dL_law_1249 ⟨by decide, by decide⟩) hS (fun q _ h => hFc q h) hFc (fun r_10 u t H1 locs ht hvm hw hB hz1 hk1 hS => ?_)
  obtain ⟨hP1, hK1, hD1⟩ := hB
  rw [ht] at hP1
  obtain ⟨hP, hD⟩ := va_join (wr := []) (w1 := []) hP hD [0, 1] [] rfl rfl (by decide) (by decide) hk1 hFc hP1 hD1
  generalize H1 = H at hP hS ⊢
  have hP : va_P (dC, dI) vwCl [] H := hP
  have hD : va_D A [] := hD
  try dsimp only at hw
  obtain rfl : r_10 = (-1) := hw
  refine lv_icmp_eq (tgt := 1382) hx hb dL_law_1252 (by decide) (fun _ => ?_) (fun c9 => absurd c9 (by decide))
  refine lv_iinc (v := 6) (lv' := [(3, .int 6), (2, .ref rmo), (1, .ref xx), (0, .ref b)]) hx hb dL_law_1382 hl (k := 0) rfl (by decide) (by decide) rfl (fun ls hl => ?_)
  refine lv_goto (tgt := 18) hx hb dL_law_1385 (by decide) ?_
  refine lv_iload_n hx hb dL_law_18 rfl (lv_at hl 0 rfl) ?_
  refine lv_aload_n hx hb dL_law_19 rfl (lv_at hl 3 rfl) ?_
  refine va_slen hx hb hX hbl hbA hS dL_law_20 ?_
  refine lv_topi (fun v_12 ev_12 => ?_)
  obtain rfl : v_12 = 6 := ev_12.trans rfl
  refine lv_bipush (v := 6) hx hb dL_law_21 (by decide) ?_
  refine lv_isub hx hb dL_law_23 ?_
  refine lv_topi (fun v_13 ev_13 => ?_)
  obtain rfl : v_13 = 0 := ev_13.trans (by decide)
  refine lv_icmp_gt (tgt := 1388) hx hb dL_law_24 (by decide) (fun _ => ?_) (fun c9 => absurd c9 (by decide))
  refine lv_iconst (v := 1) hx hb dL_law_1388 (by decide) ?_
  refine va_forget (fun q hq => by have h9 := hS.2.2 q hq; rw [hAe] at h9; exact h9) ?_
  refine W.widen (k := 600000) (n := 7302249) (by decide) (by decide) ?_
  exact lw_ret hx hb hr hlocks dL_law_1389
set_option maxHeartbeats 4000000 in
set_option maxRecDepth 100000 in
theorem law_began {p : Program} {e : Env} {s : State} {m : MethodId} {below : List Frame} {meth : Method} {c : Code} (l : Launch) {b : Nat} {xs : Nat → Int32} (C0 : lw_At p s m meth c b 6 xs) {A : Nat → Prop} (hAe : A = fun q : Nat => s.heap.size ≤ q) (hE : p1_ex A s s.heap) (dC : Nat → ClassId) (dI : Nat → Nat → Nat) (xx : Nat) (xxs : List Value) (xfl : Nat) (xff : List Value) (rmo : Nat) (rms : List Value) (f_xxs_4 : xxs[4]? = some (.ref xfl)) (f_xff_7 : xff[7]? = some (.int 0)) (f_rms_75 : rms[75]? = some (.int 0)) (H : Heap) (locs : List Loc) (ls : Array Slot) (hK : va_K (dC, dI) vwCl [] s) (hP : va_P (dC, dI) vwCl [(xx, .inr (7, xxs)), (xfl, .inr (2, xff)), (rmo, .inr (8, rms))] H) (hD : va_D A [(xx, .inr (7, xxs)), (xfl, .inr (2, xff)), (rmo, .inr (8, rms))]) (hS : va_S A s.heap H locs) (hl : lv_has ls 4 [(3, .int 0), (2, .ref rmo), (1, .ref xx), (0, .ref b)]) : W p l e room_1 s m #[Value.ref b] below meth c H locs 152 11751 (lw_Z below #[Value.ref b] s) (F0 m 1257 ls []) := by
  obtain ⟨hx, hb, hr, hml, hown, hts, hX, hbl, hlocks, hgv⟩ := id C0
  have hown : s.vm.findClass RL = some m.cls := hown
  have hA : ∀ q : Nat, s.heap.size ≤ q → A q := by rw [hAe]; exact fun _ h => h
  have hbA : ¬ A b := by rw [hAe]; exact Nat.not_le.mpr hbl
  have m_0 : (.methodLink RL 128 yX8_began : Cond) ∈ lw_tbl := p1_w 997 (by decide +kernel)
  have k_0 := hts _ m_0
  have m_1 : (.instanceMethod yX8_began : Cond) ∈ lw_tbl := p1_w 998 (by decide +kernel)
  have k_1 := hts _ m_1
  have m_2 : (.selects RX8 yX8_began yX8_began : Cond) ∈ lw_tbl := p1_w 999 (by decide +kernel)
  have k_2 := hts _ m_2
  have m_3 : (.initialized RX8 : Cond) ∈ lw_tbl := p1_w 104 (by decide +kernel)
  have k_3 := hts _ m_3
  have m_4 : (.methodLink RL 131 yX9_began : Cond) ∈ lw_tbl := p1_w 1669 (by decide +kernel)
  have k_4 := hts _ m_4
  have m_5 : (.instanceMethod yX9_began : Cond) ∈ lw_tbl := p1_w 1670 (by decide +kernel)
  have k_5 := hts _ m_5
  have m_6 : (.selects RX9 yX9_began yX9_began : Cond) ∈ lw_tbl := p1_w 1671 (by decide +kernel)
  have k_6 := hts _ m_6
  have m_7 : (.initialized RX9 : Cond) ∈ lw_tbl := p1_w 116 (by decide +kernel)
  have k_7 := hts _ m_7
  have g_x_began := iz_x_began
  have g_m_began := iz_m_began
  refine lv_aload_n hx hb dL_law_1257 rfl (lv_at hl 2 rfl) ?_
  refine lv_aload_n hx hb dL_law_1258 rfl (lv_at hl 3 rfl) ?_
  refine lv_iload_n hx hb dL_law_1259 rfl (lv_at hl 0 rfl) ?_
  refine lv_iconst (v := 1) hx hb dL_law_1260 (by decide) ?_
  refine lv_iadd hx hb dL_law_1261 ?_
  refine lv_topi (fun v_1 ev_1 => ?_)
  obtain rfl : v_1 = 1 := ev_1.trans (by decide)
  refine va_sld hx hb hX hbl hbA hS (p1_in (i := 1) (n := 6) (by decide)) dL_law_1262 ?_
  refine lv_aload_n hx hb dL_law_1263 rfl (lv_at hl 3 rfl) ?_
  refine lv_iload_n hx hb dL_law_1264 rfl (lv_at hl 0 rfl) ?_
  refine lv_iconst (v := 2) hx hb dL_law_1265 (by decide) ?_
  refine lv_iadd hx hb dL_law_1266 ?_
  refine lv_topi (fun v_2 ev_2 => ?_)
  obtain rfl : v_2 = 2 := ev_2.trans (by decide)
  refine va_sld hx hb hX hbl hbA hS (p1_in (i := 2) (n := 6) (by decide)) dL_law_1267 ?_
  have hPc := hP.sub (ws' := [(xx, .inr (7, xxs)), (xfl, .inr (2, xff))]) [0, 1] rfl
  have hDc := hD.sub (ws' := [(xx, .inr (7, xxs)), (xfl, .inr (2, xff))]) [0, 1] (by decide) rfl
  have hKc := hK.sub (tys' := []) [] rfl
  have hFc := va_free (wc := [(xx, .inr (7, xxs)), (xfl, .inr (2, xff))]) hD hS hA [0, 1] rfl
  refine va_calli (va_runV (As := [.int (xs (1 : Int32).toNatClampNeg), .int (xs (2 : Int32).toNatClampNeg)]) (rest := []) ⟨hx, hb, hml, hown, hts⟩ (x_began l dC dI H.size xx xxs xfl xff ((xs (1 : Int32).toNatClampNeg)) ((xs (2 : Int32).toNatClampNeg)) f_xxs_4 f_xff_7) (cwV 2 hts (p1_gV m_0 m_1 m_2 m_3 g_x_began gz_x_began) rfl rfl rfl (by decide +kernel) ⟨by decide, by decide⟩) ⟨fun a U g mk q => by obtain ⟨q0, q1, qP, qK, qD⟩ := q; exact ⟨q0, q1, qP, va_K.moved (u := U) (U := U.calling g mk a) (Vm.Alike.refl U.vm) qK, qD⟩, va_recv hKc hPc (ci := 7) (q0 := 0) rfl rfl, fun U hU hW => ⟨rfl, by rw [hU], by rw [hU]; exact hPc, va_K.moved hW.alike hKc, hDc.weaken (fun _ _ _ _ => trivial)⟩⟩ rfl rfl hl.1 rfl (lv_room (Nat.le_of_ble_eq_true rfl)) dL_law_1268 ⟨by decide, by decide⟩) hS (fun q _ h => hFc q h) hFc (fun r_3 u t H1 locs ht hvm hw hB hz1 hk1 hS => ?_)
  obtain ⟨hP1, hK1, hD1⟩ := hB
  rw [ht] at hP1
  obtain ⟨hP, hD⟩ := va_join (wr := [(rmo, .inr (8, rms))]) (w1 := []) hP hD [0, 1] [2] rfl rfl (by decide) (by decide) hk1 hFc hP1 hD1
  generalize H1 = H at hP hS ⊢
  have hP : va_P (dC, dI) vwCl [(rmo, .inr (8, rms))] H := hP
  have hD : va_D A [(rmo, .inr (8, rms))] := hD
  try dsimp only at hw
  obtain rfl : r_3 = (-1) := hw
  refine lv_aload_n hx hb dL_law_1271 rfl (lv_at hl 1 rfl) ?_
  refine lv_aload_n hx hb dL_law_1272 rfl (lv_at hl 3 rfl) ?_
  refine lv_iload_n hx hb dL_law_1273 rfl (lv_at hl 0 rfl) ?_
  refine lv_iconst (v := 1) hx hb dL_law_1274 (by decide) ?_
  refine lv_iadd hx hb dL_law_1275 ?_
  refine lv_topi (fun v_4 ev_4 => ?_)
  obtain rfl : v_4 = 1 := ev_4.trans (by decide)
  refine va_sld hx hb hX hbl hbA hS (p1_in (i := 1) (n := 6) (by decide)) dL_law_1276 ?_
  refine lv_aload_n hx hb dL_law_1277 rfl (lv_at hl 3 rfl) ?_
  refine lv_iload_n hx hb dL_law_1278 rfl (lv_at hl 0 rfl) ?_
  refine lv_iconst (v := 2) hx hb dL_law_1279 (by decide) ?_
  refine lv_iadd hx hb dL_law_1280 ?_
  refine lv_topi (fun v_5 ev_5 => ?_)
  obtain rfl : v_5 = 2 := ev_5.trans (by decide)
  refine va_sld hx hb hX hbl hbA hS (p1_in (i := 2) (n := 6) (by decide)) dL_law_1281 ?_
  have hPc := hP.sub (ws' := [(rmo, .inr (8, rms))]) [0] rfl
  have hDc := hD.sub (ws' := [(rmo, .inr (8, rms))]) [0] (by decide) rfl
  have hKc := hK.sub (tys' := []) [] rfl
  have hFc := va_free (wc := [(rmo, .inr (8, rms))]) hD hS hA [0] rfl
  refine va_calli (va_runV (As := [.int (xs (1 : Int32).toNatClampNeg), .int (xs (2 : Int32).toNatClampNeg)]) (rest := [.int (-1)]) ⟨hx, hb, hml, hown, hts⟩ (m_began l dC dI H.size rmo rms ((xs (1 : Int32).toNatClampNeg)) ((xs (2 : Int32).toNatClampNeg)) f_rms_75) (cwV 2 hts (p1_gV m_4 m_5 m_6 m_7 g_m_began gz_m_began) rfl rfl rfl (by decide +kernel) ⟨by decide, by decide⟩) ⟨fun a U g mk q => by obtain ⟨q0, q1, qP, qK, qD⟩ := q; exact ⟨q0, q1, qP, va_K.moved (u := U) (U := U.calling g mk a) (Vm.Alike.refl U.vm) qK, qD⟩, va_recv hKc hPc (ci := 8) (q0 := 0) rfl rfl, fun U hU hW => ⟨rfl, by rw [hU], by rw [hU]; exact hPc, va_K.moved hW.alike hKc, hDc.weaken (fun _ _ _ _ => trivial)⟩⟩ rfl rfl hl.1 rfl (lv_room (Nat.le_of_ble_eq_true rfl)) dL_law_1282 ⟨by decide, by decide⟩) hS (fun q _ h => hFc q h) hFc (fun r_6 u t H1 locs ht hvm hw hB hz1 hk1 hS => ?_)
  obtain ⟨hP1, hK1, hD1⟩ := hB
  rw [ht] at hP1
  obtain ⟨hP, hD⟩ := va_join (wr := []) (w1 := []) hP hD [0] [] rfl rfl (by decide) (by decide) hk1 hFc hP1 hD1
  generalize H1 = H at hP hS ⊢
  have hP : va_P (dC, dI) vwCl [] H := hP
  have hD : va_D A [] := hD
  try dsimp only at hw
  obtain rfl : r_6 = (-1) := hw
  refine lv_icmp_eq (tgt := 1382) hx hb dL_law_1285 (by decide) (fun _ => ?_) (fun c9 => absurd c9 (by decide))
  refine lv_iinc (v := 6) (lv' := [(3, .int 6), (2, .ref rmo), (1, .ref xx), (0, .ref b)]) hx hb dL_law_1382 hl (k := 0) rfl (by decide) (by decide) rfl (fun ls hl => ?_)
  refine lv_goto (tgt := 18) hx hb dL_law_1385 (by decide) ?_
  refine lv_iload_n hx hb dL_law_18 rfl (lv_at hl 0 rfl) ?_
  refine lv_aload_n hx hb dL_law_19 rfl (lv_at hl 3 rfl) ?_
  refine va_slen hx hb hX hbl hbA hS dL_law_20 ?_
  refine lv_topi (fun v_8 ev_8 => ?_)
  obtain rfl : v_8 = 6 := ev_8.trans rfl
  refine lv_bipush (v := 6) hx hb dL_law_21 (by decide) ?_
  refine lv_isub hx hb dL_law_23 ?_
  refine lv_topi (fun v_9 ev_9 => ?_)
  obtain rfl : v_9 = 0 := ev_9.trans (by decide)
  refine lv_icmp_gt (tgt := 1388) hx hb dL_law_24 (by decide) (fun _ => ?_) (fun c9 => absurd c9 (by decide))
  refine lv_iconst (v := 1) hx hb dL_law_1388 (by decide) ?_
  refine va_forget (fun q hq => by have h9 := hS.2.2 q hq; rw [hAe] at h9; exact h9) ?_
  refine W.widen (k := 600000) (n := 7302249) (by decide) (by decide) ?_
  exact lw_ret hx hb hr hlocks dL_law_1389
set_option maxHeartbeats 4000000 in
set_option maxRecDepth 100000 in
theorem law_seed {p : Program} {e : Env} {s : State} {m : MethodId} {below : List Frame} {meth : Method} {c : Code} (l : Launch) {b : Nat} {xs : Nat → Int32} (C0 : lw_At p s m meth c b 6 xs) {A : Nat → Prop} (hAe : A = fun q : Nat => s.heap.size ≤ q) (hE : p1_ex A s s.heap) (dC : Nat → ClassId) (dI : Nat → Nat → Nat) (xx : Nat) (xxs : List Value) (rmo : Nat) (rms : List Value) (f_xxs_12 : xxs[12]? = some (.int 1)) (l_xxs : xxs.length = 14) (f_rms_65 : rms[65]? = some (.int 1)) (l_rms : rms.length = 81) (H : Heap) (locs : List Loc) (ls : Array Slot) (hK : va_K (dC, dI) vwCl [] s) (hP : va_P (dC, dI) vwCl [(xx, .inr (7, xxs)), (rmo, .inr (8, rms))] H) (hD : va_D A [(xx, .inr (7, xxs)), (rmo, .inr (8, rms))]) (hS : va_S A s.heap H locs) (hl : lv_has ls 4 [(3, .int 0), (2, .ref rmo), (1, .ref xx), (0, .ref b)]) : W p l e room_1 s m #[Value.ref b] below meth c H locs 152 11751 (lw_Z below #[Value.ref b] s) (F0 m 1290 ls []) := by
  obtain ⟨hx, hb, hr, hml, hown, hts, hX, hbl, hlocks, hgv⟩ := id C0
  have hown : s.vm.findClass RL = some m.cls := hown
  have hA : ∀ q : Nat, s.heap.size ≤ q → A q := by rw [hAe]; exact fun _ h => h
  have hbA : ¬ A b := by rw [hAe]; exact Nat.not_le.mpr hbl
  have m_0 : (.methodLink RL 132 yX8_seed : Cond) ∈ lw_tbl := p1_w 1005 (by decide +kernel)
  have k_0 := hts _ m_0
  have m_1 : (.instanceMethod yX8_seed : Cond) ∈ lw_tbl := p1_w 1006 (by decide +kernel)
  have k_1 := hts _ m_1
  have m_2 : (.selects RX8 yX8_seed yX8_seed : Cond) ∈ lw_tbl := p1_w 1007 (by decide +kernel)
  have k_2 := hts _ m_2
  have m_3 : (.initialized RX8 : Cond) ∈ lw_tbl := p1_w 104 (by decide +kernel)
  have k_3 := hts _ m_3
  have m_4 : (.methodLink RL 135 yX9_seed : Cond) ∈ lw_tbl := p1_w 1673 (by decide +kernel)
  have k_4 := hts _ m_4
  have m_5 : (.instanceMethod yX9_seed : Cond) ∈ lw_tbl := p1_w 1674 (by decide +kernel)
  have k_5 := hts _ m_5
  have m_6 : (.selects RX9 yX9_seed yX9_seed : Cond) ∈ lw_tbl := p1_w 1675 (by decide +kernel)
  have k_6 := hts _ m_6
  have m_7 : (.initialized RX9 : Cond) ∈ lw_tbl := p1_w 116 (by decide +kernel)
  have k_7 := hts _ m_7
  have g_x_seed := iz_x_seed
  have g_m_seed := iz_m_seed
  refine lv_aload_n hx hb dL_law_1290 rfl (lv_at hl 2 rfl) ?_
  refine lv_aload_n hx hb dL_law_1291 rfl (lv_at hl 3 rfl) ?_
  refine lv_iload_n hx hb dL_law_1292 rfl (lv_at hl 0 rfl) ?_
  refine lv_iconst (v := 1) hx hb dL_law_1293 (by decide) ?_
  refine lv_iadd hx hb dL_law_1294 ?_
  refine lv_topi (fun v_1 ev_1 => ?_)
  obtain rfl : v_1 = 1 := ev_1.trans (by decide)
  refine va_sld hx hb hX hbl hbA hS (p1_in (i := 1) (n := 6) (by decide)) dL_law_1295 ?_
  have hPc := hP.sub (ws' := [(xx, .inr (7, xxs))]) [0] rfl
  have hDc := hD.sub (ws' := [(xx, .inr (7, xxs))]) [0] (by decide) rfl
  have hKc := hK.sub (tys' := []) [] rfl
  have hFc := va_free (wc := [(xx, .inr (7, xxs))]) hD hS hA [0] rfl
  refine va_calli (va_runV (As := [.int (xs (1 : Int32).toNatClampNeg)]) (rest := []) ⟨hx, hb, hml, hown, hts⟩ (x_seed l dC dI H.size xx xxs ((xs (1 : Int32).toNatClampNeg)) f_xxs_12 l_xxs) (cwV 1 hts (p1_gV m_0 m_1 m_2 m_3 g_x_seed gz_x_seed) rfl rfl rfl (by decide +kernel) ⟨by decide, by decide⟩) ⟨fun a U g mk q => by obtain ⟨q0, q1, qP, qK, qD⟩ := q; exact ⟨q0, q1, qP, va_K.moved (u := U) (U := U.calling g mk a) (Vm.Alike.refl U.vm) qK, qD⟩, va_recv hKc hPc (ci := 7) (q0 := 0) rfl rfl, fun U hU hW => ⟨rfl, by rw [hU], by rw [hU]; exact hPc, va_K.moved hW.alike hKc, hDc.weaken (fun _ _ _ _ => trivial)⟩⟩ rfl rfl hl.1 rfl (lv_room (Nat.le_of_ble_eq_true rfl)) dL_law_1296 ⟨by decide, by decide⟩) hS (fun q _ h => hFc q h) hFc (fun r_2 u t H1 locs ht hvm hw hB hz1 hk1 hS => ?_)
  obtain ⟨hP1, hK1, hD1⟩ := hB
  rw [ht] at hP1
  obtain ⟨hP, hD⟩ := va_join (wr := [(rmo, .inr (8, rms))]) (w1 := []) hP hD [0] [1] rfl rfl (by decide) (by decide) hk1 hFc hP1 hD1
  generalize H1 = H at hP hS ⊢
  have hP : va_P (dC, dI) vwCl [(rmo, .inr (8, rms))] H := hP
  have hD : va_D A [(rmo, .inr (8, rms))] := hD
  try dsimp only at hw
  obtain rfl : r_2 = 1 := hw
  refine lv_aload_n hx hb dL_law_1299 rfl (lv_at hl 1 rfl) ?_
  refine lv_aload_n hx hb dL_law_1300 rfl (lv_at hl 3 rfl) ?_
  refine lv_iload_n hx hb dL_law_1301 rfl (lv_at hl 0 rfl) ?_
  refine lv_iconst (v := 1) hx hb dL_law_1302 (by decide) ?_
  refine lv_iadd hx hb dL_law_1303 ?_
  refine lv_topi (fun v_3 ev_3 => ?_)
  obtain rfl : v_3 = 1 := ev_3.trans (by decide)
  refine va_sld hx hb hX hbl hbA hS (p1_in (i := 1) (n := 6) (by decide)) dL_law_1304 ?_
  have hPc := hP.sub (ws' := [(rmo, .inr (8, rms))]) [0] rfl
  have hDc := hD.sub (ws' := [(rmo, .inr (8, rms))]) [0] (by decide) rfl
  have hKc := hK.sub (tys' := []) [] rfl
  have hFc := va_free (wc := [(rmo, .inr (8, rms))]) hD hS hA [0] rfl
  refine va_calli (va_runV (As := [.int (xs (1 : Int32).toNatClampNeg)]) (rest := [.int 1]) ⟨hx, hb, hml, hown, hts⟩ (m_seed l dC dI H.size rmo rms ((xs (1 : Int32).toNatClampNeg)) f_rms_65 l_rms) (cwV 1 hts (p1_gV m_4 m_5 m_6 m_7 g_m_seed gz_m_seed) rfl rfl rfl (by decide +kernel) ⟨by decide, by decide⟩) ⟨fun a U g mk q => by obtain ⟨q0, q1, qP, qK, qD⟩ := q; exact ⟨q0, q1, qP, va_K.moved (u := U) (U := U.calling g mk a) (Vm.Alike.refl U.vm) qK, qD⟩, va_recv hKc hPc (ci := 8) (q0 := 0) rfl rfl, fun U hU hW => ⟨rfl, by rw [hU], by rw [hU]; exact hPc, va_K.moved hW.alike hKc, hDc.weaken (fun _ _ _ _ => trivial)⟩⟩ rfl rfl hl.1 rfl (lv_room (Nat.le_of_ble_eq_true rfl)) dL_law_1305 ⟨by decide, by decide⟩) hS (fun q _ h => hFc q h) hFc (fun r_4 u t H1 locs ht hvm hw hB hz1 hk1 hS => ?_)
  obtain ⟨hP1, hK1, hD1⟩ := hB
  rw [ht] at hP1
  obtain ⟨hP, hD⟩ := va_join (wr := []) (w1 := []) hP hD [0] [] rfl rfl (by decide) (by decide) hk1 hFc hP1 hD1
  generalize H1 = H at hP hS ⊢
  have hP : va_P (dC, dI) vwCl [] H := hP
  have hD : va_D A [] := hD
  try dsimp only at hw
  obtain rfl : r_4 = 1 := hw
  refine lv_icmp_eq (tgt := 1382) hx hb dL_law_1308 (by decide) (fun _ => ?_) (fun c9 => absurd c9 (by decide))
  refine lv_iinc (v := 6) (lv' := [(3, .int 6), (2, .ref rmo), (1, .ref xx), (0, .ref b)]) hx hb dL_law_1382 hl (k := 0) rfl (by decide) (by decide) rfl (fun ls hl => ?_)
  refine lv_goto (tgt := 18) hx hb dL_law_1385 (by decide) ?_
  refine lv_iload_n hx hb dL_law_18 rfl (lv_at hl 0 rfl) ?_
  refine lv_aload_n hx hb dL_law_19 rfl (lv_at hl 3 rfl) ?_
  refine va_slen hx hb hX hbl hbA hS dL_law_20 ?_
  refine lv_topi (fun v_6 ev_6 => ?_)
  obtain rfl : v_6 = 6 := ev_6.trans rfl
  refine lv_bipush (v := 6) hx hb dL_law_21 (by decide) ?_
  refine lv_isub hx hb dL_law_23 ?_
  refine lv_topi (fun v_7 ev_7 => ?_)
  obtain rfl : v_7 = 0 := ev_7.trans (by decide)
  refine lv_icmp_gt (tgt := 1388) hx hb dL_law_24 (by decide) (fun _ => ?_) (fun c9 => absurd c9 (by decide))
  refine lv_iconst (v := 1) hx hb dL_law_1388 (by decide) ?_
  refine va_forget (fun q hq => by have h9 := hS.2.2 q hq; rw [hAe] at h9; exact h9) ?_
  refine W.widen (k := 600000) (n := 7302249) (by decide) (by decide) ?_
  exact lw_ret hx hb hr hlocks dL_law_1389
set_option maxHeartbeats 4000000 in
set_option maxRecDepth 100000 in
theorem law_image {p : Program} {e : Env} {s : State} {m : MethodId} {below : List Frame} {meth : Method} {c : Code} (l : Launch) {b : Nat} {xs : Nat → Int32} (C0 : lw_At p s m meth c b 6 xs) {A : Nat → Prop} (hAe : A = fun q : Nat => s.heap.size ≤ q) (hE : p1_ex A s s.heap) (dC : Nat → ClassId) (dI : Nat → Nat → Nat) (xx : Nat) (xxs : List Value) (rmo : Nat) (rms : List Value) (f_xxs_11 : xxs[11]? = some (.int 0)) (f_rms_60 : rms[60]? = some (.int 0)) (H : Heap) (locs : List Loc) (ls : Array Slot) (hK : va_K (dC, dI) vwCl [] s) (hP : va_P (dC, dI) vwCl [(xx, .inr (7, xxs)), (rmo, .inr (8, rms))] H) (hD : va_D A [(xx, .inr (7, xxs)), (rmo, .inr (8, rms))]) (hS : va_S A s.heap H locs) (hl : lv_has ls 4 [(3, .int 0), (2, .ref rmo), (1, .ref xx), (0, .ref b)]) : W p l e room_1 s m #[Value.ref b] below meth c H locs 152 11751 (lw_Z below #[Value.ref b] s) (F0 m 1313 ls []) := by
  obtain ⟨hx, hb, hr, hml, hown, hts, hX, hbl, hlocks, hgv⟩ := id C0
  have hown : s.vm.findClass RL = some m.cls := hown
  have hA : ∀ q : Nat, s.heap.size ≤ q → A q := by rw [hAe]; exact fun _ h => h
  have hbA : ¬ A b := by rw [hAe]; exact Nat.not_le.mpr hbl
  have m_0 : (.methodLink RL 136 yX8_image : Cond) ∈ lw_tbl := p1_w 1009 (by decide +kernel)
  have k_0 := hts _ m_0
  have m_1 : (.instanceMethod yX8_image : Cond) ∈ lw_tbl := p1_w 1010 (by decide +kernel)
  have k_1 := hts _ m_1
  have m_2 : (.selects RX8 yX8_image yX8_image : Cond) ∈ lw_tbl := p1_w 1011 (by decide +kernel)
  have k_2 := hts _ m_2
  have m_3 : (.initialized RX8 : Cond) ∈ lw_tbl := p1_w 104 (by decide +kernel)
  have k_3 := hts _ m_3
  have m_4 : (.methodLink RL 139 yX9_image : Cond) ∈ lw_tbl := p1_w 1677 (by decide +kernel)
  have k_4 := hts _ m_4
  have m_5 : (.instanceMethod yX9_image : Cond) ∈ lw_tbl := p1_w 1678 (by decide +kernel)
  have k_5 := hts _ m_5
  have m_6 : (.selects RX9 yX9_image yX9_image : Cond) ∈ lw_tbl := p1_w 1679 (by decide +kernel)
  have k_6 := hts _ m_6
  have m_7 : (.initialized RX9 : Cond) ∈ lw_tbl := p1_w 116 (by decide +kernel)
  have k_7 := hts _ m_7
  have g_x_image := iz_x_image
  have g_m_image := iz_m_image
  refine lv_aload_n hx hb dL_law_1313 rfl (lv_at hl 2 rfl) ?_
  refine lv_aload_n hx hb dL_law_1314 rfl (lv_at hl 3 rfl) ?_
  refine lv_iload_n hx hb dL_law_1315 rfl (lv_at hl 0 rfl) ?_
  refine lv_iconst (v := 1) hx hb dL_law_1316 (by decide) ?_
  refine lv_iadd hx hb dL_law_1317 ?_
  refine lv_topi (fun v_1 ev_1 => ?_)
  obtain rfl : v_1 = 1 := ev_1.trans (by decide)
  refine va_sld hx hb hX hbl hbA hS (p1_in (i := 1) (n := 6) (by decide)) dL_law_1318 ?_
  have hPc := hP.sub (ws' := [(xx, .inr (7, xxs))]) [0] rfl
  have hDc := hD.sub (ws' := [(xx, .inr (7, xxs))]) [0] (by decide) rfl
  have hKc := hK.sub (tys' := []) [] rfl
  have hFc := va_free (wc := [(xx, .inr (7, xxs))]) hD hS hA [0] rfl
  refine va_calli (va_runV (As := [.int (xs (1 : Int32).toNatClampNeg)]) (rest := []) ⟨hx, hb, hml, hown, hts⟩ (x_image l dC dI H.size xx xxs ((xs (1 : Int32).toNatClampNeg)) f_xxs_11) (cwV 1 hts (p1_gV m_0 m_1 m_2 m_3 g_x_image gz_x_image) rfl rfl rfl (by decide +kernel) ⟨by decide, by decide⟩) ⟨fun a U g mk q => by obtain ⟨q0, q1, qP, qK, qD⟩ := q; exact ⟨q0, q1, qP, va_K.moved (u := U) (U := U.calling g mk a) (Vm.Alike.refl U.vm) qK, qD⟩, va_recv hKc hPc (ci := 7) (q0 := 0) rfl rfl, fun U hU hW => ⟨rfl, by rw [hU], by rw [hU]; exact hPc, va_K.moved hW.alike hKc, hDc.weaken (fun _ _ _ _ => trivial)⟩⟩ rfl rfl hl.1 rfl (lv_room (Nat.le_of_ble_eq_true rfl)) dL_law_1319 ⟨by decide, by decide⟩) hS (fun q _ h => hFc q h) hFc (fun r_2 u t H1 locs ht hvm hw hB hz1 hk1 hS => ?_)
  obtain ⟨hP1, hK1, hD1⟩ := hB
  rw [ht] at hP1
  obtain ⟨hP, hD⟩ := va_join (wr := [(rmo, .inr (8, rms))]) (w1 := []) hP hD [0] [1] rfl rfl (by decide) (by decide) hk1 hFc hP1 hD1
  generalize H1 = H at hP hS ⊢
  have hP : va_P (dC, dI) vwCl [(rmo, .inr (8, rms))] H := hP
  have hD : va_D A [(rmo, .inr (8, rms))] := hD
  try dsimp only at hw
  obtain rfl : r_2 = (-1) := hw
  refine lv_aload_n hx hb dL_law_1322 rfl (lv_at hl 1 rfl) ?_
  refine lv_aload_n hx hb dL_law_1323 rfl (lv_at hl 3 rfl) ?_
  refine lv_iload_n hx hb dL_law_1324 rfl (lv_at hl 0 rfl) ?_
  refine lv_iconst (v := 1) hx hb dL_law_1325 (by decide) ?_
  refine lv_iadd hx hb dL_law_1326 ?_
  refine lv_topi (fun v_3 ev_3 => ?_)
  obtain rfl : v_3 = 1 := ev_3.trans (by decide)
  refine va_sld hx hb hX hbl hbA hS (p1_in (i := 1) (n := 6) (by decide)) dL_law_1327 ?_
  have hPc := hP.sub (ws' := [(rmo, .inr (8, rms))]) [0] rfl
  have hDc := hD.sub (ws' := [(rmo, .inr (8, rms))]) [0] (by decide) rfl
  have hKc := hK.sub (tys' := []) [] rfl
  have hFc := va_free (wc := [(rmo, .inr (8, rms))]) hD hS hA [0] rfl
  refine va_calli (va_runV (As := [.int (xs (1 : Int32).toNatClampNeg)]) (rest := [.int (-1)]) ⟨hx, hb, hml, hown, hts⟩ (m_image l dC dI H.size rmo rms ((xs (1 : Int32).toNatClampNeg)) f_rms_60) (cwV 1 hts (p1_gV m_4 m_5 m_6 m_7 g_m_image gz_m_image) rfl rfl rfl (by decide +kernel) ⟨by decide, by decide⟩) ⟨fun a U g mk q => by obtain ⟨q0, q1, qP, qK, qD⟩ := q; exact ⟨q0, q1, qP, va_K.moved (u := U) (U := U.calling g mk a) (Vm.Alike.refl U.vm) qK, qD⟩, va_recv hKc hPc (ci := 8) (q0 := 0) rfl rfl, fun U hU hW => ⟨rfl, by rw [hU], by rw [hU]; exact hPc, va_K.moved hW.alike hKc, hDc.weaken (fun _ _ _ _ => trivial)⟩⟩ rfl rfl hl.1 rfl (lv_room (Nat.le_of_ble_eq_true rfl)) dL_law_1328 ⟨by decide, by decide⟩) hS (fun q _ h => hFc q h) hFc (fun r_4 u t H1 locs ht hvm hw hB hz1 hk1 hS => ?_)
  obtain ⟨hP1, hK1, hD1⟩ := hB
  rw [ht] at hP1
  obtain ⟨hP, hD⟩ := va_join (wr := []) (w1 := []) hP hD [0] [] rfl rfl (by decide) (by decide) hk1 hFc hP1 hD1
  generalize H1 = H at hP hS ⊢
  have hP : va_P (dC, dI) vwCl [] H := hP
  have hD : va_D A [] := hD
  try dsimp only at hw
  obtain rfl : r_4 = (-1) := hw
  refine lv_icmp_eq (tgt := 1382) hx hb dL_law_1331 (by decide) (fun _ => ?_) (fun c9 => absurd c9 (by decide))
  refine lv_iinc (v := 6) (lv' := [(3, .int 6), (2, .ref rmo), (1, .ref xx), (0, .ref b)]) hx hb dL_law_1382 hl (k := 0) rfl (by decide) (by decide) rfl (fun ls hl => ?_)
  refine lv_goto (tgt := 18) hx hb dL_law_1385 (by decide) ?_
  refine lv_iload_n hx hb dL_law_18 rfl (lv_at hl 0 rfl) ?_
  refine lv_aload_n hx hb dL_law_19 rfl (lv_at hl 3 rfl) ?_
  refine va_slen hx hb hX hbl hbA hS dL_law_20 ?_
  refine lv_topi (fun v_6 ev_6 => ?_)
  obtain rfl : v_6 = 6 := ev_6.trans rfl
  refine lv_bipush (v := 6) hx hb dL_law_21 (by decide) ?_
  refine lv_isub hx hb dL_law_23 ?_
  refine lv_topi (fun v_7 ev_7 => ?_)
  obtain rfl : v_7 = 0 := ev_7.trans (by decide)
  refine lv_icmp_gt (tgt := 1388) hx hb dL_law_24 (by decide) (fun _ => ?_) (fun c9 => absurd c9 (by decide))
  refine lv_iconst (v := 1) hx hb dL_law_1388 (by decide) ?_
  refine va_forget (fun q hq => by have h9 := hS.2.2 q hq; rw [hAe] at h9; exact h9) ?_
  refine W.widen (k := 600000) (n := 7302249) (by decide) (by decide) ?_
  exact lw_ret hx hb hr hlocks dL_law_1389
set_option maxHeartbeats 4000000 in
set_option maxRecDepth 100000 in
theorem law_back {p : Program} {e : Env} {s : State} {m : MethodId} {below : List Frame} {meth : Method} {c : Code} (l : Launch) {b : Nat} {xs : Nat → Int32} (C0 : lw_At p s m meth c b 6 xs) {A : Nat → Prop} (hAe : A = fun q : Nat => s.heap.size ≤ q) (hE : p1_ex A s s.heap) (dC : Nat → ClassId) (dI : Nat → Nat → Nat) (xx : Nat) (xxs : List Value) (xbx : Nat) (xcX : ClassId) (xb0 : Nat) (xb1 : Nat) (xb2 : Nat) (xbf0 : List Value) (xbf1 : List Value) (xbf2 : List Value) (rmo : Nat) (rms : List Value) (rbm : Nat) (rcB : ClassId) (rbmf : Nat → Int32) (f_xxs_5 : xxs[5]? = some (.ref xbx)) (f_xbf0_2 : xbf0[2]? = some (.int 0)) (f_xbf1_2 : xbf1[2]? = some (.int 0)) (f_xbf2_2 : xbf2[2]? = some (.int 0)) (f_rms_78 : rms[78]? = some (.ref rbm)) (h_rbmf_0 : rbmf 0 = (-1)) (h_rbmf_1 : rbmf 1 = (-1)) (h_rbmf_2 : rbmf 2 = (-1)) (h_rbmf_3 : rbmf 3 = (-1)) (H : Heap) (locs : List Loc) (ls : Array Slot) (hK : va_K (dC, dI) vwCl [(xcX, .object "BowWalk$Box"), (rcB, .int)] s) (hP : va_P (dC, dI) vwCl [(xx, .inr (7, xxs)), (xbx, .inl (xcX, 3, .inr (.inr (.inr (.inr (va_up (va_up (va_up (fun _ => none) (0 : Int32).toNatClampNeg (some xb0)) (1 : Int32).toNatClampNeg (some xb1)) (2 : Int32).toNatClampNeg (some xb2))))))), (xb0, .inr (1, xbf0)), (xb1, .inr (1, xbf1)), (xb2, .inr (1, xbf2)), (rmo, .inr (8, rms)), (rbm, .inl (rcB, 4, .inl rbmf))] H) (hD : va_D A [(xx, .inr (7, xxs)), (xbx, .inl (xcX, 3, .inr (.inr (.inr (.inr (va_up (va_up (va_up (fun _ => none) (0 : Int32).toNatClampNeg (some xb0)) (1 : Int32).toNatClampNeg (some xb1)) (2 : Int32).toNatClampNeg (some xb2))))))), (xb0, .inr (1, xbf0)), (xb1, .inr (1, xbf1)), (xb2, .inr (1, xbf2)), (rmo, .inr (8, rms)), (rbm, .inl (rcB, 4, .inl rbmf))]) (hS : va_S A s.heap H locs) (hl : lv_has ls 4 [(3, .int 0), (2, .ref rmo), (1, .ref xx), (0, .ref b)]) : W p l e room_1 s m #[Value.ref b] below meth c H locs 152 11751 (lw_Z below #[Value.ref b] s) (F0 m 1336 ls []) := by
  obtain ⟨hx, hb, hr, hml, hown, hts, hX, hbl, hlocks, hgv⟩ := id C0
  have hown : s.vm.findClass RL = some m.cls := hown
  have hA : ∀ q : Nat, s.heap.size ≤ q → A q := by rw [hAe]; exact fun _ h => h
  have hbA : ¬ A b := by rw [hAe]; exact Nat.not_le.mpr hbl
  have m_0 : (.methodLink RL 140 yX8_back : Cond) ∈ lw_tbl := p1_w 1019 (by decide +kernel)
  have k_0 := hts _ m_0
  have m_1 : (.instanceMethod yX8_back : Cond) ∈ lw_tbl := p1_w 1020 (by decide +kernel)
  have k_1 := hts _ m_1
  have m_2 : (.selects RX8 yX8_back yX8_back : Cond) ∈ lw_tbl := p1_w 1021 (by decide +kernel)
  have k_2 := hts _ m_2
  have m_3 : (.initialized RX8 : Cond) ∈ lw_tbl := p1_w 104 (by decide +kernel)
  have k_3 := hts _ m_3
  have m_4 : (.methodLink RL 143 yX9_back : Cond) ∈ lw_tbl := p1_w 1681 (by decide +kernel)
  have k_4 := hts _ m_4
  have m_5 : (.instanceMethod yX9_back : Cond) ∈ lw_tbl := p1_w 1682 (by decide +kernel)
  have k_5 := hts _ m_5
  have m_6 : (.selects RX9 yX9_back yX9_back : Cond) ∈ lw_tbl := p1_w 1683 (by decide +kernel)
  have k_6 := hts _ m_6
  have m_7 : (.initialized RX9 : Cond) ∈ lw_tbl := p1_w 116 (by decide +kernel)
  have k_7 := hts _ m_7
  have g_x_back := iz_x_back
  have g_m_back := iz_m_back
  refine lv_aload_n hx hb dL_law_1336 rfl (lv_at hl 2 rfl) ?_
  refine lv_aload_n hx hb dL_law_1337 rfl (lv_at hl 3 rfl) ?_
  refine lv_iload_n hx hb dL_law_1338 rfl (lv_at hl 0 rfl) ?_
  refine lv_iconst (v := 1) hx hb dL_law_1339 (by decide) ?_
  refine lv_iadd hx hb dL_law_1340 ?_
  refine lv_topi (fun v_1 ev_1 => ?_)
  obtain rfl : v_1 = 1 := ev_1.trans (by decide)
  refine va_sld hx hb hX hbl hbA hS (p1_in (i := 1) (n := 6) (by decide)) dL_law_1341 ?_
  have hPc := hP.sub (ws' := [(xx, .inr (7, xxs)), (xbx, .inl (xcX, 3, .inr (.inr (.inr (.inr (va_up (va_up (va_up (fun _ => none) (0 : Int32).toNatClampNeg (some xb0)) (1 : Int32).toNatClampNeg (some xb1)) (2 : Int32).toNatClampNeg (some xb2))))))), (xb0, .inr (1, xbf0)), (xb1, .inr (1, xbf1)), (xb2, .inr (1, xbf2))]) [0, 1, 2, 3, 4] rfl
  have hDc := hD.sub (ws' := [(xx, .inr (7, xxs)), (xbx, .inl (xcX, 3, .inr (.inr (.inr (.inr (va_up (va_up (va_up (fun _ => none) (0 : Int32).toNatClampNeg (some xb0)) (1 : Int32).toNatClampNeg (some xb1)) (2 : Int32).toNatClampNeg (some xb2))))))), (xb0, .inr (1, xbf0)), (xb1, .inr (1, xbf1)), (xb2, .inr (1, xbf2))]) [0, 1, 2, 3, 4] (by decide) rfl
  have hKc := hK.sub (tys' := [(xcX, .object "BowWalk$Box")]) [0] rfl
  have hFc := va_free (wc := [(xx, .inr (7, xxs)), (xbx, .inl (xcX, 3, .inr (.inr (.inr (.inr (va_up (va_up (va_up (fun _ => none) (0 : Int32).toNatClampNeg (some xb0)) (1 : Int32).toNatClampNeg (some xb1)) (2 : Int32).toNatClampNeg (some xb2))))))), (xb0, .inr (1, xbf0)), (xb1, .inr (1, xbf1)), (xb2, .inr (1, xbf2))]) hD hS hA [0, 1, 2, 3, 4] rfl
  refine va_calli (va_runV (As := [.int (xs (1 : Int32).toNatClampNeg)]) (rest := []) ⟨hx, hb, hml, hown, hts⟩ (x_back l dC dI H.size xx xxs xbx xcX xb0 xbf0 xb1 xbf1 xb2 xbf2 ((xs (1 : Int32).toNatClampNeg)) f_xxs_5 f_xbf0_2 f_xbf1_2 f_xbf2_2) (cwV 1 hts (p1_gV m_0 m_1 m_2 m_3 g_x_back gz_x_back) rfl rfl rfl (by decide +kernel) ⟨by decide, by decide⟩) ⟨fun a U g mk q => by obtain ⟨q0, q1, qP, qK, qD⟩ := q; exact ⟨q0, q1, qP, va_K.moved (u := U) (U := U.calling g mk a) (Vm.Alike.refl U.vm) qK, qD⟩, va_recv hKc hPc (ci := 7) (q0 := 0) rfl rfl, fun U hU hW => ⟨rfl, by rw [hU], by rw [hU]; exact hPc, va_K.moved hW.alike hKc, hDc.weaken (fun _ _ _ _ => trivial)⟩⟩ rfl rfl hl.1 rfl (lv_room (Nat.le_of_ble_eq_true rfl)) dL_law_1342 ⟨by decide, by decide⟩) hS (fun q _ h => hFc q h) hFc (fun r_2 u t H1 locs ht hvm hw hB hz1 hk1 hS => ?_)
  obtain ⟨hP1, hK1, hD1⟩ := hB
  rw [ht] at hP1
  obtain ⟨hP, hD⟩ := va_join (wr := [(rmo, .inr (8, rms)), (rbm, .inl (rcB, 4, .inl rbmf))]) (w1 := []) hP hD [0, 1, 2, 3, 4] [5, 6] rfl rfl (by decide) (by decide) hk1 hFc hP1 hD1
  generalize H1 = H at hP hS ⊢
  have hP : va_P (dC, dI) vwCl [(rmo, .inr (8, rms)), (rbm, .inl (rcB, 4, .inl rbmf))] H := hP
  have hD : va_D A [(rmo, .inr (8, rms)), (rbm, .inl (rcB, 4, .inl rbmf))] := hD
  try dsimp only at hw
  obtain rfl : r_2 = (-1) := hw
  refine lv_aload_n hx hb dL_law_1345 rfl (lv_at hl 1 rfl) ?_
  refine lv_aload_n hx hb dL_law_1346 rfl (lv_at hl 3 rfl) ?_
  refine lv_iload_n hx hb dL_law_1347 rfl (lv_at hl 0 rfl) ?_
  refine lv_iconst (v := 1) hx hb dL_law_1348 (by decide) ?_
  refine lv_iadd hx hb dL_law_1349 ?_
  refine lv_topi (fun v_3 ev_3 => ?_)
  obtain rfl : v_3 = 1 := ev_3.trans (by decide)
  refine va_sld hx hb hX hbl hbA hS (p1_in (i := 1) (n := 6) (by decide)) dL_law_1350 ?_
  have hPc := hP.sub (ws' := [(rmo, .inr (8, rms)), (rbm, .inl (rcB, 4, .inl rbmf))]) [0, 1] rfl
  have hDc := hD.sub (ws' := [(rmo, .inr (8, rms)), (rbm, .inl (rcB, 4, .inl rbmf))]) [0, 1] (by decide) rfl
  have hKc := hK.sub (tys' := [(rcB, .int)]) [1] rfl
  have hFc := va_free (wc := [(rmo, .inr (8, rms)), (rbm, .inl (rcB, 4, .inl rbmf))]) hD hS hA [0, 1] rfl
  refine va_calli (va_runV (As := [.int (xs (1 : Int32).toNatClampNeg)]) (rest := [.int (-1)]) ⟨hx, hb, hml, hown, hts⟩ (m_back l dC dI H.size rmo rms rbm rcB rbmf ((xs (1 : Int32).toNatClampNeg)) f_rms_78 h_rbmf_0 h_rbmf_1 h_rbmf_2 h_rbmf_3) (cwV 1 hts (p1_gV m_4 m_5 m_6 m_7 g_m_back gz_m_back) rfl rfl rfl (by decide +kernel) ⟨by decide, by decide⟩) ⟨fun a U g mk q => by obtain ⟨q0, q1, qP, qK, qD⟩ := q; exact ⟨q0, q1, qP, va_K.moved (u := U) (U := U.calling g mk a) (Vm.Alike.refl U.vm) qK, qD⟩, va_recv hKc hPc (ci := 8) (q0 := 0) rfl rfl, fun U hU hW => ⟨rfl, by rw [hU], by rw [hU]; exact hPc, va_K.moved hW.alike hKc, hDc.weaken (fun _ _ _ _ => trivial)⟩⟩ rfl rfl hl.1 rfl (lv_room (Nat.le_of_ble_eq_true rfl)) dL_law_1351 ⟨by decide, by decide⟩) hS (fun q _ h => hFc q h) hFc (fun r_4 u t H1 locs ht hvm hw hB hz1 hk1 hS => ?_)
  obtain ⟨hP1, hK1, hD1⟩ := hB
  rw [ht] at hP1
  obtain ⟨hP, hD⟩ := va_join (wr := []) (w1 := []) hP hD [0, 1] [] rfl rfl (by decide) (by decide) hk1 hFc hP1 hD1
  generalize H1 = H at hP hS ⊢
  have hP : va_P (dC, dI) vwCl [] H := hP
  have hD : va_D A [] := hD
  try dsimp only at hw
  obtain rfl : r_4 = (-1) := hw
  refine lv_icmp_eq (tgt := 1382) hx hb dL_law_1354 (by decide) (fun _ => ?_) (fun c9 => absurd c9 (by decide))
  refine lv_iinc (v := 6) (lv' := [(3, .int 6), (2, .ref rmo), (1, .ref xx), (0, .ref b)]) hx hb dL_law_1382 hl (k := 0) rfl (by decide) (by decide) rfl (fun ls hl => ?_)
  refine lv_goto (tgt := 18) hx hb dL_law_1385 (by decide) ?_
  refine lv_iload_n hx hb dL_law_18 rfl (lv_at hl 0 rfl) ?_
  refine lv_aload_n hx hb dL_law_19 rfl (lv_at hl 3 rfl) ?_
  refine va_slen hx hb hX hbl hbA hS dL_law_20 ?_
  refine lv_topi (fun v_6 ev_6 => ?_)
  obtain rfl : v_6 = 6 := ev_6.trans rfl
  refine lv_bipush (v := 6) hx hb dL_law_21 (by decide) ?_
  refine lv_isub hx hb dL_law_23 ?_
  refine lv_topi (fun v_7 ev_7 => ?_)
  obtain rfl : v_7 = 0 := ev_7.trans (by decide)
  refine lv_icmp_gt (tgt := 1388) hx hb dL_law_24 (by decide) (fun _ => ?_) (fun c9 => absurd c9 (by decide))
  refine lv_iconst (v := 1) hx hb dL_law_1388 (by decide) ?_
  refine va_forget (fun q hq => by have h9 := hS.2.2 q hq; rw [hAe] at h9; exact h9) ?_
  refine W.widen (k := 600000) (n := 7302249) (by decide) (by decide) ?_
  exact lw_ret hx hb hr hlocks dL_law_1389
set_option maxHeartbeats 4000000 in
set_option maxRecDepth 100000 in
theorem law_about {p : Program} {e : Env} {s : State} {m : MethodId} {below : List Frame} {meth : Method} {c : Code} (l : Launch) {b : Nat} {xs : Nat → Int32} (C0 : lw_At p s m meth c b 6 xs) {A : Nat → Prop} (hAe : A = fun q : Nat => s.heap.size ≤ q) (hE : p1_ex A s s.heap) (dC : Nat → ClassId) (dI : Nat → Nat → Nat) (xx : Nat) (xxs : List Value) (xsh : Nat) (xfl : Nat) (xss : List Value) (xsc : Nat) (xlw : Nat) (xcS : ClassId) (xff : List Value) (xlf : List Value) (rmo : Nat) (rms : List Value) (rkn : Nat) (rco : Nat) (rwa : Nat) (rla : Nat) (rwt : Nat) (run : Nat) (rcK : ClassId) (rkf : Nat → Int32) (rcC : ClassId) (rcf : Nat → Int32) (rcW : ClassId) (rwf : Nat → Int32) (rcL : ClassId) (rlf : Nat → Int32) (rcT : ClassId) (rtf : Nat → Int32) (rcU : ClassId) (ruf : Nat → Int32) (f_xxs_9 : xxs[9]? = some (.ref xsh)) (f_xxs_4 : xxs[4]? = some (.ref xfl)) (f_xxs_13 : xxs[13]? = some (.int 0)) (f_xxs_10 : xxs[10]? = some (.int 0)) (f_xxs_12 : xxs[12]? = some (.int 1)) (f_xss_0 : xss[0]? = some (.ref xsc)) (f_xss_12 : xss[12]? = some (.ref xlw)) (f_xff_7 : xff[7]? = some (.int 0)) (f_xlf_5 : xlf[5]? = some (.int 0)) (f_rms_11 : rms[11]? = some (.ref rkn)) (f_rms_12 : rms[12]? = some (.ref rco)) (f_rms_13 : rms[13]? = some (.ref rwa)) (f_rms_14 : rms[14]? = some (.ref rla)) (f_rms_15 : rms[15]? = some (.ref rwt)) (f_rms_18 : rms[18]? = some (.ref run)) (f_rms_43 : rms[43]? = some (.int 0)) (f_rms_75 : rms[75]? = some (.int 0)) (f_rms_76 : rms[76]? = some (.int 0)) (f_rms_2 : rms[2]? = some (.int 0)) (f_rms_65 : rms[65]? = some (.int 1)) (h_rkf_0 : rkf 0 = 0) (h_rcf_0 : rcf 0 = 0) (h_rwf_0 : rwf 0 = 0) (h_rlf_0 : rlf 0 = 0) (h_rtf_0 : rtf 0 = 0) (h_ruf_0 : ruf 0 = 0) (H : Heap) (locs : List Loc) (ls : Array Slot) (hK : va_K (dC, dI) vwCl [(xcS, .int), (rcK, .int), (rcC, .int), (rcW, .int), (rcL, .int), (rcT, .int), (rcU, .int)] s) (hP : va_P (dC, dI) vwCl [(xx, .inr (7, xxs)), (xsh, .inr (5, xss)), (xsc, .inl (xcS, 5, .inl (fun _ => 0))), (xfl, .inr (2, xff)), (xlw, .inr (3, xlf)), (rmo, .inr (8, rms)), (rkn, .inl (rcK, 2, .inl rkf)), (rco, .inl (rcC, 2, .inl rcf)), (rwa, .inl (rcW, 2, .inl rwf)), (rla, .inl (rcL, 2, .inl rlf)), (rwt, .inl (rcT, 2, .inl rtf)), (run, .inl (rcU, 2, .inl ruf))] H) (hD : va_D A [(xx, .inr (7, xxs)), (xsh, .inr (5, xss)), (xsc, .inl (xcS, 5, .inl (fun _ => 0))), (xfl, .inr (2, xff)), (xlw, .inr (3, xlf)), (rmo, .inr (8, rms)), (rkn, .inl (rcK, 2, .inl rkf)), (rco, .inl (rcC, 2, .inl rcf)), (rwa, .inl (rcW, 2, .inl rwf)), (rla, .inl (rcL, 2, .inl rlf)), (rwt, .inl (rcT, 2, .inl rtf)), (run, .inl (rcU, 2, .inl ruf))]) (hS : va_S A s.heap H locs) (hl : lv_has ls 4 [(3, .int 0), (2, .ref rmo), (1, .ref xx), (0, .ref b)]) : W p l e room_1 s m #[Value.ref b] below meth c H locs 152 11751 (lw_Z below #[Value.ref b] s) (F0 m 1359 ls []) := by
  obtain ⟨hx, hb, hr, hml, hown, hts, hX, hbl, hlocks, hgv⟩ := id C0
  have hown : s.vm.findClass RL = some m.cls := hown
  have hA : ∀ q : Nat, s.heap.size ≤ q → A q := by rw [hAe]; exact fun _ h => h
  have hbA : ¬ A b := by rw [hAe]; exact Nat.not_le.mpr hbl
  have m_0 : (.methodLink RL 144 yX8_about : Cond) ∈ lw_tbl := p1_w 1023 (by decide +kernel)
  have k_0 := hts _ m_0
  have m_1 : (.instanceMethod yX8_about : Cond) ∈ lw_tbl := p1_w 1024 (by decide +kernel)
  have k_1 := hts _ m_1
  have m_2 : (.selects RX8 yX8_about yX8_about : Cond) ∈ lw_tbl := p1_w 1025 (by decide +kernel)
  have k_2 := hts _ m_2
  have m_3 : (.initialized RX8 : Cond) ∈ lw_tbl := p1_w 104 (by decide +kernel)
  have k_3 := hts _ m_3
  have m_4 : (.methodLink RL 147 yX9_about : Cond) ∈ lw_tbl := p1_w 1685 (by decide +kernel)
  have k_4 := hts _ m_4
  have m_5 : (.instanceMethod yX9_about : Cond) ∈ lw_tbl := p1_w 1686 (by decide +kernel)
  have k_5 := hts _ m_5
  have m_6 : (.selects RX9 yX9_about yX9_about : Cond) ∈ lw_tbl := p1_w 1687 (by decide +kernel)
  have k_6 := hts _ m_6
  have m_7 : (.initialized RX9 : Cond) ∈ lw_tbl := p1_w 116 (by decide +kernel)
  have k_7 := hts _ m_7
  have g_x_about := iz_x_about
  have g_m_about := iz_m_about
  refine lv_aload_n hx hb dL_law_1359 rfl (lv_at hl 2 rfl) ?_
  refine lv_aload_n hx hb dL_law_1360 rfl (lv_at hl 3 rfl) ?_
  refine lv_iload_n hx hb dL_law_1361 rfl (lv_at hl 0 rfl) ?_
  refine lv_iconst (v := 1) hx hb dL_law_1362 (by decide) ?_
  refine lv_iadd hx hb dL_law_1363 ?_
  refine lv_topi (fun v_1 ev_1 => ?_)
  obtain rfl : v_1 = 1 := ev_1.trans (by decide)
  refine va_sld hx hb hX hbl hbA hS (p1_in (i := 1) (n := 6) (by decide)) dL_law_1364 ?_
  have hPc := hP.sub (ws' := [(xx, .inr (7, xxs)), (xsh, .inr (5, xss)), (xsc, .inl (xcS, 5, .inl (fun _ => 0))), (xfl, .inr (2, xff)), (xlw, .inr (3, xlf))]) [0, 1, 2, 3, 4] rfl
  have hDc := hD.sub (ws' := [(xx, .inr (7, xxs)), (xsh, .inr (5, xss)), (xsc, .inl (xcS, 5, .inl (fun _ => 0))), (xfl, .inr (2, xff)), (xlw, .inr (3, xlf))]) [0, 1, 2, 3, 4] (by decide) rfl
  have hKc := hK.sub (tys' := [(xcS, .int)]) [0] rfl
  have hFc := va_free (wc := [(xx, .inr (7, xxs)), (xsh, .inr (5, xss)), (xsc, .inl (xcS, 5, .inl (fun _ => 0))), (xfl, .inr (2, xff)), (xlw, .inr (3, xlf))]) hD hS hA [0, 1, 2, 3, 4] rfl
  refine va_calli (va_runV (As := [.int (xs (1 : Int32).toNatClampNeg)]) (rest := []) ⟨hx, hb, hml, hown, hts⟩ (x_about l dC dI H.size xx xxs xsh xfl xss xsc xlw xcS xff xlf ((xs (1 : Int32).toNatClampNeg)) f_xxs_9 f_xxs_4 f_xxs_13 f_xxs_10 f_xxs_12 f_xss_0 f_xss_12 f_xff_7 f_xlf_5) (cwV 1 hts (p1_gV m_0 m_1 m_2 m_3 g_x_about gz_x_about) rfl rfl rfl (by decide +kernel) ⟨by decide, by decide⟩) ⟨fun a U g mk q => by obtain ⟨q0, q1, qP, qK, qD⟩ := q; exact ⟨q0, q1, qP, va_K.moved (u := U) (U := U.calling g mk a) (Vm.Alike.refl U.vm) qK, qD⟩, va_recv hKc hPc (ci := 7) (q0 := 0) rfl rfl, fun U hU hW => ⟨rfl, by rw [hU], by rw [hU]; exact hPc, va_K.moved hW.alike hKc, hDc.weaken (fun _ _ _ _ => trivial)⟩⟩ rfl rfl hl.1 rfl (lv_room (Nat.le_of_ble_eq_true rfl)) dL_law_1365 ⟨by decide, by decide⟩) hS (fun q _ h => hFc q h) hFc (fun r_2 u t H1 locs ht hvm hw hB hz1 hk1 hS => ?_)
  obtain ⟨hP1, hK1, hD1⟩ := hB
  rw [ht] at hP1
  obtain ⟨hP, hD⟩ := va_join (wr := [(rmo, .inr (8, rms)), (rkn, .inl (rcK, 2, .inl rkf)), (rco, .inl (rcC, 2, .inl rcf)), (rwa, .inl (rcW, 2, .inl rwf)), (rla, .inl (rcL, 2, .inl rlf)), (rwt, .inl (rcT, 2, .inl rtf)), (run, .inl (rcU, 2, .inl ruf))]) (w1 := []) hP hD [0, 1, 2, 3, 4] [5, 6, 7, 8, 9, 10, 11] rfl rfl (by decide) (by decide) hk1 hFc hP1 hD1
  generalize H1 = H at hP hS ⊢
  have hP : va_P (dC, dI) vwCl [(rmo, .inr (8, rms)), (rkn, .inl (rcK, 2, .inl rkf)), (rco, .inl (rcC, 2, .inl rcf)), (rwa, .inl (rcW, 2, .inl rwf)), (rla, .inl (rcL, 2, .inl rlf)), (rwt, .inl (rcT, 2, .inl rtf)), (run, .inl (rcU, 2, .inl ruf))] H := hP
  have hD : va_D A [(rmo, .inr (8, rms)), (rkn, .inl (rcK, 2, .inl rkf)), (rco, .inl (rcC, 2, .inl rcf)), (rwa, .inl (rcW, 2, .inl rwf)), (rla, .inl (rcL, 2, .inl rlf)), (rwt, .inl (rcT, 2, .inl rtf)), (run, .inl (rcU, 2, .inl ruf))] := hD
  try dsimp only at hw
  have hw_3 := hw
  refine lv_aload_n hx hb dL_law_1368 rfl (lv_at hl 1 rfl) ?_
  refine lv_aload_n hx hb dL_law_1369 rfl (lv_at hl 3 rfl) ?_
  refine lv_iload_n hx hb dL_law_1370 rfl (lv_at hl 0 rfl) ?_
  refine lv_iconst (v := 1) hx hb dL_law_1371 (by decide) ?_
  refine lv_iadd hx hb dL_law_1372 ?_
  refine lv_topi (fun v_4 ev_4 => ?_)
  obtain rfl : v_4 = 1 := ev_4.trans (by decide)
  refine va_sld hx hb hX hbl hbA hS (p1_in (i := 1) (n := 6) (by decide)) dL_law_1373 ?_
  have hPc := hP.sub (ws' := [(rmo, .inr (8, rms)), (rkn, .inl (rcK, 2, .inl rkf)), (rco, .inl (rcC, 2, .inl rcf)), (rwa, .inl (rcW, 2, .inl rwf)), (rla, .inl (rcL, 2, .inl rlf)), (rwt, .inl (rcT, 2, .inl rtf)), (run, .inl (rcU, 2, .inl ruf))]) [0, 1, 2, 3, 4, 5, 6] rfl
  have hDc := hD.sub (ws' := [(rmo, .inr (8, rms)), (rkn, .inl (rcK, 2, .inl rkf)), (rco, .inl (rcC, 2, .inl rcf)), (rwa, .inl (rcW, 2, .inl rwf)), (rla, .inl (rcL, 2, .inl rlf)), (rwt, .inl (rcT, 2, .inl rtf)), (run, .inl (rcU, 2, .inl ruf))]) [0, 1, 2, 3, 4, 5, 6] (by decide) rfl
  have hKc := hK.sub (tys' := [(rcK, .int), (rcC, .int), (rcW, .int), (rcL, .int), (rcT, .int), (rcU, .int)]) [1, 2, 3, 4, 5, 6] rfl
  have hFc := va_free (wc := [(rmo, .inr (8, rms)), (rkn, .inl (rcK, 2, .inl rkf)), (rco, .inl (rcC, 2, .inl rcf)), (rwa, .inl (rcW, 2, .inl rwf)), (rla, .inl (rcL, 2, .inl rlf)), (rwt, .inl (rcT, 2, .inl rtf)), (run, .inl (rcU, 2, .inl ruf))]) hD hS hA [0, 1, 2, 3, 4, 5, 6] rfl
  refine va_calli (va_runV (As := [.int (xs (1 : Int32).toNatClampNeg)]) (rest := [.int r_2]) ⟨hx, hb, hml, hown, hts⟩ (m_about l dC dI H.size rmo rms rkn rco rwa rla rwt run rcK rkf rcC rcf rcW rwf rcL rlf rcT rtf rcU ruf ((xs (1 : Int32).toNatClampNeg)) f_rms_11 f_rms_12 f_rms_13 f_rms_14 f_rms_15 f_rms_18 f_rms_43 f_rms_75 f_rms_76 f_rms_2 f_rms_65 h_rkf_0 h_rcf_0 h_rwf_0 h_rlf_0 h_rtf_0 h_ruf_0) (cwV 1 hts (p1_gV m_4 m_5 m_6 m_7 g_m_about gz_m_about) rfl rfl rfl (by decide +kernel) ⟨by decide, by decide⟩) ⟨fun a U g mk q => by obtain ⟨q0, q1, qP, qK, qD⟩ := q; exact ⟨q0, q1, qP, va_K.moved (u := U) (U := U.calling g mk a) (Vm.Alike.refl U.vm) qK, qD⟩, va_recv hKc hPc (ci := 8) (q0 := 0) rfl rfl, fun U hU hW => ⟨rfl, by rw [hU], by rw [hU]; exact hPc, va_K.moved hW.alike hKc, hDc.weaken (fun _ _ _ _ => trivial)⟩⟩ rfl rfl hl.1 rfl (lv_room (Nat.le_of_ble_eq_true rfl)) dL_law_1374 ⟨by decide, by decide⟩) hS (fun q _ h => hFc q h) hFc (fun r_5 u t H1 locs ht hvm hw hB hz1 hk1 hS => ?_)
  obtain ⟨hP1, hK1, hD1⟩ := hB
  rw [ht] at hP1
  obtain ⟨hP, hD⟩ := va_join (wr := []) (w1 := []) hP hD [0, 1, 2, 3, 4, 5, 6] [] rfl rfl (by decide) (by decide) hk1 hFc hP1 hD1
  generalize H1 = H at hP hS ⊢
  have hP : va_P (dC, dI) vwCl [] H := hP
  have hD : va_D A [] := hD
  try dsimp only at hw
  have hw_6 := hw
  refine lv_icmp_eq (tgt := 1382) hx hb dL_law_1377 (by decide) (fun c1377_7 => ?_) (fun c1377_7 => absurd c1377_7 (fun z9 => z9 (hw_3.trans hw_6.symm)))
  refine lv_iinc (v := 6) (lv' := [(3, .int 6), (2, .ref rmo), (1, .ref xx), (0, .ref b)]) hx hb dL_law_1382 hl (k := 0) rfl (by decide) (by decide) rfl (fun ls hl => ?_)
  refine lv_goto (tgt := 18) hx hb dL_law_1385 (by decide) ?_
  refine lv_iload_n hx hb dL_law_18 rfl (lv_at hl 0 rfl) ?_
  refine lv_aload_n hx hb dL_law_19 rfl (lv_at hl 3 rfl) ?_
  refine va_slen hx hb hX hbl hbA hS dL_law_20 ?_
  refine lv_topi (fun v_8 ev_8 => ?_)
  obtain rfl : v_8 = 6 := ev_8.trans rfl
  refine lv_bipush (v := 6) hx hb dL_law_21 (by decide) ?_
  refine lv_isub hx hb dL_law_23 ?_
  refine lv_topi (fun v_9 ev_9 => ?_)
  obtain rfl : v_9 = 0 := ev_9.trans (by decide)
  refine lv_icmp_gt (tgt := 1388) hx hb dL_law_24 (by decide) (fun _ => ?_) (fun c9 => absurd c9 (by decide))
  refine lv_iconst (v := 1) hx hb dL_law_1388 (by decide) ?_
  refine va_forget (fun q hq => by have h9 := hS.2.2 q hq; rw [hAe] at h9; exact h9) ?_
  refine W.widen (k := 600000) (n := 7302249) (by decide) (by decide) ?_
  exact lw_ret hx hb hr hlocks dL_law_1389
