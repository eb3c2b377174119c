set_option maxHeartbeats 4000000 in
set_option maxRecDepth 100000 in
theorem law_feed {p : Program} {e : Env} {s : State} {m : MethodId} {below : List Frame} {meth : Method} {c : Code} (l : Launch) {b : Nat} {xs : Nat → Int32} (C0 : lw_At p s m meth c b 6 xs) {A : Nat → Prop} (hAe : A = fun q : Nat => s.heap.size ≤ q) (hE : p1_ex A s s.heap) (dC : Nat → ClassId) (dI : Nat → Nat → Nat) (xx : Nat) (xxs : List Value) (xtp : Nat) (xcT : ClassId) (xtf : Nat → Int32) (rmo : Nat) (rms : List Value) (rtp : Nat) (rcP : ClassId) (rpf0 : Nat → Int32) (f_xxs_0 : xxs[0]? = some (.ref xtp)) (f_xxs_10 : xxs[10]? = some (.int 0)) (l_xxs : xxs.length = 14) (f_rms_2 : rms[2]? = some (.int 0)) (f_rms_0 : rms[0]? = some (.ref rtp)) (l_rms : rms.length = 81) (H : Heap) (locs : List Loc) (ls : Array Slot) (hK : va_K (dC, dI) vwCl [(xcT, .byte), (rcP, .byte)] s) (hP : va_P (dC, dI) vwCl [(xx, .inr (7, xxs)), (xtp, .inl (xcT, 1600, .inl xtf)), (rmo, .inr (8, rms)), (rtp, .inl (rcP, 1620, .inl rpf0))] H) (hD : va_D A [(xx, .inr (7, xxs)), (xtp, .inl (xcT, 1600, .inl xtf)), (rmo, .inr (8, rms)), (rtp, .inl (rcP, 1620, .inl rpf0))]) (hS : va_S A s.heap H locs) (hl : lv_has ls 4 [(3, .int 0), (2, .ref rmo), (1, .ref xx), (0, .ref b)]) : W p l e room_1 s m #[Value.ref b] below meth c H locs 152 11751 (lw_Z below #[Value.ref b] s) (F0 m 176 ls []) := by
  obtain ⟨hx, hb, hr, hml, hown, hts, hX, hbl, hlocks, hgv⟩ := id C0
  have hown : s.vm.findClass RL = some m.cls := hown
  have hA : ∀ q : Nat, s.heap.size ≤ q → A q := by rw [hAe]; exact fun _ h => h
  have hbA : ¬ A b := by rw [hAe]; exact Nat.not_le.mpr hbl
  have m_0 : (.methodLink RL 13 yX8_feed : Cond) ∈ lw_tbl := p1_w 542 (by decide +kernel)
  have k_0 := hts _ m_0
  have m_1 : (.instanceMethod yX8_feed : Cond) ∈ lw_tbl := p1_w 543 (by decide +kernel)
  have k_1 := hts _ m_1
  have m_2 : (.selects RX8 yX8_feed yX8_feed : Cond) ∈ lw_tbl := p1_w 544 (by decide +kernel)
  have k_2 := hts _ m_2
  have m_3 : (.initialized RX8 : Cond) ∈ lw_tbl := p1_w 104 (by decide +kernel)
  have k_3 := hts _ m_3
  have m_4 : (.methodLink RL 17 yX9_feed : Cond) ∈ lw_tbl := p1_w 1689 (by decide +kernel)
  have k_4 := hts _ m_4
  have m_5 : (.instanceMethod yX9_feed : Cond) ∈ lw_tbl := p1_w 1690 (by decide +kernel)
  have k_5 := hts _ m_5
  have m_6 : (.selects RX9 yX9_feed yX9_feed : Cond) ∈ lw_tbl := p1_w 1691 (by decide +kernel)
  have k_6 := hts _ m_6
  have m_7 : (.initialized RX9 : Cond) ∈ lw_tbl := p1_w 116 (by decide +kernel)
  have k_7 := hts _ m_7
  have g_x_feed := iz_x_feed
  have g_m_feed := iz_m_feed
  refine lv_aload_n hx hb dL_law_176 rfl (lv_at hl 2 rfl) ?_
  refine lv_aload_n hx hb dL_law_177 rfl (lv_at hl 3 rfl) ?_
  refine lv_iload_n hx hb dL_law_178 rfl (lv_at hl 0 rfl) ?_
  refine lv_iconst (v := 1) hx hb dL_law_179 (by decide) ?_
  refine lv_iadd hx hb dL_law_180 ?_
  refine lv_topi (fun v_1 ev_1 => ?_)
  obtain rfl : v_1 = 1 := ev_1.trans (by decide)
  refine va_sld hx hb hX hbl hbA hS (p1_in (i := 1) (n := 6) (by decide)) dL_law_181 ?_
  refine lv_aload_n hx hb dL_law_182 rfl (lv_at hl 3 rfl) ?_
  refine lv_iload_n hx hb dL_law_183 rfl (lv_at hl 0 rfl) ?_
  refine lv_iconst (v := 2) hx hb dL_law_184 (by decide) ?_
  refine lv_iadd hx hb dL_law_185 ?_
  refine lv_topi (fun v_2 ev_2 => ?_)
  obtain rfl : v_2 = 2 := ev_2.trans (by decide)
  refine va_sld hx hb hX hbl hbA hS (p1_in (i := 2) (n := 6) (by decide)) dL_law_186 ?_
  refine lv_aload_n hx hb dL_law_187 rfl (lv_at hl 3 rfl) ?_
  refine lv_iload_n hx hb dL_law_188 rfl (lv_at hl 0 rfl) ?_
  refine lv_iconst (v := 3) hx hb dL_law_189 (by decide) ?_
  refine lv_iadd hx hb dL_law_190 ?_
  refine lv_topi (fun v_3 ev_3 => ?_)
  obtain rfl : v_3 = 3 := ev_3.trans (by decide)
  refine va_sld hx hb hX hbl hbA hS (p1_in (i := 3) (n := 6) (by decide)) dL_law_191 ?_
  refine lv_aload_n hx hb dL_law_192 rfl (lv_at hl 3 rfl) ?_
  refine lv_iload_n hx hb dL_law_193 rfl (lv_at hl 0 rfl) ?_
  refine lv_iconst (v := 4) hx hb dL_law_194 (by decide) ?_
  refine lv_iadd hx hb dL_law_195 ?_
  refine lv_topi (fun v_4 ev_4 => ?_)
  obtain rfl : v_4 = 4 := ev_4.trans (by decide)
  refine va_sld hx hb hX hbl hbA hS (p1_in (i := 4) (n := 6) (by decide)) dL_law_196 ?_
  refine lv_aload_n hx hb dL_law_197 rfl (lv_at hl 3 rfl) ?_
  refine lv_iload_n hx hb dL_law_198 rfl (lv_at hl 0 rfl) ?_
  refine lv_iconst (v := 5) hx hb dL_law_199 (by decide) ?_
  refine lv_iadd hx hb dL_law_200 ?_
  refine lv_topi (fun v_5 ev_5 => ?_)
  obtain rfl : v_5 = 5 := ev_5.trans (by decide)
  refine va_sld hx hb hX hbl hbA hS (p1_in (i := 5) (n := 6) (by decide)) dL_law_201 ?_
  have hPc := hP.sub (ws' := [(xx, .inr (7, xxs)), (xtp, .inl (xcT, 1600, .inl xtf))]) [0, 1] rfl
  have hDc := hD.sub (ws' := [(xx, .inr (7, xxs)), (xtp, .inl (xcT, 1600, .inl xtf))]) [0, 1] (by decide) rfl
  have hKc := hK.sub (tys' := [(xcT, .byte)]) [0] rfl
  have hFc := va_free (wc := [(xx, .inr (7, xxs)), (xtp, .inl (xcT, 1600, .inl xtf))]) hD hS hA [0, 1] rfl
  refine va_calli (va_runV (As := [.int (xs (1 : Int32).toNatClampNeg), .int (xs (2 : Int32).toNatClampNeg), .int (xs (3 : Int32).toNatClampNeg), .int (xs (4 : Int32).toNatClampNeg), .int (xs (5 : Int32).toNatClampNeg)]) (rest := []) ⟨hx, hb, hml, hown, hts⟩ (x_feed l dC dI H.size xx xxs xtp xcT xtf ((xs (1 : Int32).toNatClampNeg)) ((xs (2 : Int32).toNatClampNeg)) ((xs (3 : Int32).toNatClampNeg)) ((xs (4 : Int32).toNatClampNeg)) ((xs (5 : Int32).toNatClampNeg)) f_xxs_0 f_xxs_10 l_xxs) (cwV 5 hts (p1_gV m_0 m_1 m_2 m_3 g_x_feed gz_x_feed) rfl rfl rfl (by decide +kernel) ⟨by decide, by decide⟩) ⟨fun a U g mk q => by obtain ⟨q0, q1, qP, qK, qD⟩ := q; exact ⟨q0, q1, qP, va_K.moved (u := U) (U := U.calling g mk a) (Vm.Alike.refl U.vm) qK, qD⟩, va_recv hKc hPc (ci := 7) (q0 := 0) rfl rfl, fun U hU hW => ⟨rfl, by rw [hU], by rw [hU]; exact hPc, va_K.moved hW.alike hKc, hDc.weaken (fun _ _ _ _ => trivial)⟩⟩ rfl rfl hl.1 rfl (lv_room (Nat.le_of_ble_eq_true rfl)) dL_law_202 ⟨by decide, by decide⟩) hS (fun q _ h => hFc q h) hFc (fun r_6 u t H1 locs ht hvm hw hB hz1 hk1 hS => ?_)
  obtain ⟨hP1, hK1, hD1⟩ := hB
  rw [ht] at hP1
  obtain ⟨hP, hD⟩ := va_join (wr := [(rmo, .inr (8, rms)), (rtp, .inl (rcP, 1620, .inl rpf0))]) (w1 := []) hP hD [0, 1] [2, 3] rfl rfl (by decide) (by decide) hk1 hFc hP1 hD1
  generalize H1 = H at hP hS ⊢
  have hP : va_P (dC, dI) vwCl [(rmo, .inr (8, rms)), (rtp, .inl (rcP, 1620, .inl rpf0))] H := hP
  have hD : va_D A [(rmo, .inr (8, rms)), (rtp, .inl (rcP, 1620, .inl rpf0))] := hD
  try dsimp only at hw
  obtain rfl : r_6 = 20 := hw
  refine lv_aload_n hx hb dL_law_205 rfl (lv_at hl 1 rfl) ?_
  refine lv_aload_n hx hb dL_law_206 rfl (lv_at hl 3 rfl) ?_
  refine lv_iload_n hx hb dL_law_207 rfl (lv_at hl 0 rfl) ?_
  refine lv_iconst (v := 1) hx hb dL_law_208 (by decide) ?_
  refine lv_iadd hx hb dL_law_209 ?_
  refine lv_topi (fun v_7 ev_7 => ?_)
  obtain rfl : v_7 = 1 := ev_7.trans (by decide)
  refine va_sld hx hb hX hbl hbA hS (p1_in (i := 1) (n := 6) (by decide)) dL_law_210 ?_
  refine lv_aload_n hx hb dL_law_211 rfl (lv_at hl 3 rfl) ?_
  refine lv_iload_n hx hb dL_law_212 rfl (lv_at hl 0 rfl) ?_
  refine lv_iconst (v := 2) hx hb dL_law_213 (by decide) ?_
  refine lv_iadd hx hb dL_law_214 ?_
  refine lv_topi (fun v_8 ev_8 => ?_)
  obtain rfl : v_8 = 2 := ev_8.trans (by decide)
  refine va_sld hx hb hX hbl hbA hS (p1_in (i := 2) (n := 6) (by decide)) dL_law_215 ?_
  refine lv_aload_n hx hb dL_law_216 rfl (lv_at hl 3 rfl) ?_
  refine lv_iload_n hx hb dL_law_217 rfl (lv_at hl 0 rfl) ?_
  refine lv_iconst (v := 3) hx hb dL_law_218 (by decide) ?_
  refine lv_iadd hx hb dL_law_219 ?_
  refine lv_topi (fun v_9 ev_9 => ?_)
  obtain rfl : v_9 = 3 := ev_9.trans (by decide)
  refine va_sld hx hb hX hbl hbA hS (p1_in (i := 3) (n := 6) (by decide)) dL_law_220 ?_
  refine lv_aload_n hx hb dL_law_221 rfl (lv_at hl 3 rfl) ?_
  refine lv_iload_n hx hb dL_law_222 rfl (lv_at hl 0 rfl) ?_
  refine lv_iconst (v := 4) hx hb dL_law_223 (by decide) ?_
  refine lv_iadd hx hb dL_law_224 ?_
  refine lv_topi (fun v_10 ev_10 => ?_)
  obtain rfl : v_10 = 4 := ev_10.trans (by decide)
  refine va_sld hx hb hX hbl hbA hS (p1_in (i := 4) (n := 6) (by decide)) dL_law_225 ?_
  refine lv_aload_n hx hb dL_law_226 rfl (lv_at hl 3 rfl) ?_
  refine lv_iload_n hx hb dL_law_227 rfl (lv_at hl 0 rfl) ?_
  refine lv_iconst (v := 5) hx hb dL_law_228 (by decide) ?_
  refine lv_iadd hx hb dL_law_229 ?_
  refine lv_topi (fun v_11 ev_11 => ?_)
  obtain rfl : v_11 = 5 := ev_11.trans (by decide)
  refine va_sld hx hb hX hbl hbA hS (p1_in (i := 5) (n := 6) (by decide)) dL_law_230 ?_
  have hPc := hP.sub (ws' := [(rmo, .inr (8, rms)), (rtp, .inl (rcP, 1620, .inl rpf0))]) [0, 1] rfl
  have hDc := hD.sub (ws' := [(rmo, .inr (8, rms)), (rtp, .inl (rcP, 1620, .inl rpf0))]) [0, 1] (by decide) rfl
  have hKc := hK.sub (tys' := [(rcP, .byte)]) [1] rfl
  have hFc := va_free (wc := [(rmo, .inr (8, rms)), (rtp, .inl (rcP, 1620, .inl rpf0))]) hD hS hA [0, 1] rfl
  refine va_calli (va_runV (As := [.int (xs (1 : Int32).toNatClampNeg), .int (xs (2 : Int32).toNatClampNeg), .int (xs (3 : Int32).toNatClampNeg), .int (xs (4 : Int32).toNatClampNeg), .int (xs (5 : Int32).toNatClampNeg)]) (rest := [.int 20]) ⟨hx, hb, hml, hown, hts⟩ (m_feed l dC dI H.size rmo rms rtp rcP rpf0 ((xs (1 : Int32).toNatClampNeg)) ((xs (2 : Int32).toNatClampNeg)) ((xs (3 : Int32).toNatClampNeg)) ((xs (4 : Int32).toNatClampNeg)) ((xs (5 : Int32).toNatClampNeg)) f_rms_2 f_rms_0 l_rms) (cwV 5 hts (p1_gV m_4 m_5 m_6 m_7 g_m_feed gz_m_feed) rfl rfl rfl (by decide +kernel) ⟨by decide, by decide⟩) ⟨fun a U g mk q => by obtain ⟨q0, q1, qP, qK, qD⟩ := q; exact ⟨q0, q1, qP, va_K.moved (u := U) (U := U.calling g mk a) (Vm.Alike.refl U.vm) qK, qD⟩, va_recv hKc hPc (ci := 8) (q0 := 0) rfl rfl, fun U hU hW => ⟨rfl, by rw [hU], by rw [hU]; exact hPc, va_K.moved hW.alike hKc, hDc.weaken (fun _ _ _ _ => trivial)⟩⟩ rfl rfl hl.1 rfl (lv_room (Nat.le_of_ble_eq_true rfl)) dL_law_231 ⟨by decide, by decide⟩) hS (fun q _ h => hFc q h) hFc (fun r_12 u t H1 locs ht hvm hw hB hz1 hk1 hS => ?_)
  obtain ⟨hP1, hK1, hD1⟩ := hB
  rw [ht] at hP1
  obtain ⟨hP, hD⟩ := va_join (wr := []) (w1 := []) hP hD [0, 1] [] rfl rfl (by decide) (by decide) hk1 hFc hP1 hD1
  generalize H1 = H at hP hS ⊢
  have hP : va_P (dC, dI) vwCl [] H := hP
  have hD : va_D A [] := hD
  try dsimp only at hw
  obtain rfl : r_12 = 20 := hw
  refine lv_icmp_eq (tgt := 1382) hx hb dL_law_234 (by decide) (fun _ => ?_) (fun c9 => absurd c9 (by decide))
  refine lv_iinc (v := 6) (lv' := [(3, .int 6), (2, .ref rmo), (1, .ref xx), (0, .ref b)]) hx hb dL_law_1382 hl (k := 0) rfl (by decide) (by decide) rfl (fun ls hl => ?_)
  refine lv_goto (tgt := 18) hx hb dL_law_1385 (by decide) ?_
  refine lv_iload_n hx hb dL_law_18 rfl (lv_at hl 0 rfl) ?_
  refine lv_aload_n hx hb dL_law_19 rfl (lv_at hl 3 rfl) ?_
  refine va_slen hx hb hX hbl hbA hS dL_law_20 ?_
  refine lv_topi (fun v_14 ev_14 => ?_)
  obtain rfl : v_14 = 6 := ev_14.trans rfl
  refine lv_bipush (v := 6) hx hb dL_law_21 (by decide) ?_
  refine lv_isub hx hb dL_law_23 ?_
  refine lv_topi (fun v_15 ev_15 => ?_)
  obtain rfl : v_15 = 0 := ev_15.trans (by decide)
  refine lv_icmp_gt (tgt := 1388) hx hb dL_law_24 (by decide) (fun _ => ?_) (fun c9 => absurd c9 (by decide))
  refine lv_iconst (v := 1) hx hb dL_law_1388 (by decide) ?_
  refine va_forget (fun q hq => by have h9 := hS.2.2 q hq; rw [hAe] at h9; exact h9) ?_
  refine W.widen (k := 600000) (n := 7302249) (by decide) (by decide) ?_
  exact lw_ret hx hb hr hlocks dL_law_1389
set_option maxHeartbeats 4000000 in
set_option maxRecDepth 100000 in
theorem law_end {p : Program} {e : Env} {s : State} {m : MethodId} {below : List Frame} {meth : Method} {c : Code} (l : Launch) {b : Nat} {xs : Nat → Int32} (C0 : lw_At p s m meth c b 6 xs) {A : Nat → Prop} (hAe : A = fun q : Nat => s.heap.size ≤ q) (hE : p1_ex A s s.heap) (dC : Nat → ClassId) (dI : Nat → Nat → Nat) (xx : Nat) (xxs : List Value) (rmo : Nat) (rms : List Value) (f_xxs_10 : xxs[10]? = some (.int 0)) (l_xxs : xxs.length = 14) (f_rms_2 : rms[2]? = some (.int 0)) (l_rms : rms.length = 81) (H : Heap) (locs : List Loc) (ls : Array Slot) (hK : va_K (dC, dI) vwCl [] s) (hP : va_P (dC, dI) vwCl [(xx, .inr (7, xxs)), (rmo, .inr (8, rms))] H) (hD : va_D A [(xx, .inr (7, xxs)), (rmo, .inr (8, rms))]) (hS : va_S A s.heap H locs) (hl : lv_has ls 4 [(3, .int 0), (2, .ref rmo), (1, .ref xx), (0, .ref b)]) : W p l e room_1 s m #[Value.ref b] below meth c H locs 152 11751 (lw_Z below #[Value.ref b] s) (F0 m 239 ls []) := by
  obtain ⟨hx, hb, hr, hml, hown, hts, hX, hbl, hlocks, hgv⟩ := id C0
  have hown : s.vm.findClass RL = some m.cls := hown
  have hA : ∀ q : Nat, s.heap.size ≤ q → A q := by rw [hAe]; exact fun _ h => h
  have hbA : ¬ A b := by rw [hAe]; exact Nat.not_le.mpr hbl
  have m_0 : (.methodLink RL 18 yX8_end : Cond) ∈ lw_tbl := p1_w 550 (by decide +kernel)
  have k_0 := hts _ m_0
  have m_1 : (.instanceMethod yX8_end : Cond) ∈ lw_tbl := p1_w 551 (by decide +kernel)
  have k_1 := hts _ m_1
  have m_2 : (.selects RX8 yX8_end yX8_end : Cond) ∈ lw_tbl := p1_w 552 (by decide +kernel)
  have k_2 := hts _ m_2
  have m_3 : (.initialized RX8 : Cond) ∈ lw_tbl := p1_w 104 (by decide +kernel)
  have k_3 := hts _ m_3
  have m_4 : (.methodLink RL 22 yX9_end : Cond) ∈ lw_tbl := p1_w 1693 (by decide +kernel)
  have k_4 := hts _ m_4
  have m_5 : (.instanceMethod yX9_end : Cond) ∈ lw_tbl := p1_w 1694 (by decide +kernel)
  have k_5 := hts _ m_5
  have m_6 : (.selects RX9 yX9_end yX9_end : Cond) ∈ lw_tbl := p1_w 1695 (by decide +kernel)
  have k_6 := hts _ m_6
  have m_7 : (.initialized RX9 : Cond) ∈ lw_tbl := p1_w 116 (by decide +kernel)
  have k_7 := hts _ m_7
  have g_x_end := iz_x_end
  have g_m_end := iz_m_end
  refine lv_aload_n hx hb dL_law_239 rfl (lv_at hl 2 rfl) ?_
  refine lv_aload_n hx hb dL_law_240 rfl (lv_at hl 3 rfl) ?_
  refine lv_iload_n hx hb dL_law_241 rfl (lv_at hl 0 rfl) ?_
  refine lv_iconst (v := 1) hx hb dL_law_242 (by decide) ?_
  refine lv_iadd hx hb dL_law_243 ?_
  refine lv_topi (fun v_1 ev_1 => ?_)
  obtain rfl : v_1 = 1 := ev_1.trans (by decide)
  refine va_sld hx hb hX hbl hbA hS (p1_in (i := 1) (n := 6) (by decide)) dL_law_244 ?_
  have hPc := hP.sub (ws' := [(xx, .inr (7, xxs))]) [0] rfl
  have hDc := hD.sub (ws' := [(xx, .inr (7, xxs))]) [0] (by decide) rfl
  have hKc := hK.sub (tys' := []) [] rfl
  have hFc := va_free (wc := [(xx, .inr (7, xxs))]) hD hS hA [0] rfl
  refine va_calli (va_runV (As := [.int (xs (1 : Int32).toNatClampNeg)]) (rest := []) ⟨hx, hb, hml, hown, hts⟩ (x_end l dC dI H.size xx xxs ((xs (1 : Int32).toNatClampNeg)) f_xxs_10 l_xxs) (cwV 1 hts (p1_gV m_0 m_1 m_2 m_3 g_x_end gz_x_end) rfl rfl rfl (by decide +kernel) ⟨by decide, by decide⟩) ⟨fun a U g mk q => by obtain ⟨q0, q1, qP, qK, qD⟩ := q; exact ⟨q0, q1, qP, va_K.moved (u := U) (U := U.calling g mk a) (Vm.Alike.refl U.vm) qK, qD⟩, va_recv hKc hPc (ci := 7) (q0 := 0) rfl rfl, fun U hU hW => ⟨rfl, by rw [hU], by rw [hU]; exact hPc, va_K.moved hW.alike hKc, hDc.weaken (fun _ _ _ _ => trivial)⟩⟩ rfl rfl hl.1 rfl (lv_room (Nat.le_of_ble_eq_true rfl)) dL_law_245 ⟨by decide, by decide⟩) hS (fun q _ h => hFc q h) hFc (fun r_2 u t H1 locs ht hvm hw hB hz1 hk1 hS => ?_)
  obtain ⟨hP1, hK1, hD1⟩ := hB
  rw [ht] at hP1
  obtain ⟨hP, hD⟩ := va_join (wr := [(rmo, .inr (8, rms))]) (w1 := []) hP hD [0] [1] rfl rfl (by decide) (by decide) hk1 hFc hP1 hD1
  generalize H1 = H at hP hS ⊢
  have hP : va_P (dC, dI) vwCl [(rmo, .inr (8, rms))] H := hP
  have hD : va_D A [(rmo, .inr (8, rms))] := hD
  try dsimp only at hw
  have hw_3 := hw
  refine lv_aload_n hx hb dL_law_248 rfl (lv_at hl 1 rfl) ?_
  refine lv_aload_n hx hb dL_law_249 rfl (lv_at hl 3 rfl) ?_
  refine lv_iload_n hx hb dL_law_250 rfl (lv_at hl 0 rfl) ?_
  refine lv_iconst (v := 1) hx hb dL_law_251 (by decide) ?_
  refine lv_iadd hx hb dL_law_252 ?_
  refine lv_topi (fun v_4 ev_4 => ?_)
  obtain rfl : v_4 = 1 := ev_4.trans (by decide)
  refine va_sld hx hb hX hbl hbA hS (p1_in (i := 1) (n := 6) (by decide)) dL_law_253 ?_
  have hPc := hP.sub (ws' := [(rmo, .inr (8, rms))]) [0] rfl
  have hDc := hD.sub (ws' := [(rmo, .inr (8, rms))]) [0] (by decide) rfl
  have hKc := hK.sub (tys' := []) [] rfl
  have hFc := va_free (wc := [(rmo, .inr (8, rms))]) hD hS hA [0] rfl
  refine va_calli (va_runV (As := [.int (xs (1 : Int32).toNatClampNeg)]) (rest := [.int r_2]) ⟨hx, hb, hml, hown, hts⟩ (m_end l dC dI H.size rmo rms ((xs (1 : Int32).toNatClampNeg)) f_rms_2 l_rms) (cwV 1 hts (p1_gV m_4 m_5 m_6 m_7 g_m_end gz_m_end) rfl rfl rfl (by decide +kernel) ⟨by decide, by decide⟩) ⟨fun a U g mk q => by obtain ⟨q0, q1, qP, qK, qD⟩ := q; exact ⟨q0, q1, qP, va_K.moved (u := U) (U := U.calling g mk a) (Vm.Alike.refl U.vm) qK, qD⟩, va_recv hKc hPc (ci := 8) (q0 := 0) rfl rfl, fun U hU hW => ⟨rfl, by rw [hU], by rw [hU]; exact hPc, va_K.moved hW.alike hKc, hDc.weaken (fun _ _ _ _ => trivial)⟩⟩ rfl rfl hl.1 rfl (lv_room (Nat.le_of_ble_eq_true rfl)) dL_law_254 ⟨by decide, by decide⟩) hS (fun q _ h => hFc q h) hFc (fun r_5 u t H1 locs ht hvm hw hB hz1 hk1 hS => ?_)
  obtain ⟨hP1, hK1, hD1⟩ := hB
  rw [ht] at hP1
  obtain ⟨hP, hD⟩ := va_join (wr := []) (w1 := []) hP hD [0] [] rfl rfl (by decide) (by decide) hk1 hFc hP1 hD1
  generalize H1 = H at hP hS ⊢
  have hP : va_P (dC, dI) vwCl [] H := hP
  have hD : va_D A [] := hD
  try dsimp only at hw
  have hw_6 := hw
  refine lv_icmp_eq (tgt := 1382) hx hb dL_law_257 (by decide) (fun c257_7 => ?_) (fun c257_7 => absurd c257_7 (fun z9 => z9 (hw_3.trans hw_6.symm)))
  refine lv_iinc (v := 6) (lv' := [(3, .int 6), (2, .ref rmo), (1, .ref xx), (0, .ref b)]) hx hb dL_law_1382 hl (k := 0) rfl (by decide) (by decide) rfl (fun ls hl => ?_)
  refine lv_goto (tgt := 18) hx hb dL_law_1385 (by decide) ?_
  refine lv_iload_n hx hb dL_law_18 rfl (lv_at hl 0 rfl) ?_
  refine lv_aload_n hx hb dL_law_19 rfl (lv_at hl 3 rfl) ?_
  refine va_slen hx hb hX hbl hbA hS dL_law_20 ?_
  refine lv_topi (fun v_8 ev_8 => ?_)
  obtain rfl : v_8 = 6 := ev_8.trans rfl
  refine lv_bipush (v := 6) hx hb dL_law_21 (by decide) ?_
  refine lv_isub hx hb dL_law_23 ?_
  refine lv_topi (fun v_9 ev_9 => ?_)
  obtain rfl : v_9 = 0 := ev_9.trans (by decide)
  refine lv_icmp_gt (tgt := 1388) hx hb dL_law_24 (by decide) (fun _ => ?_) (fun c9 => absurd c9 (by decide))
  refine lv_iconst (v := 1) hx hb dL_law_1388 (by decide) ?_
  refine va_forget (fun q hq => by have h9 := hS.2.2 q hq; rw [hAe] at h9; exact h9) ?_
  refine W.widen (k := 600000) (n := 7302249) (by decide) (by decide) ?_
  exact lw_ret hx hb hr hlocks dL_law_1389
set_option maxHeartbeats 4000000 in
set_option maxRecDepth 100000 in
theorem law_shop {p : Program} {e : Env} {s : State} {m : MethodId} {below : List Frame} {meth : Method} {c : Code} (l : Launch) {b : Nat} {xs : Nat → Int32} (C0 : lw_At p s m meth c b 6 xs) {A : Nat → Prop} (hAe : A = fun q : Nat => s.heap.size ≤ q) (hE : p1_ex A s s.heap) (dC : Nat → ClassId) (dI : Nat → Nat → Nat) (xx : Nat) (xxs : List Value) (xtp : Nat) (xrd : Nat) (xfl : Nat) (xbx : Nat) (xcsh : Nat) (xcT : ClassId) (xrfs : List Value) (xsh : Nat) (xsfs : List Value) (xsc : Nat) (xlw : Nat) (xon : Nat) (xot : Nat) (xcS : ClassId) (xlf : List Value) (xlc : Nat) (xlb : Nat) (xcN : ClassId) (xnf : Nat → Int32) (xcO : ClassId) (xcc1 : ClassId) (xcb1 : ClassId) (xff : List Value) (xcX : ClassId) (xb0 : Nat) (xb1 : Nat) (xb2 : Nat) (xbf0 : List Value) (xbf1 : List Value) (xbf2 : List Value) (rmo : Nat) (rms : List Value) (rkn : Nat) (rco : Nat) (rwa : Nat) (rla : Nat) (rwt : Nat) (rti : Nat) (rlu : Nat) (rit : Nat) (ril : Nat) (run : Nat) (rbm : Nat) (rcK : ClassId) (rkf : Nat → Int32) (rcC : ClassId) (rcf : Nat → Int32) (rcW : ClassId) (rwf : Nat → Int32) (rcL : ClassId) (rlf : Nat → Int32) (rcT : ClassId) (rtf : Nat → Int32) (rcI : ClassId) (rif0 : Nat → Int32) (rcU : ClassId) (ruf : Nat → Int32) (rcY : ClassId) (ryf : Nat → Int32) (rcZ : ClassId) (rzf : Nat → Int32) (rcV : ClassId) (rcB : ClassId) (rbmf : Nat → Int32) (f_xxs_0 : xxs[0]? = some (.ref xtp)) (f_xxs_1 : xxs[1]? = some (.ref xrd)) (f_xxs_4 : xxs[4]? = some (.ref xfl)) (f_xxs_5 : xxs[5]? = some (.ref xbx)) (f_xxs_9 : xxs[9]? = some (.ref xcsh)) (f_xxs_10 : xxs[10]? = some (.int 0)) (f_xxs_11 : xxs[11]? = some (.int 0)) (l_xxs : xxs.length = 14) (f_xrfs_8 : xrfs[8]? = some (.ref xsh)) (l_xrfs : xrfs.length = 11) (f_xsfs_0 : xsfs[0]? = some (.ref xsc)) (f_xsfs_12 : xsfs[12]? = some (.ref xlw)) (f_xsfs_13 : xsfs[13]? = some (.ref xon)) (f_xsfs_14 : xsfs[14]? = some (.ref xot)) (f_xlf_0 : xlf[0]? = some (.ref xlc)) (f_xlf_1 : xlf[1]? = some (.ref xlb)) (l_xlf : xlf.length = 6) (f_xff_7 : xff[7]? = some (.int 0)) (l_xff : xff.length = 8) (f_xbf0_2 : xbf0[2]? = some (.int 0)) (l_xbf0 : xbf0.length = 3) (f_xbf1_2 : xbf1[2]? = some (.int 0)) (l_xbf1 : xbf1.length = 3) (f_xbf2_2 : xbf2[2]? = some (.int 0)) (l_xbf2 : xbf2.length = 3) (f_rms_11 : rms[11]? = some (.ref rkn)) (f_rms_12 : rms[12]? = some (.ref rco)) (f_rms_13 : rms[13]? = some (.ref rwa)) (f_rms_14 : rms[14]? = some (.ref rla)) (f_rms_15 : rms[15]? = some (.ref rwt)) (f_rms_16 : rms[16]? = some (.ref rti)) (f_rms_17 : rms[17]? = some (.ref rlu)) (f_rms_19 : rms[19]? = some (.ref rit)) (f_rms_20 : rms[20]? = some (.ref ril)) (f_rms_2 : rms[2]? = some (.int 0)) (f_rms_43 : rms[43]? = some (.int 0)) (f_rms_18 : rms[18]? = some (.ref run)) (f_rms_78 : rms[78]? = some (.ref rbm)) (l_rms : rms.length = 81) (H : Heap) (locs : List Loc) (ls : Array Slot) (hK : va_K (dC, dI) vwCl [(xcT, .byte), (xcS, .int), (xcN, .int), (xcO, .boolean), (xcc1, .int), (xcb1, .int), (xcX, .object "BowWalk$Box"), (rcK, .int), (rcC, .int), (rcW, .int), (rcL, .int), (rcT, .int), (rcI, .int), (rcU, .int), (rcY, .boolean), (rcZ, .boolean), (rcV, .int), (rcB, .int)] s) (hP : va_P (dC, dI) vwCl [(xx, .inr (7, xxs)), (xtp, .inl (xcT, 1600, .inl (fun _ => 0))), (xrd, .inr (4, xrfs)), (xsh, .inr (5, xsfs)), (xsc, .inl (xcS, 5, .inl (fun _ => 0))), (xlw, .inr (3, xlf)), (xon, .inl (xcN, 2, .inl xnf)), (xot, .inl (xcO, 2, .inl (fun _ => 0))), (xlc, .inl (xcc1, 600, .inl (fun _ => 0))), (xlb, .inl (xcb1, 6, .inl (fun _ => 0))), (xfl, .inr (2, xff)), (xbx, .inl (xcX, 3, .inr (.inr (.inr (.inr (va_up (va_up (va_up (fun _ => none) (0 : Int32).toNatClampNeg (some xb0)) (1 : Int32).toNatClampNeg (some xb1)) (2 : Int32).toNatClampNeg (some xb2))))))), (xb0, .inr (1, xbf0)), (xb1, .inr (1, xbf1)), (xb2, .inr (1, xbf2)), (rmo, .inr (8, rms)), (rkn, .inl (rcK, 2, .inl rkf)), (rco, .inl (rcC, 2, .inl rcf)), (rwa, .inl (rcW, 2, .inl rwf)), (rla, .inl (rcL, 2, .inl rlf)), (rwt, .inl (rcT, 2, .inl rtf)), (rti, .inl (rcI, 2, .inl rif0)), (rlu, .inl (rcU, 2, .inl ruf)), (rit, .inl (rcY, 2, .inl ryf)), (ril, .inl (rcZ, 2, .inl rzf)), (run, .inl (rcV, 2, .inl (fun _ => 0))), (rbm, .inl (rcB, 4, .inl rbmf))] H) (hD : va_D A [(xx, .inr (7, xxs)), (xtp, .inl (xcT, 1600, .inl (fun _ => 0))), (xrd, .inr (4, xrfs)), (xsh, .inr (5, xsfs)), (xsc, .inl (xcS, 5, .inl (fun _ => 0))), (xlw, .inr (3, xlf)), (xon, .inl (xcN, 2, .inl xnf)), (xot, .inl (xcO, 2, .inl (fun _ => 0))), (xlc, .inl (xcc1, 600, .inl (fun _ => 0))), (xlb, .inl (xcb1, 6, .inl (fun _ => 0))), (xfl, .inr (2, xff)), (xbx, .inl (xcX, 3, .inr (.inr (.inr (.inr (va_up (va_up (va_up (fun _ => none) (0 : Int32).toNatClampNeg (some xb0)) (1 : Int32).toNatClampNeg (some xb1)) (2 : Int32).toNatClampNeg (some xb2))))))), (xb0, .inr (1, xbf0)), (xb1, .inr (1, xbf1)), (xb2, .inr (1, xbf2)), (rmo, .inr (8, rms)), (rkn, .inl (rcK, 2, .inl rkf)), (rco, .inl (rcC, 2, .inl rcf)), (rwa, .inl (rcW, 2, .inl rwf)), (rla, .inl (rcL, 2, .inl rlf)), (rwt, .inl (rcT, 2, .inl rtf)), (rti, .inl (rcI, 2, .inl rif0)), (rlu, .inl (rcU, 2, .inl ruf)), (rit, .inl (rcY, 2, .inl ryf)), (ril, .inl (rcZ, 2, .inl rzf)), (run, .inl (rcV, 2, .inl (fun _ => 0))), (rbm, .inl (rcB, 4, .inl rbmf))]) (hS : va_S A s.heap H locs) (hl : lv_has ls 4 [(3, .int 0), (2, .ref rmo), (1, .ref xx), (0, .ref b)]) : W p l e room_1 s m #[Value.ref b] below meth c H locs 152 11751 (lw_Z below #[Value.ref b] s) (F0 m 262 ls []) := by
  obtain ⟨hx, hb, hr, hml, hown, hts, hX, hbl, hlocks, hgv⟩ := id C0
  have hown : s.vm.findClass RL = some m.cls := hown
  have hA : ∀ q : Nat, s.heap.size ≤ q → A q := by rw [hAe]; exact fun _ h => h
  have hbA : ¬ A b := by rw [hAe]; exact Nat.not_le.mpr hbl
  have m_0 : (.methodLink RL 23 yX8_shop : Cond) ∈ lw_tbl := p1_w 554 (by decide +kernel)
  have k_0 := hts _ m_0
  have m_1 : (.instanceMethod yX8_shop : Cond) ∈ lw_tbl := p1_w 555 (by decide +kernel)
  have k_1 := hts _ m_1
  have m_2 : (.selects RX8 yX8_shop yX8_shop : Cond) ∈ lw_tbl := p1_w 556 (by decide +kernel)
  have k_2 := hts _ m_2
  have m_3 : (.initialized RX8 : Cond) ∈ lw_tbl := p1_w 104 (by decide +kernel)
  have k_3 := hts _ m_3
  have m_4 : (.methodLink RL 27 yX9_shop : Cond) ∈ lw_tbl := p1_w 1281 (by decide +kernel)
  have k_4 := hts _ m_4
  have m_5 : (.instanceMethod yX9_shop : Cond) ∈ lw_tbl := p1_w 1282 (by decide +kernel)
  have k_5 := hts _ m_5
  have m_6 : (.selects RX9 yX9_shop yX9_shop : Cond) ∈ lw_tbl := p1_w 1283 (by decide +kernel)
  have k_6 := hts _ m_6
  have m_7 : (.initialized RX9 : Cond) ∈ lw_tbl := p1_w 116 (by decide +kernel)
  have k_7 := hts _ m_7
  have g_x_shop := iz_x_shop
  have g_m_shop := iz_m_shop
  refine lv_aload_n hx hb dL_law_262 rfl (lv_at hl 2 rfl) ?_
  have hPc := hP.sub (ws' := [(xx, .inr (7, xxs)), (xtp, .inl (xcT, 1600, .inl (fun _ => 0))), (xrd, .inr (4, xrfs)), (xsh, .inr (5, xsfs)), (xsc, .inl (xcS, 5, .inl (fun _ => 0))), (xlw, .inr (3, xlf)), (xon, .inl (xcN, 2, .inl xnf)), (xot, .inl (xcO, 2, .inl (fun _ => 0))), (xlc, .inl (xcc1, 600, .inl (fun _ => 0))), (xlb, .inl (xcb1, 6, .inl (fun _ => 0))), (xfl, .inr (2, xff)), (xbx, .inl (xcX, 3, .inr (.inr (.inr (.inr (va_up (va_up (va_up (fun _ => none) (0 : Int32).toNatClampNeg (some xb0)) (1 : Int32).toNatClampNeg (some xb1)) (2 : Int32).toNatClampNeg (some xb2))))))), (xb0, .inr (1, xbf0)), (xb1, .inr (1, xbf1)), (xb2, .inr (1, xbf2))]) [0, 1, 2, 3, 4, 5, 6, 7, 8, 9, 10, 11, 12, 13, 14] rfl
  have hDc := hD.sub (ws' := [(xx, .inr (7, xxs)), (xtp, .inl (xcT, 1600, .inl (fun _ => 0))), (xrd, .inr (4, xrfs)), (xsh, .inr (5, xsfs)), (xsc, .inl (xcS, 5, .inl (fun _ => 0))), (xlw, .inr (3, xlf)), (xon, .inl (xcN, 2, .inl xnf)), (xot, .inl (xcO, 2, .inl (fun _ => 0))), (xlc, .inl (xcc1, 600, .inl (fun _ => 0))), (xlb, .inl (xcb1, 6, .inl (fun _ => 0))), (xfl, .inr (2, xff)), (xbx, .inl (xcX, 3, .inr (.inr (.inr (.inr (va_up (va_up (va_up (fun _ => none) (0 : Int32).toNatClampNeg (some xb0)) (1 : Int32).toNatClampNeg (some xb1)) (2 : Int32).toNatClampNeg (some xb2))))))), (xb0, .inr (1, xbf0)), (xb1, .inr (1, xbf1)), (xb2, .inr (1, xbf2))]) [0, 1, 2, 3, 4, 5, 6, 7, 8, 9, 10, 11, 12, 13, 14] (by decide) rfl
  have hKc := hK.sub (tys' := [(xcT, .byte), (xcS, .int), (xcN, .int), (xcO, .boolean), (xcc1, .int), (xcb1, .int), (xcX, .object "BowWalk$Box")]) [0, 1, 2, 3, 4, 5, 6] rfl
  have hFc := va_free (wc := [(xx, .inr (7, xxs)), (xtp, .inl (xcT, 1600, .inl (fun _ => 0))), (xrd, .inr (4, xrfs)), (xsh, .inr (5, xsfs)), (xsc, .inl (xcS, 5, .inl (fun _ => 0))), (xlw, .inr (3, xlf)), (xon, .inl (xcN, 2, .inl xnf)), (xot, .inl (xcO, 2, .inl (fun _ => 0))), (xlc, .inl (xcc1, 600, .inl (fun _ => 0))), (xlb, .inl (xcb1, 6, .inl (fun _ => 0))), (xfl, .inr (2, xff)), (xbx, .inl (xcX, 3, .inr (.inr (.inr (.inr (va_up (va_up (va_up (fun _ => none) (0 : Int32).toNatClampNeg (some xb0)) (1 : Int32).toNatClampNeg (some xb1)) (2 : Int32).toNatClampNeg (some xb2))))))), (xb0, .inr (1, xbf0)), (xb1, .inr (1, xbf1)), (xb2, .inr (1, xbf2))]) hD hS hA [0, 1, 2, 3, 4, 5, 6, 7, 8, 9, 10, 11, 12, 13, 14] rfl
  refine va_calli (va_runV (As := []) (rest := []) ⟨hx, hb, hml, hown, hts⟩ (x_shop l dC dI H.size xx xxs xtp xrd xfl xbx xcsh xcT xrfs xsh xsfs xsc xlw xon xot xcS xlf xlc xlb xcN xnf xcO xcc1 xcb1 xff xcX xb0 xbf0 xb1 xbf1 xb2 xbf2 f_xxs_0 f_xxs_1 f_xxs_4 f_xxs_5 f_xxs_9 f_xxs_10 f_xxs_11 l_xxs f_xrfs_8 l_xrfs f_xsfs_0 f_xsfs_12 f_xsfs_13 f_xsfs_14 f_xlf_0 f_xlf_1 l_xlf f_xff_7 l_xff f_xbf0_2 l_xbf0 f_xbf1_2 l_xbf1 f_xbf2_2 l_xbf2) (cwV 0 hts (p1_gV m_0 m_1 m_2 m_3 g_x_shop gz_x_shop) rfl rfl rfl (by decide +kernel) ⟨by decide, by decide⟩) ⟨fun a U g mk q => by obtain ⟨q0, q1, qP, qK, qD, qE⟩ := q; exact ⟨q0, q1, qP, va_K.moved (u := U) (U := U.calling g mk a) (Vm.Alike.refl U.vm) qK, qD, qE⟩, va_recv hKc hPc (ci := 7) (q0 := 0) rfl rfl, fun U hU hW => ⟨rfl, by rw [hU], by rw [hU]; exact hPc, va_K.moved hW.alike hKc, hDc.weaken (fun _ _ _ _ => trivial), by rw [hU]; exact p1_ex.warm hE hW hS (fun q h => hFc q h)⟩⟩ rfl rfl hl.1 rfl (lv_room (Nat.le_of_ble_eq_true rfl)) dL_law_263 ⟨by decide, by decide⟩) hS (fun q _ h => hFc q h) hFc (fun r_1 u t H1 locs ht hvm hw hB hz1 hk1 hS => ?_)
  obtain ⟨hP1, hK1, hD1⟩ := hB
  rw [ht] at hP1
  obtain ⟨hP, hD⟩ := va_join (wr := [(rmo, .inr (8, rms)), (rkn, .inl (rcK, 2, .inl rkf)), (rco, .inl (rcC, 2, .inl rcf)), (rwa, .inl (rcW, 2, .inl rwf)), (rla, .inl (rcL, 2, .inl rlf)), (rwt, .inl (rcT, 2, .inl rtf)), (rti, .inl (rcI, 2, .inl rif0)), (rlu, .inl (rcU, 2, .inl ruf)), (rit, .inl (rcY, 2, .inl ryf)), (ril, .inl (rcZ, 2, .inl rzf)), (run, .inl (rcV, 2, .inl (fun _ => 0))), (rbm, .inl (rcB, 4, .inl rbmf))]) (w1 := []) hP hD [0, 1, 2, 3, 4, 5, 6, 7, 8, 9, 10, 11, 12, 13, 14] [15, 16, 17, 18, 19, 20, 21, 22, 23, 24, 25, 26] rfl rfl (by decide) (by decide) hk1 hFc hP1 hD1
  generalize H1 = H at hP hS ⊢
  have hP : va_P (dC, dI) vwCl [(rmo, .inr (8, rms)), (rkn, .inl (rcK, 2, .inl rkf)), (rco, .inl (rcC, 2, .inl rcf)), (rwa, .inl (rcW, 2, .inl rwf)), (rla, .inl (rcL, 2, .inl rlf)), (rwt, .inl (rcT, 2, .inl rtf)), (rti, .inl (rcI, 2, .inl rif0)), (rlu, .inl (rcU, 2, .inl ruf)), (rit, .inl (rcY, 2, .inl ryf)), (ril, .inl (rcZ, 2, .inl rzf)), (run, .inl (rcV, 2, .inl (fun _ => 0))), (rbm, .inl (rcB, 4, .inl rbmf))] H := hP
  have hD : va_D A [(rmo, .inr (8, rms)), (rkn, .inl (rcK, 2, .inl rkf)), (rco, .inl (rcC, 2, .inl rcf)), (rwa, .inl (rcW, 2, .inl rwf)), (rla, .inl (rcL, 2, .inl rlf)), (rwt, .inl (rcT, 2, .inl rtf)), (rti, .inl (rcI, 2, .inl rif0)), (rlu, .inl (rcU, 2, .inl ruf)), (rit, .inl (rcY, 2, .inl ryf)), (ril, .inl (rcZ, 2, .inl rzf)), (run, .inl (rcV, 2, .inl (fun _ => 0))), (rbm, .inl (rcB, 4, .inl rbmf))] := hD
  try dsimp only at hw
  obtain rfl : r_1 = 0 := hw
  refine lv_aload_n hx hb dL_law_266 rfl (lv_at hl 1 rfl) ?_
  have hPc := hP.sub (ws' := [(rmo, .inr (8, rms)), (rkn, .inl (rcK, 2, .inl rkf)), (rco, .inl (rcC, 2, .inl rcf)), (rwa, .inl (rcW, 2, .inl rwf)), (rla, .inl (rcL, 2, .inl rlf)), (rwt, .inl (rcT, 2, .inl rtf)), (rti, .inl (rcI, 2, .inl rif0)), (rlu, .inl (rcU, 2, .inl ruf)), (rit, .inl (rcY, 2, .inl ryf)), (ril, .inl (rcZ, 2, .inl rzf)), (run, .inl (rcV, 2, .inl (fun _ => 0))), (rbm, .inl (rcB, 4, .inl rbmf))]) [0, 1, 2, 3, 4, 5, 6, 7, 8, 9, 10, 11] rfl
  have hDc := hD.sub (ws' := [(rmo, .inr (8, rms)), (rkn, .inl (rcK, 2, .inl rkf)), (rco, .inl (rcC, 2, .inl rcf)), (rwa, .inl (rcW, 2, .inl rwf)), (rla, .inl (rcL, 2, .inl rlf)), (rwt, .inl (rcT, 2, .inl rtf)), (rti, .inl (rcI, 2, .inl rif0)), (rlu, .inl (rcU, 2, .inl ruf)), (rit, .inl (rcY, 2, .inl ryf)), (ril, .inl (rcZ, 2, .inl rzf)), (run, .inl (rcV, 2, .inl (fun _ => 0))), (rbm, .inl (rcB, 4, .inl rbmf))]) [0, 1, 2, 3, 4, 5, 6, 7, 8, 9, 10, 11] (by decide) rfl
  have hKc := hK.sub (tys' := [(rcK, .int), (rcC, .int), (rcW, .int), (rcL, .int), (rcT, .int), (rcI, .int), (rcU, .int), (rcY, .boolean), (rcZ, .boolean), (rcV, .int), (rcB, .int)]) [7, 8, 9, 10, 11, 12, 13, 14, 15, 16, 17] rfl
  have hFc := va_free (wc := [(rmo, .inr (8, rms)), (rkn, .inl (rcK, 2, .inl rkf)), (rco, .inl (rcC, 2, .inl rcf)), (rwa, .inl (rcW, 2, .inl rwf)), (rla, .inl (rcL, 2, .inl rlf)), (rwt, .inl (rcT, 2, .inl rtf)), (rti, .inl (rcI, 2, .inl rif0)), (rlu, .inl (rcU, 2, .inl ruf)), (rit, .inl (rcY, 2, .inl ryf)), (ril, .inl (rcZ, 2, .inl rzf)), (run, .inl (rcV, 2, .inl (fun _ => 0))), (rbm, .inl (rcB, 4, .inl rbmf))]) hD hS hA [0, 1, 2, 3, 4, 5, 6, 7, 8, 9, 10, 11] rfl
  refine va_calli (va_runV (As := []) (rest := [.int 0]) ⟨hx, hb, hml, hown, hts⟩ (m_shop l dC dI H.size rmo rms rkn rco rwa rla rwt rti rlu rit ril run rbm rcK rkf rcC rcf rcW rwf rcL rlf rcT rtf rcI rif0 rcU ruf rcY ryf rcZ rzf rcV rcB rbmf f_rms_11 f_rms_12 f_rms_13 f_rms_14 f_rms_15 f_rms_16 f_rms_17 f_rms_19 f_rms_20 f_rms_2 f_rms_43 f_rms_18 f_rms_78 l_rms) (cwV 0 hts (p1_gV m_4 m_5 m_6 m_7 g_m_shop gz_m_shop) rfl rfl rfl (by decide +kernel) ⟨by decide, by decide⟩) ⟨fun a U g mk q => by obtain ⟨q0, q1, qP, qK, qD⟩ := q; exact ⟨q0, q1, qP, va_K.moved (u := U) (U := U.calling g mk a) (Vm.Alike.refl U.vm) qK, qD⟩, va_recv hKc hPc (ci := 8) (q0 := 0) rfl rfl, fun U hU hW => ⟨rfl, by rw [hU], by rw [hU]; exact hPc, va_K.moved hW.alike hKc, hDc.weaken (fun _ _ _ _ => trivial)⟩⟩ rfl rfl hl.1 rfl (lv_room (Nat.le_of_ble_eq_true rfl)) dL_law_267 ⟨by decide, by decide⟩) hS (fun q _ h => hFc q h) hFc (fun r_2 u t H1 locs ht hvm hw hB hz1 hk1 hS => ?_)
  obtain ⟨hP1, hK1, hD1⟩ := hB
  rw [ht] at hP1
  obtain ⟨hP, hD⟩ := va_join (wr := []) (w1 := []) hP hD [0, 1, 2, 3, 4, 5, 6, 7, 8, 9, 10, 11] [] rfl rfl (by decide) (by decide) hk1 hFc hP1 hD1
  generalize H1 = H at hP hS ⊢
  have hP : va_P (dC, dI) vwCl [] H := hP
  have hD : va_D A [] := hD
  try dsimp only at hw
  obtain rfl : r_2 = 0 := hw
  refine lv_icmp_eq (tgt := 1382) hx hb dL_law_270 (by decide) (fun _ => ?_) (fun c9 => absurd c9 (by decide))
  refine lv_iinc (v := 6) (lv' := [(3, .int 6), (2, .ref rmo), (1, .ref xx), (0, .ref b)]) hx hb dL_law_1382 hl (k := 0) rfl (by decide) (by decide) rfl (fun ls hl => ?_)
  refine lv_goto (tgt := 18) hx hb dL_law_1385 (by decide) ?_
  refine lv_iload_n hx hb dL_law_18 rfl (lv_at hl 0 rfl) ?_
  refine lv_aload_n hx hb dL_law_19 rfl (lv_at hl 3 rfl) ?_
  refine va_slen hx hb hX hbl hbA hS dL_law_20 ?_
  refine lv_topi (fun v_4 ev_4 => ?_)
  obtain rfl : v_4 = 6 := ev_4.trans rfl
  refine lv_bipush (v := 6) hx hb dL_law_21 (by decide) ?_
  refine lv_isub hx hb dL_law_23 ?_
  refine lv_topi (fun v_5 ev_5 => ?_)
  obtain rfl : v_5 = 0 := ev_5.trans (by decide)
  refine lv_icmp_gt (tgt := 1388) hx hb dL_law_24 (by decide) (fun _ => ?_) (fun c9 => absurd c9 (by decide))
  refine lv_iconst (v := 1) hx hb dL_law_1388 (by decide) ?_
  refine va_forget (fun q hq => by have h9 := hS.2.2 q hq; rw [hAe] at h9; exact h9) ?_
  refine W.widen (k := 600000) (n := 7302249) (by decide) (by decide) ?_
  exact lw_ret hx hb hr hlocks dL_law_1389
set_option maxHeartbeats 4000000 in
set_option maxRecDepth 100000 in
theorem law_fault {p : Program} {e : Env} {s : State} {m : MethodId} {below : List Frame} {meth : Method} {c : Code} (l : Launch) {b : Nat} {xs : Nat → Int32} (C0 : lw_At p s m meth c b 6 xs) {A : Nat → Prop} (hAe : A = fun q : Nat => s.heap.size ≤ q) (hE : p1_ex A s s.heap) (dC : Nat → ClassId) (dI : Nat → Nat → Nat) (xx : Nat) (xxs : List Value) (xrd : Nat) (xrs : List Value) (rmo : Nat) (rms : List Value) (f_xxs_1 : xxs[1]? = some (.ref xrd)) (f_xrs_9 : xrs[9]? = some (.int 0)) (f_xrs_10 : xrs[10]? = some (.int (-1))) (f_rms_4 : rms[4]? = some (.int 0)) (f_rms_5 : rms[5]? = some (.int (-1))) (H : Heap) (locs : List Loc) (ls : Array Slot) (hK : va_K (dC, dI) vwCl [] s) (hP : va_P (dC, dI) vwCl [(xx, .inr (7, xxs)), (xrd, .inr (4, xrs)), (rmo, .inr (8, rms))] H) (hD : va_D A [(xx, .inr (7, xxs)), (xrd, .inr (4, xrs)), (rmo, .inr (8, rms))]) (hS : va_S A s.heap H locs) (hl : lv_has ls 4 [(3, .int 0), (2, .ref rmo), (1, .ref xx), (0, .ref b)]) : W p l e room_1 s m #[Value.ref b] below meth c H locs 152 11751 (lw_Z below #[Value.ref b] s) (F0 m 275 ls []) := by
  obtain ⟨hx, hb, hr, hml, hown, hts, hX, hbl, hlocks, hgv⟩ := id C0
  have hown : s.vm.findClass RL = some m.cls := hown
  have hA : ∀ q : Nat, s.heap.size ≤ q → A q := by rw [hAe]; exact fun _ h => h
  have hbA : ¬ A b := by rw [hAe]; exact Nat.not_le.mpr hbl
  have m_0 : (.methodLink RL 28 yX8_fault : Cond) ∈ lw_tbl := p1_w 706 (by decide +kernel)
  have k_0 := hts _ m_0
  have m_1 : (.instanceMethod yX8_fault : Cond) ∈ lw_tbl := p1_w 707 (by decide +kernel)
  have k_1 := hts _ m_1
  have m_2 : (.selects RX8 yX8_fault yX8_fault : Cond) ∈ lw_tbl := p1_w 708 (by decide +kernel)
  have k_2 := hts _ m_2
  have m_3 : (.initialized RX8 : Cond) ∈ lw_tbl := p1_w 104 (by decide +kernel)
  have k_3 := hts _ m_3
  have m_4 : (.methodLink RL 31 yX9_fault : Cond) ∈ lw_tbl := p1_w 1427 (by decide +kernel)
  have k_4 := hts _ m_4
  have m_5 : (.instanceMethod yX9_fault : Cond) ∈ lw_tbl := p1_w 1428 (by decide +kernel)
  have k_5 := hts _ m_5
  have m_6 : (.selects RX9 yX9_fault yX9_fault : Cond) ∈ lw_tbl := p1_w 1429 (by decide +kernel)
  have k_6 := hts _ m_6
  have m_7 : (.initialized RX9 : Cond) ∈ lw_tbl := p1_w 116 (by decide +kernel)
  have k_7 := hts _ m_7
  have g_x_fault := iz_x_fault
  have g_m_fault := iz_m_fault
  refine lv_aload_n hx hb dL_law_275 rfl (lv_at hl 2 rfl) ?_
  refine lv_aload_n hx hb dL_law_276 rfl (lv_at hl 3 rfl) ?_
  refine lv_iload_n hx hb dL_law_277 rfl (lv_at hl 0 rfl) ?_
  refine lv_iconst (v := 1) hx hb dL_law_278 (by decide) ?_
  refine lv_iadd hx hb dL_law_279 ?_
  refine lv_topi (fun v_1 ev_1 => ?_)
  obtain rfl : v_1 = 1 := ev_1.trans (by decide)
  refine va_sld hx hb hX hbl hbA hS (p1_in (i := 1) (n := 6) (by decide)) dL_law_280 ?_
  have hPc := hP.sub (ws' := [(xx, .inr (7, xxs)), (xrd, .inr (4, xrs))]) [0, 1] rfl
  have hDc := hD.sub (ws' := [(xx, .inr (7, xxs)), (xrd, .inr (4, xrs))]) [0, 1] (by decide) rfl
  have hKc := hK.sub (tys' := []) [] rfl
  have hFc := va_free (wc := [(xx, .inr (7, xxs)), (xrd, .inr (4, xrs))]) hD hS hA [0, 1] rfl
  refine va_calli (va_runV (As := [.int (xs (1 : Int32).toNatClampNeg)]) (rest := []) ⟨hx, hb, hml, hown, hts⟩ (x_fault l dC dI H.size xx xxs xrd xrs ((xs (1 : Int32).toNatClampNeg)) f_xxs_1 f_xrs_9 f_xrs_10) (cwV 1 hts (p1_gV m_0 m_1 m_2 m_3 g_x_fault gz_x_fault) rfl rfl rfl (by decide +kernel) ⟨by decide, by decide⟩) ⟨fun a U g mk q => by obtain ⟨q0, q1, qP, qK, qD⟩ := q; exact ⟨q0, q1, qP, va_K.moved (u := U) (U := U.calling g mk a) (Vm.Alike.refl U.vm) qK, qD⟩, va_recv hKc hPc (ci := 7) (q0 := 0) rfl rfl, fun U hU hW => ⟨rfl, by rw [hU], by rw [hU]; exact hPc, va_K.moved hW.alike hKc, hDc.weaken (fun _ _ _ _ => trivial)⟩⟩ rfl rfl hl.1 rfl (lv_room (Nat.le_of_ble_eq_true rfl)) dL_law_281 ⟨by decide, by decide⟩) hS (fun q _ h => hFc q h) hFc (fun r_2 u t H1 locs ht hvm hw hB hz1 hk1 hS => ?_)
  obtain ⟨hP1, hK1, hD1⟩ := hB
  rw [ht] at hP1
  obtain ⟨hP, hD⟩ := va_join (wr := [(rmo, .inr (8, rms))]) (w1 := []) hP hD [0, 1] [2] rfl rfl (by decide) (by decide) hk1 hFc hP1 hD1
  generalize H1 = H at hP hS ⊢
  have hP : va_P (dC, dI) vwCl [(rmo, .inr (8, rms))] H := hP
  have hD : va_D A [(rmo, .inr (8, rms))] := hD
  try dsimp only at hw
  have hw_3 := hw
  refine lv_aload_n hx hb dL_law_284 rfl (lv_at hl 1 rfl) ?_
  refine lv_aload_n hx hb dL_law_285 rfl (lv_at hl 3 rfl) ?_
  refine lv_iload_n hx hb dL_law_286 rfl (lv_at hl 0 rfl) ?_
  refine lv_iconst (v := 1) hx hb dL_law_287 (by decide) ?_
  refine lv_iadd hx hb dL_law_288 ?_
  refine lv_topi (fun v_4 ev_4 => ?_)
  obtain rfl : v_4 = 1 := ev_4.trans (by decide)
  refine va_sld hx hb hX hbl hbA hS (p1_in (i := 1) (n := 6) (by decide)) dL_law_289 ?_
  have hPc := hP.sub (ws' := [(rmo, .inr (8, rms))]) [0] rfl
  have hDc := hD.sub (ws' := [(rmo, .inr (8, rms))]) [0] (by decide) rfl
  have hKc := hK.sub (tys' := []) [] rfl
  have hFc := va_free (wc := [(rmo, .inr (8, rms))]) hD hS hA [0] rfl
  refine va_calli (va_runV (As := [.int (xs (1 : Int32).toNatClampNeg)]) (rest := [.int r_2]) ⟨hx, hb, hml, hown, hts⟩ (m_fault l dC dI H.size rmo rms ((xs (1 : Int32).toNatClampNeg)) f_rms_4 f_rms_5) (cwV 1 hts (p1_gV m_4 m_5 m_6 m_7 g_m_fault gz_m_fault) rfl rfl rfl (by decide +kernel) ⟨by decide, by decide⟩) ⟨fun a U g mk q => by obtain ⟨q0, q1, qP, qK, qD⟩ := q; exact ⟨q0, q1, qP, va_K.moved (u := U) (U := U.calling g mk a) (Vm.Alike.refl U.vm) qK, qD⟩, va_recv hKc hPc (ci := 8) (q0 := 0) rfl rfl, fun U hU hW => ⟨rfl, by rw [hU], by rw [hU]; exact hPc, va_K.moved hW.alike hKc, hDc.weaken (fun _ _ _ _ => trivial)⟩⟩ rfl rfl hl.1 rfl (lv_room (Nat.le_of_ble_eq_true rfl)) dL_law_290 ⟨by decide, by decide⟩) hS (fun q _ h => hFc q h) hFc (fun r_5 u t H1 locs ht hvm hw hB hz1 hk1 hS => ?_)
  obtain ⟨hP1, hK1, hD1⟩ := hB
  rw [ht] at hP1
  obtain ⟨hP, hD⟩ := va_join (wr := []) (w1 := []) hP hD [0] [] rfl rfl (by decide) (by decide) hk1 hFc hP1 hD1
  generalize H1 = H at hP hS ⊢
  have hP : va_P (dC, dI) vwCl [] H := hP
  have hD : va_D A [] := hD
  try dsimp only at hw
  have hw_6 := hw
  refine lv_icmp_eq (tgt := 1382) hx hb dL_law_293 (by decide) (fun c293_7 => ?_) (fun c293_7 => absurd c293_7 (fun z9 => z9 (hw_3.trans hw_6.symm)))
  refine lv_iinc (v := 6) (lv' := [(3, .int 6), (2, .ref rmo), (1, .ref xx), (0, .ref b)]) hx hb dL_law_1382 hl (k := 0) rfl (by decide) (by decide) rfl (fun ls hl => ?_)
  refine lv_goto (tgt := 18) hx hb dL_law_1385 (by decide) ?_
  refine lv_iload_n hx hb dL_law_18 rfl (lv_at hl 0 rfl) ?_
  refine lv_aload_n hx hb dL_law_19 rfl (lv_at hl 3 rfl) ?_
  refine va_slen hx hb hX hbl hbA hS dL_law_20 ?_
  refine lv_topi (fun v_8 ev_8 => ?_)
  obtain rfl : v_8 = 6 := ev_8.trans rfl
  refine lv_bipush (v := 6) hx hb dL_law_21 (by decide) ?_
  refine lv_isub hx hb dL_law_23 ?_
  refine lv_topi (fun v_9 ev_9 => ?_)
  obtain rfl : v_9 = 0 := ev_9.trans (by decide)
  refine lv_icmp_gt (tgt := 1388) hx hb dL_law_24 (by decide) (fun _ => ?_) (fun c9 => absurd c9 (by decide))
  refine lv_iconst (v := 1) hx hb dL_law_1388 (by decide) ?_
  refine va_forget (fun q hq => by have h9 := hS.2.2 q hq; rw [hAe] at h9; exact h9) ?_
  refine W.widen (k := 600000) (n := 7302249) (by decide) (by decide) ?_
  exact lw_ret hx hb hr hlocks dL_law_1389
set_option maxHeartbeats 4000000 in
set_option maxRecDepth 100000 in
theorem law_knot {p : Program} {e : Env} {s : State} {m : MethodId} {below : List Frame} {meth : Method} {c : Code} (l : Launch) {b : Nat} {xs : Nat → Int32} (C0 : lw_At p s m meth c b 6 xs) {A : Nat → Prop} (hAe : A = fun q : Nat => s.heap.size ≤ q) (hE : p1_ex A s s.heap) (dC : Nat → ClassId) (dI : Nat → Nat → Nat) (xx : Nat) (xxs : List Value) (xsh : Nat) (xss : List Value) (xsc : Nat) (xcS : ClassId) (rmo : Nat) (rms : List Value) (rkn : Nat) (rcK : ClassId) (rkf : Nat → Int32) (f_xxs_9 : xxs[9]? = some (.ref xsh)) (f_xss_0 : xss[0]? = some (.ref xsc)) (f_rms_11 : rms[11]? = some (.ref rkn)) (f_rms_43 : rms[43]? = some (.int 0)) (h_rkf_0 : rkf 0 = 0) (H : Heap) (locs : List Loc) (ls : Array Slot) (hK : va_K (dC, dI) vwCl [(xcS, .int), (rcK, .int)] s) (hP : va_P (dC, dI) vwCl [(xx, .inr (7, xxs)), (xsh, .inr (5, xss)), (xsc, .inl (xcS, 5, .inl (fun _ => 0))), (rmo, .inr (8, rms)), (rkn, .inl (rcK, 2, .inl rkf))] H) (hD : va_D A [(xx, .inr (7, xxs)), (xsh, .inr (5, xss)), (xsc, .inl (xcS, 5, .inl (fun _ => 0))), (rmo, .inr (8, rms)), (rkn, .inl (rcK, 2, .inl rkf))]) (hS : va_S A s.heap H locs) (hl : lv_has ls 4 [(3, .int 0), (2, .ref rmo), (1, .ref xx), (0, .ref b)]) : W p l e room_1 s m #[Value.ref b] below meth c H locs 152 11751 (lw_Z below #[Value.ref b] s) (F0 m 298 ls []) := by
  obtain ⟨hx, hb, hr, hml, hown, hts, hX, hbl, hlocks, hgv⟩ := id C0
  have hown : s.vm.findClass RL = some m.cls := hown
  have hA : ∀ q : Nat, s.heap.size ≤ q → A q := by rw [hAe]; exact fun _ h => h
  have hbA : ¬ A b := by rw [hAe]; exact Nat.not_le.mpr hbl
  have m_0 : (.methodLink RL 32 yX8_knot : Cond) ∈ lw_tbl := p1_w 710 (by decide +kernel)
  have k_0 := hts _ m_0
  have m_1 : (.instanceMethod yX8_knot : Cond) ∈ lw_tbl := p1_w 711 (by decide +kernel)
  have k_1 := hts _ m_1
  have m_2 : (.selects RX8 yX8_knot yX8_knot : Cond) ∈ lw_tbl := p1_w 712 (by decide +kernel)
  have k_2 := hts _ m_2
  have m_3 : (.initialized RX8 : Cond) ∈ lw_tbl := p1_w 104 (by decide +kernel)
  have k_3 := hts _ m_3
  have m_4 : (.methodLink RL 36 yX9_knot : Cond) ∈ lw_tbl := p1_w 1510 (by decide +kernel)
  have k_4 := hts _ m_4
  have m_5 : (.instanceMethod yX9_knot : Cond) ∈ lw_tbl := p1_w 1511 (by decide +kernel)
  have k_5 := hts _ m_5
  have m_6 : (.selects RX9 yX9_knot yX9_knot : Cond) ∈ lw_tbl := p1_w 1512 (by decide +kernel)
  have k_6 := hts _ m_6
  have m_7 : (.initialized RX9 : Cond) ∈ lw_tbl := p1_w 116 (by decide +kernel)
  have k_7 := hts _ m_7
  have g_x_knot := iz_x_knot
  have g_m_knot := iz_m_knot
  refine lv_aload_n hx hb dL_law_298 rfl (lv_at hl 2 rfl) ?_
  refine lv_aload_n hx hb dL_law_299 rfl (lv_at hl 3 rfl) ?_
  refine lv_iload_n hx hb dL_law_300 rfl (lv_at hl 0 rfl) ?_
  refine lv_iconst (v := 1) hx hb dL_law_301 (by decide) ?_
  refine lv_iadd hx hb dL_law_302 ?_
  refine lv_topi (fun v_1 ev_1 => ?_)
  obtain rfl : v_1 = 1 := ev_1.trans (by decide)
  refine va_sld hx hb hX hbl hbA hS (p1_in (i := 1) (n := 6) (by decide)) dL_law_303 ?_
  refine lv_aload_n hx hb dL_law_304 rfl (lv_at hl 3 rfl) ?_
  refine lv_iload_n hx hb dL_law_305 rfl (lv_at hl 0 rfl) ?_
  refine lv_iconst (v := 2) hx hb dL_law_306 (by decide) ?_
  refine lv_iadd hx hb dL_law_307 ?_
  refine lv_topi (fun v_2 ev_2 => ?_)
  obtain rfl : v_2 = 2 := ev_2.trans (by decide)
  refine va_sld hx hb hX hbl hbA hS (p1_in (i := 2) (n := 6) (by decide)) dL_law_308 ?_
  have hPc := hP.sub (ws' := [(xx, .inr (7, xxs)), (xsh, .inr (5, xss)), (xsc, .inl (xcS, 5, .inl (fun _ => 0)))]) [0, 1, 2] rfl
  have hDc := hD.sub (ws' := [(xx, .inr (7, xxs)), (xsh, .inr (5, xss)), (xsc, .inl (xcS, 5, .inl (fun _ => 0)))]) [0, 1, 2] (by decide) rfl
  have hKc := hK.sub (tys' := [(xcS, .int)]) [0] rfl
  have hFc := va_free (wc := [(xx, .inr (7, xxs)), (xsh, .inr (5, xss)), (xsc, .inl (xcS, 5, .inl (fun _ => 0)))]) hD hS hA [0, 1, 2] rfl
  refine va_calli (va_runV (As := [.int (xs (1 : Int32).toNatClampNeg), .int (xs (2 : Int32).toNatClampNeg)]) (rest := []) ⟨hx, hb, hml, hown, hts⟩ (x_knot l dC dI H.size xx xxs xsh xss xsc xcS ((xs (1 : Int32).toNatClampNeg)) ((xs (2 : Int32).toNatClampNeg)) f_xxs_9 f_xss_0) (cwV 2 hts (p1_gV m_0 m_1 m_2 m_3 g_x_knot gz_x_knot) rfl rfl rfl (by decide +kernel) ⟨by decide, by decide⟩) ⟨fun a U g mk q => by obtain ⟨q0, q1, qP, qK, qD⟩ := q; exact ⟨q0, q1, qP, va_K.moved (u := U) (U := U.calling g mk a) (Vm.Alike.refl U.vm) qK, qD⟩, va_recv hKc hPc (ci := 7) (q0 := 0) rfl rfl, fun U hU hW => ⟨rfl, by rw [hU], by rw [hU]; exact hPc, va_K.moved hW.alike hKc, hDc.weaken (fun _ _ _ _ => trivial)⟩⟩ rfl rfl hl.1 rfl (lv_room (Nat.le_of_ble_eq_true rfl)) dL_law_309 ⟨by decide, by decide⟩) hS (fun q _ h => hFc q h) hFc (fun r_3 u t H1 locs ht hvm hw hB hz1 hk1 hS => ?_)
  obtain ⟨hP1, hK1, hD1⟩ := hB
  rw [ht] at hP1
  obtain ⟨hP, hD⟩ := va_join (wr := [(rmo, .inr (8, rms)), (rkn, .inl (rcK, 2, .inl rkf))]) (w1 := []) hP hD [0, 1, 2] [3, 4] rfl rfl (by decide) (by decide) hk1 hFc hP1 hD1
  generalize H1 = H at hP hS ⊢
  have hP : va_P (dC, dI) vwCl [(rmo, .inr (8, rms)), (rkn, .inl (rcK, 2, .inl rkf))] H := hP
  have hD : va_D A [(rmo, .inr (8, rms)), (rkn, .inl (rcK, 2, .inl rkf))] := hD
  try dsimp only at hw
  obtain rfl : r_3 = (-1) := hw
  refine lv_aload_n hx hb dL_law_312 rfl (lv_at hl 1 rfl) ?_
  refine lv_aload_n hx hb dL_law_313 rfl (lv_at hl 3 rfl) ?_
  refine lv_iload_n hx hb dL_law_314 rfl (lv_at hl 0 rfl) ?_
  refine lv_iconst (v := 1) hx hb dL_law_315 (by decide) ?_
  refine lv_iadd hx hb dL_law_316 ?_
  refine lv_topi (fun v_4 ev_4 => ?_)
  obtain rfl : v_4 = 1 := ev_4.trans (by decide)
  refine va_sld hx hb hX hbl hbA hS (p1_in (i := 1) (n := 6) (by decide)) dL_law_317 ?_
  refine lv_aload_n hx hb dL_law_318 rfl (lv_at hl 3 rfl) ?_
  refine lv_iload_n hx hb dL_law_319 rfl (lv_at hl 0 rfl) ?_
  refine lv_iconst (v := 2) hx hb dL_law_320 (by decide) ?_
  refine lv_iadd hx hb dL_law_321 ?_
  refine lv_topi (fun v_5 ev_5 => ?_)
  obtain rfl : v_5 = 2 := ev_5.trans (by decide)
  refine va_sld hx hb hX hbl hbA hS (p1_in (i := 2) (n := 6) (by decide)) dL_law_322 ?_
  have hPc := hP.sub (ws' := [(rmo, .inr (8, rms)), (rkn, .inl (rcK, 2, .inl rkf))]) [0, 1] rfl
  have hDc := hD.sub (ws' := [(rmo, .inr (8, rms)), (rkn, .inl (rcK, 2, .inl rkf))]) [0, 1] (by decide) rfl
  have hKc := hK.sub (tys' := [(rcK, .int)]) [1] rfl
  have hFc := va_free (wc := [(rmo, .inr (8, rms)), (rkn, .inl (rcK, 2, .inl rkf))]) hD hS hA [0, 1] rfl
  refine va_calli (va_runV (As := [.int (xs (1 : Int32).toNatClampNeg), .int (xs (2 : Int32).toNatClampNeg)]) (rest := [.int (-1)]) ⟨hx, hb, hml, hown, hts⟩ (m_knot l dC dI H.size rmo rms rkn rcK rkf ((xs (1 : Int32).toNatClampNeg)) ((xs (2 : Int32).toNatClampNeg)) f_rms_11 f_rms_43 h_rkf_0) (cwV 2 hts (p1_gV m_4 m_5 m_6 m_7 g_m_knot gz_m_knot) rfl rfl rfl (by decide +kernel) ⟨by decide, by decide⟩) ⟨fun a U g mk q => by obtain ⟨q0, q1, qP, qK, qD⟩ := q; exact ⟨q0, q1, qP, va_K.moved (u := U) (U := U.calling g mk a) (Vm.Alike.refl U.vm) qK, qD⟩, va_recv hKc hPc (ci := 8) (q0 := 0) rfl rfl, fun U hU hW => ⟨rfl, by rw [hU], by rw [hU]; exact hPc, va_K.moved hW.alike hKc, hDc.weaken (fun _ _ _ _ => trivial)⟩⟩ rfl rfl hl.1 rfl (lv_room (Nat.le_of_ble_eq_true rfl)) dL_law_323 ⟨by decide, by decide⟩) hS (fun q _ h => hFc q h) hFc (fun r_6 u t H1 locs ht hvm hw hB hz1 hk1 hS => ?_)
  obtain ⟨hP1, hK1, hD1⟩ := hB
  rw [ht] at hP1
  obtain ⟨hP, hD⟩ := va_join (wr := []) (w1 := []) hP hD [0, 1] [] rfl rfl (by decide) (by decide) hk1 hFc hP1 hD1
  generalize H1 = H at hP hS ⊢
  have hP : va_P (dC, dI) vwCl [] H := hP
  have hD : va_D A [] := hD
  try dsimp only at hw
  obtain rfl : r_6 = (-1) := hw
  refine lv_icmp_eq (tgt := 1382) hx hb dL_law_326 (by decide) (fun _ => ?_) (fun c9 => absurd c9 (by decide))
  refine lv_iinc (v := 6) (lv' := [(3, .int 6), (2, .ref rmo), (1, .ref xx), (0, .ref b)]) hx hb dL_law_1382 hl (k := 0) rfl (by decide) (by decide) rfl (fun ls hl => ?_)
  refine lv_goto (tgt := 18) hx hb dL_law_1385 (by decide) ?_
  refine lv_iload_n hx hb dL_law_18 rfl (lv_at hl 0 rfl) ?_
  refine lv_aload_n hx hb dL_law_19 rfl (lv_at hl 3 rfl) ?_
  refine va_slen hx hb hX hbl hbA hS dL_law_20 ?_
  refine lv_topi (fun v_8 ev_8 => ?_)
  obtain rfl : v_8 = 6 := ev_8.trans rfl
  refine lv_bipush (v := 6) hx hb dL_law_21 (by decide) ?_
  refine lv_isub hx hb dL_law_23 ?_
  refine lv_topi (fun v_9 ev_9 => ?_)
  obtain rfl : v_9 = 0 := ev_9.trans (by decide)
  refine lv_icmp_gt (tgt := 1388) hx hb dL_law_24 (by decide) (fun _ => ?_) (fun c9 => absurd c9 (by decide))
  refine lv_iconst (v := 1) hx hb dL_law_1388 (by decide) ?_
  refine va_forget (fun q hq => by have h9 := hS.2.2 q hq; rw [hAe] at h9; exact h9) ?_
  refine W.widen (k := 600000) (n := 7302249) (by decide) (by decide) ?_
  exact lw_ret hx hb hr hlocks dL_law_1389
set_option maxHeartbeats 4000000 in
set_option maxRecDepth 100000 in
theorem law_tie {p : Program} {e : Env} {s : State} {m : MethodId} {below : List Frame} {meth : Method} {c : Code} (l : Launch) {b : Nat} {xs : Nat → Int32} (C0 : lw_At p s m meth c b 6 xs) {A : Nat → Prop} (hAe : A = fun q : Nat => s.heap.size ≤ q) (hE : p1_ex A s s.heap) (dC : Nat → ClassId) (dI : Nat → Nat → Nat) (xx : Nat) (xxs : List Value) (xsh : Nat) (xss : List Value) (xsc : Nat) (xcS : ClassId) (rmo : Nat) (rms : List Value) (rkn : Nat) (rcK : ClassId) (rkf : Nat → Int32) (f_xxs_9 : xxs[9]? = some (.ref xsh)) (f_xss_0 : xss[0]? = some (.ref xsc)) (f_rms_11 : rms[11]? = some (.ref rkn)) (f_rms_43 : rms[43]? = some (.int 0)) (h_rkf_0 : rkf 0 = 0) (H : Heap) (locs : List Loc) (ls : Array Slot) (hK : va_K (dC, dI) vwCl [(xcS, .int), (rcK, .int)] s) (hP : va_P (dC, dI) vwCl [(xx, .inr (7, xxs)), (xsh, .inr (5, xss)), (xsc, .inl (xcS, 5, .inl (fun _ => 0))), (rmo, .inr (8, rms)), (rkn, .inl (rcK, 2, .inl rkf))] H) (hD : va_D A [(xx, .inr (7, xxs)), (xsh, .inr (5, xss)), (xsc, .inl (xcS, 5, .inl (fun _ => 0))), (rmo, .inr (8, rms)), (rkn, .inl (rcK, 2, .inl rkf))]) (hS : va_S A s.heap H locs) (hl : lv_has ls 4 [(3, .int 0), (2, .ref rmo), (1, .ref xx), (0, .ref b)]) : W p l e room_1 s m #[Value.ref b] below meth c H locs 152 11751 (lw_Z below #[Value.ref b] s) (F0 m 331 ls []) := by
  obtain ⟨hx, hb, hr, hml, hown, hts, hX, hbl, hlocks, hgv⟩ := id C0
  have hown : s.vm.findClass RL = some m.cls := hown
  have hA : ∀ q : Nat, s.heap.size ≤ q → A q := by rw [hAe]; exact fun _ h => h
  have hbA : ¬ A b := by rw [hAe]; exact Nat.not_le.mpr hbl
  have m_0 : (.methodLink RL 37 yX8_tie : Cond) ∈ lw_tbl := p1_w 727 (by decide +kernel)
  have k_0 := hts _ m_0
  have m_1 : (.instanceMethod yX8_tie : Cond) ∈ lw_tbl := p1_w 728 (by decide +kernel)
  have k_1 := hts _ m_1
  have m_2 : (.selects RX8 yX8_tie yX8_tie : Cond) ∈ lw_tbl := p1_w 729 (by decide +kernel)
  have k_2 := hts _ m_2
  have m_3 : (.initialized RX8 : Cond) ∈ lw_tbl := p1_w 104 (by decide +kernel)
  have k_3 := hts _ m_3
  have m_4 : (.methodLink RL 40 yX9_tie : Cond) ∈ lw_tbl := p1_w 1431 (by decide +kernel)
  have k_4 := hts _ m_4
  have m_5 : (.instanceMethod yX9_tie : Cond) ∈ lw_tbl := p1_w 1432 (by decide +kernel)
  have k_5 := hts _ m_5
  have m_6 : (.selects RX9 yX9_tie yX9_tie : Cond) ∈ lw_tbl := p1_w 1433 (by decide +kernel)
  have k_6 := hts _ m_6
  have m_7 : (.initialized RX9 : Cond) ∈ lw_tbl := p1_w 116 (by decide +kernel)
  have k_7 := hts _ m_7
  have g_x_tie := iz_x_tie
  have g_m_tie := iz_m_tie
  refine lv_aload_n hx hb dL_law_331 rfl (lv_at hl 2 rfl) ?_
  refine lv_aload_n hx hb dL_law_332 rfl (lv_at hl 3 rfl) ?_
  refine lv_iload_n hx hb dL_law_333 rfl (lv_at hl 0 rfl) ?_
  refine lv_iconst (v := 1) hx hb dL_law_334 (by decide) ?_
  refine lv_iadd hx hb dL_law_335 ?_
  refine lv_topi (fun v_1 ev_1 => ?_)
  obtain rfl : v_1 = 1 := ev_1.trans (by decide)
  refine va_sld hx hb hX hbl hbA hS (p1_in (i := 1) (n := 6) (by decide)) dL_law_336 ?_
  refine lv_aload_n hx hb dL_law_337 rfl (lv_at hl 3 rfl) ?_
  refine lv_iload_n hx hb dL_law_338 rfl (lv_at hl 0 rfl) ?_
  refine lv_iconst (v := 2) hx hb dL_law_339 (by decide) ?_
  refine lv_iadd hx hb dL_law_340 ?_
  refine lv_topi (fun v_2 ev_2 => ?_)
  obtain rfl : v_2 = 2 := ev_2.trans (by decide)
  refine va_sld hx hb hX hbl hbA hS (p1_in (i := 2) (n := 6) (by decide)) dL_law_341 ?_
  have hPc := hP.sub (ws' := [(xx, .inr (7, xxs)), (xsh, .inr (5, xss)), (xsc, .inl (xcS, 5, .inl (fun _ => 0)))]) [0, 1, 2] rfl
  have hDc := hD.sub (ws' := [(xx, .inr (7, xxs)), (xsh, .inr (5, xss)), (xsc, .inl (xcS, 5, .inl (fun _ => 0)))]) [0, 1, 2] (by decide) rfl
  have hKc := hK.sub (tys' := [(xcS, .int)]) [0] rfl
  have hFc := va_free (wc := [(xx, .inr (7, xxs)), (xsh, .inr (5, xss)), (xsc, .inl (xcS, 5, .inl (fun _ => 0)))]) hD hS hA [0, 1, 2] rfl
  refine va_calli (va_runV (As := [.int (xs (1 : Int32).toNatClampNeg), .int (xs (2 : Int32).toNatClampNeg)]) (rest := []) ⟨hx, hb, hml, hown, hts⟩ (x_tie l dC dI H.size xx xxs xsh xss xsc xcS ((xs (1 : Int32).toNatClampNeg)) ((xs (2 : Int32).toNatClampNeg)) f_xxs_9 f_xss_0) (cwV 2 hts (p1_gV m_0 m_1 m_2 m_3 g_x_tie gz_x_tie) rfl rfl rfl (by decide +kernel) ⟨by decide, by decide⟩) ⟨fun a U g mk q => by obtain ⟨q0, q1, qP, qK, qD⟩ := q; exact ⟨q0, q1, qP, va_K.moved (u := U) (U := U.calling g mk a) (Vm.Alike.refl U.vm) qK, qD⟩, va_recv hKc hPc (ci := 7) (q0 := 0) rfl rfl, fun U hU hW => ⟨rfl, by rw [hU], by rw [hU]; exact hPc, va_K.moved hW.alike hKc, hDc.weaken (fun _ _ _ _ => trivial)⟩⟩ rfl rfl hl.1 rfl (lv_room (Nat.le_of_ble_eq_true rfl)) dL_law_342 ⟨by decide, by decide⟩) hS (fun q _ h => hFc q h) hFc (fun r_3 u t H1 locs ht hvm hw hB hz1 hk1 hS => ?_)
  obtain ⟨hP1, hK1, hD1⟩ := hB
  rw [ht] at hP1
  obtain ⟨hP, hD⟩ := va_join (wr := [(rmo, .inr (8, rms)), (rkn, .inl (rcK, 2, .inl rkf))]) (w1 := []) hP hD [0, 1, 2] [3, 4] rfl rfl (by decide) (by decide) hk1 hFc hP1 hD1
  generalize H1 = H at hP hS ⊢
  have hP : va_P (dC, dI) vwCl [(rmo, .inr (8, rms)), (rkn, .inl (rcK, 2, .inl rkf))] H := hP
  have hD : va_D A [(rmo, .inr (8, rms)), (rkn, .inl (rcK, 2, .inl rkf))] := hD
  try dsimp only at hw
  obtain rfl : r_3 = (-1) := hw
  refine lv_aload_n hx hb dL_law_345 rfl (lv_at hl 1 rfl) ?_
  refine lv_aload_n hx hb dL_law_346 rfl (lv_at hl 3 rfl) ?_
  refine lv_iload_n hx hb dL_law_347 rfl (lv_at hl 0 rfl) ?_
  refine lv_iconst (v := 1) hx hb dL_law_348 (by decide) ?_
  refine lv_iadd hx hb dL_law_349 ?_
  refine lv_topi (fun v_4 ev_4 => ?_)
  obtain rfl : v_4 = 1 := ev_4.trans (by decide)
  refine va_sld hx hb hX hbl hbA hS (p1_in (i := 1) (n := 6) (by decide)) dL_law_350 ?_
  refine lv_aload_n hx hb dL_law_351 rfl (lv_at hl 3 rfl) ?_
  refine lv_iload_n hx hb dL_law_352 rfl (lv_at hl 0 rfl) ?_
  refine lv_iconst (v := 2) hx hb dL_law_353 (by decide) ?_
  refine lv_iadd hx hb dL_law_354 ?_
  refine lv_topi (fun v_5 ev_5 => ?_)
  obtain rfl : v_5 = 2 := ev_5.trans (by decide)
  refine va_sld hx hb hX hbl hbA hS (p1_in (i := 2) (n := 6) (by decide)) dL_law_355 ?_
  have hPc := hP.sub (ws' := [(rmo, .inr (8, rms)), (rkn, .inl (rcK, 2, .inl rkf))]) [0, 1] rfl
  have hDc := hD.sub (ws' := [(rmo, .inr (8, rms)), (rkn, .inl (rcK, 2, .inl rkf))]) [0, 1] (by decide) rfl
  have hKc := hK.sub (tys' := [(rcK, .int)]) [1] rfl
  have hFc := va_free (wc := [(rmo, .inr (8, rms)), (rkn, .inl (rcK, 2, .inl rkf))]) hD hS hA [0, 1] rfl
  refine va_calli (va_runV (As := [.int (xs (1 : Int32).toNatClampNeg), .int (xs (2 : Int32).toNatClampNeg)]) (rest := [.int (-1)]) ⟨hx, hb, hml, hown, hts⟩ (m_tie l dC dI H.size rmo rms rkn rcK rkf ((xs (1 : Int32).toNatClampNeg)) ((xs (2 : Int32).toNatClampNeg)) f_rms_11 f_rms_43 h_rkf_0) (cwV 2 hts (p1_gV m_4 m_5 m_6 m_7 g_m_tie gz_m_tie) rfl rfl rfl (by decide +kernel) ⟨by decide, by decide⟩) ⟨fun a U g mk q => by obtain ⟨q0, q1, qP, qK, qD⟩ := q; exact ⟨q0, q1, qP, va_K.moved (u := U) (U := U.calling g mk a) (Vm.Alike.refl U.vm) qK, qD⟩, va_recv hKc hPc (ci := 8) (q0 := 0) rfl rfl, fun U hU hW => ⟨rfl, by rw [hU], by rw [hU]; exact hPc, va_K.moved hW.alike hKc, hDc.weaken (fun _ _ _ _ => trivial)⟩⟩ rfl rfl hl.1 rfl (lv_room (Nat.le_of_ble_eq_true rfl)) dL_law_356 ⟨by decide, by decide⟩) hS (fun q _ h => hFc q h) hFc (fun r_6 u t H1 locs ht hvm hw hB hz1 hk1 hS => ?_)
  obtain ⟨hP1, hK1, hD1⟩ := hB
  rw [ht] at hP1
  obtain ⟨hP, hD⟩ := va_join (wr := []) (w1 := []) hP hD [0, 1] [] rfl rfl (by decide) (by decide) hk1 hFc hP1 hD1
  generalize H1 = H at hP hS ⊢
  have hP : va_P (dC, dI) vwCl [] H := hP
  have hD : va_D A [] := hD
  try dsimp only at hw
  obtain rfl : r_6 = (-1) := hw
  refine lv_icmp_eq (tgt := 1382) hx hb dL_law_359 (by decide) (fun _ => ?_) (fun c9 => absurd c9 (by decide))
  refine lv_iinc (v := 6) (lv' := [(3, .int 6), (2, .ref rmo), (1, .ref xx), (0, .ref b)]) hx hb dL_law_1382 hl (k := 0) rfl (by decide) (by decide) rfl (fun ls hl => ?_)
  refine lv_goto (tgt := 18) hx hb dL_law_1385 (by decide) ?_
  refine lv_iload_n hx hb dL_law_18 rfl (lv_at hl 0 rfl) ?_
  refine lv_aload_n hx hb dL_law_19 rfl (lv_at hl 3 rfl) ?_
  refine va_slen hx hb hX hbl hbA hS dL_law_20 ?_
  refine lv_topi (fun v_8 ev_8 => ?_)
  obtain rfl : v_8 = 6 := ev_8.trans rfl
  refine lv_bipush (v := 6) hx hb dL_law_21 (by decide) ?_
  refine lv_isub hx hb dL_law_23 ?_
  refine lv_topi (fun v_9 ev_9 => ?_)
  obtain rfl : v_9 = 0 := ev_9.trans (by decide)
  refine lv_icmp_gt (tgt := 1388) hx hb dL_law_24 (by decide) (fun _ => ?_) (fun c9 => absurd c9 (by decide))
  refine lv_iconst (v := 1) hx hb dL_law_1388 (by decide) ?_
  refine va_forget (fun q hq => by have h9 := hS.2.2 q hq; rw [hAe] at h9; exact h9) ?_
  refine W.widen (k := 600000) (n := 7302249) (by decide) (by decide) ?_
  exact lw_ret hx hb hr hlocks dL_law_1389
set_option maxHeartbeats 4000000 in
set_option maxRecDepth 100000 in
theorem law_walk {p : Program} {e : Env} {s : State} {m : MethodId} {below : List Frame} {meth : Method} {c : Code} (l : Launch) {b : Nat} {xs : Nat → Int32} (C0 : lw_At p s m meth c b 6 xs) {A : Nat → Prop} (hAe : A = fun q : Nat => s.heap.size ≤ q) (hE : p1_ex A s s.heap) (dC : Nat → ClassId) (dI : Nat → Nat → Nat) (xx : Nat) (xxs : List Value) (rmo : Nat) (rms : List Value) (f_xxs_11 : xxs[11]? = some (.int 0)) (f_rms_60 : rms[60]? = some (.int 0)) (H : Heap) (locs : List Loc) (ls : Array Slot) (hK : va_K (dC, dI) vwCl [] s) (hP : va_P (dC, dI) vwCl [(xx, .inr (7, xxs)), (rmo, .inr (8, rms))] H) (hD : va_D A [(xx, .inr (7, xxs)), (rmo, .inr (8, rms))]) (hS : va_S A s.heap H locs) (hl : lv_has ls 4 [(3, .int 0), (2, .ref rmo), (1, .ref xx), (0, .ref b)]) : W p l e room_1 s m #[Value.ref b] below meth c H locs 152 11751 (lw_Z below #[Value.ref b] s) (F0 m 364 ls []) := by
  obtain ⟨hx, hb, hr, hml, hown, hts, hX, hbl, hlocks, hgv⟩ := id C0
  have hown : s.vm.findClass RL = some m.cls := hown
  have hA : ∀ q : Nat, s.heap.size ≤ q → A q := by rw [hAe]; exact fun _ h => h
  have hbA : ¬ A b := by rw [hAe]; exact Nat.not_le.mpr hbl
  have m_0 : (.methodLink RL 41 yX8_walk : Cond) ∈ lw_tbl := p1_w 745 (by decide +kernel)
  have k_0 := hts _ m_0
  have m_1 : (.instanceMethod yX8_walk : Cond) ∈ lw_tbl := p1_w 746 (by decide +kernel)
  have k_1 := hts _ m_1
  have m_2 : (.selects RX8 yX8_walk yX8_walk : Cond) ∈ lw_tbl := p1_w 747 (by decide +kernel)
  have k_2 := hts _ m_2
  have m_3 : (.initialized RX8 : Cond) ∈ lw_tbl := p1_w 104 (by decide +kernel)
  have k_3 := hts _ m_3
  have m_4 : (.methodLink RL 44 yX9_walk : Cond) ∈ lw_tbl := p1_w 1454 (by decide +kernel)
  have k_4 := hts _ m_4
  have m_5 : (.instanceMethod yX9_walk : Cond) ∈ lw_tbl := p1_w 1455 (by decide +kernel)
  have k_5 := hts _ m_5
  have m_6 : (.selects RX9 yX9_walk yX9_walk : Cond) ∈ lw_tbl := p1_w 1456 (by decide +kernel)
  have k_6 := hts _ m_6
  have m_7 : (.initialized RX9 : Cond) ∈ lw_tbl := p1_w 116 (by decide +kernel)
  have k_7 := hts _ m_7
  have g_x_walk := iz_x_walk
  have g_m_walk := iz_m_walk
  refine lv_aload_n hx hb dL_law_364 rfl (lv_at hl 2 rfl) ?_
  refine lv_aload_n hx hb dL_law_365 rfl (lv_at hl 3 rfl) ?_
  refine lv_iload_n hx hb dL_law_366 rfl (lv_at hl 0 rfl) ?_
  refine lv_iconst (v := 1) hx hb dL_law_367 (by decide) ?_
  refine lv_iadd hx hb dL_law_368 ?_
  refine lv_topi (fun v_1 ev_1 => ?_)
  obtain rfl : v_1 = 1 := ev_1.trans (by decide)
  refine va_sld hx hb hX hbl hbA hS (p1_in (i := 1) (n := 6) (by decide)) dL_law_369 ?_
  refine lv_aload_n hx hb dL_law_370 rfl (lv_at hl 3 rfl) ?_
  refine lv_iload_n hx hb dL_law_371 rfl (lv_at hl 0 rfl) ?_
  refine lv_iconst (v := 2) hx hb dL_law_372 (by decide) ?_
  refine lv_iadd hx hb dL_law_373 ?_
  refine lv_topi (fun v_2 ev_2 => ?_)
  obtain rfl : v_2 = 2 := ev_2.trans (by decide)
  refine va_sld hx hb hX hbl hbA hS (p1_in (i := 2) (n := 6) (by decide)) dL_law_374 ?_
  have hPc := hP.sub (ws' := [(xx, .inr (7, xxs))]) [0] rfl
  have hDc := hD.sub (ws' := [(xx, .inr (7, xxs))]) [0] (by decide) rfl
  have hKc := hK.sub (tys' := []) [] rfl
  have hFc := va_free (wc := [(xx, .inr (7, xxs))]) hD hS hA [0] rfl
  refine va_calli (va_runV (As := [.int (xs (1 : Int32).toNatClampNeg), .int (xs (2 : Int32).toNatClampNeg)]) (rest := []) ⟨hx, hb, hml, hown, hts⟩ (x_walk l dC dI H.size xx xxs ((xs (1 : Int32).toNatClampNeg)) ((xs (2 : Int32).toNatClampNeg)) f_xxs_11) (cwV 2 hts (p1_gV m_0 m_1 m_2 m_3 g_x_walk gz_x_walk) rfl rfl rfl (by decide +kernel) ⟨by decide, by decide⟩) ⟨fun a U g mk q => by obtain ⟨q0, q1, qP, qK, qD⟩ := q; exact ⟨q0, q1, qP, va_K.moved (u := U) (U := U.calling g mk a) (Vm.Alike.refl U.vm) qK, qD⟩, va_recv hKc hPc (ci := 7) (q0 := 0) rfl rfl, fun U hU hW => ⟨rfl, by rw [hU], by rw [hU]; exact hPc, va_K.moved hW.alike hKc, hDc.weaken (fun _ _ _ _ => trivial)⟩⟩ rfl rfl hl.1 rfl (lv_room (Nat.le_of_ble_eq_true rfl)) dL_law_375 ⟨by decide, by decide⟩) hS (fun q _ h => hFc q h) hFc (fun r_3 u t H1 locs ht hvm hw hB hz1 hk1 hS => ?_)
  obtain ⟨hP1, hK1, hD1⟩ := hB
  rw [ht] at hP1
  obtain ⟨hP, hD⟩ := va_join (wr := [(rmo, .inr (8, rms))]) (w1 := []) hP hD [0] [1] rfl rfl (by decide) (by decide) hk1 hFc hP1 hD1
  generalize H1 = H at hP hS ⊢
  have hP : va_P (dC, dI) vwCl [(rmo, .inr (8, rms))] H := hP
  have hD : va_D A [(rmo, .inr (8, rms))] := hD
  try dsimp only at hw
  obtain rfl : r_3 = (-1) := hw
  refine lv_aload_n hx hb dL_law_378 rfl (lv_at hl 1 rfl) ?_
  refine lv_aload_n hx hb dL_law_379 rfl (lv_at hl 3 rfl) ?_
  refine lv_iload_n hx hb dL_law_380 rfl (lv_at hl 0 rfl) ?_
  refine lv_iconst (v := 1) hx hb dL_law_381 (by decide) ?_
  refine lv_iadd hx hb dL_law_382 ?_
  refine lv_topi (fun v_4 ev_4 => ?_)
  obtain rfl : v_4 = 1 := ev_4.trans (by decide)
  refine va_sld hx hb hX hbl hbA hS (p1_in (i := 1) (n := 6) (by decide)) dL_law_383 ?_
  refine lv_aload_n hx hb dL_law_384 rfl (lv_at hl 3 rfl) ?_
  refine lv_iload_n hx hb dL_law_385 rfl (lv_at hl 0 rfl) ?_
  refine lv_iconst (v := 2) hx hb dL_law_386 (by decide) ?_
  refine lv_iadd hx hb dL_law_387 ?_
  refine lv_topi (fun v_5 ev_5 => ?_)
  obtain rfl : v_5 = 2 := ev_5.trans (by decide)
  refine va_sld hx hb hX hbl hbA hS (p1_in (i := 2) (n := 6) (by decide)) dL_law_388 ?_
  have hPc := hP.sub (ws' := [(rmo, .inr (8, rms))]) [0] rfl
  have hDc := hD.sub (ws' := [(rmo, .inr (8, rms))]) [0] (by decide) rfl
  have hKc := hK.sub (tys' := []) [] rfl
  have hFc := va_free (wc := [(rmo, .inr (8, rms))]) hD hS hA [0] rfl
  refine va_calli (va_runV (As := [.int (xs (1 : Int32).toNatClampNeg), .int (xs (2 : Int32).toNatClampNeg)]) (rest := [.int (-1)]) ⟨hx, hb, hml, hown, hts⟩ (m_walk l dC dI H.size rmo rms ((xs (1 : Int32).toNatClampNeg)) ((xs (2 : Int32).toNatClampNeg)) f_rms_60) (cwV 2 hts (p1_gV m_4 m_5 m_6 m_7 g_m_walk gz_m_walk) rfl rfl rfl (by decide +kernel) ⟨by decide, by decide⟩) ⟨fun a U g mk q => by obtain ⟨q0, q1, qP, qK, qD⟩ := q; exact ⟨q0, q1, qP, va_K.moved (u := U) (U := U.calling g mk a) (Vm.Alike.refl U.vm) qK, qD⟩, va_recv hKc hPc (ci := 8) (q0 := 0) rfl rfl, fun U hU hW => ⟨rfl, by rw [hU], by rw [hU]; exact hPc, va_K.moved hW.alike hKc, hDc.weaken (fun _ _ _ _ => trivial)⟩⟩ rfl rfl hl.1 rfl (lv_room (Nat.le_of_ble_eq_true rfl)) dL_law_389 ⟨by decide, by decide⟩) hS (fun q _ h => hFc q h) hFc (fun r_6 u t H1 locs ht hvm hw hB hz1 hk1 hS => ?_)
  obtain ⟨hP1, hK1, hD1⟩ := hB
  rw [ht] at hP1
  obtain ⟨hP, hD⟩ := va_join (wr := []) (w1 := []) hP hD [0] [] rfl rfl (by decide) (by decide) hk1 hFc hP1 hD1
  generalize H1 = H at hP hS ⊢
  have hP : va_P (dC, dI) vwCl [] H := hP
  have hD : va_D A [] := hD
  try dsimp only at hw
  obtain rfl : r_6 = (-1) := hw
  refine lv_icmp_eq (tgt := 1382) hx hb dL_law_392 (by decide) (fun _ => ?_) (fun c9 => absurd c9 (by decide))
  refine lv_iinc (v := 6) (lv' := [(3, .int 6), (2, .ref rmo), (1, .ref xx), (0, .ref b)]) hx hb dL_law_1382 hl (k := 0) rfl (by decide) (by decide) rfl (fun ls hl => ?_)
  refine lv_goto (tgt := 18) hx hb dL_law_1385 (by decide) ?_
  refine lv_iload_n hx hb dL_law_18 rfl (lv_at hl 0 rfl) ?_
  refine lv_aload_n hx hb dL_law_19 rfl (lv_at hl 3 rfl) ?_
  refine va_slen hx hb hX hbl hbA hS dL_law_20 ?_
  refine lv_topi (fun v_8 ev_8 => ?_)
  obtain rfl : v_8 = 6 := ev_8.trans rfl
  refine lv_bipush (v := 6) hx hb dL_law_21 (by decide) ?_
  refine lv_isub hx hb dL_law_23 ?_
  refine lv_topi (fun v_9 ev_9 => ?_)
  obtain rfl : v_9 = 0 := ev_9.trans (by decide)
  refine lv_icmp_gt (tgt := 1388) hx hb dL_law_24 (by decide) (fun _ => ?_) (fun c9 => absurd c9 (by decide))
  refine lv_iconst (v := 1) hx hb dL_law_1388 (by decide) ?_
  refine va_forget (fun q hq => by have h9 := hS.2.2 q hq; rw [hAe] at h9; exact h9) ?_
  refine W.widen (k := 600000) (n := 7302249) (by decide) (by decide) ?_
  exact lw_ret hx hb hr hlocks dL_law_1389
set_option maxHeartbeats 4000000 in
set_option maxRecDepth 100000 in
theorem law_pull {p : Program} {e : Env} {s : State} {m : MethodId} {below : List Frame} {meth : Method} {c : Code} (l : Launch) {b : Nat} {xs : Nat → Int32} (C0 : lw_At p s m meth c b 6 xs) {A : Nat → Prop} (hAe : A = fun q : Nat => s.heap.size ≤ q) (hE : p1_ex A s s.heap) (dC : Nat → ClassId) (dI : Nat → Nat → Nat) (xx : Nat) (xxs : List Value) (rmo : Nat) (rms : List Value) (f_xxs_11 : xxs[11]? = some (.int 0)) (f_rms_60 : rms[60]? = some (.int 0)) (H : Heap) (locs : List Loc) (ls : Array Slot) (hK : va_K (dC, dI) vwCl [] s) (hP : va_P (dC, dI) vwCl [(xx, .inr (7, xxs)), (rmo, .inr (8, rms))] H) (hD : va_D A [(xx, .inr (7, xxs)), (rmo, .inr (8, rms))]) (hS : va_S A s.heap H locs) (hl : lv_has ls 4 [(3, .int 0), (2, .ref rmo), (1, .ref xx), (0, .ref b)]) : W p l e room_1 s m #[Value.ref b] below meth c H locs 152 11751 (lw_Z below #[Value.ref b] s) (F0 m 397 ls []) := by
  obtain ⟨hx, hb, hr, hml, hown, hts, hX, hbl, hlocks, hgv⟩ := id C0
  have hown : s.vm.findClass RL = some m.cls := hown
  have hA : ∀ q : Nat, s.heap.size ≤ q → A q := by rw [hAe]; exact fun _ h => h
  have hbA : ¬ A b := by rw [hAe]; exact Nat.not_le.mpr hbl
  have m_0 : (.methodLink RL 45 yX8_pull : Cond) ∈ lw_tbl := p1_w 794 (by decide +kernel)
  have k_0 := hts _ m_0
  have m_1 : (.instanceMethod yX8_pull : Cond) ∈ lw_tbl := p1_w 795 (by decide +kernel)
  have k_1 := hts _ m_1
  have m_2 : (.selects RX8 yX8_pull yX8_pull : Cond) ∈ lw_tbl := p1_w 796 (by decide +kernel)
  have k_2 := hts _ m_2
  have m_3 : (.initialized RX8 : Cond) ∈ lw_tbl := p1_w 104 (by decide +kernel)
  have k_3 := hts _ m_3
  have m_4 : (.methodLink RL 48 yX9_pull : Cond) ∈ lw_tbl := p1_w 1502 (by decide +kernel)
  have k_4 := hts _ m_4
  have m_5 : (.instanceMethod yX9_pull : Cond) ∈ lw_tbl := p1_w 1503 (by decide +kernel)
  have k_5 := hts _ m_5
  have m_6 : (.selects RX9 yX9_pull yX9_pull : Cond) ∈ lw_tbl := p1_w 1504 (by decide +kernel)
  have k_6 := hts _ m_6
  have m_7 : (.initialized RX9 : Cond) ∈ lw_tbl := p1_w 116 (by decide +kernel)
  have k_7 := hts _ m_7
  have g_x_pull := iz_x_pull
  have g_m_pull := iz_m_pull
  refine lv_aload_n hx hb dL_law_397 rfl (lv_at hl 2 rfl) ?_
  refine lv_aload_n hx hb dL_law_398 rfl (lv_at hl 3 rfl) ?_
  refine lv_iload_n hx hb dL_law_399 rfl (lv_at hl 0 rfl) ?_
  refine lv_iconst (v := 1) hx hb dL_law_400 (by decide) ?_
  refine lv_iadd hx hb dL_law_401 ?_
  refine lv_topi (fun v_1 ev_1 => ?_)
  obtain rfl : v_1 = 1 := ev_1.trans (by decide)
  refine va_sld hx hb hX hbl hbA hS (p1_in (i := 1) (n := 6) (by decide)) dL_law_402 ?_
  have hPc := hP.sub (ws' := [(xx, .inr (7, xxs))]) [0] rfl
  have hDc := hD.sub (ws' := [(xx, .inr (7, xxs))]) [0] (by decide) rfl
  have hKc := hK.sub (tys' := []) [] rfl
  have hFc := va_free (wc := [(xx, .inr (7, xxs))]) hD hS hA [0] rfl
  refine va_calli (va_runV (As := [.int (xs (1 : Int32).toNatClampNeg)]) (rest := []) ⟨hx, hb, hml, hown, hts⟩ (x_pull l dC dI H.size xx xxs ((xs (1 : Int32).toNatClampNeg)) f_xxs_11) (cwV 1 hts (p1_gV m_0 m_1 m_2 m_3 g_x_pull gz_x_pull) rfl rfl rfl (by decide +kernel) ⟨by decide, by decide⟩) ⟨fun a U g mk q => by obtain ⟨q0, q1, qP, qK, qD⟩ := q; exact ⟨q0, q1, qP, va_K.moved (u := U) (U := U.calling g mk a) (Vm.Alike.refl U.vm) qK, qD⟩, va_recv hKc hPc (ci := 7) (q0 := 0) rfl rfl, fun U hU hW => ⟨rfl, by rw [hU], by rw [hU]; exact hPc, va_K.moved hW.alike hKc, hDc.weaken (fun _ _ _ _ => trivial)⟩⟩ rfl rfl hl.1 rfl (lv_room (Nat.le_of_ble_eq_true rfl)) dL_law_403 ⟨by decide, by decide⟩) hS (fun q _ h => hFc q h) hFc (fun r_2 u t H1 locs ht hvm hw hB hz1 hk1 hS => ?_)
  obtain ⟨hP1, hK1, hD1⟩ := hB
  rw [ht] at hP1
  obtain ⟨hP, hD⟩ := va_join (wr := [(rmo, .inr (8, rms))]) (w1 := []) hP hD [0] [1] rfl rfl (by decide) (by decide) hk1 hFc hP1 hD1
  generalize H1 = H at hP hS ⊢
  have hP : va_P (dC, dI) vwCl [(rmo, .inr (8, rms))] H := hP
  have hD : va_D A [(rmo, .inr (8, rms))] := hD
  try dsimp only at hw
  obtain rfl : r_2 = (-1) := hw
  refine lv_aload_n hx hb dL_law_406 rfl (lv_at hl 1 rfl) ?_
  refine lv_aload_n hx hb dL_law_407 rfl (lv_at hl 3 rfl) ?_
  refine lv_iload_n hx hb dL_law_408 rfl (lv_at hl 0 rfl) ?_
  refine lv_iconst (v := 1) hx hb dL_law_409 (by decide) ?_
  refine lv_iadd hx hb dL_law_410 ?_
  refine lv_topi (fun v_3 ev_3 => ?_)
  obtain rfl : v_3 = 1 := ev_3.trans (by decide)
  refine va_sld hx hb hX hbl hbA hS (p1_in (i := 1) (n := 6) (by decide)) dL_law_411 ?_
  have hPc := hP.sub (ws' := [(rmo, .inr (8, rms))]) [0] rfl
  have hDc := hD.sub (ws' := [(rmo, .inr (8, rms))]) [0] (by decide) rfl
  have hKc := hK.sub (tys' := []) [] rfl
  have hFc := va_free (wc := [(rmo, .inr (8, rms))]) hD hS hA [0] rfl
  refine va_calli (va_runV (As := [.int (xs (1 : Int32).toNatClampNeg)]) (rest := [.int (-1)]) ⟨hx, hb, hml, hown, hts⟩ (m_pull l dC dI H.size rmo rms ((xs (1 : Int32).toNatClampNeg)) f_rms_60) (cwV 1 hts (p1_gV m_4 m_5 m_6 m_7 g_m_pull gz_m_pull) rfl rfl rfl (by decide +kernel) ⟨by decide, by decide⟩) ⟨fun a U g mk q => by obtain ⟨q0, q1, qP, qK, qD⟩ := q; exact ⟨q0, q1, qP, va_K.moved (u := U) (U := U.calling g mk a) (Vm.Alike.refl U.vm) qK, qD⟩, va_recv hKc hPc (ci := 8) (q0 := 0) rfl rfl, fun U hU hW => ⟨rfl, by rw [hU], by rw [hU]; exact hPc, va_K.moved hW.alike hKc, hDc.weaken (fun _ _ _ _ => trivial)⟩⟩ rfl rfl hl.1 rfl (lv_room (Nat.le_of_ble_eq_true rfl)) dL_law_412 ⟨by decide, by decide⟩) hS (fun q _ h => hFc q h) hFc (fun r_4 u t H1 locs ht hvm hw hB hz1 hk1 hS => ?_)
  obtain ⟨hP1, hK1, hD1⟩ := hB
  rw [ht] at hP1
  obtain ⟨hP, hD⟩ := va_join (wr := []) (w1 := []) hP hD [0] [] rfl rfl (by decide) (by decide) hk1 hFc hP1 hD1
  generalize H1 = H at hP hS ⊢
  have hP : va_P (dC, dI) vwCl [] H := hP
  have hD : va_D A [] := hD
  try dsimp only at hw
  obtain rfl : r_4 = (-1) := hw
  refine lv_icmp_eq (tgt := 1382) hx hb dL_law_415 (by decide) (fun _ => ?_) (fun c9 => absurd c9 (by decide))
  refine lv_iinc (v := 6) (lv' := [(3, .int 6), (2, .ref rmo), (1, .ref xx), (0, .ref b)]) hx hb dL_law_1382 hl (k := 0) rfl (by decide) (by decide) rfl (fun ls hl => ?_)
  refine lv_goto (tgt := 18) hx hb dL_law_1385 (by decide) ?_
  refine lv_iload_n hx hb dL_law_18 rfl (lv_at hl 0 rfl) ?_
  refine lv_aload_n hx hb dL_law_19 rfl (lv_at hl 3 rfl) ?_
  refine va_slen hx hb hX hbl hbA hS dL_law_20 ?_
  refine lv_topi (fun v_6 ev_6 => ?_)
  obtain rfl : v_6 = 6 := ev_6.trans rfl
  refine lv_bipush (v := 6) hx hb dL_law_21 (by decide) ?_
  refine lv_isub hx hb dL_law_23 ?_
  refine lv_topi (fun v_7 ev_7 => ?_)
  obtain rfl : v_7 = 0 := ev_7.trans (by decide)
  refine lv_icmp_gt (tgt := 1388) hx hb dL_law_24 (by decide) (fun _ => ?_) (fun c9 => absurd c9 (by decide))
  refine lv_iconst (v := 1) hx hb dL_law_1388 (by decide) ?_
  refine va_forget (fun q hq => by have h9 := hS.2.2 q hq; rw [hAe] at h9; exact h9) ?_
  refine W.widen (k := 600000) (n := 7302249) (by decide) (by decide) ?_
  exact lw_ret hx hb hr hlocks dL_law_1389
set_option maxHeartbeats 4000000 in
set_option maxRecDepth 100000 in
theorem law_bow {p : Program} {e : Env} {s : State} {m : MethodId} {below : List Frame} {meth : Method} {c : Code} (l : Launch) {b : Nat} {xs : Nat → Int32} (C0 : lw_At p s m meth c b 6 xs) {A : Nat → Prop} (hAe : A = fun q : Nat => s.heap.size ≤ q) (hE : p1_ex A s s.heap) (dC : Nat → ClassId) (dI : Nat → Nat → Nat) (xx : Nat) (xxs : List Value) (rmo : Nat) (rms : List Value) (f_xxs_11 : xxs[11]? = some (.int 0)) (f_rms_60 : rms[60]? = some (.int 0)) (H : Heap) (locs : List Loc) (ls : Array Slot) (hK : va_K (dC, dI) vwCl [] s) (hP : va_P (dC, dI) vwCl [(xx, .inr (7, xxs)), (rmo, .inr (8, rms))] H) (hD : va_D A [(xx, .inr (7, xxs)), (rmo, .inr (8, rms))]) (hS : va_S A s.heap H locs) (hl : lv_has ls 4 [(3, .int 0), (2, .ref rmo), (1, .ref xx), (0, .ref b)]) : W p l e room_1 s m #[Value.ref b] below meth c H locs 152 11751 (lw_Z below #[Value.ref b] s) (F0 m 420 ls []) := by
  obtain ⟨hx, hb, hr, hml, hown, hts, hX, hbl, hlocks, hgv⟩ := id C0
  have hown : s.vm.findClass RL = some m.cls := hown
  have hA : ∀ q : Nat, s.heap.size ≤ q → A q := by rw [hAe]; exact fun _ h => h
  have hbA : ¬ A b := by rw [hAe]; exact Nat.not_le.mpr hbl
  have m_0 : (.methodLink RL 49 yX8_bow : Cond) ∈ lw_tbl := p1_w 802 (by decide +kernel)
  have k_0 := hts _ m_0
  have m_1 : (.instanceMethod yX8_bow : Cond) ∈ lw_tbl := p1_w 803 (by decide +kernel)
  have k_1 := hts _ m_1
  have m_2 : (.selects RX8 yX8_bow yX8_bow : Cond) ∈ lw_tbl := p1_w 804 (by decide +kernel)
  have k_2 := hts _ m_2
  have m_3 : (.initialized RX8 : Cond) ∈ lw_tbl := p1_w 104 (by decide +kernel)
  have k_3 := hts _ m_3
  have m_4 : (.methodLink RL 52 yX9_bow : Cond) ∈ lw_tbl := p1_w 1506 (by decide +kernel)
  have k_4 := hts _ m_4
  have m_5 : (.instanceMethod yX9_bow : Cond) ∈ lw_tbl := p1_w 1507 (by decide +kernel)
  have k_5 := hts _ m_5
  have m_6 : (.selects RX9 yX9_bow yX9_bow : Cond) ∈ lw_tbl := p1_w 1508 (by decide +kernel)
  have k_6 := hts _ m_6
  have m_7 : (.initialized RX9 : Cond) ∈ lw_tbl := p1_w 116 (by decide +kernel)
  have k_7 := hts _ m_7
  have g_x_bow := iz_x_bow
  have g_m_bow := iz_m_bow
  refine lv_aload_n hx hb dL_law_420 rfl (lv_at hl 2 rfl) ?_
  refine lv_aload_n hx hb dL_law_421 rfl (lv_at hl 3 rfl) ?_
  refine lv_iload_n hx hb dL_law_422 rfl (lv_at hl 0 rfl) ?_
  refine lv_iconst (v := 1) hx hb dL_law_423 (by decide) ?_
  refine lv_iadd hx hb dL_law_424 ?_
  refine lv_topi (fun v_1 ev_1 => ?_)
  obtain rfl : v_1 = 1 := ev_1.trans (by decide)
  refine va_sld hx hb hX hbl hbA hS (p1_in (i := 1) (n := 6) (by decide)) dL_law_425 ?_
  have hPc := hP.sub (ws' := [(xx, .inr (7, xxs))]) [0] rfl
  have hDc := hD.sub (ws' := [(xx, .inr (7, xxs))]) [0] (by decide) rfl
  have hKc := hK.sub (tys' := []) [] rfl
  have hFc := va_free (wc := [(xx, .inr (7, xxs))]) hD hS hA [0] rfl
  refine va_calli (va_runV (As := [.int (xs (1 : Int32).toNatClampNeg)]) (rest := []) ⟨hx, hb, hml, hown, hts⟩ (x_bow l dC dI H.size xx xxs ((xs (1 : Int32).toNatClampNeg)) f_xxs_11) (cwV 1 hts (p1_gV m_0 m_1 m_2 m_3 g_x_bow gz_x_bow) rfl rfl rfl (by decide +kernel) ⟨by decide, by decide⟩) ⟨fun a U g mk q => by obtain ⟨q0, q1, qP, qK, qD⟩ := q; exact ⟨q0, q1, qP, va_K.moved (u := U) (U := U.calling g mk a) (Vm.Alike.refl U.vm) qK, qD⟩, va_recv hKc hPc (ci := 7) (q0 := 0) rfl rfl, fun U hU hW => ⟨rfl, by rw [hU], by rw [hU]; exact hPc, va_K.moved hW.alike hKc, hDc.weaken (fun _ _ _ _ => trivial)⟩⟩ rfl rfl hl.1 rfl (lv_room (Nat.le_of_ble_eq_true rfl)) dL_law_426 ⟨by decide, by decide⟩) hS (fun q _ h => hFc q h) hFc (fun r_2 u t H1 locs ht hvm hw hB hz1 hk1 hS => ?_)
  obtain ⟨hP1, hK1, hD1⟩ := hB
  rw [ht] at hP1
  obtain ⟨hP, hD⟩ := va_join (wr := [(rmo, .inr (8, rms))]) (w1 := []) hP hD [0] [1] rfl rfl (by decide) (by decide) hk1 hFc hP1 hD1
  generalize H1 = H at hP hS ⊢
  have hP : va_P (dC, dI) vwCl [(rmo, .inr (8, rms))] H := hP
  have hD : va_D A [(rmo, .inr (8, rms))] := hD
  try dsimp only at hw
  obtain rfl : r_2 = (-1) := hw
  refine lv_aload_n hx hb dL_law_429 rfl (lv_at hl 1 rfl) ?_
  refine lv_aload_n hx hb dL_law_430 rfl (lv_at hl 3 rfl) ?_
  refine lv_iload_n hx hb dL_law_431 rfl (lv_at hl 0 rfl) ?_
  refine lv_iconst (v := 1) hx hb dL_law_432 (by decide) ?_
  refine lv_iadd hx hb dL_law_433 ?_
  refine lv_topi (fun v_3 ev_3 => ?_)
  obtain rfl : v_3 = 1 := ev_3.trans (by decide)
  refine va_sld hx hb hX hbl hbA hS (p1_in (i := 1) (n := 6) (by decide)) dL_law_434 ?_
  have hPc := hP.sub (ws' := [(rmo, .inr (8, rms))]) [0] rfl
  have hDc := hD.sub (ws' := [(rmo, .inr (8, rms))]) [0] (by decide) rfl
  have hKc := hK.sub (tys' := []) [] rfl
  have hFc := va_free (wc := [(rmo, .inr (8, rms))]) hD hS hA [0] rfl
  refine va_calli (va_runV (As := [.int (xs (1 : Int32).toNatClampNeg)]) (rest := [.int (-1)]) ⟨hx, hb, hml, hown, hts⟩ (m_bow l dC dI H.size rmo rms ((xs (1 : Int32).toNatClampNeg)) f_rms_60) (cwV 1 hts (p1_gV m_4 m_5 m_6 m_7 g_m_bow gz_m_bow) rfl rfl rfl (by decide +kernel) ⟨by decide, by decide⟩) ⟨fun a U g mk q => by obtain ⟨q0, q1, qP, qK, qD⟩ := q; exact ⟨q0, q1, qP, va_K.moved (u := U) (U := U.calling g mk a) (Vm.Alike.refl U.vm) qK, qD⟩, va_recv hKc hPc (ci := 8) (q0 := 0) rfl rfl, fun U hU hW => ⟨rfl, by rw [hU], by rw [hU]; exact hPc, va_K.moved hW.alike hKc, hDc.weaken (fun _ _ _ _ => trivial)⟩⟩ rfl rfl hl.1 rfl (lv_room (Nat.le_of_ble_eq_true rfl)) dL_law_435 ⟨by decide, by decide⟩) hS (fun q _ h => hFc q h) hFc (fun r_4 u t H1 locs ht hvm hw hB hz1 hk1 hS => ?_)
  obtain ⟨hP1, hK1, hD1⟩ := hB
  rw [ht] at hP1
  obtain ⟨hP, hD⟩ := va_join (wr := []) (w1 := []) hP hD [0] [] rfl rfl (by decide) (by decide) hk1 hFc hP1 hD1
  generalize H1 = H at hP hS ⊢
  have hP : va_P (dC, dI) vwCl [] H := hP
  have hD : va_D A [] := hD
  try dsimp only at hw
  obtain rfl : r_4 = (-1) := hw
  refine lv_icmp_eq (tgt := 1382) hx hb dL_law_438 (by decide) (fun _ => ?_) (fun c9 => absurd c9 (by decide))
  refine lv_iinc (v := 6) (lv' := [(3, .int 6), (2, .ref rmo), (1, .ref xx), (0, .ref b)]) hx hb dL_law_1382 hl (k := 0) rfl (by decide) (by decide) rfl (fun ls hl => ?_)
  refine lv_goto (tgt := 18) hx hb dL_law_1385 (by decide) ?_
  refine lv_iload_n hx hb dL_law_18 rfl (lv_at hl 0 rfl) ?_
  refine lv_aload_n hx hb dL_law_19 rfl (lv_at hl 3 rfl) ?_
  refine va_slen hx hb hX hbl hbA hS dL_law_20 ?_
  refine lv_topi (fun v_6 ev_6 => ?_)
  obtain rfl : v_6 = 6 := ev_6.trans rfl
  refine lv_bipush (v := 6) hx hb dL_law_21 (by decide) ?_
  refine lv_isub hx hb dL_law_23 ?_
  refine lv_topi (fun v_7 ev_7 => ?_)
  obtain rfl : v_7 = 0 := ev_7.trans (by decide)
  refine lv_icmp_gt (tgt := 1388) hx hb dL_law_24 (by decide) (fun _ => ?_) (fun c9 => absurd c9 (by decide))
  refine lv_iconst (v := 1) hx hb dL_law_1388 (by decide) ?_
  refine va_forget (fun q hq => by have h9 := hS.2.2 q hq; rw [hAe] at h9; exact h9) ?_
  refine W.widen (k := 600000) (n := 7302249) (by decide) (by decide) ?_
  exact lw_ret hx hb hr hlocks dL_law_1389
set_option maxHeartbeats 4000000 in
set_option maxRecDepth 100000 in
theorem law_holds {p : Program} {e : Env} {s : State} {m : MethodId} {below : List Frame} {meth : Method} {c : Code} (l : Launch) {b : Nat} {xs : Nat → Int32} (C0 : lw_At p s m meth c b 6 xs) {A : Nat → Prop} (hAe : A = fun q : Nat => s.heap.size ≤ q) (hE : p1_ex A s s.heap) (dC : Nat → ClassId) (dI : Nat → Nat → Nat) (xx : Nat) (xxs : List Value) (xsh : Nat) (xss : List Value) (xsc : Nat) (xcS : ClassId) (rmo : Nat) (rms : List Value) (rkn : Nat) (rcK : ClassId) (rkf : Nat → Int32) (f_xxs_9 : xxs[9]? = some (.ref xsh)) (f_xss_0 : xss[0]? = some (.ref xsc)) (f_rms_11 : rms[11]? = some (.ref rkn)) (f_rms_43 : rms[43]? = some (.int 0)) (h_rkf_0 : rkf 0 = 0) (H : Heap) (locs : List Loc) (ls : Array Slot) (hK : va_K (dC, dI) vwCl [(xcS, .int), (rcK, .int)] s) (hP : va_P (dC, dI) vwCl [(xx, .inr (7, xxs)), (xsh, .inr (5, xss)), (xsc, .inl (xcS, 5, .inl (fun _ => 0))), (rmo, .inr (8, rms)), (rkn, .inl (rcK, 2, .inl rkf))] H) (hD : va_D A [(xx, .inr (7, xxs)), (xsh, .inr (5, xss)), (xsc, .inl (xcS, 5, .inl (fun _ => 0))), (rmo, .inr (8, rms)), (rkn, .inl (rcK, 2, .inl rkf))]) (hS : va_S A s.heap H locs) (hl : lv_has ls 4 [(3, .int 0), (2, .ref rmo), (1, .ref xx), (0, .ref b)]) : W p l e room_1 s m #[Value.ref b] below meth c H locs 152 11751 (lw_Z below #[Value.ref b] s) (F0 m 443 ls []) := by
  obtain ⟨hx, hb, hr, hml, hown, hts, hX, hbl, hlocks, hgv⟩ := id C0
  have hown : s.vm.findClass RL = some m.cls := hown
  have hA : ∀ q : Nat, s.heap.size ≤ q → A q := by rw [hAe]; exact fun _ h => h
  have hbA : ¬ A b := by rw [hAe]; exact Nat.not_le.mpr hbl
  have m_0 : (.methodLink RL 53 yX8_holds : Cond) ∈ lw_tbl := p1_w 806 (by decide +kernel)
  have k_0 := hts _ m_0
  have m_1 : (.instanceMethod yX8_holds : Cond) ∈ lw_tbl := p1_w 807 (by decide +kernel)
  have k_1 := hts _ m_1
  have m_2 : (.selects RX8 yX8_holds yX8_holds : Cond) ∈ lw_tbl := p1_w 808 (by decide +kernel)
  have k_2 := hts _ m_2
  have m_3 : (.initialized RX8 : Cond) ∈ lw_tbl := p1_w 104 (by decide +kernel)
  have k_3 := hts _ m_3
  have m_4 : (.methodLink RL 57 yX9_holds : Cond) ∈ lw_tbl := p1_w 1514 (by decide +kernel)
  have k_4 := hts _ m_4
  have m_5 : (.instanceMethod yX9_holds : Cond) ∈ lw_tbl := p1_w 1515 (by decide +kernel)
  have k_5 := hts _ m_5
  have m_6 : (.selects RX9 yX9_holds yX9_holds : Cond) ∈ lw_tbl := p1_w 1516 (by decide +kernel)
  have k_6 := hts _ m_6
  have m_7 : (.initialized RX9 : Cond) ∈ lw_tbl := p1_w 116 (by decide +kernel)
  have k_7 := hts _ m_7
  have g_x_holds := iz_x_holds
  have g_m_holds := iz_m_holds
  refine lv_aload_n hx hb dL_law_443 rfl (lv_at hl 2 rfl) ?_
  refine lv_aload_n hx hb dL_law_444 rfl (lv_at hl 3 rfl) ?_
  refine lv_iload_n hx hb dL_law_445 rfl (lv_at hl 0 rfl) ?_
  refine lv_iconst (v := 1) hx hb dL_law_446 (by decide) ?_
  refine lv_iadd hx hb dL_law_447 ?_
  refine lv_topi (fun v_1 ev_1 => ?_)
  obtain rfl : v_1 = 1 := ev_1.trans (by decide)
  refine va_sld hx hb hX hbl hbA hS (p1_in (i := 1) (n := 6) (by decide)) dL_law_448 ?_
  refine lv_aload_n hx hb dL_law_449 rfl (lv_at hl 3 rfl) ?_
  refine lv_iload_n hx hb dL_law_450 rfl (lv_at hl 0 rfl) ?_
  refine lv_iconst (v := 2) hx hb dL_law_451 (by decide) ?_
  refine lv_iadd hx hb dL_law_452 ?_
  refine lv_topi (fun v_2 ev_2 => ?_)
  obtain rfl : v_2 = 2 := ev_2.trans (by decide)
  refine va_sld hx hb hX hbl hbA hS (p1_in (i := 2) (n := 6) (by decide)) dL_law_453 ?_
  refine lv_aload_n hx hb dL_law_454 rfl (lv_at hl 3 rfl) ?_
  refine lv_iload_n hx hb dL_law_455 rfl (lv_at hl 0 rfl) ?_
  refine lv_iconst (v := 3) hx hb dL_law_456 (by decide) ?_
  refine lv_iadd hx hb dL_law_457 ?_
  refine lv_topi (fun v_3 ev_3 => ?_)
  obtain rfl : v_3 = 3 := ev_3.trans (by decide)
  refine va_sld hx hb hX hbl hbA hS (p1_in (i := 3) (n := 6) (by decide)) dL_law_458 ?_
  refine lv_aload_n hx hb dL_law_459 rfl (lv_at hl 3 rfl) ?_
  refine lv_iload_n hx hb dL_law_460 rfl (lv_at hl 0 rfl) ?_
  refine lv_iconst (v := 4) hx hb dL_law_461 (by decide) ?_
  refine lv_iadd hx hb dL_law_462 ?_
  refine lv_topi (fun v_4 ev_4 => ?_)
  obtain rfl : v_4 = 4 := ev_4.trans (by decide)
  refine va_sld hx hb hX hbl hbA hS (p1_in (i := 4) (n := 6) (by decide)) dL_law_463 ?_
  have hPc := hP.sub (ws' := [(xx, .inr (7, xxs)), (xsh, .inr (5, xss)), (xsc, .inl (xcS, 5, .inl (fun _ => 0)))]) [0, 1, 2] rfl
  have hDc := hD.sub (ws' := [(xx, .inr (7, xxs)), (xsh, .inr (5, xss)), (xsc, .inl (xcS, 5, .inl (fun _ => 0)))]) [0, 1, 2] (by decide) rfl
  have hKc := hK.sub (tys' := [(xcS, .int)]) [0] rfl
  have hFc := va_free (wc := [(xx, .inr (7, xxs)), (xsh, .inr (5, xss)), (xsc, .inl (xcS, 5, .inl (fun _ => 0)))]) hD hS hA [0, 1, 2] rfl
  refine va_calli (va_runV (As := [.int (xs (1 : Int32).toNatClampNeg), .int (xs (2 : Int32).toNatClampNeg), .int (xs (3 : Int32).toNatClampNeg), .int (xs (4 : Int32).toNatClampNeg)]) (rest := []) ⟨hx, hb, hml, hown, hts⟩ (x_holds l dC dI H.size xx xxs xsh xss xsc xcS ((xs (1 : Int32).toNatClampNeg)) ((xs (2 : Int32).toNatClampNeg)) ((xs (3 : Int32).toNatClampNeg)) ((xs (4 : Int32).toNatClampNeg)) f_xxs_9 f_xss_0) (cwV 4 hts (p1_gV m_0 m_1 m_2 m_3 g_x_holds gz_x_holds) rfl rfl rfl (by decide +kernel) ⟨by decide, by decide⟩) ⟨fun a U g mk q => by obtain ⟨q0, q1, qP, qK, qD⟩ := q; exact ⟨q0, q1, qP, va_K.moved (u := U) (U := U.calling g mk a) (Vm.Alike.refl U.vm) qK, qD⟩, va_recv hKc hPc (ci := 7) (q0 := 0) rfl rfl, fun U hU hW => ⟨rfl, by rw [hU], by rw [hU]; exact hPc, va_K.moved hW.alike hKc, hDc.weaken (fun _ _ _ _ => trivial)⟩⟩ rfl rfl hl.1 rfl (lv_room (Nat.le_of_ble_eq_true rfl)) dL_law_464 ⟨by decide, by decide⟩) hS (fun q _ h => hFc q h) hFc (fun r_5 u t H1 locs ht hvm hw hB hz1 hk1 hS => ?_)
  obtain ⟨hP1, hK1, hD1⟩ := hB
  rw [ht] at hP1
  obtain ⟨hP, hD⟩ := va_join (wr := [(rmo, .inr (8, rms)), (rkn, .inl (rcK, 2, .inl rkf))]) (w1 := []) hP hD [0, 1, 2] [3, 4] rfl rfl (by decide) (by decide) hk1 hFc hP1 hD1
  generalize H1 = H at hP hS ⊢
  have hP : va_P (dC, dI) vwCl [(rmo, .inr (8, rms)), (rkn, .inl (rcK, 2, .inl rkf))] H := hP
  have hD : va_D A [(rmo, .inr (8, rms)), (rkn, .inl (rcK, 2, .inl rkf))] := hD
  try dsimp only at hw
  obtain rfl : r_5 = (-1) := hw
  refine lv_aload_n hx hb dL_law_467 rfl (lv_at hl 1 rfl) ?_
  refine lv_aload_n hx hb dL_law_468 rfl (lv_at hl 3 rfl) ?_
  refine lv_iload_n hx hb dL_law_469 rfl (lv_at hl 0 rfl) ?_
  refine lv_iconst (v := 1) hx hb dL_law_470 (by decide) ?_
  refine lv_iadd hx hb dL_law_471 ?_
  refine lv_topi (fun v_6 ev_6 => ?_)
  obtain rfl : v_6 = 1 := ev_6.trans (by decide)
  refine va_sld hx hb hX hbl hbA hS (p1_in (i := 1) (n := 6) (by decide)) dL_law_472 ?_
  refine lv_aload_n hx hb dL_law_473 rfl (lv_at hl 3 rfl) ?_
  refine lv_iload_n hx hb dL_law_474 rfl (lv_at hl 0 rfl) ?_
  refine lv_iconst (v := 2) hx hb dL_law_475 (by decide) ?_
  refine lv_iadd hx hb dL_law_476 ?_
  refine lv_topi (fun v_7 ev_7 => ?_)
  obtain rfl : v_7 = 2 := ev_7.trans (by decide)
  refine va_sld hx hb hX hbl hbA hS (p1_in (i := 2) (n := 6) (by decide)) dL_law_477 ?_
  refine lv_aload_n hx hb dL_law_478 rfl (lv_at hl 3 rfl) ?_
  refine lv_iload_n hx hb dL_law_479 rfl (lv_at hl 0 rfl) ?_
  refine lv_iconst (v := 3) hx hb dL_law_480 (by decide) ?_
  refine lv_iadd hx hb dL_law_481 ?_
  refine lv_topi (fun v_8 ev_8 => ?_)
  obtain rfl : v_8 = 3 := ev_8.trans (by decide)
  refine va_sld hx hb hX hbl hbA hS (p1_in (i := 3) (n := 6) (by decide)) dL_law_482 ?_
  refine lv_aload_n hx hb dL_law_483 rfl (lv_at hl 3 rfl) ?_
  refine lv_iload_n hx hb dL_law_484 rfl (lv_at hl 0 rfl) ?_
  refine lv_iconst (v := 4) hx hb dL_law_485 (by decide) ?_
  refine lv_iadd hx hb dL_law_486 ?_
  refine lv_topi (fun v_9 ev_9 => ?_)
  obtain rfl : v_9 = 4 := ev_9.trans (by decide)
  refine va_sld hx hb hX hbl hbA hS (p1_in (i := 4) (n := 6) (by decide)) dL_law_487 ?_
  have hPc := hP.sub (ws' := [(rmo, .inr (8, rms)), (rkn, .inl (rcK, 2, .inl rkf))]) [0, 1] rfl
  have hDc := hD.sub (ws' := [(rmo, .inr (8, rms)), (rkn, .inl (rcK, 2, .inl rkf))]) [0, 1] (by decide) rfl
  have hKc := hK.sub (tys' := [(rcK, .int)]) [1] rfl
  have hFc := va_free (wc := [(rmo, .inr (8, rms)), (rkn, .inl (rcK, 2, .inl rkf))]) hD hS hA [0, 1] rfl
  refine va_calli (va_runV (As := [.int (xs (1 : Int32).toNatClampNeg), .int (xs (2 : Int32).toNatClampNeg), .int (xs (3 : Int32).toNatClampNeg), .int (xs (4 : Int32).toNatClampNeg)]) (rest := [.int (-1)]) ⟨hx, hb, hml, hown, hts⟩ (m_holds l dC dI H.size rmo rms rkn rcK rkf ((xs (1 : Int32).toNatClampNeg)) ((xs (2 : Int32).toNatClampNeg)) ((xs (3 : Int32).toNatClampNeg)) ((xs (4 : Int32).toNatClampNeg)) f_rms_11 f_rms_43 h_rkf_0) (cwV 4 hts (p1_gV m_4 m_5 m_6 m_7 g_m_holds gz_m_holds) rfl rfl rfl (by decide +kernel) ⟨by decide, by decide⟩) ⟨fun a U g mk q => by obtain ⟨q0, q1, qP, qK, qD⟩ := q; exact ⟨q0, q1, qP, va_K.moved (u := U) (U := U.calling g mk a) (Vm.Alike.refl U.vm) qK, qD⟩, va_recv hKc hPc (ci := 8) (q0 := 0) rfl rfl, fun U hU hW => ⟨rfl, by rw [hU], by rw [hU]; exact hPc, va_K.moved hW.alike hKc, hDc.weaken (fun _ _ _ _ => trivial)⟩⟩ rfl rfl hl.1 rfl (lv_room (Nat.le_of_ble_eq_true rfl)) dL_law_488 ⟨by decide, by decide⟩) hS (fun q _ h => hFc q h) hFc (fun r_10 u t H1 locs ht hvm hw hB hz1 hk1 hS => ?_)
  obtain ⟨hP1, hK1, hD1⟩ := hB
  rw [ht] at hP1
  obtain ⟨hP, hD⟩ := va_join (wr := []) (w1 := []) hP hD [0, 1] [] rfl rfl (by decide) (by decide) hk1 hFc hP1 hD1
  generalize H1 = H at hP hS ⊢
  have hP : va_P (dC, dI) vwCl [] H := hP
  have hD : va_D A [] := hD
  try dsimp only at hw
  obtain rfl : r_10 = (-1) := hw
  refine lv_icmp_eq (tgt := 1382) hx hb dL_law_491 (by decide) (fun _ => ?_) (fun c9 => absurd c9 (by decide))
  refine lv_iinc (v := 6) (lv' := [(3, .int 6), (2, .ref rmo), (1, .ref xx), (0, .ref b)]) hx hb dL_law_1382 hl (k := 0) rfl (by decide) (by decide) rfl (fun ls hl => ?_)
  refine lv_goto (tgt := 18) hx hb dL_law_1385 (by decide) ?_
  refine lv_iload_n hx hb dL_law_18 rfl (lv_at hl 0 rfl) ?_
  refine lv_aload_n hx hb dL_law_19 rfl (lv_at hl 3 rfl) ?_
  refine va_slen hx hb hX hbl hbA hS dL_law_20 ?_
  refine lv_topi (fun v_12 ev_12 => ?_)
  obtain rfl : v_12 = 6 := ev_12.trans rfl
  refine lv_bipush (v := 6) hx hb dL_law_21 (by decide) ?_
  refine lv_isub hx hb dL_law_23 ?_
  refine lv_topi (fun v_13 ev_13 => ?_)
  obtain rfl : v_13 = 0 := ev_13.trans (by decide)
  refine lv_icmp_gt (tgt := 1388) hx hb dL_law_24 (by decide) (fun _ => ?_) (fun c9 => absurd c9 (by decide))
  refine lv_iconst (v := 1) hx hb dL_law_1388 (by decide) ?_
  refine va_forget (fun q hq => by have h9 := hS.2.2 q hq; rw [hAe] at h9; exact h9) ?_
  refine W.widen (k := 600000) (n := 7302249) (by decide) (by decide) ?_
  exact lw_ret hx hb hr hlocks dL_law_1389
set_option maxHeartbeats 4000000 in
set_option maxRecDepth 100000 in
theorem law_begins {p : Program} {e : Env} {s : State} {m : MethodId} {below : List Frame} {meth : Method} {c : Code} (l : Launch) {b : Nat} {xs : Nat → Int32} (C0 : lw_At p s m meth c b 6 xs) {A : Nat → Prop} (hAe : A = fun q : Nat => s.heap.size ≤ q) (hE : p1_ex A s s.heap) (dC : Nat → ClassId) (dI : Nat → Nat → Nat) (xx : Nat) (xxs : List Value) (xsh : Nat) (xss : List Value) (xsc : Nat) (xcS : ClassId) (rmo : Nat) (rms : List Value) (rkn : Nat) (rcK : ClassId) (rkf : Nat → Int32) (f_xxs_9 : xxs[9]? = some (.ref xsh)) (f_xss_0 : xss[0]? = some (.ref xsc)) (f_rms_11 : rms[11]? = some (.ref rkn)) (f_rms_43 : rms[43]? = some (.int 0)) (h_rkf_0 : rkf 0 = 0) (H : Heap) (locs : List Loc) (ls : Array Slot) (hK : va_K (dC, dI) vwCl [(xcS, .int), (rcK, .int)] s) (hP : va_P (dC, dI) vwCl [(xx, .inr (7, xxs)), (xsh, .inr (5, xss)), (xsc, .inl (xcS, 5, .inl (fun _ => 0))), (rmo, .inr (8, rms)), (rkn, .inl (rcK, 2, .inl rkf))] H) (hD : va_D A [(xx, .inr (7, xxs)), (xsh, .inr (5, xss)), (xsc, .inl (xcS, 5, .inl (fun _ => 0))), (rmo, .inr (8, rms)), (rkn, .inl (rcK, 2, .inl rkf))]) (hS : va_S A s.heap H locs) (hl : lv_has ls 4 [(3, .int 0), (2, .ref rmo), (1, .ref xx), (0, .ref b)]) : W p l e room_1 s m #[Value.ref b] below meth c H locs 152 11751 (lw_Z below #[Value.ref b] s) (F0 m 496 ls []) := by
  obtain ⟨hx, hb, hr, hml, hown, hts, hX, hbl, hlocks, hgv⟩ := id C0
  have hown : s.vm.findClass RL = some m.cls := hown
  have hA : ∀ q : Nat, s.heap.size ≤ q → A q := by rw [hAe]; exact fun _ h => h
  have hbA : ¬ A b := by rw [hAe]; exact Nat.not_le.mpr hbl
  have m_0 : (.methodLink RL 58 yX8_begins : Cond) ∈ lw_tbl := p1_w 849 (by decide +kernel)
  have k_0 := hts _ m_0
  have m_1 : (.instanceMethod yX8_begins : Cond) ∈ lw_tbl := p1_w 850 (by decide +kernel)
  have k_1 := hts _ m_1
  have m_2 : (.selects RX8 yX8_begins yX8_begins : Cond) ∈ lw_tbl := p1_w 851 (by decide +kernel)
  have k_2 := hts _ m_2
  have m_3 : (.initialized RX8 : Cond) ∈ lw_tbl := p1_w 104 (by decide +kernel)
  have k_3 := hts _ m_3
  have m_4 : (.methodLink RL 62 yX9_begins : Cond) ∈ lw_tbl := p1_w 1558 (by decide +kernel)
  have k_4 := hts _ m_4
  have m_5 : (.instanceMethod yX9_begins : Cond) ∈ lw_tbl := p1_w 1559 (by decide +kernel)
  have k_5 := hts _ m_5
  have m_6 : (.selects RX9 yX9_begins yX9_begins : Cond) ∈ lw_tbl := p1_w 1560 (by decide +kernel)
  have k_6 := hts _ m_6
  have m_7 : (.initialized RX9 : Cond) ∈ lw_tbl := p1_w 116 (by decide +kernel)
  have k_7 := hts _ m_7
  have g_x_begins := iz_x_begins
  have g_m_begins := iz_m_begins
  refine lv_aload_n hx hb dL_law_496 rfl (lv_at hl 2 rfl) ?_
  refine lv_aload_n hx hb dL_law_497 rfl (lv_at hl 3 rfl) ?_
  refine lv_iload_n hx hb dL_law_498 rfl (lv_at hl 0 rfl) ?_
  refine lv_iconst (v := 1) hx hb dL_law_499 (by decide) ?_
  refine lv_iadd hx hb dL_law_500 ?_
  refine lv_topi (fun v_1 ev_1 => ?_)
  obtain rfl : v_1 = 1 := ev_1.trans (by decide)
  refine va_sld hx hb hX hbl hbA hS (p1_in (i := 1) (n := 6) (by decide)) dL_law_501 ?_
  refine lv_aload_n hx hb dL_law_502 rfl (lv_at hl 3 rfl) ?_
  refine lv_iload_n hx hb dL_law_503 rfl (lv_at hl 0 rfl) ?_
  refine lv_iconst (v := 2) hx hb dL_law_504 (by decide) ?_
  refine lv_iadd hx hb dL_law_505 ?_
  refine lv_topi (fun v_2 ev_2 => ?_)
  obtain rfl : v_2 = 2 := ev_2.trans (by decide)
  refine va_sld hx hb hX hbl hbA hS (p1_in (i := 2) (n := 6) (by decide)) dL_law_506 ?_
  refine lv_aload_n hx hb dL_law_507 rfl (lv_at hl 3 rfl) ?_
  refine lv_iload_n hx hb dL_law_508 rfl (lv_at hl 0 rfl) ?_
  refine lv_iconst (v := 3) hx hb dL_law_509 (by decide) ?_
  refine lv_iadd hx hb dL_law_510 ?_
  refine lv_topi (fun v_3 ev_3 => ?_)
  obtain rfl : v_3 = 3 := ev_3.trans (by decide)
  refine va_sld hx hb hX hbl hbA hS (p1_in (i := 3) (n := 6) (by decide)) dL_law_511 ?_
  have hPc := hP.sub (ws' := [(xx, .inr (7, xxs)), (xsh, .inr (5, xss)), (xsc, .inl (xcS, 5, .inl (fun _ => 0)))]) [0, 1, 2] rfl
  have hDc := hD.sub (ws' := [(xx, .inr (7, xxs)), (xsh, .inr (5, xss)), (xsc, .inl (xcS, 5, .inl (fun _ => 0)))]) [0, 1, 2] (by decide) rfl
  have hKc := hK.sub (tys' := [(xcS, .int)]) [0] rfl
  have hFc := va_free (wc := [(xx, .inr (7, xxs)), (xsh, .inr (5, xss)), (xsc, .inl (xcS, 5, .inl (fun _ => 0)))]) hD hS hA [0, 1, 2] rfl
  refine va_calli (va_runV (As := [.int (xs (1 : Int32).toNatClampNeg), .int (xs (2 : Int32).toNatClampNeg), .int (xs (3 : Int32).toNatClampNeg)]) (rest := []) ⟨hx, hb, hml, hown, hts⟩ (x_begins l dC dI H.size xx xxs xsh xss xsc xcS ((xs (1 : Int32).toNatClampNeg)) ((xs (2 : Int32).toNatClampNeg)) ((xs (3 : Int32).toNatClampNeg)) f_xxs_9 f_xss_0) (cwV 3 hts (p1_gV m_0 m_1 m_2 m_3 g_x_begins gz_x_begins) rfl rfl rfl (by decide +kernel) ⟨by decide, by decide⟩) ⟨fun a U g mk q => by obtain ⟨q0, q1, qP, qK, qD⟩ := q; exact ⟨q0, q1, qP, va_K.moved (u := U) (U := U.calling g mk a) (Vm.Alike.refl U.vm) qK, qD⟩, va_recv hKc hPc (ci := 7) (q0 := 0) rfl rfl, fun U hU hW => ⟨rfl, by rw [hU], by rw [hU]; exact hPc, va_K.moved hW.alike hKc, hDc.weaken (fun _ _ _ _ => trivial)⟩⟩ rfl rfl hl.1 rfl (lv_room (Nat.le_of_ble_eq_true rfl)) dL_law_512 ⟨by decide, by decide⟩) hS (fun q _ h => hFc q h) hFc (fun r_4 u t H1 locs ht hvm hw hB hz1 hk1 hS => ?_)
  obtain ⟨hP1, hK1, hD1⟩ := hB
  rw [ht] at hP1
  obtain ⟨hP, hD⟩ := va_join (wr := [(rmo, .inr (8, rms)), (rkn, .inl (rcK, 2, .inl rkf))]) (w1 := []) hP hD [0, 1, 2] [3, 4] rfl rfl (by decide) (by decide) hk1 hFc hP1 hD1
  generalize H1 = H at hP hS ⊢
  have hP : va_P (dC, dI) vwCl [(rmo, .inr (8, rms)), (rkn, .inl (rcK, 2, .inl rkf))] H := hP
  have hD : va_D A [(rmo, .inr (8, rms)), (rkn, .inl (rcK, 2, .inl rkf))] := hD
  try dsimp only at hw
  obtain rfl : r_4 = (-1) := hw
  refine lv_aload_n hx hb dL_law_515 rfl (lv_at hl 1 rfl) ?_
  refine lv_aload_n hx hb dL_law_516 rfl (lv_at hl 3 rfl) ?_
  refine lv_iload_n hx hb dL_law_517 rfl (lv_at hl 0 rfl) ?_
  refine lv_iconst (v := 1) hx hb dL_law_518 (by decide) ?_
  refine lv_iadd hx hb dL_law_519 ?_
  refine lv_topi (fun v_5 ev_5 => ?_)
  obtain rfl : v_5 = 1 := ev_5.trans (by decide)
  refine va_sld hx hb hX hbl hbA hS (p1_in (i := 1) (n := 6) (by decide)) dL_law_520 ?_
  refine lv_aload_n hx hb dL_law_521 rfl (lv_at hl 3 rfl) ?_
  refine lv_iload_n hx hb dL_law_522 rfl (lv_at hl 0 rfl) ?_
  refine lv_iconst (v := 2) hx hb dL_law_523 (by decide) ?_
  refine lv_iadd hx hb dL_law_524 ?_
  refine lv_topi (fun v_6 ev_6 => ?_)
  obtain rfl : v_6 = 2 := ev_6.trans (by decide)
  refine va_sld hx hb hX hbl hbA hS (p1_in (i := 2) (n := 6) (by decide)) dL_law_525 ?_
  refine lv_aload_n hx hb dL_law_526 rfl (lv_at hl 3 rfl) ?_
  refine lv_iload_n hx hb dL_law_527 rfl (lv_at hl 0 rfl) ?_
  refine lv_iconst (v := 3) hx hb dL_law_528 (by decide) ?_
  refine lv_iadd hx hb dL_law_529 ?_
  refine lv_topi (fun v_7 ev_7 => ?_)
  obtain rfl : v_7 = 3 := ev_7.trans (by decide)
  refine va_sld hx hb hX hbl hbA hS (p1_in (i := 3) (n := 6) (by decide)) dL_law_530 ?_
  have hPc := hP.sub (ws' := [(rmo, .inr (8, rms)), (rkn, .inl (rcK, 2, .inl rkf))]) [0, 1] rfl
  have hDc := hD.sub (ws' := [(rmo, .inr (8, rms)), (rkn, .inl (rcK, 2, .inl rkf))]) [0, 1] (by decide) rfl
  have hKc := hK.sub (tys' := [(rcK, .int)]) [1] rfl
  have hFc := va_free (wc := [(rmo, .inr (8, rms)), (rkn, .inl (rcK, 2, .inl rkf))]) hD hS hA [0, 1] rfl
  refine va_calli (va_runV (As := [.int (xs (1 : Int32).toNatClampNeg), .int (xs (2 : Int32).toNatClampNeg), .int (xs (3 : Int32).toNatClampNeg)]) (rest := [.int (-1)]) ⟨hx, hb, hml, hown, hts⟩ (m_begins l dC dI H.size rmo rms rkn rcK rkf ((xs (1 : Int32).toNatClampNeg)) ((xs (2 : Int32).toNatClampNeg)) ((xs (3 : Int32).toNatClampNeg)) f_rms_11 f_rms_43 h_rkf_0) (cwV 3 hts (p1_gV m_4 m_5 m_6 m_7 g_m_begins gz_m_begins) rfl rfl rfl (by decide +kernel) ⟨by decide, by decide⟩) ⟨fun a U g mk q => by obtain ⟨q0, q1, qP, qK, qD⟩ := q; exact ⟨q0, q1, qP, va_K.moved (u := U) (U := U.calling g mk a) (Vm.Alike.refl U.vm) qK, qD⟩, va_recv hKc hPc (ci := 8) (q0 := 0) rfl rfl, fun U hU hW => ⟨rfl, by rw [hU], by rw [hU]; exact hPc, va_K.moved hW.alike hKc, hDc.weaken (fun _ _ _ _ => trivial)⟩⟩ rfl rfl hl.1 rfl (lv_room (Nat.le_of_ble_eq_true rfl)) dL_law_531 ⟨by decide, by decide⟩) hS (fun q _ h => hFc q h) hFc (fun r_8 u t H1 locs ht hvm hw hB hz1 hk1 hS => ?_)
  obtain ⟨hP1, hK1, hD1⟩ := hB
  rw [ht] at hP1
  obtain ⟨hP, hD⟩ := va_join (wr := []) (w1 := []) hP hD [0, 1] [] rfl rfl (by decide) (by decide) hk1 hFc hP1 hD1
  generalize H1 = H at hP hS ⊢
  have hP : va_P (dC, dI) vwCl [] H := hP
  have hD : va_D A [] := hD
  try dsimp only at hw
  obtain rfl : r_8 = (-1) := hw
  refine lv_icmp_eq (tgt := 1382) hx hb dL_law_534 (by decide) (fun _ => ?_) (fun c9 => absurd c9 (by decide))
  refine lv_iinc (v := 6) (lv' := [(3, .int 6), (2, .ref rmo), (1, .ref xx), (0, .ref b)]) hx hb dL_law_1382 hl (k := 0) rfl (by decide) (by decide) rfl (fun ls hl => ?_)
  refine lv_goto (tgt := 18) hx hb dL_law_1385 (by decide) ?_
  refine lv_iload_n hx hb dL_law_18 rfl (lv_at hl 0 rfl) ?_
  refine lv_aload_n hx hb dL_law_19 rfl (lv_at hl 3 rfl) ?_
  refine va_slen hx hb hX hbl hbA hS dL_law_20 ?_
  refine lv_topi (fun v_10 ev_10 => ?_)
  obtain rfl : v_10 = 6 := ev_10.trans rfl
  refine lv_bipush (v := 6) hx hb dL_law_21 (by decide) ?_
  refine lv_isub hx hb dL_law_23 ?_
  refine lv_topi (fun v_11 ev_11 => ?_)
  obtain rfl : v_11 = 0 := ev_11.trans (by decide)
  refine lv_icmp_gt (tgt := 1388) hx hb dL_law_24 (by decide) (fun _ => ?_) (fun c9 => absurd c9 (by decide))
  refine lv_iconst (v := 1) hx hb dL_law_1388 (by decide) ?_
  refine va_forget (fun q hq => by have h9 := hS.2.2 q hq; rw [hAe] at h9; exact h9) ?_
  refine W.widen (k := 600000) (n := 7302249) (by decide) (by decide) ?_
  exact lw_ret hx hb hr hlocks dL_law_1389
