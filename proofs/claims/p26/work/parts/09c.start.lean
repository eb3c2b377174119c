theorem q_apL {D : va_G} {cl : List vw_C} {w1 w2 : va_W} {H : Heap} (h : va_P D cl (w1 ++ w2) H) : va_P D cl w1 H := fun k q hq => by
  obtain ⟨i, hi⟩ := List.getElem?_of_mem (List.mem_append_left w2 (List.mem_of_getElem? hq))
  exact h i q hi
theorem q_apR {D : va_G} {cl : List vw_C} {w1 w2 : va_W} {H : Heap} (h : va_P D cl (w1 ++ w2) H) : va_P D cl w2 H := fun k q hq => by
  obtain ⟨i, hi⟩ := List.getElem?_of_mem (List.mem_append_right w1 (List.mem_of_getElem? hq))
  exact h i q hi
theorem q_dR {A : Nat → Prop} {w1 w2 : va_W} (h : va_D A (w1 ++ w2)) : va_D A w2 := by
  have k1 : ∀ (i : Nat) (x : Nat × va_E), w2[i]? = some x → (w1 ++ w2)[w1.length + i]? = some x := fun i x hx => by rw [List.getElem?_append_right (by omega), show w1.length + i - w1.length = i by omega]; exact hx
  refine ⟨fun i j x y hx hy hxy => ?_, fun k x hx => h.2 _ x (k1 k x hx)⟩
  have := h.1 _ _ x y (k1 i x hx) (k1 j y hy) hxy
  omega
theorem q_dis {A : Nat → Prop} {w1 w2 : va_W} (h : va_D A (w1 ++ w2)) {x y : Nat × va_E} {i j : Nat} (hx : w1[i]? = some x) (hy : w2[j]? = some y) : x.1 ≠ y.1 := fun e => by
  have hi : i < w1.length := (List.getElem?_eq_some_iff.mp hx).1
  have a : (w1 ++ w2)[i]? = some x := by rw [List.getElem?_append_left hi]; exact hx
  have b : (w1 ++ w2)[w1.length + j]? = some y := by rw [List.getElem?_append_right (by omega), show w1.length + j - w1.length = j by omega]; exact hy
  have := h.1 _ _ x y a b e
  omega
set_option maxHeartbeats 16000000 in
set_option maxRecDepth 100000 in
theorem law_start {p : Program} {e : Env} {s : State} {m : MethodId} {below : List Frame} {meth : Method} {c : Code} (l : Launch) {b L : Nat} {xs : Nat → Int32} (hL : L ≤ 3072) (C0 : lw_At p s m meth c b L xs) {A : Nat → Prop} (hAe : A = fun q : Nat => s.heap.size ≤ q) (hE : q_ex A s s.heap) (dC : Nat → ClassId) (dI : Nat → Nat → Nat) (hK : va_K (dC, dI) vwCl [] s) : W p l e room_1 s m #[Value.ref b] below meth c s.heap [] 0 0 (lw_Z below #[Value.ref b] s) (entryFrame m ([Value.ref b] : List Value).toArray 4) := by
  obtain ⟨hx, hb, hr, hml, hown, hts, hX, hbl, hlocks, hgv⟩ := id C0
  have hown : s.vm.findClass RL = some m.cls := hown
  have hA : ∀ q : Nat, s.heap.size ≤ q → A q := by rw [hAe]; exact fun _ h => h
  have hbA : ¬ A b := by rw [hAe]; exact Nat.not_le.mpr hbl
  have hS : va_S A s.heap s.heap [] := va_S.rf
  have hP : va_P (dC, dI) vwCl [] s.heap := fun k q h => by simp at h
  have hD : va_D A [] := ⟨fun i j p q h => by simp at h, fun k q h => by simp at h⟩
  have m_0 : (.classLink RL 7 RX8 : Cond) ∈ lw_tbl := p1_w 120 (by decide +kernel)
  have k_0 := hts _ m_0
  have m_1 : (.instantiable RX8 14 : Cond) ∈ lw_tbl := p1_w 121 (by decide +kernel)
  have k_1 := hts _ m_1
  have m_2 : (.initialized RX8 : Cond) ∈ lw_tbl := p1_w 104 (by decide +kernel)
  have k_2 := hts _ m_2
  have m_3 : (.methodLink RL 9 yX8_init : Cond) ∈ lw_tbl := p1_w 122 (by decide +kernel)
  have k_3 := hts _ m_3
  have m_4 : (.instanceMethod yX8_init : Cond) ∈ lw_tbl := p1_w 123 (by decide +kernel)
  have k_4 := hts _ m_4
  have m_5 : (.classLink RL 10 RX9 : Cond) ∈ lw_tbl := p1_w 1027 (by decide +kernel)
  have k_5 := hts _ m_5
  have m_6 : (.instantiable RX9 81 : Cond) ∈ lw_tbl := p1_w 1028 (by decide +kernel)
  have k_6 := hts _ m_6
  have m_7 : (.initialized RX9 : Cond) ∈ lw_tbl := p1_w 116 (by decide +kernel)
  have k_7 := hts _ m_7
  have m_8 : (.methodLink RL 12 yX9_init : Cond) ∈ lw_tbl := p1_w 1029 (by decide +kernel)
  have k_8 := hts _ m_8
  have m_9 : (.instanceMethod yX9_init : Cond) ∈ lw_tbl := p1_w 1030 (by decide +kernel)
  have k_9 := hts _ m_9
  have i_X8 : ∀ w ∈ u_ws RX8 TX8 14, w ∈ lw_tbl := ik_X8
  have i_X9 : ∀ w ∈ u_ws RX9 TX9 81, w ∈ lw_tbl := ik_X9
  have hl := lv_entry ([.ref b]) (n := 4) (Nat.le_of_ble_eq_true rfl)
  rw [lg_entry_eq]
  generalize (lg_sl ([.ref b]) ++ List.replicate (4 - (lg_sl ([.ref b])).length) Slot.unset).toArray = ls at hl ⊢
  have hl : lv_has ls 4 [(0, .ref b)] := hl
  refine va_new (ci := 7) (fs := [.null, .null, .null, .null, .null, .null, .null, .null, .null, .null, .int 0, .int 0, .int 0, .int 0]) (C := RX8) (T := TX8) (N := 14) hx hb hts i_X8 tyX8 tyX8_ok hown k_0 k_1 k_2 hK hP hD hS hA rfl (by decide) (by decide) (by decide) dL_law_0 (fun q_1 H1 hP1 hD1 hS1 => ?_)
  clear hP hD hS
  have hP1 : va_P (dC, dI) vwCl [(q_1, .inr (7, [.null, .null, .null, .null, .null, .null, .null, .null, .null, .null, .int 0, .int 0, .int 0, .int 0]))] H1 := hP1
  have hD1 : va_D A [(q_1, .inr (7, [.null, .null, .null, .null, .null, .null, .null, .null, .null, .null, .int 0, .int 0, .int 0, .int 0]))] := hD1
  refine W.widen (k := 1) (n := 14) (by decide) (by decide) ?_
  refine lv_dup hx hb dL_law_3 rfl ?_
  have hF1 := va_free (wc := [(q_1, .inr (7, [.null, .null, .null, .null, .null, .null, .null, .null, .null, .null, .int 0, .int 0, .int 0, .int 0]))]) hD1 hS1 hA [0] rfl
  refine va_callv (va_runI (As := []) (rest := [.ref q_1]) ⟨hx, hb, hml, hown, hts⟩ (n_BowWalk l dC dI H1.size q_1) (cwI 0 hts (goodIn_sub iz_n_BowWalk gz_n_BowWalk) rfl rfl rfl k_2 k_3 k_4 rfl (by decide +kernel) ⟨by decide, by decide⟩) ⟨fun a U g mk q => by obtain ⟨q0, q1, qP, qK, qD, qE⟩ := q; exact ⟨q0, q1, qP, va_K.moved (u := U) (U := U.calling g mk a) (Vm.Alike.refl U.vm) qK, qD, qE⟩, fun U hU hW => ⟨rfl, by rw [hU], by rw [hU]; exact hP1, va_K.moved hW.alike hK, hD1.weaken (fun _ _ _ _ => trivial), by rw [hU]; exact q_ex.warm hE hW hS1 (fun q h => hF1 q h)⟩⟩ rfl rfl hl.1 rfl (lv_room (Nat.le_of_ble_eq_true rfl)) dL_law_4 ⟨by decide, by decide⟩) hS1 (fun q _ h => hF1 q h) hF1 (fun u t2 H2 locs2 ht2 hvm2 hw2 hB2 hz2 hk2 hS2 => ?_)
  obtain ⟨wx, tx, hIx, hPx, hKx0, hDx0⟩ := hB2
  rw [ht2] at hPx
  have hKx := va_K.moved hvm2.symm hKx0
  have hDx : va_D A wx := ⟨hDx0.1, fun k q h => hF1 _ (hDx0.2 k q h)⟩
  clear hP1 hD1 hS1 hF1 hDx0 hKx0 hk2
  refine W.widen (k := 102) (n := 3816) (by decide) (by decide) ?_
  refine lv_astore_n (lv' := [(1, .ref q_1), (0, .ref b)]) hx hb dL_law_7 rfl hl (by decide) rfl (fun ls hl => ?_)
  refine va_new (ci := 8) (fs := [.null, .null, .int 0, .int 0, .int 0, .int 0, .int 0, .int 0, .int 0, .int 0, .long 0, .null, .null, .null, .null, .null, .null, .null, .null, .null, .null, .null, .null, .null, .null, .null, .null, .null, .null, .null, .null, .null, .null, .null, .null, .null, .null, .null, .null, .null, .null, .null, .null, .int 0, .int 0, .int 0, .int 0, .int 0, .int 0, .null, .null, .int 0, .int 0, .int 0, .int 0, .int 0, .int 0, .int 0, .int 0, .int 0, .int 0, .int 0, .int 0, .int 0, .int 0, .int 0, .null, .null, .null, .null, .null, .null, .null, .null, .null, .int 0, .int 0, .null, .null, .null, .null]) (C := RX9) (T := TX9) (N := 81) hx hb hts i_X9 tyX9 tyX9_ok hown k_5 k_6 k_7 hK hPx hDx hS2 hA rfl (by decide) (by decide) (by decide) dL_law_8 (fun q_2 H3 hP3 hD3 hS3 => ?_)
  have hPx3 := q_apL hP3
  have hPy3 : va_P (dC, dI) vwCl [(q_2, .inr (8, [.null, .null, .int 0, .int 0, .int 0, .int 0, .int 0, .int 0, .int 0, .int 0, .long 0, .null, .null, .null, .null, .null, .null, .null, .null, .null, .null, .null, .null, .null, .null, .null, .null, .null, .null, .null, .null, .null, .null, .null, .null, .null, .null, .null, .null, .null, .null, .null, .null, .int 0, .int 0, .int 0, .int 0, .int 0, .int 0, .null, .null, .int 0, .int 0, .int 0, .int 0, .int 0, .int 0, .int 0, .int 0, .int 0, .int 0, .int 0, .int 0, .int 0, .int 0, .int 0, .null, .null, .null, .null, .null, .null, .null, .null, .null, .int 0, .int 0, .null, .null, .null, .null]))] H3 := q_apR hP3
  have hDy3 : va_D A [(q_2, .inr (8, [.null, .null, .int 0, .int 0, .int 0, .int 0, .int 0, .int 0, .int 0, .int 0, .long 0, .null, .null, .null, .null, .null, .null, .null, .null, .null, .null, .null, .null, .null, .null, .null, .null, .null, .null, .null, .null, .null, .null, .null, .null, .null, .null, .null, .null, .null, .null, .null, .null, .int 0, .int 0, .int 0, .int 0, .int 0, .int 0, .null, .null, .int 0, .int 0, .int 0, .int 0, .int 0, .int 0, .int 0, .int 0, .int 0, .int 0, .int 0, .int 0, .int 0, .int 0, .int 0, .null, .null, .null, .null, .null, .null, .null, .null, .null, .int 0, .int 0, .null, .null, .null, .null]))] := q_dR hD3
  have hne : ∀ (k : Nat) (q : Nat × va_E), wx[k]? = some q → q.1 ≠ q_2 := fun k q h => q_dis hD3 h (j := 0) (y := (q_2, .inr (8, [.null, .null, .int 0, .int 0, .int 0, .int 0, .int 0, .int 0, .int 0, .int 0, .long 0, .null, .null, .null, .null, .null, .null, .null, .null, .null, .null, .null, .null, .null, .null, .null, .null, .null, .null, .null, .null, .null, .null, .null, .null, .null, .null, .null, .null, .null, .null, .null, .null, .int 0, .int 0, .int 0, .int 0, .int 0, .int 0, .null, .null, .int 0, .int 0, .int 0, .int 0, .int 0, .int 0, .int 0, .int 0, .int 0, .int 0, .int 0, .int 0, .int 0, .int 0, .int 0, .null, .null, .null, .null, .null, .null, .null, .null, .null, .int 0, .int 0, .null, .null, .null, .null]))) rfl
  clear hP3 hD3 hPx hS2
  refine W.widen (k := 103) (n := 3897) (by decide) (by decide) ?_
  refine lv_dup hx hb dL_law_11 rfl ?_
  have hF3 := va_free (wc := [(q_2, .inr (8, [.null, .null, .int 0, .int 0, .int 0, .int 0, .int 0, .int 0, .int 0, .int 0, .long 0, .null, .null, .null, .null, .null, .null, .null, .null, .null, .null, .null, .null, .null, .null, .null, .null, .null, .null, .null, .null, .null, .null, .null, .null, .null, .null, .null, .null, .null, .null, .null, .null, .int 0, .int 0, .int 0, .int 0, .int 0, .int 0, .null, .null, .int 0, .int 0, .int 0, .int 0, .int 0, .int 0, .int 0, .int 0, .int 0, .int 0, .int 0, .int 0, .int 0, .int 0, .int 0, .null, .null, .null, .null, .null, .null, .null, .null, .null, .int 0, .int 0, .null, .null, .null, .null]))]) hDy3 hS3 hA [0] rfl
  refine va_callv (va_runI (As := []) (rest := [.ref q_2]) ⟨hx, hb, hml, hown, hts⟩ (n_Model l dC dI H3.size q_2) (cwI 0 hts (goodIn_sub iz_n_Model gz_n_Model) rfl rfl rfl k_7 k_8 k_9 rfl (by decide +kernel) ⟨by decide, by decide⟩) ⟨fun a U g mk q => by obtain ⟨q0, q1, qP, qK, qD⟩ := q; exact ⟨q0, q1, qP, va_K.moved (u := U) (U := U.calling g mk a) (Vm.Alike.refl U.vm) qK, qD⟩, fun U hU hW => ⟨rfl, by rw [hU], by rw [hU]; exact hPy3, va_K.moved hW.alike hK, hDy3.weaken (fun _ _ _ _ => trivial)⟩⟩ rfl rfl hl.1 rfl (lv_room (Nat.le_of_ble_eq_true rfl)) dL_law_12 ⟨by decide, by decide⟩) hS3 (fun q _ h => hF3 q h) hF3 (fun u t4 H4 locs4 ht4 hvm4 hw4 hB4 hz4 hk4 hS4 => ?_)
  obtain ⟨wy, ty, hIy, hPy, hKy0, hDy0⟩ := hB4
  rw [ht4] at hPy
  have hKy := va_K.moved hvm4.symm hKy0
  have hDy : va_D A wy := ⟨hDy0.1, fun k q h => hF3 _ (hDy0.2 k q h)⟩
  have hout : ∀ (k : Nat) (q : Nat × va_E), wx[k]? = some q → ¬ va_A [(q_2, .inr (8, [.null, .null, .int 0, .int 0, .int 0, .int 0, .int 0, .int 0, .int 0, .int 0, .long 0, .null, .null, .null, .null, .null, .null, .null, .null, .null, .null, .null, .null, .null, .null, .null, .null, .null, .null, .null, .null, .null, .null, .null, .null, .null, .null, .null, .null, .null, .null, .null, .null, .int 0, .int 0, .int 0, .int 0, .int 0, .int 0, .null, .null, .int 0, .int 0, .int 0, .int 0, .int 0, .int 0, .int 0, .int 0, .int 0, .int 0, .int 0, .int 0, .int 0, .int 0, .int 0, .null, .null, .null, .null, .null, .null, .null, .null, .null, .int 0, .int 0, .null, .null, .null, .null]))] H3.size q.1 := by
    intro k q hq h
    have hlt := (hPx3 k q hq).lt
    rcases h with ⟨k2, e2, h2⟩ | h2
    · rcases List.mem_cons.mp (List.mem_of_getElem? h2) with h3 | h3
      · exact hne k q hq (congrArg Prod.fst h3)
      · cases h3
    · omega
  have hPx4 : va_P (dC, dI) vwCl wx H4 := fun k q hq => (hPx3 k q hq).kept (hk4 q.1 (hPx3 k q hq).lt (hout k q hq))
  have hd1 : ∀ q ∈ wx.map Prod.fst, q ∉ wy.map Prod.fst := by
    intro q hq hq2
    obtain ⟨x, hx1, rfl⟩ := List.mem_map.mp hq
    obtain ⟨y, hy1, hy2⟩ := List.mem_map.mp hq2
    obtain ⟨i, hi⟩ := List.getElem?_of_mem hx1
    obtain ⟨j, hj⟩ := List.getElem?_of_mem hy1
    have h9 := hDy0.2 j y hj
    rw [hy2] at h9
    exact hout i x hi h9
  have hd2 : ∀ q ∈ wy.map Prod.fst, q ∉ wx.map Prod.fst := fun q h1 h2 => hd1 q h2 h1
  clear hPy3 hDy3 hS3 hF3 hDy0 hKy0 hk4 hout hne hPx3
  refine W.widen (k := 152) (n := 11751) (by decide) (by decide) ?_
  refine lv_astore_n (lv' := [(2, .ref q_2), (1, .ref q_1), (0, .ref b)]) hx hb dL_law_15 rfl hl (by decide) rfl (fun ls hl => ?_)
  refine lv_iconst (v := 0) hx hb dL_law_16 (by decide) ?_
  refine lv_istore_n (lv' := [(3, .int 0), (2, .ref q_2), (1, .ref q_1), (0, .ref b)]) hx hb dL_law_17 rfl hl (by decide) rfl (fun ls hl => ?_)
  have lt0 : (0 : Int32).toInt = 0 := by decide
  exact law_loop l C0 hAe hE dC dI (by decide) (by decide) hKx hKy (q_DA.mk hDx rfl) (q_DA.mk hDy rfl) hd1 hd2 hL 3072 0 (by omega) (by omega) (by omega) 0 wx wy H4 _ ls hIx hIy hPx4 rfl hPy rfl hS4 hl
set_option maxHeartbeats 4000000 in
set_option maxRecDepth 100000 in
/-- THE LAW, from its entry -/
theorem whole_start {p : Program} {e : Env} {s : State} {m : MethodId} {below : List Frame} {meth : Method} {c : Code} (l : Launch) {b L : Nat} {xs : Nat → Int32} (hL : L ≤ 3072) (C0 : lw_At p s m meth c b L xs) : W p l e room_1 s m #[Value.ref b] below meth c s.heap [] 0 0 (lw_Z below #[Value.ref b] s) (entryFrame m ([Value.ref b] : List Value).toArray 4) := by
  obtain ⟨hx, hb, hr, hml, hown, hts, hX, hbl, hlocks, hgv⟩ := id C0
  obtain ⟨A, hAe⟩ : ∃ A : Nat → Prop, A = fun q : Nat => s.heap.size ≤ q := ⟨_, rfl⟩
  have hAn : ∀ a : Nat, a < s.heap.size → ¬ A a := by rw [hAe]; exact fun a h => Nat.not_le.mpr h
  have hE : q_ex A s s.heap := q_exOf hts hgv hAn
  obtain ⟨c0, iS0, hKn0⟩ := u_known (C := RX0) (T := TX0) (N := 15) (n := 15) hts ik_X0 (hts (.instantiable RX0 15) (p1_w 345 (by decide +kernel)))
  obtain ⟨c1, iS1, hKn1⟩ := u_known (C := RX1) (T := TX1) (N := 3) (n := 3) hts ik_X1 (hts (.instantiable RX1 3) (p1_w 479 (by decide +kernel)))
  obtain ⟨c2, iS2, hKn2⟩ := u_known (C := RX2) (T := TX2) (N := 8) (n := 8) hts ik_X2 (hts (.instantiable RX2 8) (p1_w 438 (by decide +kernel)))
  obtain ⟨c3, iS3, hKn3⟩ := u_known (C := RX3) (T := TX3) (N := 6) (n := 6) hts ik_X3 (hts (.instantiable RX3 6) (p1_w 145 (by decide +kernel)))
  obtain ⟨c4, iS4, hKn4⟩ := u_known (C := RX4) (T := TX4) (N := 11) (n := 11) hts ik_X4 (hts (.instantiable RX4 11) (p1_w 129 (by decide +kernel)))
  obtain ⟨c5, iS5, hKn5⟩ := u_known (C := RX5) (T := TX5) (N := 15) (n := 15) hts ik_X5 (hts (.instantiable RX5 15) (p1_w 135 (by decide +kernel)))
  obtain ⟨c6, iS6, hKn6⟩ := u_known (C := RX7) (T := TX7) (N := 6) (n := 6) hts ik_X7 (hts (.instantiable RX7 6) (p1_w 407 (by decide +kernel)))
  obtain ⟨c7, iS7, hKn7⟩ := u_known (C := RX8) (T := TX8) (N := 14) (n := 14) hts ik_X8 (hts (.instantiable RX8 14) (p1_w 121 (by decide +kernel)))
  obtain ⟨c8, iS8, hKn8⟩ := u_known (C := RX9) (T := TX9) (N := 81) (n := 81) hts ik_X9 (hts (.instantiable RX9 81) (p1_w 1028 (by decide +kernel)))
  obtain ⟨dC, dI, hKc⟩ : ∃ (dC : Nat → ClassId) (dI : Nat → Nat → Nat), ∀ (k : Nat) (q : vw_C), vwCl[k]? = some q → u_Kn s q.1 q.2.1 q.2.2 (dC k) (dI k) := by
    refine ⟨fun k => if k = 0 then c0 else if k = 1 then c1 else if k = 2 then c2 else if k = 3 then c3 else if k = 4 then c4 else if k = 5 then c5 else if k = 6 then c6 else if k = 7 then c7 else c8, fun k => if k = 0 then iS0 else if k = 1 then iS1 else if k = 2 then iS2 else if k = 3 then iS3 else if k = 4 then iS4 else if k = 5 then iS5 else if k = 6 then iS6 else if k = 7 then iS7 else iS8, ?_⟩
    intro k q hq
    match k, hq with
    | 0, hq => cases hq; exact hKn0
    | 1, hq => cases hq; exact hKn1
    | 2, hq => cases hq; exact hKn2
    | 3, hq => cases hq; exact hKn3
    | 4, hq => cases hq; exact hKn4
    | 5, hq => cases hq; exact hKn5
    | 6, hq => cases hq; exact hKn6
    | 7, hq => cases hq; exact hKn7
    | 8, hq => cases hq; exact hKn8
    | k + 9, hq => simp [vwCl] at hq
  exact law_start l hL C0 hAe hE dC dI ⟨hKc, fun k q h => by simp at h⟩
