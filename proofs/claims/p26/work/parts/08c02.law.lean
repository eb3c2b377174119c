set_option maxHeartbeats 4000000 in
set_option maxRecDepth 100000 in
theorem law_worse {p : Program} {e : Env} {s : State} {m : MethodId} {below : List Frame} {meth : Method} {c : Code} (l : Launch) {b L : Nat} {xs : Nat → Int32} (C0 : lw_At p s m meth c b L xs) {A : Nat → Prop} (hAe : A = fun q : Nat => s.heap.size ≤ q) (hE : q_ex A s s.heap) (dC : Nat → ClassId) (dI : Nat → Nat → Nat) {nc ns : Nat} (hnc : nc ≤ 600000) (hns : ns ≤ 7302250) {x y : Nat} {a1 a2 : List Nat} {tx ty : List (ClassId × FieldType)} (hKx : va_K (dC, dI) vwCl tx s) (hKy : va_K (dC, dI) vwCl ty s) (hDx : q_DA A a1) (hDy : q_DA A a2) (hd1 : ∀ q ∈ a1, q ∉ a2) (hd2 : ∀ q ∈ a2, q ∉ a1) (i : Int32) (hi0 : 0 ≤ i.toInt) (hi6 : i.toInt + 6 ≤ L) (hL : L ≤ 3072) (tm : Int32) (wx wy : va_W) (H : Heap) (locs : List Loc) (ls : Array Slot) (hIx : IX x tm wx tx) (hIy : IM y tm wy ty) (hPx : va_P (dC, dI) vwCl wx H) (hex : wx.map Prod.fst = a1) (hPy : va_P (dC, dI) vwCl wy H) (hey : wy.map Prod.fst = a2) (hS : va_S A s.heap H locs) (hl : lv_has ls 4 [(3, .int i), (2, .ref y), (1, .ref x), (0, .ref b)]) (kk : ∀ (tm : Int32) (wx wy : va_W) (H : Heap) (locs : List Loc) (ls : Array Slot) (hIx : IX x tm wx tx) (hIy : IM y tm wy ty) (hPx : va_P (dC, dI) vwCl wx H) (hex : wx.map Prod.fst = a1) (hPy : va_P (dC, dI) vwCl wy H) (hey : wy.map Prod.fst = a2) (hS : va_S A s.heap H locs) (hl : lv_has ls 4 [(3, .int i), (2, .ref y), (1, .ref x), (0, .ref b)]), W p l e room_1 s m #[Value.ref b] below meth c H locs nc ns (lw_Z below #[Value.ref b] s) (F0 m 1382 ls [])) : W p l e room_1 s m #[Value.ref b] below meth c H locs nc ns (lw_Z below #[Value.ref b] s) (F0 m 764 ls []) := by
  obtain ⟨hx, hb, hr, hml, hown, hts, hX, hbl, hlocks, hgv⟩ := id C0
  have hown : s.vm.findClass RL = some m.cls := hown
  have hA : ∀ q : Nat, s.heap.size ≤ q → A q := by rw [hAe]; exact fun _ h => h
  have hbA : ¬ A b := by rw [hAe]; exact Nat.not_le.mpr hbl
  have lt_1 : (1 : Int32).toInt = 1 := by decide
  have lt_2 : (2 : Int32).toInt = 2 := by decide
  have lt_3 : (3 : Int32).toInt = 3 := by decide
  have lt_4 : (4 : Int32).toInt = 4 := by decide
  have m_1 : (.methodLink RL 83 yX8_worse : Cond) ∈ lw_tbl := q_w (n := 898) (by decide +kernel)
  have m_2 : (.instanceMethod yX8_worse : Cond) ∈ lw_tbl := q_w (n := 899) (by decide +kernel)
  have m_3 : (.selects RX8 yX8_worse yX8_worse : Cond) ∈ lw_tbl := q_w (n := 900) (by decide +kernel)
  have m_4 : (.initialized RX8 : Cond) ∈ lw_tbl := q_w (n := 104) (by decide +kernel)
  have m_5 : (.methodLink RL 86 yX9_worse : Cond) ∈ lw_tbl := q_w (n := 1604) (by decide +kernel)
  have m_6 : (.instanceMethod yX9_worse : Cond) ∈ lw_tbl := q_w (n := 1605) (by decide +kernel)
  have m_7 : (.selects RX9 yX9_worse yX9_worse : Cond) ∈ lw_tbl := q_w (n := 1606) (by decide +kernel)
  have m_8 : (.initialized RX9 : Cond) ∈ lw_tbl := q_w (n := 116) (by decide +kernel)
  refine lv_aload_n hx hb dL_law_764 rfl (lv_at hl 2 rfl) ?_
  refine lv_aload_n hx hb dL_law_765 rfl (lv_at hl 3 rfl) ?_
  refine lv_iload_n hx hb dL_law_766 rfl (lv_at hl 0 rfl) ?_
  refine lv_iconst (v := 1) hx hb dL_law_767 (by decide) ?_
  refine lv_iadd hx hb dL_law_768 (lv_topi fun v1 ev1 => ?_)
  have tv1 := q_add ev1 (by omega) (by omega)
  refine va_sld hx hb hX hbl hbA hS (q_in (by omega) (by omega)) dL_law_769 (lv_topi fun v2 ev2 => ?_)
  refine lv_aload_n hx hb dL_law_770 rfl (lv_at hl 3 rfl) ?_
  refine lv_iload_n hx hb dL_law_771 rfl (lv_at hl 0 rfl) ?_
  refine lv_iconst (v := 2) hx hb dL_law_772 (by decide) ?_
  refine lv_iadd hx hb dL_law_773 (lv_topi fun v3 ev3 => ?_)
  have tv3 := q_add ev3 (by omega) (by omega)
  refine va_sld hx hb hX hbl hbA hS (q_in (by omega) (by omega)) dL_law_774 (lv_topi fun v4 ev4 => ?_)
  refine lv_aload_n hx hb dL_law_775 rfl (lv_at hl 3 rfl) ?_
  refine lv_iload_n hx hb dL_law_776 rfl (lv_at hl 0 rfl) ?_
  refine lv_iconst (v := 3) hx hb dL_law_777 (by decide) ?_
  refine lv_iadd hx hb dL_law_778 (lv_topi fun v5 ev5 => ?_)
  have tv5 := q_add ev5 (by omega) (by omega)
  refine va_sld hx hb hX hbl hbA hS (q_in (by omega) (by omega)) dL_law_779 (lv_topi fun v6 ev6 => ?_)
  refine lv_aload_n hx hb dL_law_780 rfl (lv_at hl 3 rfl) ?_
  refine lv_iload_n hx hb dL_law_781 rfl (lv_at hl 0 rfl) ?_
  refine lv_iconst (v := 4) hx hb dL_law_782 (by decide) ?_
  refine lv_iadd hx hb dL_law_783 (lv_topi fun v7 ev7 => ?_)
  have tv7 := q_add ev7 (by omega) (by omega)
  refine va_sld hx hb hX hbl hbA hS (q_in (by omega) (by omega)) dL_law_784 (lv_topi fun v8 ev8 => ?_)
  refine q_cL (As := [.int v2, .int v4, .int v6, .int v8]) (rest := []) q_exw hE hKx hPx hex hPy hey hDx hd1 hS hA ⟨hx, hb, hml, hown, hts⟩ (F_t_worse l dC dI _ hIx v2 v4 v6 v8) (cwV 4 hts (p1_gV m_1 m_2 m_3 m_4 iz_t_worse gz_t_worse) rfl rfl rfl (by decide +kernel) ⟨by decide, by decide⟩) (hIx.recv hKx hPx) rfl hl.1 rfl (Nat.le_of_ble_eq_true rfl) dL_law_785 ⟨by show nc ≤ 600000; omega, by show ns ≤ 7302250; omega⟩ (fun r1 H1 lo1 t1 ht1 hg1 hQ1 hS1 => ?_)
  obtain ⟨w1, hI1, hP1, he1⟩ := hg1
  rw [ht1] at hP1
  refine lv_pop hx hb dL_law_788 rfl ?_
  refine lv_aload_n hx hb dL_law_789 rfl (lv_at hl 1 rfl) ?_
  refine lv_aload_n hx hb dL_law_790 rfl (lv_at hl 3 rfl) ?_
  refine lv_iload_n hx hb dL_law_791 rfl (lv_at hl 0 rfl) ?_
  refine lv_iconst (v := 1) hx hb dL_law_792 (by decide) ?_
  refine lv_iadd hx hb dL_law_793 (lv_topi fun v9 ev9 => ?_)
  have tv9 := q_add ev9 (by omega) (by omega)
  refine va_sld hx hb hX hbl hbA hS1 (q_in (by omega) (by omega)) dL_law_794 (lv_topi fun v10 ev10 => ?_)
  refine lv_aload_n hx hb dL_law_795 rfl (lv_at hl 3 rfl) ?_
  refine lv_iload_n hx hb dL_law_796 rfl (lv_at hl 0 rfl) ?_
  refine lv_iconst (v := 2) hx hb dL_law_797 (by decide) ?_
  refine lv_iadd hx hb dL_law_798 (lv_topi fun v11 ev11 => ?_)
  have tv11 := q_add ev11 (by omega) (by omega)
  refine va_sld hx hb hX hbl hbA hS1 (q_in (by omega) (by omega)) dL_law_799 (lv_topi fun v12 ev12 => ?_)
  refine lv_aload_n hx hb dL_law_800 rfl (lv_at hl 3 rfl) ?_
  refine lv_iload_n hx hb dL_law_801 rfl (lv_at hl 0 rfl) ?_
  refine lv_iconst (v := 3) hx hb dL_law_802 (by decide) ?_
  refine lv_iadd hx hb dL_law_803 (lv_topi fun v13 ev13 => ?_)
  have tv13 := q_add ev13 (by omega) (by omega)
  refine va_sld hx hb hX hbl hbA hS1 (q_in (by omega) (by omega)) dL_law_804 (lv_topi fun v14 ev14 => ?_)
  refine lv_aload_n hx hb dL_law_805 rfl (lv_at hl 3 rfl) ?_
  refine lv_iload_n hx hb dL_law_806 rfl (lv_at hl 0 rfl) ?_
  refine lv_iconst (v := 4) hx hb dL_law_807 (by decide) ?_
  refine lv_iadd hx hb dL_law_808 (lv_topi fun v15 ev15 => ?_)
  have tv15 := q_add ev15 (by omega) (by omega)
  refine va_sld hx hb hX hbl hbA hS1 (q_in (by omega) (by omega)) dL_law_809 (lv_topi fun v16 ev16 => ?_)
  refine q_cL (As := [.int v10, .int v12, .int v14, .int v16]) (rest := []) q_exw hE hKy hQ1 hey hP1 (he1.trans hex) hDy hd2 hS1 hA ⟨hx, hb, hml, hown, hts⟩ (F_r_worse l dC dI _ hIy v10 v12 v14 v16) (cwV 4 hts (p1_gV m_5 m_6 m_7 m_8 iz_r_worse gz_r_worse) rfl rfl rfl (by decide +kernel) ⟨by decide, by decide⟩) (hIy.recv hKy hQ1) rfl hl.1 rfl (Nat.le_of_ble_eq_true rfl) dL_law_810 ⟨by show nc ≤ 600000; omega, by show ns ≤ 7302250; omega⟩ (fun r2 H2 lo2 t2 ht2 hg2 hQ2 hS2 => ?_)
  obtain ⟨w2, hI2, hP2, he2⟩ := hg2
  rw [ht2] at hP2
  refine lv_pop hx hb dL_law_813 rfl ?_
  refine lv_goto (tgt := 1382) hx hb dL_law_814 (by decide) ?_
  exact kk tm w1 w2 H2 _ ls hI1 hI2 hQ2 (he1.trans hex) hP2 (he2.trans hey) hS2 hl
set_option maxHeartbeats 4000000 in
set_option maxRecDepth 100000 in
theorem law_which {p : Program} {e : Env} {s : State} {m : MethodId} {below : List Frame} {meth : Method} {c : Code} (l : Launch) {b L : Nat} {xs : Nat → Int32} (C0 : lw_At p s m meth c b L xs) {A : Nat → Prop} (hAe : A = fun q : Nat => s.heap.size ≤ q) (hE : q_ex A s s.heap) (dC : Nat → ClassId) (dI : Nat → Nat → Nat) {nc ns : Nat} (hnc : nc ≤ 600000) (hns : ns ≤ 7302250) {x y : Nat} {a1 a2 : List Nat} {tx ty : List (ClassId × FieldType)} (hKx : va_K (dC, dI) vwCl tx s) (hKy : va_K (dC, dI) vwCl ty s) (hDx : q_DA A a1) (hDy : q_DA A a2) (hd1 : ∀ q ∈ a1, q ∉ a2) (hd2 : ∀ q ∈ a2, q ∉ a1) (i : Int32) (hi0 : 0 ≤ i.toInt) (hi6 : i.toInt + 6 ≤ L) (hL : L ≤ 3072) (tm : Int32) (wx wy : va_W) (H : Heap) (locs : List Loc) (ls : Array Slot) (hIx : IX x tm wx tx) (hIy : IM y tm wy ty) (hPx : va_P (dC, dI) vwCl wx H) (hex : wx.map Prod.fst = a1) (hPy : va_P (dC, dI) vwCl wy H) (hey : wy.map Prod.fst = a2) (hS : va_S A s.heap H locs) (hl : lv_has ls 4 [(3, .int i), (2, .ref y), (1, .ref x), (0, .ref b)]) (kk : ∀ (tm : Int32) (wx wy : va_W) (H : Heap) (locs : List Loc) (ls : Array Slot) (hIx : IX x tm wx tx) (hIy : IM y tm wy ty) (hPx : va_P (dC, dI) vwCl wx H) (hex : wx.map Prod.fst = a1) (hPy : va_P (dC, dI) vwCl wy H) (hey : wy.map Prod.fst = a2) (hS : va_S A s.heap H locs) (hl : lv_has ls 4 [(3, .int i), (2, .ref y), (1, .ref x), (0, .ref b)]), W p l e room_1 s m #[Value.ref b] below meth c H locs nc ns (lw_Z below #[Value.ref b] s) (F0 m 1382 ls [])) : W p l e room_1 s m #[Value.ref b] below meth c H locs nc ns (lw_Z below #[Value.ref b] s) (F0 m 817 ls []) := by
  obtain ⟨hx, hb, hr, hml, hown, hts, hX, hbl, hlocks, hgv⟩ := id C0
  have hown : s.vm.findClass RL = some m.cls := hown
  have hA : ∀ q : Nat, s.heap.size ≤ q → A q := by rw [hAe]; exact fun _ h => h
  have hbA : ¬ A b := by rw [hAe]; exact Nat.not_le.mpr hbl
  have lt_1 : (1 : Int32).toInt = 1 := by decide
  have lt_2 : (2 : Int32).toInt = 2 := by decide
  have lt_3 : (3 : Int32).toInt = 3 := by decide
  have m_1 : (.methodLink RL 87 yX8_which : Cond) ∈ lw_tbl := q_w (n := 906) (by decide +kernel)
  have m_2 : (.instanceMethod yX8_which : Cond) ∈ lw_tbl := q_w (n := 907) (by decide +kernel)
  have m_3 : (.selects RX8 yX8_which yX8_which : Cond) ∈ lw_tbl := q_w (n := 908) (by decide +kernel)
  have m_4 : (.initialized RX8 : Cond) ∈ lw_tbl := q_w (n := 104) (by decide +kernel)
  have m_5 : (.methodLink RL 90 yX9_which : Cond) ∈ lw_tbl := q_w (n := 1612) (by decide +kernel)
  have m_6 : (.instanceMethod yX9_which : Cond) ∈ lw_tbl := q_w (n := 1613) (by decide +kernel)
  have m_7 : (.selects RX9 yX9_which yX9_which : Cond) ∈ lw_tbl := q_w (n := 1614) (by decide +kernel)
  have m_8 : (.initialized RX9 : Cond) ∈ lw_tbl := q_w (n := 116) (by decide +kernel)
  refine lv_aload_n hx hb dL_law_817 rfl (lv_at hl 2 rfl) ?_
  refine lv_aload_n hx hb dL_law_818 rfl (lv_at hl 3 rfl) ?_
  refine lv_iload_n hx hb dL_law_819 rfl (lv_at hl 0 rfl) ?_
  refine lv_iconst (v := 1) hx hb dL_law_820 (by decide) ?_
  refine lv_iadd hx hb dL_law_821 (lv_topi fun v1 ev1 => ?_)
  have tv1 := q_add ev1 (by omega) (by omega)
  refine va_sld hx hb hX hbl hbA hS (q_in (by omega) (by omega)) dL_law_822 (lv_topi fun v2 ev2 => ?_)
  refine lv_aload_n hx hb dL_law_823 rfl (lv_at hl 3 rfl) ?_
  refine lv_iload_n hx hb dL_law_824 rfl (lv_at hl 0 rfl) ?_
  refine lv_iconst (v := 2) hx hb dL_law_825 (by decide) ?_
  refine lv_iadd hx hb dL_law_826 (lv_topi fun v3 ev3 => ?_)
  have tv3 := q_add ev3 (by omega) (by omega)
  refine va_sld hx hb hX hbl hbA hS (q_in (by omega) (by omega)) dL_law_827 (lv_topi fun v4 ev4 => ?_)
  refine lv_aload_n hx hb dL_law_828 rfl (lv_at hl 3 rfl) ?_
  refine lv_iload_n hx hb dL_law_829 rfl (lv_at hl 0 rfl) ?_
  refine lv_iconst (v := 3) hx hb dL_law_830 (by decide) ?_
  refine lv_iadd hx hb dL_law_831 (lv_topi fun v5 ev5 => ?_)
  have tv5 := q_add ev5 (by omega) (by omega)
  refine va_sld hx hb hX hbl hbA hS (q_in (by omega) (by omega)) dL_law_832 (lv_topi fun v6 ev6 => ?_)
  refine q_cL (As := [.int v2, .int v4, .int v6]) (rest := []) q_exw hE hKx hPx hex hPy hey hDx hd1 hS hA ⟨hx, hb, hml, hown, hts⟩ (F_t_which l dC dI _ hIx v2 v4 v6) (cwV 3 hts (p1_gV m_1 m_2 m_3 m_4 iz_t_which gz_t_which) rfl rfl rfl (by decide +kernel) ⟨by decide, by decide⟩) (hIx.recv hKx hPx) rfl hl.1 rfl (Nat.le_of_ble_eq_true rfl) dL_law_833 ⟨by show nc ≤ 600000; omega, by show ns ≤ 7302250; omega⟩ (fun r1 H1 lo1 t1 ht1 hg1 hQ1 hS1 => ?_)
  obtain ⟨w1, hI1, hP1, he1⟩ := hg1
  rw [ht1] at hP1
  refine lv_pop hx hb dL_law_836 rfl ?_
  refine lv_aload_n hx hb dL_law_837 rfl (lv_at hl 1 rfl) ?_
  refine lv_aload_n hx hb dL_law_838 rfl (lv_at hl 3 rfl) ?_
  refine lv_iload_n hx hb dL_law_839 rfl (lv_at hl 0 rfl) ?_
  refine lv_iconst (v := 1) hx hb dL_law_840 (by decide) ?_
  refine lv_iadd hx hb dL_law_841 (lv_topi fun v7 ev7 => ?_)
  have tv7 := q_add ev7 (by omega) (by omega)
  refine va_sld hx hb hX hbl hbA hS1 (q_in (by omega) (by omega)) dL_law_842 (lv_topi fun v8 ev8 => ?_)
  refine lv_aload_n hx hb dL_law_843 rfl (lv_at hl 3 rfl) ?_
  refine lv_iload_n hx hb dL_law_844 rfl (lv_at hl 0 rfl) ?_
  refine lv_iconst (v := 2) hx hb dL_law_845 (by decide) ?_
  refine lv_iadd hx hb dL_law_846 (lv_topi fun v9 ev9 => ?_)
  have tv9 := q_add ev9 (by omega) (by omega)
  refine va_sld hx hb hX hbl hbA hS1 (q_in (by omega) (by omega)) dL_law_847 (lv_topi fun v10 ev10 => ?_)
  refine lv_aload_n hx hb dL_law_848 rfl (lv_at hl 3 rfl) ?_
  refine lv_iload_n hx hb dL_law_849 rfl (lv_at hl 0 rfl) ?_
  refine lv_iconst (v := 3) hx hb dL_law_850 (by decide) ?_
  refine lv_iadd hx hb dL_law_851 (lv_topi fun v11 ev11 => ?_)
  have tv11 := q_add ev11 (by omega) (by omega)
  refine va_sld hx hb hX hbl hbA hS1 (q_in (by omega) (by omega)) dL_law_852 (lv_topi fun v12 ev12 => ?_)
  refine q_cL (As := [.int v8, .int v10, .int v12]) (rest := []) q_exw hE hKy hQ1 hey hP1 (he1.trans hex) hDy hd2 hS1 hA ⟨hx, hb, hml, hown, hts⟩ (F_r_which l dC dI _ hIy v8 v10 v12) (cwV 3 hts (p1_gV m_5 m_6 m_7 m_8 iz_r_which gz_r_which) rfl rfl rfl (by decide +kernel) ⟨by decide, by decide⟩) (hIy.recv hKy hQ1) rfl hl.1 rfl (Nat.le_of_ble_eq_true rfl) dL_law_853 ⟨by show nc ≤ 600000; omega, by show ns ≤ 7302250; omega⟩ (fun r2 H2 lo2 t2 ht2 hg2 hQ2 hS2 => ?_)
  obtain ⟨w2, hI2, hP2, he2⟩ := hg2
  rw [ht2] at hP2
  refine lv_pop hx hb dL_law_856 rfl ?_
  refine lv_goto (tgt := 1382) hx hb dL_law_857 (by decide) ?_
  exact kk tm w1 w2 H2 _ ls hI1 hI2 hQ2 (he1.trans hex) hP2 (he2.trans hey) hS2 hl
set_option maxHeartbeats 4000000 in
set_option maxRecDepth 100000 in
theorem law_best {p : Program} {e : Env} {s : State} {m : MethodId} {below : List Frame} {meth : Method} {c : Code} (l : Launch) {b L : Nat} {xs : Nat → Int32} (C0 : lw_At p s m meth c b L xs) {A : Nat → Prop} (hAe : A = fun q : Nat => s.heap.size ≤ q) (hE : q_ex A s s.heap) (dC : Nat → ClassId) (dI : Nat → Nat → Nat) {nc ns : Nat} (hnc : nc ≤ 600000) (hns : ns ≤ 7302250) {x y : Nat} {a1 a2 : List Nat} {tx ty : List (ClassId × FieldType)} (hKx : va_K (dC, dI) vwCl tx s) (hKy : va_K (dC, dI) vwCl ty s) (hDx : q_DA A a1) (hDy : q_DA A a2) (hd1 : ∀ q ∈ a1, q ∉ a2) (hd2 : ∀ q ∈ a2, q ∉ a1) (i : Int32) (hi0 : 0 ≤ i.toInt) (hi6 : i.toInt + 6 ≤ L) (hL : L ≤ 3072) (tm : Int32) (wx wy : va_W) (H : Heap) (locs : List Loc) (ls : Array Slot) (hIx : IX x tm wx tx) (hIy : IM y tm wy ty) (hPx : va_P (dC, dI) vwCl wx H) (hex : wx.map Prod.fst = a1) (hPy : va_P (dC, dI) vwCl wy H) (hey : wy.map Prod.fst = a2) (hS : va_S A s.heap H locs) (hl : lv_has ls 4 [(3, .int i), (2, .ref y), (1, .ref x), (0, .ref b)]) (kk : ∀ (tm : Int32) (wx wy : va_W) (H : Heap) (locs : List Loc) (ls : Array Slot) (hIx : IX x tm wx tx) (hIy : IM y tm wy ty) (hPx : va_P (dC, dI) vwCl wx H) (hex : wx.map Prod.fst = a1) (hPy : va_P (dC, dI) vwCl wy H) (hey : wy.map Prod.fst = a2) (hS : va_S A s.heap H locs) (hl : lv_has ls 4 [(3, .int i), (2, .ref y), (1, .ref x), (0, .ref b)]), W p l e room_1 s m #[Value.ref b] below meth c H locs nc ns (lw_Z below #[Value.ref b] s) (F0 m 1382 ls [])) : W p l e room_1 s m #[Value.ref b] below meth c H locs nc ns (lw_Z below #[Value.ref b] s) (F0 m 860 ls []) := by
  obtain ⟨hx, hb, hr, hml, hown, hts, hX, hbl, hlocks, hgv⟩ := id C0
  have hown : s.vm.findClass RL = some m.cls := hown
  have hA : ∀ q : Nat, s.heap.size ≤ q → A q := by rw [hAe]; exact fun _ h => h
  have hbA : ¬ A b := by rw [hAe]; exact Nat.not_le.mpr hbl
  have lt_1 : (1 : Int32).toInt = 1 := by decide
  have lt_2 : (2 : Int32).toInt = 2 := by decide
  have lt_3 : (3 : Int32).toInt = 3 := by decide
  have lt_4 : (4 : Int32).toInt = 4 := by decide
  have lt_5 : (5 : Int32).toInt = 5 := by decide
  have m_1 : (.methodLink RL 91 yX8_best : Cond) ∈ lw_tbl := q_w (n := 910) (by decide +kernel)
  have m_2 : (.instanceMethod yX8_best : Cond) ∈ lw_tbl := q_w (n := 911) (by decide +kernel)
  have m_3 : (.selects RX8 yX8_best yX8_best : Cond) ∈ lw_tbl := q_w (n := 912) (by decide +kernel)
  have m_4 : (.initialized RX8 : Cond) ∈ lw_tbl := q_w (n := 104) (by decide +kernel)
  have m_5 : (.methodLink RL 94 yX9_best : Cond) ∈ lw_tbl := q_w (n := 1616) (by decide +kernel)
  have m_6 : (.instanceMethod yX9_best : Cond) ∈ lw_tbl := q_w (n := 1617) (by decide +kernel)
  have m_7 : (.selects RX9 yX9_best yX9_best : Cond) ∈ lw_tbl := q_w (n := 1618) (by decide +kernel)
  have m_8 : (.initialized RX9 : Cond) ∈ lw_tbl := q_w (n := 116) (by decide +kernel)
  refine lv_aload_n hx hb dL_law_860 rfl (lv_at hl 2 rfl) ?_
  refine lv_aload_n hx hb dL_law_861 rfl (lv_at hl 3 rfl) ?_
  refine lv_iload_n hx hb dL_law_862 rfl (lv_at hl 0 rfl) ?_
  refine lv_iconst (v := 1) hx hb dL_law_863 (by decide) ?_
  refine lv_iadd hx hb dL_law_864 (lv_topi fun v1 ev1 => ?_)
  have tv1 := q_add ev1 (by omega) (by omega)
  refine va_sld hx hb hX hbl hbA hS (q_in (by omega) (by omega)) dL_law_865 (lv_topi fun v2 ev2 => ?_)
  refine lv_aload_n hx hb dL_law_866 rfl (lv_at hl 3 rfl) ?_
  refine lv_iload_n hx hb dL_law_867 rfl (lv_at hl 0 rfl) ?_
  refine lv_iconst (v := 2) hx hb dL_law_868 (by decide) ?_
  refine lv_iadd hx hb dL_law_869 (lv_topi fun v3 ev3 => ?_)
  have tv3 := q_add ev3 (by omega) (by omega)
  refine va_sld hx hb hX hbl hbA hS (q_in (by omega) (by omega)) dL_law_870 (lv_topi fun v4 ev4 => ?_)
  refine lv_aload_n hx hb dL_law_871 rfl (lv_at hl 3 rfl) ?_
  refine lv_iload_n hx hb dL_law_872 rfl (lv_at hl 0 rfl) ?_
  refine lv_iconst (v := 3) hx hb dL_law_873 (by decide) ?_
  refine lv_iadd hx hb dL_law_874 (lv_topi fun v5 ev5 => ?_)
  have tv5 := q_add ev5 (by omega) (by omega)
  refine va_sld hx hb hX hbl hbA hS (q_in (by omega) (by omega)) dL_law_875 (lv_topi fun v6 ev6 => ?_)
  refine lv_aload_n hx hb dL_law_876 rfl (lv_at hl 3 rfl) ?_
  refine lv_iload_n hx hb dL_law_877 rfl (lv_at hl 0 rfl) ?_
  refine lv_iconst (v := 4) hx hb dL_law_878 (by decide) ?_
  refine lv_iadd hx hb dL_law_879 (lv_topi fun v7 ev7 => ?_)
  have tv7 := q_add ev7 (by omega) (by omega)
  refine va_sld hx hb hX hbl hbA hS (q_in (by omega) (by omega)) dL_law_880 (lv_topi fun v8 ev8 => ?_)
  refine lv_aload_n hx hb dL_law_881 rfl (lv_at hl 3 rfl) ?_
  refine lv_iload_n hx hb dL_law_882 rfl (lv_at hl 0 rfl) ?_
  refine lv_iconst (v := 5) hx hb dL_law_883 (by decide) ?_
  refine lv_iadd hx hb dL_law_884 (lv_topi fun v9 ev9 => ?_)
  have tv9 := q_add ev9 (by omega) (by omega)
  refine va_sld hx hb hX hbl hbA hS (q_in (by omega) (by omega)) dL_law_885 (lv_topi fun v10 ev10 => ?_)
  refine q_cL (As := [.int v2, .int v4, .int v6, .int v8, .int v10]) (rest := []) q_exw hE hKx hPx hex hPy hey hDx hd1 hS hA ⟨hx, hb, hml, hown, hts⟩ (F_t_best l dC dI _ hIx v2 v4 v6 v8 v10) (cwV 5 hts (p1_gV m_1 m_2 m_3 m_4 iz_t_best gz_t_best) rfl rfl rfl (by decide +kernel) ⟨by decide, by decide⟩) (hIx.recv hKx hPx) rfl hl.1 rfl (Nat.le_of_ble_eq_true rfl) dL_law_886 ⟨by show nc ≤ 600000; omega, by show ns ≤ 7302250; omega⟩ (fun r1 H1 lo1 t1 ht1 hg1 hQ1 hS1 => ?_)
  obtain ⟨w1, hI1, hP1, he1⟩ := hg1
  rw [ht1] at hP1
  refine lv_pop hx hb dL_law_889 rfl ?_
  refine lv_aload_n hx hb dL_law_890 rfl (lv_at hl 1 rfl) ?_
  refine lv_aload_n hx hb dL_law_891 rfl (lv_at hl 3 rfl) ?_
  refine lv_iload_n hx hb dL_law_892 rfl (lv_at hl 0 rfl) ?_
  refine lv_iconst (v := 1) hx hb dL_law_893 (by decide) ?_
  refine lv_iadd hx hb dL_law_894 (lv_topi fun v11 ev11 => ?_)
  have tv11 := q_add ev11 (by omega) (by omega)
  refine va_sld hx hb hX hbl hbA hS1 (q_in (by omega) (by omega)) dL_law_895 (lv_topi fun v12 ev12 => ?_)
  refine lv_aload_n hx hb dL_law_896 rfl (lv_at hl 3 rfl) ?_
  refine lv_iload_n hx hb dL_law_897 rfl (lv_at hl 0 rfl) ?_
  refine lv_iconst (v := 2) hx hb dL_law_898 (by decide) ?_
  refine lv_iadd hx hb dL_law_899 (lv_topi fun v13 ev13 => ?_)
  have tv13 := q_add ev13 (by omega) (by omega)
  refine va_sld hx hb hX hbl hbA hS1 (q_in (by omega) (by omega)) dL_law_900 (lv_topi fun v14 ev14 => ?_)
  refine lv_aload_n hx hb dL_law_901 rfl (lv_at hl 3 rfl) ?_
  refine lv_iload_n hx hb dL_law_902 rfl (lv_at hl 0 rfl) ?_
  refine lv_iconst (v := 3) hx hb dL_law_903 (by decide) ?_
  refine lv_iadd hx hb dL_law_904 (lv_topi fun v15 ev15 => ?_)
  have tv15 := q_add ev15 (by omega) (by omega)
  refine va_sld hx hb hX hbl hbA hS1 (q_in (by omega) (by omega)) dL_law_905 (lv_topi fun v16 ev16 => ?_)
  refine lv_aload_n hx hb dL_law_906 rfl (lv_at hl 3 rfl) ?_
  refine lv_iload_n hx hb dL_law_907 rfl (lv_at hl 0 rfl) ?_
  refine lv_iconst (v := 4) hx hb dL_law_908 (by decide) ?_
  refine lv_iadd hx hb dL_law_909 (lv_topi fun v17 ev17 => ?_)
  have tv17 := q_add ev17 (by omega) (by omega)
  refine va_sld hx hb hX hbl hbA hS1 (q_in (by omega) (by omega)) dL_law_910 (lv_topi fun v18 ev18 => ?_)
  refine lv_aload_n hx hb dL_law_911 rfl (lv_at hl 3 rfl) ?_
  refine lv_iload_n hx hb dL_law_912 rfl (lv_at hl 0 rfl) ?_
  refine lv_iconst (v := 5) hx hb dL_law_913 (by decide) ?_
  refine lv_iadd hx hb dL_law_914 (lv_topi fun v19 ev19 => ?_)
  have tv19 := q_add ev19 (by omega) (by omega)
  refine va_sld hx hb hX hbl hbA hS1 (q_in (by omega) (by omega)) dL_law_915 (lv_topi fun v20 ev20 => ?_)
  refine q_cL (As := [.int v12, .int v14, .int v16, .int v18, .int v20]) (rest := []) q_exw hE hKy hQ1 hey hP1 (he1.trans hex) hDy hd2 hS1 hA ⟨hx, hb, hml, hown, hts⟩ (F_r_best l dC dI _ hIy v12 v14 v16 v18 v20) (cwV 5 hts (p1_gV m_5 m_6 m_7 m_8 iz_r_best gz_r_best) rfl rfl rfl (by decide +kernel) ⟨by decide, by decide⟩) (hIy.recv hKy hQ1) rfl hl.1 rfl (Nat.le_of_ble_eq_true rfl) dL_law_916 ⟨by show nc ≤ 600000; omega, by show ns ≤ 7302250; omega⟩ (fun r2 H2 lo2 t2 ht2 hg2 hQ2 hS2 => ?_)
  obtain ⟨w2, hI2, hP2, he2⟩ := hg2
  rw [ht2] at hP2
  refine lv_pop hx hb dL_law_919 rfl ?_
  refine lv_goto (tgt := 1382) hx hb dL_law_920 (by decide) ?_
  exact kk tm w1 w2 H2 _ ls hI1 hI2 hQ2 (he1.trans hex) hP2 (he2.trans hey) hS2 hl
set_option maxHeartbeats 4000000 in
set_option maxRecDepth 100000 in
theorem law_both {p : Program} {e : Env} {s : State} {m : MethodId} {below : List Frame} {meth : Method} {c : Code} (l : Launch) {b L : Nat} {xs : Nat → Int32} (C0 : lw_At p s m meth c b L xs) {A : Nat → Prop} (hAe : A = fun q : Nat => s.heap.size ≤ q) (hE : q_ex A s s.heap) (dC : Nat → ClassId) (dI : Nat → Nat → Nat) {nc ns : Nat} (hnc : nc ≤ 600000) (hns : ns ≤ 7302250) {x y : Nat} {a1 a2 : List Nat} {tx ty : List (ClassId × FieldType)} (hKx : va_K (dC, dI) vwCl tx s) (hKy : va_K (dC, dI) vwCl ty s) (hDx : q_DA A a1) (hDy : q_DA A a2) (hd1 : ∀ q ∈ a1, q ∉ a2) (hd2 : ∀ q ∈ a2, q ∉ a1) (i : Int32) (hi0 : 0 ≤ i.toInt) (hi6 : i.toInt + 6 ≤ L) (hL : L ≤ 3072) (tm : Int32) (wx wy : va_W) (H : Heap) (locs : List Loc) (ls : Array Slot) (hIx : IX x tm wx tx) (hIy : IM y tm wy ty) (hPx : va_P (dC, dI) vwCl wx H) (hex : wx.map Prod.fst = a1) (hPy : va_P (dC, dI) vwCl wy H) (hey : wy.map Prod.fst = a2) (hS : va_S A s.heap H locs) (hl : lv_has ls 4 [(3, .int i), (2, .ref y), (1, .ref x), (0, .ref b)]) (kk : ∀ (tm : Int32) (wx wy : va_W) (H : Heap) (locs : List Loc) (ls : Array Slot) (hIx : IX x tm wx tx) (hIy : IM y tm wy ty) (hPx : va_P (dC, dI) vwCl wx H) (hex : wx.map Prod.fst = a1) (hPy : va_P (dC, dI) vwCl wy H) (hey : wy.map Prod.fst = a2) (hS : va_S A s.heap H locs) (hl : lv_has ls 4 [(3, .int i), (2, .ref y), (1, .ref x), (0, .ref b)]), W p l e room_1 s m #[Value.ref b] below meth c H locs nc ns (lw_Z below #[Value.ref b] s) (F0 m 1382 ls [])) : W p l e room_1 s m #[Value.ref b] below meth c H locs nc ns (lw_Z below #[Value.ref b] s) (F0 m 923 ls []) := by
  obtain ⟨hx, hb, hr, hml, hown, hts, hX, hbl, hlocks, hgv⟩ := id C0
  have hown : s.vm.findClass RL = some m.cls := hown
  have hA : ∀ q : Nat, s.heap.size ≤ q → A q := by rw [hAe]; exact fun _ h => h
  have hbA : ¬ A b := by rw [hAe]; exact Nat.not_le.mpr hbl
  have lt_1 : (1 : Int32).toInt = 1 := by decide
  have lt_2 : (2 : Int32).toInt = 2 := by decide
  have m_1 : (.methodLink RL 95 yX8_both : Cond) ∈ lw_tbl := q_w (n := 918) (by decide +kernel)
  have m_2 : (.instanceMethod yX8_both : Cond) ∈ lw_tbl := q_w (n := 919) (by decide +kernel)
  have m_3 : (.selects RX8 yX8_both yX8_both : Cond) ∈ lw_tbl := q_w (n := 920) (by decide +kernel)
  have m_4 : (.initialized RX8 : Cond) ∈ lw_tbl := q_w (n := 104) (by decide +kernel)
  have m_5 : (.methodLink RL 98 yX9_both : Cond) ∈ lw_tbl := q_w (n := 1620) (by decide +kernel)
  have m_6 : (.instanceMethod yX9_both : Cond) ∈ lw_tbl := q_w (n := 1621) (by decide +kernel)
  have m_7 : (.selects RX9 yX9_both yX9_both : Cond) ∈ lw_tbl := q_w (n := 1622) (by decide +kernel)
  have m_8 : (.initialized RX9 : Cond) ∈ lw_tbl := q_w (n := 116) (by decide +kernel)
  refine lv_aload_n hx hb dL_law_923 rfl (lv_at hl 2 rfl) ?_
  refine lv_aload_n hx hb dL_law_924 rfl (lv_at hl 3 rfl) ?_
  refine lv_iload_n hx hb dL_law_925 rfl (lv_at hl 0 rfl) ?_
  refine lv_iconst (v := 1) hx hb dL_law_926 (by decide) ?_
  refine lv_iadd hx hb dL_law_927 (lv_topi fun v1 ev1 => ?_)
  have tv1 := q_add ev1 (by omega) (by omega)
  refine va_sld hx hb hX hbl hbA hS (q_in (by omega) (by omega)) dL_law_928 (lv_topi fun v2 ev2 => ?_)
  refine lv_aload_n hx hb dL_law_929 rfl (lv_at hl 3 rfl) ?_
  refine lv_iload_n hx hb dL_law_930 rfl (lv_at hl 0 rfl) ?_
  refine lv_iconst (v := 2) hx hb dL_law_931 (by decide) ?_
  refine lv_iadd hx hb dL_law_932 (lv_topi fun v3 ev3 => ?_)
  have tv3 := q_add ev3 (by omega) (by omega)
  refine va_sld hx hb hX hbl hbA hS (q_in (by omega) (by omega)) dL_law_933 (lv_topi fun v4 ev4 => ?_)
  refine q_cL (As := [.int v2, .int v4]) (rest := []) q_exw hE hKx hPx hex hPy hey hDx hd1 hS hA ⟨hx, hb, hml, hown, hts⟩ (F_t_both l dC dI _ hIx v2 v4) (cwV 2 hts (p1_gV m_1 m_2 m_3 m_4 iz_t_both gz_t_both) rfl rfl rfl (by decide +kernel) ⟨by decide, by decide⟩) (hIx.recv hKx hPx) rfl hl.1 rfl (Nat.le_of_ble_eq_true rfl) dL_law_934 ⟨by show nc ≤ 600000; omega, by show ns ≤ 7302250; omega⟩ (fun r1 H1 lo1 t1 ht1 hg1 hQ1 hS1 => ?_)
  obtain ⟨w1, hI1, hP1, he1⟩ := hg1
  rw [ht1] at hP1
  refine lv_pop hx hb dL_law_937 rfl ?_
  refine lv_aload_n hx hb dL_law_938 rfl (lv_at hl 1 rfl) ?_
  refine lv_aload_n hx hb dL_law_939 rfl (lv_at hl 3 rfl) ?_
  refine lv_iload_n hx hb dL_law_940 rfl (lv_at hl 0 rfl) ?_
  refine lv_iconst (v := 1) hx hb dL_law_941 (by decide) ?_
  refine lv_iadd hx hb dL_law_942 (lv_topi fun v5 ev5 => ?_)
  have tv5 := q_add ev5 (by omega) (by omega)
  refine va_sld hx hb hX hbl hbA hS1 (q_in (by omega) (by omega)) dL_law_943 (lv_topi fun v6 ev6 => ?_)
  refine lv_aload_n hx hb dL_law_944 rfl (lv_at hl 3 rfl) ?_
  refine lv_iload_n hx hb dL_law_945 rfl (lv_at hl 0 rfl) ?_
  refine lv_iconst (v := 2) hx hb dL_law_946 (by decide) ?_
  refine lv_iadd hx hb dL_law_947 (lv_topi fun v7 ev7 => ?_)
  have tv7 := q_add ev7 (by omega) (by omega)
  refine va_sld hx hb hX hbl hbA hS1 (q_in (by omega) (by omega)) dL_law_948 (lv_topi fun v8 ev8 => ?_)
  refine q_cL (As := [.int v6, .int v8]) (rest := []) q_exw hE hKy hQ1 hey hP1 (he1.trans hex) hDy hd2 hS1 hA ⟨hx, hb, hml, hown, hts⟩ (F_r_both l dC dI _ hIy v6 v8) (cwV 2 hts (p1_gV m_5 m_6 m_7 m_8 iz_r_both gz_r_both) rfl rfl rfl (by decide +kernel) ⟨by decide, by decide⟩) (hIy.recv hKy hQ1) rfl hl.1 rfl (Nat.le_of_ble_eq_true rfl) dL_law_949 ⟨by show nc ≤ 600000; omega, by show ns ≤ 7302250; omega⟩ (fun r2 H2 lo2 t2 ht2 hg2 hQ2 hS2 => ?_)
  obtain ⟨w2, hI2, hP2, he2⟩ := hg2
  rw [ht2] at hP2
  refine lv_pop hx hb dL_law_952 rfl ?_
  refine lv_goto (tgt := 1382) hx hb dL_law_953 (by decide) ?_
  exact kk tm w1 w2 H2 _ ls hI1 hI2 hQ2 (he1.trans hex) hP2 (he2.trans hey) hS2 hl
set_option maxHeartbeats 4000000 in
set_option maxRecDepth 100000 in
theorem law_ends {p : Program} {e : Env} {s : State} {m : MethodId} {below : List Frame} {meth : Method} {c : Code} (l : Launch) {b L : Nat} {xs : Nat → Int32} (C0 : lw_At p s m meth c b L xs) {A : Nat → Prop} (hAe : A = fun q : Nat => s.heap.size ≤ q) (hE : q_ex A s s.heap) (dC : Nat → ClassId) (dI : Nat → Nat → Nat) {nc ns : Nat} (hnc : nc ≤ 600000) (hns : ns ≤ 7302250) {x y : Nat} {a1 a2 : List Nat} {tx ty : List (ClassId × FieldType)} (hKx : va_K (dC, dI) vwCl tx s) (hKy : va_K (dC, dI) vwCl ty s) (hDx : q_DA A a1) (hDy : q_DA A a2) (hd1 : ∀ q ∈ a1, q ∉ a2) (hd2 : ∀ q ∈ a2, q ∉ a1) (i : Int32) (hi0 : 0 ≤ i.toInt) (hi6 : i.toInt + 6 ≤ L) (hL : L ≤ 3072) (tm : Int32) (wx wy : va_W) (H : Heap) (locs : List Loc) (ls : Array Slot) (hIx : IX x tm wx tx) (hIy : IM y tm wy ty) (hPx : va_P (dC, dI) vwCl wx H) (hex : wx.map Prod.fst = a1) (hPy : va_P (dC, dI) vwCl wy H) (hey : wy.map Prod.fst = a2) (hS : va_S A s.heap H locs) (hl : lv_has ls 4 [(3, .int i), (2, .ref y), (1, .ref x), (0, .ref b)]) (kk : ∀ (tm : Int32) (wx wy : va_W) (H : Heap) (locs : List Loc) (ls : Array Slot) (hIx : IX x tm wx tx) (hIy : IM y tm wy ty) (hPx : va_P (dC, dI) vwCl wx H) (hex : wx.map Prod.fst = a1) (hPy : va_P (dC, dI) vwCl wy H) (hey : wy.map Prod.fst = a2) (hS : va_S A s.heap H locs) (hl : lv_has ls 4 [(3, .int i), (2, .ref y), (1, .ref x), (0, .ref b)]), W p l e room_1 s m #[Value.ref b] below meth c H locs nc ns (lw_Z below #[Value.ref b] s) (F0 m 1382 ls [])) : W p l e room_1 s m #[Value.ref b] below meth c H locs nc ns (lw_Z below #[Value.ref b] s) (F0 m 956 ls []) := by
  obtain ⟨hx, hb, hr, hml, hown, hts, hX, hbl, hlocks, hgv⟩ := id C0
  have hown : s.vm.findClass RL = some m.cls := hown
  have hA : ∀ q : Nat, s.heap.size ≤ q → A q := by rw [hAe]; exact fun _ h => h
  have hbA : ¬ A b := by rw [hAe]; exact Nat.not_le.mpr hbl
  have lt_1 : (1 : Int32).toInt = 1 := by decide
  have lt_2 : (2 : Int32).toInt = 2 := by decide
  have lt_3 : (3 : Int32).toInt = 3 := by decide
  have lt_4 : (4 : Int32).toInt = 4 := by decide
  have m_1 : (.methodLink RL 99 yX8_ends : Cond) ∈ lw_tbl := q_w (n := 926) (by decide +kernel)
  have m_2 : (.instanceMethod yX8_ends : Cond) ∈ lw_tbl := q_w (n := 927) (by decide +kernel)
  have m_3 : (.selects RX8 yX8_ends yX8_ends : Cond) ∈ lw_tbl := q_w (n := 928) (by decide +kernel)
  have m_4 : (.initialized RX8 : Cond) ∈ lw_tbl := q_w (n := 104) (by decide +kernel)
  have m_5 : (.methodLink RL 102 yX9_ends : Cond) ∈ lw_tbl := q_w (n := 1624) (by decide +kernel)
  have m_6 : (.instanceMethod yX9_ends : Cond) ∈ lw_tbl := q_w (n := 1625) (by decide +kernel)
  have m_7 : (.selects RX9 yX9_ends yX9_ends : Cond) ∈ lw_tbl := q_w (n := 1626) (by decide +kernel)
  have m_8 : (.initialized RX9 : Cond) ∈ lw_tbl := q_w (n := 116) (by decide +kernel)
  refine lv_aload_n hx hb dL_law_956 rfl (lv_at hl 2 rfl) ?_
  refine lv_aload_n hx hb dL_law_957 rfl (lv_at hl 3 rfl) ?_
  refine lv_iload_n hx hb dL_law_958 rfl (lv_at hl 0 rfl) ?_
  refine lv_iconst (v := 1) hx hb dL_law_959 (by decide) ?_
  refine lv_iadd hx hb dL_law_960 (lv_topi fun v1 ev1 => ?_)
  have tv1 := q_add ev1 (by omega) (by omega)
  refine va_sld hx hb hX hbl hbA hS (q_in (by omega) (by omega)) dL_law_961 (lv_topi fun v2 ev2 => ?_)
  refine lv_aload_n hx hb dL_law_962 rfl (lv_at hl 3 rfl) ?_
  refine lv_iload_n hx hb dL_law_963 rfl (lv_at hl 0 rfl) ?_
  refine lv_iconst (v := 2) hx hb dL_law_964 (by decide) ?_
  refine lv_iadd hx hb dL_law_965 (lv_topi fun v3 ev3 => ?_)
  have tv3 := q_add ev3 (by omega) (by omega)
  refine va_sld hx hb hX hbl hbA hS (q_in (by omega) (by omega)) dL_law_966 (lv_topi fun v4 ev4 => ?_)
  refine lv_aload_n hx hb dL_law_967 rfl (lv_at hl 3 rfl) ?_
  refine lv_iload_n hx hb dL_law_968 rfl (lv_at hl 0 rfl) ?_
  refine lv_iconst (v := 3) hx hb dL_law_969 (by decide) ?_
  refine lv_iadd hx hb dL_law_970 (lv_topi fun v5 ev5 => ?_)
  have tv5 := q_add ev5 (by omega) (by omega)
  refine va_sld hx hb hX hbl hbA hS (q_in (by omega) (by omega)) dL_law_971 (lv_topi fun v6 ev6 => ?_)
  refine lv_aload_n hx hb dL_law_972 rfl (lv_at hl 3 rfl) ?_
  refine lv_iload_n hx hb dL_law_973 rfl (lv_at hl 0 rfl) ?_
  refine lv_iconst (v := 4) hx hb dL_law_974 (by decide) ?_
  refine lv_iadd hx hb dL_law_975 (lv_topi fun v7 ev7 => ?_)
  have tv7 := q_add ev7 (by omega) (by omega)
  refine va_sld hx hb hX hbl hbA hS (q_in (by omega) (by omega)) dL_law_976 (lv_topi fun v8 ev8 => ?_)
  refine q_cL (As := [.int v2, .int v4, .int v6, .int v8]) (rest := []) q_exw hE hKx hPx hex hPy hey hDx hd1 hS hA ⟨hx, hb, hml, hown, hts⟩ (F_t_ends l dC dI _ hIx v2 v4 v6 v8) (cwV 4 hts (p1_gV m_1 m_2 m_3 m_4 iz_t_ends gz_t_ends) rfl rfl rfl (by decide +kernel) ⟨by decide, by decide⟩) (hIx.recv hKx hPx) rfl hl.1 rfl (Nat.le_of_ble_eq_true rfl) dL_law_977 ⟨by show nc ≤ 600000; omega, by show ns ≤ 7302250; omega⟩ (fun r1 H1 lo1 t1 ht1 hg1 hQ1 hS1 => ?_)
  obtain ⟨w1, hI1, hP1, he1⟩ := hg1
  rw [ht1] at hP1
  refine lv_pop hx hb dL_law_980 rfl ?_
  refine lv_aload_n hx hb dL_law_981 rfl (lv_at hl 1 rfl) ?_
  refine lv_aload_n hx hb dL_law_982 rfl (lv_at hl 3 rfl) ?_
  refine lv_iload_n hx hb dL_law_983 rfl (lv_at hl 0 rfl) ?_
  refine lv_iconst (v := 1) hx hb dL_law_984 (by decide) ?_
  refine lv_iadd hx hb dL_law_985 (lv_topi fun v9 ev9 => ?_)
  have tv9 := q_add ev9 (by omega) (by omega)
  refine va_sld hx hb hX hbl hbA hS1 (q_in (by omega) (by omega)) dL_law_986 (lv_topi fun v10 ev10 => ?_)
  refine lv_aload_n hx hb dL_law_987 rfl (lv_at hl 3 rfl) ?_
  refine lv_iload_n hx hb dL_law_988 rfl (lv_at hl 0 rfl) ?_
  refine lv_iconst (v := 2) hx hb dL_law_989 (by decide) ?_
  refine lv_iadd hx hb dL_law_990 (lv_topi fun v11 ev11 => ?_)
  have tv11 := q_add ev11 (by omega) (by omega)
  refine va_sld hx hb hX hbl hbA hS1 (q_in (by omega) (by omega)) dL_law_991 (lv_topi fun v12 ev12 => ?_)
  refine lv_aload_n hx hb dL_law_992 rfl (lv_at hl 3 rfl) ?_
  refine lv_iload_n hx hb dL_law_993 rfl (lv_at hl 0 rfl) ?_
  refine lv_iconst (v := 3) hx hb dL_law_994 (by decide) ?_
  refine lv_iadd hx hb dL_law_995 (lv_topi fun v13 ev13 => ?_)
  have tv13 := q_add ev13 (by omega) (by omega)
  refine va_sld hx hb hX hbl hbA hS1 (q_in (by omega) (by omega)) dL_law_996 (lv_topi fun v14 ev14 => ?_)
  refine lv_aload_n hx hb dL_law_997 rfl (lv_at hl 3 rfl) ?_
  refine lv_iload_n hx hb dL_law_998 rfl (lv_at hl 0 rfl) ?_
  refine lv_iconst (v := 4) hx hb dL_law_999 (by decide) ?_
  refine lv_iadd hx hb dL_law_1000 (lv_topi fun v15 ev15 => ?_)
  have tv15 := q_add ev15 (by omega) (by omega)
  refine va_sld hx hb hX hbl hbA hS1 (q_in (by omega) (by omega)) dL_law_1001 (lv_topi fun v16 ev16 => ?_)
  refine q_cL (As := [.int v10, .int v12, .int v14, .int v16]) (rest := []) q_exw hE hKy hQ1 hey hP1 (he1.trans hex) hDy hd2 hS1 hA ⟨hx, hb, hml, hown, hts⟩ (F_r_ends l dC dI _ hIy v10 v12 v14 v16) (cwV 4 hts (p1_gV m_5 m_6 m_7 m_8 iz_r_ends gz_r_ends) rfl rfl rfl (by decide +kernel) ⟨by decide, by decide⟩) (hIy.recv hKy hQ1) rfl hl.1 rfl (Nat.le_of_ble_eq_true rfl) dL_law_1002 ⟨by show nc ≤ 600000; omega, by show ns ≤ 7302250; omega⟩ (fun r2 H2 lo2 t2 ht2 hg2 hQ2 hS2 => ?_)
  obtain ⟨w2, hI2, hP2, he2⟩ := hg2
  rw [ht2] at hP2
  refine lv_pop hx hb dL_law_1005 rfl ?_
  refine lv_goto (tgt := 1382) hx hb dL_law_1006 (by decide) ?_
  exact kk tm w1 w2 H2 _ ls hI1 hI2 hQ2 (he1.trans hex) hP2 (he2.trans hey) hS2 hl
set_option maxHeartbeats 4000000 in
set_option maxRecDepth 100000 in
theorem law_change {p : Program} {e : Env} {s : State} {m : MethodId} {below : List Frame} {meth : Method} {c : Code} (l : Launch) {b L : Nat} {xs : Nat → Int32} (C0 : lw_At p s m meth c b L xs) {A : Nat → Prop} (hAe : A = fun q : Nat => s.heap.size ≤ q) (hE : q_ex A s s.heap) (dC : Nat → ClassId) (dI : Nat → Nat → Nat) {nc ns : Nat} (hnc : nc ≤ 600000) (hns : ns ≤ 7302250) {x y : Nat} {a1 a2 : List Nat} {tx ty : List (ClassId × FieldType)} (hKx : va_K (dC, dI) vwCl tx s) (hKy : va_K (dC, dI) vwCl ty s) (hDx : q_DA A a1) (hDy : q_DA A a2) (hd1 : ∀ q ∈ a1, q ∉ a2) (hd2 : ∀ q ∈ a2, q ∉ a1) (i : Int32) (hi0 : 0 ≤ i.toInt) (hi6 : i.toInt + 6 ≤ L) (hL : L ≤ 3072) (tm : Int32) (wx wy : va_W) (H : Heap) (locs : List Loc) (ls : Array Slot) (hIx : IX x tm wx tx) (hIy : IM y tm wy ty) (hPx : va_P (dC, dI) vwCl wx H) (hex : wx.map Prod.fst = a1) (hPy : va_P (dC, dI) vwCl wy H) (hey : wy.map Prod.fst = a2) (hS : va_S A s.heap H locs) (hl : lv_has ls 4 [(3, .int i), (2, .ref y), (1, .ref x), (0, .ref b)]) (kk : ∀ (tm : Int32) (wx wy : va_W) (H : Heap) (locs : List Loc) (ls : Array Slot) (hIx : IX x tm wx tx) (hIy : IM y tm wy ty) (hPx : va_P (dC, dI) vwCl wx H) (hex : wx.map Prod.fst = a1) (hPy : va_P (dC, dI) vwCl wy H) (hey : wy.map Prod.fst = a2) (hS : va_S A s.heap H locs) (hl : lv_has ls 4 [(3, .int i), (2, .ref y), (1, .ref x), (0, .ref b)]), W p l e room_1 s m #[Value.ref b] below meth c H locs nc ns (lw_Z below #[Value.ref b] s) (F0 m 1382 ls [])) : W p l e room_1 s m #[Value.ref b] below meth c H locs nc ns (lw_Z below #[Value.ref b] s) (F0 m 1009 ls []) := by
  obtain ⟨hx, hb, hr, hml, hown, hts, hX, hbl, hlocks, hgv⟩ := id C0
  have hown : s.vm.findClass RL = some m.cls := hown
  have hA : ∀ q : Nat, s.heap.size ≤ q → A q := by rw [hAe]; exact fun _ h => h
  have hbA : ¬ A b := by rw [hAe]; exact Nat.not_le.mpr hbl
  have lt_1 : (1 : Int32).toInt = 1 := by decide
  have lt_2 : (2 : Int32).toInt = 2 := by decide
  have lt_3 : (3 : Int32).toInt = 3 := by decide
  have lt_4 : (4 : Int32).toInt = 4 := by decide
  have lt_5 : (5 : Int32).toInt = 5 := by decide
  have m_1 : (.methodLink RL 103 yX8_change : Cond) ∈ lw_tbl := q_w (n := 930) (by decide +kernel)
  have m_2 : (.instanceMethod yX8_change : Cond) ∈ lw_tbl := q_w (n := 931) (by decide +kernel)
  have m_3 : (.selects RX8 yX8_change yX8_change : Cond) ∈ lw_tbl := q_w (n := 932) (by decide +kernel)
  have m_4 : (.initialized RX8 : Cond) ∈ lw_tbl := q_w (n := 104) (by decide +kernel)
  have m_5 : (.methodLink RL 106 yX9_change : Cond) ∈ lw_tbl := q_w (n := 1628) (by decide +kernel)
  have m_6 : (.instanceMethod yX9_change : Cond) ∈ lw_tbl := q_w (n := 1629) (by decide +kernel)
  have m_7 : (.selects RX9 yX9_change yX9_change : Cond) ∈ lw_tbl := q_w (n := 1630) (by decide +kernel)
  have m_8 : (.initialized RX9 : Cond) ∈ lw_tbl := q_w (n := 116) (by decide +kernel)
  refine lv_aload_n hx hb dL_law_1009 rfl (lv_at hl 2 rfl) ?_
  refine lv_aload_n hx hb dL_law_1010 rfl (lv_at hl 3 rfl) ?_
  refine lv_iload_n hx hb dL_law_1011 rfl (lv_at hl 0 rfl) ?_
  refine lv_iconst (v := 1) hx hb dL_law_1012 (by decide) ?_
  refine lv_iadd hx hb dL_law_1013 (lv_topi fun v1 ev1 => ?_)
  have tv1 := q_add ev1 (by omega) (by omega)
  refine va_sld hx hb hX hbl hbA hS (q_in (by omega) (by omega)) dL_law_1014 (lv_topi fun v2 ev2 => ?_)
  refine lv_aload_n hx hb dL_law_1015 rfl (lv_at hl 3 rfl) ?_
  refine lv_iload_n hx hb dL_law_1016 rfl (lv_at hl 0 rfl) ?_
  refine lv_iconst (v := 2) hx hb dL_law_1017 (by decide) ?_
  refine lv_iadd hx hb dL_law_1018 (lv_topi fun v3 ev3 => ?_)
  have tv3 := q_add ev3 (by omega) (by omega)
  refine va_sld hx hb hX hbl hbA hS (q_in (by omega) (by omega)) dL_law_1019 (lv_topi fun v4 ev4 => ?_)
  refine lv_aload_n hx hb dL_law_1020 rfl (lv_at hl 3 rfl) ?_
  refine lv_iload_n hx hb dL_law_1021 rfl (lv_at hl 0 rfl) ?_
  refine lv_iconst (v := 3) hx hb dL_law_1022 (by decide) ?_
  refine lv_iadd hx hb dL_law_1023 (lv_topi fun v5 ev5 => ?_)
  have tv5 := q_add ev5 (by omega) (by omega)
  refine va_sld hx hb hX hbl hbA hS (q_in (by omega) (by omega)) dL_law_1024 (lv_topi fun v6 ev6 => ?_)
  refine lv_aload_n hx hb dL_law_1025 rfl (lv_at hl 3 rfl) ?_
  refine lv_iload_n hx hb dL_law_1026 rfl (lv_at hl 0 rfl) ?_
  refine lv_iconst (v := 4) hx hb dL_law_1027 (by decide) ?_
  refine lv_iadd hx hb dL_law_1028 (lv_topi fun v7 ev7 => ?_)
  have tv7 := q_add ev7 (by omega) (by omega)
  refine va_sld hx hb hX hbl hbA hS (q_in (by omega) (by omega)) dL_law_1029 (lv_topi fun v8 ev8 => ?_)
  refine lv_aload_n hx hb dL_law_1030 rfl (lv_at hl 3 rfl) ?_
  refine lv_iload_n hx hb dL_law_1031 rfl (lv_at hl 0 rfl) ?_
  refine lv_iconst (v := 5) hx hb dL_law_1032 (by decide) ?_
  refine lv_iadd hx hb dL_law_1033 (lv_topi fun v9 ev9 => ?_)
  have tv9 := q_add ev9 (by omega) (by omega)
  refine va_sld hx hb hX hbl hbA hS (q_in (by omega) (by omega)) dL_law_1034 (lv_topi fun v10 ev10 => ?_)
  refine q_cL (As := [.int v2, .int v4, .int v6, .int v8, .int v10]) (rest := []) q_exw hE hKx hPx hex hPy hey hDx hd1 hS hA ⟨hx, hb, hml, hown, hts⟩ (F_t_change l dC dI _ hIx v2 v4 v6 v8 v10) (cwV 5 hts (p1_gV m_1 m_2 m_3 m_4 iz_t_change gz_t_change) rfl rfl rfl (by decide +kernel) ⟨by decide, by decide⟩) (hIx.recv hKx hPx) rfl hl.1 rfl (Nat.le_of_ble_eq_true rfl) dL_law_1035 ⟨by show nc ≤ 600000; omega, by show ns ≤ 7302250; omega⟩ (fun r1 H1 lo1 t1 ht1 hg1 hQ1 hS1 => ?_)
  obtain ⟨w1, hI1, hP1, he1⟩ := hg1
  rw [ht1] at hP1
  refine lv_pop hx hb dL_law_1038 rfl ?_
  refine lv_aload_n hx hb dL_law_1039 rfl (lv_at hl 1 rfl) ?_
  refine lv_aload_n hx hb dL_law_1040 rfl (lv_at hl 3 rfl) ?_
  refine lv_iload_n hx hb dL_law_1041 rfl (lv_at hl 0 rfl) ?_
  refine lv_iconst (v := 1) hx hb dL_law_1042 (by decide) ?_
  refine lv_iadd hx hb dL_law_1043 (lv_topi fun v11 ev11 => ?_)
  have tv11 := q_add ev11 (by omega) (by omega)
  refine va_sld hx hb hX hbl hbA hS1 (q_in (by omega) (by omega)) dL_law_1044 (lv_topi fun v12 ev12 => ?_)
  refine lv_aload_n hx hb dL_law_1045 rfl (lv_at hl 3 rfl) ?_
  refine lv_iload_n hx hb dL_law_1046 rfl (lv_at hl 0 rfl) ?_
  refine lv_iconst (v := 2) hx hb dL_law_1047 (by decide) ?_
  refine lv_iadd hx hb dL_law_1048 (lv_topi fun v13 ev13 => ?_)
  have tv13 := q_add ev13 (by omega) (by omega)
  refine va_sld hx hb hX hbl hbA hS1 (q_in (by omega) (by omega)) dL_law_1049 (lv_topi fun v14 ev14 => ?_)
  refine lv_aload_n hx hb dL_law_1050 rfl (lv_at hl 3 rfl) ?_
  refine lv_iload_n hx hb dL_law_1051 rfl (lv_at hl 0 rfl) ?_
  refine lv_iconst (v := 3) hx hb dL_law_1052 (by decide) ?_
  refine lv_iadd hx hb dL_law_1053 (lv_topi fun v15 ev15 => ?_)
  have tv15 := q_add ev15 (by omega) (by omega)
  refine va_sld hx hb hX hbl hbA hS1 (q_in (by omega) (by omega)) dL_law_1054 (lv_topi fun v16 ev16 => ?_)
  refine lv_aload_n hx hb dL_law_1055 rfl (lv_at hl 3 rfl) ?_
  refine lv_iload_n hx hb dL_law_1056 rfl (lv_at hl 0 rfl) ?_
  refine lv_iconst (v := 4) hx hb dL_law_1057 (by decide) ?_
  refine lv_iadd hx hb dL_law_1058 (lv_topi fun v17 ev17 => ?_)
  have tv17 := q_add ev17 (by omega) (by omega)
  refine va_sld hx hb hX hbl hbA hS1 (q_in (by omega) (by omega)) dL_law_1059 (lv_topi fun v18 ev18 => ?_)
  refine lv_aload_n hx hb dL_law_1060 rfl (lv_at hl 3 rfl) ?_
  refine lv_iload_n hx hb dL_law_1061 rfl (lv_at hl 0 rfl) ?_
  refine lv_iconst (v := 5) hx hb dL_law_1062 (by decide) ?_
  refine lv_iadd hx hb dL_law_1063 (lv_topi fun v19 ev19 => ?_)
  have tv19 := q_add ev19 (by omega) (by omega)
  refine va_sld hx hb hX hbl hbA hS1 (q_in (by omega) (by omega)) dL_law_1064 (lv_topi fun v20 ev20 => ?_)
  refine q_cL (As := [.int v12, .int v14, .int v16, .int v18, .int v20]) (rest := []) q_exw hE hKy hQ1 hey hP1 (he1.trans hex) hDy hd2 hS1 hA ⟨hx, hb, hml, hown, hts⟩ (F_r_change l dC dI _ hIy v12 v14 v16 v18 v20) (cwV 5 hts (p1_gV m_5 m_6 m_7 m_8 iz_r_change gz_r_change) rfl rfl rfl (by decide +kernel) ⟨by decide, by decide⟩) (hIy.recv hKy hQ1) rfl hl.1 rfl (Nat.le_of_ble_eq_true rfl) dL_law_1065 ⟨by show nc ≤ 600000; omega, by show ns ≤ 7302250; omega⟩ (fun r2 H2 lo2 t2 ht2 hg2 hQ2 hS2 => ?_)
  obtain ⟨w2, hI2, hP2, he2⟩ := hg2
  rw [ht2] at hP2
  refine lv_pop hx hb dL_law_1068 rfl ?_
  refine lv_goto (tgt := 1382) hx hb dL_law_1069 (by decide) ?_
  exact kk tm w1 w2 H2 _ ls hI1 hI2 hQ2 (he1.trans hex) hP2 (he2.trans hey) hS2 hl
set_option maxHeartbeats 4000000 in
set_option maxRecDepth 100000 in
theorem law_film {p : Program} {e : Env} {s : State} {m : MethodId} {below : List Frame} {meth : Method} {c : Code} (l : Launch) {b L : Nat} {xs : Nat → Int32} (C0 : lw_At p s m meth c b L xs) {A : Nat → Prop} (hAe : A = fun q : Nat => s.heap.size ≤ q) (hE : q_ex A s s.heap) (dC : Nat → ClassId) (dI : Nat → Nat → Nat) {nc ns : Nat} (hnc : nc ≤ 600000) (hns : ns ≤ 7302250) {x y : Nat} {a1 a2 : List Nat} {tx ty : List (ClassId × FieldType)} (hKx : va_K (dC, dI) vwCl tx s) (hKy : va_K (dC, dI) vwCl ty s) (hDx : q_DA A a1) (hDy : q_DA A a2) (hd1 : ∀ q ∈ a1, q ∉ a2) (hd2 : ∀ q ∈ a2, q ∉ a1) (i : Int32) (hi0 : 0 ≤ i.toInt) (hi6 : i.toInt + 6 ≤ L) (hL : L ≤ 3072) (tm : Int32) (wx wy : va_W) (H : Heap) (locs : List Loc) (ls : Array Slot) (hIx : IX x tm wx tx) (hIy : IM y tm wy ty) (hPx : va_P (dC, dI) vwCl wx H) (hex : wx.map Prod.fst = a1) (hPy : va_P (dC, dI) vwCl wy H) (hey : wy.map Prod.fst = a2) (hS : va_S A s.heap H locs) (hl : lv_has ls 4 [(3, .int i), (2, .ref y), (1, .ref x), (0, .ref b)]) (kk : ∀ (tm : Int32) (wx wy : va_W) (H : Heap) (locs : List Loc) (ls : Array Slot) (hIx : IX x tm wx tx) (hIy : IM y tm wy ty) (hPx : va_P (dC, dI) vwCl wx H) (hex : wx.map Prod.fst = a1) (hPy : va_P (dC, dI) vwCl wy H) (hey : wy.map Prod.fst = a2) (hS : va_S A s.heap H locs) (hl : lv_has ls 4 [(3, .int i), (2, .ref y), (1, .ref x), (0, .ref b)]), W p l e room_1 s m #[Value.ref b] below meth c H locs nc ns (lw_Z below #[Value.ref b] s) (F0 m 1382 ls [])) : W p l e room_1 s m #[Value.ref b] below meth c H locs nc ns (lw_Z below #[Value.ref b] s) (F0 m 1072 ls []) := by
  obtain ⟨hx, hb, hr, hml, hown, hts, hX, hbl, hlocks, hgv⟩ := id C0
  have hown : s.vm.findClass RL = some m.cls := hown
  have hA : ∀ q : Nat, s.heap.size ≤ q → A q := by rw [hAe]; exact fun _ h => h
  have hbA : ¬ A b := by rw [hAe]; exact Nat.not_le.mpr hbl
  have lt_1 : (1 : Int32).toInt = 1 := by decide
  have lt_2 : (2 : Int32).toInt = 2 := by decide
  have lt_3 : (3 : Int32).toInt = 3 := by decide
  have lt_4 : (4 : Int32).toInt = 4 := by decide
  have lt_5 : (5 : Int32).toInt = 5 := by decide
  have m_1 : (.methodLink RL 107 yX8_film : Cond) ∈ lw_tbl := q_w (n := 938) (by decide +kernel)
  have m_2 : (.instanceMethod yX8_film : Cond) ∈ lw_tbl := q_w (n := 939) (by decide +kernel)
  have m_3 : (.selects RX8 yX8_film yX8_film : Cond) ∈ lw_tbl := q_w (n := 940) (by decide +kernel)
  have m_4 : (.initialized RX8 : Cond) ∈ lw_tbl := q_w (n := 104) (by decide +kernel)
  have m_5 : (.methodLink RL 110 yX9_film : Cond) ∈ lw_tbl := q_w (n := 1632) (by decide +kernel)
  have m_6 : (.instanceMethod yX9_film : Cond) ∈ lw_tbl := q_w (n := 1633) (by decide +kernel)
  have m_7 : (.selects RX9 yX9_film yX9_film : Cond) ∈ lw_tbl := q_w (n := 1634) (by decide +kernel)
  have m_8 : (.initialized RX9 : Cond) ∈ lw_tbl := q_w (n := 116) (by decide +kernel)
  refine lv_aload_n hx hb dL_law_1072 rfl (lv_at hl 2 rfl) ?_
  refine lv_aload_n hx hb dL_law_1073 rfl (lv_at hl 3 rfl) ?_
  refine lv_iload_n hx hb dL_law_1074 rfl (lv_at hl 0 rfl) ?_
  refine lv_iconst (v := 1) hx hb dL_law_1075 (by decide) ?_
  refine lv_iadd hx hb dL_law_1076 (lv_topi fun v1 ev1 => ?_)
  have tv1 := q_add ev1 (by omega) (by omega)
  refine va_sld hx hb hX hbl hbA hS (q_in (by omega) (by omega)) dL_law_1077 (lv_topi fun v2 ev2 => ?_)
  refine lv_aload_n hx hb dL_law_1078 rfl (lv_at hl 3 rfl) ?_
  refine lv_iload_n hx hb dL_law_1079 rfl (lv_at hl 0 rfl) ?_
  refine lv_iconst (v := 2) hx hb dL_law_1080 (by decide) ?_
  refine lv_iadd hx hb dL_law_1081 (lv_topi fun v3 ev3 => ?_)
  have tv3 := q_add ev3 (by omega) (by omega)
  refine va_sld hx hb hX hbl hbA hS (q_in (by omega) (by omega)) dL_law_1082 (lv_topi fun v4 ev4 => ?_)
  refine lv_aload_n hx hb dL_law_1083 rfl (lv_at hl 3 rfl) ?_
  refine lv_iload_n hx hb dL_law_1084 rfl (lv_at hl 0 rfl) ?_
  refine lv_iconst (v := 3) hx hb dL_law_1085 (by decide) ?_
  refine lv_iadd hx hb dL_law_1086 (lv_topi fun v5 ev5 => ?_)
  have tv5 := q_add ev5 (by omega) (by omega)
  refine va_sld hx hb hX hbl hbA hS (q_in (by omega) (by omega)) dL_law_1087 (lv_topi fun v6 ev6 => ?_)
  refine lv_aload_n hx hb dL_law_1088 rfl (lv_at hl 3 rfl) ?_
  refine lv_iload_n hx hb dL_law_1089 rfl (lv_at hl 0 rfl) ?_
  refine lv_iconst (v := 4) hx hb dL_law_1090 (by decide) ?_
  refine lv_iadd hx hb dL_law_1091 (lv_topi fun v7 ev7 => ?_)
  have tv7 := q_add ev7 (by omega) (by omega)
  refine va_sld hx hb hX hbl hbA hS (q_in (by omega) (by omega)) dL_law_1092 (lv_topi fun v8 ev8 => ?_)
  refine lv_aload_n hx hb dL_law_1093 rfl (lv_at hl 3 rfl) ?_
  refine lv_iload_n hx hb dL_law_1094 rfl (lv_at hl 0 rfl) ?_
  refine lv_iconst (v := 5) hx hb dL_law_1095 (by decide) ?_
  refine lv_iadd hx hb dL_law_1096 (lv_topi fun v9 ev9 => ?_)
  have tv9 := q_add ev9 (by omega) (by omega)
  refine va_sld hx hb hX hbl hbA hS (q_in (by omega) (by omega)) dL_law_1097 (lv_topi fun v10 ev10 => ?_)
  refine q_cL (As := [.int v2, .int v4, .int v6, .int v8, .int v10]) (rest := []) q_exw hE hKx hPx hex hPy hey hDx hd1 hS hA ⟨hx, hb, hml, hown, hts⟩ (F_t_film l dC dI _ hIx v2 v4 v6 v8 v10) (cwV 5 hts (p1_gV m_1 m_2 m_3 m_4 iz_t_film gz_t_film) rfl rfl rfl (by decide +kernel) ⟨by decide, by decide⟩) (hIx.recv hKx hPx) rfl hl.1 rfl (Nat.le_of_ble_eq_true rfl) dL_law_1098 ⟨by show nc ≤ 600000; omega, by show ns ≤ 7302250; omega⟩ (fun r1 H1 lo1 t1 ht1 hg1 hQ1 hS1 => ?_)
  obtain ⟨w1, hI1, hP1, he1⟩ := hg1
  rw [ht1] at hP1
  refine lv_pop hx hb dL_law_1101 rfl ?_
  refine lv_aload_n hx hb dL_law_1102 rfl (lv_at hl 1 rfl) ?_
  refine lv_aload_n hx hb dL_law_1103 rfl (lv_at hl 3 rfl) ?_
  refine lv_iload_n hx hb dL_law_1104 rfl (lv_at hl 0 rfl) ?_
  refine lv_iconst (v := 1) hx hb dL_law_1105 (by decide) ?_
  refine lv_iadd hx hb dL_law_1106 (lv_topi fun v11 ev11 => ?_)
  have tv11 := q_add ev11 (by omega) (by omega)
  refine va_sld hx hb hX hbl hbA hS1 (q_in (by omega) (by omega)) dL_law_1107 (lv_topi fun v12 ev12 => ?_)
  refine lv_aload_n hx hb dL_law_1108 rfl (lv_at hl 3 rfl) ?_
  refine lv_iload_n hx hb dL_law_1109 rfl (lv_at hl 0 rfl) ?_
  refine lv_iconst (v := 2) hx hb dL_law_1110 (by decide) ?_
  refine lv_iadd hx hb dL_law_1111 (lv_topi fun v13 ev13 => ?_)
  have tv13 := q_add ev13 (by omega) (by omega)
  refine va_sld hx hb hX hbl hbA hS1 (q_in (by omega) (by omega)) dL_law_1112 (lv_topi fun v14 ev14 => ?_)
  refine lv_aload_n hx hb dL_law_1113 rfl (lv_at hl 3 rfl) ?_
  refine lv_iload_n hx hb dL_law_1114 rfl (lv_at hl 0 rfl) ?_
  refine lv_iconst (v := 3) hx hb dL_law_1115 (by decide) ?_
  refine lv_iadd hx hb dL_law_1116 (lv_topi fun v15 ev15 => ?_)
  have tv15 := q_add ev15 (by omega) (by omega)
  refine va_sld hx hb hX hbl hbA hS1 (q_in (by omega) (by omega)) dL_law_1117 (lv_topi fun v16 ev16 => ?_)
  refine lv_aload_n hx hb dL_law_1118 rfl (lv_at hl 3 rfl) ?_
  refine lv_iload_n hx hb dL_law_1119 rfl (lv_at hl 0 rfl) ?_
  refine lv_iconst (v := 4) hx hb dL_law_1120 (by decide) ?_
  refine lv_iadd hx hb dL_law_1121 (lv_topi fun v17 ev17 => ?_)
  have tv17 := q_add ev17 (by omega) (by omega)
  refine va_sld hx hb hX hbl hbA hS1 (q_in (by omega) (by omega)) dL_law_1122 (lv_topi fun v18 ev18 => ?_)
  refine lv_aload_n hx hb dL_law_1123 rfl (lv_at hl 3 rfl) ?_
  refine lv_iload_n hx hb dL_law_1124 rfl (lv_at hl 0 rfl) ?_
  refine lv_iconst (v := 5) hx hb dL_law_1125 (by decide) ?_
  refine lv_iadd hx hb dL_law_1126 (lv_topi fun v19 ev19 => ?_)
  have tv19 := q_add ev19 (by omega) (by omega)
  refine va_sld hx hb hX hbl hbA hS1 (q_in (by omega) (by omega)) dL_law_1127 (lv_topi fun v20 ev20 => ?_)
  refine q_cL (As := [.int v12, .int v14, .int v16, .int v18, .int v20]) (rest := []) q_exw hE hKy hQ1 hey hP1 (he1.trans hex) hDy hd2 hS1 hA ⟨hx, hb, hml, hown, hts⟩ (F_r_film l dC dI _ hIy v12 v14 v16 v18 v20) (cwV 5 hts (p1_gV m_5 m_6 m_7 m_8 iz_r_film gz_r_film) rfl rfl rfl (by decide +kernel) ⟨by decide, by decide⟩) (hIy.recv hKy hQ1) rfl hl.1 rfl (Nat.le_of_ble_eq_true rfl) dL_law_1128 ⟨by show nc ≤ 600000; omega, by show ns ≤ 7302250; omega⟩ (fun r2 H2 lo2 t2 ht2 hg2 hQ2 hS2 => ?_)
  obtain ⟨w2, hI2, hP2, he2⟩ := hg2
  rw [ht2] at hP2
  refine lv_pop hx hb dL_law_1131 rfl ?_
  refine lv_goto (tgt := 1382) hx hb dL_law_1132 (by decide) ?_
  exact kk tm w1 w2 H2 _ ls hI1 hI2 hQ2 (he1.trans hex) hP2 (he2.trans hey) hS2 hl
set_option maxHeartbeats 4000000 in
set_option maxRecDepth 100000 in
theorem law_untell {p : Program} {e : Env} {s : State} {m : MethodId} {below : List Frame} {meth : Method} {c : Code} (l : Launch) {b L : Nat} {xs : Nat → Int32} (C0 : lw_At p s m meth c b L xs) {A : Nat → Prop} (hAe : A = fun q : Nat => s.heap.size ≤ q) (hE : q_ex A s s.heap) (dC : Nat → ClassId) (dI : Nat → Nat → Nat) {nc ns : Nat} (hnc : nc ≤ 600000) (hns : ns ≤ 7302250) {x y : Nat} {a1 a2 : List Nat} {tx ty : List (ClassId × FieldType)} (hKx : va_K (dC, dI) vwCl tx s) (hKy : va_K (dC, dI) vwCl ty s) (hDx : q_DA A a1) (hDy : q_DA A a2) (hd1 : ∀ q ∈ a1, q ∉ a2) (hd2 : ∀ q ∈ a2, q ∉ a1) (i : Int32) (hi0 : 0 ≤ i.toInt) (hi6 : i.toInt + 6 ≤ L) (hL : L ≤ 3072) (tm : Int32) (wx wy : va_W) (H : Heap) (locs : List Loc) (ls : Array Slot) (hIx : IX x tm wx tx) (hIy : IM y tm wy ty) (hPx : va_P (dC, dI) vwCl wx H) (hex : wx.map Prod.fst = a1) (hPy : va_P (dC, dI) vwCl wy H) (hey : wy.map Prod.fst = a2) (hS : va_S A s.heap H locs) (hl : lv_has ls 4 [(3, .int i), (2, .ref y), (1, .ref x), (0, .ref b)]) (kk : ∀ (tm : Int32) (wx wy : va_W) (H : Heap) (locs : List Loc) (ls : Array Slot) (hIx : IX x tm wx tx) (hIy : IM y tm wy ty) (hPx : va_P (dC, dI) vwCl wx H) (hex : wx.map Prod.fst = a1) (hPy : va_P (dC, dI) vwCl wy H) (hey : wy.map Prod.fst = a2) (hS : va_S A s.heap H locs) (hl : lv_has ls 4 [(3, .int i), (2, .ref y), (1, .ref x), (0, .ref b)]), W p l e room_1 s m #[Value.ref b] below meth c H locs nc ns (lw_Z below #[Value.ref b] s) (F0 m 1382 ls [])) : W p l e room_1 s m #[Value.ref b] below meth c H locs nc ns (lw_Z below #[Value.ref b] s) (F0 m 1135 ls []) := by
  obtain ⟨hx, hb, hr, hml, hown, hts, hX, hbl, hlocks, hgv⟩ := id C0
  have hown : s.vm.findClass RL = some m.cls := hown
  have hA : ∀ q : Nat, s.heap.size ≤ q → A q := by rw [hAe]; exact fun _ h => h
  have hbA : ¬ A b := by rw [hAe]; exact Nat.not_le.mpr hbl
  have lt_1 : (1 : Int32).toInt = 1 := by decide
  have m_1 : (.methodLink RL 111 yX8_untell : Cond) ∈ lw_tbl := q_w (n := 968) (by decide +kernel)
  have m_2 : (.instanceMethod yX8_untell : Cond) ∈ lw_tbl := q_w (n := 969) (by decide +kernel)
  have m_3 : (.selects RX8 yX8_untell yX8_untell : Cond) ∈ lw_tbl := q_w (n := 970) (by decide +kernel)
  have m_4 : (.initialized RX8 : Cond) ∈ lw_tbl := q_w (n := 104) (by decide +kernel)
  have m_5 : (.methodLink RL 115 yX9_untell : Cond) ∈ lw_tbl := q_w (n := 1636) (by decide +kernel)
  have m_6 : (.instanceMethod yX9_untell : Cond) ∈ lw_tbl := q_w (n := 1637) (by decide +kernel)
  have m_7 : (.selects RX9 yX9_untell yX9_untell : Cond) ∈ lw_tbl := q_w (n := 1638) (by decide +kernel)
  have m_8 : (.initialized RX9 : Cond) ∈ lw_tbl := q_w (n := 116) (by decide +kernel)
  refine lv_aload_n hx hb dL_law_1135 rfl (lv_at hl 2 rfl) ?_
  refine lv_aload_n hx hb dL_law_1136 rfl (lv_at hl 3 rfl) ?_
  refine lv_iload_n hx hb dL_law_1137 rfl (lv_at hl 0 rfl) ?_
  refine lv_iconst (v := 1) hx hb dL_law_1138 (by decide) ?_
  refine lv_iadd hx hb dL_law_1139 (lv_topi fun v1 ev1 => ?_)
  have tv1 := q_add ev1 (by omega) (by omega)
  refine va_sld hx hb hX hbl hbA hS (q_in (by omega) (by omega)) dL_law_1140 (lv_topi fun v2 ev2 => ?_)
  refine q_cL (As := [.int v2]) (rest := []) q_exw hE hKx hPx hex hPy hey hDx hd1 hS hA ⟨hx, hb, hml, hown, hts⟩ (F_t_untell l dC dI _ hIx v2) (cwV 1 hts (p1_gV m_1 m_2 m_3 m_4 iz_t_untell gz_t_untell) rfl rfl rfl (by decide +kernel) ⟨by decide, by decide⟩) (hIx.recv hKx hPx) rfl hl.1 rfl (Nat.le_of_ble_eq_true rfl) dL_law_1141 ⟨by show nc ≤ 600000; omega, by show ns ≤ 7302250; omega⟩ (fun r1 H1 lo1 t1 ht1 hg1 hQ1 hS1 => ?_)
  obtain ⟨w1, hI1, hP1, he1⟩ := hg1
  rw [ht1] at hP1
  refine lv_pop hx hb dL_law_1144 rfl ?_
  refine lv_aload_n hx hb dL_law_1145 rfl (lv_at hl 1 rfl) ?_
  refine lv_aload_n hx hb dL_law_1146 rfl (lv_at hl 3 rfl) ?_
  refine lv_iload_n hx hb dL_law_1147 rfl (lv_at hl 0 rfl) ?_
  refine lv_iconst (v := 1) hx hb dL_law_1148 (by decide) ?_
  refine lv_iadd hx hb dL_law_1149 (lv_topi fun v3 ev3 => ?_)
  have tv3 := q_add ev3 (by omega) (by omega)
  refine va_sld hx hb hX hbl hbA hS1 (q_in (by omega) (by omega)) dL_law_1150 (lv_topi fun v4 ev4 => ?_)
  refine q_cL (As := [.int v4]) (rest := []) q_exw hE hKy hQ1 hey hP1 (he1.trans hex) hDy hd2 hS1 hA ⟨hx, hb, hml, hown, hts⟩ (F_r_untell l dC dI _ hIy v4) (cwV 1 hts (p1_gV m_5 m_6 m_7 m_8 iz_r_untell gz_r_untell) rfl rfl rfl (by decide +kernel) ⟨by decide, by decide⟩) (hIy.recv hKy hQ1) rfl hl.1 rfl (Nat.le_of_ble_eq_true rfl) dL_law_1151 ⟨by show nc ≤ 600000; omega, by show ns ≤ 7302250; omega⟩ (fun r2 H2 lo2 t2 ht2 hg2 hQ2 hS2 => ?_)
  obtain ⟨w2, hI2, hP2, he2⟩ := hg2
  rw [ht2] at hP2
  refine lv_pop hx hb dL_law_1154 rfl ?_
  refine lv_goto (tgt := 1382) hx hb dL_law_1155 (by decide) ?_
  exact kk tm w1 w2 H2 _ ls hI1 hI2 hQ2 (he1.trans hex) hP2 (he2.trans hey) hS2 hl
