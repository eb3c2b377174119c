set_option maxHeartbeats 4000000 in
set_option maxRecDepth 100000 in
theorem law_bow {p : Program} {e : Env} {s : State} {m : MethodId} {below : List Frame} {meth : Method} {c : Code} (l : Launch) {b L : Nat} {xs : Nat → Int32} (C0 : lw_At p s m meth c b L xs) {A : Nat → Prop} (hAe : A = fun q : Nat => s.heap.size ≤ q) (hE : q_ex A s s.heap) (dC : Nat → ClassId) (dI : Nat → Nat → Nat) {nc ns : Nat} (hnc : nc ≤ 600000) (hns : ns ≤ 7302250) {x y : Nat} {a1 a2 : List Nat} {tx ty : List (ClassId × FieldType)} (hKx : va_K (dC, dI) vwCl tx s) (hKy : va_K (dC, dI) vwCl ty s) (hDx : q_DA A a1) (hDy : q_DA A a2) (hd1 : ∀ q ∈ a1, q ∉ a2) (hd2 : ∀ q ∈ a2, q ∉ a1) (i : Int32) (hi0 : 0 ≤ i.toInt) (hi6 : i.toInt + 6 ≤ L) (hL : L ≤ 3072) (tm : Int32) (wx wy : va_W) (H : Heap) (locs : List Loc) (ls : Array Slot) (hIx : IX x tm wx tx) (hIy : IM y tm wy ty) (hPx : va_P (dC, dI) vwCl wx H) (hex : wx.map Prod.fst = a1) (hPy : va_P (dC, dI) vwCl wy H) (hey : wy.map Prod.fst = a2) (hS : va_S A s.heap H locs) (hl : lv_has ls 4 [(3, .int i), (2, .ref y), (1, .ref x), (0, .ref b)]) (kk : ∀ (tm : Int32) (wx wy : va_W) (H : Heap) (locs : List Loc) (ls : Array Slot) (hIx : IX x tm wx tx) (hIy : IM y tm wy ty) (hPx : va_P (dC, dI) vwCl wx H) (hex : wx.map Prod.fst = a1) (hPy : va_P (dC, dI) vwCl wy H) (hey : wy.map Prod.fst = a2) (hS : va_S A s.heap H locs) (hl : lv_has ls 4 [(3, .int i), (2, .ref y), (1, .ref x), (0, .ref b)]), W p l e room_1 s m #[Value.ref b] below meth c H locs nc ns (lw_Z below #[Value.ref b] s) (F0 m 1382 ls [])) : W p l e room_1 s m #[Value.ref b] below meth c H locs nc ns (lw_Z below #[Value.ref b] s) (F0 m 420 ls []) := by
  obtain ⟨hx, hb, hr, hml, hown, hts, hX, hbl, hlocks, hgv⟩ := id C0
  have hown : s.vm.findClass RL = some m.cls := hown
  have hA : ∀ q : Nat, s.heap.size ≤ q → A q := by rw [hAe]; exact fun _ h => h
  have hbA : ¬ A b := by rw [hAe]; exact Nat.not_le.mpr hbl
  have lt_1 : (1 : Int32).toInt = 1 := by decide
  have m_1 : (.methodLink RL 49 yX8_bow : Cond) ∈ lw_tbl := q_w (n := 802) (by decide +kernel)
  have m_2 : (.instanceMethod yX8_bow : Cond) ∈ lw_tbl := q_w (n := 803) (by decide +kernel)
  have m_3 : (.selects RX8 yX8_bow yX8_bow : Cond) ∈ lw_tbl := q_w (n := 804) (by decide +kernel)
  have m_4 : (.initialized RX8 : Cond) ∈ lw_tbl := q_w (n := 104) (by decide +kernel)
  have m_5 : (.methodLink RL 52 yX9_bow : Cond) ∈ lw_tbl := q_w (n := 1506) (by decide +kernel)
  have m_6 : (.instanceMethod yX9_bow : Cond) ∈ lw_tbl := q_w (n := 1507) (by decide +kernel)
  have m_7 : (.selects RX9 yX9_bow yX9_bow : Cond) ∈ lw_tbl := q_w (n := 1508) (by decide +kernel)
  have m_8 : (.initialized RX9 : Cond) ∈ lw_tbl := q_w (n := 116) (by decide +kernel)
  refine lv_aload_n hx hb dL_law_420 rfl (lv_at hl 2 rfl) ?_
  refine lv_aload_n hx hb dL_law_421 rfl (lv_at hl 3 rfl) ?_
  refine lv_iload_n hx hb dL_law_422 rfl (lv_at hl 0 rfl) ?_
  refine lv_iconst (v := 1) hx hb dL_law_423 (by decide) ?_
  refine lv_iadd hx hb dL_law_424 (lv_topi fun v1 ev1 => ?_)
  have tv1 := q_add ev1 (by omega) (by omega)
  refine va_sld hx hb hX hbl hbA hS (q_in (by omega) (by omega)) dL_law_425 (lv_topi fun v2 ev2 => ?_)
  refine q_cL (As := [.int v2]) (rest := []) q_exw hE hKx hPx hex hPy hey hDx hd1 hS hA ⟨hx, hb, hml, hown, hts⟩ (F_t_bow l dC dI _ hIx v2) (cwV 1 hts (p1_gV m_1 m_2 m_3 m_4 iz_t_bow gz_t_bow) rfl rfl rfl (by decide +kernel) ⟨by decide, by decide⟩) (hIx.recv hKx hPx) rfl hl.1 rfl (Nat.le_of_ble_eq_true rfl) dL_law_426 ⟨by show nc ≤ 600000; omega, by show ns ≤ 7302250; omega⟩ (fun r1 H1 lo1 t1 ht1 hg1 hQ1 hS1 => ?_)
  obtain ⟨w1, hI1, hP1, he1⟩ := hg1
  rw [ht1] at hP1
  refine lv_pop hx hb dL_law_429 rfl ?_
  refine lv_aload_n hx hb dL_law_430 rfl (lv_at hl 1 rfl) ?_
  refine lv_aload_n hx hb dL_law_431 rfl (lv_at hl 3 rfl) ?_
  refine lv_iload_n hx hb dL_law_432 rfl (lv_at hl 0 rfl) ?_
  refine lv_iconst (v := 1) hx hb dL_law_433 (by decide) ?_
  refine lv_iadd hx hb dL_law_434 (lv_topi fun v3 ev3 => ?_)
  have tv3 := q_add ev3 (by omega) (by omega)
  refine va_sld hx hb hX hbl hbA hS1 (q_in (by omega) (by omega)) dL_law_435 (lv_topi fun v4 ev4 => ?_)
  refine q_cL (As := [.int v4]) (rest := []) q_exw hE hKy hQ1 hey hP1 (he1.trans hex) hDy hd2 hS1 hA ⟨hx, hb, hml, hown, hts⟩ (F_r_bow l dC dI _ hIy v4) (cwV 1 hts (p1_gV m_5 m_6 m_7 m_8 iz_r_bow gz_r_bow) rfl rfl rfl (by decide +kernel) ⟨by decide, by decide⟩) (hIy.recv hKy hQ1) rfl hl.1 rfl (Nat.le_of_ble_eq_true rfl) dL_law_436 ⟨by show nc ≤ 600000; omega, by show ns ≤ 7302250; omega⟩ (fun r2 H2 lo2 t2 ht2 hg2 hQ2 hS2 => ?_)
  obtain ⟨w2, hI2, hP2, he2⟩ := hg2
  rw [ht2] at hP2
  refine lv_pop hx hb dL_law_439 rfl ?_
  refine lv_goto (tgt := 1382) hx hb dL_law_440 (by decide) ?_
  exact kk tm w1 w2 H2 _ ls hI1 hI2 hQ2 (he1.trans hex) hP2 (he2.trans hey) hS2 hl
set_option maxHeartbeats 4000000 in
set_option maxRecDepth 100000 in
theorem law_holds {p : Program} {e : Env} {s : State} {m : MethodId} {below : List Frame} {meth : Method} {c : Code} (l : Launch) {b L : Nat} {xs : Nat → Int32} (C0 : lw_At p s m meth c b L xs) {A : Nat → Prop} (hAe : A = fun q : Nat => s.heap.size ≤ q) (hE : q_ex A s s.heap) (dC : Nat → ClassId) (dI : Nat → Nat → Nat) {nc ns : Nat} (hnc : nc ≤ 600000) (hns : ns ≤ 7302250) {x y : Nat} {a1 a2 : List Nat} {tx ty : List (ClassId × FieldType)} (hKx : va_K (dC, dI) vwCl tx s) (hKy : va_K (dC, dI) vwCl ty s) (hDx : q_DA A a1) (hDy : q_DA A a2) (hd1 : ∀ q ∈ a1, q ∉ a2) (hd2 : ∀ q ∈ a2, q ∉ a1) (i : Int32) (hi0 : 0 ≤ i.toInt) (hi6 : i.toInt + 6 ≤ L) (hL : L ≤ 3072) (tm : Int32) (wx wy : va_W) (H : Heap) (locs : List Loc) (ls : Array Slot) (hIx : IX x tm wx tx) (hIy : IM y tm wy ty) (hPx : va_P (dC, dI) vwCl wx H) (hex : wx.map Prod.fst = a1) (hPy : va_P (dC, dI) vwCl wy H) (hey : wy.map Prod.fst = a2) (hS : va_S A s.heap H locs) (hl : lv_has ls 4 [(3, .int i), (2, .ref y), (1, .ref x), (0, .ref b)]) (kk : ∀ (tm : Int32) (wx wy : va_W) (H : Heap) (locs : List Loc) (ls : Array Slot) (hIx : IX x tm wx tx) (hIy : IM y tm wy ty) (hPx : va_P (dC, dI) vwCl wx H) (hex : wx.map Prod.fst = a1) (hPy : va_P (dC, dI) vwCl wy H) (hey : wy.map Prod.fst = a2) (hS : va_S A s.heap H locs) (hl : lv_has ls 4 [(3, .int i), (2, .ref y), (1, .ref x), (0, .ref b)]), W p l e room_1 s m #[Value.ref b] below meth c H locs nc ns (lw_Z below #[Value.ref b] s) (F0 m 1382 ls [])) : W p l e room_1 s m #[Value.ref b] below meth c H locs nc ns (lw_Z below #[Value.ref b] s) (F0 m 443 ls []) := by
  obtain ⟨hx, hb, hr, hml, hown, hts, hX, hbl, hlocks, hgv⟩ := id C0
  have hown : s.vm.findClass RL = some m.cls := hown
  have hA : ∀ q : Nat, s.heap.size ≤ q → A q := by rw [hAe]; exact fun _ h => h
  have hbA : ¬ A b := by rw [hAe]; exact Nat.not_le.mpr hbl
  have lt_1 : (1 : Int32).toInt = 1 := by decide
  have lt_2 : (2 : Int32).toInt = 2 := by decide
  have lt_3 : (3 : Int32).toInt = 3 := by decide
  have lt_4 : (4 : Int32).toInt = 4 := by decide
  have m_1 : (.methodLink RL 53 yX8_holds : Cond) ∈ lw_tbl := q_w (n := 806) (by decide +kernel)
  have m_2 : (.instanceMethod yX8_holds : Cond) ∈ lw_tbl := q_w (n := 807) (by decide +kernel)
  have m_3 : (.selects RX8 yX8_holds yX8_holds : Cond) ∈ lw_tbl := q_w (n := 808) (by decide +kernel)
  have m_4 : (.initialized RX8 : Cond) ∈ lw_tbl := q_w (n := 104) (by decide +kernel)
  have m_5 : (.methodLink RL 57 yX9_holds : Cond) ∈ lw_tbl := q_w (n := 1514) (by decide +kernel)
  have m_6 : (.instanceMethod yX9_holds : Cond) ∈ lw_tbl := q_w (n := 1515) (by decide +kernel)
  have m_7 : (.selects RX9 yX9_holds yX9_holds : Cond) ∈ lw_tbl := q_w (n := 1516) (by decide +kernel)
  have m_8 : (.initialized RX9 : Cond) ∈ lw_tbl := q_w (n := 116) (by decide +kernel)
  refine lv_aload_n hx hb dL_law_443 rfl (lv_at hl 2 rfl) ?_
  refine lv_aload_n hx hb dL_law_444 rfl (lv_at hl 3 rfl) ?_
  refine lv_iload_n hx hb dL_law_445 rfl (lv_at hl 0 rfl) ?_
  refine lv_iconst (v := 1) hx hb dL_law_446 (by decide) ?_
  refine lv_iadd hx hb dL_law_447 (lv_topi fun v1 ev1 => ?_)
  have tv1 := q_add ev1 (by omega) (by omega)
  refine va_sld hx hb hX hbl hbA hS (q_in (by omega) (by omega)) dL_law_448 (lv_topi fun v2 ev2 => ?_)
  refine lv_aload_n hx hb dL_law_449 rfl (lv_at hl 3 rfl) ?_
  refine lv_iload_n hx hb dL_law_450 rfl (lv_at hl 0 rfl) ?_
  refine lv_iconst (v := 2) hx hb dL_law_451 (by decide) ?_
  refine lv_iadd hx hb dL_law_452 (lv_topi fun v3 ev3 => ?_)
  have tv3 := q_add ev3 (by omega) (by omega)
  refine va_sld hx hb hX hbl hbA hS (q_in (by omega) (by omega)) dL_law_453 (lv_topi fun v4 ev4 => ?_)
  refine lv_aload_n hx hb dL_law_454 rfl (lv_at hl 3 rfl) ?_
  refine lv_iload_n hx hb dL_law_455 rfl (lv_at hl 0 rfl) ?_
  refine lv_iconst (v := 3) hx hb dL_law_456 (by decide) ?_
  refine lv_iadd hx hb dL_law_457 (lv_topi fun v5 ev5 => ?_)
  have tv5 := q_add ev5 (by omega) (by omega)
  refine va_sld hx hb hX hbl hbA hS (q_in (by omega) (by omega)) dL_law_458 (lv_topi fun v6 ev6 => ?_)
  refine lv_aload_n hx hb dL_law_459 rfl (lv_at hl 3 rfl) ?_
  refine lv_iload_n hx hb dL_law_460 rfl (lv_at hl 0 rfl) ?_
  refine lv_iconst (v := 4) hx hb dL_law_461 (by decide) ?_
  refine lv_iadd hx hb dL_law_462 (lv_topi fun v7 ev7 => ?_)
  have tv7 := q_add ev7 (by omega) (by omega)
  refine va_sld hx hb hX hbl hbA hS (q_in (by omega) (by omega)) dL_law_463 (lv_topi fun v8 ev8 => ?_)
  refine q_cL (As := [.int v2, .int v4, .int v6, .int v8]) (rest := []) q_exw hE hKx hPx hex hPy hey hDx hd1 hS hA ⟨hx, hb, hml, hown, hts⟩ (F_t_holds l dC dI _ hIx v2 v4 v6 v8) (cwV 4 hts (p1_gV m_1 m_2 m_3 m_4 iz_t_holds gz_t_holds) rfl rfl rfl (by decide +kernel) ⟨by decide, by decide⟩) (hIx.recv hKx hPx) rfl hl.1 rfl (Nat.le_of_ble_eq_true rfl) dL_law_464 ⟨by show nc ≤ 600000; omega, by show ns ≤ 7302250; omega⟩ (fun r1 H1 lo1 t1 ht1 hg1 hQ1 hS1 => ?_)
  obtain ⟨w1, hI1, hP1, he1⟩ := hg1
  rw [ht1] at hP1
  refine lv_pop hx hb dL_law_467 rfl ?_
  refine lv_aload_n hx hb dL_law_468 rfl (lv_at hl 1 rfl) ?_
  refine lv_aload_n hx hb dL_law_469 rfl (lv_at hl 3 rfl) ?_
  refine lv_iload_n hx hb dL_law_470 rfl (lv_at hl 0 rfl) ?_
  refine lv_iconst (v := 1) hx hb dL_law_471 (by decide) ?_
  refine lv_iadd hx hb dL_law_472 (lv_topi fun v9 ev9 => ?_)
  have tv9 := q_add ev9 (by omega) (by omega)
  refine va_sld hx hb hX hbl hbA hS1 (q_in (by omega) (by omega)) dL_law_473 (lv_topi fun v10 ev10 => ?_)
  refine lv_aload_n hx hb dL_law_474 rfl (lv_at hl 3 rfl) ?_
  refine lv_iload_n hx hb dL_law_475 rfl (lv_at hl 0 rfl) ?_
  refine lv_iconst (v := 2) hx hb dL_law_476 (by decide) ?_
  refine lv_iadd hx hb dL_law_477 (lv_topi fun v11 ev11 => ?_)
  have tv11 := q_add ev11 (by omega) (by omega)
  refine va_sld hx hb hX hbl hbA hS1 (q_in (by omega) (by omega)) dL_law_478 (lv_topi fun v12 ev12 => ?_)
  refine lv_aload_n hx hb dL_law_479 rfl (lv_at hl 3 rfl) ?_
  refine lv_iload_n hx hb dL_law_480 rfl (lv_at hl 0 rfl) ?_
  refine lv_iconst (v := 3) hx hb dL_law_481 (by decide) ?_
  refine lv_iadd hx hb dL_law_482 (lv_topi fun v13 ev13 => ?_)
  have tv13 := q_add ev13 (by omega) (by omega)
  refine va_sld hx hb hX hbl hbA hS1 (q_in (by omega) (by omega)) dL_law_483 (lv_topi fun v14 ev14 => ?_)
  refine lv_aload_n hx hb dL_law_484 rfl (lv_at hl 3 rfl) ?_
  refine lv_iload_n hx hb dL_law_485 rfl (lv_at hl 0 rfl) ?_
  refine lv_iconst (v := 4) hx hb dL_law_486 (by decide) ?_
  refine lv_iadd hx hb dL_law_487 (lv_topi fun v15 ev15 => ?_)
  have tv15 := q_add ev15 (by omega) (by omega)
  refine va_sld hx hb hX hbl hbA hS1 (q_in (by omega) (by omega)) dL_law_488 (lv_topi fun v16 ev16 => ?_)
  refine q_cL (As := [.int v10, .int v12, .int v14, .int v16]) (rest := []) q_exw hE hKy hQ1 hey hP1 (he1.trans hex) hDy hd2 hS1 hA ⟨hx, hb, hml, hown, hts⟩ (F_r_holds l dC dI _ hIy v10 v12 v14 v16) (cwV 4 hts (p1_gV m_5 m_6 m_7 m_8 iz_r_holds gz_r_holds) rfl rfl rfl (by decide +kernel) ⟨by decide, by decide⟩) (hIy.recv hKy hQ1) rfl hl.1 rfl (Nat.le_of_ble_eq_true rfl) dL_law_489 ⟨by show nc ≤ 600000; omega, by show ns ≤ 7302250; omega⟩ (fun r2 H2 lo2 t2 ht2 hg2 hQ2 hS2 => ?_)
  obtain ⟨w2, hI2, hP2, he2⟩ := hg2
  rw [ht2] at hP2
  refine lv_pop hx hb dL_law_492 rfl ?_
  refine lv_goto (tgt := 1382) hx hb dL_law_493 (by decide) ?_
  exact kk tm w1 w2 H2 _ ls hI1 hI2 hQ2 (he1.trans hex) hP2 (he2.trans hey) hS2 hl
set_option maxHeartbeats 4000000 in
set_option maxRecDepth 100000 in
theorem law_begins {p : Program} {e : Env} {s : State} {m : MethodId} {below : List Frame} {meth : Method} {c : Code} (l : Launch) {b L : Nat} {xs : Nat → Int32} (C0 : lw_At p s m meth c b L xs) {A : Nat → Prop} (hAe : A = fun q : Nat => s.heap.size ≤ q) (hE : q_ex A s s.heap) (dC : Nat → ClassId) (dI : Nat → Nat → Nat) {nc ns : Nat} (hnc : nc ≤ 600000) (hns : ns ≤ 7302250) {x y : Nat} {a1 a2 : List Nat} {tx ty : List (ClassId × FieldType)} (hKx : va_K (dC, dI) vwCl tx s) (hKy : va_K (dC, dI) vwCl ty s) (hDx : q_DA A a1) (hDy : q_DA A a2) (hd1 : ∀ q ∈ a1, q ∉ a2) (hd2 : ∀ q ∈ a2, q ∉ a1) (i : Int32) (hi0 : 0 ≤ i.toInt) (hi6 : i.toInt + 6 ≤ L) (hL : L ≤ 3072) (tm : Int32) (wx wy : va_W) (H : Heap) (locs : List Loc) (ls : Array Slot) (hIx : IX x tm wx tx) (hIy : IM y tm wy ty) (hPx : va_P (dC, dI) vwCl wx H) (hex : wx.map Prod.fst = a1) (hPy : va_P (dC, dI) vwCl wy H) (hey : wy.map Prod.fst = a2) (hS : va_S A s.heap H locs) (hl : lv_has ls 4 [(3, .int i), (2, .ref y), (1, .ref x), (0, .ref b)]) (kk : ∀ (tm : Int32) (wx wy : va_W) (H : Heap) (locs : List Loc) (ls : Array Slot) (hIx : IX x tm wx tx) (hIy : IM y tm wy ty) (hPx : va_P (dC, dI) vwCl wx H) (hex : wx.map Prod.fst = a1) (hPy : va_P (dC, dI) vwCl wy H) (hey : wy.map Prod.fst = a2) (hS : va_S A s.heap H locs) (hl : lv_has ls 4 [(3, .int i), (2, .ref y), (1, .ref x), (0, .ref b)]), W p l e room_1 s m #[Value.ref b] below meth c H locs nc ns (lw_Z below #[Value.ref b] s) (F0 m 1382 ls [])) : W p l e room_1 s m #[Value.ref b] below meth c H locs nc ns (lw_Z below #[Value.ref b] s) (F0 m 496 ls []) := by
  obtain ⟨hx, hb, hr, hml, hown, hts, hX, hbl, hlocks, hgv⟩ := id C0
  have hown : s.vm.findClass RL = some m.cls := hown
  have hA : ∀ q : Nat, s.heap.size ≤ q → A q := by rw [hAe]; exact fun _ h => h
  have hbA : ¬ A b := by rw [hAe]; exact Nat.not_le.mpr hbl
  have lt_1 : (1 : Int32).toInt = 1 := by decide
  have lt_2 : (2 : Int32).toInt = 2 := by decide
  have lt_3 : (3 : Int32).toInt = 3 := by decide
  have m_1 : (.methodLink RL 58 yX8_begins : Cond) ∈ lw_tbl := q_w (n := 849) (by decide +kernel)
  have m_2 : (.instanceMethod yX8_begins : Cond) ∈ lw_tbl := q_w (n := 850) (by decide +kernel)
  have m_3 : (.selects RX8 yX8_begins yX8_begins : Cond) ∈ lw_tbl := q_w (n := 851) (by decide +kernel)
  have m_4 : (.initialized RX8 : Cond) ∈ lw_tbl := q_w (n := 104) (by decide +kernel)
  have m_5 : (.methodLink RL 62 yX9_begins : Cond) ∈ lw_tbl := q_w (n := 1558) (by decide +kernel)
  have m_6 : (.instanceMethod yX9_begins : Cond) ∈ lw_tbl := q_w (n := 1559) (by decide +kernel)
  have m_7 : (.selects RX9 yX9_begins yX9_begins : Cond) ∈ lw_tbl := q_w (n := 1560) (by decide +kernel)
  have m_8 : (.initialized RX9 : Cond) ∈ lw_tbl := q_w (n := 116) (by decide +kernel)
  refine lv_aload_n hx hb dL_law_496 rfl (lv_at hl 2 rfl) ?_
  refine lv_aload_n hx hb dL_law_497 rfl (lv_at hl 3 rfl) ?_
  refine lv_iload_n hx hb dL_law_498 rfl (lv_at hl 0 rfl) ?_
  refine lv_iconst (v := 1) hx hb dL_law_499 (by decide) ?_
  refine lv_iadd hx hb dL_law_500 (lv_topi fun v1 ev1 => ?_)
  have tv1 := q_add ev1 (by omega) (by omega)
  refine va_sld hx hb hX hbl hbA hS (q_in (by omega) (by omega)) dL_law_501 (lv_topi fun v2 ev2 => ?_)
  refine lv_aload_n hx hb dL_law_502 rfl (lv_at hl 3 rfl) ?_
  refine lv_iload_n hx hb dL_law_503 rfl (lv_at hl 0 rfl) ?_
  refine lv_iconst (v := 2) hx hb dL_law_504 (by decide) ?_
  refine lv_iadd hx hb dL_law_505 (lv_topi fun v3 ev3 => ?_)
  have tv3 := q_add ev3 (by omega) (by omega)
  refine va_sld hx hb hX hbl hbA hS (q_in (by omega) (by omega)) dL_law_506 (lv_topi fun v4 ev4 => ?_)
  refine lv_aload_n hx hb dL_law_507 rfl (lv_at hl 3 rfl) ?_
  refine lv_iload_n hx hb dL_law_508 rfl (lv_at hl 0 rfl) ?_
  refine lv_iconst (v := 3) hx hb dL_law_509 (by decide) ?_
  refine lv_iadd hx hb dL_law_510 (lv_topi fun v5 ev5 => ?_)
  have tv5 := q_add ev5 (by omega) (by omega)
  refine va_sld hx hb hX hbl hbA hS (q_in (by omega) (by omega)) dL_law_511 (lv_topi fun v6 ev6 => ?_)
  refine q_cL (As := [.int v2, .int v4, .int v6]) (rest := []) q_exw hE hKx hPx hex hPy hey hDx hd1 hS hA ⟨hx, hb, hml, hown, hts⟩ (F_t_begins l dC dI _ hIx v2 v4 v6) (cwV 3 hts (p1_gV m_1 m_2 m_3 m_4 iz_t_begins gz_t_begins) rfl rfl rfl (by decide +kernel) ⟨by decide, by decide⟩) (hIx.recv hKx hPx) rfl hl.1 rfl (Nat.le_of_ble_eq_true rfl) dL_law_512 ⟨by show nc ≤ 600000; omega, by show ns ≤ 7302250; omega⟩ (fun r1 H1 lo1 t1 ht1 hg1 hQ1 hS1 => ?_)
  obtain ⟨w1, hI1, hP1, he1⟩ := hg1
  rw [ht1] at hP1
  refine lv_pop hx hb dL_law_515 rfl ?_
  refine lv_aload_n hx hb dL_law_516 rfl (lv_at hl 1 rfl) ?_
  refine lv_aload_n hx hb dL_law_517 rfl (lv_at hl 3 rfl) ?_
  refine lv_iload_n hx hb dL_law_518 rfl (lv_at hl 0 rfl) ?_
  refine lv_iconst (v := 1) hx hb dL_law_519 (by decide) ?_
  refine lv_iadd hx hb dL_law_520 (lv_topi fun v7 ev7 => ?_)
  have tv7 := q_add ev7 (by omega) (by omega)
  refine va_sld hx hb hX hbl hbA hS1 (q_in (by omega) (by omega)) dL_law_521 (lv_topi fun v8 ev8 => ?_)
  refine lv_aload_n hx hb dL_law_522 rfl (lv_at hl 3 rfl) ?_
  refine lv_iload_n hx hb dL_law_523 rfl (lv_at hl 0 rfl) ?_
  refine lv_iconst (v := 2) hx hb dL_law_524 (by decide) ?_
  refine lv_iadd hx hb dL_law_525 (lv_topi fun v9 ev9 => ?_)
  have tv9 := q_add ev9 (by omega) (by omega)
  refine va_sld hx hb hX hbl hbA hS1 (q_in (by omega) (by omega)) dL_law_526 (lv_topi fun v10 ev10 => ?_)
  refine lv_aload_n hx hb dL_law_527 rfl (lv_at hl 3 rfl) ?_
  refine lv_iload_n hx hb dL_law_528 rfl (lv_at hl 0 rfl) ?_
  refine lv_iconst (v := 3) hx hb dL_law_529 (by decide) ?_
  refine lv_iadd hx hb dL_law_530 (lv_topi fun v11 ev11 => ?_)
  have tv11 := q_add ev11 (by omega) (by omega)
  refine va_sld hx hb hX hbl hbA hS1 (q_in (by omega) (by omega)) dL_law_531 (lv_topi fun v12 ev12 => ?_)
  refine q_cL (As := [.int v8, .int v10, .int v12]) (rest := []) q_exw hE hKy hQ1 hey hP1 (he1.trans hex) hDy hd2 hS1 hA ⟨hx, hb, hml, hown, hts⟩ (F_r_begins l dC dI _ hIy v8 v10 v12) (cwV 3 hts (p1_gV m_5 m_6 m_7 m_8 iz_r_begins gz_r_begins) rfl rfl rfl (by decide +kernel) ⟨by decide, by decide⟩) (hIy.recv hKy hQ1) rfl hl.1 rfl (Nat.le_of_ble_eq_true rfl) dL_law_532 ⟨by show nc ≤ 600000; omega, by show ns ≤ 7302250; omega⟩ (fun r2 H2 lo2 t2 ht2 hg2 hQ2 hS2 => ?_)
  obtain ⟨w2, hI2, hP2, he2⟩ := hg2
  rw [ht2] at hP2
  refine lv_pop hx hb dL_law_535 rfl ?_
  refine lv_goto (tgt := 1382) hx hb dL_law_536 (by decide) ?_
  exact kk tm w1 w2 H2 _ ls hI1 hI2 hQ2 (he1.trans hex) hP2 (he2.trans hey) hS2 hl
set_option maxHeartbeats 4000000 in
set_option maxRecDepth 100000 in
theorem law_alone {p : Program} {e : Env} {s : State} {m : MethodId} {below : List Frame} {meth : Method} {c : Code} (l : Launch) {b L : Nat} {xs : Nat → Int32} (C0 : lw_At p s m meth c b L xs) {A : Nat → Prop} (hAe : A = fun q : Nat => s.heap.size ≤ q) (hE : q_ex A s s.heap) (dC : Nat → ClassId) (dI : Nat → Nat → Nat) {nc ns : Nat} (hnc : nc ≤ 600000) (hns : ns ≤ 7302250) {x y : Nat} {a1 a2 : List Nat} {tx ty : List (ClassId × FieldType)} (hKx : va_K (dC, dI) vwCl tx s) (hKy : va_K (dC, dI) vwCl ty s) (hDx : q_DA A a1) (hDy : q_DA A a2) (hd1 : ∀ q ∈ a1, q ∉ a2) (hd2 : ∀ q ∈ a2, q ∉ a1) (i : Int32) (hi0 : 0 ≤ i.toInt) (hi6 : i.toInt + 6 ≤ L) (hL : L ≤ 3072) (tm : Int32) (wx wy : va_W) (H : Heap) (locs : List Loc) (ls : Array Slot) (hIx : IX x tm wx tx) (hIy : IM y tm wy ty) (hPx : va_P (dC, dI) vwCl wx H) (hex : wx.map Prod.fst = a1) (hPy : va_P (dC, dI) vwCl wy H) (hey : wy.map Prod.fst = a2) (hS : va_S A s.heap H locs) (hl : lv_has ls 4 [(3, .int i), (2, .ref y), (1, .ref x), (0, .ref b)]) (kk : ∀ (tm : Int32) (wx wy : va_W) (H : Heap) (locs : List Loc) (ls : Array Slot) (hIx : IX x tm wx tx) (hIy : IM y tm wy ty) (hPx : va_P (dC, dI) vwCl wx H) (hex : wx.map Prod.fst = a1) (hPy : va_P (dC, dI) vwCl wy H) (hey : wy.map Prod.fst = a2) (hS : va_S A s.heap H locs) (hl : lv_has ls 4 [(3, .int i), (2, .ref y), (1, .ref x), (0, .ref b)]), W p l e room_1 s m #[Value.ref b] below meth c H locs nc ns (lw_Z below #[Value.ref b] s) (F0 m 1382 ls [])) : W p l e room_1 s m #[Value.ref b] below meth c H locs nc ns (lw_Z below #[Value.ref b] s) (F0 m 539 ls []) := by
  obtain ⟨hx, hb, hr, hml, hown, hts, hX, hbl, hlocks, hgv⟩ := id C0
  have hown : s.vm.findClass RL = some m.cls := hown
  have hA : ∀ q : Nat, s.heap.size ≤ q → A q := by rw [hAe]; exact fun _ h => h
  have hbA : ¬ A b := by rw [hAe]; exact Nat.not_le.mpr hbl
  have lt_1 : (1 : Int32).toInt = 1 := by decide
  have lt_2 : (2 : Int32).toInt = 2 := by decide
  have lt_3 : (3 : Int32).toInt = 3 := by decide
  have lt_4 : (4 : Int32).toInt = 4 := by decide
  have m_1 : (.methodLink RL 63 yX8_alone : Cond) ∈ lw_tbl := q_w (n := 857) (by decide +kernel)
  have m_2 : (.instanceMethod yX8_alone : Cond) ∈ lw_tbl := q_w (n := 858) (by decide +kernel)
  have m_3 : (.selects RX8 yX8_alone yX8_alone : Cond) ∈ lw_tbl := q_w (n := 859) (by decide +kernel)
  have m_4 : (.initialized RX8 : Cond) ∈ lw_tbl := q_w (n := 104) (by decide +kernel)
  have m_5 : (.methodLink RL 66 yX9_alone : Cond) ∈ lw_tbl := q_w (n := 1562) (by decide +kernel)
  have m_6 : (.instanceMethod yX9_alone : Cond) ∈ lw_tbl := q_w (n := 1563) (by decide +kernel)
  have m_7 : (.selects RX9 yX9_alone yX9_alone : Cond) ∈ lw_tbl := q_w (n := 1564) (by decide +kernel)
  have m_8 : (.initialized RX9 : Cond) ∈ lw_tbl := q_w (n := 116) (by decide +kernel)
  refine lv_aload_n hx hb dL_law_539 rfl (lv_at hl 2 rfl) ?_
  refine lv_aload_n hx hb dL_law_540 rfl (lv_at hl 3 rfl) ?_
  refine lv_iload_n hx hb dL_law_541 rfl (lv_at hl 0 rfl) ?_
  refine lv_iconst (v := 1) hx hb dL_law_542 (by decide) ?_
  refine lv_iadd hx hb dL_law_543 (lv_topi fun v1 ev1 => ?_)
  have tv1 := q_add ev1 (by omega) (by omega)
  refine va_sld hx hb hX hbl hbA hS (q_in (by omega) (by omega)) dL_law_544 (lv_topi fun v2 ev2 => ?_)
  refine lv_aload_n hx hb dL_law_545 rfl (lv_at hl 3 rfl) ?_
  refine lv_iload_n hx hb dL_law_546 rfl (lv_at hl 0 rfl) ?_
  refine lv_iconst (v := 2) hx hb dL_law_547 (by decide) ?_
  refine lv_iadd hx hb dL_law_548 (lv_topi fun v3 ev3 => ?_)
  have tv3 := q_add ev3 (by omega) (by omega)
  refine va_sld hx hb hX hbl hbA hS (q_in (by omega) (by omega)) dL_law_549 (lv_topi fun v4 ev4 => ?_)
  refine lv_aload_n hx hb dL_law_550 rfl (lv_at hl 3 rfl) ?_
  refine lv_iload_n hx hb dL_law_551 rfl (lv_at hl 0 rfl) ?_
  refine lv_iconst (v := 3) hx hb dL_law_552 (by decide) ?_
  refine lv_iadd hx hb dL_law_553 (lv_topi fun v5 ev5 => ?_)
  have tv5 := q_add ev5 (by omega) (by omega)
  refine va_sld hx hb hX hbl hbA hS (q_in (by omega) (by omega)) dL_law_554 (lv_topi fun v6 ev6 => ?_)
  refine lv_aload_n hx hb dL_law_555 rfl (lv_at hl 3 rfl) ?_
  refine lv_iload_n hx hb dL_law_556 rfl (lv_at hl 0 rfl) ?_
  refine lv_iconst (v := 4) hx hb dL_law_557 (by decide) ?_
  refine lv_iadd hx hb dL_law_558 (lv_topi fun v7 ev7 => ?_)
  have tv7 := q_add ev7 (by omega) (by omega)
  refine va_sld hx hb hX hbl hbA hS (q_in (by omega) (by omega)) dL_law_559 (lv_topi fun v8 ev8 => ?_)
  refine q_cL (As := [.int v2, .int v4, .int v6, .int v8]) (rest := []) q_exw hE hKx hPx hex hPy hey hDx hd1 hS hA ⟨hx, hb, hml, hown, hts⟩ (F_t_alone l dC dI _ hIx v2 v4 v6 v8) (cwV 4 hts (p1_gV m_1 m_2 m_3 m_4 iz_t_alone gz_t_alone) rfl rfl rfl (by decide +kernel) ⟨by decide, by decide⟩) (hIx.recv hKx hPx) rfl hl.1 rfl (Nat.le_of_ble_eq_true rfl) dL_law_560 ⟨by show nc ≤ 600000; omega, by show ns ≤ 7302250; omega⟩ (fun r1 H1 lo1 t1 ht1 hg1 hQ1 hS1 => ?_)
  obtain ⟨w1, hI1, hP1, he1⟩ := hg1
  rw [ht1] at hP1
  refine lv_pop hx hb dL_law_563 rfl ?_
  refine lv_aload_n hx hb dL_law_564 rfl (lv_at hl 1 rfl) ?_
  refine lv_aload_n hx hb dL_law_565 rfl (lv_at hl 3 rfl) ?_
  refine lv_iload_n hx hb dL_law_566 rfl (lv_at hl 0 rfl) ?_
  refine lv_iconst (v := 1) hx hb dL_law_567 (by decide) ?_
  refine lv_iadd hx hb dL_law_568 (lv_topi fun v9 ev9 => ?_)
  have tv9 := q_add ev9 (by omega) (by omega)
  refine va_sld hx hb hX hbl hbA hS1 (q_in (by omega) (by omega)) dL_law_569 (lv_topi fun v10 ev10 => ?_)
  refine lv_aload_n hx hb dL_law_570 rfl (lv_at hl 3 rfl) ?_
  refine lv_iload_n hx hb dL_law_571 rfl (lv_at hl 0 rfl) ?_
  refine lv_iconst (v := 2) hx hb dL_law_572 (by decide) ?_
  refine lv_iadd hx hb dL_law_573 (lv_topi fun v11 ev11 => ?_)
  have tv11 := q_add ev11 (by omega) (by omega)
  refine va_sld hx hb hX hbl hbA hS1 (q_in (by omega) (by omega)) dL_law_574 (lv_topi fun v12 ev12 => ?_)
  refine lv_aload_n hx hb dL_law_575 rfl (lv_at hl 3 rfl) ?_
  refine lv_iload_n hx hb dL_law_576 rfl (lv_at hl 0 rfl) ?_
  refine lv_iconst (v := 3) hx hb dL_law_577 (by decide) ?_
  refine lv_iadd hx hb dL_law_578 (lv_topi fun v13 ev13 => ?_)
  have tv13 := q_add ev13 (by omega) (by omega)
  refine va_sld hx hb hX hbl hbA hS1 (q_in (by omega) (by omega)) dL_law_579 (lv_topi fun v14 ev14 => ?_)
  refine lv_aload_n hx hb dL_law_580 rfl (lv_at hl 3 rfl) ?_
  refine lv_iload_n hx hb dL_law_581 rfl (lv_at hl 0 rfl) ?_
  refine lv_iconst (v := 4) hx hb dL_law_582 (by decide) ?_
  refine lv_iadd hx hb dL_law_583 (lv_topi fun v15 ev15 => ?_)
  have tv15 := q_add ev15 (by omega) (by omega)
  refine va_sld hx hb hX hbl hbA hS1 (q_in (by omega) (by omega)) dL_law_584 (lv_topi fun v16 ev16 => ?_)
  refine q_cL (As := [.int v10, .int v12, .int v14, .int v16]) (rest := []) q_exw hE hKy hQ1 hey hP1 (he1.trans hex) hDy hd2 hS1 hA ⟨hx, hb, hml, hown, hts⟩ (F_r_alone l dC dI _ hIy v10 v12 v14 v16) (cwV 4 hts (p1_gV m_5 m_6 m_7 m_8 iz_r_alone gz_r_alone) rfl rfl rfl (by decide +kernel) ⟨by decide, by decide⟩) (hIy.recv hKy hQ1) rfl hl.1 rfl (Nat.le_of_ble_eq_true rfl) dL_law_585 ⟨by show nc ≤ 600000; omega, by show ns ≤ 7302250; omega⟩ (fun r2 H2 lo2 t2 ht2 hg2 hQ2 hS2 => ?_)
  obtain ⟨w2, hI2, hP2, he2⟩ := hg2
  rw [ht2] at hP2
  refine lv_pop hx hb dL_law_588 rfl ?_
  refine lv_goto (tgt := 1382) hx hb dL_law_589 (by decide) ?_
  exact kk tm w1 w2 H2 _ ls hI1 hI2 hQ2 (he1.trans hex) hP2 (he2.trans hey) hS2 hl
set_option maxHeartbeats 4000000 in
set_option maxRecDepth 100000 in
theorem law_undone {p : Program} {e : Env} {s : State} {m : MethodId} {below : List Frame} {meth : Method} {c : Code} (l : Launch) {b L : Nat} {xs : Nat → Int32} (C0 : lw_At p s m meth c b L xs) {A : Nat → Prop} (hAe : A = fun q : Nat => s.heap.size ≤ q) (hE : q_ex A s s.heap) (dC : Nat → ClassId) (dI : Nat → Nat → Nat) {nc ns : Nat} (hnc : nc ≤ 600000) (hns : ns ≤ 7302250) {x y : Nat} {a1 a2 : List Nat} {tx ty : List (ClassId × FieldType)} (hKx : va_K (dC, dI) vwCl tx s) (hKy : va_K (dC, dI) vwCl ty s) (hDx : q_DA A a1) (hDy : q_DA A a2) (hd1 : ∀ q ∈ a1, q ∉ a2) (hd2 : ∀ q ∈ a2, q ∉ a1) (i : Int32) (hi0 : 0 ≤ i.toInt) (hi6 : i.toInt + 6 ≤ L) (hL : L ≤ 3072) (tm : Int32) (wx wy : va_W) (H : Heap) (locs : List Loc) (ls : Array Slot) (hIx : IX x tm wx tx) (hIy : IM y tm wy ty) (hPx : va_P (dC, dI) vwCl wx H) (hex : wx.map Prod.fst = a1) (hPy : va_P (dC, dI) vwCl wy H) (hey : wy.map Prod.fst = a2) (hS : va_S A s.heap H locs) (hl : lv_has ls 4 [(3, .int i), (2, .ref y), (1, .ref x), (0, .ref b)]) (kk : ∀ (tm : Int32) (wx wy : va_W) (H : Heap) (locs : List Loc) (ls : Array Slot) (hIx : IX x tm wx tx) (hIy : IM y tm wy ty) (hPx : va_P (dC, dI) vwCl wx H) (hex : wx.map Prod.fst = a1) (hPy : va_P (dC, dI) vwCl wy H) (hey : wy.map Prod.fst = a2) (hS : va_S A s.heap H locs) (hl : lv_has ls 4 [(3, .int i), (2, .ref y), (1, .ref x), (0, .ref b)]), W p l e room_1 s m #[Value.ref b] below meth c H locs nc ns (lw_Z below #[Value.ref b] s) (F0 m 1382 ls [])) : W p l e room_1 s m #[Value.ref b] below meth c H locs nc ns (lw_Z below #[Value.ref b] s) (F0 m 592 ls []) := by
  obtain ⟨hx, hb, hr, hml, hown, hts, hX, hbl, hlocks, hgv⟩ := id C0
  have hown : s.vm.findClass RL = some m.cls := hown
  have hA : ∀ q : Nat, s.heap.size ≤ q → A q := by rw [hAe]; exact fun _ h => h
  have hbA : ¬ A b := by rw [hAe]; exact Nat.not_le.mpr hbl
  have lt_1 : (1 : Int32).toInt = 1 := by decide
  have lt_2 : (2 : Int32).toInt = 2 := by decide
  have m_1 : (.methodLink RL 67 yX8_undone : Cond) ∈ lw_tbl := q_w (n := 866) (by decide +kernel)
  have m_2 : (.instanceMethod yX8_undone : Cond) ∈ lw_tbl := q_w (n := 867) (by decide +kernel)
  have m_3 : (.selects RX8 yX8_undone yX8_undone : Cond) ∈ lw_tbl := q_w (n := 868) (by decide +kernel)
  have m_4 : (.initialized RX8 : Cond) ∈ lw_tbl := q_w (n := 104) (by decide +kernel)
  have m_5 : (.methodLink RL 70 yX9_undone : Cond) ∈ lw_tbl := q_w (n := 1566) (by decide +kernel)
  have m_6 : (.instanceMethod yX9_undone : Cond) ∈ lw_tbl := q_w (n := 1567) (by decide +kernel)
  have m_7 : (.selects RX9 yX9_undone yX9_undone : Cond) ∈ lw_tbl := q_w (n := 1568) (by decide +kernel)
  have m_8 : (.initialized RX9 : Cond) ∈ lw_tbl := q_w (n := 116) (by decide +kernel)
  refine lv_aload_n hx hb dL_law_592 rfl (lv_at hl 2 rfl) ?_
  refine lv_aload_n hx hb dL_law_593 rfl (lv_at hl 3 rfl) ?_
  refine lv_iload_n hx hb dL_law_594 rfl (lv_at hl 0 rfl) ?_
  refine lv_iconst (v := 1) hx hb dL_law_595 (by decide) ?_
  refine lv_iadd hx hb dL_law_596 (lv_topi fun v1 ev1 => ?_)
  have tv1 := q_add ev1 (by omega) (by omega)
  refine va_sld hx hb hX hbl hbA hS (q_in (by omega) (by omega)) dL_law_597 (lv_topi fun v2 ev2 => ?_)
  refine lv_aload_n hx hb dL_law_598 rfl (lv_at hl 3 rfl) ?_
  refine lv_iload_n hx hb dL_law_599 rfl (lv_at hl 0 rfl) ?_
  refine lv_iconst (v := 2) hx hb dL_law_600 (by decide) ?_
  refine lv_iadd hx hb dL_law_601 (lv_topi fun v3 ev3 => ?_)
  have tv3 := q_add ev3 (by omega) (by omega)
  refine va_sld hx hb hX hbl hbA hS (q_in (by omega) (by omega)) dL_law_602 (lv_topi fun v4 ev4 => ?_)
  refine q_cL (As := [.int v2, .int v4]) (rest := []) q_exw hE hKx hPx hex hPy hey hDx hd1 hS hA ⟨hx, hb, hml, hown, hts⟩ (F_t_undone l dC dI _ hIx v2 v4) (cwV 2 hts (p1_gV m_1 m_2 m_3 m_4 iz_t_undone gz_t_undone) rfl rfl rfl (by decide +kernel) ⟨by decide, by decide⟩) (hIx.recv hKx hPx) rfl hl.1 rfl (Nat.le_of_ble_eq_true rfl) dL_law_603 ⟨by show nc ≤ 600000; omega, by show ns ≤ 7302250; omega⟩ (fun r1 H1 lo1 t1 ht1 hg1 hQ1 hS1 => ?_)
  obtain ⟨w1, hI1, hP1, he1⟩ := hg1
  rw [ht1] at hP1
  refine lv_pop hx hb dL_law_606 rfl ?_
  refine lv_aload_n hx hb dL_law_607 rfl (lv_at hl 1 rfl) ?_
  refine lv_aload_n hx hb dL_law_608 rfl (lv_at hl 3 rfl) ?_
  refine lv_iload_n hx hb dL_law_609 rfl (lv_at hl 0 rfl) ?_
  refine lv_iconst (v := 1) hx hb dL_law_610 (by decide) ?_
  refine lv_iadd hx hb dL_law_611 (lv_topi fun v5 ev5 => ?_)
  have tv5 := q_add ev5 (by omega) (by omega)
  refine va_sld hx hb hX hbl hbA hS1 (q_in (by omega) (by omega)) dL_law_612 (lv_topi fun v6 ev6 => ?_)
  refine lv_aload_n hx hb dL_law_613 rfl (lv_at hl 3 rfl) ?_
  refine lv_iload_n hx hb dL_law_614 rfl (lv_at hl 0 rfl) ?_
  refine lv_iconst (v := 2) hx hb dL_law_615 (by decide) ?_
  refine lv_iadd hx hb dL_law_616 (lv_topi fun v7 ev7 => ?_)
  have tv7 := q_add ev7 (by omega) (by omega)
  refine va_sld hx hb hX hbl hbA hS1 (q_in (by omega) (by omega)) dL_law_617 (lv_topi fun v8 ev8 => ?_)
  refine q_cL (As := [.int v6, .int v8]) (rest := []) q_exw hE hKy hQ1 hey hP1 (he1.trans hex) hDy hd2 hS1 hA ⟨hx, hb, hml, hown, hts⟩ (F_r_undone l dC dI _ hIy v6 v8) (cwV 2 hts (p1_gV m_5 m_6 m_7 m_8 iz_r_undone gz_r_undone) rfl rfl rfl (by decide +kernel) ⟨by decide, by decide⟩) (hIy.recv hKy hQ1) rfl hl.1 rfl (Nat.le_of_ble_eq_true rfl) dL_law_618 ⟨by show nc ≤ 600000; omega, by show ns ≤ 7302250; omega⟩ (fun r2 H2 lo2 t2 ht2 hg2 hQ2 hS2 => ?_)
  obtain ⟨w2, hI2, hP2, he2⟩ := hg2
  rw [ht2] at hP2
  refine lv_pop hx hb dL_law_621 rfl ?_
  refine lv_goto (tgt := 1382) hx hb dL_law_622 (by decide) ?_
  exact kk tm w1 w2 H2 _ ls hI1 hI2 hQ2 (he1.trans hex) hP2 (he2.trans hey) hS2 hl
set_option maxHeartbeats 4000000 in
set_option maxRecDepth 100000 in
theorem law_met {p : Program} {e : Env} {s : State} {m : MethodId} {below : List Frame} {meth : Method} {c : Code} (l : Launch) {b L : Nat} {xs : Nat → Int32} (C0 : lw_At p s m meth c b L xs) {A : Nat → Prop} (hAe : A = fun q : Nat => s.heap.size ≤ q) (hE : q_ex A s s.heap) (dC : Nat → ClassId) (dI : Nat → Nat → Nat) {nc ns : Nat} (hnc : nc ≤ 600000) (hns : ns ≤ 7302250) {x y : Nat} {a1 a2 : List Nat} {tx ty : List (ClassId × FieldType)} (hKx : va_K (dC, dI) vwCl tx s) (hKy : va_K (dC, dI) vwCl ty s) (hDx : q_DA A a1) (hDy : q_DA A a2) (hd1 : ∀ q ∈ a1, q ∉ a2) (hd2 : ∀ q ∈ a2, q ∉ a1) (i : Int32) (hi0 : 0 ≤ i.toInt) (hi6 : i.toInt + 6 ≤ L) (hL : L ≤ 3072) (tm : Int32) (wx wy : va_W) (H : Heap) (locs : List Loc) (ls : Array Slot) (hIx : IX x tm wx tx) (hIy : IM y tm wy ty) (hPx : va_P (dC, dI) vwCl wx H) (hex : wx.map Prod.fst = a1) (hPy : va_P (dC, dI) vwCl wy H) (hey : wy.map Prod.fst = a2) (hS : va_S A s.heap H locs) (hl : lv_has ls 4 [(3, .int i), (2, .ref y), (1, .ref x), (0, .ref b)]) (kk : ∀ (tm : Int32) (wx wy : va_W) (H : Heap) (locs : List Loc) (ls : Array Slot) (hIx : IX x tm wx tx) (hIy : IM y tm wy ty) (hPx : va_P (dC, dI) vwCl wx H) (hex : wx.map Prod.fst = a1) (hPy : va_P (dC, dI) vwCl wy H) (hey : wy.map Prod.fst = a2) (hS : va_S A s.heap H locs) (hl : lv_has ls 4 [(3, .int i), (2, .ref y), (1, .ref x), (0, .ref b)]), W p l e room_1 s m #[Value.ref b] below meth c H locs nc ns (lw_Z below #[Value.ref b] s) (F0 m 1382 ls [])) : W p l e room_1 s m #[Value.ref b] below meth c H locs nc ns (lw_Z below #[Value.ref b] s) (F0 m 625 ls []) := by
  obtain ⟨hx, hb, hr, hml, hown, hts, hX, hbl, hlocks, hgv⟩ := id C0
  have hown : s.vm.findClass RL = some m.cls := hown
  have hA : ∀ q : Nat, s.heap.size ≤ q → A q := by rw [hAe]; exact fun _ h => h
  have hbA : ¬ A b := by rw [hAe]; exact Nat.not_le.mpr hbl
  have lt_1 : (1 : Int32).toInt = 1 := by decide
  have lt_2 : (2 : Int32).toInt = 2 := by decide
  have lt_3 : (3 : Int32).toInt = 3 := by decide
  have lt_4 : (4 : Int32).toInt = 4 := by decide
  have m_1 : (.methodLink RL 71 yX8_met : Cond) ∈ lw_tbl := q_w (n := 879) (by decide +kernel)
  have m_2 : (.instanceMethod yX8_met : Cond) ∈ lw_tbl := q_w (n := 880) (by decide +kernel)
  have m_3 : (.selects RX8 yX8_met yX8_met : Cond) ∈ lw_tbl := q_w (n := 881) (by decide +kernel)
  have m_4 : (.initialized RX8 : Cond) ∈ lw_tbl := q_w (n := 104) (by decide +kernel)
  have m_5 : (.methodLink RL 74 yX9_met : Cond) ∈ lw_tbl := q_w (n := 1578) (by decide +kernel)
  have m_6 : (.instanceMethod yX9_met : Cond) ∈ lw_tbl := q_w (n := 1579) (by decide +kernel)
  have m_7 : (.selects RX9 yX9_met yX9_met : Cond) ∈ lw_tbl := q_w (n := 1580) (by decide +kernel)
  have m_8 : (.initialized RX9 : Cond) ∈ lw_tbl := q_w (n := 116) (by decide +kernel)
  refine lv_aload_n hx hb dL_law_625 rfl (lv_at hl 2 rfl) ?_
  refine lv_aload_n hx hb dL_law_626 rfl (lv_at hl 3 rfl) ?_
  refine lv_iload_n hx hb dL_law_627 rfl (lv_at hl 0 rfl) ?_
  refine lv_iconst (v := 1) hx hb dL_law_628 (by decide) ?_
  refine lv_iadd hx hb dL_law_629 (lv_topi fun v1 ev1 => ?_)
  have tv1 := q_add ev1 (by omega) (by omega)
  refine va_sld hx hb hX hbl hbA hS (q_in (by omega) (by omega)) dL_law_630 (lv_topi fun v2 ev2 => ?_)
  refine lv_aload_n hx hb dL_law_631 rfl (lv_at hl 3 rfl) ?_
  refine lv_iload_n hx hb dL_law_632 rfl (lv_at hl 0 rfl) ?_
  refine lv_iconst (v := 2) hx hb dL_law_633 (by decide) ?_
  refine lv_iadd hx hb dL_law_634 (lv_topi fun v3 ev3 => ?_)
  have tv3 := q_add ev3 (by omega) (by omega)
  refine va_sld hx hb hX hbl hbA hS (q_in (by omega) (by omega)) dL_law_635 (lv_topi fun v4 ev4 => ?_)
  refine lv_aload_n hx hb dL_law_636 rfl (lv_at hl 3 rfl) ?_
  refine lv_iload_n hx hb dL_law_637 rfl (lv_at hl 0 rfl) ?_
  refine lv_iconst (v := 3) hx hb dL_law_638 (by decide) ?_
  refine lv_iadd hx hb dL_law_639 (lv_topi fun v5 ev5 => ?_)
  have tv5 := q_add ev5 (by omega) (by omega)
  refine va_sld hx hb hX hbl hbA hS (q_in (by omega) (by omega)) dL_law_640 (lv_topi fun v6 ev6 => ?_)
  refine lv_aload_n hx hb dL_law_641 rfl (lv_at hl 3 rfl) ?_
  refine lv_iload_n hx hb dL_law_642 rfl (lv_at hl 0 rfl) ?_
  refine lv_iconst (v := 4) hx hb dL_law_643 (by decide) ?_
  refine lv_iadd hx hb dL_law_644 (lv_topi fun v7 ev7 => ?_)
  have tv7 := q_add ev7 (by omega) (by omega)
  refine va_sld hx hb hX hbl hbA hS (q_in (by omega) (by omega)) dL_law_645 (lv_topi fun v8 ev8 => ?_)
  refine q_cL (As := [.int v2, .int v4, .int v6, .int v8]) (rest := []) q_exw hE hKx hPx hex hPy hey hDx hd1 hS hA ⟨hx, hb, hml, hown, hts⟩ (F_t_met l dC dI _ hIx v2 v4 v6 v8) (cwV 4 hts (p1_gV m_1 m_2 m_3 m_4 iz_t_met gz_t_met) rfl rfl rfl (by decide +kernel) ⟨by decide, by decide⟩) (hIx.recv hKx hPx) rfl hl.1 rfl (Nat.le_of_ble_eq_true rfl) dL_law_646 ⟨by show nc ≤ 600000; omega, by show ns ≤ 7302250; omega⟩ (fun r1 H1 lo1 t1 ht1 hg1 hQ1 hS1 => ?_)
  obtain ⟨w1, hI1, hP1, he1⟩ := hg1
  rw [ht1] at hP1
  refine lv_pop hx hb dL_law_649 rfl ?_
  refine lv_aload_n hx hb dL_law_650 rfl (lv_at hl 1 rfl) ?_
  refine lv_aload_n hx hb dL_law_651 rfl (lv_at hl 3 rfl) ?_
  refine lv_iload_n hx hb dL_law_652 rfl (lv_at hl 0 rfl) ?_
  refine lv_iconst (v := 1) hx hb dL_law_653 (by decide) ?_
  refine lv_iadd hx hb dL_law_654 (lv_topi fun v9 ev9 => ?_)
  have tv9 := q_add ev9 (by omega) (by omega)
  refine va_sld hx hb hX hbl hbA hS1 (q_in (by omega) (by omega)) dL_law_655 (lv_topi fun v10 ev10 => ?_)
  refine lv_aload_n hx hb dL_law_656 rfl (lv_at hl 3 rfl) ?_
  refine lv_iload_n hx hb dL_law_657 rfl (lv_at hl 0 rfl) ?_
  refine lv_iconst (v := 2) hx hb dL_law_658 (by decide) ?_
  refine lv_iadd hx hb dL_law_659 (lv_topi fun v11 ev11 => ?_)
  have tv11 := q_add ev11 (by omega) (by omega)
  refine va_sld hx hb hX hbl hbA hS1 (q_in (by omega) (by omega)) dL_law_660 (lv_topi fun v12 ev12 => ?_)
  refine lv_aload_n hx hb dL_law_661 rfl (lv_at hl 3 rfl) ?_
  refine lv_iload_n hx hb dL_law_662 rfl (lv_at hl 0 rfl) ?_
  refine lv_iconst (v := 3) hx hb dL_law_663 (by decide) ?_
  refine lv_iadd hx hb dL_law_664 (lv_topi fun v13 ev13 => ?_)
  have tv13 := q_add ev13 (by omega) (by omega)
  refine va_sld hx hb hX hbl hbA hS1 (q_in (by omega) (by omega)) dL_law_665 (lv_topi fun v14 ev14 => ?_)
  refine lv_aload_n hx hb dL_law_666 rfl (lv_at hl 3 rfl) ?_
  refine lv_iload_n hx hb dL_law_667 rfl (lv_at hl 0 rfl) ?_
  refine lv_iconst (v := 4) hx hb dL_law_668 (by decide) ?_
  refine lv_iadd hx hb dL_law_669 (lv_topi fun v15 ev15 => ?_)
  have tv15 := q_add ev15 (by omega) (by omega)
  refine va_sld hx hb hX hbl hbA hS1 (q_in (by omega) (by omega)) dL_law_670 (lv_topi fun v16 ev16 => ?_)
  refine q_cL (As := [.int v10, .int v12, .int v14, .int v16]) (rest := []) q_exw hE hKy hQ1 hey hP1 (he1.trans hex) hDy hd2 hS1 hA ⟨hx, hb, hml, hown, hts⟩ (F_r_met l dC dI _ hIy v10 v12 v14 v16) (cwV 4 hts (p1_gV m_5 m_6 m_7 m_8 iz_r_met gz_r_met) rfl rfl rfl (by decide +kernel) ⟨by decide, by decide⟩) (hIy.recv hKy hQ1) rfl hl.1 rfl (Nat.le_of_ble_eq_true rfl) dL_law_671 ⟨by show nc ≤ 600000; omega, by show ns ≤ 7302250; omega⟩ (fun r2 H2 lo2 t2 ht2 hg2 hQ2 hS2 => ?_)
  obtain ⟨w2, hI2, hP2, he2⟩ := hg2
  rw [ht2] at hP2
  refine lv_pop hx hb dL_law_674 rfl ?_
  refine lv_goto (tgt := 1382) hx hb dL_law_675 (by decide) ?_
  exact kk tm w1 w2 H2 _ ls hI1 hI2 hQ2 (he1.trans hex) hP2 (he2.trans hey) hS2 hl
set_option maxHeartbeats 4000000 in
set_option maxRecDepth 100000 in
theorem law_meets {p : Program} {e : Env} {s : State} {m : MethodId} {below : List Frame} {meth : Method} {c : Code} (l : Launch) {b L : Nat} {xs : Nat → Int32} (C0 : lw_At p s m meth c b L xs) {A : Nat → Prop} (hAe : A = fun q : Nat => s.heap.size ≤ q) (hE : q_ex A s s.heap) (dC : Nat → ClassId) (dI : Nat → Nat → Nat) {nc ns : Nat} (hnc : nc ≤ 600000) (hns : ns ≤ 7302250) {x y : Nat} {a1 a2 : List Nat} {tx ty : List (ClassId × FieldType)} (hKx : va_K (dC, dI) vwCl tx s) (hKy : va_K (dC, dI) vwCl ty s) (hDx : q_DA A a1) (hDy : q_DA A a2) (hd1 : ∀ q ∈ a1, q ∉ a2) (hd2 : ∀ q ∈ a2, q ∉ a1) (i : Int32) (hi0 : 0 ≤ i.toInt) (hi6 : i.toInt + 6 ≤ L) (hL : L ≤ 3072) (tm : Int32) (wx wy : va_W) (H : Heap) (locs : List Loc) (ls : Array Slot) (hIx : IX x tm wx tx) (hIy : IM y tm wy ty) (hPx : va_P (dC, dI) vwCl wx H) (hex : wx.map Prod.fst = a1) (hPy : va_P (dC, dI) vwCl wy H) (hey : wy.map Prod.fst = a2) (hS : va_S A s.heap H locs) (hl : lv_has ls 4 [(3, .int i), (2, .ref y), (1, .ref x), (0, .ref b)]) (kk : ∀ (tm : Int32) (wx wy : va_W) (H : Heap) (locs : List Loc) (ls : Array Slot) (hIx : IX x tm wx tx) (hIy : IM y tm wy ty) (hPx : va_P (dC, dI) vwCl wx H) (hex : wx.map Prod.fst = a1) (hPy : va_P (dC, dI) vwCl wy H) (hey : wy.map Prod.fst = a2) (hS : va_S A s.heap H locs) (hl : lv_has ls 4 [(3, .int i), (2, .ref y), (1, .ref x), (0, .ref b)]), W p l e room_1 s m #[Value.ref b] below meth c H locs nc ns (lw_Z below #[Value.ref b] s) (F0 m 1382 ls [])) : W p l e room_1 s m #[Value.ref b] below meth c H locs nc ns (lw_Z below #[Value.ref b] s) (F0 m 678 ls []) := by
  obtain ⟨hx, hb, hr, hml, hown, hts, hX, hbl, hlocks, hgv⟩ := id C0
  have hown : s.vm.findClass RL = some m.cls := hown
  have hA : ∀ q : Nat, s.heap.size ≤ q → A q := by rw [hAe]; exact fun _ h => h
  have hbA : ¬ A b := by rw [hAe]; exact Nat.not_le.mpr hbl
  have lt_1 : (1 : Int32).toInt = 1 := by decide
  have lt_2 : (2 : Int32).toInt = 2 := by decide
  have lt_3 : (3 : Int32).toInt = 3 := by decide
  have m_1 : (.methodLink RL 75 yX8_meets : Cond) ∈ lw_tbl := q_w (n := 887) (by decide +kernel)
  have m_2 : (.instanceMethod yX8_meets : Cond) ∈ lw_tbl := q_w (n := 888) (by decide +kernel)
  have m_3 : (.selects RX8 yX8_meets yX8_meets : Cond) ∈ lw_tbl := q_w (n := 889) (by decide +kernel)
  have m_4 : (.initialized RX8 : Cond) ∈ lw_tbl := q_w (n := 104) (by decide +kernel)
  have m_5 : (.methodLink RL 78 yX9_meets : Cond) ∈ lw_tbl := q_w (n := 1590) (by decide +kernel)
  have m_6 : (.instanceMethod yX9_meets : Cond) ∈ lw_tbl := q_w (n := 1591) (by decide +kernel)
  have m_7 : (.selects RX9 yX9_meets yX9_meets : Cond) ∈ lw_tbl := q_w (n := 1592) (by decide +kernel)
  have m_8 : (.initialized RX9 : Cond) ∈ lw_tbl := q_w (n := 116) (by decide +kernel)
  refine lv_aload_n hx hb dL_law_678 rfl (lv_at hl 2 rfl) ?_
  refine lv_aload_n hx hb dL_law_679 rfl (lv_at hl 3 rfl) ?_
  refine lv_iload_n hx hb dL_law_680 rfl (lv_at hl 0 rfl) ?_
  refine lv_iconst (v := 1) hx hb dL_law_681 (by decide) ?_
  refine lv_iadd hx hb dL_law_682 (lv_topi fun v1 ev1 => ?_)
  have tv1 := q_add ev1 (by omega) (by omega)
  refine va_sld hx hb hX hbl hbA hS (q_in (by omega) (by omega)) dL_law_683 (lv_topi fun v2 ev2 => ?_)
  refine lv_aload_n hx hb dL_law_684 rfl (lv_at hl 3 rfl) ?_
  refine lv_iload_n hx hb dL_law_685 rfl (lv_at hl 0 rfl) ?_
  refine lv_iconst (v := 2) hx hb dL_law_686 (by decide) ?_
  refine lv_iadd hx hb dL_law_687 (lv_topi fun v3 ev3 => ?_)
  have tv3 := q_add ev3 (by omega) (by omega)
  refine va_sld hx hb hX hbl hbA hS (q_in (by omega) (by omega)) dL_law_688 (lv_topi fun v4 ev4 => ?_)
  refine lv_aload_n hx hb dL_law_689 rfl (lv_at hl 3 rfl) ?_
  refine lv_iload_n hx hb dL_law_690 rfl (lv_at hl 0 rfl) ?_
  refine lv_iconst (v := 3) hx hb dL_law_691 (by decide) ?_
  refine lv_iadd hx hb dL_law_692 (lv_topi fun v5 ev5 => ?_)
  have tv5 := q_add ev5 (by omega) (by omega)
  refine va_sld hx hb hX hbl hbA hS (q_in (by omega) (by omega)) dL_law_693 (lv_topi fun v6 ev6 => ?_)
  refine q_cL (As := [.int v2, .int v4, .int v6]) (rest := []) q_exw hE hKx hPx hex hPy hey hDx hd1 hS hA ⟨hx, hb, hml, hown, hts⟩ (F_t_meets l dC dI _ hIx v2 v4 v6) (cwV 3 hts (p1_gV m_1 m_2 m_3 m_4 iz_t_meets gz_t_meets) rfl rfl rfl (by decide +kernel) ⟨by decide, by decide⟩) (hIx.recv hKx hPx) rfl hl.1 rfl (Nat.le_of_ble_eq_true rfl) dL_law_694 ⟨by show nc ≤ 600000; omega, by show ns ≤ 7302250; omega⟩ (fun r1 H1 lo1 t1 ht1 hg1 hQ1 hS1 => ?_)
  obtain ⟨w1, hI1, hP1, he1⟩ := hg1
  rw [ht1] at hP1
  refine lv_pop hx hb dL_law_697 rfl ?_
  refine lv_aload_n hx hb dL_law_698 rfl (lv_at hl 1 rfl) ?_
  refine lv_aload_n hx hb dL_law_699 rfl (lv_at hl 3 rfl) ?_
  refine lv_iload_n hx hb dL_law_700 rfl (lv_at hl 0 rfl) ?_
  refine lv_iconst (v := 1) hx hb dL_law_701 (by decide) ?_
  refine lv_iadd hx hb dL_law_702 (lv_topi fun v7 ev7 => ?_)
  have tv7 := q_add ev7 (by omega) (by omega)
  refine va_sld hx hb hX hbl hbA hS1 (q_in (by omega) (by omega)) dL_law_703 (lv_topi fun v8 ev8 => ?_)
  refine lv_aload_n hx hb dL_law_704 rfl (lv_at hl 3 rfl) ?_
  refine lv_iload_n hx hb dL_law_705 rfl (lv_at hl 0 rfl) ?_
  refine lv_iconst (v := 2) hx hb dL_law_706 (by decide) ?_
  refine lv_iadd hx hb dL_law_707 (lv_topi fun v9 ev9 => ?_)
  have tv9 := q_add ev9 (by omega) (by omega)
  refine va_sld hx hb hX hbl hbA hS1 (q_in (by omega) (by omega)) dL_law_708 (lv_topi fun v10 ev10 => ?_)
  refine lv_aload_n hx hb dL_law_709 rfl (lv_at hl 3 rfl) ?_
  refine lv_iload_n hx hb dL_law_710 rfl (lv_at hl 0 rfl) ?_
  refine lv_iconst (v := 3) hx hb dL_law_711 (by decide) ?_
  refine lv_iadd hx hb dL_law_712 (lv_topi fun v11 ev11 => ?_)
  have tv11 := q_add ev11 (by omega) (by omega)
  refine va_sld hx hb hX hbl hbA hS1 (q_in (by omega) (by omega)) dL_law_713 (lv_topi fun v12 ev12 => ?_)
  refine q_cL (As := [.int v8, .int v10, .int v12]) (rest := []) q_exw hE hKy hQ1 hey hP1 (he1.trans hex) hDy hd2 hS1 hA ⟨hx, hb, hml, hown, hts⟩ (F_r_meets l dC dI _ hIy v8 v10 v12) (cwV 3 hts (p1_gV m_5 m_6 m_7 m_8 iz_r_meets gz_r_meets) rfl rfl rfl (by decide +kernel) ⟨by decide, by decide⟩) (hIy.recv hKy hQ1) rfl hl.1 rfl (Nat.le_of_ble_eq_true rfl) dL_law_714 ⟨by show nc ≤ 600000; omega, by show ns ≤ 7302250; omega⟩ (fun r2 H2 lo2 t2 ht2 hg2 hQ2 hS2 => ?_)
  obtain ⟨w2, hI2, hP2, he2⟩ := hg2
  rw [ht2] at hP2
  refine lv_pop hx hb dL_law_717 rfl ?_
  refine lv_goto (tgt := 1382) hx hb dL_law_718 (by decide) ?_
  exact kk tm w1 w2 H2 _ ls hI1 hI2 hQ2 (he1.trans hex) hP2 (he2.trans hey) hS2 hl
set_option maxHeartbeats 4000000 in
set_option maxRecDepth 100000 in
theorem law_odds {p : Program} {e : Env} {s : State} {m : MethodId} {below : List Frame} {meth : Method} {c : Code} (l : Launch) {b L : Nat} {xs : Nat → Int32} (C0 : lw_At p s m meth c b L xs) {A : Nat → Prop} (hAe : A = fun q : Nat => s.heap.size ≤ q) (hE : q_ex A s s.heap) (dC : Nat → ClassId) (dI : Nat → Nat → Nat) {nc ns : Nat} (hnc : nc ≤ 600000) (hns : ns ≤ 7302250) {x y : Nat} {a1 a2 : List Nat} {tx ty : List (ClassId × FieldType)} (hKx : va_K (dC, dI) vwCl tx s) (hKy : va_K (dC, dI) vwCl ty s) (hDx : q_DA A a1) (hDy : q_DA A a2) (hd1 : ∀ q ∈ a1, q ∉ a2) (hd2 : ∀ q ∈ a2, q ∉ a1) (i : Int32) (hi0 : 0 ≤ i.toInt) (hi6 : i.toInt + 6 ≤ L) (hL : L ≤ 3072) (tm : Int32) (wx wy : va_W) (H : Heap) (locs : List Loc) (ls : Array Slot) (hIx : IX x tm wx tx) (hIy : IM y tm wy ty) (hPx : va_P (dC, dI) vwCl wx H) (hex : wx.map Prod.fst = a1) (hPy : va_P (dC, dI) vwCl wy H) (hey : wy.map Prod.fst = a2) (hS : va_S A s.heap H locs) (hl : lv_has ls 4 [(3, .int i), (2, .ref y), (1, .ref x), (0, .ref b)]) (kk : ∀ (tm : Int32) (wx wy : va_W) (H : Heap) (locs : List Loc) (ls : Array Slot) (hIx : IX x tm wx tx) (hIy : IM y tm wy ty) (hPx : va_P (dC, dI) vwCl wx H) (hex : wx.map Prod.fst = a1) (hPy : va_P (dC, dI) vwCl wy H) (hey : wy.map Prod.fst = a2) (hS : va_S A s.heap H locs) (hl : lv_has ls 4 [(3, .int i), (2, .ref y), (1, .ref x), (0, .ref b)]), W p l e room_1 s m #[Value.ref b] below meth c H locs nc ns (lw_Z below #[Value.ref b] s) (F0 m 1382 ls [])) : W p l e room_1 s m #[Value.ref b] below meth c H locs nc ns (lw_Z below #[Value.ref b] s) (F0 m 721 ls []) := by
  obtain ⟨hx, hb, hr, hml, hown, hts, hX, hbl, hlocks, hgv⟩ := id C0
  have hown : s.vm.findClass RL = some m.cls := hown
  have hA : ∀ q : Nat, s.heap.size ≤ q → A q := by rw [hAe]; exact fun _ h => h
  have hbA : ¬ A b := by rw [hAe]; exact Nat.not_le.mpr hbl
  have lt_1 : (1 : Int32).toInt = 1 := by decide
  have lt_2 : (2 : Int32).toInt = 2 := by decide
  have lt_3 : (3 : Int32).toInt = 3 := by decide
  have m_1 : (.methodLink RL 79 yX8_odds : Cond) ∈ lw_tbl := q_w (n := 891) (by decide +kernel)
  have m_2 : (.instanceMethod yX8_odds : Cond) ∈ lw_tbl := q_w (n := 892) (by decide +kernel)
  have m_3 : (.selects RX8 yX8_odds yX8_odds : Cond) ∈ lw_tbl := q_w (n := 893) (by decide +kernel)
  have m_4 : (.initialized RX8 : Cond) ∈ lw_tbl := q_w (n := 104) (by decide +kernel)
  have m_5 : (.methodLink RL 82 yX9_odds : Cond) ∈ lw_tbl := q_w (n := 1594) (by decide +kernel)
  have m_6 : (.instanceMethod yX9_odds : Cond) ∈ lw_tbl := q_w (n := 1595) (by decide +kernel)
  have m_7 : (.selects RX9 yX9_odds yX9_odds : Cond) ∈ lw_tbl := q_w (n := 1596) (by decide +kernel)
  have m_8 : (.initialized RX9 : Cond) ∈ lw_tbl := q_w (n := 116) (by decide +kernel)
  refine lv_aload_n hx hb dL_law_721 rfl (lv_at hl 2 rfl) ?_
  refine lv_aload_n hx hb dL_law_722 rfl (lv_at hl 3 rfl) ?_
  refine lv_iload_n hx hb dL_law_723 rfl (lv_at hl 0 rfl) ?_
  refine lv_iconst (v := 1) hx hb dL_law_724 (by decide) ?_
  refine lv_iadd hx hb dL_law_725 (lv_topi fun v1 ev1 => ?_)
  have tv1 := q_add ev1 (by omega) (by omega)
  refine va_sld hx hb hX hbl hbA hS (q_in (by omega) (by omega)) dL_law_726 (lv_topi fun v2 ev2 => ?_)
  refine lv_aload_n hx hb dL_law_727 rfl (lv_at hl 3 rfl) ?_
  refine lv_iload_n hx hb dL_law_728 rfl (lv_at hl 0 rfl) ?_
  refine lv_iconst (v := 2) hx hb dL_law_729 (by decide) ?_
  refine lv_iadd hx hb dL_law_730 (lv_topi fun v3 ev3 => ?_)
  have tv3 := q_add ev3 (by omega) (by omega)
  refine va_sld hx hb hX hbl hbA hS (q_in (by omega) (by omega)) dL_law_731 (lv_topi fun v4 ev4 => ?_)
  refine lv_aload_n hx hb dL_law_732 rfl (lv_at hl 3 rfl) ?_
  refine lv_iload_n hx hb dL_law_733 rfl (lv_at hl 0 rfl) ?_
  refine lv_iconst (v := 3) hx hb dL_law_734 (by decide) ?_
  refine lv_iadd hx hb dL_law_735 (lv_topi fun v5 ev5 => ?_)
  have tv5 := q_add ev5 (by omega) (by omega)
  refine va_sld hx hb hX hbl hbA hS (q_in (by omega) (by omega)) dL_law_736 (lv_topi fun v6 ev6 => ?_)
  refine q_cL (As := [.int v2, .int v4, .int v6]) (rest := []) q_exw hE hKx hPx hex hPy hey hDx hd1 hS hA ⟨hx, hb, hml, hown, hts⟩ (F_t_odds l dC dI _ hIx v2 v4 v6) (cwV 3 hts (p1_gV m_1 m_2 m_3 m_4 iz_t_odds gz_t_odds) rfl rfl rfl (by decide +kernel) ⟨by decide, by decide⟩) (hIx.recv hKx hPx) rfl hl.1 rfl (Nat.le_of_ble_eq_true rfl) dL_law_737 ⟨by show nc ≤ 600000; omega, by show ns ≤ 7302250; omega⟩ (fun r1 H1 lo1 t1 ht1 hg1 hQ1 hS1 => ?_)
  obtain ⟨w1, hI1, hP1, he1⟩ := hg1
  rw [ht1] at hP1
  refine lv_pop hx hb dL_law_740 rfl ?_
  refine lv_aload_n hx hb dL_law_741 rfl (lv_at hl 1 rfl) ?_
  refine lv_aload_n hx hb dL_law_742 rfl (lv_at hl 3 rfl) ?_
  refine lv_iload_n hx hb dL_law_743 rfl (lv_at hl 0 rfl) ?_
  refine lv_iconst (v := 1) hx hb dL_law_744 (by decide) ?_
  refine lv_iadd hx hb dL_law_745 (lv_topi fun v7 ev7 => ?_)
  have tv7 := q_add ev7 (by omega) (by omega)
  refine va_sld hx hb hX hbl hbA hS1 (q_in (by omega) (by omega)) dL_law_746 (lv_topi fun v8 ev8 => ?_)
  refine lv_aload_n hx hb dL_law_747 rfl (lv_at hl 3 rfl) ?_
  refine lv_iload_n hx hb dL_law_748 rfl (lv_at hl 0 rfl) ?_
  refine lv_iconst (v := 2) hx hb dL_law_749 (by decide) ?_
  refine lv_iadd hx hb dL_law_750 (lv_topi fun v9 ev9 => ?_)
  have tv9 := q_add ev9 (by omega) (by omega)
  refine va_sld hx hb hX hbl hbA hS1 (q_in (by omega) (by omega)) dL_law_751 (lv_topi fun v10 ev10 => ?_)
  refine lv_aload_n hx hb dL_law_752 rfl (lv_at hl 3 rfl) ?_
  refine lv_iload_n hx hb dL_law_753 rfl (lv_at hl 0 rfl) ?_
  refine lv_iconst (v := 3) hx hb dL_law_754 (by decide) ?_
  refine lv_iadd hx hb dL_law_755 (lv_topi fun v11 ev11 => ?_)
  have tv11 := q_add ev11 (by omega) (by omega)
  refine va_sld hx hb hX hbl hbA hS1 (q_in (by omega) (by omega)) dL_law_756 (lv_topi fun v12 ev12 => ?_)
  refine q_cL (As := [.int v8, .int v10, .int v12]) (rest := []) q_exw hE hKy hQ1 hey hP1 (he1.trans hex) hDy hd2 hS1 hA ⟨hx, hb, hml, hown, hts⟩ (F_r_odds l dC dI _ hIy v8 v10 v12) (cwV 3 hts (p1_gV m_5 m_6 m_7 m_8 iz_r_odds gz_r_odds) rfl rfl rfl (by decide +kernel) ⟨by decide, by decide⟩) (hIy.recv hKy hQ1) rfl hl.1 rfl (Nat.le_of_ble_eq_true rfl) dL_law_757 ⟨by show nc ≤ 600000; omega, by show ns ≤ 7302250; omega⟩ (fun r2 H2 lo2 t2 ht2 hg2 hQ2 hS2 => ?_)
  obtain ⟨w2, hI2, hP2, he2⟩ := hg2
  rw [ht2] at hP2
  refine lv_pop hx hb dL_law_760 rfl ?_
  refine lv_goto (tgt := 1382) hx hb dL_law_761 (by decide) ?_
  exact kk tm w1 w2 H2 _ ls hI1 hI2 hQ2 (he1.trans hex) hP2 (he2.trans hey) hS2 hl
