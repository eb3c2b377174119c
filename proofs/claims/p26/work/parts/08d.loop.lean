set_option maxHeartbeats 4000000 in
set_option maxRecDepth 100000 in
theorem law_loop {p : Program} {e : Env} {s : State} {m : MethodId} {below : List Frame} {meth : Method} {c : Code} (l : Launch) {b L : Nat} {xs : Nat → Int32} (C0 : lw_At p s m meth c b L xs) {A : Nat → Prop} (hAe : A = fun q : Nat => s.heap.size ≤ q) (hE : q_ex A s s.heap) (dC : Nat → ClassId) (dI : Nat → Nat → Nat) {nc ns : Nat} (hnc : nc ≤ 600000) (hns : ns ≤ 7302250) {x y : Nat} {a1 a2 : List Nat} {tx ty : List (ClassId × FieldType)} (hKx : va_K (dC, dI) vwCl tx s) (hKy : va_K (dC, dI) vwCl ty s) (hDx : q_DA A a1) (hDy : q_DA A a2) (hd1 : ∀ q ∈ a1, q ∉ a2) (hd2 : ∀ q ∈ a2, q ∉ a1) (hL : L ≤ 3072) : ∀ (fu : Nat) (i : Int32), (L : Int) - i.toInt ≤ (fu : Int) → 0 ≤ i.toInt → i.toInt ≤ 4000 → ∀ (tm : Int32) (wx wy : va_W) (H : Heap) (locs : List Loc) (ls : Array Slot) (hIx : IX x tm wx tx) (hIy : IM y tm wy ty) (hPx : va_P (dC, dI) vwCl wx H) (hex : wx.map Prod.fst = a1) (hPy : va_P (dC, dI) vwCl wy H) (hey : wy.map Prod.fst = a2) (hS : va_S A s.heap H locs) (hl : lv_has ls 4 [(3, .int i), (2, .ref y), (1, .ref x), (0, .ref b)]), W p l e room_1 s m #[Value.ref b] below meth c H locs nc ns (lw_Z below #[Value.ref b] s) (F0 m 18 ls []) := by
  intro fu
  induction fu using Nat.strongRecOn with
  | ind fu ih =>
    intro i hfu hi0 hi4 tm wx wy H locs ls hIx hIy hPx hex hPy hey hS hl
    obtain ⟨hx, hb, hr, hml, hown, hts, hX, hbl, hlocks, hgv⟩ := id C0
    have hown : s.vm.findClass RL = some m.cls := hown
    have hA : ∀ q : Nat, s.heap.size ≤ q → A q := by rw [hAe]; exact fun _ h => h
    have hbA : ¬ A b := by rw [hAe]; exact Nat.not_le.mpr hbl
    have lt_6 : (6 : Int32).toInt = 6 := by decide
    have lt_31 : (31 : Int32).toInt = 31 := by decide
    refine lv_iload_n hx hb dL_law_18 rfl (lv_at hl 0 rfl) ?_
    refine lv_aload_n hx hb dL_law_19 rfl (lv_at hl 3 rfl) ?_
    refine va_slen hx hb hX hbl hbA hS dL_law_20 (lv_topi fun v1 ev1 => ?_)
    have tv1 : v1.toInt = L := by rw [ev1, Int32.toInt_ofNat_of_lt (by omega)]
    refine lv_bipush (v := 6) hx hb dL_law_21 (by decide) ?_
    refine lv_isub hx hb dL_law_23 (lv_topi fun v2 ev2 => ?_)
    have tv2 := q_sub ev2 (by omega) (by omega)
    refine lv_icmp_gt (tgt := 1388) hx hb dL_law_24 (by decide) (fun c1 => ?_) (fun c1 => ?_)
    · refine lv_iconst (v := 1) hx hb dL_law_1388 (by decide) ?_
      refine va_forget (fun q hq => by have h9 := hS.2.2 q hq; rw [hAe] at h9; exact h9) ?_
      refine W.widen (k := 600000) (n := 7302250) hnc hns ?_
      exact lw_ret hx hb hr hlocks dL_law_1389
    · have tc1 := q_leN c1
      have hi6 : i.toInt + 6 ≤ L := by omega
      have kk : ∀ (tm : Int32) (wx wy : va_W) (H : Heap) (locs : List Loc) (ls : Array Slot) (hIx : IX x tm wx tx) (hIy : IM y tm wy ty) (hPx : va_P (dC, dI) vwCl wx H) (hex : wx.map Prod.fst = a1) (hPy : va_P (dC, dI) vwCl wy H) (hey : wy.map Prod.fst = a2) (hS : va_S A s.heap H locs) (hl : lv_has ls 4 [(3, .int i), (2, .ref y), (1, .ref x), (0, .ref b)]), W p l e room_1 s m #[Value.ref b] below meth c H locs nc ns (lw_Z below #[Value.ref b] s) (F0 m 1382 ls []) := by
        intro tm wx wy H locs ls hIx hIy hPx hex hPy hey hS hl
        obtain ⟨v3, ev3⟩ : ∃ y : Int32, y = i + 6 := ⟨_, rfl⟩
        have tv3 := q_add ev3 (by omega) (by omega)
        refine lv_iinc (v := v3) (lv' := [(3, .int v3), (2, .ref y), (1, .ref x), (0, .ref b)]) hx hb dL_law_1382 hl (k := 0) rfl (by rw [ev3]; rfl) (by decide) rfl (fun ls hl => ?_)
        refine lv_goto (tgt := 18) hx hb dL_law_1385 (by decide) ?_
        exact ih (fu - 1) (by omega) v3 (by omega) (by omega) (by omega) tm wx wy H locs ls hIx hIy hPx hex hPy hey hS hl
      refine lv_aload_n hx hb dL_law_27 rfl (lv_at hl 3 rfl) ?_
      refine lv_iload_n hx hb dL_law_28 rfl (lv_at hl 0 rfl) ?_
      refine va_sld hx hb hX hbl hbA hS (q_in (by omega) (by omega)) dL_law_29 (lv_topi fun v4 ev4 => ?_)
      refine lv_bipush (v := 31) hx hb dL_law_30 (by decide) ?_
      refine lv_iand hx hb dL_law_32 (lv_topi fun v5 ev5 => ?_)
      have tv5 := q_and (k := 5) ev5 (by decide) (by decide)
      by_cases hk0 : v5 = 0
      · refine lv_tableIn (tgt := 176) (off := 143) hx hb dL_law_33 (by rw [hk0]; decide) (by rw [hk0]; decide) (by rw [hk0]; decide) (by decide) ?_
        exact law_feed l C0 hAe hE dC dI hnc hns hKx hKy hDx hDy hd1 hd2 i hi0 hi6 hL tm wx wy H locs ls hIx hIy hPx hex hPy hey hS hl kk
      have tk0 := q_ne hk0
      have lt9_0 : (0 : Int32).toInt = 0 := by decide
      by_cases hk1 : v5 = 1
      · refine lv_tableIn (tgt := 239) (off := 206) hx hb dL_law_33 (by rw [hk1]; decide) (by rw [hk1]; decide) (by rw [hk1]; decide) (by decide) ?_
        exact law_end l C0 hAe hE dC dI hnc hns hKx hKy hDx hDy hd1 hd2 i hi0 hi6 hL tm wx wy H locs ls hIx hIy hPx hex hPy hey hS hl kk
      have tk1 := q_ne hk1
      have lt9_1 : (1 : Int32).toInt = 1 := by decide
      by_cases hk2 : v5 = 2
      · refine lv_tableIn (tgt := 262) (off := 229) hx hb dL_law_33 (by rw [hk2]; decide) (by rw [hk2]; decide) (by rw [hk2]; decide) (by decide) ?_
        exact law_shop l C0 hAe hE dC dI hnc hns hKx hKy hDx hDy hd1 hd2 i hi0 hi6 hL tm wx wy H locs ls hIx hIy hPx hex hPy hey hS hl kk
      have tk2 := q_ne hk2
      have lt9_2 : (2 : Int32).toInt = 2 := by decide
      by_cases hk3 : v5 = 3
      · refine lv_tableIn (tgt := 275) (off := 242) hx hb dL_law_33 (by rw [hk3]; decide) (by rw [hk3]; decide) (by rw [hk3]; decide) (by decide) ?_
        exact law_fault l C0 hAe hE dC dI hnc hns hKx hKy hDx hDy hd1 hd2 i hi0 hi6 hL tm wx wy H locs ls hIx hIy hPx hex hPy hey hS hl kk
      have tk3 := q_ne hk3
      have lt9_3 : (3 : Int32).toInt = 3 := by decide
      by_cases hk4 : v5 = 4
      · refine lv_tableIn (tgt := 298) (off := 265) hx hb dL_law_33 (by rw [hk4]; decide) (by rw [hk4]; decide) (by rw [hk4]; decide) (by decide) ?_
        exact law_knot l C0 hAe hE dC dI hnc hns hKx hKy hDx hDy hd1 hd2 i hi0 hi6 hL tm wx wy H locs ls hIx hIy hPx hex hPy hey hS hl kk
      have tk4 := q_ne hk4
      have lt9_4 : (4 : Int32).toInt = 4 := by decide
      by_cases hk5 : v5 = 5
      · refine lv_tableIn (tgt := 331) (off := 298) hx hb dL_law_33 (by rw [hk5]; decide) (by rw [hk5]; decide) (by rw [hk5]; decide) (by decide) ?_
        exact law_tie l C0 hAe hE dC dI hnc hns hKx hKy hDx hDy hd1 hd2 i hi0 hi6 hL tm wx wy H locs ls hIx hIy hPx hex hPy hey hS hl kk
      have tk5 := q_ne hk5
      have lt9_5 : (5 : Int32).toInt = 5 := by decide
      by_cases hk6 : v5 = 6
      · refine lv_tableIn (tgt := 364) (off := 331) hx hb dL_law_33 (by rw [hk6]; decide) (by rw [hk6]; decide) (by rw [hk6]; decide) (by decide) ?_
        exact law_walk l C0 hAe hE dC dI hnc hns hKx hKy hDx hDy hd1 hd2 i hi0 hi6 hL tm wx wy H locs ls hIx hIy hPx hex hPy hey hS hl kk
      have tk6 := q_ne hk6
      have lt9_6 : (6 : Int32).toInt = 6 := by decide
      by_cases hk7 : v5 = 7
      · refine lv_tableIn (tgt := 397) (off := 364) hx hb dL_law_33 (by rw [hk7]; decide) (by rw [hk7]; decide) (by rw [hk7]; decide) (by decide) ?_
        exact law_pull l C0 hAe hE dC dI hnc hns hKx hKy hDx hDy hd1 hd2 i hi0 hi6 hL tm wx wy H locs ls hIx hIy hPx hex hPy hey hS hl kk
      have tk7 := q_ne hk7
      have lt9_7 : (7 : Int32).toInt = 7 := by decide
      by_cases hk8 : v5 = 8
      · refine lv_tableIn (tgt := 420) (off := 387) hx hb dL_law_33 (by rw [hk8]; decide) (by rw [hk8]; decide) (by rw [hk8]; decide) (by decide) ?_
        exact law_bow l C0 hAe hE dC dI hnc hns hKx hKy hDx hDy hd1 hd2 i hi0 hi6 hL tm wx wy H locs ls hIx hIy hPx hex hPy hey hS hl kk
      have tk8 := q_ne hk8
      have lt9_8 : (8 : Int32).toInt = 8 := by decide
      by_cases hk9 : v5 = 9
      · refine lv_tableIn (tgt := 443) (off := 410) hx hb dL_law_33 (by rw [hk9]; decide) (by rw [hk9]; decide) (by rw [hk9]; decide) (by decide) ?_
        exact law_holds l C0 hAe hE dC dI hnc hns hKx hKy hDx hDy hd1 hd2 i hi0 hi6 hL tm wx wy H locs ls hIx hIy hPx hex hPy hey hS hl kk
      have tk9 := q_ne hk9
      have lt9_9 : (9 : Int32).toInt = 9 := by decide
      by_cases hk10 : v5 = 10
      · refine lv_tableIn (tgt := 496) (off := 463) hx hb dL_law_33 (by rw [hk10]; decide) (by rw [hk10]; decide) (by rw [hk10]; decide) (by decide) ?_
        exact law_begins l C0 hAe hE dC dI hnc hns hKx hKy hDx hDy hd1 hd2 i hi0 hi6 hL tm wx wy H locs ls hIx hIy hPx hex hPy hey hS hl kk
      have tk10 := q_ne hk10
      have lt9_10 : (10 : Int32).toInt = 10 := by decide
      by_cases hk11 : v5 = 11
      · refine lv_tableIn (tgt := 539) (off := 506) hx hb dL_law_33 (by rw [hk11]; decide) (by rw [hk11]; decide) (by rw [hk11]; decide) (by decide) ?_
        exact law_alone l C0 hAe hE dC dI hnc hns hKx hKy hDx hDy hd1 hd2 i hi0 hi6 hL tm wx wy H locs ls hIx hIy hPx hex hPy hey hS hl kk
      have tk11 := q_ne hk11
      have lt9_11 : (11 : Int32).toInt = 11 := by decide
      by_cases hk12 : v5 = 12
      · refine lv_tableIn (tgt := 592) (off := 559) hx hb dL_law_33 (by rw [hk12]; decide) (by rw [hk12]; decide) (by rw [hk12]; decide) (by decide) ?_
        exact law_undone l C0 hAe hE dC dI hnc hns hKx hKy hDx hDy hd1 hd2 i hi0 hi6 hL tm wx wy H locs ls hIx hIy hPx hex hPy hey hS hl kk
      have tk12 := q_ne hk12
      have lt9_12 : (12 : Int32).toInt = 12 := by decide
      by_cases hk13 : v5 = 13
      · refine lv_tableIn (tgt := 625) (off := 592) hx hb dL_law_33 (by rw [hk13]; decide) (by rw [hk13]; decide) (by rw [hk13]; decide) (by decide) ?_
        exact law_met l C0 hAe hE dC dI hnc hns hKx hKy hDx hDy hd1 hd2 i hi0 hi6 hL tm wx wy H locs ls hIx hIy hPx hex hPy hey hS hl kk
      have tk13 := q_ne hk13
      have lt9_13 : (13 : Int32).toInt = 13 := by decide
      by_cases hk14 : v5 = 14
      · refine lv_tableIn (tgt := 678) (off := 645) hx hb dL_law_33 (by rw [hk14]; decide) (by rw [hk14]; decide) (by rw [hk14]; decide) (by decide) ?_
        exact law_meets l C0 hAe hE dC dI hnc hns hKx hKy hDx hDy hd1 hd2 i hi0 hi6 hL tm wx wy H locs ls hIx hIy hPx hex hPy hey hS hl kk
      have tk14 := q_ne hk14
      have lt9_14 : (14 : Int32).toInt = 14 := by decide
      by_cases hk15 : v5 = 15
      · refine lv_tableIn (tgt := 721) (off := 688) hx hb dL_law_33 (by rw [hk15]; decide) (by rw [hk15]; decide) (by rw [hk15]; decide) (by decide) ?_
        exact law_odds l C0 hAe hE dC dI hnc hns hKx hKy hDx hDy hd1 hd2 i hi0 hi6 hL tm wx wy H locs ls hIx hIy hPx hex hPy hey hS hl kk
      have tk15 := q_ne hk15
      have lt9_15 : (15 : Int32).toInt = 15 := by decide
      by_cases hk16 : v5 = 16
      · refine lv_tableIn (tgt := 764) (off := 731) hx hb dL_law_33 (by rw [hk16]; decide) (by rw [hk16]; decide) (by rw [hk16]; decide) (by decide) ?_
        exact law_worse l C0 hAe hE dC dI hnc hns hKx hKy hDx hDy hd1 hd2 i hi0 hi6 hL tm wx wy H locs ls hIx hIy hPx hex hPy hey hS hl kk
      have tk16 := q_ne hk16
      have lt9_16 : (16 : Int32).toInt = 16 := by decide
      by_cases hk17 : v5 = 17
      · refine lv_tableIn (tgt := 817) (off := 784) hx hb dL_law_33 (by rw [hk17]; decide) (by rw [hk17]; decide) (by rw [hk17]; decide) (by decide) ?_
        exact law_which l C0 hAe hE dC dI hnc hns hKx hKy hDx hDy hd1 hd2 i hi0 hi6 hL tm wx wy H locs ls hIx hIy hPx hex hPy hey hS hl kk
      have tk17 := q_ne hk17
      have lt9_17 : (17 : Int32).toInt = 17 := by decide
      by_cases hk18 : v5 = 18
      · refine lv_tableIn (tgt := 860) (off := 827) hx hb dL_law_33 (by rw [hk18]; decide) (by rw [hk18]; decide) (by rw [hk18]; decide) (by decide) ?_
        exact law_best l C0 hAe hE dC dI hnc hns hKx hKy hDx hDy hd1 hd2 i hi0 hi6 hL tm wx wy H locs ls hIx hIy hPx hex hPy hey hS hl kk
      have tk18 := q_ne hk18
      have lt9_18 : (18 : Int32).toInt = 18 := by decide
      by_cases hk19 : v5 = 19
      · refine lv_tableIn (tgt := 923) (off := 890) hx hb dL_law_33 (by rw [hk19]; decide) (by rw [hk19]; decide) (by rw [hk19]; decide) (by decide) ?_
        exact law_both l C0 hAe hE dC dI hnc hns hKx hKy hDx hDy hd1 hd2 i hi0 hi6 hL tm wx wy H locs ls hIx hIy hPx hex hPy hey hS hl kk
      have tk19 := q_ne hk19
      have lt9_19 : (19 : Int32).toInt = 19 := by decide
      by_cases hk20 : v5 = 20
      · refine lv_tableIn (tgt := 956) (off := 923) hx hb dL_law_33 (by rw [hk20]; decide) (by rw [hk20]; decide) (by rw [hk20]; decide) (by decide) ?_
        exact law_ends l C0 hAe hE dC dI hnc hns hKx hKy hDx hDy hd1 hd2 i hi0 hi6 hL tm wx wy H locs ls hIx hIy hPx hex hPy hey hS hl kk
      have tk20 := q_ne hk20
      have lt9_20 : (20 : Int32).toInt = 20 := by decide
      by_cases hk21 : v5 = 21
      · refine lv_tableIn (tgt := 1009) (off := 976) hx hb dL_law_33 (by rw [hk21]; decide) (by rw [hk21]; decide) (by rw [hk21]; decide) (by decide) ?_
        exact law_change l C0 hAe hE dC dI hnc hns hKx hKy hDx hDy hd1 hd2 i hi0 hi6 hL tm wx wy H locs ls hIx hIy hPx hex hPy hey hS hl kk
      have tk21 := q_ne hk21
      have lt9_21 : (21 : Int32).toInt = 21 := by decide
      by_cases hk22 : v5 = 22
      · refine lv_tableIn (tgt := 1072) (off := 1039) hx hb dL_law_33 (by rw [hk22]; decide) (by rw [hk22]; decide) (by rw [hk22]; decide) (by decide) ?_
        exact law_film l C0 hAe hE dC dI hnc hns hKx hKy hDx hDy hd1 hd2 i hi0 hi6 hL tm wx wy H locs ls hIx hIy hPx hex hPy hey hS hl kk
      have tk22 := q_ne hk22
      have lt9_22 : (22 : Int32).toInt = 22 := by decide
      by_cases hk23 : v5 = 23
      · refine lv_tableIn (tgt := 1135) (off := 1102) hx hb dL_law_33 (by rw [hk23]; decide) (by rw [hk23]; decide) (by rw [hk23]; decide) (by decide) ?_
        exact law_untell l C0 hAe hE dC dI hnc hns hKx hKy hDx hDy hd1 hd2 i hi0 hi6 hL tm wx wy H locs ls hIx hIy hPx hex hPy hey hS hl kk
      have tk23 := q_ne hk23
      have lt9_23 : (23 : Int32).toInt = 23 := by decide
      by_cases hk24 : v5 = 24
      · refine lv_tableIn (tgt := 1158) (off := 1125) hx hb dL_law_33 (by rw [hk24]; decide) (by rw [hk24]; decide) (by rw [hk24]; decide) (by decide) ?_
        exact law_later l C0 hAe hE dC dI hnc hns hKx hKy hDx hDy hd1 hd2 i hi0 hi6 hL tm wx wy H locs ls hIx hIy hPx hex hPy hey hS hl kk
      have tk24 := q_ne hk24
      have lt9_24 : (24 : Int32).toInt = 24 := by decide
      by_cases hk25 : v5 = 25
      · refine lv_tableIn (tgt := 1181) (off := 1148) hx hb dL_law_33 (by rw [hk25]; decide) (by rw [hk25]; decide) (by rw [hk25]; decide) (by decide) ?_
        exact law_fits l C0 hAe hE dC dI hnc hns hKx hKy hDx hDy hd1 hd2 i hi0 hi6 hL tm wx wy H locs ls hIx hIy hPx hex hPy hey hS hl kk
      have tk25 := q_ne hk25
      have lt9_25 : (25 : Int32).toInt = 25 := by decide
      by_cases hk26 : v5 = 26
      · refine lv_tableIn (tgt := 1204) (off := 1171) hx hb dL_law_33 (by rw [hk26]; decide) (by rw [hk26]; decide) (by rw [hk26]; decide) (by decide) ?_
        exact law_parts l C0 hAe hE dC dI hnc hns hKx hKy hDx hDy hd1 hd2 i hi0 hi6 hL tm wx wy H locs ls hIx hIy hPx hex hPy hey hS hl kk
      have tk26 := q_ne hk26
      have lt9_26 : (26 : Int32).toInt = 26 := by decide
      by_cases hk27 : v5 = 27
      · refine lv_tableIn (tgt := 1257) (off := 1224) hx hb dL_law_33 (by rw [hk27]; decide) (by rw [hk27]; decide) (by rw [hk27]; decide) (by decide) ?_
        exact law_began l C0 hAe hE dC dI hnc hns hKx hKy hDx hDy hd1 hd2 i hi0 hi6 hL tm wx wy H locs ls hIx hIy hPx hex hPy hey hS hl kk
      have tk27 := q_ne hk27
      have lt9_27 : (27 : Int32).toInt = 27 := by decide
      by_cases hk28 : v5 = 28
      · refine lv_tableIn (tgt := 1290) (off := 1257) hx hb dL_law_33 (by rw [hk28]; decide) (by rw [hk28]; decide) (by rw [hk28]; decide) (by decide) ?_
        exact law_seed l C0 hAe hE dC dI hnc hns hKx hKy hDx hDy hd1 hd2 i hi0 hi6 hL tm wx wy H locs ls hIx hIy hPx hex hPy hey hS hl kk
      have tk28 := q_ne hk28
      have lt9_28 : (28 : Int32).toInt = 28 := by decide
      by_cases hk29 : v5 = 29
      · refine lv_tableIn (tgt := 1313) (off := 1280) hx hb dL_law_33 (by rw [hk29]; decide) (by rw [hk29]; decide) (by rw [hk29]; decide) (by decide) ?_
        exact law_image l C0 hAe hE dC dI hnc hns hKx hKy hDx hDy hd1 hd2 i hi0 hi6 hL tm wx wy H locs ls hIx hIy hPx hex hPy hey hS hl kk
      have tk29 := q_ne hk29
      have lt9_29 : (29 : Int32).toInt = 29 := by decide
      by_cases hk30 : v5 = 30
      · refine lv_tableIn (tgt := 1336) (off := 1303) hx hb dL_law_33 (by rw [hk30]; decide) (by rw [hk30]; decide) (by rw [hk30]; decide) (by decide) ?_
        exact law_back l C0 hAe hE dC dI hnc hns hKx hKy hDx hDy hd1 hd2 i hi0 hi6 hL tm wx wy H locs ls hIx hIy hPx hex hPy hey hS hl kk
      have tk30 := q_ne hk30
      have lt9_30 : (30 : Int32).toInt = 30 := by decide
      by_cases hk31 : v5 = 31
      · refine lv_tableIn (tgt := 1359) (off := 1326) hx hb dL_law_33 (by rw [hk31]; decide) (by rw [hk31]; decide) (by rw [hk31]; decide) (by decide) ?_
        exact law_about l C0 hAe hE dC dI hnc hns hKx hKy hDx hDy hd1 hd2 i hi0 hi6 hL tm wx wy H locs ls hIx hIy hPx hex hPy hey hS hl kk
      have tk31 := q_ne hk31
      have lt9_31 : (31 : Int32).toInt = 31 := by decide
      exfalso
      omega
