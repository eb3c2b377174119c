set_option maxHeartbeats 4000000 in
set_option maxRecDepth 100000 in
theorem law_later {p : Program} {e : Env} {s : State} {m : MethodId} {below : List Frame} {meth : Method} {c : Code} (l : Launch) {b L : Nat} {xs : Nat → Int32} (C0 : lw_At p s m meth c b L xs) {A : Nat → Prop} (hAe : A = fun q : Nat => s.heap.size ≤ q) (hE : q_ex A s s.heap) (dC : Nat → ClassId) (dI : Nat → Nat → Nat) {nc ns : Nat} (hnc : nc ≤ 600000) (hns : ns ≤ 7302250) {x y : Nat} {a1 a2 : List Nat} {tx ty : List (ClassId × FieldType)} (hKx : va_K (dC, dI) vwCl tx s) (hKy : va_K (dC, dI) vwCl ty s) (hDx : q_DA A a1) (hDy : q_DA A a2) (hd1 : ∀ q ∈ a1, q ∉ a2) (hd2 : ∀ q ∈ a2, q ∉ a1) (i : Int32) (hi0 : 0 ≤ i.toInt) (hi6 : i.toInt + 6 ≤ L) (hL : L ≤ 3072) (tm : Int32) (wx wy : va_W) (H : Heap) (locs : List Loc) (ls : Array Slot) (hIx : IX x tm wx tx) (hIy : IM y tm wy ty) (hPx : va_P (dC, dI) vwCl wx H) (hex : wx.map Prod.fst = a1) (hPy : va_P (dC, dI) vwCl wy H) (hey : wy.map Prod.fst = a2) (hS : va_S A s.heap H locs) (hl : lv_has ls 4 [(3, .int i), (2, .ref y), (1, .ref x), (0, .ref b)]) (kk : ∀ (tm : Int32) (wx wy : va_W) (H : Heap) (locs : List Loc) (ls : Array Slot) (hIx : IX x tm wx tx) (hIy : IM y tm wy ty) (hPx : va_P (dC, dI) vwCl wx H) (hex : wx.map Prod.fst = a1) (hPy : va_P (dC, dI) vwCl wy H) (hey : wy.map Prod.fst = a2) (hS : va_S A s.heap H locs) (hl : lv_has ls 4 [(3, .int i), (2, .ref y), (1, .ref x), (0, .ref b)]), W p l e room_1 s m #[Value.ref b] below meth c H locs nc ns (lw_Z below #[Value.ref b] s) (F0 m 1382 ls [])) : W p l e room_1 s m #[Value.ref b] below meth c H locs nc ns (lw_Z below #[Value.ref b] s) (F0 m 1158 ls []) := by
  obtain ⟨hx, hb, hr, hml, hown, hts, hX, hbl, hlocks, hgv⟩ := id C0
  have hown : s.vm.findClass RL = some m.cls := hown
  have hA : ∀ q : Nat, s.heap.size ≤ q → A q := by rw [hAe]; exact fun _ h => h
  have hbA : ¬ A b := by rw [hAe]; exact Nat.not_le.mpr hbl
  have lt_1 : (1 : Int32).toInt = 1 := by decide
  have m_1 : (.methodLink RL 116 yX8_later : Cond) ∈ lw_tbl := q_w (n := 972) (by decide +kernel)
  have m_2 : (.instanceMethod yX8_later : Cond) ∈ lw_tbl := q_w (n := 973) (by decide +kernel)
  have m_3 : (.selects RX8 yX8_later yX8_later : Cond) ∈ lw_tbl := q_w (n := 974) (by decide +kernel)
  have m_4 : (.initialized RX8 : Cond) ∈ lw_tbl := q_w (n := 104) (by decide +kernel)
  have m_5 : (.methodLink RL 119 yX9_later : Cond) ∈ lw_tbl := q_w (n := 1640) (by decide +kernel)
  have m_6 : (.instanceMethod yX9_later : Cond) ∈ lw_tbl := q_w (n := 1641) (by decide +kernel)
  have m_7 : (.selects RX9 yX9_later yX9_later : Cond) ∈ lw_tbl := q_w (n := 1642) (by decide +kernel)
  have m_8 : (.initialized RX9 : Cond) ∈ lw_tbl := q_w (n := 116) (by decide +kernel)
  refine lv_aload_n hx hb dL_law_1158 rfl (lv_at hl 2 rfl) ?_
  refine lv_aload_n hx hb dL_law_1159 rfl (lv_at hl 3 rfl) ?_
  refine lv_iload_n hx hb dL_law_1160 rfl (lv_at hl 0 rfl) ?_
  refine lv_iconst (v := 1) hx hb dL_law_1161 (by decide) ?_
  refine lv_iadd hx hb dL_law_1162 (lv_topi fun v1 ev1 => ?_)
  have tv1 := q_add ev1 (by omega) (by omega)
  refine va_sld hx hb hX hbl hbA hS (q_in (by omega) (by omega)) dL_law_1163 (lv_topi fun v2 ev2 => ?_)
  refine q_cL (As := [.int v2]) (rest := []) q_exw hE hKx hPx hex hPy hey hDx hd1 hS hA ⟨hx, hb, hml, hown, hts⟩ (F_t_later l dC dI _ hIx v2) (cwV 1 hts (p1_gV m_1 m_2 m_3 m_4 iz_t_later gz_t_later) rfl rfl rfl (by decide +kernel) ⟨by decide, by decide⟩) (hIx.recv hKx hPx) rfl hl.1 rfl (Nat.le_of_ble_eq_true rfl) dL_law_1164 ⟨by show nc ≤ 600000; omega, by show ns ≤ 7302250; omega⟩ (fun r1 H1 lo1 t1 ht1 hg1 hQ1 hS1 => ?_)
  obtain ⟨w1, tm1, hL1, hI1, hP1, he1⟩ := hg1
  rw [ht1] at hP1
  refine lv_aload_n hx hb dL_law_1167 rfl (lv_at hl 1 rfl) ?_
  refine lv_aload_n hx hb dL_law_1168 rfl (lv_at hl 3 rfl) ?_
  refine lv_iload_n hx hb dL_law_1169 rfl (lv_at hl 0 rfl) ?_
  refine lv_iconst (v := 1) hx hb dL_law_1170 (by decide) ?_
  refine lv_iadd hx hb dL_law_1171 (lv_topi fun v3 ev3 => ?_)
  have tv3 := q_add ev3 (by omega) (by omega)
  refine va_sld hx hb hX hbl hbA hS1 (q_in (by omega) (by omega)) dL_law_1172 (lv_topi fun v4 ev4 => ?_)
  refine q_cL (As := [.int v4]) (rest := [.int r1]) q_exw hE hKy hQ1 hey hP1 (he1.trans hex) hDy hd2 hS1 hA ⟨hx, hb, hml, hown, hts⟩ (F_r_later l dC dI _ hIy v4) (cwV 1 hts (p1_gV m_5 m_6 m_7 m_8 iz_r_later gz_r_later) rfl rfl rfl (by decide +kernel) ⟨by decide, by decide⟩) (hIy.recv hKy hQ1) rfl hl.1 rfl (Nat.le_of_ble_eq_true rfl) dL_law_1173 ⟨by show nc ≤ 600000; omega, by show ns ≤ 7302250; omega⟩ (fun r2 H2 lo2 t2 ht2 hg2 hQ2 hS2 => ?_)
  obtain ⟨w2, tm2, hL2, hI2, hP2, he2⟩ := hg2
  rw [ht2] at hP2
  have hvv : v4 = v2 := by rw [ev4, ev2, ev3, ev1]
  have hvt : v4.toInt = v2.toInt := by rw [hvv]
  have hrr : r1 = r2 := q_of (by omega)
  have htt : tm1 = tm2 := q_of (by omega)
  refine lv_icmp_eq (tgt := 1382) hx hb dL_law_1176 (by decide) (fun _ => ?_) (fun c9 => absurd hrr c9)
  rw [← htt] at hI2
  exact kk tm1 w1 w2 H2 _ ls hI1 hI2 hQ2 (he1.trans hex) hP2 (he2.trans hey) hS2 hl
set_option maxHeartbeats 4000000 in
set_option maxRecDepth 100000 in
theorem law_fits {p : Program} {e : Env} {s : State} {m : MethodId} {below : List Frame} {meth : Method} {c : Code} (l : Launch) {b L : Nat} {xs : Nat → Int32} (C0 : lw_At p s m meth c b L xs) {A : Nat → Prop} (hAe : A = fun q : Nat => s.heap.size ≤ q) (hE : q_ex A s s.heap) (dC : Nat → ClassId) (dI : Nat → Nat → Nat) {nc ns : Nat} (hnc : nc ≤ 600000) (hns : ns ≤ 7302250) {x y : Nat} {a1 a2 : List Nat} {tx ty : List (ClassId × FieldType)} (hKx : va_K (dC, dI) vwCl tx s) (hKy : va_K (dC, dI) vwCl ty s) (hDx : q_DA A a1) (hDy : q_DA A a2) (hd1 : ∀ q ∈ a1, q ∉ a2) (hd2 : ∀ q ∈ a2, q ∉ a1) (i : Int32) (hi0 : 0 ≤ i.toInt) (hi6 : i.toInt + 6 ≤ L) (hL : L ≤ 3072) (tm : Int32) (wx wy : va_W) (H : Heap) (locs : List Loc) (ls : Array Slot) (hIx : IX x tm wx tx) (hIy : IM y tm wy ty) (hPx : va_P (dC, dI) vwCl wx H) (hex : wx.map Prod.fst = a1) (hPy : va_P (dC, dI) vwCl wy H) (hey : wy.map Prod.fst = a2) (hS : va_S A s.heap H locs) (hl : lv_has ls 4 [(3, .int i), (2, .ref y), (1, .ref x), (0, .ref b)]) (kk : ∀ (tm : Int32) (wx wy : va_W) (H : Heap) (locs : List Loc) (ls : Array Slot) (hIx : IX x tm wx tx) (hIy : IM y tm wy ty) (hPx : va_P (dC, dI) vwCl wx H) (hex : wx.map Prod.fst = a1) (hPy : va_P (dC, dI) vwCl wy H) (hey : wy.map Prod.fst = a2) (hS : va_S A s.heap H locs) (hl : lv_has ls 4 [(3, .int i), (2, .ref y), (1, .ref x), (0, .ref b)]), W p l e room_1 s m #[Value.ref b] below meth c H locs nc ns (lw_Z below #[Value.ref b] s) (F0 m 1382 ls [])) : W p l e room_1 s m #[Value.ref b] below meth c H locs nc ns (lw_Z below #[Value.ref b] s) (F0 m 1181 ls []) := by
  obtain ⟨hx, hb, hr, hml, hown, hts, hX, hbl, hlocks, hgv⟩ := id C0
  have hown : s.vm.findClass RL = some m.cls := hown
  have hA : ∀ q : Nat, s.heap.size ≤ q → A q := by rw [hAe]; exact fun _ h => h
  have hbA : ¬ A b := by rw [hAe]; exact Nat.not_le.mpr hbl
  have lt_1 : (1 : Int32).toInt = 1 := by decide
  have m_1 : (.methodLink RL 120 yX8_fits : Cond) ∈ lw_tbl := q_w (n := 976) (by decide +kernel)
  have m_2 : (.instanceMethod yX8_fits : Cond) ∈ lw_tbl := q_w (n := 977) (by decide +kernel)
  have m_3 : (.selects RX8 yX8_fits yX8_fits : Cond) ∈ lw_tbl := q_w (n := 978) (by decide +kernel)
  have m_4 : (.initialized RX8 : Cond) ∈ lw_tbl := q_w (n := 104) (by decide +kernel)
  have m_5 : (.methodLink RL 123 yX9_fits : Cond) ∈ lw_tbl := q_w (n := 1644) (by decide +kernel)
  have m_6 : (.instanceMethod yX9_fits : Cond) ∈ lw_tbl := q_w (n := 1645) (by decide +kernel)
  have m_7 : (.selects RX9 yX9_fits yX9_fits : Cond) ∈ lw_tbl := q_w (n := 1646) (by decide +kernel)
  have m_8 : (.initialized RX9 : Cond) ∈ lw_tbl := q_w (n := 116) (by decide +kernel)
  refine lv_aload_n hx hb dL_law_1181 rfl (lv_at hl 2 rfl) ?_
  refine lv_aload_n hx hb dL_law_1182 rfl (lv_at hl 3 rfl) ?_
  refine lv_iload_n hx hb dL_law_1183 rfl (lv_at hl 0 rfl) ?_
  refine lv_iconst (v := 1) hx hb dL_law_1184 (by decide) ?_
  refine lv_iadd hx hb dL_law_1185 (lv_topi fun v1 ev1 => ?_)
  have tv1 := q_add ev1 (by omega) (by omega)
  refine va_sld hx hb hX hbl hbA hS (q_in (by omega) (by omega)) dL_law_1186 (lv_topi fun v2 ev2 => ?_)
  refine q_cL (As := [.int v2]) (rest := []) q_exw hE hKx hPx hex hPy hey hDx hd1 hS hA ⟨hx, hb, hml, hown, hts⟩ (F_t_fits l dC dI _ hIx v2) (cwV 1 hts (p1_gV m_1 m_2 m_3 m_4 iz_t_fits gz_t_fits) rfl rfl rfl (by decide +kernel) ⟨by decide, by decide⟩) (hIx.recv hKx hPx) rfl hl.1 rfl (Nat.le_of_ble_eq_true rfl) dL_law_1187 ⟨by show nc ≤ 600000; omega, by show ns ≤ 7302250; omega⟩ (fun r1 H1 lo1 t1 ht1 hg1 hQ1 hS1 => ?_)
  obtain ⟨w1, hI1, hP1, he1⟩ := hg1
  rw [ht1] at hP1
  refine lv_pop hx hb dL_law_1190 rfl ?_
  refine lv_aload_n hx hb dL_law_1191 rfl (lv_at hl 1 rfl) ?_
  refine lv_aload_n hx hb dL_law_1192 rfl (lv_at hl 3 rfl) ?_
  refine lv_iload_n hx hb dL_law_1193 rfl (lv_at hl 0 rfl) ?_
  refine lv_iconst (v := 1) hx hb dL_law_1194 (by decide) ?_
  refine lv_iadd hx hb dL_law_1195 (lv_topi fun v3 ev3 => ?_)
  have tv3 := q_add ev3 (by omega) (by omega)
  refine va_sld hx hb hX hbl hbA hS1 (q_in (by omega) (by omega)) dL_law_1196 (lv_topi fun v4 ev4 => ?_)
  refine q_cL (As := [.int v4]) (rest := []) q_exw hE hKy hQ1 hey hP1 (he1.trans hex) hDy hd2 hS1 hA ⟨hx, hb, hml, hown, hts⟩ (F_r_fits l dC dI _ hIy v4) (cwV 1 hts (p1_gV m_5 m_6 m_7 m_8 iz_r_fits gz_r_fits) rfl rfl rfl (by decide +kernel) ⟨by decide, by decide⟩) (hIy.recv hKy hQ1) rfl hl.1 rfl (Nat.le_of_ble_eq_true rfl) dL_law_1197 ⟨by show nc ≤ 600000; omega, by show ns ≤ 7302250; omega⟩ (fun r2 H2 lo2 t2 ht2 hg2 hQ2 hS2 => ?_)
  obtain ⟨w2, hI2, hP2, he2⟩ := hg2
  rw [ht2] at hP2
  refine lv_pop hx hb dL_law_1200 rfl ?_
  refine lv_goto (tgt := 1382) hx hb dL_law_1201 (by decide) ?_
  exact kk tm w1 w2 H2 _ ls hI1 hI2 hQ2 (he1.trans hex) hP2 (he2.trans hey) hS2 hl
set_option maxHeartbeats 4000000 in
set_option maxRecDepth 100000 in
theorem law_parts {p : Program} {e : Env} {s : State} {m : MethodId} {below : List Frame} {meth : Method} {c : Code} (l : Launch) {b L : Nat} {xs : Nat → Int32} (C0 : lw_At p s m meth c b L xs) {A : Nat → Prop} (hAe : A = fun q : Nat => s.heap.size ≤ q) (hE : q_ex A s s.heap) (dC : Nat → ClassId) (dI : Nat → Nat → Nat) {nc ns : Nat} (hnc : nc ≤ 600000) (hns : ns ≤ 7302250) {x y : Nat} {a1 a2 : List Nat} {tx ty : List (ClassId × FieldType)} (hKx : va_K (dC, dI) vwCl tx s) (hKy : va_K (dC, dI) vwCl ty s) (hDx : q_DA A a1) (hDy : q_DA A a2) (hd1 : ∀ q ∈ a1, q ∉ a2) (hd2 : ∀ q ∈ a2, q ∉ a1) (i : Int32) (hi0 : 0 ≤ i.toInt) (hi6 : i.toInt + 6 ≤ L) (hL : L ≤ 3072) (tm : Int32) (wx wy : va_W) (H : Heap) (locs : List Loc) (ls : Array Slot) (hIx : IX x tm wx tx) (hIy : IM y tm wy ty) (hPx : va_P (dC, dI) vwCl wx H) (hex : wx.map Prod.fst = a1) (hPy : va_P (dC, dI) vwCl wy H) (hey : wy.map Prod.fst = a2) (hS : va_S A s.heap H locs) (hl : lv_has ls 4 [(3, .int i), (2, .ref y), (1, .ref x), (0, .ref b)]) (kk : ∀ (tm : Int32) (wx wy : va_W) (H : Heap) (locs : List Loc) (ls : Array Slot) (hIx : IX x tm wx tx) (hIy : IM y tm wy ty) (hPx : va_P (dC, dI) vwCl wx H) (hex : wx.map Prod.fst = a1) (hPy : va_P (dC, dI) vwCl wy H) (hey : wy.map Prod.fst = a2) (hS : va_S A s.heap H locs) (hl : lv_has ls 4 [(3, .int i), (2, .ref y), (1, .ref x), (0, .ref b)]), W p l e room_1 s m #[Value.ref b] below meth c H locs nc ns (lw_Z below #[Value.ref b] s) (F0 m 1382 ls [])) : W p l e room_1 s m #[Value.ref b] below meth c H locs nc ns (lw_Z below #[Value.ref b] s) (F0 m 1204 ls []) := by
  obtain ⟨hx, hb, hr, hml, hown, hts, hX, hbl, hlocks, hgv⟩ := id C0
  have hown : s.vm.findClass RL = some m.cls := hown
  have hA : ∀ q : Nat, s.heap.size ≤ q → A q := by rw [hAe]; exact fun _ h => h
  have hbA : ¬ A b := by rw [hAe]; exact Nat.not_le.mpr hbl
  have lt_1 : (1 : Int32).toInt = 1 := by decide
  have lt_2 : (2 : Int32).toInt = 2 := by decide
  have lt_3 : (3 : Int32).toInt = 3 := by decide
  have lt_4 : (4 : Int32).toInt = 4 := by decide
  have m_1 : (.methodLink RL 124 yX8_parts : Cond) ∈ lw_tbl := q_w (n := 984) (by decide +kernel)
  have m_2 : (.instanceMethod yX8_parts : Cond) ∈ lw_tbl := q_w (n := 985) (by decide +kernel)
  have m_3 : (.selects RX8 yX8_parts yX8_parts : Cond) ∈ lw_tbl := q_w (n := 986) (by decide +kernel)
  have m_4 : (.initialized RX8 : Cond) ∈ lw_tbl := q_w (n := 104) (by decide +kernel)
  have m_5 : (.methodLink RL 127 yX9_parts : Cond) ∈ lw_tbl := q_w (n := 1660) (by decide +kernel)
  have m_6 : (.instanceMethod yX9_parts : Cond) ∈ lw_tbl := q_w (n := 1661) (by decide +kernel)
  have m_7 : (.selects RX9 yX9_parts yX9_parts : Cond) ∈ lw_tbl := q_w (n := 1662) (by decide +kernel)
  have m_8 : (.initialized RX9 : Cond) ∈ lw_tbl := q_w (n := 116) (by decide +kernel)
  refine lv_aload_n hx hb dL_law_1204 rfl (lv_at hl 2 rfl) ?_
  refine lv_aload_n hx hb dL_law_1205 rfl (lv_at hl 3 rfl) ?_
  refine lv_iload_n hx hb dL_law_1206 rfl (lv_at hl 0 rfl) ?_
  refine lv_iconst (v := 1) hx hb dL_law_1207 (by decide) ?_
  refine lv_iadd hx hb dL_law_1208 (lv_topi fun v1 ev1 => ?_)
  have tv1 := q_add ev1 (by omega) (by omega)
  refine va_sld hx hb hX hbl hbA hS (q_in (by omega) (by omega)) dL_law_1209 (lv_topi fun v2 ev2 => ?_)
  refine lv_aload_n hx hb dL_law_1210 rfl (lv_at hl 3 rfl) ?_
  refine lv_iload_n hx hb dL_law_1211 rfl (lv_at hl 0 rfl) ?_
  refine lv_iconst (v := 2) hx hb dL_law_1212 (by decide) ?_
  refine lv_iadd hx hb dL_law_1213 (lv_topi fun v3 ev3 => ?_)
  have tv3 := q_add ev3 (by omega) (by omega)
  refine va_sld hx hb hX hbl hbA hS (q_in (by omega) (by omega)) dL_law_1214 (lv_topi fun v4 ev4 => ?_)
  refine lv_aload_n hx hb dL_law_1215 rfl (lv_at hl 3 rfl) ?_
  refine lv_iload_n hx hb dL_law_1216 rfl (lv_at hl 0 rfl) ?_
  refine lv_iconst (v := 3) hx hb dL_law_1217 (by decide) ?_
  refine lv_iadd hx hb dL_law_1218 (lv_topi fun v5 ev5 => ?_)
  have tv5 := q_add ev5 (by omega) (by omega)
  refine va_sld hx hb hX hbl hbA hS (q_in (by omega) (by omega)) dL_law_1219 (lv_topi fun v6 ev6 => ?_)
  refine lv_aload_n hx hb dL_law_1220 rfl (lv_at hl 3 rfl) ?_
  refine lv_iload_n hx hb dL_law_1221 rfl (lv_at hl 0 rfl) ?_
  refine lv_iconst (v := 4) hx hb dL_law_1222 (by decide) ?_
  refine lv_iadd hx hb dL_law_1223 (lv_topi fun v7 ev7 => ?_)
  have tv7 := q_add ev7 (by omega) (by omega)
  refine va_sld hx hb hX hbl hbA hS (q_in (by omega) (by omega)) dL_law_1224 (lv_topi fun v8 ev8 => ?_)
  refine q_cL (As := [.int v2, .int v4, .int v6, .int v8]) (rest := []) q_exw hE hKx hPx hex hPy hey hDx hd1 hS hA ⟨hx, hb, hml, hown, hts⟩ (F_t_parts l dC dI _ hIx v2 v4 v6 v8) (cwV 4 hts (p1_gV m_1 m_2 m_3 m_4 iz_t_parts gz_t_parts) rfl rfl rfl (by decide +kernel) ⟨by decide, by decide⟩) (hIx.recv hKx hPx) rfl hl.1 rfl (Nat.le_of_ble_eq_true rfl) dL_law_1225 ⟨by show nc ≤ 600000; omega, by show ns ≤ 7302250; omega⟩ (fun r1 H1 lo1 t1 ht1 hg1 hQ1 hS1 => ?_)
  obtain ⟨w1, hI1, hP1, he1⟩ := hg1
  rw [ht1] at hP1
  refine lv_pop hx hb dL_law_1228 rfl ?_
  refine lv_aload_n hx hb dL_law_1229 rfl (lv_at hl 1 rfl) ?_
  refine lv_aload_n hx hb dL_law_1230 rfl (lv_at hl 3 rfl) ?_
  refine lv_iload_n hx hb dL_law_1231 rfl (lv_at hl 0 rfl) ?_
  refine lv_iconst (v := 1) hx hb dL_law_1232 (by decide) ?_
  refine lv_iadd hx hb dL_law_1233 (lv_topi fun v9 ev9 => ?_)
  have tv9 := q_add ev9 (by omega) (by omega)
  refine va_sld hx hb hX hbl hbA hS1 (q_in (by omega) (by omega)) dL_law_1234 (lv_topi fun v10 ev10 => ?_)
  refine lv_aload_n hx hb dL_law_1235 rfl (lv_at hl 3 rfl) ?_
  refine lv_iload_n hx hb dL_law_1236 rfl (lv_at hl 0 rfl) ?_
  refine lv_iconst (v := 2) hx hb dL_law_1237 (by decide) ?_
  refine lv_iadd hx hb dL_law_1238 (lv_topi fun v11 ev11 => ?_)
  have tv11 := q_add ev11 (by omega) (by omega)
  refine va_sld hx hb hX hbl hbA hS1 (q_in (by omega) (by omega)) dL_law_1239 (lv_topi fun v12 ev12 => ?_)
  refine lv_aload_n hx hb dL_law_1240 rfl (lv_at hl 3 rfl) ?_
  refine lv_iload_n hx hb dL_law_1241 rfl (lv_at hl 0 rfl) ?_
  refine lv_iconst (v := 3) hx hb dL_law_1242 (by decide) ?_
  refine lv_iadd hx hb dL_law_1243 (lv_topi fun v13 ev13 => ?_)
  have tv13 := q_add ev13 (by omega) (by omega)
  refine va_sld hx hb hX hbl hbA hS1 (q_in (by omega) (by omega)) dL_law_1244 (lv_topi fun v14 ev14 => ?_)
  refine lv_aload_n hx hb dL_law_1245 rfl (lv_at hl 3 rfl) ?_
  refine lv_iload_n hx hb dL_law_1246 rfl (lv_at hl 0 rfl) ?_
  refine lv_iconst (v := 4) hx hb dL_law_1247 (by decide) ?_
  refine lv_iadd hx hb dL_law_1248 (lv_topi fun v15 ev15 => ?_)
  have tv15 := q_add ev15 (by omega) (by omega)
  refine va_sld hx hb hX hbl hbA hS1 (q_in (by omega) (by omega)) dL_law_1249 (lv_topi fun v16 ev16 => ?_)
  refine q_cL (As := [.int v10, .int v12, .int v14, .int v16]) (rest := []) q_exw hE hKy hQ1 hey hP1 (he1.trans hex) hDy hd2 hS1 hA ⟨hx, hb, hml, hown, hts⟩ (F_r_parts l dC dI _ hIy v10 v12 v14 v16) (cwV 4 hts (p1_gV m_5 m_6 m_7 m_8 iz_r_parts gz_r_parts) rfl rfl rfl (by decide +kernel) ⟨by decide, by decide⟩) (hIy.recv hKy hQ1) rfl hl.1 rfl (Nat.le_of_ble_eq_true rfl) dL_law_1250 ⟨by show nc ≤ 600000; omega, by show ns ≤ 7302250; omega⟩ (fun r2 H2 lo2 t2 ht2 hg2 hQ2 hS2 => ?_)
  obtain ⟨w2, hI2, hP2, he2⟩ := hg2
  rw [ht2] at hP2
  refine lv_pop hx hb dL_law_1253 rfl ?_
  refine lv_goto (tgt := 1382) hx hb dL_law_1254 (by decide) ?_
  exact kk tm w1 w2 H2 _ ls hI1 hI2 hQ2 (he1.trans hex) hP2 (he2.trans hey) hS2 hl
set_option maxHeartbeats 4000000 in
set_option maxRecDepth 100000 in
theorem law_began {p : Program} {e : Env} {s : State} {m : MethodId} {below : List Frame} {meth : Method} {c : Code} (l : Launch) {b L : Nat} {xs : Nat → Int32} (C0 : lw_At p s m meth c b L xs) {A : Nat → Prop} (hAe : A = fun q : Nat => s.heap.size ≤ q) (hE : q_ex A s s.heap) (dC : Nat → ClassId) (dI : Nat → Nat → Nat) {nc ns : Nat} (hnc : nc ≤ 600000) (hns : ns ≤ 7302250) {x y : Nat} {a1 a2 : List Nat} {tx ty : List (ClassId × FieldType)} (hKx : va_K (dC, dI) vwCl tx s) (hKy : va_K (dC, dI) vwCl ty s) (hDx : q_DA A a1) (hDy : q_DA A a2) (hd1 : ∀ q ∈ a1, q ∉ a2) (hd2 : ∀ q ∈ a2, q ∉ a1) (i : Int32) (hi0 : 0 ≤ i.toInt) (hi6 : i.toInt + 6 ≤ L) (hL : L ≤ 3072) (tm : Int32) (wx wy : va_W) (H : Heap) (locs : List Loc) (ls : Array Slot) (hIx : IX x tm wx tx) (hIy : IM y tm wy ty) (hPx : va_P (dC, dI) vwCl wx H) (hex : wx.map Prod.fst = a1) (hPy : va_P (dC, dI) vwCl wy H) (hey : wy.map Prod.fst = a2) (hS : va_S A s.heap H locs) (hl : lv_has ls 4 [(3, .int i), (2, .ref y), (1, .ref x), (0, .ref b)]) (kk : ∀ (tm : Int32) (wx wy : va_W) (H : Heap) (locs : List Loc) (ls : Array Slot) (hIx : IX x tm wx tx) (hIy : IM y tm wy ty) (hPx : va_P (dC, dI) vwCl wx H) (hex : wx.map Prod.fst = a1) (hPy : va_P (dC, dI) vwCl wy H) (hey : wy.map Prod.fst = a2) (hS : va_S A s.heap H locs) (hl : lv_has ls 4 [(3, .int i), (2, .ref y), (1, .ref x), (0, .ref b)]), W p l e room_1 s m #[Value.ref b] below meth c H locs nc ns (lw_Z below #[Value.ref b] s) (F0 m 1382 ls [])) : W p l e room_1 s m #[Value.ref b] below meth c H locs nc ns (lw_Z below #[Value.ref b] s) (F0 m 1257 ls []) := by
  obtain ⟨hx, hb, hr, hml, hown, hts, hX, hbl, hlocks, hgv⟩ := id C0
  have hown : s.vm.findClass RL = some m.cls := hown
  have hA : ∀ q : Nat, s.heap.size ≤ q → A q := by rw [hAe]; exact fun _ h => h
  have hbA : ¬ A b := by rw [hAe]; exact Nat.not_le.mpr hbl
  have lt_1 : (1 : Int32).toInt = 1 := by decide
  have lt_2 : (2 : Int32).toInt = 2 := by decide
  have m_1 : (.methodLink RL 128 yX8_began : Cond) ∈ lw_tbl := q_w (n := 997) (by decide +kernel)
  have m_2 : (.instanceMethod yX8_began : Cond) ∈ lw_tbl := q_w (n := 998) (by decide +kernel)
  have m_3 : (.selects RX8 yX8_began yX8_began : Cond) ∈ lw_tbl := q_w (n := 999) (by decide +kernel)
  have m_4 : (.initialized RX8 : Cond) ∈ lw_tbl := q_w (n := 104) (by decide +kernel)
  have m_5 : (.methodLink RL 131 yX9_began : Cond) ∈ lw_tbl := q_w (n := 1669) (by decide +kernel)
  have m_6 : (.instanceMethod yX9_began : Cond) ∈ lw_tbl := q_w (n := 1670) (by decide +kernel)
  have m_7 : (.selects RX9 yX9_began yX9_began : Cond) ∈ lw_tbl := q_w (n := 1671) (by decide +kernel)
  have m_8 : (.initialized RX9 : Cond) ∈ lw_tbl := q_w (n := 116) (by decide +kernel)
  refine lv_aload_n hx hb dL_law_1257 rfl (lv_at hl 2 rfl) ?_
  refine lv_aload_n hx hb dL_law_1258 rfl (lv_at hl 3 rfl) ?_
  refine lv_iload_n hx hb dL_law_1259 rfl (lv_at hl 0 rfl) ?_
  refine lv_iconst (v := 1) hx hb dL_law_1260 (by decide) ?_
  refine lv_iadd hx hb dL_law_1261 (lv_topi fun v1 ev1 => ?_)
  have tv1 := q_add ev1 (by omega) (by omega)
  refine va_sld hx hb hX hbl hbA hS (q_in (by omega) (by omega)) dL_law_1262 (lv_topi fun v2 ev2 => ?_)
  refine lv_aload_n hx hb dL_law_1263 rfl (lv_at hl 3 rfl) ?_
  refine lv_iload_n hx hb dL_law_1264 rfl (lv_at hl 0 rfl) ?_
  refine lv_iconst (v := 2) hx hb dL_law_1265 (by decide) ?_
  refine lv_iadd hx hb dL_law_1266 (lv_topi fun v3 ev3 => ?_)
  have tv3 := q_add ev3 (by omega) (by omega)
  refine va_sld hx hb hX hbl hbA hS (q_in (by omega) (by omega)) dL_law_1267 (lv_topi fun v4 ev4 => ?_)
  refine q_cL (As := [.int v2, .int v4]) (rest := []) q_exw hE hKx hPx hex hPy hey hDx hd1 hS hA ⟨hx, hb, hml, hown, hts⟩ (F_t_began l dC dI _ hIx v2 v4) (cwV 2 hts (p1_gV m_1 m_2 m_3 m_4 iz_t_began gz_t_began) rfl rfl rfl (by decide +kernel) ⟨by decide, by decide⟩) (hIx.recv hKx hPx) rfl hl.1 rfl (Nat.le_of_ble_eq_true rfl) dL_law_1268 ⟨by show nc ≤ 600000; omega, by show ns ≤ 7302250; omega⟩ (fun r1 H1 lo1 t1 ht1 hg1 hQ1 hS1 => ?_)
  obtain ⟨w1, hI1, hP1, he1⟩ := hg1
  rw [ht1] at hP1
  refine lv_pop hx hb dL_law_1271 rfl ?_
  refine lv_aload_n hx hb dL_law_1272 rfl (lv_at hl 1 rfl) ?_
  refine lv_aload_n hx hb dL_law_1273 rfl (lv_at hl 3 rfl) ?_
  refine lv_iload_n hx hb dL_law_1274 rfl (lv_at hl 0 rfl) ?_
  refine lv_iconst (v := 1) hx hb dL_law_1275 (by decide) ?_
  refine lv_iadd hx hb dL_law_1276 (lv_topi fun v5 ev5 => ?_)
  have tv5 := q_add ev5 (by omega) (by omega)
  refine va_sld hx hb hX hbl hbA hS1 (q_in (by omega) (by omega)) dL_law_1277 (lv_topi fun v6 ev6 => ?_)
  refine lv_aload_n hx hb dL_law_1278 rfl (lv_at hl 3 rfl) ?_
  refine lv_iload_n hx hb dL_law_1279 rfl (lv_at hl 0 rfl) ?_
  refine lv_iconst (v := 2) hx hb dL_law_1280 (by decide) ?_
  refine lv_iadd hx hb dL_law_1281 (lv_topi fun v7 ev7 => ?_)
  have tv7 := q_add ev7 (by omega) (by omega)
  refine va_sld hx hb hX hbl hbA hS1 (q_in (by omega) (by omega)) dL_law_1282 (lv_topi fun v8 ev8 => ?_)
  refine q_cL (As := [.int v6, .int v8]) (rest := []) q_exw hE hKy hQ1 hey hP1 (he1.trans hex) hDy hd2 hS1 hA ⟨hx, hb, hml, hown, hts⟩ (F_r_began l dC dI _ hIy v6 v8) (cwV 2 hts (p1_gV m_5 m_6 m_7 m_8 iz_r_began gz_r_began) rfl rfl rfl (by decide +kernel) ⟨by decide, by decide⟩) (hIy.recv hKy hQ1) rfl hl.1 rfl (Nat.le_of_ble_eq_true rfl) dL_law_1283 ⟨by show nc ≤ 600000; omega, by show ns ≤ 7302250; omega⟩ (fun r2 H2 lo2 t2 ht2 hg2 hQ2 hS2 => ?_)
  obtain ⟨w2, hI2, hP2, he2⟩ := hg2
  rw [ht2] at hP2
  refine lv_pop hx hb dL_law_1286 rfl ?_
  refine lv_goto (tgt := 1382) hx hb dL_law_1287 (by decide) ?_
  exact kk tm w1 w2 H2 _ ls hI1 hI2 hQ2 (he1.trans hex) hP2 (he2.trans hey) hS2 hl
set_option maxHeartbeats 4000000 in
set_option maxRecDepth 100000 in
theorem law_seed {p : Program} {e : Env} {s : State} {m : MethodId} {below : List Frame} {meth : Method} {c : Code} (l : Launch) {b L : Nat} {xs : Nat → Int32} (C0 : lw_At p s m meth c b L xs) {A : Nat → Prop} (hAe : A = fun q : Nat => s.heap.size ≤ q) (hE : q_ex A s s.heap) (dC : Nat → ClassId) (dI : Nat → Nat → Nat) {nc ns : Nat} (hnc : nc ≤ 600000) (hns : ns ≤ 7302250) {x y : Nat} {a1 a2 : List Nat} {tx ty : List (ClassId × FieldType)} (hKx : va_K (dC, dI) vwCl tx s) (hKy : va_K (dC, dI) vwCl ty s) (hDx : q_DA A a1) (hDy : q_DA A a2) (hd1 : ∀ q ∈ a1, q ∉ a2) (hd2 : ∀ q ∈ a2, q ∉ a1) (i : Int32) (hi0 : 0 ≤ i.toInt) (hi6 : i.toInt + 6 ≤ L) (hL : L ≤ 3072) (tm : Int32) (wx wy : va_W) (H : Heap) (locs : List Loc) (ls : Array Slot) (hIx : IX x tm wx tx) (hIy : IM y tm wy ty) (hPx : va_P (dC, dI) vwCl wx H) (hex : wx.map Prod.fst = a1) (hPy : va_P (dC, dI) vwCl wy H) (hey : wy.map Prod.fst = a2) (hS : va_S A s.heap H locs) (hl : lv_has ls 4 [(3, .int i), (2, .ref y), (1, .ref x), (0, .ref b)]) (kk : ∀ (tm : Int32) (wx wy : va_W) (H : Heap) (locs : List Loc) (ls : Array Slot) (hIx : IX x tm wx tx) (hIy : IM y tm wy ty) (hPx : va_P (dC, dI) vwCl wx H) (hex : wx.map Prod.fst = a1) (hPy : va_P (dC, dI) vwCl wy H) (hey : wy.map Prod.fst = a2) (hS : va_S A s.heap H locs) (hl : lv_has ls 4 [(3, .int i), (2, .ref y), (1, .ref x), (0, .ref b)]), W p l e room_1 s m #[Value.ref b] below meth c H locs nc ns (lw_Z below #[Value.ref b] s) (F0 m 1382 ls [])) : W p l e room_1 s m #[Value.ref b] below meth c H locs nc ns (lw_Z below #[Value.ref b] s) (F0 m 1290 ls []) := by
  obtain ⟨hx, hb, hr, hml, hown, hts, hX, hbl, hlocks, hgv⟩ := id C0
  have hown : s.vm.findClass RL = some m.cls := hown
  have hA : ∀ q : Nat, s.heap.size ≤ q → A q := by rw [hAe]; exact fun _ h => h
  have hbA : ¬ A b := by rw [hAe]; exact Nat.not_le.mpr hbl
  have lt_1 : (1 : Int32).toInt = 1 := by decide
  have m_1 : (.methodLink RL 132 yX8_seed : Cond) ∈ lw_tbl := q_w (n := 1005) (by decide +kernel)
  have m_2 : (.instanceMethod yX8_seed : Cond) ∈ lw_tbl := q_w (n := 1006) (by decide +kernel)
  have m_3 : (.selects RX8 yX8_seed yX8_seed : Cond) ∈ lw_tbl := q_w (n := 1007) (by decide +kernel)
  have m_4 : (.initialized RX8 : Cond) ∈ lw_tbl := q_w (n := 104) (by decide +kernel)
  have m_5 : (.methodLink RL 135 yX9_seed : Cond) ∈ lw_tbl := q_w (n := 1673) (by decide +kernel)
  have m_6 : (.instanceMethod yX9_seed : Cond) ∈ lw_tbl := q_w (n := 1674) (by decide +kernel)
  have m_7 : (.selects RX9 yX9_seed yX9_seed : Cond) ∈ lw_tbl := q_w (n := 1675) (by decide +kernel)
  have m_8 : (.initialized RX9 : Cond) ∈ lw_tbl := q_w (n := 116) (by decide +kernel)
  refine lv_aload_n hx hb dL_law_1290 rfl (lv_at hl 2 rfl) ?_
  refine lv_aload_n hx hb dL_law_1291 rfl (lv_at hl 3 rfl) ?_
  refine lv_iload_n hx hb dL_law_1292 rfl (lv_at hl 0 rfl) ?_
  refine lv_iconst (v := 1) hx hb dL_law_1293 (by decide) ?_
  refine lv_iadd hx hb dL_law_1294 (lv_topi fun v1 ev1 => ?_)
  have tv1 := q_add ev1 (by omega) (by omega)
  refine va_sld hx hb hX hbl hbA hS (q_in (by omega) (by omega)) dL_law_1295 (lv_topi fun v2 ev2 => ?_)
  refine q_cL (As := [.int v2]) (rest := []) q_exw hE hKx hPx hex hPy hey hDx hd1 hS hA ⟨hx, hb, hml, hown, hts⟩ (F_t_seed l dC dI _ hIx v2) (cwV 1 hts (p1_gV m_1 m_2 m_3 m_4 iz_t_seed gz_t_seed) rfl rfl rfl (by decide +kernel) ⟨by decide, by decide⟩) (hIx.recv hKx hPx) rfl hl.1 rfl (Nat.le_of_ble_eq_true rfl) dL_law_1296 ⟨by show nc ≤ 600000; omega, by show ns ≤ 7302250; omega⟩ (fun r1 H1 lo1 t1 ht1 hg1 hQ1 hS1 => ?_)
  obtain ⟨w1, hI1, hP1, he1⟩ := hg1
  rw [ht1] at hP1
  refine lv_pop hx hb dL_law_1299 rfl ?_
  refine lv_aload_n hx hb dL_law_1300 rfl (lv_at hl 1 rfl) ?_
  refine lv_aload_n hx hb dL_law_1301 rfl (lv_at hl 3 rfl) ?_
  refine lv_iload_n hx hb dL_law_1302 rfl (lv_at hl 0 rfl) ?_
  refine lv_iconst (v := 1) hx hb dL_law_1303 (by decide) ?_
  refine lv_iadd hx hb dL_law_1304 (lv_topi fun v3 ev3 => ?_)
  have tv3 := q_add ev3 (by omega) (by omega)
  refine va_sld hx hb hX hbl hbA hS1 (q_in (by omega) (by omega)) dL_law_1305 (lv_topi fun v4 ev4 => ?_)
  refine q_cL (As := [.int v4]) (rest := []) q_exw hE hKy hQ1 hey hP1 (he1.trans hex) hDy hd2 hS1 hA ⟨hx, hb, hml, hown, hts⟩ (F_r_seed l dC dI _ hIy v4) (cwV 1 hts (p1_gV m_5 m_6 m_7 m_8 iz_r_seed gz_r_seed) rfl rfl rfl (by decide +kernel) ⟨by decide, by decide⟩) (hIy.recv hKy hQ1) rfl hl.1 rfl (Nat.le_of_ble_eq_true rfl) dL_law_1306 ⟨by show nc ≤ 600000; omega, by show ns ≤ 7302250; omega⟩ (fun r2 H2 lo2 t2 ht2 hg2 hQ2 hS2 => ?_)
  obtain ⟨w2, hI2, hP2, he2⟩ := hg2
  rw [ht2] at hP2
  refine lv_pop hx hb dL_law_1309 rfl ?_
  refine lv_goto (tgt := 1382) hx hb dL_law_1310 (by decide) ?_
  exact kk tm w1 w2 H2 _ ls hI1 hI2 hQ2 (he1.trans hex) hP2 (he2.trans hey) hS2 hl
set_option maxHeartbeats 4000000 in
set_option maxRecDepth 100000 in
theorem law_image {p : Program} {e : Env} {s : State} {m : MethodId} {below : List Frame} {meth : Method} {c : Code} (l : Launch) {b L : Nat} {xs : Nat → Int32} (C0 : lw_At p s m meth c b L xs) {A : Nat → Prop} (hAe : A = fun q : Nat => s.heap.size ≤ q) (hE : q_ex A s s.heap) (dC : Nat → ClassId) (dI : Nat → Nat → Nat) {nc ns : Nat} (hnc : nc ≤ 600000) (hns : ns ≤ 7302250) {x y : Nat} {a1 a2 : List Nat} {tx ty : List (ClassId × FieldType)} (hKx : va_K (dC, dI) vwCl tx s) (hKy : va_K (dC, dI) vwCl ty s) (hDx : q_DA A a1) (hDy : q_DA A a2) (hd1 : ∀ q ∈ a1, q ∉ a2) (hd2 : ∀ q ∈ a2, q ∉ a1) (i : Int32) (hi0 : 0 ≤ i.toInt) (hi6 : i.toInt + 6 ≤ L) (hL : L ≤ 3072) (tm : Int32) (wx wy : va_W) (H : Heap) (locs : List Loc) (ls : Array Slot) (hIx : IX x tm wx tx) (hIy : IM y tm wy ty) (hPx : va_P (dC, dI) vwCl wx H) (hex : wx.map Prod.fst = a1) (hPy : va_P (dC, dI) vwCl wy H) (hey : wy.map Prod.fst = a2) (hS : va_S A s.heap H locs) (hl : lv_has ls 4 [(3, .int i), (2, .ref y), (1, .ref x), (0, .ref b)]) (kk : ∀ (tm : Int32) (wx wy : va_W) (H : Heap) (locs : List Loc) (ls : Array Slot) (hIx : IX x tm wx tx) (hIy : IM y tm wy ty) (hPx : va_P (dC, dI) vwCl wx H) (hex : wx.map Prod.fst = a1) (hPy : va_P (dC, dI) vwCl wy H) (hey : wy.map Prod.fst = a2) (hS : va_S A s.heap H locs) (hl : lv_has ls 4 [(3, .int i), (2, .ref y), (1, .ref x), (0, .ref b)]), W p l e room_1 s m #[Value.ref b] below meth c H locs nc ns (lw_Z below #[Value.ref b] s) (F0 m 1382 ls [])) : W p l e room_1 s m #[Value.ref b] below meth c H locs nc ns (lw_Z below #[Value.ref b] s) (F0 m 1313 ls []) := by
  obtain ⟨hx, hb, hr, hml, hown, hts, hX, hbl, hlocks, hgv⟩ := id C0
  have hown : s.vm.findClass RL = some m.cls := hown
  have hA : ∀ q : Nat, s.heap.size ≤ q → A q := by rw [hAe]; exact fun _ h => h
  have hbA : ¬ A b := by rw [hAe]; exact Nat.not_le.mpr hbl
  have lt_1 : (1 : Int32).toInt = 1 := by decide
  have m_1 : (.methodLink RL 136 yX8_image : Cond) ∈ lw_tbl := q_w (n := 1009) (by decide +kernel)
  have m_2 : (.instanceMethod yX8_image : Cond) ∈ lw_tbl := q_w (n := 1010) (by decide +kernel)
  have m_3 : (.selects RX8 yX8_image yX8_image : Cond) ∈ lw_tbl := q_w (n := 1011) (by decide +kernel)
  have m_4 : (.initialized RX8 : Cond) ∈ lw_tbl := q_w (n := 104) (by decide +kernel)
  have m_5 : (.methodLink RL 139 yX9_image : Cond) ∈ lw_tbl := q_w (n := 1677) (by decide +kernel)
  have m_6 : (.instanceMethod yX9_image : Cond) ∈ lw_tbl := q_w (n := 1678) (by decide +kernel)
  have m_7 : (.selects RX9 yX9_image yX9_image : Cond) ∈ lw_tbl := q_w (n := 1679) (by decide +kernel)
  have m_8 : (.initialized RX9 : Cond) ∈ lw_tbl := q_w (n := 116) (by decide +kernel)
  refine lv_aload_n hx hb dL_law_1313 rfl (lv_at hl 2 rfl) ?_
  refine lv_aload_n hx hb dL_law_1314 rfl (lv_at hl 3 rfl) ?_
  refine lv_iload_n hx hb dL_law_1315 rfl (lv_at hl 0 rfl) ?_
  refine lv_iconst (v := 1) hx hb dL_law_1316 (by decide) ?_
  refine lv_iadd hx hb dL_law_1317 (lv_topi fun v1 ev1 => ?_)
  have tv1 := q_add ev1 (by omega) (by omega)
  refine va_sld hx hb hX hbl hbA hS (q_in (by omega) (by omega)) dL_law_1318 (lv_topi fun v2 ev2 => ?_)
  refine q_cL (As := [.int v2]) (rest := []) q_exw hE hKx hPx hex hPy hey hDx hd1 hS hA ⟨hx, hb, hml, hown, hts⟩ (F_t_image l dC dI _ hIx v2) (cwV 1 hts (p1_gV m_1 m_2 m_3 m_4 iz_t_image gz_t_image) rfl rfl rfl (by decide +kernel) ⟨by decide, by decide⟩) (hIx.recv hKx hPx) rfl hl.1 rfl (Nat.le_of_ble_eq_true rfl) dL_law_1319 ⟨by show nc ≤ 600000; omega, by show ns ≤ 7302250; omega⟩ (fun r1 H1 lo1 t1 ht1 hg1 hQ1 hS1 => ?_)
  obtain ⟨w1, hI1, hP1, he1⟩ := hg1
  rw [ht1] at hP1
  refine lv_pop hx hb dL_law_1322 rfl ?_
  refine lv_aload_n hx hb dL_law_1323 rfl (lv_at hl 1 rfl) ?_
  refine lv_aload_n hx hb dL_law_1324 rfl (lv_at hl 3 rfl) ?_
  refine lv_iload_n hx hb dL_law_1325 rfl (lv_at hl 0 rfl) ?_
  refine lv_iconst (v := 1) hx hb dL_law_1326 (by decide) ?_
  refine lv_iadd hx hb dL_law_1327 (lv_topi fun v3 ev3 => ?_)
  have tv3 := q_add ev3 (by omega) (by omega)
  refine va_sld hx hb hX hbl hbA hS1 (q_in (by omega) (by omega)) dL_law_1328 (lv_topi fun v4 ev4 => ?_)
  refine q_cL (As := [.int v4]) (rest := []) q_exw hE hKy hQ1 hey hP1 (he1.trans hex) hDy hd2 hS1 hA ⟨hx, hb, hml, hown, hts⟩ (F_r_image l dC dI _ hIy v4) (cwV 1 hts (p1_gV m_5 m_6 m_7 m_8 iz_r_image gz_r_image) rfl rfl rfl (by decide +kernel) ⟨by decide, by decide⟩) (hIy.recv hKy hQ1) rfl hl.1 rfl (Nat.le_of_ble_eq_true rfl) dL_law_1329 ⟨by show nc ≤ 600000; omega, by show ns ≤ 7302250; omega⟩ (fun r2 H2 lo2 t2 ht2 hg2 hQ2 hS2 => ?_)
  obtain ⟨w2, hI2, hP2, he2⟩ := hg2
  rw [ht2] at hP2
  refine lv_pop hx hb dL_law_1332 rfl ?_
  refine lv_goto (tgt := 1382) hx hb dL_law_1333 (by decide) ?_
  exact kk tm w1 w2 H2 _ ls hI1 hI2 hQ2 (he1.trans hex) hP2 (he2.trans hey) hS2 hl
set_option maxHeartbeats 4000000 in
set_option maxRecDepth 100000 in
theorem law_back {p : Program} {e : Env} {s : State} {m : MethodId} {below : List Frame} {meth : Method} {c : Code} (l : Launch) {b L : Nat} {xs : Nat → Int32} (C0 : lw_At p s m meth c b L xs) {A : Nat → Prop} (hAe : A = fun q : Nat => s.heap.size ≤ q) (hE : q_ex A s s.heap) (dC : Nat → ClassId) (dI : Nat → Nat → Nat) {nc ns : Nat} (hnc : nc ≤ 600000) (hns : ns ≤ 7302250) {x y : Nat} {a1 a2 : List Nat} {tx ty : List (ClassId × FieldType)} (hKx : va_K (dC, dI) vwCl tx s) (hKy : va_K (dC, dI) vwCl ty s) (hDx : q_DA A a1) (hDy : q_DA A a2) (hd1 : ∀ q ∈ a1, q ∉ a2) (hd2 : ∀ q ∈ a2, q ∉ a1) (i : Int32) (hi0 : 0 ≤ i.toInt) (hi6 : i.toInt + 6 ≤ L) (hL : L ≤ 3072) (tm : Int32) (wx wy : va_W) (H : Heap) (locs : List Loc) (ls : Array Slot) (hIx : IX x tm wx tx) (hIy : IM y tm wy ty) (hPx : va_P (dC, dI) vwCl wx H) (hex : wx.map Prod.fst = a1) (hPy : va_P (dC, dI) vwCl wy H) (hey : wy.map Prod.fst = a2) (hS : va_S A s.heap H locs) (hl : lv_has ls 4 [(3, .int i), (2, .ref y), (1, .ref x), (0, .ref b)]) (kk : ∀ (tm : Int32) (wx wy : va_W) (H : Heap) (locs : List Loc) (ls : Array Slot) (hIx : IX x tm wx tx) (hIy : IM y tm wy ty) (hPx : va_P (dC, dI) vwCl wx H) (hex : wx.map Prod.fst = a1) (hPy : va_P (dC, dI) vwCl wy H) (hey : wy.map Prod.fst = a2) (hS : va_S A s.heap H locs) (hl : lv_has ls 4 [(3, .int i), (2, .ref y), (1, .ref x), (0, .ref b)]), W p l e room_1 s m #[Value.ref b] below meth c H locs nc ns (lw_Z below #[Value.ref b] s) (F0 m 1382 ls [])) : W p l e room_1 s m #[Value.ref b] below meth c H locs nc ns (lw_Z below #[Value.ref b] s) (F0 m 1336 ls []) := by
  obtain ⟨hx, hb, hr, hml, hown, hts, hX, hbl, hlocks, hgv⟩ := id C0
  have hown : s.vm.findClass RL = some m.cls := hown
  have hA : ∀ q : Nat, s.heap.size ≤ q → A q := by rw [hAe]; exact fun _ h => h
  have hbA : ¬ A b := by rw [hAe]; exact Nat.not_le.mpr hbl
  have lt_1 : (1 : Int32).toInt = 1 := by decide
  have m_1 : (.methodLink RL 140 yX8_back : Cond) ∈ lw_tbl := q_w (n := 1019) (by decide +kernel)
  have m_2 : (.instanceMethod yX8_back : Cond) ∈ lw_tbl := q_w (n := 1020) (by decide +kernel)
  have m_3 : (.selects RX8 yX8_back yX8_back : Cond) ∈ lw_tbl := q_w (n := 1021) (by decide +kernel)
  have m_4 : (.initialized RX8 : Cond) ∈ lw_tbl := q_w (n := 104) (by decide +kernel)
  have m_5 : (.methodLink RL 143 yX9_back : Cond) ∈ lw_tbl := q_w (n := 1681) (by decide +kernel)
  have m_6 : (.instanceMethod yX9_back : Cond) ∈ lw_tbl := q_w (n := 1682) (by decide +kernel)
  have m_7 : (.selects RX9 yX9_back yX9_back : Cond) ∈ lw_tbl := q_w (n := 1683) (by decide +kernel)
  have m_8 : (.initialized RX9 : Cond) ∈ lw_tbl := q_w (n := 116) (by decide +kernel)
  refine lv_aload_n hx hb dL_law_1336 rfl (lv_at hl 2 rfl) ?_
  refine lv_aload_n hx hb dL_law_1337 rfl (lv_at hl 3 rfl) ?_
  refine lv_iload_n hx hb dL_law_1338 rfl (lv_at hl 0 rfl) ?_
  refine lv_iconst (v := 1) hx hb dL_law_1339 (by decide) ?_
  refine lv_iadd hx hb dL_law_1340 (lv_topi fun v1 ev1 => ?_)
  have tv1 := q_add ev1 (by omega) (by omega)
  refine va_sld hx hb hX hbl hbA hS (q_in (by omega) (by omega)) dL_law_1341 (lv_topi fun v2 ev2 => ?_)
  refine q_cL (As := [.int v2]) (rest := []) q_exw hE hKx hPx hex hPy hey hDx hd1 hS hA ⟨hx, hb, hml, hown, hts⟩ (F_t_back l dC dI _ hIx v2) (cwV 1 hts (p1_gV m_1 m_2 m_3 m_4 iz_t_back gz_t_back) rfl rfl rfl (by decide +kernel) ⟨by decide, by decide⟩) (hIx.recv hKx hPx) rfl hl.1 rfl (Nat.le_of_ble_eq_true rfl) dL_law_1342 ⟨by show nc ≤ 600000; omega, by show ns ≤ 7302250; omega⟩ (fun r1 H1 lo1 t1 ht1 hg1 hQ1 hS1 => ?_)
  obtain ⟨w1, hI1, hP1, he1⟩ := hg1
  rw [ht1] at hP1
  refine lv_pop hx hb dL_law_1345 rfl ?_
  refine lv_aload_n hx hb dL_law_1346 rfl (lv_at hl 1 rfl) ?_
  refine lv_aload_n hx hb dL_law_1347 rfl (lv_at hl 3 rfl) ?_
  refine lv_iload_n hx hb dL_law_1348 rfl (lv_at hl 0 rfl) ?_
  refine lv_iconst (v := 1) hx hb dL_law_1349 (by decide) ?_
  refine lv_iadd hx hb dL_law_1350 (lv_topi fun v3 ev3 => ?_)
  have tv3 := q_add ev3 (by omega) (by omega)
  refine va_sld hx hb hX hbl hbA hS1 (q_in (by omega) (by omega)) dL_law_1351 (lv_topi fun v4 ev4 => ?_)
  refine q_cL (As := [.int v4]) (rest := []) q_exw hE hKy hQ1 hey hP1 (he1.trans hex) hDy hd2 hS1 hA ⟨hx, hb, hml, hown, hts⟩ (F_r_back l dC dI _ hIy v4) (cwV 1 hts (p1_gV m_5 m_6 m_7 m_8 iz_r_back gz_r_back) rfl rfl rfl (by decide +kernel) ⟨by decide, by decide⟩) (hIy.recv hKy hQ1) rfl hl.1 rfl (Nat.le_of_ble_eq_true rfl) dL_law_1352 ⟨by show nc ≤ 600000; omega, by show ns ≤ 7302250; omega⟩ (fun r2 H2 lo2 t2 ht2 hg2 hQ2 hS2 => ?_)
  obtain ⟨w2, hI2, hP2, he2⟩ := hg2
  rw [ht2] at hP2
  refine lv_pop hx hb dL_law_1355 rfl ?_
  refine lv_goto (tgt := 1382) hx hb dL_law_1356 (by decide) ?_
  exact kk tm w1 w2 H2 _ ls hI1 hI2 hQ2 (he1.trans hex) hP2 (he2.trans hey) hS2 hl
set_option maxHeartbeats 4000000 in
set_option maxRecDepth 100000 in
theorem law_about {p : Program} {e : Env} {s : State} {m : MethodId} {below : List Frame} {meth : Method} {c : Code} (l : Launch) {b L : Nat} {xs : Nat → Int32} (C0 : lw_At p s m meth c b L xs) {A : Nat → Prop} (hAe : A = fun q : Nat => s.heap.size ≤ q) (hE : q_ex A s s.heap) (dC : Nat → ClassId) (dI : Nat → Nat → Nat) {nc ns : Nat} (hnc : nc ≤ 600000) (hns : ns ≤ 7302250) {x y : Nat} {a1 a2 : List Nat} {tx ty : List (ClassId × FieldType)} (hKx : va_K (dC, dI) vwCl tx s) (hKy : va_K (dC, dI) vwCl ty s) (hDx : q_DA A a1) (hDy : q_DA A a2) (hd1 : ∀ q ∈ a1, q ∉ a2) (hd2 : ∀ q ∈ a2, q ∉ a1) (i : Int32) (hi0 : 0 ≤ i.toInt) (hi6 : i.toInt + 6 ≤ L) (hL : L ≤ 3072) (tm : Int32) (wx wy : va_W) (H : Heap) (locs : List Loc) (ls : Array Slot) (hIx : IX x tm wx tx) (hIy : IM y tm wy ty) (hPx : va_P (dC, dI) vwCl wx H) (hex : wx.map Prod.fst = a1) (hPy : va_P (dC, dI) vwCl wy H) (hey : wy.map Prod.fst = a2) (hS : va_S A s.heap H locs) (hl : lv_has ls 4 [(3, .int i), (2, .ref y), (1, .ref x), (0, .ref b)]) (kk : ∀ (tm : Int32) (wx wy : va_W) (H : Heap) (locs : List Loc) (ls : Array Slot) (hIx : IX x tm wx tx) (hIy : IM y tm wy ty) (hPx : va_P (dC, dI) vwCl wx H) (hex : wx.map Prod.fst = a1) (hPy : va_P (dC, dI) vwCl wy H) (hey : wy.map Prod.fst = a2) (hS : va_S A s.heap H locs) (hl : lv_has ls 4 [(3, .int i), (2, .ref y), (1, .ref x), (0, .ref b)]), W p l e room_1 s m #[Value.ref b] below meth c H locs nc ns (lw_Z below #[Value.ref b] s) (F0 m 1382 ls [])) : W p l e room_1 s m #[Value.ref b] below meth c H locs nc ns (lw_Z below #[Value.ref b] s) (F0 m 1359 ls []) := by
  obtain ⟨hx, hb, hr, hml, hown, hts, hX, hbl, hlocks, hgv⟩ := id C0
  have hown : s.vm.findClass RL = some m.cls := hown
  have hA : ∀ q : Nat, s.heap.size ≤ q → A q := by rw [hAe]; exact fun _ h => h
  have hbA : ¬ A b := by rw [hAe]; exact Nat.not_le.mpr hbl
  have lt_1 : (1 : Int32).toInt = 1 := by decide
  have m_1 : (.methodLink RL 144 yX8_about : Cond) ∈ lw_tbl := q_w (n := 1023) (by decide +kernel)
  have m_2 : (.instanceMethod yX8_about : Cond) ∈ lw_tbl := q_w (n := 1024) (by decide +kernel)
  have m_3 : (.selects RX8 yX8_about yX8_about : Cond) ∈ lw_tbl := q_w (n := 1025) (by decide +kernel)
  have m_4 : (.initialized RX8 : Cond) ∈ lw_tbl := q_w (n := 104) (by decide +kernel)
  have m_5 : (.methodLink RL 147 yX9_about : Cond) ∈ lw_tbl := q_w (n := 1685) (by decide +kernel)
  have m_6 : (.instanceMethod yX9_about : Cond) ∈ lw_tbl := q_w (n := 1686) (by decide +kernel)
  have m_7 : (.selects RX9 yX9_about yX9_about : Cond) ∈ lw_tbl := q_w (n := 1687) (by decide +kernel)
  have m_8 : (.initialized RX9 : Cond) ∈ lw_tbl := q_w (n := 116) (by decide +kernel)
  refine lv_aload_n hx hb dL_law_1359 rfl (lv_at hl 2 rfl) ?_
  refine lv_aload_n hx hb dL_law_1360 rfl (lv_at hl 3 rfl) ?_
  refine lv_iload_n hx hb dL_law_1361 rfl (lv_at hl 0 rfl) ?_
  refine lv_iconst (v := 1) hx hb dL_law_1362 (by decide) ?_
  refine lv_iadd hx hb dL_law_1363 (lv_topi fun v1 ev1 => ?_)
  have tv1 := q_add ev1 (by omega) (by omega)
  refine va_sld hx hb hX hbl hbA hS (q_in (by omega) (by omega)) dL_law_1364 (lv_topi fun v2 ev2 => ?_)
  refine q_cL (As := [.int v2]) (rest := []) q_exw hE hKx hPx hex hPy hey hDx hd1 hS hA ⟨hx, hb, hml, hown, hts⟩ (F_t_about l dC dI _ hIx v2) (cwV 1 hts (p1_gV m_1 m_2 m_3 m_4 iz_t_about gz_t_about) rfl rfl rfl (by decide +kernel) ⟨by decide, by decide⟩) (hIx.recv hKx hPx) rfl hl.1 rfl (Nat.le_of_ble_eq_true rfl) dL_law_1365 ⟨by show nc ≤ 600000; omega, by show ns ≤ 7302250; omega⟩ (fun r1 H1 lo1 t1 ht1 hg1 hQ1 hS1 => ?_)
  obtain ⟨w1, hI1, hP1, he1⟩ := hg1
  rw [ht1] at hP1
  refine lv_pop hx hb dL_law_1368 rfl ?_
  refine lv_aload_n hx hb dL_law_1369 rfl (lv_at hl 1 rfl) ?_
  refine lv_aload_n hx hb dL_law_1370 rfl (lv_at hl 3 rfl) ?_
  refine lv_iload_n hx hb dL_law_1371 rfl (lv_at hl 0 rfl) ?_
  refine lv_iconst (v := 1) hx hb dL_law_1372 (by decide) ?_
  refine lv_iadd hx hb dL_law_1373 (lv_topi fun v3 ev3 => ?_)
  have tv3 := q_add ev3 (by omega) (by omega)
  refine va_sld hx hb hX hbl hbA hS1 (q_in (by omega) (by omega)) dL_law_1374 (lv_topi fun v4 ev4 => ?_)
  refine q_cL (As := [.int v4]) (rest := []) q_exw hE hKy hQ1 hey hP1 (he1.trans hex) hDy hd2 hS1 hA ⟨hx, hb, hml, hown, hts⟩ (F_r_about l dC dI _ hIy v4) (cwV 1 hts (p1_gV m_5 m_6 m_7 m_8 iz_r_about gz_r_about) rfl rfl rfl (by decide +kernel) ⟨by decide, by decide⟩) (hIy.recv hKy hQ1) rfl hl.1 rfl (Nat.le_of_ble_eq_true rfl) dL_law_1375 ⟨by show nc ≤ 600000; omega, by show ns ≤ 7302250; omega⟩ (fun r2 H2 lo2 t2 ht2 hg2 hQ2 hS2 => ?_)
  obtain ⟨w2, hI2, hP2, he2⟩ := hg2
  rw [ht2] at hP2
  refine lv_pop hx hb dL_law_1378 rfl ?_
  refine lv_goto (tgt := 1382) hx hb dL_law_1379 (by decide) ?_
  exact kk tm w1 w2 H2 _ ls hI1 hI2 hQ2 (he1.trans hex) hP2 (he2.trans hey) hS2 hl
