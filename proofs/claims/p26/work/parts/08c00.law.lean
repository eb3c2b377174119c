set_option maxHeartbeats 4000000 in
set_option maxRecDepth 100000 in
theorem law_feed {p : Program} {e : Env} {s : State} {m : MethodId} {below : List Frame} {meth : Method} {c : Code} (l : Launch) {b L : Nat} {xs : Nat → Int32} (C0 : lw_At p s m meth c b L xs) {A : Nat → Prop} (hAe : A = fun q : Nat => s.heap.size ≤ q) (hE : q_ex A s s.heap) (dC : Nat → ClassId) (dI : Nat → Nat → Nat) {nc ns : Nat} (hnc : nc ≤ 600000) (hns : ns ≤ 7302250) {x y : Nat} {a1 a2 : List Nat} {tx ty : List (ClassId × FieldType)} (hKx : va_K (dC, dI) vwCl tx s) (hKy : va_K (dC, dI) vwCl ty s) (hDx : q_DA A a1) (hDy : q_DA A a2) (hd1 : ∀ q ∈ a1, q ∉ a2) (hd2 : ∀ q ∈ a2, q ∉ a1) (i : Int32) (hi0 : 0 ≤ i.toInt) (hi6 : i.toInt + 6 ≤ L) (hL : L ≤ 3072) (tm : Int32) (wx wy : va_W) (H : Heap) (locs : List Loc) (ls : Array Slot) (hIx : IX x tm wx tx) (hIy : IM y tm wy ty) (hPx : va_P (dC, dI) vwCl wx H) (hex : wx.map Prod.fst = a1) (hPy : va_P (dC, dI) vwCl wy H) (hey : wy.map Prod.fst = a2) (hS : va_S A s.heap H locs) (hl : lv_has ls 4 [(3, .int i), (2, .ref y), (1, .ref x), (0, .ref b)]) (kk : ∀ (tm : Int32) (wx wy : va_W) (H : Heap) (locs : List Loc) (ls : Array Slot) (hIx : IX x tm wx tx) (hIy : IM y tm wy ty) (hPx : va_P (dC, dI) vwCl wx H) (hex : wx.map Prod.fst = a1) (hPy : va_P (dC, dI) vwCl wy H) (hey : wy.map Prod.fst = a2) (hS : va_S A s.heap H locs) (hl : lv_has ls 4 [(3, .int i), (2, .ref y), (1, .ref x), (0, .ref b)]), W p l e room_1 s m #[Value.ref b] below meth c H locs nc ns (lw_Z below #[Value.ref b] s) (F0 m 1382 ls [])) : W p l e room_1 s m #[Value.ref b] below meth c H locs nc ns (lw_Z below #[Value.ref b] s) (F0 m 176 ls []) := by
  obtain ⟨hx, hb, hr, hml, hown, hts, hX, hbl, hlocks, hgv⟩ := id C0
  have hown : s.vm.findClass RL = some m.cls := hown
  have hA : ∀ q : Nat, s.heap.size ≤ q → A q := by rw [hAe]; exact fun _ h => h
  have hbA : ¬ A b := by rw [hAe]; exact Nat.not_le.mpr hbl
  have lt_1 : (1 : Int32).toInt = 1 := by decide
  have lt_2 : (2 : Int32).toInt = 2 := by decide
  have lt_3 : (3 : Int32).toInt = 3 := by decide
  have lt_4 : (4 : Int32).toInt = 4 := by decide
  have lt_5 : (5 : Int32).toInt = 5 := by decide
  have m_1 : (.methodLink RL 13 yX8_feed : Cond) ∈ lw_tbl := q_w (n := 542) (by decide +kernel)
  have m_2 : (.instanceMethod yX8_feed : Cond) ∈ lw_tbl := q_w (n := 543) (by decide +kernel)
  have m_3 : (.selects RX8 yX8_feed yX8_feed : Cond) ∈ lw_tbl := q_w (n := 544) (by decide +kernel)
  have m_4 : (.initialized RX8 : Cond) ∈ lw_tbl := q_w (n := 104) (by decide +kernel)
  have m_5 : (.methodLink RL 17 yX9_feed : Cond) ∈ lw_tbl := q_w (n := 1689) (by decide +kernel)
  have m_6 : (.instanceMethod yX9_feed : Cond) ∈ lw_tbl := q_w (n := 1690) (by decide +kernel)
  have m_7 : (.selects RX9 yX9_feed yX9_feed : Cond) ∈ lw_tbl := q_w (n := 1691) (by decide +kernel)
  have m_8 : (.initialized RX9 : Cond) ∈ lw_tbl := q_w (n := 116) (by decide +kernel)
  refine lv_aload_n hx hb dL_law_176 rfl (lv_at hl 2 rfl) ?_
  refine lv_aload_n hx hb dL_law_177 rfl (lv_at hl 3 rfl) ?_
  refine lv_iload_n hx hb dL_law_178 rfl (lv_at hl 0 rfl) ?_
  refine lv_iconst (v := 1) hx hb dL_law_179 (by decide) ?_
  refine lv_iadd hx hb dL_law_180 (lv_topi fun v1 ev1 => ?_)
  have tv1 := q_add ev1 (by omega) (by omega)
  refine va_sld hx hb hX hbl hbA hS (q_in (by omega) (by omega)) dL_law_181 (lv_topi fun v2 ev2 => ?_)
  refine lv_aload_n hx hb dL_law_182 rfl (lv_at hl 3 rfl) ?_
  refine lv_iload_n hx hb dL_law_183 rfl (lv_at hl 0 rfl) ?_
  refine lv_iconst (v := 2) hx hb dL_law_184 (by decide) ?_
  refine lv_iadd hx hb dL_law_185 (lv_topi fun v3 ev3 => ?_)
  have tv3 := q_add ev3 (by omega) (by omega)
  refine va_sld hx hb hX hbl hbA hS (q_in (by omega) (by omega)) dL_law_186 (lv_topi fun v4 ev4 => ?_)
  refine lv_aload_n hx hb dL_law_187 rfl (lv_at hl 3 rfl) ?_
  refine lv_iload_n hx hb dL_law_188 rfl (lv_at hl 0 rfl) ?_
  refine lv_iconst (v := 3) hx hb dL_law_189 (by decide) ?_
  refine lv_iadd hx hb dL_law_190 (lv_topi fun v5 ev5 => ?_)
  have tv5 := q_add ev5 (by omega) (by omega)
  refine va_sld hx hb hX hbl hbA hS (q_in (by omega) (by omega)) dL_law_191 (lv_topi fun v6 ev6 => ?_)
  refine lv_aload_n hx hb dL_law_192 rfl (lv_at hl 3 rfl) ?_
  refine lv_iload_n hx hb dL_law_193 rfl (lv_at hl 0 rfl) ?_
  refine lv_iconst (v := 4) hx hb dL_law_194 (by decide) ?_
  refine lv_iadd hx hb dL_law_195 (lv_topi fun v7 ev7 => ?_)
  have tv7 := q_add ev7 (by omega) (by omega)
  refine va_sld hx hb hX hbl hbA hS (q_in (by omega) (by omega)) dL_law_196 (lv_topi fun v8 ev8 => ?_)
  refine lv_aload_n hx hb dL_law_197 rfl (lv_at hl 3 rfl) ?_
  refine lv_iload_n hx hb dL_law_198 rfl (lv_at hl 0 rfl) ?_
  refine lv_iconst (v := 5) hx hb dL_law_199 (by decide) ?_
  refine lv_iadd hx hb dL_law_200 (lv_topi fun v9 ev9 => ?_)
  have tv9 := q_add ev9 (by omega) (by omega)
  refine va_sld hx hb hX hbl hbA hS (q_in (by omega) (by omega)) dL_law_201 (lv_topi fun v10 ev10 => ?_)
  refine q_cL (As := [.int v2, .int v4, .int v6, .int v8, .int v10]) (rest := []) q_exw hE hKx hPx hex hPy hey hDx hd1 hS hA ⟨hx, hb, hml, hown, hts⟩ (F_t_feed l dC dI _ hIx v2 v4 v6 v8 v10) (cwV 5 hts (p1_gV m_1 m_2 m_3 m_4 iz_t_feed gz_t_feed) rfl rfl rfl (by decide +kernel) ⟨by decide, by decide⟩) (hIx.recv hKx hPx) rfl hl.1 rfl (Nat.le_of_ble_eq_true rfl) dL_law_202 ⟨by show nc ≤ 600000; omega, by show ns ≤ 7302250; omega⟩ (fun r1 H1 lo1 t1 ht1 hg1 hQ1 hS1 => ?_)
  obtain ⟨w1, hI1, hP1, he1⟩ := hg1
  rw [ht1] at hP1
  refine lv_pop hx hb dL_law_205 rfl ?_
  refine lv_aload_n hx hb dL_law_206 rfl (lv_at hl 1 rfl) ?_
  refine lv_aload_n hx hb dL_law_207 rfl (lv_at hl 3 rfl) ?_
  refine lv_iload_n hx hb dL_law_208 rfl (lv_at hl 0 rfl) ?_
  refine lv_iconst (v := 1) hx hb dL_law_209 (by decide) ?_
  refine lv_iadd hx hb dL_law_210 (lv_topi fun v11 ev11 => ?_)
  have tv11 := q_add ev11 (by omega) (by omega)
  refine va_sld hx hb hX hbl hbA hS1 (q_in (by omega) (by omega)) dL_law_211 (lv_topi fun v12 ev12 => ?_)
  refine lv_aload_n hx hb dL_law_212 rfl (lv_at hl 3 rfl) ?_
  refine lv_iload_n hx hb dL_law_213 rfl (lv_at hl 0 rfl) ?_
  refine lv_iconst (v := 2) hx hb dL_law_214 (by decide) ?_
  refine lv_iadd hx hb dL_law_215 (lv_topi fun v13 ev13 => ?_)
  have tv13 := q_add ev13 (by omega) (by omega)
  refine va_sld hx hb hX hbl hbA hS1 (q_in (by omega) (by omega)) dL_law_216 (lv_topi fun v14 ev14 => ?_)
  refine lv_aload_n hx hb dL_law_217 rfl (lv_at hl 3 rfl) ?_
  refine lv_iload_n hx hb dL_law_218 rfl (lv_at hl 0 rfl) ?_
  refine lv_iconst (v := 3) hx hb dL_law_219 (by decide) ?_
  refine lv_iadd hx hb dL_law_220 (lv_topi fun v15 ev15 => ?_)
  have tv15 := q_add ev15 (by omega) (by omega)
  refine va_sld hx hb hX hbl hbA hS1 (q_in (by omega) (by omega)) dL_law_221 (lv_topi fun v16 ev16 => ?_)
  refine lv_aload_n hx hb dL_law_222 rfl (lv_at hl 3 rfl) ?_
  refine lv_iload_n hx hb dL_law_223 rfl (lv_at hl 0 rfl) ?_
  refine lv_iconst (v := 4) hx hb dL_law_224 (by decide) ?_
  refine lv_iadd hx hb dL_law_225 (lv_topi fun v17 ev17 => ?_)
  have tv17 := q_add ev17 (by omega) (by omega)
  refine va_sld hx hb hX hbl hbA hS1 (q_in (by omega) (by omega)) dL_law_226 (lv_topi fun v18 ev18 => ?_)
  refine lv_aload_n hx hb dL_law_227 rfl (lv_at hl 3 rfl) ?_
  refine lv_iload_n hx hb dL_law_228 rfl (lv_at hl 0 rfl) ?_
  refine lv_iconst (v := 5) hx hb dL_law_229 (by decide) ?_
  refine lv_iadd hx hb dL_law_230 (lv_topi fun v19 ev19 => ?_)
  have tv19 := q_add ev19 (by omega) (by omega)
  refine va_sld hx hb hX hbl hbA hS1 (q_in (by omega) (by omega)) dL_law_231 (lv_topi fun v20 ev20 => ?_)
  refine q_cL (As := [.int v12, .int v14, .int v16, .int v18, .int v20]) (rest := []) q_exw hE hKy hQ1 hey hP1 (he1.trans hex) hDy hd2 hS1 hA ⟨hx, hb, hml, hown, hts⟩ (F_r_feed l dC dI _ hIy v12 v14 v16 v18 v20) (cwV 5 hts (p1_gV m_5 m_6 m_7 m_8 iz_r_feed gz_r_feed) rfl rfl rfl (by decide +kernel) ⟨by decide, by decide⟩) (hIy.recv hKy hQ1) rfl hl.1 rfl (Nat.le_of_ble_eq_true rfl) dL_law_232 ⟨by show nc ≤ 600000; omega, by show ns ≤ 7302250; omega⟩ (fun r2 H2 lo2 t2 ht2 hg2 hQ2 hS2 => ?_)
  obtain ⟨w2, hI2, hP2, he2⟩ := hg2
  rw [ht2] at hP2
  refine lv_pop hx hb dL_law_235 rfl ?_
  refine lv_goto (tgt := 1382) hx hb dL_law_236 (by decide) ?_
  exact kk tm w1 w2 H2 _ ls hI1 hI2 hQ2 (he1.trans hex) hP2 (he2.trans hey) hS2 hl
set_option maxHeartbeats 4000000 in
set_option maxRecDepth 100000 in
theorem law_end {p : Program} {e : Env} {s : State} {m : MethodId} {below : List Frame} {meth : Method} {c : Code} (l : Launch) {b L : Nat} {xs : Nat → Int32} (C0 : lw_At p s m meth c b L xs) {A : Nat → Prop} (hAe : A = fun q : Nat => s.heap.size ≤ q) (hE : q_ex A s s.heap) (dC : Nat → ClassId) (dI : Nat → Nat → Nat) {nc ns : Nat} (hnc : nc ≤ 600000) (hns : ns ≤ 7302250) {x y : Nat} {a1 a2 : List Nat} {tx ty : List (ClassId × FieldType)} (hKx : va_K (dC, dI) vwCl tx s) (hKy : va_K (dC, dI) vwCl ty s) (hDx : q_DA A a1) (hDy : q_DA A a2) (hd1 : ∀ q ∈ a1, q ∉ a2) (hd2 : ∀ q ∈ a2, q ∉ a1) (i : Int32) (hi0 : 0 ≤ i.toInt) (hi6 : i.toInt + 6 ≤ L) (hL : L ≤ 3072) (tm : Int32) (wx wy : va_W) (H : Heap) (locs : List Loc) (ls : Array Slot) (hIx : IX x tm wx tx) (hIy : IM y tm wy ty) (hPx : va_P (dC, dI) vwCl wx H) (hex : wx.map Prod.fst = a1) (hPy : va_P (dC, dI) vwCl wy H) (hey : wy.map Prod.fst = a2) (hS : va_S A s.heap H locs) (hl : lv_has ls 4 [(3, .int i), (2, .ref y), (1, .ref x), (0, .ref b)]) (kk : ∀ (tm : Int32) (wx wy : va_W) (H : Heap) (locs : List Loc) (ls : Array Slot) (hIx : IX x tm wx tx) (hIy : IM y tm wy ty) (hPx : va_P (dC, dI) vwCl wx H) (hex : wx.map Prod.fst = a1) (hPy : va_P (dC, dI) vwCl wy H) (hey : wy.map Prod.fst = a2) (hS : va_S A s.heap H locs) (hl : lv_has ls 4 [(3, .int i), (2, .ref y), (1, .ref x), (0, .ref b)]), W p l e room_1 s m #[Value.ref b] below meth c H locs nc ns (lw_Z below #[Value.ref b] s) (F0 m 1382 ls [])) : W p l e room_1 s m #[Value.ref b] below meth c H locs nc ns (lw_Z below #[Value.ref b] s) (F0 m 239 ls []) := by
  obtain ⟨hx, hb, hr, hml, hown, hts, hX, hbl, hlocks, hgv⟩ := id C0
  have hown : s.vm.findClass RL = some m.cls := hown
  have hA : ∀ q : Nat, s.heap.size ≤ q → A q := by rw [hAe]; exact fun _ h => h
  have hbA : ¬ A b := by rw [hAe]; exact Nat.not_le.mpr hbl
  have lt_1 : (1 : Int32).toInt = 1 := by decide
  have m_1 : (.methodLink RL 18 yX8_end : Cond) ∈ lw_tbl := q_w (n := 550) (by decide +kernel)
  have m_2 : (.instanceMethod yX8_end : Cond) ∈ lw_tbl := q_w (n := 551) (by decide +kernel)
  have m_3 : (.selects RX8 yX8_end yX8_end : Cond) ∈ lw_tbl := q_w (n := 552) (by decide +kernel)
  have m_4 : (.initialized RX8 : Cond) ∈ lw_tbl := q_w (n := 104) (by decide +kernel)
  have m_5 : (.methodLink RL 22 yX9_end : Cond) ∈ lw_tbl := q_w (n := 1693) (by decide +kernel)
  have m_6 : (.instanceMethod yX9_end : Cond) ∈ lw_tbl := q_w (n := 1694) (by decide +kernel)
  have m_7 : (.selects RX9 yX9_end yX9_end : Cond) ∈ lw_tbl := q_w (n := 1695) (by decide +kernel)
  have m_8 : (.initialized RX9 : Cond) ∈ lw_tbl := q_w (n := 116) (by decide +kernel)
  refine lv_aload_n hx hb dL_law_239 rfl (lv_at hl 2 rfl) ?_
  refine lv_aload_n hx hb dL_law_240 rfl (lv_at hl 3 rfl) ?_
  refine lv_iload_n hx hb dL_law_241 rfl (lv_at hl 0 rfl) ?_
  refine lv_iconst (v := 1) hx hb dL_law_242 (by decide) ?_
  refine lv_iadd hx hb dL_law_243 (lv_topi fun v1 ev1 => ?_)
  have tv1 := q_add ev1 (by omega) (by omega)
  refine va_sld hx hb hX hbl hbA hS (q_in (by omega) (by omega)) dL_law_244 (lv_topi fun v2 ev2 => ?_)
  refine q_cL (As := [.int v2]) (rest := []) q_exw hE hKx hPx hex hPy hey hDx hd1 hS hA ⟨hx, hb, hml, hown, hts⟩ (F_t_end l dC dI _ hIx v2) (cwV 1 hts (p1_gV m_1 m_2 m_3 m_4 iz_t_end gz_t_end) rfl rfl rfl (by decide +kernel) ⟨by decide, by decide⟩) (hIx.recv hKx hPx) rfl hl.1 rfl (Nat.le_of_ble_eq_true rfl) dL_law_245 ⟨by show nc ≤ 600000; omega, by show ns ≤ 7302250; omega⟩ (fun r1 H1 lo1 t1 ht1 hg1 hQ1 hS1 => ?_)
  obtain ⟨w1, hI1, hP1, he1⟩ := hg1
  rw [ht1] at hP1
  refine lv_pop hx hb dL_law_248 rfl ?_
  refine lv_aload_n hx hb dL_law_249 rfl (lv_at hl 1 rfl) ?_
  refine lv_aload_n hx hb dL_law_250 rfl (lv_at hl 3 rfl) ?_
  refine lv_iload_n hx hb dL_law_251 rfl (lv_at hl 0 rfl) ?_
  refine lv_iconst (v := 1) hx hb dL_law_252 (by decide) ?_
  refine lv_iadd hx hb dL_law_253 (lv_topi fun v3 ev3 => ?_)
  have tv3 := q_add ev3 (by omega) (by omega)
  refine va_sld hx hb hX hbl hbA hS1 (q_in (by omega) (by omega)) dL_law_254 (lv_topi fun v4 ev4 => ?_)
  refine q_cL (As := [.int v4]) (rest := []) q_exw hE hKy hQ1 hey hP1 (he1.trans hex) hDy hd2 hS1 hA ⟨hx, hb, hml, hown, hts⟩ (F_r_end l dC dI _ hIy v4) (cwV 1 hts (p1_gV m_5 m_6 m_7 m_8 iz_r_end gz_r_end) rfl rfl rfl (by decide +kernel) ⟨by decide, by decide⟩) (hIy.recv hKy hQ1) rfl hl.1 rfl (Nat.le_of_ble_eq_true rfl) dL_law_255 ⟨by show nc ≤ 600000; omega, by show ns ≤ 7302250; omega⟩ (fun r2 H2 lo2 t2 ht2 hg2 hQ2 hS2 => ?_)
  obtain ⟨w2, hI2, hP2, he2⟩ := hg2
  rw [ht2] at hP2
  refine lv_pop hx hb dL_law_258 rfl ?_
  refine lv_goto (tgt := 1382) hx hb dL_law_259 (by decide) ?_
  exact kk tm w1 w2 H2 _ ls hI1 hI2 hQ2 (he1.trans hex) hP2 (he2.trans hey) hS2 hl
set_option maxHeartbeats 4000000 in
set_option maxRecDepth 100000 in
theorem law_shop {p : Program} {e : Env} {s : State} {m : MethodId} {below : List Frame} {meth : Method} {c : Code} (l : Launch) {b L : Nat} {xs : Nat → Int32} (C0 : lw_At p s m meth c b L xs) {A : Nat → Prop} (hAe : A = fun q : Nat => s.heap.size ≤ q) (hE : q_ex A s s.heap) (dC : Nat → ClassId) (dI : Nat → Nat → Nat) {nc ns : Nat} (hnc : nc ≤ 600000) (hns : ns ≤ 7302250) {x y : Nat} {a1 a2 : List Nat} {tx ty : List (ClassId × FieldType)} (hKx : va_K (dC, dI) vwCl tx s) (hKy : va_K (dC, dI) vwCl ty s) (hDx : q_DA A a1) (hDy : q_DA A a2) (hd1 : ∀ q ∈ a1, q ∉ a2) (hd2 : ∀ q ∈ a2, q ∉ a1) (i : Int32) (hi0 : 0 ≤ i.toInt) (hi6 : i.toInt + 6 ≤ L) (hL : L ≤ 3072) (tm : Int32) (wx wy : va_W) (H : Heap) (locs : List Loc) (ls : Array Slot) (hIx : IX x tm wx tx) (hIy : IM y tm wy ty) (hPx : va_P (dC, dI) vwCl wx H) (hex : wx.map Prod.fst = a1) (hPy : va_P (dC, dI) vwCl wy H) (hey : wy.map Prod.fst = a2) (hS : va_S A s.heap H locs) (hl : lv_has ls 4 [(3, .int i), (2, .ref y), (1, .ref x), (0, .ref b)]) (kk : ∀ (tm : Int32) (wx wy : va_W) (H : Heap) (locs : List Loc) (ls : Array Slot) (hIx : IX x tm wx tx) (hIy : IM y tm wy ty) (hPx : va_P (dC, dI) vwCl wx H) (hex : wx.map Prod.fst = a1) (hPy : va_P (dC, dI) vwCl wy H) (hey : wy.map Prod.fst = a2) (hS : va_S A s.heap H locs) (hl : lv_has ls 4 [(3, .int i), (2, .ref y), (1, .ref x), (0, .ref b)]), W p l e room_1 s m #[Value.ref b] below meth c H locs nc ns (lw_Z below #[Value.ref b] s) (F0 m 1382 ls [])) : W p l e room_1 s m #[Value.ref b] below meth c H locs nc ns (lw_Z below #[Value.ref b] s) (F0 m 262 ls []) := by
  obtain ⟨hx, hb, hr, hml, hown, hts, hX, hbl, hlocks, hgv⟩ := id C0
  have hown : s.vm.findClass RL = some m.cls := hown
  have hA : ∀ q : Nat, s.heap.size ≤ q → A q := by rw [hAe]; exact fun _ h => h
  have hbA : ¬ A b := by rw [hAe]; exact Nat.not_le.mpr hbl
  have m_1 : (.methodLink RL 23 yX8_shop : Cond) ∈ lw_tbl := q_w (n := 554) (by decide +kernel)
  have m_2 : (.instanceMethod yX8_shop : Cond) ∈ lw_tbl := q_w (n := 555) (by decide +kernel)
  have m_3 : (.selects RX8 yX8_shop yX8_shop : Cond) ∈ lw_tbl := q_w (n := 556) (by decide +kernel)
  have m_4 : (.initialized RX8 : Cond) ∈ lw_tbl := q_w (n := 104) (by decide +kernel)
  have m_5 : (.methodLink RL 27 yX9_shop : Cond) ∈ lw_tbl := q_w (n := 1281) (by decide +kernel)
  have m_6 : (.instanceMethod yX9_shop : Cond) ∈ lw_tbl := q_w (n := 1282) (by decide +kernel)
  have m_7 : (.selects RX9 yX9_shop yX9_shop : Cond) ∈ lw_tbl := q_w (n := 1283) (by decide +kernel)
  have m_8 : (.initialized RX9 : Cond) ∈ lw_tbl := q_w (n := 116) (by decide +kernel)
  refine lv_aload_n hx hb dL_law_262 rfl (lv_at hl 2 rfl) ?_
  refine q_cL (As := []) (rest := []) q_exw hE hKx hPx hex hPy hey hDx hd1 hS hA ⟨hx, hb, hml, hown, hts⟩ (F_t_shop l dC dI _ hIx ) (cwV 0 hts (p1_gV m_1 m_2 m_3 m_4 iz_t_shop gz_t_shop) rfl rfl rfl (by decide +kernel) ⟨by decide, by decide⟩) (hIx.recv hKx hPx) rfl hl.1 rfl (Nat.le_of_ble_eq_true rfl) dL_law_263 ⟨by show nc ≤ 600000; omega, by show ns ≤ 7302250; omega⟩ (fun r1 H1 lo1 t1 ht1 hg1 hQ1 hS1 => ?_)
  obtain ⟨w1, hI1, hP1, he1⟩ := hg1
  rw [ht1] at hP1
  refine lv_pop hx hb dL_law_266 rfl ?_
  refine lv_aload_n hx hb dL_law_267 rfl (lv_at hl 1 rfl) ?_
  refine q_cL (As := []) (rest := []) q_exw hE hKy hQ1 hey hP1 (he1.trans hex) hDy hd2 hS1 hA ⟨hx, hb, hml, hown, hts⟩ (F_r_shop l dC dI _ hIy ) (cwV 0 hts (p1_gV m_5 m_6 m_7 m_8 iz_r_shop gz_r_shop) rfl rfl rfl (by decide +kernel) ⟨by decide, by decide⟩) (hIy.recv hKy hQ1) rfl hl.1 rfl (Nat.le_of_ble_eq_true rfl) dL_law_268 ⟨by show nc ≤ 600000; omega, by show ns ≤ 7302250; omega⟩ (fun r2 H2 lo2 t2 ht2 hg2 hQ2 hS2 => ?_)
  obtain ⟨w2, hI2, hP2, he2⟩ := hg2
  rw [ht2] at hP2
  refine lv_pop hx hb dL_law_271 rfl ?_
  refine lv_goto (tgt := 1382) hx hb dL_law_272 (by decide) ?_
  exact kk tm w1 w2 H2 _ ls hI1 hI2 hQ2 (he1.trans hex) hP2 (he2.trans hey) hS2 hl
set_option maxHeartbeats 4000000 in
set_option maxRecDepth 100000 in
theorem law_fault {p : Program} {e : Env} {s : State} {m : MethodId} {below : List Frame} {meth : Method} {c : Code} (l : Launch) {b L : Nat} {xs : Nat → Int32} (C0 : lw_At p s m meth c b L xs) {A : Nat → Prop} (hAe : A = fun q : Nat => s.heap.size ≤ q) (hE : q_ex A s s.heap) (dC : Nat → ClassId) (dI : Nat → Nat → Nat) {nc ns : Nat} (hnc : nc ≤ 600000) (hns : ns ≤ 7302250) {x y : Nat} {a1 a2 : List Nat} {tx ty : List (ClassId × FieldType)} (hKx : va_K (dC, dI) vwCl tx s) (hKy : va_K (dC, dI) vwCl ty s) (hDx : q_DA A a1) (hDy : q_DA A a2) (hd1 : ∀ q ∈ a1, q ∉ a2) (hd2 : ∀ q ∈ a2, q ∉ a1) (i : Int32) (hi0 : 0 ≤ i.toInt) (hi6 : i.toInt + 6 ≤ L) (hL : L ≤ 3072) (tm : Int32) (wx wy : va_W) (H : Heap) (locs : List Loc) (ls : Array Slot) (hIx : IX x tm wx tx) (hIy : IM y tm wy ty) (hPx : va_P (dC, dI) vwCl wx H) (hex : wx.map Prod.fst = a1) (hPy : va_P (dC, dI) vwCl wy H) (hey : wy.map Prod.fst = a2) (hS : va_S A s.heap H locs) (hl : lv_has ls 4 [(3, .int i), (2, .ref y), (1, .ref x), (0, .ref b)]) (kk : ∀ (tm : Int32) (wx wy : va_W) (H : Heap) (locs : List Loc) (ls : Array Slot) (hIx : IX x tm wx tx) (hIy : IM y tm wy ty) (hPx : va_P (dC, dI) vwCl wx H) (hex : wx.map Prod.fst = a1) (hPy : va_P (dC, dI) vwCl wy H) (hey : wy.map Prod.fst = a2) (hS : va_S A s.heap H locs) (hl : lv_has ls 4 [(3, .int i), (2, .ref y), (1, .ref x), (0, .ref b)]), W p l e room_1 s m #[Value.ref b] below meth c H locs nc ns (lw_Z below #[Value.ref b] s) (F0 m 1382 ls [])) : W p l e room_1 s m #[Value.ref b] below meth c H locs nc ns (lw_Z below #[Value.ref b] s) (F0 m 275 ls []) := by
  obtain ⟨hx, hb, hr, hml, hown, hts, hX, hbl, hlocks, hgv⟩ := id C0
  have hown : s.vm.findClass RL = some m.cls := hown
  have hA : ∀ q : Nat, s.heap.size ≤ q → A q := by rw [hAe]; exact fun _ h => h
  have hbA : ¬ A b := by rw [hAe]; exact Nat.not_le.mpr hbl
  have lt_1 : (1 : Int32).toInt = 1 := by decide
  have m_1 : (.methodLink RL 28 yX8_fault : Cond) ∈ lw_tbl := q_w (n := 706) (by decide +kernel)
  have m_2 : (.instanceMethod yX8_fault : Cond) ∈ lw_tbl := q_w (n := 707) (by decide +kernel)
  have m_3 : (.selects RX8 yX8_fault yX8_fault : Cond) ∈ lw_tbl := q_w (n := 708) (by decide +kernel)
  have m_4 : (.initialized RX8 : Cond) ∈ lw_tbl := q_w (n := 104) (by decide +kernel)
  have m_5 : (.methodLink RL 31 yX9_fault : Cond) ∈ lw_tbl := q_w (n := 1427) (by decide +kernel)
  have m_6 : (.instanceMethod yX9_fault : Cond) ∈ lw_tbl := q_w (n := 1428) (by decide +kernel)
  have m_7 : (.selects RX9 yX9_fault yX9_fault : Cond) ∈ lw_tbl := q_w (n := 1429) (by decide +kernel)
  have m_8 : (.initialized RX9 : Cond) ∈ lw_tbl := q_w (n := 116) (by decide +kernel)
  refine lv_aload_n hx hb dL_law_275 rfl (lv_at hl 2 rfl) ?_
  refine lv_aload_n hx hb dL_law_276 rfl (lv_at hl 3 rfl) ?_
  refine lv_iload_n hx hb dL_law_277 rfl (lv_at hl 0 rfl) ?_
  refine lv_iconst (v := 1) hx hb dL_law_278 (by decide) ?_
  refine lv_iadd hx hb dL_law_279 (lv_topi fun v1 ev1 => ?_)
  have tv1 := q_add ev1 (by omega) (by omega)
  refine va_sld hx hb hX hbl hbA hS (q_in (by omega) (by omega)) dL_law_280 (lv_topi fun v2 ev2 => ?_)
  refine q_cL (As := [.int v2]) (rest := []) q_exw hE hKx hPx hex hPy hey hDx hd1 hS hA ⟨hx, hb, hml, hown, hts⟩ (F_t_fault l dC dI _ hIx v2) (cwV 1 hts (p1_gV m_1 m_2 m_3 m_4 iz_t_fault gz_t_fault) rfl rfl rfl (by decide +kernel) ⟨by decide, by decide⟩) (hIx.recv hKx hPx) rfl hl.1 rfl (Nat.le_of_ble_eq_true rfl) dL_law_281 ⟨by show nc ≤ 600000; omega, by show ns ≤ 7302250; omega⟩ (fun r1 H1 lo1 t1 ht1 hg1 hQ1 hS1 => ?_)
  obtain ⟨w1, hI1, hP1, he1⟩ := hg1
  rw [ht1] at hP1
  refine lv_pop hx hb dL_law_284 rfl ?_
  refine lv_aload_n hx hb dL_law_285 rfl (lv_at hl 1 rfl) ?_
  refine lv_aload_n hx hb dL_law_286 rfl (lv_at hl 3 rfl) ?_
  refine lv_iload_n hx hb dL_law_287 rfl (lv_at hl 0 rfl) ?_
  refine lv_iconst (v := 1) hx hb dL_law_288 (by decide) ?_
  refine lv_iadd hx hb dL_law_289 (lv_topi fun v3 ev3 => ?_)
  have tv3 := q_add ev3 (by omega) (by omega)
  refine va_sld hx hb hX hbl hbA hS1 (q_in (by omega) (by omega)) dL_law_290 (lv_topi fun v4 ev4 => ?_)
  refine q_cL (As := [.int v4]) (rest := []) q_exw hE hKy hQ1 hey hP1 (he1.trans hex) hDy hd2 hS1 hA ⟨hx, hb, hml, hown, hts⟩ (F_r_fault l dC dI _ hIy v4) (cwV 1 hts (p1_gV m_5 m_6 m_7 m_8 iz_r_fault gz_r_fault) rfl rfl rfl (by decide +kernel) ⟨by decide, by decide⟩) (hIy.recv hKy hQ1) rfl hl.1 rfl (Nat.le_of_ble_eq_true rfl) dL_law_291 ⟨by show nc ≤ 600000; omega, by show ns ≤ 7302250; omega⟩ (fun r2 H2 lo2 t2 ht2 hg2 hQ2 hS2 => ?_)
  obtain ⟨w2, hI2, hP2, he2⟩ := hg2
  rw [ht2] at hP2
  refine lv_pop hx hb dL_law_294 rfl ?_
  refine lv_goto (tgt := 1382) hx hb dL_law_295 (by decide) ?_
  exact kk tm w1 w2 H2 _ ls hI1 hI2 hQ2 (he1.trans hex) hP2 (he2.trans hey) hS2 hl
set_option maxHeartbeats 4000000 in
set_option maxRecDepth 100000 in
theorem law_knot {p : Program} {e : Env} {s : State} {m : MethodId} {below : List Frame} {meth : Method} {c : Code} (l : Launch) {b L : Nat} {xs : Nat → Int32} (C0 : lw_At p s m meth c b L xs) {A : Nat → Prop} (hAe : A = fun q : Nat => s.heap.size ≤ q) (hE : q_ex A s s.heap) (dC : Nat → ClassId) (dI : Nat → Nat → Nat) {nc ns : Nat} (hnc : nc ≤ 600000) (hns : ns ≤ 7302250) {x y : Nat} {a1 a2 : List Nat} {tx ty : List (ClassId × FieldType)} (hKx : va_K (dC, dI) vwCl tx s) (hKy : va_K (dC, dI) vwCl ty s) (hDx : q_DA A a1) (hDy : q_DA A a2) (hd1 : ∀ q ∈ a1, q ∉ a2) (hd2 : ∀ q ∈ a2, q ∉ a1) (i : Int32) (hi0 : 0 ≤ i.toInt) (hi6 : i.toInt + 6 ≤ L) (hL : L ≤ 3072) (tm : Int32) (wx wy : va_W) (H : Heap) (locs : List Loc) (ls : Array Slot) (hIx : IX x tm wx tx) (hIy : IM y tm wy ty) (hPx : va_P (dC, dI) vwCl wx H) (hex : wx.map Prod.fst = a1) (hPy : va_P (dC, dI) vwCl wy H) (hey : wy.map Prod.fst = a2) (hS : va_S A s.heap H locs) (hl : lv_has ls 4 [(3, .int i), (2, .ref y), (1, .ref x), (0, .ref b)]) (kk : ∀ (tm : Int32) (wx wy : va_W) (H : Heap) (locs : List Loc) (ls : Array Slot) (hIx : IX x tm wx tx) (hIy : IM y tm wy ty) (hPx : va_P (dC, dI) vwCl wx H) (hex : wx.map Prod.fst = a1) (hPy : va_P (dC, dI) vwCl wy H) (hey : wy.map Prod.fst = a2) (hS : va_S A s.heap H locs) (hl : lv_has ls 4 [(3, .int i), (2, .ref y), (1, .ref x), (0, .ref b)]), W p l e room_1 s m #[Value.ref b] below meth c H locs nc ns (lw_Z below #[Value.ref b] s) (F0 m 1382 ls [])) : W p l e room_1 s m #[Value.ref b] below meth c H locs nc ns (lw_Z below #[Value.ref b] s) (F0 m 298 ls []) := by
  obtain ⟨hx, hb, hr, hml, hown, hts, hX, hbl, hlocks, hgv⟩ := id C0
  have hown : s.vm.findClass RL = some m.cls := hown
  have hA : ∀ q : Nat, s.heap.size ≤ q → A q := by rw [hAe]; exact fun _ h => h
  have hbA : ¬ A b := by rw [hAe]; exact Nat.not_le.mpr hbl
  have lt_1 : (1 : Int32).toInt = 1 := by decide
  have lt_2 : (2 : Int32).toInt = 2 := by decide
  have m_1 : (.methodLink RL 32 yX8_knot : Cond) ∈ lw_tbl := q_w (n := 710) (by decide +kernel)
  have m_2 : (.instanceMethod yX8_knot : Cond) ∈ lw_tbl := q_w (n := 711) (by decide +kernel)
  have m_3 : (.selects RX8 yX8_knot yX8_knot : Cond) ∈ lw_tbl := q_w (n := 712) (by decide +kernel)
  have m_4 : (.initialized RX8 : Cond) ∈ lw_tbl := q_w (n := 104) (by decide +kernel)
  have m_5 : (.methodLink RL 36 yX9_knot : Cond) ∈ lw_tbl := q_w (n := 1510) (by decide +kernel)
  have m_6 : (.instanceMethod yX9_knot : Cond) ∈ lw_tbl := q_w (n := 1511) (by decide +kernel)
  have m_7 : (.selects RX9 yX9_knot yX9_knot : Cond) ∈ lw_tbl := q_w (n := 1512) (by decide +kernel)
  have m_8 : (.initialized RX9 : Cond) ∈ lw_tbl := q_w (n := 116) (by decide +kernel)
  refine lv_aload_n hx hb dL_law_298 rfl (lv_at hl 2 rfl) ?_
  refine lv_aload_n hx hb dL_law_299 rfl (lv_at hl 3 rfl) ?_
  refine lv_iload_n hx hb dL_law_300 rfl (lv_at hl 0 rfl) ?_
  refine lv_iconst (v := 1) hx hb dL_law_301 (by decide) ?_
  refine lv_iadd hx hb dL_law_302 (lv_topi fun v1 ev1 => ?_)
  have tv1 := q_add ev1 (by omega) (by omega)
  refine va_sld hx hb hX hbl hbA hS (q_in (by omega) (by omega)) dL_law_303 (lv_topi fun v2 ev2 => ?_)
  refine lv_aload_n hx hb dL_law_304 rfl (lv_at hl 3 rfl) ?_
  refine lv_iload_n hx hb dL_law_305 rfl (lv_at hl 0 rfl) ?_
  refine lv_iconst (v := 2) hx hb dL_law_306 (by decide) ?_
  refine lv_iadd hx hb dL_law_307 (lv_topi fun v3 ev3 => ?_)
  have tv3 := q_add ev3 (by omega) (by omega)
  refine va_sld hx hb hX hbl hbA hS (q_in (by omega) (by omega)) dL_law_308 (lv_topi fun v4 ev4 => ?_)
  refine q_cL (As := [.int v2, .int v4]) (rest := []) q_exw hE hKx hPx hex hPy hey hDx hd1 hS hA ⟨hx, hb, hml, hown, hts⟩ (F_t_knot l dC dI _ hIx v2 v4) (cwV 2 hts (p1_gV m_1 m_2 m_3 m_4 iz_t_knot gz_t_knot) rfl rfl rfl (by decide +kernel) ⟨by decide, by decide⟩) (hIx.recv hKx hPx) rfl hl.1 rfl (Nat.le_of_ble_eq_true rfl) dL_law_309 ⟨by show nc ≤ 600000; omega, by show ns ≤ 7302250; omega⟩ (fun r1 H1 lo1 t1 ht1 hg1 hQ1 hS1 => ?_)
  obtain ⟨w1, hI1, hP1, he1⟩ := hg1
  rw [ht1] at hP1
  refine lv_pop hx hb dL_law_312 rfl ?_
  refine lv_aload_n hx hb dL_law_313 rfl (lv_at hl 1 rfl) ?_
  refine lv_aload_n hx hb dL_law_314 rfl (lv_at hl 3 rfl) ?_
  refine lv_iload_n hx hb dL_law_315 rfl (lv_at hl 0 rfl) ?_
  refine lv_iconst (v := 1) hx hb dL_law_316 (by decide) ?_
  refine lv_iadd hx hb dL_law_317 (lv_topi fun v5 ev5 => ?_)
  have tv5 := q_add ev5 (by omega) (by omega)
  refine va_sld hx hb hX hbl hbA hS1 (q_in (by omega) (by omega)) dL_law_318 (lv_topi fun v6 ev6 => ?_)
  refine lv_aload_n hx hb dL_law_319 rfl (lv_at hl 3 rfl) ?_
  refine lv_iload_n hx hb dL_law_320 rfl (lv_at hl 0 rfl) ?_
  refine lv_iconst (v := 2) hx hb dL_law_321 (by decide) ?_
  refine lv_iadd hx hb dL_law_322 (lv_topi fun v7 ev7 => ?_)
  have tv7 := q_add ev7 (by omega) (by omega)
  refine va_sld hx hb hX hbl hbA hS1 (q_in (by omega) (by omega)) dL_law_323 (lv_topi fun v8 ev8 => ?_)
  refine q_cL (As := [.int v6, .int v8]) (rest := []) q_exw hE hKy hQ1 hey hP1 (he1.trans hex) hDy hd2 hS1 hA ⟨hx, hb, hml, hown, hts⟩ (F_r_knot l dC dI _ hIy v6 v8) (cwV 2 hts (p1_gV m_5 m_6 m_7 m_8 iz_r_knot gz_r_knot) rfl rfl rfl (by decide +kernel) ⟨by decide, by decide⟩) (hIy.recv hKy hQ1) rfl hl.1 rfl (Nat.le_of_ble_eq_true rfl) dL_law_324 ⟨by show nc ≤ 600000; omega, by show ns ≤ 7302250; omega⟩ (fun r2 H2 lo2 t2 ht2 hg2 hQ2 hS2 => ?_)
  obtain ⟨w2, hI2, hP2, he2⟩ := hg2
  rw [ht2] at hP2
  refine lv_pop hx hb dL_law_327 rfl ?_
  refine lv_goto (tgt := 1382) hx hb dL_law_328 (by decide) ?_
  exact kk tm w1 w2 H2 _ ls hI1 hI2 hQ2 (he1.trans hex) hP2 (he2.trans hey) hS2 hl
set_option maxHeartbeats 4000000 in
set_option maxRecDepth 100000 in
theorem law_tie {p : Program} {e : Env} {s : State} {m : MethodId} {below : List Frame} {meth : Method} {c : Code} (l : Launch) {b L : Nat} {xs : Nat → Int32} (C0 : lw_At p s m meth c b L xs) {A : Nat → Prop} (hAe : A = fun q : Nat => s.heap.size ≤ q) (hE : q_ex A s s.heap) (dC : Nat → ClassId) (dI : Nat → Nat → Nat) {nc ns : Nat} (hnc : nc ≤ 600000) (hns : ns ≤ 7302250) {x y : Nat} {a1 a2 : List Nat} {tx ty : List (ClassId × FieldType)} (hKx : va_K (dC, dI) vwCl tx s) (hKy : va_K (dC, dI) vwCl ty s) (hDx : q_DA A a1) (hDy : q_DA A a2) (hd1 : ∀ q ∈ a1, q ∉ a2) (hd2 : ∀ q ∈ a2, q ∉ a1) (i : Int32) (hi0 : 0 ≤ i.toInt) (hi6 : i.toInt + 6 ≤ L) (hL : L ≤ 3072) (tm : Int32) (wx wy : va_W) (H : Heap) (locs : List Loc) (ls : Array Slot) (hIx : IX x tm wx tx) (hIy : IM y tm wy ty) (hPx : va_P (dC, dI) vwCl wx H) (hex : wx.map Prod.fst = a1) (hPy : va_P (dC, dI) vwCl wy H) (hey : wy.map Prod.fst = a2) (hS : va_S A s.heap H locs) (hl : lv_has ls 4 [(3, .int i), (2, .ref y), (1, .ref x), (0, .ref b)]) (kk : ∀ (tm : Int32) (wx wy : va_W) (H : Heap) (locs : List Loc) (ls : Array Slot) (hIx : IX x tm wx tx) (hIy : IM y tm wy ty) (hPx : va_P (dC, dI) vwCl wx H) (hex : wx.map Prod.fst = a1) (hPy : va_P (dC, dI) vwCl wy H) (hey : wy.map Prod.fst = a2) (hS : va_S A s.heap H locs) (hl : lv_has ls 4 [(3, .int i), (2, .ref y), (1, .ref x), (0, .ref b)]), W p l e room_1 s m #[Value.ref b] below meth c H locs nc ns (lw_Z below #[Value.ref b] s) (F0 m 1382 ls [])) : W p l e room_1 s m #[Value.ref b] below meth c H locs nc ns (lw_Z below #[Value.ref b] s) (F0 m 331 ls []) := by
  obtain ⟨hx, hb, hr, hml, hown, hts, hX, hbl, hlocks, hgv⟩ := id C0
  have hown : s.vm.findClass RL = some m.cls := hown
  have hA : ∀ q : Nat, s.heap.size ≤ q → A q := by rw [hAe]; exact fun _ h => h
  have hbA : ¬ A b := by rw [hAe]; exact Nat.not_le.mpr hbl
  have lt_1 : (1 : Int32).toInt = 1 := by decide
  have lt_2 : (2 : Int32).toInt = 2 := by decide
  have m_1 : (.methodLink RL 37 yX8_tie : Cond) ∈ lw_tbl := q_w (n := 727) (by decide +kernel)
  have m_2 : (.instanceMethod yX8_tie : Cond) ∈ lw_tbl := q_w (n := 728) (by decide +kernel)
  have m_3 : (.selects RX8 yX8_tie yX8_tie : Cond) ∈ lw_tbl := q_w (n := 729) (by decide +kernel)
  have m_4 : (.initialized RX8 : Cond) ∈ lw_tbl := q_w (n := 104) (by decide +kernel)
  have m_5 : (.methodLink RL 40 yX9_tie : Cond) ∈ lw_tbl := q_w (n := 1431) (by decide +kernel)
  have m_6 : (.instanceMethod yX9_tie : Cond) ∈ lw_tbl := q_w (n := 1432) (by decide +kernel)
  have m_7 : (.selects RX9 yX9_tie yX9_tie : Cond) ∈ lw_tbl := q_w (n := 1433) (by decide +kernel)
  have m_8 : (.initialized RX9 : Cond) ∈ lw_tbl := q_w (n := 116) (by decide +kernel)
  refine lv_aload_n hx hb dL_law_331 rfl (lv_at hl 2 rfl) ?_
  refine lv_aload_n hx hb dL_law_332 rfl (lv_at hl 3 rfl) ?_
  refine lv_iload_n hx hb dL_law_333 rfl (lv_at hl 0 rfl) ?_
  refine lv_iconst (v := 1) hx hb dL_law_334 (by decide) ?_
  refine lv_iadd hx hb dL_law_335 (lv_topi fun v1 ev1 => ?_)
  have tv1 := q_add ev1 (by omega) (by omega)
  refine va_sld hx hb hX hbl hbA hS (q_in (by omega) (by omega)) dL_law_336 (lv_topi fun v2 ev2 => ?_)
  refine lv_aload_n hx hb dL_law_337 rfl (lv_at hl 3 rfl) ?_
  refine lv_iload_n hx hb dL_law_338 rfl (lv_at hl 0 rfl) ?_
  refine lv_iconst (v := 2) hx hb dL_law_339 (by decide) ?_
  refine lv_iadd hx hb dL_law_340 (lv_topi fun v3 ev3 => ?_)
  have tv3 := q_add ev3 (by omega) (by omega)
  refine va_sld hx hb hX hbl hbA hS (q_in (by omega) (by omega)) dL_law_341 (lv_topi fun v4 ev4 => ?_)
  refine q_cL (As := [.int v2, .int v4]) (rest := []) q_exw hE hKx hPx hex hPy hey hDx hd1 hS hA ⟨hx, hb, hml, hown, hts⟩ (F_t_tie l dC dI _ hIx v2 v4) (cwV 2 hts (p1_gV m_1 m_2 m_3 m_4 iz_t_tie gz_t_tie) rfl rfl rfl (by decide +kernel) ⟨by decide, by decide⟩) (hIx.recv hKx hPx) rfl hl.1 rfl (Nat.le_of_ble_eq_true rfl) dL_law_342 ⟨by show nc ≤ 600000; omega, by show ns ≤ 7302250; omega⟩ (fun r1 H1 lo1 t1 ht1 hg1 hQ1 hS1 => ?_)
  obtain ⟨w1, hI1, hP1, he1⟩ := hg1
  rw [ht1] at hP1
  refine lv_pop hx hb dL_law_345 rfl ?_
  refine lv_aload_n hx hb dL_law_346 rfl (lv_at hl 1 rfl) ?_
  refine lv_aload_n hx hb dL_law_347 rfl (lv_at hl 3 rfl) ?_
  refine lv_iload_n hx hb dL_law_348 rfl (lv_at hl 0 rfl) ?_
  refine lv_iconst (v := 1) hx hb dL_law_349 (by decide) ?_
  refine lv_iadd hx hb dL_law_350 (lv_topi fun v5 ev5 => ?_)
  have tv5 := q_add ev5 (by omega) (by omega)
  refine va_sld hx hb hX hbl hbA hS1 (q_in (by omega) (by omega)) dL_law_351 (lv_topi fun v6 ev6 => ?_)
  refine lv_aload_n hx hb dL_law_352 rfl (lv_at hl 3 rfl) ?_
  refine lv_iload_n hx hb dL_law_353 rfl (lv_at hl 0 rfl) ?_
  refine lv_iconst (v := 2) hx hb dL_law_354 (by decide) ?_
  refine lv_iadd hx hb dL_law_355 (lv_topi fun v7 ev7 => ?_)
  have tv7 := q_add ev7 (by omega) (by omega)
  refine va_sld hx hb hX hbl hbA hS1 (q_in (by omega) (by omega)) dL_law_356 (lv_topi fun v8 ev8 => ?_)
  refine q_cL (As := [.int v6, .int v8]) (rest := []) q_exw hE hKy hQ1 hey hP1 (he1.trans hex) hDy hd2 hS1 hA ⟨hx, hb, hml, hown, hts⟩ (F_r_tie l dC dI _ hIy v6 v8) (cwV 2 hts (p1_gV m_5 m_6 m_7 m_8 iz_r_tie gz_r_tie) rfl rfl rfl (by decide +kernel) ⟨by decide, by decide⟩) (hIy.recv hKy hQ1) rfl hl.1 rfl (Nat.le_of_ble_eq_true rfl) dL_law_357 ⟨by show nc ≤ 600000; omega, by show ns ≤ 7302250; omega⟩ (fun r2 H2 lo2 t2 ht2 hg2 hQ2 hS2 => ?_)
  obtain ⟨w2, hI2, hP2, he2⟩ := hg2
  rw [ht2] at hP2
  refine lv_pop hx hb dL_law_360 rfl ?_
  refine lv_goto (tgt := 1382) hx hb dL_law_361 (by decide) ?_
  exact kk tm w1 w2 H2 _ ls hI1 hI2 hQ2 (he1.trans hex) hP2 (he2.trans hey) hS2 hl
set_option maxHeartbeats 4000000 in
set_option maxRecDepth 100000 in
theorem law_walk {p : Program} {e : Env} {s : State} {m : MethodId} {below : List Frame} {meth : Method} {c : Code} (l : Launch) {b L : Nat} {xs : Nat → Int32} (C0 : lw_At p s m meth c b L xs) {A : Nat → Prop} (hAe : A = fun q : Nat => s.heap.size ≤ q) (hE : q_ex A s s.heap) (dC : Nat → ClassId) (dI : Nat → Nat → Nat) {nc ns : Nat} (hnc : nc ≤ 600000) (hns : ns ≤ 7302250) {x y : Nat} {a1 a2 : List Nat} {tx ty : List (ClassId × FieldType)} (hKx : va_K (dC, dI) vwCl tx s) (hKy : va_K (dC, dI) vwCl ty s) (hDx : q_DA A a1) (hDy : q_DA A a2) (hd1 : ∀ q ∈ a1, q ∉ a2) (hd2 : ∀ q ∈ a2, q ∉ a1) (i : Int32) (hi0 : 0 ≤ i.toInt) (hi6 : i.toInt + 6 ≤ L) (hL : L ≤ 3072) (tm : Int32) (wx wy : va_W) (H : Heap) (locs : List Loc) (ls : Array Slot) (hIx : IX x tm wx tx) (hIy : IM y tm wy ty) (hPx : va_P (dC, dI) vwCl wx H) (hex : wx.map Prod.fst = a1) (hPy : va_P (dC, dI) vwCl wy H) (hey : wy.map Prod.fst = a2) (hS : va_S A s.heap H locs) (hl : lv_has ls 4 [(3, .int i), (2, .ref y), (1, .ref x), (0, .ref b)]) (kk : ∀ (tm : Int32) (wx wy : va_W) (H : Heap) (locs : List Loc) (ls : Array Slot) (hIx : IX x tm wx tx) (hIy : IM y tm wy ty) (hPx : va_P (dC, dI) vwCl wx H) (hex : wx.map Prod.fst = a1) (hPy : va_P (dC, dI) vwCl wy H) (hey : wy.map Prod.fst = a2) (hS : va_S A s.heap H locs) (hl : lv_has ls 4 [(3, .int i), (2, .ref y), (1, .ref x), (0, .ref b)]), W p l e room_1 s m #[Value.ref b] below meth c H locs nc ns (lw_Z below #[Value.ref b] s) (F0 m 1382 ls [])) : W p l e room_1 s m #[Value.ref b] below meth c H locs nc ns (lw_Z below #[Value.ref b] s) (F0 m 364 ls []) := by
  obtain ⟨hx, hb, hr, hml, hown, hts, hX, hbl, hlocks, hgv⟩ := id C0
  have hown : s.vm.findClass RL = some m.cls := hown
  have hA : ∀ q : Nat, s.heap.size ≤ q → A q := by rw [hAe]; exact fun _ h => h
  have hbA : ¬ A b := by rw [hAe]; exact Nat.not_le.mpr hbl
  have lt_1 : (1 : Int32).toInt = 1 := by decide
  have lt_2 : (2 : Int32).toInt = 2 := by decide
  have m_1 : (.methodLink RL 41 yX8_walk : Cond) ∈ lw_tbl := q_w (n := 745) (by decide +kernel)
  have m_2 : (.instanceMethod yX8_walk : Cond) ∈ lw_tbl := q_w (n := 746) (by decide +kernel)
  have m_3 : (.selects RX8 yX8_walk yX8_walk : Cond) ∈ lw_tbl := q_w (n := 747) (by decide +kernel)
  have m_4 : (.initialized RX8 : Cond) ∈ lw_tbl := q_w (n := 104) (by decide +kernel)
  have m_5 : (.methodLink RL 44 yX9_walk : Cond) ∈ lw_tbl := q_w (n := 1454) (by decide +kernel)
  have m_6 : (.instanceMethod yX9_walk : Cond) ∈ lw_tbl := q_w (n := 1455) (by decide +kernel)
  have m_7 : (.selects RX9 yX9_walk yX9_walk : Cond) ∈ lw_tbl := q_w (n := 1456) (by decide +kernel)
  have m_8 : (.initialized RX9 : Cond) ∈ lw_tbl := q_w (n := 116) (by decide +kernel)
  refine lv_aload_n hx hb dL_law_364 rfl (lv_at hl 2 rfl) ?_
  refine lv_aload_n hx hb dL_law_365 rfl (lv_at hl 3 rfl) ?_
  refine lv_iload_n hx hb dL_law_366 rfl (lv_at hl 0 rfl) ?_
  refine lv_iconst (v := 1) hx hb dL_law_367 (by decide) ?_
  refine lv_iadd hx hb dL_law_368 (lv_topi fun v1 ev1 => ?_)
  have tv1 := q_add ev1 (by omega) (by omega)
  refine va_sld hx hb hX hbl hbA hS (q_in (by omega) (by omega)) dL_law_369 (lv_topi fun v2 ev2 => ?_)
  refine lv_aload_n hx hb dL_law_370 rfl (lv_at hl 3 rfl) ?_
  refine lv_iload_n hx hb dL_law_371 rfl (lv_at hl 0 rfl) ?_
  refine lv_iconst (v := 2) hx hb dL_law_372 (by decide) ?_
  refine lv_iadd hx hb dL_law_373 (lv_topi fun v3 ev3 => ?_)
  have tv3 := q_add ev3 (by omega) (by omega)
  refine va_sld hx hb hX hbl hbA hS (q_in (by omega) (by omega)) dL_law_374 (lv_topi fun v4 ev4 => ?_)
  refine q_cL (As := [.int v2, .int v4]) (rest := []) q_exw hE hKx hPx hex hPy hey hDx hd1 hS hA ⟨hx, hb, hml, hown, hts⟩ (F_t_walk l dC dI _ hIx v2 v4) (cwV 2 hts (p1_gV m_1 m_2 m_3 m_4 iz_t_walk gz_t_walk) rfl rfl rfl (by decide +kernel) ⟨by decide, by decide⟩) (hIx.recv hKx hPx) rfl hl.1 rfl (Nat.le_of_ble_eq_true rfl) dL_law_375 ⟨by show nc ≤ 600000; omega, by show ns ≤ 7302250; omega⟩ (fun r1 H1 lo1 t1 ht1 hg1 hQ1 hS1 => ?_)
  obtain ⟨w1, hI1, hP1, he1⟩ := hg1
  rw [ht1] at hP1
  refine lv_pop hx hb dL_law_378 rfl ?_
  refine lv_aload_n hx hb dL_law_379 rfl (lv_at hl 1 rfl) ?_
  refine lv_aload_n hx hb dL_law_380 rfl (lv_at hl 3 rfl) ?_
  refine lv_iload_n hx hb dL_law_381 rfl (lv_at hl 0 rfl) ?_
  refine lv_iconst (v := 1) hx hb dL_law_382 (by decide) ?_
  refine lv_iadd hx hb dL_law_383 (lv_topi fun v5 ev5 => ?_)
  have tv5 := q_add ev5 (by omega) (by omega)
  refine va_sld hx hb hX hbl hbA hS1 (q_in (by omega) (by omega)) dL_law_384 (lv_topi fun v6 ev6 => ?_)
  refine lv_aload_n hx hb dL_law_385 rfl (lv_at hl 3 rfl) ?_
  refine lv_iload_n hx hb dL_law_386 rfl (lv_at hl 0 rfl) ?_
  refine lv_iconst (v := 2) hx hb dL_law_387 (by decide) ?_
  refine lv_iadd hx hb dL_law_388 (lv_topi fun v7 ev7 => ?_)
  have tv7 := q_add ev7 (by omega) (by omega)
  refine va_sld hx hb hX hbl hbA hS1 (q_in (by omega) (by omega)) dL_law_389 (lv_topi fun v8 ev8 => ?_)
  refine q_cL (As := [.int v6, .int v8]) (rest := []) q_exw hE hKy hQ1 hey hP1 (he1.trans hex) hDy hd2 hS1 hA ⟨hx, hb, hml, hown, hts⟩ (F_r_walk l dC dI _ hIy v6 v8) (cwV 2 hts (p1_gV m_5 m_6 m_7 m_8 iz_r_walk gz_r_walk) rfl rfl rfl (by decide +kernel) ⟨by decide, by decide⟩) (hIy.recv hKy hQ1) rfl hl.1 rfl (Nat.le_of_ble_eq_true rfl) dL_law_390 ⟨by show nc ≤ 600000; omega, by show ns ≤ 7302250; omega⟩ (fun r2 H2 lo2 t2 ht2 hg2 hQ2 hS2 => ?_)
  obtain ⟨w2, hI2, hP2, he2⟩ := hg2
  rw [ht2] at hP2
  refine lv_pop hx hb dL_law_393 rfl ?_
  refine lv_goto (tgt := 1382) hx hb dL_law_394 (by decide) ?_
  exact kk tm w1 w2 H2 _ ls hI1 hI2 hQ2 (he1.trans hex) hP2 (he2.trans hey) hS2 hl
set_option maxHeartbeats 4000000 in
set_option maxRecDepth 100000 in
theorem law_pull {p : Program} {e : Env} {s : State} {m : MethodId} {below : List Frame} {meth : Method} {c : Code} (l : Launch) {b L : Nat} {xs : Nat → Int32} (C0 : lw_At p s m meth c b L xs) {A : Nat → Prop} (hAe : A = fun q : Nat => s.heap.size ≤ q) (hE : q_ex A s s.heap) (dC : Nat → ClassId) (dI : Nat → Nat → Nat) {nc ns : Nat} (hnc : nc ≤ 600000) (hns : ns ≤ 7302250) {x y : Nat} {a1 a2 : List Nat} {tx ty : List (ClassId × FieldType)} (hKx : va_K (dC, dI) vwCl tx s) (hKy : va_K (dC, dI) vwCl ty s) (hDx : q_DA A a1) (hDy : q_DA A a2) (hd1 : ∀ q ∈ a1, q ∉ a2) (hd2 : ∀ q ∈ a2, q ∉ a1) (i : Int32) (hi0 : 0 ≤ i.toInt) (hi6 : i.toInt + 6 ≤ L) (hL : L ≤ 3072) (tm : Int32) (wx wy : va_W) (H : Heap) (locs : List Loc) (ls : Array Slot) (hIx : IX x tm wx tx) (hIy : IM y tm wy ty) (hPx : va_P (dC, dI) vwCl wx H) (hex : wx.map Prod.fst = a1) (hPy : va_P (dC, dI) vwCl wy H) (hey : wy.map Prod.fst = a2) (hS : va_S A s.heap H locs) (hl : lv_has ls 4 [(3, .int i), (2, .ref y), (1, .ref x), (0, .ref b)]) (kk : ∀ (tm : Int32) (wx wy : va_W) (H : Heap) (locs : List Loc) (ls : Array Slot) (hIx : IX x tm wx tx) (hIy : IM y tm wy ty) (hPx : va_P (dC, dI) vwCl wx H) (hex : wx.map Prod.fst = a1) (hPy : va_P (dC, dI) vwCl wy H) (hey : wy.map Prod.fst = a2) (hS : va_S A s.heap H locs) (hl : lv_has ls 4 [(3, .int i), (2, .ref y), (1, .ref x), (0, .ref b)]), W p l e room_1 s m #[Value.ref b] below meth c H locs nc ns (lw_Z below #[Value.ref b] s) (F0 m 1382 ls [])) : W p l e room_1 s m #[Value.ref b] below meth c H locs nc ns (lw_Z below #[Value.ref b] s) (F0 m 397 ls []) := by
  obtain ⟨hx, hb, hr, hml, hown, hts, hX, hbl, hlocks, hgv⟩ := id C0
  have hown : s.vm.findClass RL = some m.cls := hown
  have hA : ∀ q : Nat, s.heap.size ≤ q → A q := by rw [hAe]; exact fun _ h => h
  have hbA : ¬ A b := by rw [hAe]; exact Nat.not_le.mpr hbl
  have lt_1 : (1 : Int32).toInt = 1 := by decide
  have m_1 : (.methodLink RL 45 yX8_pull : Cond) ∈ lw_tbl := q_w (n := 794) (by decide +kernel)
  have m_2 : (.instanceMethod yX8_pull : Cond) ∈ lw_tbl := q_w (n := 795) (by decide +kernel)
  have m_3 : (.selects RX8 yX8_pull yX8_pull : Cond) ∈ lw_tbl := q_w (n := 796) (by decide +kernel)
  have m_4 : (.initialized RX8 : Cond) ∈ lw_tbl := q_w (n := 104) (by decide +kernel)
  have m_5 : (.methodLink RL 48 yX9_pull : Cond) ∈ lw_tbl := q_w (n := 1502) (by decide +kernel)
  have m_6 : (.instanceMethod yX9_pull : Cond) ∈ lw_tbl := q_w (n := 1503) (by decide +kernel)
  have m_7 : (.selects RX9 yX9_pull yX9_pull : Cond) ∈ lw_tbl := q_w (n := 1504) (by decide +kernel)
  have m_8 : (.initialized RX9 : Cond) ∈ lw_tbl := q_w (n := 116) (by decide +kernel)
  refine lv_aload_n hx hb dL_law_397 rfl (lv_at hl 2 rfl) ?_
  refine lv_aload_n hx hb dL_law_398 rfl (lv_at hl 3 rfl) ?_
  refine lv_iload_n hx hb dL_law_399 rfl (lv_at hl 0 rfl) ?_
  refine lv_iconst (v := 1) hx hb dL_law_400 (by decide) ?_
  refine lv_iadd hx hb dL_law_401 (lv_topi fun v1 ev1 => ?_)
  have tv1 := q_add ev1 (by omega) (by omega)
  refine va_sld hx hb hX hbl hbA hS (q_in (by omega) (by omega)) dL_law_402 (lv_topi fun v2 ev2 => ?_)
  refine q_cL (As := [.int v2]) (rest := []) q_exw hE hKx hPx hex hPy hey hDx hd1 hS hA ⟨hx, hb, hml, hown, hts⟩ (F_t_pull l dC dI _ hIx v2) (cwV 1 hts (p1_gV m_1 m_2 m_3 m_4 iz_t_pull gz_t_pull) rfl rfl rfl (by decide +kernel) ⟨by decide, by decide⟩) (hIx.recv hKx hPx) rfl hl.1 rfl (Nat.le_of_ble_eq_true rfl) dL_law_403 ⟨by show nc ≤ 600000; omega, by show ns ≤ 7302250; omega⟩ (fun r1 H1 lo1 t1 ht1 hg1 hQ1 hS1 => ?_)
  obtain ⟨w1, hI1, hP1, he1⟩ := hg1
  rw [ht1] at hP1
  refine lv_pop hx hb dL_law_406 rfl ?_
  refine lv_aload_n hx hb dL_law_407 rfl (lv_at hl 1 rfl) ?_
  refine lv_aload_n hx hb dL_law_408 rfl (lv_at hl 3 rfl) ?_
  refine lv_iload_n hx hb dL_law_409 rfl (lv_at hl 0 rfl) ?_
  refine lv_iconst (v := 1) hx hb dL_law_410 (by decide) ?_
  refine lv_iadd hx hb dL_law_411 (lv_topi fun v3 ev3 => ?_)
  have tv3 := q_add ev3 (by omega) (by omega)
  refine va_sld hx hb hX hbl hbA hS1 (q_in (by omega) (by omega)) dL_law_412 (lv_topi fun v4 ev4 => ?_)
  refine q_cL (As := [.int v4]) (rest := []) q_exw hE hKy hQ1 hey hP1 (he1.trans hex) hDy hd2 hS1 hA ⟨hx, hb, hml, hown, hts⟩ (F_r_pull l dC dI _ hIy v4) (cwV 1 hts (p1_gV m_5 m_6 m_7 m_8 iz_r_pull gz_r_pull) rfl rfl rfl (by decide +kernel) ⟨by decide, by decide⟩) (hIy.recv hKy hQ1) rfl hl.1 rfl (Nat.le_of_ble_eq_true rfl) dL_law_413 ⟨by show nc ≤ 600000; omega, by show ns ≤ 7302250; omega⟩ (fun r2 H2 lo2 t2 ht2 hg2 hQ2 hS2 => ?_)
  obtain ⟨w2, hI2, hP2, he2⟩ := hg2
  rw [ht2] at hP2
  refine lv_pop hx hb dL_law_416 rfl ?_
  refine lv_goto (tgt := 1382) hx hb dL_law_417 (by decide) ?_
  exact kk tm w1 w2 H2 _ ls hI1 hI2 hQ2 (he1.trans hex) hP2 (he2.trans hey) hS2 hl
