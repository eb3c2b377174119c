def zo_g_coder : List Cond := [.code yJ0_coder_7d493 cJ0_coder_7d493 1 (some .byte), .fieldLink RJ0 38 "java/lang/String" "COMPACT_STRINGS" "Z", .fieldLink RJ0 15 "java/lang/String" "coder" "B"]
def zw_g_coder : List Cond := zo_g_coder ++ []
theorem gz_g_coder : zw_g_coder.all goodWord = true := p1_ga (by decide +kernel) p1_g0
theorem iz_g_coder : ∀ w ∈ zw_g_coder, w ∈ lw_tbl := p1_ia (p1_all [262, 263, 1698] (by decide +kernel)) p1_i0
set_option maxHeartbeats 4000000 in
set_option maxRecDepth 100000 in
theorem g_coder (l : Launch) (dC : Nat → ClassId) (dI : Nat → Nat → Nat) (sz : Nat) (sK : Nat) (sV : Nat) (sf : Nat → Int32) : Met l yJ0_coder_7d493 zw_g_coder ({ frames := 0, cells := 0, slots := 0, locals := 0 }) (va_Pc [.ref sK] (fun U => U.heap.size = sz ∧ va_P (dC, dI) vwCl [] U.heap ∧ va_K (dC, dI) vwCl [] U ∧ va_D (fun _ => True) [] ∧ q_st 10 sK sV sf (va_A [] sz) U U.heap)) (va_Qi (fun (r : Int32) (_ : Unit) => r = 0) (fun _ t => va_P (dC, dI) vwCl [] t.heap ∧ va_K (dC, dI) vwCl [] t ∧ va_D (va_A [] sz) []) (va_A [] sz)) 0 0 (va_A [] sz) := by
  refine Met.ofW (cc := cJ0_coder_7d493) (maxL := 1) (ret := (some .byte)) (by decide) rfl ?_
  intro p e s m args below meth c s₁ B hml hv
  obtain ⟨rfl, hsz, hP, hK, hD0, hE⟩ := hv
  have hx := B.exec
  have hb := B.bytes
  have hr := B.returns
  have hts := atoms_spec (ws := zw_g_coder) B.pre
  have hown : s.vm.findClass RJ0 = some m.cls := findClass_of_methodNamed B.named
  have hlocks := B.notSynchronized
  subst hsz
  have hD := hD0.self (sz := s.heap.size)
  generalize hAe : va_A [] s.heap.size = A at hD hE ⊢
  have hA : ∀ q : Nat, s.heap.size ≤ q → A q := fun q h => by rw [← hAe]; exact Or.inr h
  have hS : va_S A s.heap s.heap [] := va_S.rf
  have hP : va_P (dC, dI) vwCl [] s.heap := hP
  obtain ⟨t1, t2, t3, t4, z1, z2⟩ := id hE
  have m_0 : (.fieldLink RJ0 38 "java/lang/String" "COMPACT_STRINGS" "Z" : Cond) ∈ zw_g_coder := List.mem_append_left _ (List.mem_of_getElem? (i := 1) rfl)
  have k_0 := hts _ m_0
  have m_1 : (.fieldLink RJ0 15 "java/lang/String" "coder" "B" : Cond) ∈ zw_g_coder := List.mem_append_left _ (List.mem_of_getElem? (i := 2) rfl)
  have k_1 := hts _ m_1
  have hl := lv_entry ([.ref sK]) (n := 1) (Nat.le_of_ble_eq_true rfl)
  rw [lg_entry_eq]
  generalize (lg_sl ([.ref sK]) ++ List.replicate (1 - (lg_sl ([.ref sK])).length) Slot.unset).toArray = ls at hl ⊢
  have hl : lv_has ls 1 [(0, .ref sK)] := hl
  refine va_gets (v := .int 1) hx hb z1 hS hown k_0 (fun _ h9 => h9) dJ0_coder_7d493_0 ?_
  refine lv_if_eq (tgt := 13) hx hb dJ0_coder_7d493_3 (by decide) (fun c9 => absurd c9 (by decide)) (fun _ => ?_)
  refine lv_aload_n hx hb dJ0_coder_7d493_6 rfl (lv_at hl 0 rfl) ?_
  refine vk_getf (v := .int 0) hx hb t2 hS hown k_1 (fun _ h9 => h9) dJ0_coder_7d493_7 ?_
  refine lv_goto (tgt := 14) hx hb dJ0_coder_7d493_10 (by decide) ?_
  have hP9 := hP.sub (ws' := []) [] rfl
  have hD9 := hD.sub (ws' := []) [] (by decide) rfl
  have hK9 := hK.sub (tys' := []) [] rfl
  exact W.zret (v := 0) hx hb hr (by decide) (fun t ht hW => ⟨⟨0, (), rfl, rfl, by rw [ht]; exact hP9, va_K.moved hW.alike hK9, hD9⟩, hS.F ht⟩) hS.2.2 dJ0_coder_7d493_14
def zo_g_length : List Cond := [.code yJ0_length_8abf5 cJ0_length_8abf5 1 (some .int), .fieldLink RJ0 9 "java/lang/String" "value" "[B", .methodLink RJ0 335 yJ0_coder_7d493, .instanceMethod yJ0_coder_7d493, .selects RJ0 yJ0_coder_7d493 yJ0_coder_7d493, .initialized RJ0]
def zw_g_length : List Cond := zo_g_length ++ (zw_g_coder ++ [])
theorem gz_g_length : zw_g_length.all goodWord = true := p1_ga (by decide +kernel) (p1_ga gz_g_coder p1_g0)
theorem iz_g_length : ∀ w ∈ zw_g_length, w ∈ lw_tbl := p1_ia (p1_all [258, 1697, 259, 260, 261, 108] (by decide +kernel)) (p1_ia iz_g_coder p1_i0)
set_option maxHeartbeats 4000000 in
set_option maxRecDepth 100000 in
theorem g_length (l : Launch) (dC : Nat → ClassId) (dI : Nat → Nat → Nat) (sz : Nat) (sK : Nat) (sV : Nat) (sf : Nat → Int32) : Met l yJ0_length_8abf5 zw_g_length ({ frames := 1, cells := 0, slots := 0, locals := 20 }) (va_Pc [.ref sK] (fun U => U.heap.size = sz ∧ va_P (dC, dI) vwCl [] U.heap ∧ va_K (dC, dI) vwCl [] U ∧ va_D (fun _ => True) [] ∧ q_st 10 sK sV sf (va_A [] sz) U U.heap)) (va_Qi (fun (r : Int32) (_ : Unit) => r = 10) (fun _ t => va_P (dC, dI) vwCl [] t.heap ∧ va_K (dC, dI) vwCl [] t ∧ va_D (va_A [] sz) []) (va_A [] sz)) 0 0 (va_A [] sz) := by
  refine Met.ofW (cc := cJ0_length_8abf5) (maxL := 1) (ret := (some .int)) (by decide) rfl ?_
  intro p e s m args below meth c s₁ B hml hv
  obtain ⟨rfl, hsz, hP, hK, hD0, hE⟩ := hv
  have hx := B.exec
  have hb := B.bytes
  have hr := B.returns
  have hts := atoms_spec (ws := zw_g_length) B.pre
  have hown : s.vm.findClass RJ0 = some m.cls := findClass_of_methodNamed B.named
  have hlocks := B.notSynchronized
  subst hsz
  have hD := hD0.self (sz := s.heap.size)
  generalize hAe : va_A [] s.heap.size = A at hD hE ⊢
  have hA : ∀ q : Nat, s.heap.size ≤ q → A q := fun q h => by rw [← hAe]; exact Or.inr h
  have hS : va_S A s.heap s.heap [] := va_S.rf
  have hP : va_P (dC, dI) vwCl [] s.heap := hP
  obtain ⟨t1, t2, t3, t4, z1, z2⟩ := id hE
  have m_0 : (.fieldLink RJ0 9 "java/lang/String" "value" "[B" : Cond) ∈ zw_g_length := List.mem_append_left _ (List.mem_of_getElem? (i := 1) rfl)
  have k_0 := hts _ m_0
  have m_1 : (.methodLink RJ0 335 yJ0_coder_7d493 : Cond) ∈ zw_g_length := List.mem_append_left _ (List.mem_of_getElem? (i := 2) rfl)
  have k_1 := hts _ m_1
  have m_2 : (.instanceMethod yJ0_coder_7d493 : Cond) ∈ zw_g_length := List.mem_append_left _ (List.mem_of_getElem? (i := 3) rfl)
  have k_2 := hts _ m_2
  have m_3 : (.selects RJ0 yJ0_coder_7d493 yJ0_coder_7d493 : Cond) ∈ zw_g_length := List.mem_append_left _ (List.mem_of_getElem? (i := 4) rfl)
  have k_3 := hts _ m_3
  have m_4 : (.initialized RJ0 : Cond) ∈ zw_g_length := List.mem_append_left _ (List.mem_of_getElem? (i := 5) rfl)
  have k_4 := hts _ m_4
  have g_g_coder : ∀ w ∈ zw_g_coder, w ∈ zw_g_length := fun w h => List.mem_append_right _ (List.mem_append_left _ h)
  have hl := lv_entry ([.ref sK]) (n := 1) (Nat.le_of_ble_eq_true rfl)
  rw [lg_entry_eq]
  generalize (lg_sl ([.ref sK]) ++ List.replicate (1 - (lg_sl ([.ref sK])).length) Slot.unset).toArray = ls at hl ⊢
  have hl : lv_has ls 1 [(0, .ref sK)] := hl
  refine lv_aload_n hx hb dJ0_length_8abf5_0 rfl (lv_at hl 0 rfl) ?_
  refine vk_getf (v := .ref sV) hx hb t3 hS hown k_0 (fun _ h9 => h9) dJ0_length_8abf5_1 ?_
  refine va_tlen (v := 10) hx hb t4 hS rfl dJ0_length_8abf5_4 ?_
  refine lv_aload_n hx hb dJ0_length_8abf5_5 rfl (lv_at hl 0 rfl) ?_
  have hPc := hP.sub (ws' := []) [] rfl
  have hDc := hD.sub (ws' := []) [] (by decide) rfl
  have hKc := hK.sub (tys' := []) [] rfl
  have hFc := va_free (wc := []) hD hS hA [] rfl
  refine va_calli (va_runV (As := []) (rest := [.int 10]) ⟨hx, hb, hml, hown, hts⟩ (g_coder l dC dI s.heap.size sK sV sf) (cwV 0 hts (p1_gV m_1 m_2 m_3 m_4 g_g_coder gz_g_coder) rfl rfl rfl (by decide +kernel) ⟨by decide, by decide⟩) ⟨fun a U g mk q => by obtain ⟨q0, q1, qP, qK, qD, qE⟩ := q; exact ⟨q0, q1, qP, va_K.moved (u := U) (U := U.calling g mk a) (Vm.Alike.refl U.vm) qK, qD, qE⟩, p1_recv t1 hS, fun U hU hW => ⟨rfl, by rw [hU], by rw [hU]; exact hPc, va_K.moved hW.alike hKc, hDc.weaken (fun _ _ _ _ => trivial), by rw [hU]; exact q_st.warm hE hW hS (fun q h => hFc q h)⟩⟩ rfl rfl hl.1 rfl (lv_room (Nat.le_of_ble_eq_true rfl)) dJ0_length_8abf5_6 ⟨by decide, by decide⟩) hS (fun q _ h => hFc q h) hFc (fun r_1 u t H1 locs ht hvm hw hB hz1 hk1 hS => ?_)
  obtain ⟨hP1, hK1, hD1⟩ := hB
  rw [ht] at hP1
  obtain ⟨hP, hD⟩ := va_join (wr := []) (w1 := []) hP hD [] [] rfl rfl (by decide) (by decide) hk1 hFc hP1 hD1
  generalize H1 = H at hP hS ⊢
  have hP : va_P (dC, dI) vwCl [] H := hP
  have hD : va_D A [] := hD
  try dsimp only at hw
  obtain rfl : r_1 = 0 := hw
  refine lv_ishr hx hb dJ0_length_8abf5_9 ?_
  refine lv_topi (fun v_2 ev_2 => ?_)
  obtain rfl : v_2 = 10 := ev_2.trans (by decide)
  have hP9 := hP.sub (ws' := []) [] rfl
  have hD9 := hD.sub (ws' := []) [] (by decide) rfl
  have hK9 := hK.sub (tys' := []) [] rfl
  exact W.iret (v := 10) hx hb hr (fun t ht hW => ⟨⟨10, (), rfl, rfl, by rw [ht]; exact hP9, va_K.moved hW.alike hK9, hD9⟩, hS.F ht⟩) hS.2.2 dJ0_length_8abf5_10
def zo_g_isLatin1 : List Cond := [.code yJ0_isLatin1_aae02 cJ0_isLatin1_aae02 1 (some .boolean), .fieldLink RJ0 38 "java/lang/String" "COMPACT_STRINGS" "Z", .fieldLink RJ0 15 "java/lang/String" "coder" "B"]
def zw_g_isLatin1 : List Cond := zo_g_isLatin1 ++ []
theorem gz_g_isLatin1 : zw_g_isLatin1.all goodWord = true := p1_ga (by decide +kernel) p1_g0
theorem iz_g_isLatin1 : ∀ w ∈ zw_g_isLatin1, w ∈ lw_tbl := p1_ia (p1_all [272, 263, 1698] (by decide +kernel)) p1_i0
set_option maxHeartbeats 4000000 in
set_option maxRecDepth 100000 in
theorem g_isLatin1 (l : Launch) (dC : Nat → ClassId) (dI : Nat → Nat → Nat) (sz : Nat) (sK : Nat) (sV : Nat) (sf : Nat → Int32) : Met l yJ0_isLatin1_aae02 zw_g_isLatin1 ({ frames := 0, cells := 0, slots := 0, locals := 0 }) (va_Pc [.ref sK] (fun U => U.heap.size = sz ∧ va_P (dC, dI) vwCl [] U.heap ∧ va_K (dC, dI) vwCl [] U ∧ va_D (fun _ => True) [] ∧ q_st 10 sK sV sf (va_A [] sz) U U.heap)) (va_Qi (fun (r : Int32) (_ : Unit) => r = 1) (fun _ t => va_P (dC, dI) vwCl [] t.heap ∧ va_K (dC, dI) vwCl [] t ∧ va_D (va_A [] sz) []) (va_A [] sz)) 0 0 (va_A [] sz) := by
  refine Met.ofW (cc := cJ0_isLatin1_aae02) (maxL := 1) (ret := (some .boolean)) (by decide) rfl ?_
  intro p e s m args below meth c s₁ B hml hv
  obtain ⟨rfl, hsz, hP, hK, hD0, hE⟩ := hv
  have hx := B.exec
  have hb := B.bytes
  have hr := B.returns
  have hts := atoms_spec (ws := zw_g_isLatin1) B.pre
  have hown : s.vm.findClass RJ0 = some m.cls := findClass_of_methodNamed B.named
  have hlocks := B.notSynchronized
  subst hsz
  have hD := hD0.self (sz := s.heap.size)
  generalize hAe : va_A [] s.heap.size = A at hD hE ⊢
  have hA : ∀ q : Nat, s.heap.size ≤ q → A q := fun q h => by rw [← hAe]; exact Or.inr h
  have hS : va_S A s.heap s.heap [] := va_S.rf
  have hP : va_P (dC, dI) vwCl [] s.heap := hP
  obtain ⟨t1, t2, t3, t4, z1, z2⟩ := id hE
  have m_0 : (.fieldLink RJ0 38 "java/lang/String" "COMPACT_STRINGS" "Z" : Cond) ∈ zw_g_isLatin1 := List.mem_append_left _ (List.mem_of_getElem? (i := 1) rfl)
  have k_0 := hts _ m_0
  have m_1 : (.fieldLink RJ0 15 "java/lang/String" "coder" "B" : Cond) ∈ zw_g_isLatin1 := List.mem_append_left _ (List.mem_of_getElem? (i := 2) rfl)
  have k_1 := hts _ m_1
  have hl := lv_entry ([.ref sK]) (n := 1) (Nat.le_of_ble_eq_true rfl)
  rw [lg_entry_eq]
  generalize (lg_sl ([.ref sK]) ++ List.replicate (1 - (lg_sl ([.ref sK])).length) Slot.unset).toArray = ls at hl ⊢
  have hl : lv_has ls 1 [(0, .ref sK)] := hl
  refine va_gets (v := .int 1) hx hb z1 hS hown k_0 (fun _ h9 => h9) dJ0_isLatin1_aae02_0 ?_
  refine lv_if_eq (tgt := 17) hx hb dJ0_isLatin1_aae02_3 (by decide) (fun c9 => absurd c9 (by decide)) (fun _ => ?_)
  refine lv_aload_n hx hb dJ0_isLatin1_aae02_6 rfl (lv_at hl 0 rfl) ?_
  refine vk_getf (v := .int 0) hx hb t2 hS hown k_1 (fun _ h9 => h9) dJ0_isLatin1_aae02_7 ?_
  refine lv_if_ne (tgt := 17) hx hb dJ0_isLatin1_aae02_10 (by decide) (fun c9 => absurd c9 (by decide)) (fun _ => ?_)
  refine lv_iconst (v := 1) hx hb dJ0_isLatin1_aae02_13 (by decide) ?_
  refine lv_goto (tgt := 18) hx hb dJ0_isLatin1_aae02_14 (by decide) ?_
  have hP9 := hP.sub (ws' := []) [] rfl
  have hD9 := hD.sub (ws' := []) [] (by decide) rfl
  have hK9 := hK.sub (tys' := []) [] rfl
  exact W.zret (v := 1) hx hb hr (by decide) (fun t ht hW => ⟨⟨1, (), rfl, rfl, by rw [ht]; exact hP9, va_K.moved hW.alike hK9, hD9⟩, hS.F ht⟩) hS.2.2 dJ0_isLatin1_aae02_18
def zo_g_pciN : List Cond := [.code yJ3_checkIndex_8e157 cJ3_checkIndex_8e157 3 (some .int)]
def zw_g_pciN : List Cond := zo_g_pciN ++ []
theorem gz_g_pciN : zw_g_pciN.all goodWord = true := p1_ga (by decide +kernel) p1_g0
theorem iz_g_pciN : ∀ w ∈ zw_g_pciN, w ∈ lw_tbl := p1_ia (p1_all [283] (by decide +kernel)) p1_i0
set_option maxHeartbeats 4000000 in
set_option maxRecDepth 100000 in
theorem g_pciN (l : Launch) (dC : Nat → ClassId) (dI : Nat → Nat → Nat) (sz : Nat) (a1 : Int32) (h1 : ¬ a1 < 0) (h2 : a1 < 10) : Met l yJ3_checkIndex_8e157 zw_g_pciN ({ frames := 0, cells := 0, slots := 0, locals := 0 }) (va_Pc [.int a1, .int 10, .null] (fun U => U.heap.size = sz ∧ va_P (dC, dI) vwCl [] U.heap ∧ va_K (dC, dI) vwCl [] U ∧ va_D (fun _ => True) [])) (va_Qi (fun (r : Int32) (_ : Unit) => True) (fun _ t => va_P (dC, dI) vwCl [] t.heap ∧ va_K (dC, dI) vwCl [] t ∧ va_D (va_A [] sz) []) (va_A [] sz)) 0 0 (va_A [] sz) := by
  refine Met.ofW (cc := cJ3_checkIndex_8e157) (maxL := 3) (ret := (some .int)) (by decide) rfl ?_
  intro p e s m args below meth c s₁ B hml hv
  obtain ⟨rfl, hsz, hP, hK, hD0⟩ := hv
  have hx := B.exec
  have hb := B.bytes
  have hr := B.returns
  have hts := atoms_spec (ws := zw_g_pciN) B.pre
  have hown : s.vm.findClass RJ3 = some m.cls := findClass_of_methodNamed B.named
  have hlocks := B.notSynchronized
  subst hsz
  have hD := hD0.self (sz := s.heap.size)
  generalize hAe : va_A [] s.heap.size = A at hD ⊢
  have hA : ∀ q : Nat, s.heap.size ≤ q → A q := fun q h => by rw [← hAe]; exact Or.inr h
  have hS : va_S A s.heap s.heap [] := va_S.rf
  have hP : va_P (dC, dI) vwCl [] s.heap := hP
  have hl := lv_entry ([.int a1, .int 10, .null]) (n := 3) (Nat.le_of_ble_eq_true rfl)
  rw [lg_entry_eq]
  generalize (lg_sl ([.int a1, .int 10, .null]) ++ List.replicate (3 - (lg_sl ([.int a1, .int 10, .null])).length) Slot.unset).toArray = ls at hl ⊢
  have hl : lv_has ls 3 [(0, .int a1), (1, .int 10), (2, .null)] := hl
  refine lv_iload_n hx hb dJ3_checkIndex_8e157_0 rfl (lv_at hl 0 rfl) ?_
  refine lv_if_lt (tgt := 9) hx hb dJ3_checkIndex_8e157_1 (by decide) (fun c1 => absurd c1 h1) (fun c1 => ?_)
  refine lv_iload_n hx hb dJ3_checkIndex_8e157_4 rfl (lv_at hl 0 rfl) ?_
  refine lv_iload_n hx hb dJ3_checkIndex_8e157_5 rfl (lv_at hl 1 rfl) ?_
  refine lv_icmp_lt (tgt := 16) hx hb dJ3_checkIndex_8e157_6 (by decide) (fun c6 => ?_) (fun c6 => absurd c6 (fun z9 => z9 h2))
  refine lv_iload_n hx hb dJ3_checkIndex_8e157_16 rfl (lv_at hl 0 rfl) ?_
  have hP9 := hP.sub (ws' := []) [] rfl
  have hD9 := hD.sub (ws' := []) [] (by decide) rfl
  have hK9 := hK.sub (tys' := []) [] rfl
  exact W.iret (v := a1) hx hb hr (fun t ht hW => ⟨⟨a1, (), rfl, trivial, by rw [ht]; exact hP9, va_K.moved hW.alike hK9, hD9⟩, hS.F ht⟩) hS.2.2 dJ3_checkIndex_8e157_17
def zo_g_pciR : List Cond := [.code yJ3_checkIndex_8e157 cJ3_checkIndex_8e157 3 (some .int)]
def zw_g_pciR : List Cond := zo_g_pciR ++ []
theorem gz_g_pciR : zw_g_pciR.all goodWord = true := p1_ga (by decide +kernel) p1_g0
theorem iz_g_pciR : ∀ w ∈ zw_g_pciR, w ∈ lw_tbl := p1_ia (p1_all [283] (by decide +kernel)) p1_i0
set_option maxHeartbeats 4000000 in
set_option maxRecDepth 100000 in
theorem g_pciR (l : Launch) (dC : Nat → ClassId) (dI : Nat → Nat → Nat) (sz : Nat) (a1 : Int32) (tq : Nat) (h1 : ¬ a1 < 0) (h2 : a1 < 10) : Met l yJ3_checkIndex_8e157 zw_g_pciR ({ frames := 0, cells := 0, slots := 0, locals := 0 }) (va_Pc [.int a1, .int 10, .ref tq] (fun U => U.heap.size = sz ∧ va_P (dC, dI) vwCl [] U.heap ∧ va_K (dC, dI) vwCl [] U ∧ va_D (fun _ => True) [])) (va_Qi (fun (r : Int32) (_ : Unit) => True) (fun _ t => va_P (dC, dI) vwCl [] t.heap ∧ va_K (dC, dI) vwCl [] t ∧ va_D (va_A [] sz) []) (va_A [] sz)) 0 0 (va_A [] sz) := by
  refine Met.ofW (cc := cJ3_checkIndex_8e157) (maxL := 3) (ret := (some .int)) (by decide) rfl ?_
  intro p e s m args below meth c s₁ B hml hv
  obtain ⟨rfl, hsz, hP, hK, hD0⟩ := hv
  have hx := B.exec
  have hb := B.bytes
  have hr := B.returns
  have hts := atoms_spec (ws := zw_g_pciR) B.pre
  have hown : s.vm.findClass RJ3 = some m.cls := findClass_of_methodNamed B.named
  have hlocks := B.notSynchronized
  subst hsz
  have hD := hD0.self (sz := s.heap.size)
  generalize hAe : va_A [] s.heap.size = A at hD ⊢
  have hA : ∀ q : Nat, s.heap.size ≤ q → A q := fun q h => by rw [← hAe]; exact Or.inr h
  have hS : va_S A s.heap s.heap [] := va_S.rf
  have hP : va_P (dC, dI) vwCl [] s.heap := hP
  have hl := lv_entry ([.int a1, .int 10, .ref tq]) (n := 3) (Nat.le_of_ble_eq_true rfl)
  rw [lg_entry_eq]
  generalize (lg_sl ([.int a1, .int 10, .ref tq]) ++ List.replicate (3 - (lg_sl ([.int a1, .int 10, .ref tq])).length) Slot.unset).toArray = ls at hl ⊢
  have hl : lv_has ls 3 [(0, .int a1), (1, .int 10), (2, .ref tq)] := hl
  refine lv_iload_n hx hb dJ3_checkIndex_8e157_0 rfl (lv_at hl 0 rfl) ?_
  refine lv_if_lt (tgt := 9) hx hb dJ3_checkIndex_8e157_1 (by decide) (fun c1 => absurd c1 h1) (fun c1 => ?_)
  refine lv_iload_n hx hb dJ3_checkIndex_8e157_4 rfl (lv_at hl 0 rfl) ?_
  refine lv_iload_n hx hb dJ3_checkIndex_8e157_5 rfl (lv_at hl 1 rfl) ?_
  refine lv_icmp_lt (tgt := 16) hx hb dJ3_checkIndex_8e157_6 (by decide) (fun c6 => ?_) (fun c6 => absurd c6 (fun z9 => z9 h2))
  refine lv_iload_n hx hb dJ3_checkIndex_8e157_16 rfl (lv_at hl 0 rfl) ?_
  have hP9 := hP.sub (ws' := []) [] rfl
  have hD9 := hD.sub (ws' := []) [] (by decide) rfl
  have hK9 := hK.sub (tys' := []) [] rfl
  exact W.iret (v := a1) hx hb hr (fun t ht hW => ⟨⟨a1, (), rfl, trivial, by rw [ht]; exact hP9, va_K.moved hW.alike hK9, hD9⟩, hS.F ht⟩) hS.2.2 dJ3_checkIndex_8e157_17
def zo_g_checkIndex : List Cond := [.code yJ0_checkIndex_df160 cJ0_checkIndex_df160 2 none, .fieldLink RJ0 1053 "jdk/internal/util/Preconditions" "SIOOBE_FORMATTER" "Ljava/util/function/BiFunction;", .methodLink RJ0 1059 yJ3_checkIndex_8e157, .static yJ3_checkIndex_8e157, .initialized RJ3]
def zw_g_checkIndex : List Cond := zo_g_checkIndex ++ (zw_g_pciN ++ (zw_g_pciR ++ []))
theorem gz_g_checkIndex : zw_g_checkIndex.all goodWord = true := p1_ga (by decide +kernel) (p1_ga gz_g_pciN (p1_ga gz_g_pciR p1_g0))
theorem iz_g_checkIndex : ∀ w ∈ zw_g_checkIndex, w ∈ lw_tbl := p1_ia (p1_all [278, 279, 281, 282, 110] (by decide +kernel)) (p1_ia iz_g_pciN (p1_ia iz_g_pciR p1_i0))
set_option maxHeartbeats 4000000 in
set_option maxRecDepth 100000 in
theorem g_checkIndex (l : Launch) (dC : Nat → ClassId) (dI : Nat → Nat → Nat) (sz : Nat) (a1 : Int32) (sK : Nat) (sV : Nat) (sf : Nat → Int32) (h1 : ¬ a1 < 0) (h2 : a1 < 10) : Met l yJ0_checkIndex_df160 zw_g_checkIndex ({ frames := 1, cells := 0, slots := 0, locals := 22 }) (va_Pc [.int a1, .int 10] (fun U => U.heap.size = sz ∧ va_P (dC, dI) vwCl [] U.heap ∧ va_K (dC, dI) vwCl [] U ∧ va_D (fun _ => True) [] ∧ q_st 10 sK sV sf (va_A [] sz) U U.heap)) (va_Qv (fun (_ : Unit) => True) (fun _ t => va_P (dC, dI) vwCl [] t.heap ∧ va_K (dC, dI) vwCl [] t ∧ va_D (va_A [] sz) []) (va_A [] sz)) 0 0 (va_A [] sz) := by
  refine Met.ofW (cc := cJ0_checkIndex_df160) (maxL := 2) (ret := none) (by decide) rfl ?_
  intro p e s m args below meth c s₁ B hml hv
  obtain ⟨rfl, hsz, hP, hK, hD0, hE⟩ := hv
  have hx := B.exec
  have hb := B.bytes
  have hr := B.returns
  have hts := atoms_spec (ws := zw_g_checkIndex) B.pre
  have hown : s.vm.findClass RJ0 = some m.cls := findClass_of_methodNamed B.named
  have hlocks := B.notSynchronized
  subst hsz
  have hD := hD0.self (sz := s.heap.size)
  generalize hAe : va_A [] s.heap.size = A at hD hE ⊢
  have hA : ∀ q : Nat, s.heap.size ≤ q → A q := fun q h => by rw [← hAe]; exact Or.inr h
  have hS : va_S A s.heap s.heap [] := va_S.rf
  have hP : va_P (dC, dI) vwCl [] s.heap := hP
  obtain ⟨t1, t2, t3, t4, z1, z2⟩ := id hE
  have m_0 : (.fieldLink RJ0 1053 "jdk/internal/util/Preconditions" "SIOOBE_FORMATTER" "Ljava/util/function/BiFunction;" : Cond) ∈ zw_g_checkIndex := List.mem_append_left _ (List.mem_of_getElem? (i := 1) rfl)
  have k_0 := hts _ m_0
  have m_1 : (.methodLink RJ0 1059 yJ3_checkIndex_8e157 : Cond) ∈ zw_g_checkIndex := List.mem_append_left _ (List.mem_of_getElem? (i := 2) rfl)
  have k_1 := hts _ m_1
  have m_2 : (.static yJ3_checkIndex_8e157 : Cond) ∈ zw_g_checkIndex := List.mem_append_left _ (List.mem_of_getElem? (i := 3) rfl)
  have k_2 := hts _ m_2
  have m_3 : (.initialized RJ3 : Cond) ∈ zw_g_checkIndex := List.mem_append_left _ (List.mem_of_getElem? (i := 4) rfl)
  have k_3 := hts _ m_3
  have g_g_pciN : ∀ w ∈ zw_g_pciN, w ∈ zw_g_checkIndex := fun w h => List.mem_append_right _ (List.mem_append_left _ h)
  have g_g_pciR : ∀ w ∈ zw_g_pciR, w ∈ zw_g_checkIndex := fun w h => List.mem_append_right _ (List.mem_append_right _ (List.mem_append_left _ h))
  have hl := lv_entry ([.int a1, .int 10]) (n := 2) (Nat.le_of_ble_eq_true rfl)
  rw [lg_entry_eq]
  generalize (lg_sl ([.int a1, .int 10]) ++ List.replicate (2 - (lg_sl ([.int a1, .int 10])).length) Slot.unset).toArray = ls at hl ⊢
  have hl : lv_has ls 2 [(0, .int a1), (1, .int 10)] := hl
  refine lv_iload_n hx hb dJ0_checkIndex_df160_0 rfl (lv_at hl 0 rfl) ?_
  refine lv_iload_n hx hb dJ0_checkIndex_df160_1 rfl (lv_at hl 1 rfl) ?_
  rcases z2 with z2 | ⟨tq, z2⟩
  · refine va_gets (v := .null) hx hb z2 hS hown k_0 (fun _ h9 => h9) dJ0_checkIndex_df160_2 ?_
    have hPc := hP.sub (ws' := []) [] rfl
    have hDc := hD.sub (ws' := []) [] (by decide) rfl
    have hKc := hK.sub (tys' := []) [] rfl
    have hFc := va_free (wc := []) hD hS hA [] rfl
    refine va_calli (va_runS (As := [.int a1, .int 10, .null]) (rest := []) ⟨hx, hb, hml, hown, hts⟩ (g_pciN l dC dI s.heap.size a1 h1 h2) (va_cwS 3 hts (p1_gS m_1 m_2 m_3 g_g_pciN gz_g_pciN) rfl rfl rfl (by decide +kernel) ⟨by decide, by decide⟩) ⟨fun a U g mk q => by obtain ⟨q0, q1, qP, qK, qD⟩ := q; exact ⟨q0, q1, qP, va_K.moved (u := U) (U := U.calling g mk a) (Vm.Alike.refl U.vm) qK, qD⟩, fun U hU hW => ⟨rfl, by rw [hU], by rw [hU]; exact hPc, va_K.moved hW.alike hKc, hDc.weaken (fun _ _ _ _ => trivial)⟩⟩ rfl rfl hl.1 rfl (lv_room (Nat.le_of_ble_eq_true rfl)) dJ0_checkIndex_df160_5 ⟨by decide, by decide⟩) hS (fun q _ h => hFc q h) hFc (fun r_1 u t H1 locs ht hvm hw hB hz1 hk1 hS => ?_)
    obtain ⟨hP1, hK1, hD1⟩ := hB
    rw [ht] at hP1
    obtain ⟨hP, hD⟩ := va_join (wr := []) (w1 := []) hP hD [] [] rfl rfl (by decide) (by decide) hk1 hFc hP1 hD1
    generalize H1 = H at hP hS ⊢
    have hP : va_P (dC, dI) vwCl [] H := hP
    have hD : va_D A [] := hD
    try dsimp only at hw
    have hw_2 := hw
    refine lv_pop hx hb dJ0_checkIndex_df160_8 rfl ?_
    have hP9 := hP.sub (ws' := []) [] rfl
    have hD9 := hD.sub (ws' := []) [] (by decide) rfl
    have hK9 := hK.sub (tys' := []) [] rfl
    exact W.vret hx hb hr (fun t ht hW => ⟨⟨(), rfl, trivial, by rw [ht]; exact hP9, va_K.moved hW.alike hK9, hD9⟩, hS.F ht⟩) hS.2.2 dJ0_checkIndex_df160_9
  · refine va_gets (v := .ref tq) hx hb z2 hS hown k_0 (fun _ h9 => h9) dJ0_checkIndex_df160_2 ?_
    have hPc := hP.sub (ws' := []) [] rfl
    have hDc := hD.sub (ws' := []) [] (by decide) rfl
    have hKc := hK.sub (tys' := []) [] rfl
    have hFc := va_free (wc := []) hD hS hA [] rfl
    refine va_calli (va_runS (As := [.int a1, .int 10, .ref tq]) (rest := []) ⟨hx, hb, hml, hown, hts⟩ (g_pciR l dC dI s.heap.size a1 tq h1 h2) (va_cwS 3 hts (p1_gS m_1 m_2 m_3 g_g_pciR gz_g_pciR) rfl rfl rfl (by decide +kernel) ⟨by decide, by decide⟩) ⟨fun a U g mk q => by obtain ⟨q0, q1, qP, qK, qD⟩ := q; exact ⟨q0, q1, qP, va_K.moved (u := U) (U := U.calling g mk a) (Vm.Alike.refl U.vm) qK, qD⟩, fun U hU hW => ⟨rfl, by rw [hU], by rw [hU]; exact hPc, va_K.moved hW.alike hKc, hDc.weaken (fun _ _ _ _ => trivial)⟩⟩ rfl rfl hl.1 rfl (lv_room (Nat.le_of_ble_eq_true rfl)) dJ0_checkIndex_df160_5 ⟨by decide, by decide⟩) hS (fun q _ h => hFc q h) hFc (fun r_3 u t H1 locs ht hvm hw hB hz1 hk1 hS => ?_)
    obtain ⟨hP1, hK1, hD1⟩ := hB
    rw [ht] at hP1
    obtain ⟨hP, hD⟩ := va_join (wr := []) (w1 := []) hP hD [] [] rfl rfl (by decide) (by decide) hk1 hFc hP1 hD1
    generalize H1 = H at hP hS ⊢
    have hP : va_P (dC, dI) vwCl [] H := hP
    have hD : va_D A [] := hD
    try dsimp only at hw
    have hw_4 := hw
    refine lv_pop hx hb dJ0_checkIndex_df160_8 rfl ?_
    have hP9 := hP.sub (ws' := []) [] rfl
    have hD9 := hD.sub (ws' := []) [] (by decide) rfl
    have hK9 := hK.sub (tys' := []) [] rfl
    exact W.vret hx hb hr (fun t ht hW => ⟨⟨(), rfl, trivial, by rw [ht]; exact hP9, va_K.moved hW.alike hK9, hD9⟩, hS.F ht⟩) hS.2.2 dJ0_checkIndex_df160_9
def zo_g_lchar : List Cond := [.code yJ1_charAt_3b067 cJ1_charAt_3b067 2 (some .char), .methodLink RJ1 9 yJ0_checkIndex_df160, .static yJ0_checkIndex_df160, .initialized RJ0]
def zw_g_lchar : List Cond := zo_g_lchar ++ (zw_g_checkIndex ++ [])
theorem gz_g_lchar : zw_g_lchar.all goodWord = true := p1_ga (by decide +kernel) (p1_ga gz_g_checkIndex p1_g0)
theorem iz_g_lchar : ∀ w ∈ zw_g_lchar, w ∈ lw_tbl := p1_ia (p1_all [275, 276, 277, 108] (by decide +kernel)) (p1_ia iz_g_checkIndex p1_i0)
set_option maxHeartbeats 4000000 in
set_option maxRecDepth 100000 in
theorem g_lchar (l : Launch) (dC : Nat → ClassId) (dI : Nat → Nat → Nat) (sz : Nat) (sV : Nat) (a1 : Int32) (sK : Nat) (sf : Nat → Int32) (h1 : ¬ a1 < 0) (h2 : a1 < 10) : Met l yJ1_charAt_3b067 zw_g_lchar ({ frames := 2, cells := 0, slots := 0, locals := 43 }) (va_Pc [.ref sV, .int a1] (fun U => U.heap.size = sz ∧ va_P (dC, dI) vwCl [] U.heap ∧ va_K (dC, dI) vwCl [] U ∧ va_D (fun _ => True) [] ∧ q_st 10 sK sV sf (va_A [] sz) U U.heap)) (va_Qi (fun (r : Int32) (_ : Unit) => narrow .char (.int r) = .int r) (fun _ t => va_P (dC, dI) vwCl [] t.heap ∧ va_K (dC, dI) vwCl [] t ∧ va_D (va_A [] sz) []) (va_A [] sz)) 0 0 (va_A [] sz) := by
  refine Met.ofW (cc := cJ1_charAt_3b067) (maxL := 2) (ret := (some .char)) (by decide) rfl ?_
  intro p e s m args below meth c s₁ B hml hv
  obtain ⟨rfl, hsz, hP, hK, hD0, hE⟩ := hv
  have hx := B.exec
  have hb := B.bytes
  have hr := B.returns
  have hts := atoms_spec (ws := zw_g_lchar) B.pre
  have hown : s.vm.findClass RJ1 = some m.cls := findClass_of_methodNamed B.named
  have hlocks := B.notSynchronized
  subst hsz
  have hD := hD0.self (sz := s.heap.size)
  generalize hAe : va_A [] s.heap.size = A at hD hE ⊢
  have hA : ∀ q : Nat, s.heap.size ≤ q → A q := fun q h => by rw [← hAe]; exact Or.inr h
  have hS : va_S A s.heap s.heap [] := va_S.rf
  have hP : va_P (dC, dI) vwCl [] s.heap := hP
  obtain ⟨t1, t2, t3, t4, z1, z2⟩ := id hE
  have m_0 : (.methodLink RJ1 9 yJ0_checkIndex_df160 : Cond) ∈ zw_g_lchar := List.mem_append_left _ (List.mem_of_getElem? (i := 1) rfl)
  have k_0 := hts _ m_0
  have m_1 : (.static yJ0_checkIndex_df160 : Cond) ∈ zw_g_lchar := List.mem_append_left _ (List.mem_of_getElem? (i := 2) rfl)
  have k_1 := hts _ m_1
  have m_2 : (.initialized RJ0 : Cond) ∈ zw_g_lchar := List.mem_append_left _ (List.mem_of_getElem? (i := 3) rfl)
  have k_2 := hts _ m_2
  have g_g_checkIndex : ∀ w ∈ zw_g_checkIndex, w ∈ zw_g_lchar := fun w h => List.mem_append_right _ (List.mem_append_left _ h)
  have hl := lv_entry ([.ref sV, .int a1]) (n := 2) (Nat.le_of_ble_eq_true rfl)
  rw [lg_entry_eq]
  generalize (lg_sl ([.ref sV, .int a1]) ++ List.replicate (2 - (lg_sl ([.ref sV, .int a1])).length) Slot.unset).toArray = ls at hl ⊢
  have hl : lv_has ls 2 [(0, .ref sV), (1, .int a1)] := hl
  refine lv_iload_n hx hb dJ1_charAt_3b067_0 rfl (lv_at hl 1 rfl) ?_
  refine lv_aload_n hx hb dJ1_charAt_3b067_1 rfl (lv_at hl 0 rfl) ?_
  refine va_tlen (v := 10) hx hb t4 hS rfl dJ1_charAt_3b067_2 ?_
  have hPc := hP.sub (ws' := []) [] rfl
  have hDc := hD.sub (ws' := []) [] (by decide) rfl
  have hKc := hK.sub (tys' := []) [] rfl
  have hFc := va_free (wc := []) hD hS hA [] rfl
  refine va_callv (va_runS (As := [.int a1, .int 10]) (rest := []) ⟨hx, hb, hml, hown, hts⟩ (g_checkIndex l dC dI s.heap.size a1 sK sV sf h1 h2) (va_cwS 2 hts (p1_gS m_0 m_1 m_2 g_g_checkIndex gz_g_checkIndex) rfl rfl rfl (by decide +kernel) ⟨by decide, by decide⟩) ⟨fun a U g mk q => by obtain ⟨q0, q1, qP, qK, qD, qE⟩ := q; exact ⟨q0, q1, qP, va_K.moved (u := U) (U := U.calling g mk a) (Vm.Alike.refl U.vm) qK, qD, qE⟩, fun U hU hW => ⟨rfl, by rw [hU], by rw [hU]; exact hPc, va_K.moved hW.alike hKc, hDc.weaken (fun _ _ _ _ => trivial), by rw [hU]; exact q_st.warm hE hW hS (fun q h => hFc q h)⟩⟩ rfl rfl hl.1 rfl (lv_room (Nat.le_of_ble_eq_true rfl)) dJ1_charAt_3b067_3 ⟨by decide, by decide⟩) hS (fun q _ h => hFc q h) hFc (fun u t H1 locs ht hvm hw hB hz1 hk1 hS => ?_)
  obtain ⟨hP1, hK1, hD1⟩ := hB
  rw [ht] at hP1
  obtain ⟨hP, hD⟩ := va_join (wr := []) (w1 := []) hP hD [] [] rfl rfl (by decide) (by decide) hk1 hFc hP1 hD1
  generalize H1 = H at hP hS ⊢
  have hP : va_P (dC, dI) vwCl [] H := hP
  have hD : va_D A [] := hD
  try dsimp only at hw
  refine lv_aload_n hx hb dJ1_charAt_3b067_6 rfl (lv_at hl 0 rfl) ?_
  refine lv_iload_n hx hb dJ1_charAt_3b067_7 rfl (lv_at hl 1 rfl) ?_
  refine va_tb hx hb t4 hS (q_inN (c := 10) (by decide) h1 h2) rfl dJ1_charAt_3b067_8 ?_
  refine lv_topi (fun v_2 ev_2 => ?_)
  refine lv_sipush (v := 255) hx hb dJ1_charAt_3b067_9 (by decide) ?_
  refine lv_iand hx hb dJ1_charAt_3b067_12 ?_
  refine lv_topi (fun v_3 ev_3 => ?_)
  refine lv_i2c hx hb dJ1_charAt_3b067_13 rfl ?_
  refine lv_topi (fun v_5 ev_5 => ?_)
  have hP9 := hP.sub (ws' := []) [] rfl
  have hD9 := hD.sub (ws' := []) [] (by decide) rfl
  have hK9 := hK.sub (tys' := []) [] rfl
  exact W.zret (v := v_5) hx hb hr (by rw [ev_5]; exact pk_nc _) (fun t ht hW => ⟨⟨v_5, (), rfl, (by rw [ev_5]; exact pk_nc _), by rw [ht]; exact hP9, va_K.moved hW.alike hK9, hD9⟩, hS.F ht⟩) hS.2.2 dJ1_charAt_3b067_14
def zo_g_charAt : List Cond := [.code yJ0_charAt_5068e cJ0_charAt_5068e 2 (some .char), .methodLink RJ0 492 yJ0_isLatin1_aae02, .instanceMethod yJ0_isLatin1_aae02, .selects RJ0 yJ0_isLatin1_aae02 yJ0_isLatin1_aae02, .initialized RJ0, .fieldLink RJ0 9 "java/lang/String" "value" "[B", .methodLink RJ0 495 yJ1_charAt_3b067, .static yJ1_charAt_3b067, .initialized RJ1]
def zw_g_charAt : List Cond := zo_g_charAt ++ (zw_g_isLatin1 ++ (zw_g_lchar ++ []))
theorem gz_g_charAt : zw_g_charAt.all goodWord = true := p1_ga (by decide +kernel) (p1_ga gz_g_isLatin1 (p1_ga gz_g_lchar p1_g0))
theorem iz_g_charAt : ∀ w ∈ zw_g_charAt, w ∈ lw_tbl := p1_ia (p1_all [268, 269, 270, 271, 108, 1697, 273, 274, 109] (by decide +kernel)) (p1_ia iz_g_isLatin1 (p1_ia iz_g_lchar p1_i0))
set_option maxHeartbeats 4000000 in
set_option maxRecDepth 100000 in
theorem g_charAt (l : Launch) (dC : Nat → ClassId) (dI : Nat → Nat → Nat) (sz : Nat) (sK : Nat) (a1 : Int32) (sV : Nat) (sf : Nat → Int32) (h1 : ¬ a1 < 0) (h2 : a1 < 10) : Met l yJ0_charAt_5068e zw_g_charAt ({ frames := 3, cells := 0, slots := 0, locals := 64 }) (va_Pc [.ref sK, .int a1] (fun U => U.heap.size = sz ∧ va_P (dC, dI) vwCl [] U.heap ∧ va_K (dC, dI) vwCl [] U ∧ va_D (fun _ => True) [] ∧ q_st 10 sK sV sf (va_A [] sz) U U.heap)) (va_Qi (fun (r : Int32) (_ : Unit) => narrow .char (.int r) = .int r) (fun _ t => va_P (dC, dI) vwCl [] t.heap ∧ va_K (dC, dI) vwCl [] t ∧ va_D (va_A [] sz) []) (va_A [] sz)) 0 0 (va_A [] sz) := by
  refine Met.ofW (cc := cJ0_charAt_5068e) (maxL := 2) (ret := (some .char)) (by decide) rfl ?_
  intro p e s m args below meth c s₁ B hml hv
  obtain ⟨rfl, hsz, hP, hK, hD0, hE⟩ := hv
  have hx := B.exec
  have hb := B.bytes
  have hr := B.returns
  have hts := atoms_spec (ws := zw_g_charAt) B.pre
  have hown : s.vm.findClass RJ0 = some m.cls := findClass_of_methodNamed B.named
  have hlocks := B.notSynchronized
  subst hsz
  have hD := hD0.self (sz := s.heap.size)
  generalize hAe : va_A [] s.heap.size = A at hD hE ⊢
  have hA : ∀ q : Nat, s.heap.size ≤ q → A q := fun q h => by rw [← hAe]; exact Or.inr h
  have hS : va_S A s.heap s.heap [] := va_S.rf
  have hP : va_P (dC, dI) vwCl [] s.heap := hP
  obtain ⟨t1, t2, t3, t4, z1, z2⟩ := id hE
  have m_0 : (.methodLink RJ0 492 yJ0_isLatin1_aae02 : Cond) ∈ zw_g_charAt := List.mem_append_left _ (List.mem_of_getElem? (i := 1) rfl)
  have k_0 := hts _ m_0
  have m_1 : (.instanceMethod yJ0_isLatin1_aae02 : Cond) ∈ zw_g_charAt := List.mem_append_left _ (List.mem_of_getElem? (i := 2) rfl)
  have k_1 := hts _ m_1
  have m_2 : (.selects RJ0 yJ0_isLatin1_aae02 yJ0_isLatin1_aae02 : Cond) ∈ zw_g_charAt := List.mem_append_left _ (List.mem_of_getElem? (i := 3) rfl)
  have k_2 := hts _ m_2
  have m_3 : (.initialized RJ0 : Cond) ∈ zw_g_charAt := List.mem_append_left _ (List.mem_of_getElem? (i := 4) rfl)
  have k_3 := hts _ m_3
  have m_4 : (.fieldLink RJ0 9 "java/lang/String" "value" "[B" : Cond) ∈ zw_g_charAt := List.mem_append_left _ (List.mem_of_getElem? (i := 5) rfl)
  have k_4 := hts _ m_4
  have m_5 : (.methodLink RJ0 495 yJ1_charAt_3b067 : Cond) ∈ zw_g_charAt := List.mem_append_left _ (List.mem_of_getElem? (i := 6) rfl)
  have k_5 := hts _ m_5
  have m_6 : (.static yJ1_charAt_3b067 : Cond) ∈ zw_g_charAt := List.mem_append_left _ (List.mem_of_getElem? (i := 7) rfl)
  have k_6 := hts _ m_6
  have m_7 : (.initialized RJ1 : Cond) ∈ zw_g_charAt := List.mem_append_left _ (List.mem_of_getElem? (i := 8) rfl)
  have k_7 := hts _ m_7
  have g_g_isLatin1 : ∀ w ∈ zw_g_isLatin1, w ∈ zw_g_charAt := fun w h => List.mem_append_right _ (List.mem_append_left _ h)
  have g_g_lchar : ∀ w ∈ zw_g_lchar, w ∈ zw_g_charAt := fun w h => List.mem_append_right _ (List.mem_append_right _ (List.mem_append_left _ h))
  have hl := lv_entry ([.ref sK, .int a1]) (n := 2) (Nat.le_of_ble_eq_true rfl)
  rw [lg_entry_eq]
  generalize (lg_sl ([.ref sK, .int a1]) ++ List.replicate (2 - (lg_sl ([.ref sK, .int a1])).length) Slot.unset).toArray = ls at hl ⊢
  have hl : lv_has ls 2 [(0, .ref sK), (1, .int a1)] := hl
  refine lv_aload_n hx hb dJ0_charAt_5068e_0 rfl (lv_at hl 0 rfl) ?_
  have hPc := hP.sub (ws' := []) [] rfl
  have hDc := hD.sub (ws' := []) [] (by decide) rfl
  have hKc := hK.sub (tys' := []) [] rfl
  have hFc := va_free (wc := []) hD hS hA [] rfl
  refine va_calli (va_runV (As := []) (rest := []) ⟨hx, hb, hml, hown, hts⟩ (g_isLatin1 l dC dI s.heap.size sK sV sf) (cwV 0 hts (p1_gV m_0 m_1 m_2 m_3 g_g_isLatin1 gz_g_isLatin1) rfl rfl rfl (by decide +kernel) ⟨by decide, by decide⟩) ⟨fun a U g mk q => by obtain ⟨q0, q1, qP, qK, qD, qE⟩ := q; exact ⟨q0, q1, qP, va_K.moved (u := U) (U := U.calling g mk a) (Vm.Alike.refl U.vm) qK, qD, qE⟩, p1_recv t1 hS, fun U hU hW => ⟨rfl, by rw [hU], by rw [hU]; exact hPc, va_K.moved hW.alike hKc, hDc.weaken (fun _ _ _ _ => trivial), by rw [hU]; exact q_st.warm hE hW hS (fun q h => hFc q h)⟩⟩ rfl rfl hl.1 rfl (lv_room (Nat.le_of_ble_eq_true rfl)) dJ0_charAt_5068e_1 ⟨by decide, by decide⟩) hS (fun q _ h => hFc q h) hFc (fun r_1 u t H1 locs ht hvm hw hB hz1 hk1 hS => ?_)
  obtain ⟨hP1, hK1, hD1⟩ := hB
  rw [ht] at hP1
  obtain ⟨hP, hD⟩ := va_join (wr := []) (w1 := []) hP hD [] [] rfl rfl (by decide) (by decide) hk1 hFc hP1 hD1
  generalize H1 = H at hP hS ⊢
  have hP : va_P (dC, dI) vwCl [] H := hP
  have hD : va_D A [] := hD
  try dsimp only at hw
  obtain rfl : r_1 = 1 := hw
  refine lv_if_eq (tgt := 16) hx hb dJ0_charAt_5068e_4 (by decide) (fun c9 => absurd c9 (by decide)) (fun _ => ?_)
  refine lv_aload_n hx hb dJ0_charAt_5068e_7 rfl (lv_at hl 0 rfl) ?_
  refine vk_getf (v := .ref sV) hx hb t3 hS hown k_4 (fun _ h9 => h9) dJ0_charAt_5068e_8 ?_
  refine lv_iload_n hx hb dJ0_charAt_5068e_11 rfl (lv_at hl 1 rfl) ?_
  have hPc := hP.sub (ws' := []) [] rfl
  have hDc := hD.sub (ws' := []) [] (by decide) rfl
  have hKc := hK.sub (tys' := []) [] rfl
  have hFc := va_free (wc := []) hD hS hA [] rfl
  refine va_calli (va_runS (As := [.ref sV, .int a1]) (rest := []) ⟨hx, hb, hml, hown, hts⟩ (g_lchar l dC dI H.size sV a1 sK sf h1 h2) (va_cwS 2 hts (p1_gS m_5 m_6 m_7 g_g_lchar gz_g_lchar) rfl rfl rfl (by decide +kernel) ⟨by decide, by decide⟩) ⟨fun a U g mk q => by obtain ⟨q0, q1, qP, qK, qD, qE⟩ := q; exact ⟨q0, q1, qP, va_K.moved (u := U) (U := U.calling g mk a) (Vm.Alike.refl U.vm) qK, qD, qE⟩, fun U hU hW => ⟨rfl, by rw [hU], by rw [hU]; exact hPc, va_K.moved hW.alike hKc, hDc.weaken (fun _ _ _ _ => trivial), by rw [hU]; exact q_st.warm hE hW hS (fun q h => hFc q h)⟩⟩ rfl rfl hl.1 rfl (lv_room (Nat.le_of_ble_eq_true rfl)) dJ0_charAt_5068e_12 ⟨by decide, by decide⟩) hS (fun q _ h => hFc q h) hFc (fun r_2 u t H1 locs ht hvm hw hB hz1 hk1 hS => ?_)
  obtain ⟨hP1, hK1, hD1⟩ := hB
  rw [ht] at hP1
  obtain ⟨hP, hD⟩ := va_join (wr := []) (w1 := []) hP hD [] [] rfl rfl (by decide) (by decide) hk1 hFc hP1 hD1
  generalize H1 = H at hP hS ⊢
  have hP : va_P (dC, dI) vwCl [] H := hP
  have hD : va_D A [] := hD
  try dsimp only at hw
  have hw_3 := hw
  have hP9 := hP.sub (ws' := []) [] rfl
  have hD9 := hD.sub (ws' := []) [] (by decide) rfl
  have hK9 := hK.sub (tys' := []) [] rfl
  exact W.zret (v := r_2) hx hb hr hw_3 (fun t ht hW => ⟨⟨r_2, (), rfl, hw_3, by rw [ht]; exact hP9, va_K.moved hW.alike hK9, hD9⟩, hS.F ht⟩) hS.2.2 dJ0_charAt_5068e_15
def zo_t_isSign : List Cond := [.code yX4_isSign cX4_isSign 2 (some .boolean), .methodLink RX4 56 yJ0_length_8abf5, .instanceMethod yJ0_length_8abf5, .selects RJ0 yJ0_length_8abf5 yJ0_length_8abf5, .initialized RJ0, .methodLink RX4 61 yJ0_charAt_5068e, .instanceMethod yJ0_charAt_5068e, .selects RJ0 yJ0_charAt_5068e yJ0_charAt_5068e]
def zw_t_isSign : List Cond := zo_t_isSign ++ (zw_g_length ++ (zw_g_charAt ++ []))
theorem gz_t_isSign : zw_t_isSign.all goodWord = true := p1_ga (by decide +kernel) (p1_ga gz_g_length (p1_ga gz_g_charAt p1_g0))
theorem iz_t_isSign : ∀ w ∈ zw_t_isSign, w ∈ lw_tbl := p1_ia (p1_all [600, 255, 256, 257, 108, 265, 266, 267] (by decide +kernel)) (p1_ia iz_g_length (p1_ia iz_g_charAt p1_i0))
def zW_t_isSign : va_W := []
def zT_t_isSign : List (ClassId × FieldType) := []
def zA_t_isSign : List Nat := []
theorem za_t_isSign : (zW_t_isSign).map Prod.fst = zA_t_isSign := rfl
def zG_t_isSign (a0 : Int32) (r : Int32) (X : va_W → Prop) : Prop := ((r = 1 ∧ (True)) ∨ (r = 0 ∧ (True))) ∧ X (zW_t_isSign)
theorem zm_t_isSign {a0 : Int32} : ∀ (r : Int32), ∀ X Y : va_W → Prop, (∀ w, X w → Y w) → zG_t_isSign a0 r X → zG_t_isSign a0 r Y := fun r X Y h h1 => by obtain ⟨x0, hx⟩ := h1; exact ⟨x0, h _ hx⟩
set_option maxHeartbeats 4000000 in
set_option maxRecDepth 100000 in
theorem t_isSign (l : Launch) (dC : Nat → ClassId) (dI : Nat → Nat → Nat) (sz : Nat) (a0 : Int32) : Met l yX4_isSign zw_t_isSign ({ frames := 4, cells := 0, slots := 0, locals := 85 }) (va_Pc [.int a0] (q_pre (dC, dI) (zW_t_isSign) (zT_t_isSign) q_ex sz)) (q_Qi (dC, dI) (zG_t_isSign a0) zA_t_isSign (va_A (zW_t_isSign) sz)) 0 0 (va_A (zW_t_isSign) sz) := by
  refine Met.ofW (cc := cX4_isSign) (maxL := 2) (ret := (some .boolean)) (by decide) rfl ?_
  intro p e s m args below meth c s₁ B hml hv
  obtain ⟨rfl, hsz, hP, hK, hD0, hE⟩ := hv
  have hx := B.exec
  have hb := B.bytes
  have hr := B.returns
  have hts := atoms_spec (ws := zw_t_isSign) B.pre
  have hown : s.vm.findClass RX4 = some m.cls := findClass_of_methodNamed B.named
  have hlocks := B.notSynchronized
  subst hsz
  have hD := hD0.self (sz := s.heap.size)
  generalize hAe : va_A (zW_t_isSign) s.heap.size = A at hD hE ⊢
  have hA : ∀ q : Nat, s.heap.size ≤ q → A q := fun q h => by rw [← hAe]; exact Or.inr h
  have hDa : q_DA A zA_t_isSign := q_DA.mk hD za_t_isSign
  clear hAe hD0 hD
  have hS : va_S A s.heap s.heap [] := va_S.rf
  have m_0 : (.methodLink RX4 56 yJ0_length_8abf5 : Cond) ∈ zw_t_isSign := List.mem_append_left _ (List.mem_of_getElem? (i := 1) rfl)
  have k_0 := hts _ m_0
  have m_1 : (.instanceMethod yJ0_length_8abf5 : Cond) ∈ zw_t_isSign := List.mem_append_left _ (List.mem_of_getElem? (i := 2) rfl)
  have k_1 := hts _ m_1
  have m_2 : (.selects RJ0 yJ0_length_8abf5 yJ0_length_8abf5 : Cond) ∈ zw_t_isSign := List.mem_append_left _ (List.mem_of_getElem? (i := 3) rfl)
  have k_2 := hts _ m_2
  have m_3 : (.initialized RJ0 : Cond) ∈ zw_t_isSign := List.mem_append_left _ (List.mem_of_getElem? (i := 4) rfl)
  have k_3 := hts _ m_3
  have m_4 : (.methodLink RX4 61 yJ0_charAt_5068e : Cond) ∈ zw_t_isSign := List.mem_append_left _ (List.mem_of_getElem? (i := 5) rfl)
  have k_4 := hts _ m_4
  have m_5 : (.instanceMethod yJ0_charAt_5068e : Cond) ∈ zw_t_isSign := List.mem_append_left _ (List.mem_of_getElem? (i := 6) rfl)
  have k_5 := hts _ m_5
  have m_6 : (.selects RJ0 yJ0_charAt_5068e yJ0_charAt_5068e : Cond) ∈ zw_t_isSign := List.mem_append_left _ (List.mem_of_getElem? (i := 7) rfl)
  have k_6 := hts _ m_6
  have g_g_length : ∀ w ∈ zw_g_length, w ∈ zw_t_isSign := fun w h => List.mem_append_right _ (List.mem_append_left _ h)
  have g_g_charAt : ∀ w ∈ zw_g_charAt, w ∈ zw_t_isSign := fun w h => List.mem_append_right _ (List.mem_append_right _ (List.mem_append_left _ h))
  have lt_0 : (0 : Int32).toInt = 0 := by decide
  have lt_1 : (1 : Int32).toInt = 1 := by decide
  have lt_10 : (10 : Int32).toInt = 10 := by decide
  have hl := lv_entry ([.int a0]) (n := 2) (Nat.le_of_ble_eq_true rfl)
  rw [lg_entry_eq]
  generalize (lg_sl ([.int a0]) ++ List.replicate (2 - (lg_sl ([.int a0])).length) Slot.unset).toArray = ls at hl ⊢
  have hl : lv_has ls 2 [(0, .int a0)] := hl
  obtain ⟨sK0, sV0, ru, pu, sK, sV, sf0, rf, pf, sf, ⟨n1, n2, n3, n4, n5, n6, n7, n8, n9⟩, ⟨o1, o2, o3⟩, r1, ⟨s1, s2, s3, s4⟩, z1, z2, ⟨y1, y2⟩, ⟨w1, w2⟩, r2, ⟨t1, t2, t3, t4⟩⟩ := id hE
  refine lv_iconst (v := 0) hx hb dX4_isSign_0 (by decide) (lv_istore_n (lv' := [(1, .int 0), (0, .int a0)]) hx hb dX4_isSign_1 rfl hl (by decide) rfl (fun ls hl => ?_))
  have key2 : ∀ (fu2 : Nat) (i : Int32) (H : Heap) (locs : List Loc) (ls : Array Slot) (hfu2 : 10 - i.toInt ≤ (fu2 : Int)) (ti : (0) ≤ i.toInt ∧ i.toInt ≤ 10), va_P (dC, dI) vwCl (zW_t_isSign) H → va_S A s.heap H locs → lv_has ls 2 [(1, .int i), (0, .int a0)] → W p l e (headSpec zw_t_isSign { frames := 4, cells := 0, slots := 0, locals := 85 }).room s m ([.int a0] : List Value).toArray below meth c H locs 0 0 (MQ below (q_Qi (dC, dI) (zG_t_isSign a0) zA_t_isSign A) ([.int a0] : List Value).toArray s 0 0 A) (F0 m 2 ls []) := by
    intro fu2
    induction fu2 using Nat.strongRecOn with
    | ind fu2 ih2 =>
      intro i H1 lo1 ls hfu2 ti hP1 hS1 hl
      refine lv_iload_n hx hb dX4_isSign_2 rfl (lv_at hl 0 rfl) (va_ldcS hx hb hown r2 dX4_isSign_3 ?_)
      have hFc := va_free (wc := []) (hDa _ za_t_isSign) hS1 hA [] rfl
      refine va_calli (va_runV (As := []) (rest := [.int i]) ⟨hx, hb, hml, hown, hts⟩ (g_length l dC dI H1.size sK sV sf) (cwV 0 hts (p1_gV m_0 m_1 m_2 m_3 g_g_length gz_g_length) rfl rfl rfl (by decide +kernel) ⟨by decide, by decide⟩) ⟨fun a U g mk q => by obtain ⟨q0, q1, qP, qK, qD, qE⟩ := q; exact ⟨q0, q1, qP, va_K.moved (u := U) (U := U.calling g mk a) (Vm.Alike.refl U.vm) qK, qD, qE⟩, p1_recv t1 hS1, fun U hU hW => ⟨rfl, by rw [hU], q_P0, va_K.moved hW.alike (hK.sub [] rfl), q_D0, by rw [hU]; exact q_st.warm (show q_st 10 sK sV sf A s s.heap from ⟨t1, t2, t3, t4, z1, z2⟩) hW hS1 (fun q h => hFc q h)⟩⟩ rfl rfl hl.1 rfl (lv_room (Nat.le_of_ble_eq_true rfl)) dX4_isSign_5 ⟨by decide, by decide⟩) hS1 (fun q _ h => hFc q h) hFc (fun r_2 u t H3 lo3 ht hvm hw hB hz1 hk1 hS3 => ?_)
      have hP3 := q_keep hP1 hk1
      clear hFc hk1 hP1 hS1
      obtain rfl : r_2 = 10 := hw
      refine lv_icmp_ge (tgt := 29) hx hb dX4_isSign_8 (by decide) (fun c_4 => ?_) (fun c_4 => ?_)
      · have tc_4 := q_ge c_4
        refine lv_iconst (v := 0) hx hb dX4_isSign_29 (by decide) ?_
        exact q_zret hx hb hr hlocks (by decide) hS3 dX4_isSign_30 ⟨(Or.inr ⟨rfl, by first | trivial | omega⟩), hP3, za_t_isSign⟩
      · have tc_4 := q_ltN c_4
        refine va_ldcS hx hb hown r2 dX4_isSign_11 (lv_iload_n hx hb dX4_isSign_13 rfl (lv_at hl 0 rfl) ?_)
        have hFc := va_free (wc := []) (hDa _ za_t_isSign) hS3 hA [] rfl
        refine va_calli (va_runV (As := [.int i]) (rest := []) ⟨hx, hb, hml, hown, hts⟩ (g_charAt l dC dI H3.size sK i sV sf ((q_nlt (by omega))) ((q_ltI (by omega)))) (cwV 1 hts (p1_gV m_4 m_5 m_6 m_3 g_g_charAt gz_g_charAt) rfl rfl rfl (by decide +kernel) ⟨by decide, by decide⟩) ⟨fun a U g mk q => by obtain ⟨q0, q1, qP, qK, qD, qE⟩ := q; exact ⟨q0, q1, qP, va_K.moved (u := U) (U := U.calling g mk a) (Vm.Alike.refl U.vm) qK, qD, qE⟩, p1_recv t1 hS3, fun U hU hW => ⟨rfl, by rw [hU], q_P0, va_K.moved hW.alike (hK.sub [] rfl), q_D0, by rw [hU]; exact q_st.warm (show q_st 10 sK sV sf A s s.heap from ⟨t1, t2, t3, t4, z1, z2⟩) hW hS3 (fun q h => hFc q h)⟩⟩ rfl rfl hl.1 rfl (lv_room (Nat.le_of_ble_eq_true rfl)) dX4_isSign_14 ⟨by decide, by decide⟩) hS3 (fun q _ h => hFc q h) hFc (fun r_5 u t H6 lo6 ht hvm hw hB hz1 hk1 hS6 => ?_)
        have hP6 := q_keep hP3 hk1
        clear hFc hk1 hP3 hS3
        refine lv_iload_n hx hb dX4_isSign_17 rfl (lv_at hl 1 rfl) ?_
        refine lv_icmp_ne (tgt := 23) hx hb dX4_isSign_18 (by decide) (fun c_7 => ?_) (fun c_7 => ?_)
        · have tc_7 := q_ne c_7
          obtain ⟨v_8, ev_8⟩ : ∃ y : Int32, y = i + 1 := ⟨_, rfl⟩
          have tv_8 := q_add ev_8 (by omega) (by omega)
          refine lv_iinc (v := v_8) (lv' := [(1, .int v_8), (0, .int a0)]) hx hb dX4_isSign_23 hl (k := 0) rfl (by rw [ev_8]; rfl) (by decide) rfl (fun ls hl => ?_)
          refine lv_goto (tgt := 2) hx hb dX4_isSign_26 (by decide) ?_
          exact ih2 (fu2 - 1) (by omega) v_8 _ _ _ (by omega) (by omega) hP6 hS6 (lv_sub hl [0, 1] rfl)
        · have tc_7 := q_eqN c_7
          refine lv_iconst (v := 1) hx hb dX4_isSign_21 (by decide) ?_
          exact q_zret hx hb hr hlocks (by decide) hS6 dX4_isSign_22 ⟨(Or.inl ⟨rfl, by first | trivial | omega⟩), hP6, za_t_isSign⟩
  exact key2 10 0 _ _ _ (by omega) (by omega) hP hS (lv_sub hl [0, 1] rfl)
def zo_t_putUntold : List Cond := [.code yX3_putUntold cX3_putUntold 2 none, .fieldLink RX3 31 "BowWalk$Laws" "UNTOLD_RUB" "[I", .methodLink RX3 38 yX3_endRow, .instanceMethod yX3_endRow, .selects RX3 yX3_endRow yX3_endRow, .initialized RX3, .fieldLink RX3 42 "BowWalk$Laws" "UNTOLD_PULL" "[I", .methodLink RX3 34 yX3_put, .instanceMethod yX3_put, .selects RX3 yX3_put yX3_put]
def zw_t_putUntold : List Cond := zo_t_putUntold ++ (zw_t_endRow ++ (zw_t_put ++ []))
theorem gz_t_putUntold : zw_t_putUntold.all goodWord = true := p1_ga (by decide +kernel) (p1_ga gz_t_endRow (p1_ga gz_t_put p1_g0))
theorem iz_t_putUntold : ∀ w ∈ zw_t_putUntold, w ∈ lw_tbl := p1_ia (p1_all [699, 700, 703, 685, 686, 107, 704, 702, 681, 682] (by decide +kernel)) (p1_ia iz_t_endRow (p1_ia iz_t_put p1_i0))
def zW_t_putUntold (p0 : Nat) (f_p0 : List Value) (p0_behind : Nat) (c_p0_behind : ClassId) (b_p0_behind : Nat → Int32) (p0_code : Nat) (c_p0_code : ClassId) (b_p0_code : Nat → Int32) : va_W := [(p0, .inr (3, f_p0)), (p0_behind, .inl (c_p0_behind, 6, .inl b_p0_behind)), (p0_code, .inl (c_p0_code, 600, .inl b_p0_code))]
def zT_t_putUntold (c_p0_behind : ClassId) (c_p0_code : ClassId) : List (ClassId × FieldType) := [(c_p0_behind, .int), (c_p0_code, .int)]
def zA_t_putUntold (p0 : Nat) (p0_behind : Nat) (p0_code : Nat) : List Nat := [p0, p0_behind, p0_code]
theorem za_t_putUntold {p0 : Nat} {f_p0 : List Value} {p0_behind : Nat} {c_p0_behind : ClassId} {b_p0_behind : Nat → Int32} {p0_code : Nat} {c_p0_code : ClassId} {b_p0_code : Nat → Int32} : (zW_t_putUntold p0 f_p0 p0_behind c_p0_behind b_p0_behind p0_code c_p0_code b_p0_code).map Prod.fst = (zA_t_putUntold p0 p0_behind p0_code) := rfl
def zG_t_putUntold (p0 : Nat) (f_p0 : List Value) (p0_behind : Nat) (c_p0_behind : ClassId) (b_p0_behind : Nat → Int32) (p0_code : Nat) (c_p0_code : ClassId) (b_p0_code : Nat → Int32) (X : va_W → Prop) : Prop := ∃ (y_p0 : List Value) (y_p0_behind : Nat → Int32) (y_p0_code : Nat → Int32), OKX3 y_p0 ∧ q_fr [3, 4] f_p0 y_p0 ∧ (q_rg 6 (0) 600 y_p0_behind) ∧ X (zW_t_putUntold p0 y_p0 p0_behind c_p0_behind y_p0_behind p0_code c_p0_code y_p0_code)
theorem zm_t_putUntold {p0 : Nat} {f_p0 : List Value} {p0_behind : Nat} {c_p0_behind : ClassId} {b_p0_behind : Nat → Int32} {p0_code : Nat} {c_p0_code : ClassId} {b_p0_code : Nat → Int32} : ∀ X Y : va_W → Prop, (∀ w, X w → Y w) → zG_t_putUntold p0 f_p0 p0_behind c_p0_behind b_p0_behind p0_code c_p0_code b_p0_code X → zG_t_putUntold p0 f_p0 p0_behind c_p0_behind b_p0_behind p0_code c_p0_code b_p0_code Y := fun X Y h h1 => by obtain ⟨x0, x1, x2, x3, x4, x5, hx⟩ := h1; exact ⟨x0, x1, x2, x3, x4, x5, h _ hx⟩
set_option maxHeartbeats 4000000 in
set_option maxRecDepth 100000 in
theorem t_putUntold (l : Launch) (dC : Nat → ClassId) (dI : Nat → Nat → Nat) (sz : Nat) (p0 : Nat) (f_p0 : List Value) (p0_behind : Nat) (c_p0_behind : ClassId) (b_p0_behind : Nat → Int32) (p0_code : Nat) (c_p0_code : ClassId) (b_p0_code : Nat → Int32) (ho_p0 : OKX3 f_p0) (fr_p0_0 : q_rf f_p0 0 p0_code) (fr_p0_1 : q_rf f_p0 1 p0_behind) (hr_p0_behind : q_rg 6 (0) 600 b_p0_behind) : Met l yX3_putUntold zw_t_putUntold ({ frames := 1, cells := 0, slots := 0, locals := 21 }) (va_Pc [.ref p0] (q_pre (dC, dI) (zW_t_putUntold p0 f_p0 p0_behind c_p0_behind b_p0_behind p0_code c_p0_code b_p0_code) (zT_t_putUntold c_p0_behind c_p0_code) q_ex sz)) (q_Qv (dC, dI) (zG_t_putUntold p0 f_p0 p0_behind c_p0_behind b_p0_behind p0_code c_p0_code b_p0_code) (zA_t_putUntold p0 p0_behind p0_code) (va_A (zW_t_putUntold p0 f_p0 p0_behind c_p0_behind b_p0_behind p0_code c_p0_code b_p0_code) sz)) 0 0 (va_A (zW_t_putUntold p0 f_p0 p0_behind c_p0_behind b_p0_behind p0_code c_p0_code b_p0_code) sz) := by
  refine Met.ofW (cc := cX3_putUntold) (maxL := 2) (ret := none) (by decide) rfl ?_
  intro p e s m args below meth c s₁ B hml hv
  obtain ⟨rfl, hsz, hP, hK, hD0, hE⟩ := hv
  have hx := B.exec
  have hb := B.bytes
  have hr := B.returns
  have hts := atoms_spec (ws := zw_t_putUntold) B.pre
  have hown : s.vm.findClass RX3 = some m.cls := findClass_of_methodNamed B.named
  have hlocks := B.notSynchronized
  subst hsz
  have hD := hD0.self (sz := s.heap.size)
  generalize hAe : va_A (zW_t_putUntold p0 f_p0 p0_behind c_p0_behind b_p0_behind p0_code c_p0_code b_p0_code) s.heap.size = A at hD hE ⊢
  have hA : ∀ q : Nat, s.heap.size ≤ q → A q := fun q h => by rw [← hAe]; exact Or.inr h
  have hDa : q_DA A (zA_t_putUntold p0 p0_behind p0_code) := q_DA.mk hD za_t_putUntold
  clear hAe hD0 hD
  have hS : va_S A s.heap s.heap [] := va_S.rf
  have m_0 : (.fieldLink RX3 31 "BowWalk$Laws" "UNTOLD_RUB" "[I" : Cond) ∈ zw_t_putUntold := List.mem_append_left _ (List.mem_of_getElem? (i := 1) rfl)
  have k_0 := hts _ m_0
  have m_1 : (.methodLink RX3 38 yX3_endRow : Cond) ∈ zw_t_putUntold := List.mem_append_left _ (List.mem_of_getElem? (i := 2) rfl)
  have k_1 := hts _ m_1
  have m_2 : (.instanceMethod yX3_endRow : Cond) ∈ zw_t_putUntold := List.mem_append_left _ (List.mem_of_getElem? (i := 3) rfl)
  have k_2 := hts _ m_2
  have m_3 : (.selects RX3 yX3_endRow yX3_endRow : Cond) ∈ zw_t_putUntold := List.mem_append_left _ (List.mem_of_getElem? (i := 4) rfl)
  have k_3 := hts _ m_3
  have m_4 : (.initialized RX3 : Cond) ∈ zw_t_putUntold := List.mem_append_left _ (List.mem_of_getElem? (i := 5) rfl)
  have k_4 := hts _ m_4
  have m_5 : (.fieldLink RX3 42 "BowWalk$Laws" "UNTOLD_PULL" "[I" : Cond) ∈ zw_t_putUntold := List.mem_append_left _ (List.mem_of_getElem? (i := 6) rfl)
  have k_5 := hts _ m_5
  have m_6 : (.methodLink RX3 34 yX3_put : Cond) ∈ zw_t_putUntold := List.mem_append_left _ (List.mem_of_getElem? (i := 7) rfl)
  have k_6 := hts _ m_6
  have m_7 : (.instanceMethod yX3_put : Cond) ∈ zw_t_putUntold := List.mem_append_left _ (List.mem_of_getElem? (i := 8) rfl)
  have k_7 := hts _ m_7
  have m_8 : (.selects RX3 yX3_put yX3_put : Cond) ∈ zw_t_putUntold := List.mem_append_left _ (List.mem_of_getElem? (i := 9) rfl)
  have k_8 := hts _ m_8
  have g_t_endRow : ∀ w ∈ zw_t_endRow, w ∈ zw_t_putUntold := fun w h => List.mem_append_right _ (List.mem_append_left _ h)
  have g_t_put : ∀ w ∈ zw_t_put, w ∈ zw_t_putUntold := fun w h => List.mem_append_right _ (List.mem_append_right _ (List.mem_append_left _ h))
  have lt_0 : (0 : Int32).toInt = 0 := by decide
  have lt_1 : (1 : Int32).toInt = 1 := by decide
  have lt_5 : (5 : Int32).toInt = 5 := by decide
  have lt_7 : (7 : Int32).toInt = 7 := by decide
  have hl := lv_entry ([.ref p0]) (n := 2) (Nat.le_of_ble_eq_true rfl)
  rw [lg_entry_eq]
  generalize (lg_sl ([.ref p0]) ++ List.replicate (2 - (lg_sl ([.ref p0])).length) Slot.unset).toArray = ls at hl ⊢
  have hl : lv_has ls 2 [(0, .ref p0)] := hl
  obtain ⟨sK0, sV0, ru, pu, sK, sV, sf0, rf, pf, sf, ⟨n1, n2, n3, n4, n5, n6, n7, n8, n9⟩, ⟨o1, o2, o3⟩, r1, ⟨s1, s2, s3, s4⟩, z1, z2, ⟨y1, y2⟩, ⟨w1, w2⟩, r2, ⟨t1, t2, t3, t4⟩⟩ := id hE
  refine lv_iconst (v := 0) hx hb dX3_putUntold_0 (by decide) (lv_istore_n (lv' := [(1, .int 0), (0, .ref p0)]) hx hb dX3_putUntold_1 rfl hl (by decide) rfl (fun ls hl => ?_))
  have key2 : ∀ (fu2 : Nat) (i : Int32) (fz_p0 : List Value) (bz_p0_code : Nat → Int32) (H : Heap) (locs : List Loc) (ls : Array Slot) (hfu2 : 5 - i.toInt ≤ (fu2 : Int)) (ti : (0) ≤ i.toInt ∧ i.toInt ≤ 5) (ho_fz_p0 : OKX3 fz_p0) (hf_fz_p0 : q_fr [3, 4] f_p0 fz_p0) (fr_fz_p0_0 : q_rf fz_p0 0 p0_code) (fr_fz_p0_1 : q_rf fz_p0 1 p0_behind), va_P (dC, dI) vwCl (zW_t_putUntold p0 fz_p0 p0_behind c_p0_behind b_p0_behind p0_code c_p0_code bz_p0_code) H → va_S A s.heap H locs → lv_has ls 2 [(1, .int i), (0, .ref p0)] → W p l e (headSpec zw_t_putUntold { frames := 1, cells := 0, slots := 0, locals := 21 }).room s m ([.ref p0] : List Value).toArray below meth c H locs 0 0 (MQ below (q_Qv (dC, dI) (zG_t_putUntold p0 f_p0 p0_behind c_p0_behind b_p0_behind p0_code c_p0_code b_p0_code) (zA_t_putUntold p0 p0_behind p0_code) A) ([.ref p0] : List Value).toArray s 0 0 A) (F0 m 2 ls []) := by
    intro fu2
    induction fu2 using Nat.strongRecOn with
    | ind fu2 ih2 =>
      intro i fz_p0 bz_p0_code H1 lo1 ls hfu2 ti ho_fz_p0 hf_fz_p0 fr_fz_p0_0 fr_fz_p0_1 hP1 hS1 hl
      refine lv_iload_n hx hb dX3_putUntold_2 rfl (lv_at hl 0 rfl) (va_gets (v := .ref ru) hx hb y1 hS1 hown k_0 (fun _ h9 => h9) dX3_putUntold_3 (va_tlen (v := 5) hx hb y2 hS1 rfl dX3_putUntold_6 ?_))
      refine lv_icmp_ge (tgt := 26) hx hb dX3_putUntold_7 (by decide) (fun c_2 => ?_) (fun c_2 => ?_)
      · have tc_2 := q_ge c_2
        refine lv_aload_n hx hb dX3_putUntold_26 rfl (lv_at hl 1 rfl) ?_
        refine q_cVi (As := []) (rest := []) q_w0 trivial hK hP1 hDa za_t_putUntold hS1 hA [0, 1] [0] (by decide +kernel) ⟨hx, hb, hml, hown, hts⟩ (t_endRow l dC dI H1.size p0 fz_p0 p0_behind c_p0_behind b_p0_behind ho_fz_p0 fr_fz_p0_1 hr_p0_behind) rfl rfl (cwV 0 hts (p1_gV m_1 m_2 m_3 m_4 g_t_endRow gz_t_endRow) rfl rfl rfl (by decide +kernel) ⟨by decide, by decide⟩) (va_recv hK hP1 (ci := 3) (q0 := 0) rfl rfl) zm_t_endRow rfl hl.1 rfl (Nat.le_of_ble_eq_true rfl) dX3_putUntold_27 ⟨by decide, by decide⟩ (fun r_3 H4 lo4 hG4 hS4 => ?_)
        obtain ⟨o_5, o_6, z_7, ho_8, hf_9, hr_10, hQ4⟩ := hG4
        have hP4 : va_P (dC, dI) vwCl (zW_t_putUntold p0 o_5 p0_behind c_p0_behind o_6 p0_code c_p0_code bz_p0_code) H4 := hQ4
        clear hQ4 hP1 hS1
        rcases z_7 with ⟨rfl, z_7⟩ | ⟨rfl, z_7⟩
        · refine lv_pop hx hb dX3_putUntold_30 rfl (lv_iconst (v := 0) hx hb dX3_putUntold_31 (by decide) (lv_istore_n (lv' := [(1, .int 0), (0, .ref p0)]) hx hb dX3_putUntold_32 rfl hl (by decide) rfl (fun ls hl => ?_)))
          have key33 : ∀ (fu33 : Nat) (j : Int32) (fz_p0 : List Value) (bz_p0_code : Nat → Int32) (H : Heap) (locs : List Loc) (ls : Array Slot) (hfu33 : 7 - j.toInt ≤ (fu33 : Int)) (tj : (0) ≤ j.toInt ∧ j.toInt ≤ 7) (ho_fz_p0 : OKX3 fz_p0) (hf_fz_p0 : q_fr [3, 4] f_p0 fz_p0) (fr_fz_p0_0 : q_rf fz_p0 0 p0_code) (fr_fz_p0_1 : q_rf fz_p0 1 p0_behind), va_P (dC, dI) vwCl (zW_t_putUntold p0 fz_p0 p0_behind c_p0_behind o_6 p0_code c_p0_code bz_p0_code) H → va_S A s.heap H locs → lv_has ls 2 [(1, .int j), (0, .ref p0)] → W p l e (headSpec zw_t_putUntold { frames := 1, cells := 0, slots := 0, locals := 21 }).room s m ([.ref p0] : List Value).toArray below meth c H locs 0 0 (MQ below (q_Qv (dC, dI) (zG_t_putUntold p0 f_p0 p0_behind c_p0_behind b_p0_behind p0_code c_p0_code b_p0_code) (zA_t_putUntold p0 p0_behind p0_code) A) ([.ref p0] : List Value).toArray s 0 0 A) (F0 m 33 ls []) := by
            intro fu33
            induction fu33 using Nat.strongRecOn with
            | ind fu33 ih33 =>
              intro j fz_p0 bz_p0_code H11 lo11 ls hfu33 tj ho_fz_p0 hf_fz_p0 fr_fz_p0_0 fr_fz_p0_1 hP11 hS11 hl
              refine lv_iload_n hx hb dX3_putUntold_33 rfl (lv_at hl 0 rfl) (va_gets (v := .ref pu) hx hb w1 hS11 hown k_5 (fun _ h9 => h9) dX3_putUntold_34 (va_tlen (v := 7) hx hb w2 hS11 rfl dX3_putUntold_37 ?_))
              refine lv_icmp_ge (tgt := 57) hx hb dX3_putUntold_38 (by decide) (fun c_12 => ?_) (fun c_12 => ?_)
              · have tc_12 := q_ge c_12
                refine lv_aload_n hx hb dX3_putUntold_57 rfl (lv_at hl 1 rfl) ?_
                refine q_cVi (As := []) (rest := []) q_w0 trivial hK hP11 hDa za_t_putUntold hS11 hA [0, 1] [0] (by decide +kernel) ⟨hx, hb, hml, hown, hts⟩ (t_endRow l dC dI H11.size p0 fz_p0 p0_behind c_p0_behind o_6 ho_fz_p0 fr_fz_p0_1 hr_10) rfl rfl (cwV 0 hts (p1_gV m_1 m_2 m_3 m_4 g_t_endRow gz_t_endRow) rfl rfl rfl (by decide +kernel) ⟨by decide, by decide⟩) (va_recv hK hP11 (ci := 3) (q0 := 0) rfl rfl) zm_t_endRow rfl hl.1 rfl (Nat.le_of_ble_eq_true rfl) dX3_putUntold_58 ⟨by decide, by decide⟩ (fun r_13 H14 lo14 hG14 hS14 => ?_)
                obtain ⟨o_15, o_16, z_17, ho_18, hf_19, hr_20, hQ14⟩ := hG14
                have hP14 : va_P (dC, dI) vwCl (zW_t_putUntold p0 o_15 p0_behind c_p0_behind o_16 p0_code c_p0_code bz_p0_code) H14 := hQ14
                clear hQ14 hP11 hS11
                rcases z_17 with ⟨rfl, z_17⟩ | ⟨rfl, z_17⟩
                · refine lv_pop hx hb dX3_putUntold_61 rfl ?_
                  exact q_vret hx hb hr hlocks hS14 dX3_putUntold_62 ⟨o_15, o_16, bz_p0_code, ho_18, (hf_fz_p0.tr hf_19 (by decide)), hr_20, hP14, za_t_putUntold⟩
                · refine lv_pop hx hb dX3_putUntold_61 rfl ?_
                  exact q_vret hx hb hr hlocks hS14 dX3_putUntold_62 ⟨o_15, o_16, bz_p0_code, ho_18, (hf_fz_p0.tr hf_19 (by decide)), hr_20, hP14, za_t_putUntold⟩
              · have tc_12 := q_ltN c_12
                refine lv_aload_n hx hb dX3_putUntold_41 rfl (lv_at hl 1 rfl) (va_gets (v := .ref pu) hx hb w1 hS11 hown k_5 (fun _ h9 => h9) dX3_putUntold_42 (lv_iload_n hx hb dX3_putUntold_45 rfl (lv_at hl 0 rfl) (va_ti hx hb w2 hS11 (q_in (by omega) (by omega)) rfl dX3_putUntold_46 (lv_topi fun v_21 ev_21 => ?_))))
                refine q_cVi (As := [.int v_21]) (rest := []) q_w0 trivial hK hP11 hDa za_t_putUntold hS11 hA [0, 2] [1] (by decide +kernel) ⟨hx, hb, hml, hown, hts⟩ (t_put l dC dI H11.size p0 fz_p0 p0_code c_p0_code bz_p0_code v_21 ho_fz_p0 fr_fz_p0_0) rfl rfl (cwV 1 hts (p1_gV m_6 m_7 m_8 m_4 g_t_put gz_t_put) rfl rfl rfl (by decide +kernel) ⟨by decide, by decide⟩) (va_recv hK hP11 (ci := 3) (q0 := 0) rfl rfl) zm_t_put rfl hl.1 rfl (Nat.le_of_ble_eq_true rfl) dX3_putUntold_47 ⟨by decide, by decide⟩ (fun r_22 H23 lo23 hG23 hS23 => ?_)
                obtain ⟨o_24, o_25, z_26, ho_27, hf_28, hQ23⟩ := hG23
                have hP23 : va_P (dC, dI) vwCl (zW_t_putUntold p0 o_24 p0_behind c_p0_behind o_6 p0_code c_p0_code o_25) H23 := hQ23
                clear hQ23 hP11 hS11
                rcases z_26 with ⟨rfl, z_26⟩ | ⟨rfl, z_26⟩
                · refine lv_pop hx hb dX3_putUntold_50 rfl ?_
                  obtain ⟨v_29, ev_29⟩ : ∃ y : Int32, y = j + 1 := ⟨_, rfl⟩
                  have tv_29 := q_add ev_29 (by omega) (by omega)
                  refine lv_iinc (v := v_29) (lv' := [(1, .int v_29), (0, .ref p0)]) hx hb dX3_putUntold_51 hl (k := 0) rfl (by rw [ev_29]; rfl) (by decide) rfl (fun ls hl => ?_)
                  refine lv_goto (tgt := 33) hx hb dX3_putUntold_54 (by decide) ?_
                  exact ih33 (fu33 - 1) (by omega) v_29 o_24 o_25 _ _ _ (by omega) (by omega) ho_27 (hf_fz_p0.tr hf_28 (by decide)) (hf_28.u (by decide) fr_fz_p0_0) (hf_28.u (by decide) fr_fz_p0_1) hP23 hS23 (lv_sub hl [0, 1] rfl)
                · refine lv_pop hx hb dX3_putUntold_50 rfl ?_
                  obtain ⟨v_30, ev_30⟩ : ∃ y : Int32, y = j + 1 := ⟨_, rfl⟩
                  have tv_30 := q_add ev_30 (by omega) (by omega)
                  refine lv_iinc (v := v_30) (lv' := [(1, .int v_30), (0, .ref p0)]) hx hb dX3_putUntold_51 hl (k := 0) rfl (by rw [ev_30]; rfl) (by decide) rfl (fun ls hl => ?_)
                  refine lv_goto (tgt := 33) hx hb dX3_putUntold_54 (by decide) ?_
                  exact ih33 (fu33 - 1) (by omega) v_30 o_24 o_25 _ _ _ (by omega) (by omega) ho_27 (hf_fz_p0.tr hf_28 (by decide)) (hf_28.u (by decide) fr_fz_p0_0) (hf_28.u (by decide) fr_fz_p0_1) hP23 hS23 (lv_sub hl [0, 1] rfl)
          exact key33 7 0 o_5 bz_p0_code _ _ _ (by omega) (by omega) ho_8 (hf_fz_p0.tr hf_9 (by decide)) (hf_9.u (by decide) fr_fz_p0_0) (hf_9.u (by decide) fr_fz_p0_1) hP4 hS4 (lv_sub hl [0, 1] rfl)
        · refine lv_pop hx hb dX3_putUntold_30 rfl (lv_iconst (v := 0) hx hb dX3_putUntold_31 (by decide) (lv_istore_n (lv' := [(1, .int 0), (0, .ref p0)]) hx hb dX3_putUntold_32 rfl hl (by decide) rfl (fun ls hl => ?_)))
          have key33 : ∀ (fu33 : Nat) (j : Int32) (fz_p0 : List Value) (bz_p0_code : Nat → Int32) (H : Heap) (locs : List Loc) (ls : Array Slot) (hfu33 : 7 - j.toInt ≤ (fu33 : Int)) (tj : (0) ≤ j.toInt ∧ j.toInt ≤ 7) (ho_fz_p0 : OKX3 fz_p0) (hf_fz_p0 : q_fr [3, 4] f_p0 fz_p0) (fr_fz_p0_0 : q_rf fz_p0 0 p0_code) (fr_fz_p0_1 : q_rf fz_p0 1 p0_behind), va_P (dC, dI) vwCl (zW_t_putUntold p0 fz_p0 p0_behind c_p0_behind o_6 p0_code c_p0_code bz_p0_code) H → va_S A s.heap H locs → lv_has ls 2 [(1, .int j), (0, .ref p0)] → W p l e (headSpec zw_t_putUntold { frames := 1, cells := 0, slots := 0, locals := 21 }).room s m ([.ref p0] : List Value).toArray below meth c H locs 0 0 (MQ below (q_Qv (dC, dI) (zG_t_putUntold p0 f_p0 p0_behind c_p0_behind b_p0_behind p0_code c_p0_code b_p0_code) (zA_t_putUntold p0 p0_behind p0_code) A) ([.ref p0] : List Value).toArray s 0 0 A) (F0 m 33 ls []) := by
            intro fu33
            induction fu33 using Nat.strongRecOn with
            | ind fu33 ih33 =>
              intro j fz_p0 bz_p0_code H31 lo31 ls hfu33 tj ho_fz_p0 hf_fz_p0 fr_fz_p0_0 fr_fz_p0_1 hP31 hS31 hl
              refine lv_iload_n hx hb dX3_putUntold_33 rfl (lv_at hl 0 rfl) (va_gets (v := .ref pu) hx hb w1 hS31 hown k_5 (fun _ h9 => h9) dX3_putUntold_34 (va_tlen (v := 7) hx hb w2 hS31 rfl dX3_putUntold_37 ?_))
              refine lv_icmp_ge (tgt := 57) hx hb dX3_putUntold_38 (by decide) (fun c_32 => ?_) (fun c_32 => ?_)
              · have tc_32 := q_ge c_32
                refine lv_aload_n hx hb dX3_putUntold_57 rfl (lv_at hl 1 rfl) ?_
                refine q_cVi (As := []) (rest := []) q_w0 trivial hK hP31 hDa za_t_putUntold hS31 hA [0, 1] [0] (by decide +kernel) ⟨hx, hb, hml, hown, hts⟩ (t_endRow l dC dI H31.size p0 fz_p0 p0_behind c_p0_behind o_6 ho_fz_p0 fr_fz_p0_1 hr_10) rfl rfl (cwV 0 hts (p1_gV m_1 m_2 m_3 m_4 g_t_endRow gz_t_endRow) rfl rfl rfl (by decide +kernel) ⟨by decide, by decide⟩) (va_recv hK hP31 (ci := 3) (q0 := 0) rfl rfl) zm_t_endRow rfl hl.1 rfl (Nat.le_of_ble_eq_true rfl) dX3_putUntold_58 ⟨by decide, by decide⟩ (fun r_33 H34 lo34 hG34 hS34 => ?_)
                obtain ⟨o_35, o_36, z_37, ho_38, hf_39, hr_40, hQ34⟩ := hG34
                have hP34 : va_P (dC, dI) vwCl (zW_t_putUntold p0 o_35 p0_behind c_p0_behind o_36 p0_code c_p0_code bz_p0_code) H34 := hQ34
                clear hQ34 hP31 hS31
                rcases z_37 with ⟨rfl, z_37⟩ | ⟨rfl, z_37⟩
                · refine lv_pop hx hb dX3_putUntold_61 rfl ?_
                  exact q_vret hx hb hr hlocks hS34 dX3_putUntold_62 ⟨o_35, o_36, bz_p0_code, ho_38, (hf_fz_p0.tr hf_39 (by decide)), hr_40, hP34, za_t_putUntold⟩
                · refine lv_pop hx hb dX3_putUntold_61 rfl ?_
                  exact q_vret hx hb hr hlocks hS34 dX3_putUntold_62 ⟨o_35, o_36, bz_p0_code, ho_38, (hf_fz_p0.tr hf_39 (by decide)), hr_40, hP34, za_t_putUntold⟩
              · have tc_32 := q_ltN c_32
                refine lv_aload_n hx hb dX3_putUntold_41 rfl (lv_at hl 1 rfl) (va_gets (v := .ref pu) hx hb w1 hS31 hown k_5 (fun _ h9 => h9) dX3_putUntold_42 (lv_iload_n hx hb dX3_putUntold_45 rfl (lv_at hl 0 rfl) (va_ti hx hb w2 hS31 (q_in (by omega) (by omega)) rfl dX3_putUntold_46 (lv_topi fun v_41 ev_41 => ?_))))
                refine q_cVi (As := [.int v_41]) (rest := []) q_w0 trivial hK hP31 hDa za_t_putUntold hS31 hA [0, 2] [1] (by decide +kernel) ⟨hx, hb, hml, hown, hts⟩ (t_put l dC dI H31.size p0 fz_p0 p0_code c_p0_code bz_p0_code v_41 ho_fz_p0 fr_fz_p0_0) rfl rfl (cwV 1 hts (p1_gV m_6 m_7 m_8 m_4 g_t_put gz_t_put) rfl rfl rfl (by decide +kernel) ⟨by decide, by decide⟩) (va_recv hK hP31 (ci := 3) (q0 := 0) rfl rfl) zm_t_put rfl hl.1 rfl (Nat.le_of_ble_eq_true rfl) dX3_putUntold_47 ⟨by decide, by decide⟩ (fun r_42 H43 lo43 hG43 hS43 => ?_)
                obtain ⟨o_44, o_45, z_46, ho_47, hf_48, hQ43⟩ := hG43
                have hP43 : va_P (dC, dI) vwCl (zW_t_putUntold p0 o_44 p0_behind c_p0_behind o_6 p0_code c_p0_code o_45) H43 := hQ43
                clear hQ43 hP31 hS31
                rcases z_46 with ⟨rfl, z_46⟩ | ⟨rfl, z_46⟩
                · refine lv_pop hx hb dX3_putUntold_50 rfl ?_
                  obtain ⟨v_49, ev_49⟩ : ∃ y : Int32, y = j + 1 := ⟨_, rfl⟩
                  have tv_49 := q_add ev_49 (by omega) (by omega)
                  refine lv_iinc (v := v_49) (lv' := [(1, .int v_49), (0, .ref p0)]) hx hb dX3_putUntold_51 hl (k := 0) rfl (by rw [ev_49]; rfl) (by decide) rfl (fun ls hl => ?_)
                  refine lv_goto (tgt := 33) hx hb dX3_putUntold_54 (by decide) ?_
                  exact ih33 (fu33 - 1) (by omega) v_49 o_44 o_45 _ _ _ (by omega) (by omega) ho_47 (hf_fz_p0.tr hf_48 (by decide)) (hf_48.u (by decide) fr_fz_p0_0) (hf_48.u (by decide) fr_fz_p0_1) hP43 hS43 (lv_sub hl [0, 1] rfl)
                · refine lv_pop hx hb dX3_putUntold_50 rfl ?_
                  obtain ⟨v_50, ev_50⟩ : ∃ y : Int32, y = j + 1 := ⟨_, rfl⟩
                  have tv_50 := q_add ev_50 (by omega) (by omega)
                  refine lv_iinc (v := v_50) (lv' := [(1, .int v_50), (0, .ref p0)]) hx hb dX3_putUntold_51 hl (k := 0) rfl (by rw [ev_50]; rfl) (by decide) rfl (fun ls hl => ?_)
                  refine lv_goto (tgt := 33) hx hb dX3_putUntold_54 (by decide) ?_
                  exact ih33 (fu33 - 1) (by omega) v_50 o_44 o_45 _ _ _ (by omega) (by omega) ho_47 (hf_fz_p0.tr hf_48 (by decide)) (hf_48.u (by decide) fr_fz_p0_0) (hf_48.u (by decide) fr_fz_p0_1) hP43 hS43 (lv_sub hl [0, 1] rfl)
          exact key33 7 0 o_5 bz_p0_code _ _ _ (by omega) (by omega) ho_8 (hf_fz_p0.tr hf_9 (by decide)) (hf_9.u (by decide) fr_fz_p0_0) (hf_9.u (by decide) fr_fz_p0_1) hP4 hS4 (lv_sub hl [0, 1] rfl)
      · have tc_2 := q_ltN c_2
        refine lv_aload_n hx hb dX3_putUntold_10 rfl (lv_at hl 1 rfl) (va_gets (v := .ref ru) hx hb y1 hS1 hown k_0 (fun _ h9 => h9) dX3_putUntold_11 (lv_iload_n hx hb dX3_putUntold_14 rfl (lv_at hl 0 rfl) (va_ti hx hb y2 hS1 (q_in (by omega) (by omega)) rfl dX3_putUntold_15 (lv_topi fun v_51 ev_51 => ?_))))
        refine q_cVi (As := [.int v_51]) (rest := []) q_w0 trivial hK hP1 hDa za_t_putUntold hS1 hA [0, 2] [1] (by decide +kernel) ⟨hx, hb, hml, hown, hts⟩ (t_put l dC dI H1.size p0 fz_p0 p0_code c_p0_code bz_p0_code v_51 ho_fz_p0 fr_fz_p0_0) rfl rfl (cwV 1 hts (p1_gV m_6 m_7 m_8 m_4 g_t_put gz_t_put) rfl rfl rfl (by decide +kernel) ⟨by decide, by decide⟩) (va_recv hK hP1 (ci := 3) (q0 := 0) rfl rfl) zm_t_put rfl hl.1 rfl (Nat.le_of_ble_eq_true rfl) dX3_putUntold_16 ⟨by decide, by decide⟩ (fun r_52 H53 lo53 hG53 hS53 => ?_)
        obtain ⟨o_54, o_55, z_56, ho_57, hf_58, hQ53⟩ := hG53
        have hP53 : va_P (dC, dI) vwCl (zW_t_putUntold p0 o_54 p0_behind c_p0_behind b_p0_behind p0_code c_p0_code o_55) H53 := hQ53
        clear hQ53 hP1 hS1
        rcases z_56 with ⟨rfl, z_56⟩ | ⟨rfl, z_56⟩
        · refine lv_pop hx hb dX3_putUntold_19 rfl ?_
          obtain ⟨v_59, ev_59⟩ : ∃ y : Int32, y = i + 1 := ⟨_, rfl⟩
          have tv_59 := q_add ev_59 (by omega) (by omega)
          refine lv_iinc (v := v_59) (lv' := [(1, .int v_59), (0, .ref p0)]) hx hb dX3_putUntold_20 hl (k := 0) rfl (by rw [ev_59]; rfl) (by decide) rfl (fun ls hl => ?_)
          refine lv_goto (tgt := 2) hx hb dX3_putUntold_23 (by decide) ?_
          exact ih2 (fu2 - 1) (by omega) v_59 o_54 o_55 _ _ _ (by omega) (by omega) ho_57 (hf_fz_p0.tr hf_58 (by decide)) (hf_58.u (by decide) fr_fz_p0_0) (hf_58.u (by decide) fr_fz_p0_1) hP53 hS53 (lv_sub hl [0, 1] rfl)
        · refine lv_pop hx hb dX3_putUntold_19 rfl ?_
          obtain ⟨v_60, ev_60⟩ : ∃ y : Int32, y = i + 1 := ⟨_, rfl⟩
          have tv_60 := q_add ev_60 (by omega) (by omega)
          refine lv_iinc (v := v_60) (lv' := [(1, .int v_60), (0, .ref p0)]) hx hb dX3_putUntold_20 hl (k := 0) rfl (by rw [ev_60]; rfl) (by decide) rfl (fun ls hl => ?_)
          refine lv_goto (tgt := 2) hx hb dX3_putUntold_23 (by decide) ?_
          exact ih2 (fu2 - 1) (by omega) v_60 o_54 o_55 _ _ _ (by omega) (by omega) ho_57 (hf_fz_p0.tr hf_58 (by decide)) (hf_58.u (by decide) fr_fz_p0_0) (hf_58.u (by decide) fr_fz_p0_1) hP53 hS53 (lv_sub hl [0, 1] rfl)
  exact key2 5 0 f_p0 b_p0_code _ _ _ (by omega) (by omega) ho_p0 q_fr.rf fr_p0_0 fr_p0_1 hP hS (lv_sub hl [0, 1] rfl)
def zo_t_isBlank : List Cond := [.code yX4_isBlank cX4_isBlank 1 (some .boolean)]
def zw_t_isBlank : List Cond := zo_t_isBlank ++ []
theorem gz_t_isBlank : zw_t_isBlank.all goodWord = true := p1_ga (by decide +kernel) p1_g0
theorem iz_t_isBlank : ∀ w ∈ zw_t_isBlank, w ∈ lw_tbl := p1_ia (p1_all [579] (by decide +kernel)) p1_i0
def zW_t_isBlank : va_W := []
def zT_t_isBlank : List (ClassId × FieldType) := []
def zA_t_isBlank : List Nat := []
theorem za_t_isBlank : (zW_t_isBlank).map Prod.fst = zA_t_isBlank := rfl
def zG_t_isBlank (a0 : Int32) (r : Int32) (X : va_W → Prop) : Prop := ((r = 1 ∧ (True)) ∨ (r = 0 ∧ (True))) ∧ X (zW_t_isBlank)
theorem zm_t_isBlank {a0 : Int32} : ∀ (r : Int32), ∀ X Y : va_W → Prop, (∀ w, X w → Y w) → zG_t_isBlank a0 r X → zG_t_isBlank a0 r Y := fun r X Y h h1 => by obtain ⟨x0, hx⟩ := h1; exact ⟨x0, h _ hx⟩
set_option maxHeartbeats 4000000 in
set_option maxRecDepth 100000 in
theorem t_isBlank (l : Launch) (dC : Nat → ClassId) (dI : Nat → Nat → Nat) (sz : Nat) (a0 : Int32) : Met l yX4_isBlank zw_t_isBlank ({ frames := 0, cells := 0, slots := 0, locals := 0 }) (va_Pc [.int a0] (q_pre (dC, dI) (zW_t_isBlank) (zT_t_isBlank) q_E0 sz)) (q_Qi (dC, dI) (zG_t_isBlank a0) zA_t_isBlank (va_A (zW_t_isBlank) sz)) 0 0 (va_A (zW_t_isBlank) sz) := by
  refine Met.ofW (cc := cX4_isBlank) (maxL := 1) (ret := (some .boolean)) (by decide) rfl ?_
  intro p e s m args below meth c s₁ B hml hv
  obtain ⟨rfl, hsz, hP, hK, hD0, hE⟩ := hv
  have hx := B.exec
  have hb := B.bytes
  have hr := B.returns
  have hts := atoms_spec (ws := zw_t_isBlank) B.pre
  have hown : s.vm.findClass RX4 = some m.cls := findClass_of_methodNamed B.named
  have hlocks := B.notSynchronized
  subst hsz
  have hD := hD0.self (sz := s.heap.size)
  generalize hAe : va_A (zW_t_isBlank) s.heap.size = A at hD hE ⊢
  have hA : ∀ q : Nat, s.heap.size ≤ q → A q := fun q h => by rw [← hAe]; exact Or.inr h
  have hDa : q_DA A zA_t_isBlank := q_DA.mk hD za_t_isBlank
  clear hAe hD0 hD
  have hS : va_S A s.heap s.heap [] := va_S.rf
  have lt_0 : (0 : Int32).toInt = 0 := by decide
  have lt_1 : (1 : Int32).toInt = 1 := by decide
  have lt_10 : (10 : Int32).toInt = 10 := by decide
  have lt_32 : (32 : Int32).toInt = 32 := by decide
  have hl := lv_entry ([.int a0]) (n := 1) (Nat.le_of_ble_eq_true rfl)
  rw [lg_entry_eq]
  generalize (lg_sl ([.int a0]) ++ List.replicate (1 - (lg_sl ([.int a0])).length) Slot.unset).toArray = ls at hl ⊢
  have hl : lv_has ls 1 [(0, .int a0)] := hl
  refine lv_iload_n hx hb dX4_isBlank_0 rfl (lv_at hl 0 rfl) (lv_bipush (v := 32) hx hb dX4_isBlank_1 (by decide) ?_)
  refine lv_icmp_eq (tgt := 12) hx hb dX4_isBlank_3 (by decide) (fun c_1 => ?_) (fun c_1 => ?_)
  · have tc_1 := q_eq c_1
    refine lv_iconst (v := 1) hx hb dX4_isBlank_12 (by decide) (lv_goto (tgt := 17) hx hb dX4_isBlank_13 (by decide) ?_)
    exact q_zret hx hb hr hlocks (by decide) hS dX4_isBlank_17 ⟨(Or.inl ⟨rfl, by first | trivial | omega⟩), hP, za_t_isBlank⟩
  · have tc_1 := q_neN c_1
    refine lv_iload_n hx hb dX4_isBlank_6 rfl (lv_at hl 0 rfl) (lv_bipush (v := 10) hx hb dX4_isBlank_7 (by decide) ?_)
    refine lv_icmp_ne (tgt := 16) hx hb dX4_isBlank_9 (by decide) (fun c_2 => ?_) (fun c_2 => ?_)
    · have tc_2 := q_ne c_2
      refine lv_iconst (v := 0) hx hb dX4_isBlank_16 (by decide) ?_
      exact q_zret hx hb hr hlocks (by decide) hS dX4_isBlank_17 ⟨(Or.inr ⟨rfl, by first | trivial | omega⟩), hP, za_t_isBlank⟩
    · have tc_2 := q_eqN c_2
      refine lv_iconst (v := 1) hx hb dX4_isBlank_12 (by decide) (lv_goto (tgt := 17) hx hb dX4_isBlank_13 (by decide) ?_)
      exact q_zret hx hb hr hlocks (by decide) hS dX4_isBlank_17 ⟨(Or.inl ⟨rfl, by first | trivial | omega⟩), hP, za_t_isBlank⟩
def zo_t_isLetter : List Cond := [.code yX4_isLetter cX4_isLetter 1 (some .boolean)]
def zw_t_isLetter : List Cond := zo_t_isLetter ++ []
theorem gz_t_isLetter : zw_t_isLetter.all goodWord = true := p1_ga (by decide +kernel) p1_g0
theorem iz_t_isLetter : ∀ w ∈ zw_t_isLetter, w ∈ lw_tbl := p1_ia (p1_all [582] (by decide +kernel)) p1_i0
def zW_t_isLetter : va_W := []
def zT_t_isLetter : List (ClassId × FieldType) := []
def zA_t_isLetter : List Nat := []
theorem za_t_isLetter : (zW_t_isLetter).map Prod.fst = zA_t_isLetter := rfl
def zG_t_isLetter (a0 : Int32) (r : Int32) (X : va_W → Prop) : Prop := ((r = 1 ∧ (True)) ∨ (r = 0 ∧ (True))) ∧ X (zW_t_isLetter)
theorem zm_t_isLetter {a0 : Int32} : ∀ (r : Int32), ∀ X Y : va_W → Prop, (∀ w, X w → Y w) → zG_t_isLetter a0 r X → zG_t_isLetter a0 r Y := fun r X Y h h1 => by obtain ⟨x0, hx⟩ := h1; exact ⟨x0, h _ hx⟩
set_option maxHeartbeats 4000000 in
set_option maxRecDepth 100000 in
theorem t_isLetter (l : Launch) (dC : Nat → ClassId) (dI : Nat → Nat → Nat) (sz : Nat) (a0 : Int32) : Met l yX4_isLetter zw_t_isLetter ({ frames := 0, cells := 0, slots := 0, locals := 0 }) (va_Pc [.int a0] (q_pre (dC, dI) (zW_t_isLetter) (zT_t_isLetter) q_E0 sz)) (q_Qi (dC, dI) (zG_t_isLetter a0) zA_t_isLetter (va_A (zW_t_isLetter) sz)) 0 0 (va_A (zW_t_isLetter) sz) := by
  refine Met.ofW (cc := cX4_isLetter) (maxL := 1) (ret := (some .boolean)) (by decide) rfl ?_
  intro p e s m args below meth c s₁ B hml hv
  obtain ⟨rfl, hsz, hP, hK, hD0, hE⟩ := hv
  have hx := B.exec
  have hb := B.bytes
  have hr := B.returns
  have hts := atoms_spec (ws := zw_t_isLetter) B.pre
  have hown : s.vm.findClass RX4 = some m.cls := findClass_of_methodNamed B.named
  have hlocks := B.notSynchronized
  subst hsz
  have hD := hD0.self (sz := s.heap.size)
  generalize hAe : va_A (zW_t_isLetter) s.heap.size = A at hD hE ⊢
  have hA : ∀ q : Nat, s.heap.size ≤ q → A q := fun q h => by rw [← hAe]; exact Or.inr h
  have hDa : q_DA A zA_t_isLetter := q_DA.mk hD za_t_isLetter
  clear hAe hD0 hD
  have hS : va_S A s.heap s.heap [] := va_S.rf
  have lt_0 : (0 : Int32).toInt = 0 := by decide
  have lt_1 : (1 : Int32).toInt = 1 := by decide
  have lt_97 : (97 : Int32).toInt = 97 := by decide
  have lt_122 : (122 : Int32).toInt = 122 := by decide
  have hl := lv_entry ([.int a0]) (n := 1) (Nat.le_of_ble_eq_true rfl)
  rw [lg_entry_eq]
  generalize (lg_sl ([.int a0]) ++ List.replicate (1 - (lg_sl ([.int a0])).length) Slot.unset).toArray = ls at hl ⊢
  have hl : lv_has ls 1 [(0, .int a0)] := hl
  refine lv_iload_n hx hb dX4_isLetter_0 rfl (lv_at hl 0 rfl) (lv_bipush (v := 97) hx hb dX4_isLetter_1 (by decide) ?_)
  refine lv_icmp_lt (tgt := 16) hx hb dX4_isLetter_3 (by decide) (fun c_1 => ?_) (fun c_1 => ?_)
  · have tc_1 := q_lt c_1
    refine lv_iconst (v := 0) hx hb dX4_isLetter_16 (by decide) ?_
    exact q_zret hx hb hr hlocks (by decide) hS dX4_isLetter_17 ⟨(Or.inr ⟨rfl, by first | trivial | omega⟩), hP, za_t_isLetter⟩
  · have tc_1 := q_geN c_1
    refine lv_iload_n hx hb dX4_isLetter_6 rfl (lv_at hl 0 rfl) (lv_bipush (v := 122) hx hb dX4_isLetter_7 (by decide) ?_)
    refine lv_icmp_gt (tgt := 16) hx hb dX4_isLetter_9 (by decide) (fun c_2 => ?_) (fun c_2 => ?_)
    · have tc_2 := q_gt c_2
      refine lv_iconst (v := 0) hx hb dX4_isLetter_16 (by decide) ?_
      exact q_zret hx hb hr hlocks (by decide) hS dX4_isLetter_17 ⟨(Or.inr ⟨rfl, by first | trivial | omega⟩), hP, za_t_isLetter⟩
    · have tc_2 := q_leN c_2
      refine lv_iconst (v := 1) hx hb dX4_isLetter_12 (by decide) (lv_goto (tgt := 17) hx hb dX4_isLetter_13 (by decide) ?_)
      exact q_zret hx hb hr hlocks (by decide) hS dX4_isLetter_17 ⟨(Or.inl ⟨rfl, by first | trivial | omega⟩), hP, za_t_isLetter⟩
def zo_t_isDigit : List Cond := [.code yX4_isDigit cX4_isDigit 1 (some .boolean)]
def zw_t_isDigit : List Cond := zo_t_isDigit ++ []
theorem gz_t_isDigit : zw_t_isDigit.all goodWord = true := p1_ga (by decide +kernel) p1_g0
theorem iz_t_isDigit : ∀ w ∈ zw_t_isDigit, w ∈ lw_tbl := p1_ia (p1_all [593] (by decide +kernel)) p1_i0
def zW_t_isDigit : va_W := []
def zT_t_isDigit : List (ClassId × FieldType) := []
def zA_t_isDigit : List Nat := []
theorem za_t_isDigit : (zW_t_isDigit).map Prod.fst = zA_t_isDigit := rfl
def zG_t_isDigit (a0 : Int32) (r : Int32) (X : va_W → Prop) : Prop := ((r = 1 ∧ (True)) ∨ (r = 0 ∧ (True))) ∧ X (zW_t_isDigit)
theorem zm_t_isDigit {a0 : Int32} : ∀ (r : Int32), ∀ X Y : va_W → Prop, (∀ w, X w → Y w) → zG_t_isDigit a0 r X → zG_t_isDigit a0 r Y := fun r X Y h h1 => by obtain ⟨x0, hx⟩ := h1; exact ⟨x0, h _ hx⟩
set_option maxHeartbeats 4000000 in
set_option maxRecDepth 100000 in
theorem t_isDigit (l : Launch) (dC : Nat → ClassId) (dI : Nat → Nat → Nat) (sz : Nat) (a0 : Int32) : Met l yX4_isDigit zw_t_isDigit ({ frames := 0, cells := 0, slots := 0, locals := 0 }) (va_Pc [.int a0] (q_pre (dC, dI) (zW_t_isDigit) (zT_t_isDigit) q_E0 sz)) (q_Qi (dC, dI) (zG_t_isDigit a0) zA_t_isDigit (va_A (zW_t_isDigit) sz)) 0 0 (va_A (zW_t_isDigit) sz) := by
  refine Met.ofW (cc := cX4_isDigit) (maxL := 1) (ret := (some .boolean)) (by decide) rfl ?_
  intro p e s m args below meth c s₁ B hml hv
  obtain ⟨rfl, hsz, hP, hK, hD0, hE⟩ := hv
  have hx := B.exec
  have hb := B.bytes
  have hr := B.returns
  have hts := atoms_spec (ws := zw_t_isDigit) B.pre
  have hown : s.vm.findClass RX4 = some m.cls := findClass_of_methodNamed B.named
  have hlocks := B.notSynchronized
  subst hsz
  have hD := hD0.self (sz := s.heap.size)
  generalize hAe : va_A (zW_t_isDigit) s.heap.size = A at hD hE ⊢
  have hA : ∀ q : Nat, s.heap.size ≤ q → A q := fun q h => by rw [← hAe]; exact Or.inr h
  have hDa : q_DA A zA_t_isDigit := q_DA.mk hD za_t_isDigit
  clear hAe hD0 hD
  have hS : va_S A s.heap s.heap [] := va_S.rf
  have lt_0 : (0 : Int32).toInt = 0 := by decide
  have lt_1 : (1 : Int32).toInt = 1 := by decide
  have lt_48 : (48 : Int32).toInt = 48 := by decide
  have lt_57 : (57 : Int32).toInt = 57 := by decide
  have hl := lv_entry ([.int a0]) (n := 1) (Nat.le_of_ble_eq_true rfl)
  rw [lg_entry_eq]
  generalize (lg_sl ([.int a0]) ++ List.replicate (1 - (lg_sl ([.int a0])).length) Slot.unset).toArray = ls at hl ⊢
  have hl : lv_has ls 1 [(0, .int a0)] := hl
  refine lv_iload_n hx hb dX4_isDigit_0 rfl (lv_at hl 0 rfl) (lv_bipush (v := 48) hx hb dX4_isDigit_1 (by decide) ?_)
  refine lv_icmp_lt (tgt := 16) hx hb dX4_isDigit_3 (by decide) (fun c_1 => ?_) (fun c_1 => ?_)
  · have tc_1 := q_lt c_1
    refine lv_iconst (v := 0) hx hb dX4_isDigit_16 (by decide) ?_
    exact q_zret hx hb hr hlocks (by decide) hS dX4_isDigit_17 ⟨(Or.inr ⟨rfl, by first | trivial | omega⟩), hP, za_t_isDigit⟩
  · have tc_1 := q_geN c_1
    refine lv_iload_n hx hb dX4_isDigit_6 rfl (lv_at hl 0 rfl) (lv_bipush (v := 57) hx hb dX4_isDigit_7 (by decide) ?_)
    refine lv_icmp_gt (tgt := 16) hx hb dX4_isDigit_9 (by decide) (fun c_2 => ?_) (fun c_2 => ?_)
    · have tc_2 := q_gt c_2
      refine lv_iconst (v := 0) hx hb dX4_isDigit_16 (by decide) ?_
      exact q_zret hx hb hr hlocks (by decide) hS dX4_isDigit_17 ⟨(Or.inr ⟨rfl, by first | trivial | omega⟩), hP, za_t_isDigit⟩
    · have tc_2 := q_leN c_2
      refine lv_iconst (v := 1) hx hb dX4_isDigit_12 (by decide) (lv_goto (tgt := 17) hx hb dX4_isDigit_13 (by decide) ?_)
      exact q_zret hx hb hr hlocks (by decide) hS dX4_isDigit_17 ⟨(Or.inl ⟨rfl, by first | trivial | omega⟩), hP, za_t_isDigit⟩
def zo_t_withLetter : List Cond := [.code yX4_withLetter cX4_withLetter 3 (some .long), .constantLong RX4 120 (27)]
def zw_t_withLetter : List Cond := zo_t_withLetter ++ []
theorem gz_t_withLetter : zw_t_withLetter.all goodWord = true := p1_ga (by decide +kernel) p1_g0
theorem iz_t_withLetter : ∀ w ∈ zw_t_withLetter, w ∈ lw_tbl := p1_ia (p1_all [305, 306] (by decide +kernel)) p1_i0
def zW_t_withLetter : va_W := []
def zT_t_withLetter : List (ClassId × FieldType) := []
def zA_t_withLetter : List Nat := []
theorem za_t_withLetter : (zW_t_withLetter).map Prod.fst = zA_t_withLetter := rfl
def zG_t_withLetter (a0 : Int64) (a1 : Int32) (r : Int64) (X : va_W → Prop) : Prop := X (zW_t_withLetter)
theorem zm_t_withLetter {a0 : Int64} {a1 : Int32} : ∀ (r : Int64), ∀ X Y : va_W → Prop, (∀ w, X w → Y w) → zG_t_withLetter a0 a1 r X → zG_t_withLetter a0 a1 r Y := fun r X Y h h1 => h _ h1
set_option maxHeartbeats 4000000 in
set_option maxRecDepth 100000 in
theorem t_withLetter (l : Launch) (dC : Nat → ClassId) (dI : Nat → Nat → Nat) (sz : Nat) (a0 : Int64) (a1 : Int32) : Met l yX4_withLetter zw_t_withLetter ({ frames := 0, cells := 0, slots := 0, locals := 0 }) (va_Pc [.long a0, .int a1] (q_pre (dC, dI) (zW_t_withLetter) (zT_t_withLetter) q_E0 sz)) (q_Ql (dC, dI) (zG_t_withLetter a0 a1) zA_t_withLetter (va_A (zW_t_withLetter) sz)) 0 0 (va_A (zW_t_withLetter) sz) := by
  refine Met.ofW (cc := cX4_withLetter) (maxL := 3) (ret := (some .long)) (by decide) rfl ?_
  intro p e s m args below meth c s₁ B hml hv
  obtain ⟨rfl, hsz, hP, hK, hD0, hE⟩ := hv
  have hx := B.exec
  have hb := B.bytes
  have hr := B.returns
  have hts := atoms_spec (ws := zw_t_withLetter) B.pre
  have hown : s.vm.findClass RX4 = some m.cls := findClass_of_methodNamed B.named
  have hlocks := B.notSynchronized
  subst hsz
  have hD := hD0.self (sz := s.heap.size)
  generalize hAe : va_A (zW_t_withLetter) s.heap.size = A at hD hE ⊢
  have hA : ∀ q : Nat, s.heap.size ≤ q → A q := fun q h => by rw [← hAe]; exact Or.inr h
  have hDa : q_DA A zA_t_withLetter := q_DA.mk hD za_t_withLetter
  clear hAe hD0 hD
  have hS : va_S A s.heap s.heap [] := va_S.rf
  have m_0 : (.constantLong RX4 120 (27) : Cond) ∈ zw_t_withLetter := List.mem_append_left _ (List.mem_of_getElem? (i := 1) rfl)
  have k_0 := hts _ m_0
  have lt_1 : (1 : Int32).toInt = 1 := by decide
  have lt_97 : (97 : Int32).toInt = 97 := by decide
  have hl := lv_entry ([.long a0, .int a1]) (n := 3) (Nat.le_of_ble_eq_true rfl)
  rw [lg_entry_eq]
  generalize (lg_sl ([.long a0, .int a1]) ++ List.replicate (3 - (lg_sl ([.long a0, .int a1])).length) Slot.unset).toArray = ls at hl ⊢
  have hl : lv_has ls 3 [(0, .long a0), (2, .int a1)] := hl
  refine lv_ldc2 (v := 27) hx hb hown k_0 dX4_withLetter_0 (lv_lload_n hx hb dX4_withLetter_3 rfl (lv_at hl 0 rfl) (lv_lmul hx hb dX4_withLetter_4 (lv_topl fun w_1 ew_1 => lv_iload_n hx hb dX4_withLetter_5 rfl (lv_at hl 1 rfl) (lv_bipush (v := 97) hx hb dX4_withLetter_6 (by decide) (lv_isub hx hb dX4_withLetter_8 (lv_topi fun v_2 ev_2 => lv_iconst (v := 1) hx hb dX4_withLetter_9 (by decide) (lv_iadd hx hb dX4_withLetter_10 (lv_topi fun v_3 ev_3 => ?_))))))))
  refine lv_i2l hx hb dX4_withLetter_11 rfl (lv_topl fun w_4 ew_4 => lv_ladd hx hb dX4_withLetter_12 (lv_topl fun w_5 ew_5 => ?_))
  exact q_lret hx hb hr hlocks hS dX4_withLetter_13 ⟨hP, za_t_withLetter⟩
def zo_t_refuse : List Cond := [.code yX4_refuse cX4_refuse 2 (some .boolean), .fieldLink RX4 28 "BowWalk$Reader" "token" "I", .fieldLink RX4 48 "BowWalk$Reader" "faultKind" "I", .fieldLink RX4 31 "BowWalk$Reader" "place" "I", .fieldLink RX4 51 "BowWalk$Reader" "faultPlace" "I"]
def zw_t_refuse : List Cond := zo_t_refuse ++ (wsX40 ++ [])
theorem gz_t_refuse : zw_t_refuse.all goodWord = true := p1_ga (by decide +kernel) (p1_ga gk_X4 p1_g0)
theorem iz_t_refuse : ∀ w ∈ zw_t_refuse, w ∈ lw_tbl := p1_ia (p1_all [616, 311, 317, 312, 319] (by decide +kernel)) (p1_ia ik_X4 p1_i0)
def zW_t_refuse (p0 : Nat) (f_p0 : List Value) : va_W := [(p0, .inr (4, f_p0))]
def zT_t_refuse : List (ClassId × FieldType) := []
def zA_t_refuse (p0 : Nat) : List Nat := [p0]
theorem za_t_refuse {p0 : Nat} {f_p0 : List Value} : (zW_t_refuse p0 f_p0).map Prod.fst = (zA_t_refuse p0) := rfl
def zG_t_refuse (p0 : Nat) (f_p0 : List Value) (a1 : Int32) (r : Int32) (X : va_W → Prop) : Prop := ∃ (y_p0 : List Value), ((r = 1 ∧ (False)) ∨ (r = 0 ∧ (True))) ∧ OKX4 y_p0 ∧ q_fr [9, 10] f_p0 y_p0 ∧ X (zW_t_refuse p0 y_p0)
theorem zm_t_refuse {p0 : Nat} {f_p0 : List Value} {a1 : Int32} : ∀ (r : Int32), ∀ X Y : va_W → Prop, (∀ w, X w → Y w) → zG_t_refuse p0 f_p0 a1 r X → zG_t_refuse p0 f_p0 a1 r Y := fun r X Y h h1 => by obtain ⟨x0, x1, x2, x3, hx⟩ := h1; exact ⟨x0, x1, x2, x3, h _ hx⟩
set_option maxHeartbeats 4000000 in
set_option maxRecDepth 100000 in
theorem t_refuse (l : Launch) (dC : Nat → ClassId) (dI : Nat → Nat → Nat) (sz : Nat) (p0 : Nat) (f_p0 : List Value) (a1 : Int32) (ho_p0 : OKX4 f_p0) : Met l yX4_refuse zw_t_refuse ({ frames := 0, cells := 0, slots := 0, locals := 0 }) (va_Pc [.ref p0, .int a1] (q_pre (dC, dI) (zW_t_refuse p0 f_p0) (zT_t_refuse) q_E0 sz)) (q_Qi (dC, dI) (zG_t_refuse p0 f_p0 a1) (zA_t_refuse p0) (va_A (zW_t_refuse p0 f_p0) sz)) 0 0 (va_A (zW_t_refuse p0 f_p0) sz) := by
  refine Met.ofW (cc := cX4_refuse) (maxL := 2) (ret := (some .boolean)) (by decide) rfl ?_
  intro p e s m args below meth c s₁ B hml hv
  obtain ⟨rfl, hsz, hP, hK, hD0, hE⟩ := hv
  have hx := B.exec
  have hb := B.bytes
  have hr := B.returns
  have hts := atoms_spec (ws := zw_t_refuse) B.pre
  have hown : s.vm.findClass RX4 = some m.cls := findClass_of_methodNamed B.named
  have hlocks := B.notSynchronized
  subst hsz
  have hD := hD0.self (sz := s.heap.size)
  generalize hAe : va_A (zW_t_refuse p0 f_p0) s.heap.size = A at hD hE ⊢
  have hA : ∀ q : Nat, s.heap.size ≤ q → A q := fun q h => by rw [← hAe]; exact Or.inr h
  have hDa : q_DA A (zA_t_refuse p0) := q_DA.mk hD za_t_refuse
  clear hAe hD0 hD
  have hS : va_S A s.heap s.heap [] := va_S.rf
  have m_0 : (.fieldLink RX4 28 "BowWalk$Reader" "token" "I" : Cond) ∈ zw_t_refuse := List.mem_append_left _ (List.mem_of_getElem? (i := 1) rfl)
  have k_0 := hts _ m_0
  have m_1 : (.fieldLink RX4 48 "BowWalk$Reader" "faultKind" "I" : Cond) ∈ zw_t_refuse := List.mem_append_left _ (List.mem_of_getElem? (i := 2) rfl)
  have k_1 := hts _ m_1
  have m_2 : (.fieldLink RX4 31 "BowWalk$Reader" "place" "I" : Cond) ∈ zw_t_refuse := List.mem_append_left _ (List.mem_of_getElem? (i := 3) rfl)
  have k_2 := hts _ m_2
  have m_3 : (.fieldLink RX4 51 "BowWalk$Reader" "faultPlace" "I" : Cond) ∈ zw_t_refuse := List.mem_append_left _ (List.mem_of_getElem? (i := 4) rfl)
  have k_3 := hts _ m_3
  have i_X4 : ∀ w ∈ u_ws RX4 TX4 11, w ∈ zw_t_refuse := fun w h => List.mem_append_right _ (List.mem_append_left _ h)
  have lt_0 : (0 : Int32).toInt = 0 := by decide
  have lt_1 : (1 : Int32).toInt = 1 := by decide
  have hl := lv_entry ([.ref p0, .int a1]) (n := 2) (Nat.le_of_ble_eq_true rfl)
  rw [lg_entry_eq]
  generalize (lg_sl ([.ref p0, .int a1]) ++ List.replicate (2 - (lg_sl ([.ref p0, .int a1])).length) Slot.unset).toArray = ls at hl ⊢
  have hl : lv_has ls 2 [(0, .ref p0), (1, .int a1)] := hl
  refine lv_aload_n hx hb dX4_refuse_0 rfl (lv_at hl 0 rfl) (lv_aload_n hx hb dX4_refuse_1 rfl (lv_at hl 0 rfl) ?_)
  obtain ⟨v_1, fv_1⟩ := OKX4_g4 ho_p0
  refine qg_X4_4 hx hb hts i_X4 hown hK hP 0 rfl k_0 fv_1 dX4_refuse_2 (lv_iconst (v := 1) hx hb dX4_refuse_5 (by decide) ?_)
  refine lv_icmp_ne (tgt := 13) hx hb dX4_refuse_6 (by decide) (fun c_2 => ?_) (fun c_2 => ?_)
  · have tc_2 := q_ne c_2
    refine lv_iload_n hx hb dX4_refuse_13 rfl (lv_at hl 1 rfl) (qp_X4_9 hx hb hts i_X4 hown hK hP hDa za_t_refuse hS 0 rfl k_1 (OKX4_l ho_p0) dX4_refuse_14 (fun H3 lo3 fs3 efs3 (hP3 : va_P (dC, dI) vwCl (zW_t_refuse p0 fs3) H3) hS3 => ?_))
    have ho3 := OKX4_p9 ho_p0 efs3
    clear hP hS
    refine lv_aload_n hx hb dX4_refuse_17 rfl (lv_at hl 0 rfl) (lv_aload_n hx hb dX4_refuse_18 rfl (lv_at hl 0 rfl) ?_)
    obtain ⟨v_4, fv_4⟩ := OKX4_g5 ho3
    refine qg_X4_5 hx hb hts i_X4 hown hK hP3 0 rfl k_2 fv_4 dX4_refuse_19 (qp_X4_10 hx hb hts i_X4 hown hK hP3 hDa za_t_refuse hS3 0 rfl k_3 (OKX4_l ho3) dX4_refuse_22 (fun H5 lo5 fs5 efs5 (hP5 : va_P (dC, dI) vwCl (zW_t_refuse p0 fs5) H5) hS5 => ?_))
    have ho5 := OKX4_p10 ho3 efs5
    clear hP3 hS3
    refine lv_iconst (v := 0) hx hb dX4_refuse_25 (by decide) ?_
    exact q_zret hx hb hr hlocks (by decide) hS5 dX4_refuse_26 ⟨fs5, (Or.inr ⟨rfl, by first | trivial | omega⟩), ho5, ((q_fr.rf.st efs3 (by decide)).st efs5 (by decide)), hP5, za_t_refuse⟩
  · have tc_2 := q_eqN c_2
    refine lv_iconst (v := 1) hx hb dX4_refuse_9 (by decide) (lv_goto (tgt := 14) hx hb dX4_refuse_10 (by decide) (qp_X4_9 hx hb hts i_X4 hown hK hP hDa za_t_refuse hS 0 rfl k_1 (OKX4_l ho_p0) dX4_refuse_14 (fun H6 lo6 fs6 efs6 (hP6 : va_P (dC, dI) vwCl (zW_t_refuse p0 fs6) H6) hS6 => ?_)))
    have ho6 := OKX4_p9 ho_p0 efs6
    clear hP hS
    refine lv_aload_n hx hb dX4_refuse_17 rfl (lv_at hl 0 rfl) (lv_aload_n hx hb dX4_refuse_18 rfl (lv_at hl 0 rfl) ?_)
    obtain ⟨v_7, fv_7⟩ := OKX4_g5 ho6
    refine qg_X4_5 hx hb hts i_X4 hown hK hP6 0 rfl k_2 fv_7 dX4_refuse_19 (qp_X4_10 hx hb hts i_X4 hown hK hP6 hDa za_t_refuse hS6 0 rfl k_3 (OKX4_l ho6) dX4_refuse_22 (fun H8 lo8 fs8 efs8 (hP8 : va_P (dC, dI) vwCl (zW_t_refuse p0 fs8) H8) hS8 => ?_))
    have ho8 := OKX4_p10 ho6 efs8
    clear hP6 hS6
    refine lv_iconst (v := 0) hx hb dX4_refuse_25 (by decide) ?_
    exact q_zret hx hb hr hlocks (by decide) hS8 dX4_refuse_26 ⟨fs8, (Or.inr ⟨rfl, by first | trivial | omega⟩), ho8, ((q_fr.rf.st efs6 (by decide)).st efs8 (by decide)), hP8, za_t_refuse⟩
def zo_t_wordToken : List Cond := [.code yX4_wordToken cX4_wordToken 2 (some .int), .fieldLink RX4 11 "BowWalk$Reader" "words" "[J", .fieldLink RX4 37 "BowWalk$Reader" "word" "J"]
def zw_t_wordToken : List Cond := zo_t_wordToken ++ (wsX40 ++ [])
theorem gz_t_wordToken : zw_t_wordToken.all goodWord = true := p1_ga (by decide +kernel) (p1_ga gk_X4 p1_g0)
theorem iz_t_wordToken : ∀ w ∈ zw_t_wordToken, w ∈ lw_tbl := p1_ia (p1_all [590, 307, 314] (by decide +kernel)) (p1_ia ik_X4 p1_i0)
def zW_t_wordToken (p0 : Nat) (f_p0 : List Value) (p0_words : Nat) (c_p0_words : ClassId) (b_p0_words : Nat → Int64) : va_W := [(p0, .inr (4, f_p0)), (p0_words, .inl (c_p0_words, 22, .inr (.inl b_p0_words)))]
def zT_t_wordToken (c_p0_words : ClassId) : List (ClassId × FieldType) := [(c_p0_words, .long)]
def zA_t_wordToken (p0 : Nat) (p0_words : Nat) : List Nat := [p0, p0_words]
theorem za_t_wordToken {p0 : Nat} {f_p0 : List Value} {p0_words : Nat} {c_p0_words : ClassId} {b_p0_words : Nat → Int64} : (zW_t_wordToken p0 f_p0 p0_words c_p0_words b_p0_words).map Prod.fst = (zA_t_wordToken p0 p0_words) := rfl
def zG_t_wordToken (p0 : Nat) (f_p0 : List Value) (p0_words : Nat) (c_p0_words : ClassId) (b_p0_words : Nat → Int64) (r : Int32) (X : va_W → Prop) : Prop := X (zW_t_wordToken p0 f_p0 p0_words c_p0_words b_p0_words)
theorem zm_t_wordToken {p0 : Nat} {f_p0 : List Value} {p0_words : Nat} {c_p0_words : ClassId} {b_p0_words : Nat → Int64} : ∀ (r : Int32), ∀ X Y : va_W → Prop, (∀ w, X w → Y w) → zG_t_wordToken p0 f_p0 p0_words c_p0_words b_p0_words r X → zG_t_wordToken p0 f_p0 p0_words c_p0_words b_p0_words r Y := fun r X Y h h1 => h _ h1
set_option maxHeartbeats 4000000 in
set_option maxRecDepth 100000 in
theorem t_wordToken (l : Launch) (dC : Nat → ClassId) (dI : Nat → Nat → Nat) (sz : Nat) (p0 : Nat) (f_p0 : List Value) (p0_words : Nat) (c_p0_words : ClassId) (b_p0_words : Nat → Int64) (ho_p0 : OKX4 f_p0) (fr_p0_0 : q_rf f_p0 0 p0_words) : Met l yX4_wordToken zw_t_wordToken ({ frames := 0, cells := 0, slots := 0, locals := 0 }) (va_Pc [.ref p0] (q_pre (dC, dI) (zW_t_wordToken p0 f_p0 p0_words c_p0_words b_p0_words) (zT_t_wordToken c_p0_words) q_E0 sz)) (q_Qi (dC, dI) (zG_t_wordToken p0 f_p0 p0_words c_p0_words b_p0_words) (zA_t_wordToken p0 p0_words) (va_A (zW_t_wordToken p0 f_p0 p0_words c_p0_words b_p0_words) sz)) 0 0 (va_A (zW_t_wordToken p0 f_p0 p0_words c_p0_words b_p0_words) sz) := by
  refine Met.ofW (cc := cX4_wordToken) (maxL := 2) (ret := (some .int)) (by decide) rfl ?_
  intro p e s m args below meth c s₁ B hml hv
  obtain ⟨rfl, hsz, hP, hK, hD0, hE⟩ := hv
  have hx := B.exec
  have hb := B.bytes
  have hr := B.returns
  have hts := atoms_spec (ws := zw_t_wordToken) B.pre
  have hown : s.vm.findClass RX4 = some m.cls := findClass_of_methodNamed B.named
  have hlocks := B.notSynchronized
  subst hsz
  have hD := hD0.self (sz := s.heap.size)
  generalize hAe : va_A (zW_t_wordToken p0 f_p0 p0_words c_p0_words b_p0_words) s.heap.size = A at hD hE ⊢
  have hA : ∀ q : Nat, s.heap.size ≤ q → A q := fun q h => by rw [← hAe]; exact Or.inr h
  have hDa : q_DA A (zA_t_wordToken p0 p0_words) := q_DA.mk hD za_t_wordToken
  clear hAe hD0 hD
  have hS : va_S A s.heap s.heap [] := va_S.rf
  have m_0 : (.fieldLink RX4 11 "BowWalk$Reader" "words" "[J" : Cond) ∈ zw_t_wordToken := List.mem_append_left _ (List.mem_of_getElem? (i := 1) rfl)
  have k_0 := hts _ m_0
  have m_1 : (.fieldLink RX4 37 "BowWalk$Reader" "word" "J" : Cond) ∈ zw_t_wordToken := List.mem_append_left _ (List.mem_of_getElem? (i := 2) rfl)
  have k_1 := hts _ m_1
  have i_X4 : ∀ w ∈ u_ws RX4 TX4 11, w ∈ zw_t_wordToken := fun w h => List.mem_append_right _ (List.mem_append_left _ h)
  have lt_0 : (0 : Int32).toInt = 0 := by decide
  have lt_1 : (1 : Int32).toInt = 1 := by decide
  have lt_2 : (2 : Int32).toInt = 2 := by decide
  have lt_22 : (22 : Int32).toInt = 22 := by decide
  have lt_256 : (256 : Int32).toInt = 256 := by decide
  have hl := lv_entry ([.ref p0]) (n := 2) (Nat.le_of_ble_eq_true rfl)
  rw [lg_entry_eq]
  generalize (lg_sl ([.ref p0]) ++ List.replicate (2 - (lg_sl ([.ref p0])).length) Slot.unset).toArray = ls at hl ⊢
  have hl : lv_has ls 2 [(0, .ref p0)] := hl
  refine lv_iconst (v := 0) hx hb dX4_wordToken_0 (by decide) (lv_istore_n (lv' := [(1, .int 0), (0, .ref p0)]) hx hb dX4_wordToken_1 rfl hl (by decide) rfl (fun ls hl => ?_))
  have key2 : ∀ (fu2 : Nat) (i : Int32) (H : Heap) (locs : List Loc) (ls : Array Slot) (hfu2 : 22 - i.toInt ≤ (fu2 : Int)) (ti : (0) ≤ i.toInt ∧ i.toInt ≤ 22), va_P (dC, dI) vwCl (zW_t_wordToken p0 f_p0 p0_words c_p0_words b_p0_words) H → va_S A s.heap H locs → lv_has ls 2 [(1, .int i), (0, .ref p0)] → W p l e (headSpec zw_t_wordToken { frames := 0, cells := 0, slots := 0, locals := 0 }).room s m ([.ref p0] : List Value).toArray below meth c H locs 0 0 (MQ below (q_Qi (dC, dI) (zG_t_wordToken p0 f_p0 p0_words c_p0_words b_p0_words) (zA_t_wordToken p0 p0_words) A) ([.ref p0] : List Value).toArray s 0 0 A) (F0 m 2 ls []) := by
    intro fu2
    induction fu2 using Nat.strongRecOn with
    | ind fu2 ih2 =>
      intro i H1 lo1 ls hfu2 ti hP1 hS1 hl
      refine lv_iload_n hx hb dX4_wordToken_2 rfl (lv_at hl 0 rfl) (lv_bipush (v := 22) hx hb dX4_wordToken_3 (by decide) ?_)
      refine lv_icmp_ge (tgt := 34) hx hb dX4_wordToken_5 (by decide) (fun c_2 => ?_) (fun c_2 => ?_)
      · have tc_2 := q_ge c_2
        refine lv_iconst (v := 2) hx hb dX4_wordToken_34 (by decide) ?_
        exact q_iret hx hb hr hlocks hS1 dX4_wordToken_35 ⟨hP1, za_t_wordToken⟩
      · have tc_2 := q_ltN c_2
        refine lv_aload_n hx hb dX4_wordToken_8 rfl (lv_at hl 1 rfl) (qg_X4_0 hx hb hts i_X4 hown hK hP1 0 rfl k_0 fr_p0_0 dX4_wordToken_9 (lv_iload_n hx hb dX4_wordToken_12 rfl (lv_at hl 0 rfl) (q_lld hx hb hK hP1 1 0 rfl rfl (q_in (by omega) (by omega)) dX4_wordToken_13 (fun w_3 ew_3 => ?_))))
        refine lv_aload_n hx hb dX4_wordToken_14 rfl (lv_at hl 1 rfl) ?_
        obtain ⟨v_4, fv_4⟩ := OKX4_g7 ho_p0
        refine qg_X4_7 hx hb hts i_X4 hown hK hP1 0 rfl k_1 fv_4 dX4_wordToken_15 (W.lcmp hx hb dX4_wordToken_18 (lv_topi fun v_5 ev_5 => ?_))
        refine lv_if_ne (tgt := 28) hx hb dX4_wordToken_19 (by decide) (fun c_6 => ?_) (fun c_6 => ?_)
        · have tc_6 := q_ne c_6
          obtain ⟨v_7, ev_7⟩ : ∃ y : Int32, y = i + 1 := ⟨_, rfl⟩
          have tv_7 := q_add ev_7 (by omega) (by omega)
          refine lv_iinc (v := v_7) (lv' := [(1, .int v_7), (0, .ref p0)]) hx hb dX4_wordToken_28 hl (k := 0) rfl (by rw [ev_7]; rfl) (by decide) rfl (fun ls hl => ?_)
          refine lv_goto (tgt := 2) hx hb dX4_wordToken_31 (by decide) ?_
          exact ih2 (fu2 - 1) (by omega) v_7 _ _ _ (by omega) (by omega) hP1 hS1 (lv_sub hl [0, 1] rfl)
        · have tc_6 := q_eqN c_6
          refine lv_sipush (v := 256) hx hb dX4_wordToken_22 (by decide) (lv_iload_n hx hb dX4_wordToken_25 rfl (lv_at hl 0 rfl) (lv_iadd hx hb dX4_wordToken_26 (lv_topi fun v_8 ev_8 => ?_)))
          have tv_8 := q_add ev_8 (by omega) (by omega)
          exact q_iret hx hb hr hlocks hS1 dX4_wordToken_27 ⟨hP1, za_t_wordToken⟩
  exact key2 22 0 _ _ _ (by omega) (by omega) hP hS (lv_sub hl [0, 1] rfl)
def zo_t_sOWord : List Cond := [.code yX4_stepOverWord cX4_stepOverWord 1 none, .fieldLink RX4 37 "BowWalk$Reader" "word" "J", .fieldLink RX4 25 "BowWalk$Reader" "at" "I", .fieldLink RX4 21 "BowWalk$Reader" "length" "I", .fieldLink RX4 31 "BowWalk$Reader" "place" "I", .methodLink RX4 117 yX4_wordToken, .instanceMethod yX4_wordToken, .selects RX4 yX4_wordToken yX4_wordToken, .initialized RX4, .fieldLink RX4 28 "BowWalk$Reader" "token" "I", .fieldLink RX4 17 "BowWalk$Reader" "text" "[B", .methodLink RX4 102 yX4_isLetter, .static yX4_isLetter, .methodLink RX4 65 yX4_withLetter, .static yX4_withLetter]
def zw_t_sOWord : List Cond := zo_t_sOWord ++ (zw_t_wordToken ++ (zw_t_isLetter ++ (zw_t_withLetter ++ (wsX40 ++ []))))
theorem gz_t_sOWord : zw_t_sOWord.all goodWord = true := p1_ga (by decide +kernel) (p1_ga gz_t_wordToken (p1_ga gz_t_isLetter (p1_ga gz_t_withLetter (p1_ga gk_X4 p1_g0))))
theorem iz_t_sOWord : ∀ w ∈ zw_t_sOWord, w ∈ lw_tbl := p1_ia (p1_all [586, 314, 310, 309, 312, 587, 589, 3, 105, 311, 308, 580, 581, 303, 304] (by decide +kernel)) (p1_ia iz_t_wordToken (p1_ia iz_t_isLetter (p1_ia iz_t_withLetter (p1_ia ik_X4 p1_i0))))
def zW_t_sOWord (p0 : Nat) (f_p0 : List Value) (p0_text : Nat) (c_p0_text : ClassId) (b_p0_text : Nat → Int32) (p0_words : Nat) (c_p0_words : ClassId) (b_p0_words : Nat → Int64) : va_W := [(p0, .inr (4, f_p0)), (p0_text, .inl (c_p0_text, 1600, .inl b_p0_text)), (p0_words, .inl (c_p0_words, 22, .inr (.inl b_p0_words)))]
def zT_t_sOWord (c_p0_text : ClassId) (c_p0_words : ClassId) : List (ClassId × FieldType) := [(c_p0_text, .byte), (c_p0_words, .long)]
def zA_t_sOWord (p0 : Nat) (p0_text : Nat) (p0_words : Nat) : List Nat := [p0, p0_text, p0_words]
theorem za_t_sOWord {p0 : Nat} {f_p0 : List Value} {p0_text : Nat} {c_p0_text : ClassId} {b_p0_text : Nat → Int32} {p0_words : Nat} {c_p0_words : ClassId} {b_p0_words : Nat → Int64} : (zW_t_sOWord p0 f_p0 p0_text c_p0_text b_p0_text p0_words c_p0_words b_p0_words).map Prod.fst = (zA_t_sOWord p0 p0_text p0_words) := rfl
def zG_t_sOWord (p0 : Nat) (f_p0 : List Value) (p0_text : Nat) (c_p0_text : ClassId) (b_p0_text : Nat → Int32) (p0_words : Nat) (c_p0_words : ClassId) (b_p0_words : Nat → Int64) (X : va_W → Prop) : Prop := ∃ (y_p0 : List Value), OKX4 y_p0 ∧ q_fr [3, 4, 7] f_p0 y_p0 ∧ X (zW_t_sOWord p0 y_p0 p0_text c_p0_text b_p0_text p0_words c_p0_words b_p0_words)
theorem zm_t_sOWord {p0 : Nat} {f_p0 : List Value} {p0_text : Nat} {c_p0_text : ClassId} {b_p0_text : Nat → Int32} {p0_words : Nat} {c_p0_words : ClassId} {b_p0_words : Nat → Int64} : ∀ X Y : va_W → Prop, (∀ w, X w → Y w) → zG_t_sOWord p0 f_p0 p0_text c_p0_text b_p0_text p0_words c_p0_words b_p0_words X → zG_t_sOWord p0 f_p0 p0_text c_p0_text b_p0_text p0_words c_p0_words b_p0_words Y := fun X Y h h1 => by obtain ⟨x0, x1, x2, hx⟩ := h1; exact ⟨x0, x1, x2, h _ hx⟩
set_option maxHeartbeats 4000000 in
set_option maxRecDepth 100000 in
theorem t_sOWord (l : Launch) (dC : Nat → ClassId) (dI : Nat → Nat → Nat) (sz : Nat) (p0 : Nat) (f_p0 : List Value) (p0_text : Nat) (c_p0_text : ClassId) (b_p0_text : Nat → Int32) (p0_words : Nat) (c_p0_words : ClassId) (b_p0_words : Nat → Int64) (ho_p0 : OKX4 f_p0) (fr_p0_0 : q_rf f_p0 0 p0_words) (fr_p0_1 : q_rf f_p0 1 p0_text) : Met l yX4_stepOverWord zw_t_sOWord ({ frames := 1, cells := 0, slots := 0, locals := 22 }) (va_Pc [.ref p0] (q_pre (dC, dI) (zW_t_sOWord p0 f_p0 p0_text c_p0_text b_p0_text p0_words c_p0_words b_p0_words) (zT_t_sOWord c_p0_text c_p0_words) q_E0 sz)) (q_Qv (dC, dI) (zG_t_sOWord p0 f_p0 p0_text c_p0_text b_p0_text p0_words c_p0_words b_p0_words) (zA_t_sOWord p0 p0_text p0_words) (va_A (zW_t_sOWord p0 f_p0 p0_text c_p0_text b_p0_text p0_words c_p0_words b_p0_words) sz)) 0 0 (va_A (zW_t_sOWord p0 f_p0 p0_text c_p0_text b_p0_text p0_words c_p0_words b_p0_words) sz) := by
  refine Met.ofW (cc := cX4_stepOverWord) (maxL := 1) (ret := none) (by decide) rfl ?_
  intro p e s m args below meth c s₁ B hml hv
  obtain ⟨rfl, hsz, hP, hK, hD0, hE⟩ := hv
  have hx := B.exec
  have hb := B.bytes
  have hr := B.returns
  have hts := atoms_spec (ws := zw_t_sOWord) B.pre
  have hown : s.vm.findClass RX4 = some m.cls := findClass_of_methodNamed B.named
  have hlocks := B.notSynchronized
  subst hsz
  have hD := hD0.self (sz := s.heap.size)
  generalize hAe : va_A (zW_t_sOWord p0 f_p0 p0_text c_p0_text b_p0_text p0_words c_p0_words b_p0_words) s.heap.size = A at hD hE ⊢
  have hA : ∀ q : Nat, s.heap.size ≤ q → A q := fun q h => by rw [← hAe]; exact Or.inr h
  have hDa : q_DA A (zA_t_sOWord p0 p0_text p0_words) := q_DA.mk hD za_t_sOWord
  clear hAe hD0 hD
  have hS : va_S A s.heap s.heap [] := va_S.rf
  have m_0 : (.fieldLink RX4 37 "BowWalk$Reader" "word" "J" : Cond) ∈ zw_t_sOWord := List.mem_append_left _ (List.mem_of_getElem? (i := 1) rfl)
  have k_0 := hts _ m_0
  have m_1 : (.fieldLink RX4 25 "BowWalk$Reader" "at" "I" : Cond) ∈ zw_t_sOWord := List.mem_append_left _ (List.mem_of_getElem? (i := 2) rfl)
  have k_1 := hts _ m_1
  have m_2 : (.fieldLink RX4 21 "BowWalk$Reader" "length" "I" : Cond) ∈ zw_t_sOWord := List.mem_append_left _ (List.mem_of_getElem? (i := 3) rfl)
  have k_2 := hts _ m_2
  have m_3 : (.fieldLink RX4 31 "BowWalk$Reader" "place" "I" : Cond) ∈ zw_t_sOWord := List.mem_append_left _ (List.mem_of_getElem? (i := 4) rfl)
  have k_3 := hts _ m_3
  have m_4 : (.methodLink RX4 117 yX4_wordToken : Cond) ∈ zw_t_sOWord := List.mem_append_left _ (List.mem_of_getElem? (i := 5) rfl)
  have k_4 := hts _ m_4
  have m_5 : (.instanceMethod yX4_wordToken : Cond) ∈ zw_t_sOWord := List.mem_append_left _ (List.mem_of_getElem? (i := 6) rfl)
  have k_5 := hts _ m_5
  have m_6 : (.selects RX4 yX4_wordToken yX4_wordToken : Cond) ∈ zw_t_sOWord := List.mem_append_left _ (List.mem_of_getElem? (i := 7) rfl)
  have k_6 := hts _ m_6
  have m_7 : (.initialized RX4 : Cond) ∈ zw_t_sOWord := List.mem_append_left _ (List.mem_of_getElem? (i := 8) rfl)
  have k_7 := hts _ m_7
  have m_8 : (.fieldLink RX4 28 "BowWalk$Reader" "token" "I" : Cond) ∈ zw_t_sOWord := List.mem_append_left _ (List.mem_of_getElem? (i := 9) rfl)
  have k_8 := hts _ m_8
  have m_9 : (.fieldLink RX4 17 "BowWalk$Reader" "text" "[B" : Cond) ∈ zw_t_sOWord := List.mem_append_left _ (List.mem_of_getElem? (i := 10) rfl)
  have k_9 := hts _ m_9
  have m_10 : (.methodLink RX4 102 yX4_isLetter : Cond) ∈ zw_t_sOWord := List.mem_append_left _ (List.mem_of_getElem? (i := 11) rfl)
  have k_10 := hts _ m_10
  have m_11 : (.static yX4_isLetter : Cond) ∈ zw_t_sOWord := List.mem_append_left _ (List.mem_of_getElem? (i := 12) rfl)
  have k_11 := hts _ m_11
  have m_12 : (.methodLink RX4 65 yX4_withLetter : Cond) ∈ zw_t_sOWord := List.mem_append_left _ (List.mem_of_getElem? (i := 13) rfl)
  have k_12 := hts _ m_12
  have m_13 : (.static yX4_withLetter : Cond) ∈ zw_t_sOWord := List.mem_append_left _ (List.mem_of_getElem? (i := 14) rfl)
  have k_13 := hts _ m_13
  have g_t_wordToken : ∀ w ∈ zw_t_wordToken, w ∈ zw_t_sOWord := fun w h => List.mem_append_right _ (List.mem_append_left _ h)
  have g_t_isLetter : ∀ w ∈ zw_t_isLetter, w ∈ zw_t_sOWord := fun w h => List.mem_append_right _ (List.mem_append_right _ (List.mem_append_left _ h))
  have g_t_withLetter : ∀ w ∈ zw_t_withLetter, w ∈ zw_t_sOWord := fun w h => List.mem_append_right _ (List.mem_append_right _ (List.mem_append_right _ (List.mem_append_left _ h)))
  have i_X4 : ∀ w ∈ u_ws RX4 TX4 11, w ∈ zw_t_sOWord := fun w h => List.mem_append_right _ (List.mem_append_right _ (List.mem_append_right _ (List.mem_append_right _ (List.mem_append_left _ h))))
  have lt_0 : (0 : Int32).toInt = 0 := by decide
  have lt_1 : (1 : Int32).toInt = 1 := by decide
  have lt_8 : (8 : Int32).toInt = 8 := by decide
  have hl := lv_entry ([.ref p0]) (n := 1) (Nat.le_of_ble_eq_true rfl)
  rw [lg_entry_eq]
  generalize (lg_sl ([.ref p0]) ++ List.replicate (1 - (lg_sl ([.ref p0])).length) Slot.unset).toArray = ls at hl ⊢
  have hl : lv_has ls 1 [(0, .ref p0)] := hl
  refine lv_aload_n hx hb dX4_stepOverWord_0 rfl (lv_at hl 0 rfl) (lv_lconst (v := 0) hx hb dX4_stepOverWord_1 (by decide) (qp_X4_7 hx hb hts i_X4 hown hK hP hDa za_t_sOWord hS 0 rfl k_0 (OKX4_l ho_p0) dX4_stepOverWord_2 (fun H1 lo1 fs1 efs1 (hP1 : va_P (dC, dI) vwCl (zW_t_sOWord p0 fs1 p0_text c_p0_text b_p0_text p0_words c_p0_words b_p0_words) H1) hS1 => ?_)))
  have ho1 := OKX4_p7 ho_p0 efs1
  clear hP hS
  obtain ⟨v_2, fv_2, tv_2⟩ := OKX4_g3 ho1
  have key5 : ∀ (fu5 : Nat) (fz_p0 : List Value) (att : Int32) (H : Heap) (locs : List Loc) (ls : Array Slot) (hfu5 : 1600 - att.toInt ≤ (fu5 : Int)) (ho_fz_p0 : OKX4 fz_p0) (hf_fz_p0 : q_fr [3, 4, 7] f_p0 fz_p0) (fr_fz_p0_0 : q_rf fz_p0 0 p0_words) (fr_fz_p0_1 : q_rf fz_p0 1 p0_text) (fv_fz_p0_3 : q_if fz_p0 3 att) (tatt : (0) ≤ att.toInt ∧ att.toInt ≤ 1600), va_P (dC, dI) vwCl (zW_t_sOWord p0 fz_p0 p0_text c_p0_text b_p0_text p0_words c_p0_words b_p0_words) H → va_S A s.heap H locs → lv_has ls 1 [(0, .ref p0)] → W p l e (headSpec zw_t_sOWord { frames := 1, cells := 0, slots := 0, locals := 22 }).room s m ([.ref p0] : List Value).toArray below meth c H locs 0 0 (MQ below (q_Qv (dC, dI) (zG_t_sOWord p0 f_p0 p0_text c_p0_text b_p0_text p0_words c_p0_words b_p0_words) (zA_t_sOWord p0 p0_text p0_words) A) ([.ref p0] : List Value).toArray s 0 0 A) (F0 m 5 ls []) := by
    intro fu5
    induction fu5 using Nat.strongRecOn with
    | ind fu5 ih5 =>
      intro fz_p0 att H3 lo3 ls hfu5 ho_fz_p0 hf_fz_p0 fr_fz_p0_0 fr_fz_p0_1 fv_fz_p0_3 tatt hP3 hS3 hl
      refine lv_aload_n hx hb dX4_stepOverWord_5 rfl (lv_at hl 0 rfl) (qg_X4_3 hx hb hts i_X4 hown hK hP3 0 rfl k_1 fv_fz_p0_3 dX4_stepOverWord_6 (lv_aload_n hx hb dX4_stepOverWord_9 rfl (lv_at hl 0 rfl) ?_))
      obtain ⟨v_4, fv_4, tv_4⟩ := OKX4_g2 ho_fz_p0
      refine qg_X4_2 hx hb hts i_X4 hown hK hP3 0 rfl k_2 fv_4 dX4_stepOverWord_10 ?_
      refine lv_icmp_ge (tgt := 78) hx hb dX4_stepOverWord_13 (by decide) (fun c_5 => ?_) (fun c_5 => ?_)
      · have tc_5 := q_ge c_5
        refine lv_aload_n hx hb dX4_stepOverWord_78 rfl (lv_at hl 0 rfl) (lv_aload_n hx hb dX4_stepOverWord_79 rfl (lv_at hl 0 rfl) (qg_X4_3 hx hb hts i_X4 hown hK hP3 0 rfl k_1 fv_fz_p0_3 dX4_stepOverWord_80 (lv_aload_n hx hb dX4_stepOverWord_83 rfl (lv_at hl 0 rfl) ?_)))
        obtain ⟨v_6, fv_6⟩ := OKX4_g5 ho_fz_p0
        refine qg_X4_5 hx hb hts i_X4 hown hK hP3 0 rfl k_3 fv_6 dX4_stepOverWord_84 (lv_isub hx hb dX4_stepOverWord_87 (lv_topi fun v_7 ev_7 => lv_bipush (v := 8) hx hb dX4_stepOverWord_88 (by decide) ?_))
        refine lv_icmp_le (tgt := 97) hx hb dX4_stepOverWord_90 (by decide) (fun c_8 => ?_) (fun c_8 => ?_)
        · have tc_8 := q_le c_8
          refine lv_aload_n hx hb dX4_stepOverWord_97 rfl (lv_at hl 0 rfl) ?_
          refine q_cVi (As := []) (rest := [.ref p0]) q_w0 trivial hK hP3 hDa za_t_sOWord hS3 hA [0, 2] [1] (by decide +kernel) ⟨hx, hb, hml, hown, hts⟩ (t_wordToken l dC dI H3.size p0 fz_p0 p0_words c_p0_words b_p0_words ho_fz_p0 fr_fz_p0_0) rfl rfl (cwV 0 hts (p1_gV m_4 m_5 m_6 m_7 g_t_wordToken gz_t_wordToken) rfl rfl rfl (by decide +kernel) ⟨by decide, by decide⟩) (va_recv hK hP3 (ci := 4) (q0 := 0) rfl rfl) zm_t_wordToken rfl hl.1 rfl (Nat.le_of_ble_eq_true rfl) dX4_stepOverWord_98 ⟨by decide, by decide⟩ (fun r_9 H10 lo10 hG10 hS10 => ?_)
          have hQ10 := hG10
          have hP10 : va_P (dC, dI) vwCl (zW_t_sOWord p0 fz_p0 p0_text c_p0_text b_p0_text p0_words c_p0_words b_p0_words) H10 := hQ10
          clear hQ10 hP3 hS3
          refine qp_X4_4 hx hb hts i_X4 hown hK hP10 hDa za_t_sOWord hS10 0 rfl k_8 (OKX4_l ho_fz_p0) dX4_stepOverWord_101 (fun H11 lo11 fs11 efs11 (hP11 : va_P (dC, dI) vwCl (zW_t_sOWord p0 fs11 p0_text c_p0_text b_p0_text p0_words c_p0_words b_p0_words) H11) hS11 => ?_)
          have ho11 := OKX4_p4 ho_fz_p0 efs11
          clear hP10 hS10
          exact q_vret hx hb hr hlocks hS11 dX4_stepOverWord_104 ⟨fs11, ho11, (hf_fz_p0.st efs11 (by decide)), hP11, za_t_sOWord⟩
        · have tc_8 := q_gtN c_8
          refine lv_iconst (v := 1) hx hb dX4_stepOverWord_93 (by decide) (lv_goto (tgt := 101) hx hb dX4_stepOverWord_94 (by decide) (qp_X4_4 hx hb hts i_X4 hown hK hP3 hDa za_t_sOWord hS3 0 rfl k_8 (OKX4_l ho_fz_p0) dX4_stepOverWord_101 (fun H12 lo12 fs12 efs12 (hP12 : va_P (dC, dI) vwCl (zW_t_sOWord p0 fs12 p0_text c_p0_text b_p0_text p0_words c_p0_words b_p0_words) H12) hS12 => ?_)))
          have ho12 := OKX4_p4 ho_fz_p0 efs12
          clear hP3 hS3
          exact q_vret hx hb hr hlocks hS12 dX4_stepOverWord_104 ⟨fs12, ho12, (hf_fz_p0.st efs12 (by decide)), hP12, za_t_sOWord⟩
      · have tc_5 := q_ltN c_5
        refine lv_aload_n hx hb dX4_stepOverWord_16 rfl (lv_at hl 0 rfl) (qg_X4_1 hx hb hts i_X4 hown hK hP3 0 rfl k_9 fr_fz_p0_1 dX4_stepOverWord_17 (lv_aload_n hx hb dX4_stepOverWord_20 rfl (lv_at hl 0 rfl) (qg_X4_3 hx hb hts i_X4 hown hK hP3 0 rfl k_1 fv_fz_p0_3 dX4_stepOverWord_21 (q_bld hx hb hK hP3 1 0 rfl rfl (q_in (by omega) (by omega)) dX4_stepOverWord_24 (fun v_13 ev_13 => ?_)))))
        refine q_cSi (As := [.int v_13]) (rest := []) q_w0 trivial hK hP3 hDa za_t_sOWord hS3 hA [] [] (by decide +kernel) ⟨hx, hb, hml, hown, hts⟩ (t_isLetter l dC dI H3.size v_13) rfl rfl (va_cwS 1 hts (p1_gS m_10 m_11 m_7 g_t_isLetter gz_t_isLetter) rfl rfl rfl (by decide +kernel) ⟨by decide, by decide⟩) zm_t_isLetter rfl hl.1 rfl (Nat.le_of_ble_eq_true rfl) dX4_stepOverWord_25 ⟨by decide, by decide⟩ (fun r_14 H15 lo15 hG15 hS15 => ?_)
        obtain ⟨z_16, hQ15⟩ := hG15
        have hP15 : va_P (dC, dI) vwCl (zW_t_sOWord p0 fz_p0 p0_text c_p0_text b_p0_text p0_words c_p0_words b_p0_words) H15 := hQ15
        clear hQ15 hP3 hS3
        rcases z_16 with ⟨rfl, z_16⟩ | ⟨rfl, z_16⟩
        · refine lv_if_eq (tgt := 78) hx hb dX4_stepOverWord_28 (by decide) (fun c_17 => absurd c_17 (by decide)) (fun c_17 => ?_)
          refine lv_aload_n hx hb dX4_stepOverWord_31 rfl (lv_at hl 0 rfl) (qg_X4_3 hx hb hts i_X4 hown hK hP15 0 rfl k_1 fv_fz_p0_3 dX4_stepOverWord_32 (lv_aload_n hx hb dX4_stepOverWord_35 rfl (lv_at hl 0 rfl) ?_))
          obtain ⟨v_18, fv_18⟩ := OKX4_g5 ho_fz_p0
          refine qg_X4_5 hx hb hts i_X4 hown hK hP15 0 rfl k_3 fv_18 dX4_stepOverWord_36 (lv_isub hx hb dX4_stepOverWord_39 (lv_topi fun v_19 ev_19 => lv_bipush (v := 8) hx hb dX4_stepOverWord_40 (by decide) ?_))
          refine lv_icmp_ge (tgt := 65) hx hb dX4_stepOverWord_42 (by decide) (fun c_20 => ?_) (fun c_20 => ?_)
          · have tc_20 := q_ge c_20
            refine lv_aload_n hx hb dX4_stepOverWord_65 rfl (lv_at hl 0 rfl) (lv_dup hx hb dX4_stepOverWord_66 rfl (qg_X4_3 hx hb hts i_X4 hown hK hP15 0 rfl k_1 fv_fz_p0_3 dX4_stepOverWord_67 (lv_iconst (v := 1) hx hb dX4_stepOverWord_70 (by decide) (lv_iadd hx hb dX4_stepOverWord_71 (lv_topi fun v_21 ev_21 => ?_)))))
            have tv_21 := q_add ev_21 (by omega) (by omega)
            refine qp_X4_3 hx hb hts i_X4 hown hK hP15 hDa za_t_sOWord hS15 0 rfl k_1 (OKX4_l ho_fz_p0) dX4_stepOverWord_72 (fun H22 lo22 fs22 efs22 (hP22 : va_P (dC, dI) vwCl (zW_t_sOWord p0 fs22 p0_text c_p0_text b_p0_text p0_words c_p0_words b_p0_words) H22) hS22 => ?_)
            have ho22 := OKX4_p3 ho_fz_p0 efs22 ⟨by omega, by omega⟩
            clear hP15 hS15
            refine lv_goto (tgt := 5) hx hb dX4_stepOverWord_75 (by decide) ?_
            exact ih5 (fu5 - 1) (by omega) fs22 v_21 _ _ _ (by omega) ho22 (hf_fz_p0.st efs22 (by decide)) (q_sn efs22 (by decide) fr_fz_p0_0) (q_sn efs22 (by decide) fr_fz_p0_1) (q_sa efs22 (OKX4_l ho_fz_p0) (by decide)) (by omega) hP22 hS22 (lv_sub hl [0] rfl)
          · have tc_20 := q_ltN c_20
            refine lv_aload_n hx hb dX4_stepOverWord_45 rfl (lv_at hl 0 rfl) (lv_aload_n hx hb dX4_stepOverWord_46 rfl (lv_at hl 0 rfl) ?_)
            obtain ⟨v_23, fv_23⟩ := OKX4_g7 ho_fz_p0
            refine qg_X4_7 hx hb hts i_X4 hown hK hP15 0 rfl k_0 fv_23 dX4_stepOverWord_47 (lv_aload_n hx hb dX4_stepOverWord_50 rfl (lv_at hl 0 rfl) (qg_X4_1 hx hb hts i_X4 hown hK hP15 0 rfl k_9 fr_fz_p0_1 dX4_stepOverWord_51 (lv_aload_n hx hb dX4_stepOverWord_54 rfl (lv_at hl 0 rfl) (qg_X4_3 hx hb hts i_X4 hown hK hP15 0 rfl k_1 fv_fz_p0_3 dX4_stepOverWord_55 (q_bld hx hb hK hP15 1 0 rfl rfl (q_in (by omega) (by omega)) dX4_stepOverWord_58 (fun v_24 ev_24 => ?_))))))
            refine q_cSl (As := [.long v_23, .int v_24]) (rest := [.ref p0]) q_w0 trivial hK hP15 hDa za_t_sOWord hS15 hA [] [] (by decide +kernel) ⟨hx, hb, hml, hown, hts⟩ (t_withLetter l dC dI H15.size v_23 v_24) rfl rfl (va_cwS 2 hts (p1_gS m_12 m_13 m_7 g_t_withLetter gz_t_withLetter) rfl rfl rfl (by decide +kernel) ⟨by decide, by decide⟩) zm_t_withLetter rfl hl.1 rfl (Nat.le_of_ble_eq_true rfl) dX4_stepOverWord_59 ⟨by decide, by decide⟩ (fun r_25 H26 lo26 hG26 hS26 => ?_)
            have hQ26 := hG26
            have hP26 : va_P (dC, dI) vwCl (zW_t_sOWord p0 fz_p0 p0_text c_p0_text b_p0_text p0_words c_p0_words b_p0_words) H26 := hQ26
            clear hQ26 hP15 hS15
            refine qp_X4_7 hx hb hts i_X4 hown hK hP26 hDa za_t_sOWord hS26 0 rfl k_0 (OKX4_l ho_fz_p0) dX4_stepOverWord_62 (fun H27 lo27 fs27 efs27 (hP27 : va_P (dC, dI) vwCl (zW_t_sOWord p0 fs27 p0_text c_p0_text b_p0_text p0_words c_p0_words b_p0_words) H27) hS27 => ?_)
            have ho27 := OKX4_p7 ho_fz_p0 efs27
            clear hP26 hS26
            refine lv_aload_n hx hb dX4_stepOverWord_65 rfl (lv_at hl 0 rfl) (lv_dup hx hb dX4_stepOverWord_66 rfl (qg_X4_3 hx hb hts i_X4 hown hK hP27 0 rfl k_1 (q_sn efs27 (by decide) fv_fz_p0_3) dX4_stepOverWord_67 (lv_iconst (v := 1) hx hb dX4_stepOverWord_70 (by decide) (lv_iadd hx hb dX4_stepOverWord_71 (lv_topi fun v_28 ev_28 => ?_)))))
            have tv_28 := q_add ev_28 (by omega) (by omega)
            refine qp_X4_3 hx hb hts i_X4 hown hK hP27 hDa za_t_sOWord hS27 0 rfl k_1 (OKX4_l ho27) dX4_stepOverWord_72 (fun H29 lo29 fs29 efs29 (hP29 : va_P (dC, dI) vwCl (zW_t_sOWord p0 fs29 p0_text c_p0_text b_p0_text p0_words c_p0_words b_p0_words) H29) hS29 => ?_)
            have ho29 := OKX4_p3 ho27 efs29 ⟨by omega, by omega⟩
            clear hP27 hS27
            refine lv_goto (tgt := 5) hx hb dX4_stepOverWord_75 (by decide) ?_
            exact ih5 (fu5 - 1) (by omega) fs29 v_28 _ _ _ (by omega) ho29 ((hf_fz_p0.st efs27 (by decide)).st efs29 (by decide)) (q_sn efs29 (by decide) (q_sn efs27 (by decide) fr_fz_p0_0)) (q_sn efs29 (by decide) (q_sn efs27 (by decide) fr_fz_p0_1)) (q_sa efs29 (OKX4_l ho27) (by decide)) (by omega) hP29 hS29 (lv_sub hl [0] rfl)
        · refine lv_if_eq (tgt := 78) hx hb dX4_stepOverWord_28 (by decide) (fun c_30 => ?_) (fun c_30 => absurd c_30 (by decide))
          refine lv_aload_n hx hb dX4_stepOverWord_78 rfl (lv_at hl 0 rfl) (lv_aload_n hx hb dX4_stepOverWord_79 rfl (lv_at hl 0 rfl) (qg_X4_3 hx hb hts i_X4 hown hK hP15 0 rfl k_1 fv_fz_p0_3 dX4_stepOverWord_80 (lv_aload_n hx hb dX4_stepOverWord_83 rfl (lv_at hl 0 rfl) ?_)))
          obtain ⟨v_31, fv_31⟩ := OKX4_g5 ho_fz_p0
          refine qg_X4_5 hx hb hts i_X4 hown hK hP15 0 rfl k_3 fv_31 dX4_stepOverWord_84 (lv_isub hx hb dX4_stepOverWord_87 (lv_topi fun v_32 ev_32 => lv_bipush (v := 8) hx hb dX4_stepOverWord_88 (by decide) ?_))
          refine lv_icmp_le (tgt := 97) hx hb dX4_stepOverWord_90 (by decide) (fun c_33 => ?_) (fun c_33 => ?_)
          · have tc_33 := q_le c_33
            refine lv_aload_n hx hb dX4_stepOverWord_97 rfl (lv_at hl 0 rfl) ?_
            refine q_cVi (As := []) (rest := [.ref p0]) q_w0 trivial hK hP15 hDa za_t_sOWord hS15 hA [0, 2] [1] (by decide +kernel) ⟨hx, hb, hml, hown, hts⟩ (t_wordToken l dC dI H15.size p0 fz_p0 p0_words c_p0_words b_p0_words ho_fz_p0 fr_fz_p0_0) rfl rfl (cwV 0 hts (p1_gV m_4 m_5 m_6 m_7 g_t_wordToken gz_t_wordToken) rfl rfl rfl (by decide +kernel) ⟨by decide, by decide⟩) (va_recv hK hP15 (ci := 4) (q0 := 0) rfl rfl) zm_t_wordToken rfl hl.1 rfl (Nat.le_of_ble_eq_true rfl) dX4_stepOverWord_98 ⟨by decide, by decide⟩ (fun r_34 H35 lo35 hG35 hS35 => ?_)
            have hQ35 := hG35
            have hP35 : va_P (dC, dI) vwCl (zW_t_sOWord p0 fz_p0 p0_text c_p0_text b_p0_text p0_words c_p0_words b_p0_words) H35 := hQ35
            clear hQ35 hP15 hS15
            refine qp_X4_4 hx hb hts i_X4 hown hK hP35 hDa za_t_sOWord hS35 0 rfl k_8 (OKX4_l ho_fz_p0) dX4_stepOverWord_101 (fun H36 lo36 fs36 efs36 (hP36 : va_P (dC, dI) vwCl (zW_t_sOWord p0 fs36 p0_text c_p0_text b_p0_text p0_words c_p0_words b_p0_words) H36) hS36 => ?_)
            have ho36 := OKX4_p4 ho_fz_p0 efs36
            clear hP35 hS35
            exact q_vret hx hb hr hlocks hS36 dX4_stepOverWord_104 ⟨fs36, ho36, (hf_fz_p0.st efs36 (by decide)), hP36, za_t_sOWord⟩
          · have tc_33 := q_gtN c_33
            refine lv_iconst (v := 1) hx hb dX4_stepOverWord_93 (by decide) (lv_goto (tgt := 101) hx hb dX4_stepOverWord_94 (by decide) (qp_X4_4 hx hb hts i_X4 hown hK hP15 hDa za_t_sOWord hS15 0 rfl k_8 (OKX4_l ho_fz_p0) dX4_stepOverWord_101 (fun H37 lo37 fs37 efs37 (hP37 : va_P (dC, dI) vwCl (zW_t_sOWord p0 fs37 p0_text c_p0_text b_p0_text p0_words c_p0_words b_p0_words) H37) hS37 => ?_)))
            have ho37 := OKX4_p4 ho_fz_p0 efs37
            clear hP15 hS15
            exact q_vret hx hb hr hlocks hS37 dX4_stepOverWord_104 ⟨fs37, ho37, (hf_fz_p0.st efs37 (by decide)), hP37, za_t_sOWord⟩
  exact key5 1600 fs1 v_2 _ _ _ (by omega) ho1 (q_fr.rf.st efs1 (by decide)) (q_sn efs1 (by decide) fr_p0_0) (q_sn efs1 (by decide) fr_p0_1) fv_2 (by omega) hP1 hS1 (lv_sub hl [0] rfl)
def zo_t_sONumber : List Cond := [.code yX4_stepOverNumber cX4_stepOverNumber 2 none, .fieldLink RX4 34 "BowWalk$Reader" "number" "I", .fieldLink RX4 25 "BowWalk$Reader" "at" "I", .fieldLink RX4 21 "BowWalk$Reader" "length" "I", .fieldLink RX4 31 "BowWalk$Reader" "place" "I", .fieldLink RX4 28 "BowWalk$Reader" "token" "I", .fieldLink RX4 17 "BowWalk$Reader" "text" "[B", .methodLink RX4 102 yX4_isLetter, .static yX4_isLetter, .initialized RX4, .methodLink RX4 108 yX4_isDigit, .static yX4_isDigit]
def zw_t_sONumber : List Cond := zo_t_sONumber ++ (zw_t_isLetter ++ (zw_t_isDigit ++ (wsX40 ++ [])))
theorem gz_t_sONumber : zw_t_sONumber.all goodWord = true := p1_ga (by decide +kernel) (p1_ga gz_t_isLetter (p1_ga gz_t_isDigit (p1_ga gk_X4 p1_g0)))
theorem iz_t_sONumber : ∀ w ∈ zw_t_sONumber, w ∈ lw_tbl := p1_ia (p1_all [597, 313, 310, 309, 312, 311, 308, 580, 581, 105, 591, 592] (by decide +kernel)) (p1_ia iz_t_isLetter (p1_ia iz_t_isDigit (p1_ia ik_X4 p1_i0)))
def zW_t_sONumber (p0 : Nat) (f_p0 : List Value) (p0_text : Nat) (c_p0_text : ClassId) (b_p0_text : Nat → Int32) : va_W := [(p0, .inr (4, f_p0)), (p0_text, .inl (c_p0_text, 1600, .inl b_p0_text))]
def zT_t_sONumber (c_p0_text : ClassId) : List (ClassId × FieldType) := [(c_p0_text, .byte)]
def zA_t_sONumber (p0 : Nat) (p0_text : Nat) : List Nat := [p0, p0_text]
theorem za_t_sONumber {p0 : Nat} {f_p0 : List Value} {p0_text : Nat} {c_p0_text : ClassId} {b_p0_text : Nat → Int32} : (zW_t_sONumber p0 f_p0 p0_text c_p0_text b_p0_text).map Prod.fst = (zA_t_sONumber p0 p0_text) := rfl
def zG_t_sONumber (p0 : Nat) (f_p0 : List Value) (p0_text : Nat) (c_p0_text : ClassId) (b_p0_text : Nat → Int32) (X : va_W → Prop) : Prop := ∃ (y_p0 : List Value), OKX4 y_p0 ∧ q_fr [3, 4, 6] f_p0 y_p0 ∧ X (zW_t_sONumber p0 y_p0 p0_text c_p0_text b_p0_text)
theorem zm_t_sONumber {p0 : Nat} {f_p0 : List Value} {p0_text : Nat} {c_p0_text : ClassId} {b_p0_text : Nat → Int32} : ∀ X Y : va_W → Prop, (∀ w, X w → Y w) → zG_t_sONumber p0 f_p0 p0_text c_p0_text b_p0_text X → zG_t_sONumber p0 f_p0 p0_text c_p0_text b_p0_text Y := fun X Y h h1 => by obtain ⟨x0, x1, x2, hx⟩ := h1; exact ⟨x0, x1, x2, h _ hx⟩
set_option maxHeartbeats 4000000 in
set_option maxRecDepth 100000 in
theorem t_sONumber (l : Launch) (dC : Nat → ClassId) (dI : Nat → Nat → Nat) (sz : Nat) (p0 : Nat) (f_p0 : List Value) (p0_text : Nat) (c_p0_text : ClassId) (b_p0_text : Nat → Int32) (ho_p0 : OKX4 f_p0) (fr_p0_1 : q_rf f_p0 1 p0_text) : Met l yX4_stepOverNumber zw_t_sONumber ({ frames := 1, cells := 0, slots := 0, locals := 20 }) (va_Pc [.ref p0] (q_pre (dC, dI) (zW_t_sONumber p0 f_p0 p0_text c_p0_text b_p0_text) (zT_t_sONumber c_p0_text) q_E0 sz)) (q_Qv (dC, dI) (zG_t_sONumber p0 f_p0 p0_text c_p0_text b_p0_text) (zA_t_sONumber p0 p0_text) (va_A (zW_t_sONumber p0 f_p0 p0_text c_p0_text b_p0_text) sz)) 0 0 (va_A (zW_t_sONumber p0 f_p0 p0_text c_p0_text b_p0_text) sz) := by
  refine Met.ofW (cc := cX4_stepOverNumber) (maxL := 2) (ret := none) (by decide) rfl ?_
  intro p e s m args below meth c s₁ B hml hv
  obtain ⟨rfl, hsz, hP, hK, hD0, hE⟩ := hv
  have hx := B.exec
  have hb := B.bytes
  have hr := B.returns
  have hts := atoms_spec (ws := zw_t_sONumber) B.pre
  have hown : s.vm.findClass RX4 = some m.cls := findClass_of_methodNamed B.named
  have hlocks := B.notSynchronized
  subst hsz
  have hD := hD0.self (sz := s.heap.size)
  generalize hAe : va_A (zW_t_sONumber p0 f_p0 p0_text c_p0_text b_p0_text) s.heap.size = A at hD hE ⊢
  have hA : ∀ q : Nat, s.heap.size ≤ q → A q := fun q h => by rw [← hAe]; exact Or.inr h
  have hDa : q_DA A (zA_t_sONumber p0 p0_text) := q_DA.mk hD za_t_sONumber
  clear hAe hD0 hD
  have hS : va_S A s.heap s.heap [] := va_S.rf
  have m_0 : (.fieldLink RX4 34 "BowWalk$Reader" "number" "I" : Cond) ∈ zw_t_sONumber := List.mem_append_left _ (List.mem_of_getElem? (i := 1) rfl)
  have k_0 := hts _ m_0
  have m_1 : (.fieldLink RX4 25 "BowWalk$Reader" "at" "I" : Cond) ∈ zw_t_sONumber := List.mem_append_left _ (List.mem_of_getElem? (i := 2) rfl)
  have k_1 := hts _ m_1
  have m_2 : (.fieldLink RX4 21 "BowWalk$Reader" "length" "I" : Cond) ∈ zw_t_sONumber := List.mem_append_left _ (List.mem_of_getElem? (i := 3) rfl)
  have k_2 := hts _ m_2
  have m_3 : (.fieldLink RX4 31 "BowWalk$Reader" "place" "I" : Cond) ∈ zw_t_sONumber := List.mem_append_left _ (List.mem_of_getElem? (i := 4) rfl)
  have k_3 := hts _ m_3
  have m_4 : (.fieldLink RX4 28 "BowWalk$Reader" "token" "I" : Cond) ∈ zw_t_sONumber := List.mem_append_left _ (List.mem_of_getElem? (i := 5) rfl)
  have k_4 := hts _ m_4
  have m_5 : (.fieldLink RX4 17 "BowWalk$Reader" "text" "[B" : Cond) ∈ zw_t_sONumber := List.mem_append_left _ (List.mem_of_getElem? (i := 6) rfl)
  have k_5 := hts _ m_5
  have m_6 : (.methodLink RX4 102 yX4_isLetter : Cond) ∈ zw_t_sONumber := List.mem_append_left _ (List.mem_of_getElem? (i := 7) rfl)
  have k_6 := hts _ m_6
  have m_7 : (.static yX4_isLetter : Cond) ∈ zw_t_sONumber := List.mem_append_left _ (List.mem_of_getElem? (i := 8) rfl)
  have k_7 := hts _ m_7
  have m_8 : (.initialized RX4 : Cond) ∈ zw_t_sONumber := List.mem_append_left _ (List.mem_of_getElem? (i := 9) rfl)
  have k_8 := hts _ m_8
  have m_9 : (.methodLink RX4 108 yX4_isDigit : Cond) ∈ zw_t_sONumber := List.mem_append_left _ (List.mem_of_getElem? (i := 10) rfl)
  have k_9 := hts _ m_9
  have m_10 : (.static yX4_isDigit : Cond) ∈ zw_t_sONumber := List.mem_append_left _ (List.mem_of_getElem? (i := 11) rfl)
  have k_10 := hts _ m_10
  have g_t_isLetter : ∀ w ∈ zw_t_isLetter, w ∈ zw_t_sONumber := fun w h => List.mem_append_right _ (List.mem_append_left _ h)
  have g_t_isDigit : ∀ w ∈ zw_t_isDigit, w ∈ zw_t_sONumber := fun w h => List.mem_append_right _ (List.mem_append_right _ (List.mem_append_left _ h))
  have i_X4 : ∀ w ∈ u_ws RX4 TX4 11, w ∈ zw_t_sONumber := fun w h => List.mem_append_right _ (List.mem_append_right _ (List.mem_append_right _ (List.mem_append_left _ h)))
  have lt_0 : (0 : Int32).toInt = 0 := by decide
  have lt_1 : (1 : Int32).toInt = 1 := by decide
  have lt_3 : (3 : Int32).toInt = 3 := by decide
  have lt_4 : (4 : Int32).toInt = 4 := by decide
  have lt_10 : (10 : Int32).toInt = 10 := by decide
  have lt_48 : (48 : Int32).toInt = 48 := by decide
  have hl := lv_entry ([.ref p0]) (n := 2) (Nat.le_of_ble_eq_true rfl)
  rw [lg_entry_eq]
  generalize (lg_sl ([.ref p0]) ++ List.replicate (2 - (lg_sl ([.ref p0])).length) Slot.unset).toArray = ls at hl ⊢
  have hl : lv_has ls 2 [(0, .ref p0)] := hl
  refine lv_aload_n hx hb dX4_stepOverNumber_0 rfl (lv_at hl 0 rfl) (lv_iconst (v := 0) hx hb dX4_stepOverNumber_1 (by decide) (qp_X4_6 hx hb hts i_X4 hown hK hP hDa za_t_sONumber hS 0 rfl k_0 (OKX4_l ho_p0) dX4_stepOverNumber_2 (fun H1 lo1 fs1 efs1 (hP1 : va_P (dC, dI) vwCl (zW_t_sONumber p0 fs1 p0_text c_p0_text b_p0_text) H1) hS1 => ?_)))
  have ho1 := OKX4_p6 ho_p0 efs1
  clear hP hS
  obtain ⟨v_2, fv_2, tv_2⟩ := OKX4_g3 ho1
  have key5 : ∀ (fu5 : Nat) (fz_p0 : List Value) (att : Int32) (H : Heap) (locs : List Loc) (ls : Array Slot) (hfu5 : 1600 - att.toInt ≤ (fu5 : Int)) (ho_fz_p0 : OKX4 fz_p0) (hf_fz_p0 : q_fr [3, 4, 6] f_p0 fz_p0) (fr_fz_p0_1 : q_rf fz_p0 1 p0_text) (fv_fz_p0_3 : q_if fz_p0 3 att) (tatt : (0) ≤ att.toInt ∧ att.toInt ≤ 1600), va_P (dC, dI) vwCl (zW_t_sONumber p0 fz_p0 p0_text c_p0_text b_p0_text) H → va_S A s.heap H locs → lv_has ls 2 [(0, .ref p0)] → W p l e (headSpec zw_t_sONumber { frames := 1, cells := 0, slots := 0, locals := 20 }).room s m ([.ref p0] : List Value).toArray below meth c H locs 0 0 (MQ below (q_Qv (dC, dI) (zG_t_sONumber p0 f_p0 p0_text c_p0_text b_p0_text) (zA_t_sONumber p0 p0_text) A) ([.ref p0] : List Value).toArray s 0 0 A) (F0 m 5 ls []) := by
    intro fu5
    induction fu5 using Nat.strongRecOn with
    | ind fu5 ih5 =>
      intro fz_p0 att H3 lo3 ls hfu5 ho_fz_p0 hf_fz_p0 fr_fz_p0_1 fv_fz_p0_3 tatt hP3 hS3 hl
      refine lv_aload_n hx hb dX4_stepOverNumber_5 rfl (lv_at hl 0 rfl) (qg_X4_3 hx hb hts i_X4 hown hK hP3 0 rfl k_1 fv_fz_p0_3 dX4_stepOverNumber_6 (lv_aload_n hx hb dX4_stepOverNumber_9 rfl (lv_at hl 0 rfl) ?_))
      obtain ⟨v_4, fv_4, tv_4⟩ := OKX4_g2 ho_fz_p0
      refine qg_X4_2 hx hb hts i_X4 hown hK hP3 0 rfl k_2 fv_4 dX4_stepOverNumber_10 ?_
      refine lv_icmp_ge (tgt := 81) hx hb dX4_stepOverNumber_13 (by decide) (fun c_5 => ?_) (fun c_5 => ?_)
      · have tc_5 := q_ge c_5
        refine lv_aload_n hx hb dX4_stepOverNumber_81 rfl (lv_at hl 0 rfl) (qg_X4_3 hx hb hts i_X4 hown hK hP3 0 rfl k_1 fv_fz_p0_3 dX4_stepOverNumber_82 (lv_aload_n hx hb dX4_stepOverNumber_85 rfl (lv_at hl 0 rfl) (qg_X4_2 hx hb hts i_X4 hown hK hP3 0 rfl k_2 fv_4 dX4_stepOverNumber_86 ?_)))
        refine lv_icmp_ge (tgt := 111) hx hb dX4_stepOverNumber_89 (by decide) (fun c_6 => ?_) (fun c_6 => ?_)
        · have tc_6 := q_ge c_6
          refine lv_iconst (v := 0) hx hb dX4_stepOverNumber_111 (by decide) (lv_istore_n (lv' := [(1, .int 0), (0, .ref p0)]) hx hb dX4_stepOverNumber_112 rfl hl (by decide) rfl (fun ls hl => ?_))
          refine lv_aload_n hx hb dX4_stepOverNumber_113 rfl (lv_at hl 1 rfl) (lv_aload_n hx hb dX4_stepOverNumber_114 rfl (lv_at hl 1 rfl) (qg_X4_3 hx hb hts i_X4 hown hK hP3 0 rfl k_1 fv_fz_p0_3 dX4_stepOverNumber_115 (lv_aload_n hx hb dX4_stepOverNumber_118 rfl (lv_at hl 1 rfl) ?_)))
          obtain ⟨v_7, fv_7⟩ := OKX4_g5 ho_fz_p0
          refine qg_X4_5 hx hb hts i_X4 hown hK hP3 0 rfl k_3 fv_7 dX4_stepOverNumber_119 (lv_isub hx hb dX4_stepOverNumber_122 (lv_topi fun v_8 ev_8 => lv_iconst (v := 4) hx hb dX4_stepOverNumber_123 (by decide) ?_))
          refine lv_icmp_gt (tgt := 131) hx hb dX4_stepOverNumber_124 (by decide) (fun c_9 => ?_) (fun c_9 => ?_)
          · have tc_9 := q_gt c_9
            refine lv_iconst (v := 1) hx hb dX4_stepOverNumber_131 (by decide) (lv_goto (tgt := 136) hx hb dX4_stepOverNumber_132 (by decide) (qp_X4_4 hx hb hts i_X4 hown hK hP3 hDa za_t_sONumber hS3 0 rfl k_4 (OKX4_l ho_fz_p0) dX4_stepOverNumber_136 (fun H10 lo10 fs10 efs10 (hP10 : va_P (dC, dI) vwCl (zW_t_sONumber p0 fs10 p0_text c_p0_text b_p0_text) H10) hS10 => ?_)))
            have ho10 := OKX4_p4 ho_fz_p0 efs10
            clear hP3 hS3
            exact q_vret hx hb hr hlocks hS10 dX4_stepOverNumber_139 ⟨fs10, ho10, (hf_fz_p0.st efs10 (by decide)), hP10, za_t_sONumber⟩
          · have tc_9 := q_leN c_9
            refine lv_iload_n hx hb dX4_stepOverNumber_127 rfl (lv_at hl 0 rfl) (lv_if_eq (tgt := 135) hx hb dX4_stepOverNumber_128 (by decide) (fun c_11 => ?_) (fun c_11 => absurd c_11 (by decide)))
            refine lv_iconst (v := 3) hx hb dX4_stepOverNumber_135 (by decide) (qp_X4_4 hx hb hts i_X4 hown hK hP3 hDa za_t_sONumber hS3 0 rfl k_4 (OKX4_l ho_fz_p0) dX4_stepOverNumber_136 (fun H12 lo12 fs12 efs12 (hP12 : va_P (dC, dI) vwCl (zW_t_sONumber p0 fs12 p0_text c_p0_text b_p0_text) H12) hS12 => ?_))
            have ho12 := OKX4_p4 ho_fz_p0 efs12
            clear hP3 hS3
            exact q_vret hx hb hr hlocks hS12 dX4_stepOverNumber_139 ⟨fs12, ho12, (hf_fz_p0.st efs12 (by decide)), hP12, za_t_sONumber⟩
        · have tc_6 := q_ltN c_6
          refine lv_aload_n hx hb dX4_stepOverNumber_92 rfl (lv_at hl 0 rfl) (qg_X4_1 hx hb hts i_X4 hown hK hP3 0 rfl k_5 fr_fz_p0_1 dX4_stepOverNumber_93 (lv_aload_n hx hb dX4_stepOverNumber_96 rfl (lv_at hl 0 rfl) (qg_X4_3 hx hb hts i_X4 hown hK hP3 0 rfl k_1 fv_fz_p0_3 dX4_stepOverNumber_97 (q_bld hx hb hK hP3 1 0 rfl rfl (q_in (by omega) (by omega)) dX4_stepOverNumber_100 (fun v_13 ev_13 => ?_)))))
          refine q_cSi (As := [.int v_13]) (rest := []) q_w0 trivial hK hP3 hDa za_t_sONumber hS3 hA [] [] (by decide +kernel) ⟨hx, hb, hml, hown, hts⟩ (t_isLetter l dC dI H3.size v_13) rfl rfl (va_cwS 1 hts (p1_gS m_6 m_7 m_8 g_t_isLetter gz_t_isLetter) rfl rfl rfl (by decide +kernel) ⟨by decide, by decide⟩) zm_t_isLetter rfl hl.1 rfl (Nat.le_of_ble_eq_true rfl) dX4_stepOverNumber_101 ⟨by decide, by decide⟩ (fun r_14 H15 lo15 hG15 hS15 => ?_)
          obtain ⟨z_16, hQ15⟩ := hG15
          have hP15 : va_P (dC, dI) vwCl (zW_t_sONumber p0 fz_p0 p0_text c_p0_text b_p0_text) H15 := hQ15
          clear hQ15 hP3 hS3
          rcases z_16 with ⟨rfl, z_16⟩ | ⟨rfl, z_16⟩
          · refine lv_if_eq (tgt := 111) hx hb dX4_stepOverNumber_104 (by decide) (fun c_17 => absurd c_17 (by decide)) (fun c_17 => ?_)
            refine lv_iconst (v := 1) hx hb dX4_stepOverNumber_107 (by decide) (lv_goto (tgt := 112) hx hb dX4_stepOverNumber_108 (by decide) (lv_istore_n (lv' := [(1, .int 1), (0, .ref p0)]) hx hb dX4_stepOverNumber_112 rfl hl (by decide) rfl (fun ls hl => ?_)))
            refine lv_aload_n hx hb dX4_stepOverNumber_113 rfl (lv_at hl 1 rfl) (lv_aload_n hx hb dX4_stepOverNumber_114 rfl (lv_at hl 1 rfl) (qg_X4_3 hx hb hts i_X4 hown hK hP15 0 rfl k_1 fv_fz_p0_3 dX4_stepOverNumber_115 (lv_aload_n hx hb dX4_stepOverNumber_118 rfl (lv_at hl 1 rfl) ?_)))
            obtain ⟨v_18, fv_18⟩ := OKX4_g5 ho_fz_p0
            refine qg_X4_5 hx hb hts i_X4 hown hK hP15 0 rfl k_3 fv_18 dX4_stepOverNumber_119 (lv_isub hx hb dX4_stepOverNumber_122 (lv_topi fun v_19 ev_19 => lv_iconst (v := 4) hx hb dX4_stepOverNumber_123 (by decide) ?_))
            refine lv_icmp_gt (tgt := 131) hx hb dX4_stepOverNumber_124 (by decide) (fun c_20 => ?_) (fun c_20 => ?_)
            · have tc_20 := q_gt c_20
              refine lv_iconst (v := 1) hx hb dX4_stepOverNumber_131 (by decide) (lv_goto (tgt := 136) hx hb dX4_stepOverNumber_132 (by decide) (qp_X4_4 hx hb hts i_X4 hown hK hP15 hDa za_t_sONumber hS15 0 rfl k_4 (OKX4_l ho_fz_p0) dX4_stepOverNumber_136 (fun H21 lo21 fs21 efs21 (hP21 : va_P (dC, dI) vwCl (zW_t_sONumber p0 fs21 p0_text c_p0_text b_p0_text) H21) hS21 => ?_)))
              have ho21 := OKX4_p4 ho_fz_p0 efs21
              clear hP15 hS15
              exact q_vret hx hb hr hlocks hS21 dX4_stepOverNumber_139 ⟨fs21, ho21, (hf_fz_p0.st efs21 (by decide)), hP21, za_t_sONumber⟩
            · have tc_20 := q_leN c_20
              refine lv_iload_n hx hb dX4_stepOverNumber_127 rfl (lv_at hl 0 rfl) (lv_if_eq (tgt := 135) hx hb dX4_stepOverNumber_128 (by decide) (fun c_22 => absurd c_22 (by decide)) (fun c_22 => ?_))
              refine lv_iconst (v := 1) hx hb dX4_stepOverNumber_131 (by decide) (lv_goto (tgt := 136) hx hb dX4_stepOverNumber_132 (by decide) (qp_X4_4 hx hb hts i_X4 hown hK hP15 hDa za_t_sONumber hS15 0 rfl k_4 (OKX4_l ho_fz_p0) dX4_stepOverNumber_136 (fun H23 lo23 fs23 efs23 (hP23 : va_P (dC, dI) vwCl (zW_t_sONumber p0 fs23 p0_text c_p0_text b_p0_text) H23) hS23 => ?_)))
              have ho23 := OKX4_p4 ho_fz_p0 efs23
              clear hP15 hS15
              exact q_vret hx hb hr hlocks hS23 dX4_stepOverNumber_139 ⟨fs23, ho23, (hf_fz_p0.st efs23 (by decide)), hP23, za_t_sONumber⟩
          · refine lv_if_eq (tgt := 111) hx hb dX4_stepOverNumber_104 (by decide) (fun c_24 => ?_) (fun c_24 => absurd c_24 (by decide))
            refine lv_iconst (v := 0) hx hb dX4_stepOverNumber_111 (by decide) (lv_istore_n (lv' := [(1, .int 0), (0, .ref p0)]) hx hb dX4_stepOverNumber_112 rfl hl (by decide) rfl (fun ls hl => ?_))
            refine lv_aload_n hx hb dX4_stepOverNumber_113 rfl (lv_at hl 1 rfl) (lv_aload_n hx hb dX4_stepOverNumber_114 rfl (lv_at hl 1 rfl) (qg_X4_3 hx hb hts i_X4 hown hK hP15 0 rfl k_1 fv_fz_p0_3 dX4_stepOverNumber_115 (lv_aload_n hx hb dX4_stepOverNumber_118 rfl (lv_at hl 1 rfl) ?_)))
            obtain ⟨v_25, fv_25⟩ := OKX4_g5 ho_fz_p0
            refine qg_X4_5 hx hb hts i_X4 hown hK hP15 0 rfl k_3 fv_25 dX4_stepOverNumber_119 (lv_isub hx hb dX4_stepOverNumber_122 (lv_topi fun v_26 ev_26 => lv_iconst (v := 4) hx hb dX4_stepOverNumber_123 (by decide) ?_))
            refine lv_icmp_gt (tgt := 131) hx hb dX4_stepOverNumber_124 (by decide) (fun c_27 => ?_) (fun c_27 => ?_)
            · have tc_27 := q_gt c_27
              refine lv_iconst (v := 1) hx hb dX4_stepOverNumber_131 (by decide) (lv_goto (tgt := 136) hx hb dX4_stepOverNumber_132 (by decide) (qp_X4_4 hx hb hts i_X4 hown hK hP15 hDa za_t_sONumber hS15 0 rfl k_4 (OKX4_l ho_fz_p0) dX4_stepOverNumber_136 (fun H28 lo28 fs28 efs28 (hP28 : va_P (dC, dI) vwCl (zW_t_sONumber p0 fs28 p0_text c_p0_text b_p0_text) H28) hS28 => ?_)))
              have ho28 := OKX4_p4 ho_fz_p0 efs28
              clear hP15 hS15
              exact q_vret hx hb hr hlocks hS28 dX4_stepOverNumber_139 ⟨fs28, ho28, (hf_fz_p0.st efs28 (by decide)), hP28, za_t_sONumber⟩
            · have tc_27 := q_leN c_27
              refine lv_iload_n hx hb dX4_stepOverNumber_127 rfl (lv_at hl 0 rfl) (lv_if_eq (tgt := 135) hx hb dX4_stepOverNumber_128 (by decide) (fun c_29 => ?_) (fun c_29 => absurd c_29 (by decide)))
              refine lv_iconst (v := 3) hx hb dX4_stepOverNumber_135 (by decide) (qp_X4_4 hx hb hts i_X4 hown hK hP15 hDa za_t_sONumber hS15 0 rfl k_4 (OKX4_l ho_fz_p0) dX4_stepOverNumber_136 (fun H30 lo30 fs30 efs30 (hP30 : va_P (dC, dI) vwCl (zW_t_sONumber p0 fs30 p0_text c_p0_text b_p0_text) H30) hS30 => ?_))
              have ho30 := OKX4_p4 ho_fz_p0 efs30
              clear hP15 hS15
              exact q_vret hx hb hr hlocks hS30 dX4_stepOverNumber_139 ⟨fs30, ho30, (hf_fz_p0.st efs30 (by decide)), hP30, za_t_sONumber⟩
      · have tc_5 := q_ltN c_5
        refine lv_aload_n hx hb dX4_stepOverNumber_16 rfl (lv_at hl 0 rfl) (qg_X4_1 hx hb hts i_X4 hown hK hP3 0 rfl k_5 fr_fz_p0_1 dX4_stepOverNumber_17 (lv_aload_n hx hb dX4_stepOverNumber_20 rfl (lv_at hl 0 rfl) (qg_X4_3 hx hb hts i_X4 hown hK hP3 0 rfl k_1 fv_fz_p0_3 dX4_stepOverNumber_21 (q_bld hx hb hK hP3 1 0 rfl rfl (q_in (by omega) (by omega)) dX4_stepOverNumber_24 (fun v_31 ev_31 => ?_)))))
        refine q_cSi (As := [.int v_31]) (rest := []) q_w0 trivial hK hP3 hDa za_t_sONumber hS3 hA [] [] (by decide +kernel) ⟨hx, hb, hml, hown, hts⟩ (t_isDigit l dC dI H3.size v_31) rfl rfl (va_cwS 1 hts (p1_gS m_9 m_10 m_8 g_t_isDigit gz_t_isDigit) rfl rfl rfl (by decide +kernel) ⟨by decide, by decide⟩) zm_t_isDigit rfl hl.1 rfl (Nat.le_of_ble_eq_true rfl) dX4_stepOverNumber_25 ⟨by decide, by decide⟩ (fun r_32 H33 lo33 hG33 hS33 => ?_)
        obtain ⟨z_34, hQ33⟩ := hG33
        have hP33 : va_P (dC, dI) vwCl (zW_t_sONumber p0 fz_p0 p0_text c_p0_text b_p0_text) H33 := hQ33
        clear hQ33 hP3 hS3
        rcases z_34 with ⟨rfl, z_34⟩ | ⟨rfl, z_34⟩
        · refine lv_if_eq (tgt := 81) hx hb dX4_stepOverNumber_28 (by decide) (fun c_35 => absurd c_35 (by decide)) (fun c_35 => ?_)
          refine lv_aload_n hx hb dX4_stepOverNumber_31 rfl (lv_at hl 0 rfl) (qg_X4_3 hx hb hts i_X4 hown hK hP33 0 rfl k_1 fv_fz_p0_3 dX4_stepOverNumber_32 (lv_aload_n hx hb dX4_stepOverNumber_35 rfl (lv_at hl 0 rfl) ?_))
          obtain ⟨v_36, fv_36⟩ := OKX4_g5 ho_fz_p0
          refine qg_X4_5 hx hb hts i_X4 hown hK hP33 0 rfl k_3 fv_36 dX4_stepOverNumber_36 (lv_isub hx hb dX4_stepOverNumber_39 (lv_topi fun v_37 ev_37 => lv_iconst (v := 4) hx hb dX4_stepOverNumber_40 (by decide) ?_))
          refine lv_icmp_ge (tgt := 68) hx hb dX4_stepOverNumber_41 (by decide) (fun c_38 => ?_) (fun c_38 => ?_)
          · have tc_38 := q_ge c_38
            refine lv_aload_n hx hb dX4_stepOverNumber_68 rfl (lv_at hl 0 rfl) (lv_dup hx hb dX4_stepOverNumber_69 rfl (qg_X4_3 hx hb hts i_X4 hown hK hP33 0 rfl k_1 fv_fz_p0_3 dX4_stepOverNumber_70 (lv_iconst (v := 1) hx hb dX4_stepOverNumber_73 (by decide) (lv_iadd hx hb dX4_stepOverNumber_74 (lv_topi fun v_39 ev_39 => ?_)))))
            have tv_39 := q_add ev_39 (by omega) (by omega)
            refine qp_X4_3 hx hb hts i_X4 hown hK hP33 hDa za_t_sONumber hS33 0 rfl k_1 (OKX4_l ho_fz_p0) dX4_stepOverNumber_75 (fun H40 lo40 fs40 efs40 (hP40 : va_P (dC, dI) vwCl (zW_t_sONumber p0 fs40 p0_text c_p0_text b_p0_text) H40) hS40 => ?_)
            have ho40 := OKX4_p3 ho_fz_p0 efs40 ⟨by omega, by omega⟩
            clear hP33 hS33
            refine lv_goto (tgt := 5) hx hb dX4_stepOverNumber_78 (by decide) ?_
            exact ih5 (fu5 - 1) (by omega) fs40 v_39 _ _ _ (by omega) ho40 (hf_fz_p0.st efs40 (by decide)) (q_sn efs40 (by decide) fr_fz_p0_1) (q_sa efs40 (OKX4_l ho_fz_p0) (by decide)) (by omega) hP40 hS40 (lv_sub hl [0] rfl)
          · have tc_38 := q_ltN c_38
            refine lv_aload_n hx hb dX4_stepOverNumber_44 rfl (lv_at hl 0 rfl) (lv_bipush (v := 10) hx hb dX4_stepOverNumber_45 (by decide) (lv_aload_n hx hb dX4_stepOverNumber_47 rfl (lv_at hl 0 rfl) ?_))
            obtain ⟨v_41, fv_41⟩ := OKX4_g6 ho_fz_p0
            refine qg_X4_6 hx hb hts i_X4 hown hK hP33 0 rfl k_0 fv_41 dX4_stepOverNumber_48 (lv_imul hx hb dX4_stepOverNumber_51 (lv_topi fun v_42 ev_42 => lv_aload_n hx hb dX4_stepOverNumber_52 rfl (lv_at hl 0 rfl) (qg_X4_1 hx hb hts i_X4 hown hK hP33 0 rfl k_5 fr_fz_p0_1 dX4_stepOverNumber_53 (lv_aload_n hx hb dX4_stepOverNumber_56 rfl (lv_at hl 0 rfl) (qg_X4_3 hx hb hts i_X4 hown hK hP33 0 rfl k_1 fv_fz_p0_3 dX4_stepOverNumber_57 (q_bld hx hb hK hP33 1 0 rfl rfl (q_in (by omega) (by omega)) dX4_stepOverNumber_60 (fun v_43 ev_43 => ?_)))))))
            refine lv_iadd hx hb dX4_stepOverNumber_61 (lv_topi fun v_44 ev_44 => lv_bipush (v := 48) hx hb dX4_stepOverNumber_62 (by decide) (lv_isub hx hb dX4_stepOverNumber_64 (lv_topi fun v_45 ev_45 => qp_X4_6 hx hb hts i_X4 hown hK hP33 hDa za_t_sONumber hS33 0 rfl k_0 (OKX4_l ho_fz_p0) dX4_stepOverNumber_65 (fun H46 lo46 fs46 efs46 (hP46 : va_P (dC, dI) vwCl (zW_t_sONumber p0 fs46 p0_text c_p0_text b_p0_text) H46) hS46 => ?_))))
            have ho46 := OKX4_p6 ho_fz_p0 efs46
            clear hP33 hS33
            refine lv_aload_n hx hb dX4_stepOverNumber_68 rfl (lv_at hl 0 rfl) (lv_dup hx hb dX4_stepOverNumber_69 rfl (qg_X4_3 hx hb hts i_X4 hown hK hP46 0 rfl k_1 (q_sn efs46 (by decide) fv_fz_p0_3) dX4_stepOverNumber_70 (lv_iconst (v := 1) hx hb dX4_stepOverNumber_73 (by decide) (lv_iadd hx hb dX4_stepOverNumber_74 (lv_topi fun v_47 ev_47 => ?_)))))
            have tv_47 := q_add ev_47 (by omega) (by omega)
            refine qp_X4_3 hx hb hts i_X4 hown hK hP46 hDa za_t_sONumber hS46 0 rfl k_1 (OKX4_l ho46) dX4_stepOverNumber_75 (fun H48 lo48 fs48 efs48 (hP48 : va_P (dC, dI) vwCl (zW_t_sONumber p0 fs48 p0_text c_p0_text b_p0_text) H48) hS48 => ?_)
            have ho48 := OKX4_p3 ho46 efs48 ⟨by omega, by omega⟩
            clear hP46 hS46
            refine lv_goto (tgt := 5) hx hb dX4_stepOverNumber_78 (by decide) ?_
            exact ih5 (fu5 - 1) (by omega) fs48 v_47 _ _ _ (by omega) ho48 ((hf_fz_p0.st efs46 (by decide)).st efs48 (by decide)) (q_sn efs48 (by decide) (q_sn efs46 (by decide) fr_fz_p0_1)) (q_sa efs48 (OKX4_l ho46) (by decide)) (by omega) hP48 hS48 (lv_sub hl [0] rfl)
        · refine lv_if_eq (tgt := 81) hx hb dX4_stepOverNumber_28 (by decide) (fun c_49 => ?_) (fun c_49 => absurd c_49 (by decide))
          refine lv_aload_n hx hb dX4_stepOverNumber_81 rfl (lv_at hl 0 rfl) (qg_X4_3 hx hb hts i_X4 hown hK hP33 0 rfl k_1 fv_fz_p0_3 dX4_stepOverNumber_82 (lv_aload_n hx hb dX4_stepOverNumber_85 rfl (lv_at hl 0 rfl) (qg_X4_2 hx hb hts i_X4 hown hK hP33 0 rfl k_2 fv_4 dX4_stepOverNumber_86 ?_)))
          refine lv_icmp_ge (tgt := 111) hx hb dX4_stepOverNumber_89 (by decide) (fun c_50 => ?_) (fun c_50 => ?_)
          · have tc_50 := q_ge c_50
            refine lv_iconst (v := 0) hx hb dX4_stepOverNumber_111 (by decide) (lv_istore_n (lv' := [(1, .int 0), (0, .ref p0)]) hx hb dX4_stepOverNumber_112 rfl hl (by decide) rfl (fun ls hl => ?_))
            refine lv_aload_n hx hb dX4_stepOverNumber_113 rfl (lv_at hl 1 rfl) (lv_aload_n hx hb dX4_stepOverNumber_114 rfl (lv_at hl 1 rfl) (qg_X4_3 hx hb hts i_X4 hown hK hP33 0 rfl k_1 fv_fz_p0_3 dX4_stepOverNumber_115 (lv_aload_n hx hb dX4_stepOverNumber_118 rfl (lv_at hl 1 rfl) ?_)))
            obtain ⟨v_51, fv_51⟩ := OKX4_g5 ho_fz_p0
            refine qg_X4_5 hx hb hts i_X4 hown hK hP33 0 rfl k_3 fv_51 dX4_stepOverNumber_119 (lv_isub hx hb dX4_stepOverNumber_122 (lv_topi fun v_52 ev_52 => lv_iconst (v := 4) hx hb dX4_stepOverNumber_123 (by decide) ?_))
            refine lv_icmp_gt (tgt := 131) hx hb dX4_stepOverNumber_124 (by decide) (fun c_53 => ?_) (fun c_53 => ?_)
            · have tc_53 := q_gt c_53
              refine lv_iconst (v := 1) hx hb dX4_stepOverNumber_131 (by decide) (lv_goto (tgt := 136) hx hb dX4_stepOverNumber_132 (by decide) (qp_X4_4 hx hb hts i_X4 hown hK hP33 hDa za_t_sONumber hS33 0 rfl k_4 (OKX4_l ho_fz_p0) dX4_stepOverNumber_136 (fun H54 lo54 fs54 efs54 (hP54 : va_P (dC, dI) vwCl (zW_t_sONumber p0 fs54 p0_text c_p0_text b_p0_text) H54) hS54 => ?_)))
              have ho54 := OKX4_p4 ho_fz_p0 efs54
              clear hP33 hS33
              exact q_vret hx hb hr hlocks hS54 dX4_stepOverNumber_139 ⟨fs54, ho54, (hf_fz_p0.st efs54 (by decide)), hP54, za_t_sONumber⟩
            · have tc_53 := q_leN c_53
              refine lv_iload_n hx hb dX4_stepOverNumber_127 rfl (lv_at hl 0 rfl) (lv_if_eq (tgt := 135) hx hb dX4_stepOverNumber_128 (by decide) (fun c_55 => ?_) (fun c_55 => absurd c_55 (by decide)))
              refine lv_iconst (v := 3) hx hb dX4_stepOverNumber_135 (by decide) (qp_X4_4 hx hb hts i_X4 hown hK hP33 hDa za_t_sONumber hS33 0 rfl k_4 (OKX4_l ho_fz_p0) dX4_stepOverNumber_136 (fun H56 lo56 fs56 efs56 (hP56 : va_P (dC, dI) vwCl (zW_t_sONumber p0 fs56 p0_text c_p0_text b_p0_text) H56) hS56 => ?_))
              have ho56 := OKX4_p4 ho_fz_p0 efs56
              clear hP33 hS33
              exact q_vret hx hb hr hlocks hS56 dX4_stepOverNumber_139 ⟨fs56, ho56, (hf_fz_p0.st efs56 (by decide)), hP56, za_t_sONumber⟩
          · have tc_50 := q_ltN c_50
            refine lv_aload_n hx hb dX4_stepOverNumber_92 rfl (lv_at hl 0 rfl) (qg_X4_1 hx hb hts i_X4 hown hK hP33 0 rfl k_5 fr_fz_p0_1 dX4_stepOverNumber_93 (lv_aload_n hx hb dX4_stepOverNumber_96 rfl (lv_at hl 0 rfl) (qg_X4_3 hx hb hts i_X4 hown hK hP33 0 rfl k_1 fv_fz_p0_3 dX4_stepOverNumber_97 (q_bld hx hb hK hP33 1 0 rfl rfl (q_in (by omega) (by omega)) dX4_stepOverNumber_100 (fun v_57 ev_57 => ?_)))))
            refine q_cSi (As := [.int v_57]) (rest := []) q_w0 trivial hK hP33 hDa za_t_sONumber hS33 hA [] [] (by decide +kernel) ⟨hx, hb, hml, hown, hts⟩ (t_isLetter l dC dI H33.size v_57) rfl rfl (va_cwS 1 hts (p1_gS m_6 m_7 m_8 g_t_isLetter gz_t_isLetter) rfl rfl rfl (by decide +kernel) ⟨by decide, by decide⟩) zm_t_isLetter rfl hl.1 rfl (Nat.le_of_ble_eq_true rfl) dX4_stepOverNumber_101 ⟨by decide, by decide⟩ (fun r_58 H59 lo59 hG59 hS59 => ?_)
            obtain ⟨z_60, hQ59⟩ := hG59
            have hP59 : va_P (dC, dI) vwCl (zW_t_sONumber p0 fz_p0 p0_text c_p0_text b_p0_text) H59 := hQ59
            clear hQ59 hP33 hS33
            rcases z_60 with ⟨rfl, z_60⟩ | ⟨rfl, z_60⟩
            · refine lv_if_eq (tgt := 111) hx hb dX4_stepOverNumber_104 (by decide) (fun c_61 => absurd c_61 (by decide)) (fun c_61 => ?_)
              refine lv_iconst (v := 1) hx hb dX4_stepOverNumber_107 (by decide) (lv_goto (tgt := 112) hx hb dX4_stepOverNumber_108 (by decide) (lv_istore_n (lv' := [(1, .int 1), (0, .ref p0)]) hx hb dX4_stepOverNumber_112 rfl hl (by decide) rfl (fun ls hl => ?_)))
              refine lv_aload_n hx hb dX4_stepOverNumber_113 rfl (lv_at hl 1 rfl) (lv_aload_n hx hb dX4_stepOverNumber_114 rfl (lv_at hl 1 rfl) (qg_X4_3 hx hb hts i_X4 hown hK hP59 0 rfl k_1 fv_fz_p0_3 dX4_stepOverNumber_115 (lv_aload_n hx hb dX4_stepOverNumber_118 rfl (lv_at hl 1 rfl) ?_)))
              obtain ⟨v_62, fv_62⟩ := OKX4_g5 ho_fz_p0
              refine qg_X4_5 hx hb hts i_X4 hown hK hP59 0 rfl k_3 fv_62 dX4_stepOverNumber_119 (lv_isub hx hb dX4_stepOverNumber_122 (lv_topi fun v_63 ev_63 => lv_iconst (v := 4) hx hb dX4_stepOverNumber_123 (by decide) ?_))
              refine lv_icmp_gt (tgt := 131) hx hb dX4_stepOverNumber_124 (by decide) (fun c_64 => ?_) (fun c_64 => ?_)
              · have tc_64 := q_gt c_64
                refine lv_iconst (v := 1) hx hb dX4_stepOverNumber_131 (by decide) (lv_goto (tgt := 136) hx hb dX4_stepOverNumber_132 (by decide) (qp_X4_4 hx hb hts i_X4 hown hK hP59 hDa za_t_sONumber hS59 0 rfl k_4 (OKX4_l ho_fz_p0) dX4_stepOverNumber_136 (fun H65 lo65 fs65 efs65 (hP65 : va_P (dC, dI) vwCl (zW_t_sONumber p0 fs65 p0_text c_p0_text b_p0_text) H65) hS65 => ?_)))
                have ho65 := OKX4_p4 ho_fz_p0 efs65
                clear hP59 hS59
                exact q_vret hx hb hr hlocks hS65 dX4_stepOverNumber_139 ⟨fs65, ho65, (hf_fz_p0.st efs65 (by decide)), hP65, za_t_sONumber⟩
              · have tc_64 := q_leN c_64
                refine lv_iload_n hx hb dX4_stepOverNumber_127 rfl (lv_at hl 0 rfl) (lv_if_eq (tgt := 135) hx hb dX4_stepOverNumber_128 (by decide) (fun c_66 => absurd c_66 (by decide)) (fun c_66 => ?_))
                refine lv_iconst (v := 1) hx hb dX4_stepOverNumber_131 (by decide) (lv_goto (tgt := 136) hx hb dX4_stepOverNumber_132 (by decide) (qp_X4_4 hx hb hts i_X4 hown hK hP59 hDa za_t_sONumber hS59 0 rfl k_4 (OKX4_l ho_fz_p0) dX4_stepOverNumber_136 (fun H67 lo67 fs67 efs67 (hP67 : va_P (dC, dI) vwCl (zW_t_sONumber p0 fs67 p0_text c_p0_text b_p0_text) H67) hS67 => ?_)))
                have ho67 := OKX4_p4 ho_fz_p0 efs67
                clear hP59 hS59
                exact q_vret hx hb hr hlocks hS67 dX4_stepOverNumber_139 ⟨fs67, ho67, (hf_fz_p0.st efs67 (by decide)), hP67, za_t_sONumber⟩
            · refine lv_if_eq (tgt := 111) hx hb dX4_stepOverNumber_104 (by decide) (fun c_68 => ?_) (fun c_68 => absurd c_68 (by decide))
              refine lv_iconst (v := 0) hx hb dX4_stepOverNumber_111 (by decide) (lv_istore_n (lv' := [(1, .int 0), (0, .ref p0)]) hx hb dX4_stepOverNumber_112 rfl hl (by decide) rfl (fun ls hl => ?_))
              refine lv_aload_n hx hb dX4_stepOverNumber_113 rfl (lv_at hl 1 rfl) (lv_aload_n hx hb dX4_stepOverNumber_114 rfl (lv_at hl 1 rfl) (qg_X4_3 hx hb hts i_X4 hown hK hP59 0 rfl k_1 fv_fz_p0_3 dX4_stepOverNumber_115 (lv_aload_n hx hb dX4_stepOverNumber_118 rfl (lv_at hl 1 rfl) ?_)))
              obtain ⟨v_69, fv_69⟩ := OKX4_g5 ho_fz_p0
              refine qg_X4_5 hx hb hts i_X4 hown hK hP59 0 rfl k_3 fv_69 dX4_stepOverNumber_119 (lv_isub hx hb dX4_stepOverNumber_122 (lv_topi fun v_70 ev_70 => lv_iconst (v := 4) hx hb dX4_stepOverNumber_123 (by decide) ?_))
              refine lv_icmp_gt (tgt := 131) hx hb dX4_stepOverNumber_124 (by decide) (fun c_71 => ?_) (fun c_71 => ?_)
              · have tc_71 := q_gt c_71
                refine lv_iconst (v := 1) hx hb dX4_stepOverNumber_131 (by decide) (lv_goto (tgt := 136) hx hb dX4_stepOverNumber_132 (by decide) (qp_X4_4 hx hb hts i_X4 hown hK hP59 hDa za_t_sONumber hS59 0 rfl k_4 (OKX4_l ho_fz_p0) dX4_stepOverNumber_136 (fun H72 lo72 fs72 efs72 (hP72 : va_P (dC, dI) vwCl (zW_t_sONumber p0 fs72 p0_text c_p0_text b_p0_text) H72) hS72 => ?_)))
                have ho72 := OKX4_p4 ho_fz_p0 efs72
                clear hP59 hS59
                exact q_vret hx hb hr hlocks hS72 dX4_stepOverNumber_139 ⟨fs72, ho72, (hf_fz_p0.st efs72 (by decide)), hP72, za_t_sONumber⟩
              · have tc_71 := q_leN c_71
                refine lv_iload_n hx hb dX4_stepOverNumber_127 rfl (lv_at hl 0 rfl) (lv_if_eq (tgt := 135) hx hb dX4_stepOverNumber_128 (by decide) (fun c_73 => ?_) (fun c_73 => absurd c_73 (by decide)))
                refine lv_iconst (v := 3) hx hb dX4_stepOverNumber_135 (by decide) (qp_X4_4 hx hb hts i_X4 hown hK hP59 hDa za_t_sONumber hS59 0 rfl k_4 (OKX4_l ho_fz_p0) dX4_stepOverNumber_136 (fun H74 lo74 fs74 efs74 (hP74 : va_P (dC, dI) vwCl (zW_t_sONumber p0 fs74 p0_text c_p0_text b_p0_text) H74) hS74 => ?_))
                have ho74 := OKX4_p4 ho_fz_p0 efs74
                clear hP59 hS59
                exact q_vret hx hb hr hlocks hS74 dX4_stepOverNumber_139 ⟨fs74, ho74, (hf_fz_p0.st efs74 (by decide)), hP74, za_t_sONumber⟩
  exact key5 1600 fs1 v_2 _ _ _ (by omega) ho1 (q_fr.rf.st efs1 (by decide)) (q_sn efs1 (by decide) fr_p0_1) fv_2 (by omega) hP1 hS1 (lv_sub hl [0] rfl)
def zo_t_step : List Cond := [.code yX4_step cX4_step 1 none, .fieldLink RX4 25 "BowWalk$Reader" "at" "I", .fieldLink RX4 21 "BowWalk$Reader" "length" "I", .fieldLink RX4 31 "BowWalk$Reader" "place" "I", .fieldLink RX4 17 "BowWalk$Reader" "text" "[B", .methodLink RX4 102 yX4_isLetter, .static yX4_isLetter, .initialized RX4, .methodLink RX4 105 yX4_stepOverWord, .instanceMethod yX4_stepOverWord, .selects RX4 yX4_stepOverWord yX4_stepOverWord, .methodLink RX4 108 yX4_isDigit, .static yX4_isDigit, .methodLink RX4 111 yX4_stepOverNumber, .instanceMethod yX4_stepOverNumber, .selects RX4 yX4_stepOverNumber yX4_stepOverNumber, .methodLink RX4 114 yX4_isSign, .static yX4_isSign, .fieldLink RX4 28 "BowWalk$Reader" "token" "I", .methodLink RX4 98 yX4_isBlank, .static yX4_isBlank]
def zw_t_step : List Cond := zo_t_step ++ (zw_t_isLetter ++ (zw_t_sOWord ++ (zw_t_isDigit ++ (zw_t_sONumber ++ (zw_t_isSign ++ (zw_t_isBlank ++ (wsX40 ++ [])))))))
theorem gz_t_step : zw_t_step.all goodWord = true := p1_ga (by decide +kernel) (p1_ga gz_t_isLetter (p1_ga gz_t_sOWord (p1_ga gz_t_isDigit (p1_ga gz_t_sONumber (p1_ga gz_t_isSign (p1_ga gz_t_isBlank (p1_ga gk_X4 p1_g0)))))))
theorem iz_t_step : ∀ w ∈ zw_t_step, w ∈ lw_tbl := p1_ia (p1_all [576, 310, 309, 312, 308, 580, 581, 105, 583, 585, 2, 591, 592, 594, 596, 4, 598, 599, 311, 577, 578] (by decide +kernel)) (p1_ia iz_t_isLetter (p1_ia iz_t_sOWord (p1_ia iz_t_isDigit (p1_ia iz_t_sONumber (p1_ia iz_t_isSign (p1_ia iz_t_isBlank (p1_ia ik_X4 p1_i0)))))))
def zW_t_step (p0 : Nat) (f_p0 : List Value) (p0_text : Nat) (c_p0_text : ClassId) (b_p0_text : Nat → Int32) (p0_words : Nat) (c_p0_words : ClassId) (b_p0_words : Nat → Int64) : va_W := [(p0, .inr (4, f_p0)), (p0_text, .inl (c_p0_text, 1600, .inl b_p0_text)), (p0_words, .inl (c_p0_words, 22, .inr (.inl b_p0_words)))]
def zT_t_step (c_p0_text : ClassId) (c_p0_words : ClassId) : List (ClassId × FieldType) := [(c_p0_text, .byte), (c_p0_words, .long)]
def zA_t_step (p0 : Nat) (p0_text : Nat) (p0_words : Nat) : List Nat := [p0, p0_text, p0_words]
theorem za_t_step {p0 : Nat} {f_p0 : List Value} {p0_text : Nat} {c_p0_text : ClassId} {b_p0_text : Nat → Int32} {p0_words : Nat} {c_p0_words : ClassId} {b_p0_words : Nat → Int64} : (zW_t_step p0 f_p0 p0_text c_p0_text b_p0_text p0_words c_p0_words b_p0_words).map Prod.fst = (zA_t_step p0 p0_text p0_words) := rfl
def zG_t_step (p0 : Nat) (f_p0 : List Value) (p0_text : Nat) (c_p0_text : ClassId) (b_p0_text : Nat → Int32) (p0_words : Nat) (c_p0_words : ClassId) (b_p0_words : Nat → Int64) (X : va_W → Prop) : Prop := ∃ (y_p0 : List Value), OKX4 y_p0 ∧ q_fr [3, 4, 5, 6, 7] f_p0 y_p0 ∧ X (zW_t_step p0 y_p0 p0_text c_p0_text b_p0_text p0_words c_p0_words b_p0_words)
theorem zm_t_step {p0 : Nat} {f_p0 : List Value} {p0_text : Nat} {c_p0_text : ClassId} {b_p0_text : Nat → Int32} {p0_words : Nat} {c_p0_words : ClassId} {b_p0_words : Nat → Int64} : ∀ X Y : va_W → Prop, (∀ w, X w → Y w) → zG_t_step p0 f_p0 p0_text c_p0_text b_p0_text p0_words c_p0_words b_p0_words X → zG_t_step p0 f_p0 p0_text c_p0_text b_p0_text p0_words c_p0_words b_p0_words Y := fun X Y h h1 => by obtain ⟨x0, x1, x2, hx⟩ := h1; exact ⟨x0, x1, x2, h _ hx⟩
set_option maxHeartbeats 4000000 in
set_option maxRecDepth 100000 in
theorem t_step (l : Launch) (dC : Nat → ClassId) (dI : Nat → Nat → Nat) (sz : Nat) (p0 : Nat) (f_p0 : List Value) (p0_text : Nat) (c_p0_text : ClassId) (b_p0_text : Nat → Int32) (p0_words : Nat) (c_p0_words : ClassId) (b_p0_words : Nat → Int64) (ho_p0 : OKX4 f_p0) (fr_p0_0 : q_rf f_p0 0 p0_words) (fr_p0_1 : q_rf f_p0 1 p0_text) : Met l yX4_step zw_t_step ({ frames := 5, cells := 0, slots := 0, locals := 106 }) (va_Pc [.ref p0] (q_pre (dC, dI) (zW_t_step p0 f_p0 p0_text c_p0_text b_p0_text p0_words c_p0_words b_p0_words) (zT_t_step c_p0_text c_p0_words) q_ex sz)) (q_Qv (dC, dI) (zG_t_step p0 f_p0 p0_text c_p0_text b_p0_text p0_words c_p0_words b_p0_words) (zA_t_step p0 p0_text p0_words) (va_A (zW_t_step p0 f_p0 p0_text c_p0_text b_p0_text p0_words c_p0_words b_p0_words) sz)) 0 0 (va_A (zW_t_step p0 f_p0 p0_text c_p0_text b_p0_text p0_words c_p0_words b_p0_words) sz) := by
  refine Met.ofW (cc := cX4_step) (maxL := 1) (ret := none) (by decide) rfl ?_
  intro p e s m args below meth c s₁ B hml hv
  obtain ⟨rfl, hsz, hP, hK, hD0, hE⟩ := hv
  have hx := B.exec
  have hb := B.bytes
  have hr := B.returns
  have hts := atoms_spec (ws := zw_t_step) B.pre
  have hown : s.vm.findClass RX4 = some m.cls := findClass_of_methodNamed B.named
  have hlocks := B.notSynchronized
  subst hsz
  have hD := hD0.self (sz := s.heap.size)
  generalize hAe : va_A (zW_t_step p0 f_p0 p0_text c_p0_text b_p0_text p0_words c_p0_words b_p0_words) s.heap.size = A at hD hE ⊢
  have hA : ∀ q : Nat, s.heap.size ≤ q → A q := fun q h => by rw [← hAe]; exact Or.inr h
  have hDa : q_DA A (zA_t_step p0 p0_text p0_words) := q_DA.mk hD za_t_step
  clear hAe hD0 hD
  have hS : va_S A s.heap s.heap [] := va_S.rf
  have m_0 : (.fieldLink RX4 25 "BowWalk$Reader" "at" "I" : Cond) ∈ zw_t_step := List.mem_append_left _ (List.mem_of_getElem? (i := 1) rfl)
  have k_0 := hts _ m_0
  have m_1 : (.fieldLink RX4 21 "BowWalk$Reader" "length" "I" : Cond) ∈ zw_t_step := List.mem_append_left _ (List.mem_of_getElem? (i := 2) rfl)
  have k_1 := hts _ m_1
  have m_2 : (.fieldLink RX4 31 "BowWalk$Reader" "place" "I" : Cond) ∈ zw_t_step := List.mem_append_left _ (List.mem_of_getElem? (i := 3) rfl)
  have k_2 := hts _ m_2
  have m_3 : (.fieldLink RX4 17 "BowWalk$Reader" "text" "[B" : Cond) ∈ zw_t_step := List.mem_append_left _ (List.mem_of_getElem? (i := 4) rfl)
  have k_3 := hts _ m_3
  have m_4 : (.methodLink RX4 102 yX4_isLetter : Cond) ∈ zw_t_step := List.mem_append_left _ (List.mem_of_getElem? (i := 5) rfl)
  have k_4 := hts _ m_4
  have m_5 : (.static yX4_isLetter : Cond) ∈ zw_t_step := List.mem_append_left _ (List.mem_of_getElem? (i := 6) rfl)
  have k_5 := hts _ m_5
  have m_6 : (.initialized RX4 : Cond) ∈ zw_t_step := List.mem_append_left _ (List.mem_of_getElem? (i := 7) rfl)
  have k_6 := hts _ m_6
  have m_7 : (.methodLink RX4 105 yX4_stepOverWord : Cond) ∈ zw_t_step := List.mem_append_left _ (List.mem_of_getElem? (i := 8) rfl)
  have k_7 := hts _ m_7
  have m_8 : (.instanceMethod yX4_stepOverWord : Cond) ∈ zw_t_step := List.mem_append_left _ (List.mem_of_getElem? (i := 9) rfl)
  have k_8 := hts _ m_8
  have m_9 : (.selects RX4 yX4_stepOverWord yX4_stepOverWord : Cond) ∈ zw_t_step := List.mem_append_left _ (List.mem_of_getElem? (i := 10) rfl)
  have k_9 := hts _ m_9
  have m_10 : (.methodLink RX4 108 yX4_isDigit : Cond) ∈ zw_t_step := List.mem_append_left _ (List.mem_of_getElem? (i := 11) rfl)
  have k_10 := hts _ m_10
  have m_11 : (.static yX4_isDigit : Cond) ∈ zw_t_step := List.mem_append_left _ (List.mem_of_getElem? (i := 12) rfl)
  have k_11 := hts _ m_11
  have m_12 : (.methodLink RX4 111 yX4_stepOverNumber : Cond) ∈ zw_t_step := List.mem_append_left _ (List.mem_of_getElem? (i := 13) rfl)
  have k_12 := hts _ m_12
  have m_13 : (.instanceMethod yX4_stepOverNumber : Cond) ∈ zw_t_step := List.mem_append_left _ (List.mem_of_getElem? (i := 14) rfl)
  have k_13 := hts _ m_13
  have m_14 : (.selects RX4 yX4_stepOverNumber yX4_stepOverNumber : Cond) ∈ zw_t_step := List.mem_append_left _ (List.mem_of_getElem? (i := 15) rfl)
  have k_14 := hts _ m_14
  have m_15 : (.methodLink RX4 114 yX4_isSign : Cond) ∈ zw_t_step := List.mem_append_left _ (List.mem_of_getElem? (i := 16) rfl)
  have k_15 := hts _ m_15
  have m_16 : (.static yX4_isSign : Cond) ∈ zw_t_step := List.mem_append_left _ (List.mem_of_getElem? (i := 17) rfl)
  have k_16 := hts _ m_16
  have m_17 : (.fieldLink RX4 28 "BowWalk$Reader" "token" "I" : Cond) ∈ zw_t_step := List.mem_append_left _ (List.mem_of_getElem? (i := 18) rfl)
  have k_17 := hts _ m_17
  have m_18 : (.methodLink RX4 98 yX4_isBlank : Cond) ∈ zw_t_step := List.mem_append_left _ (List.mem_of_getElem? (i := 19) rfl)
  have k_18 := hts _ m_18
  have m_19 : (.static yX4_isBlank : Cond) ∈ zw_t_step := List.mem_append_left _ (List.mem_of_getElem? (i := 20) rfl)
  have k_19 := hts _ m_19
  have g_t_isLetter : ∀ w ∈ zw_t_isLetter, w ∈ zw_t_step := fun w h => List.mem_append_right _ (List.mem_append_left _ h)
  have g_t_sOWord : ∀ w ∈ zw_t_sOWord, w ∈ zw_t_step := fun w h => List.mem_append_right _ (List.mem_append_right _ (List.mem_append_left _ h))
  have g_t_isDigit : ∀ w ∈ zw_t_isDigit, w ∈ zw_t_step := fun w h => List.mem_append_right _ (List.mem_append_right _ (List.mem_append_right _ (List.mem_append_left _ h)))
  have g_t_sONumber : ∀ w ∈ zw_t_sONumber, w ∈ zw_t_step := fun w h => List.mem_append_right _ (List.mem_append_right _ (List.mem_append_right _ (List.mem_append_right _ (List.mem_append_left _ h))))
  have g_t_isSign : ∀ w ∈ zw_t_isSign, w ∈ zw_t_step := fun w h => List.mem_append_right _ (List.mem_append_right _ (List.mem_append_right _ (List.mem_append_right _ (List.mem_append_right _ (List.mem_append_left _ h)))))
  have g_t_isBlank : ∀ w ∈ zw_t_isBlank, w ∈ zw_t_step := fun w h => List.mem_append_right _ (List.mem_append_right _ (List.mem_append_right _ (List.mem_append_right _ (List.mem_append_right _ (List.mem_append_right _ (List.mem_append_left _ h))))))
  have i_X4 : ∀ w ∈ u_ws RX4 TX4 11, w ∈ zw_t_step := fun w h => List.mem_append_right _ (List.mem_append_right _ (List.mem_append_right _ (List.mem_append_right _ (List.mem_append_right _ (List.mem_append_right _ (List.mem_append_right _ (List.mem_append_left _ h)))))))
  have lt_0 : (0 : Int32).toInt = 0 := by decide
  have lt_1 : (1 : Int32).toInt = 1 := by decide
  have hl := lv_entry ([.ref p0]) (n := 1) (Nat.le_of_ble_eq_true rfl)
  rw [lg_entry_eq]
  generalize (lg_sl ([.ref p0]) ++ List.replicate (1 - (lg_sl ([.ref p0])).length) Slot.unset).toArray = ls at hl ⊢
  have hl : lv_has ls 1 [(0, .ref p0)] := hl
  obtain ⟨v_1, fv_1, tv_1⟩ := OKX4_g3 ho_p0
  have key0 : ∀ (fu0 : Nat) (fz_p0 : List Value) (att : Int32) (H : Heap) (locs : List Loc) (ls : Array Slot) (hfu0 : 1600 - att.toInt ≤ (fu0 : Int)) (ho_fz_p0 : OKX4 fz_p0) (hf_fz_p0 : q_fr [3, 4, 5, 6, 7] f_p0 fz_p0) (fr_fz_p0_0 : q_rf fz_p0 0 p0_words) (fr_fz_p0_1 : q_rf fz_p0 1 p0_text) (fv_fz_p0_3 : q_if fz_p0 3 att) (tatt : (0) ≤ att.toInt ∧ att.toInt ≤ 1600), va_P (dC, dI) vwCl (zW_t_step p0 fz_p0 p0_text c_p0_text b_p0_text p0_words c_p0_words b_p0_words) H → va_S A s.heap H locs → lv_has ls 1 [(0, .ref p0)] → W p l e (headSpec zw_t_step { frames := 5, cells := 0, slots := 0, locals := 106 }).room s m ([.ref p0] : List Value).toArray below meth c H locs 0 0 (MQ below (q_Qv (dC, dI) (zG_t_step p0 f_p0 p0_text c_p0_text b_p0_text p0_words c_p0_words b_p0_words) (zA_t_step p0 p0_text p0_words) A) ([.ref p0] : List Value).toArray s 0 0 A) (F0 m 0 ls []) := by
    intro fu0
    induction fu0 using Nat.strongRecOn with
    | ind fu0 ih0 =>
      intro fz_p0 att H2 lo2 ls hfu0 ho_fz_p0 hf_fz_p0 fr_fz_p0_0 fr_fz_p0_1 fv_fz_p0_3 tatt hP2 hS2 hl
      refine lv_aload_n hx hb dX4_step_0 rfl (lv_at hl 0 rfl) (qg_X4_3 hx hb hts i_X4 hown hK hP2 0 rfl k_0 fv_fz_p0_3 dX4_step_1 (lv_aload_n hx hb dX4_step_4 rfl (lv_at hl 0 rfl) ?_))
      obtain ⟨v_3, fv_3, tv_3⟩ := OKX4_g2 ho_fz_p0
      refine qg_X4_2 hx hb hts i_X4 hown hK hP2 0 rfl k_1 fv_3 dX4_step_5 ?_
      refine lv_icmp_ge (tgt := 39) hx hb dX4_step_8 (by decide) (fun c_4 => ?_) (fun c_4 => ?_)
      · have tc_4 := q_ge c_4
        refine lv_aload_n hx hb dX4_step_39 rfl (lv_at hl 0 rfl) (lv_aload_n hx hb dX4_step_40 rfl (lv_at hl 0 rfl) (qg_X4_3 hx hb hts i_X4 hown hK hP2 0 rfl k_0 fv_fz_p0_3 dX4_step_41 (qp_X4_5 hx hb hts i_X4 hown hK hP2 hDa za_t_step hS2 0 rfl k_2 (OKX4_l ho_fz_p0) dX4_step_44 (fun H5 lo5 fs5 efs5 (hP5 : va_P (dC, dI) vwCl (zW_t_step p0 fs5 p0_text c_p0_text b_p0_text p0_words c_p0_words b_p0_words) H5) hS5 => ?_))))
        have ho5 := OKX4_p5 ho_fz_p0 efs5
        clear hP2 hS2
        refine lv_aload_n hx hb dX4_step_47 rfl (lv_at hl 0 rfl) (qg_X4_3 hx hb hts i_X4 hown hK hP5 0 rfl k_0 (q_sn efs5 (by decide) fv_fz_p0_3) dX4_step_48 (lv_aload_n hx hb dX4_step_51 rfl (lv_at hl 0 rfl) (qg_X4_2 hx hb hts i_X4 hown hK hP5 0 rfl k_1 (q_sn efs5 (by decide) fv_3) dX4_step_52 ?_)))
        refine lv_icmp_lt (tgt := 66) hx hb dX4_step_55 (by decide) (fun c_6 => ?_) (fun c_6 => ?_)
        · have tc_6 := q_lt c_6
          refine lv_aload_n hx hb dX4_step_66 rfl (lv_at hl 0 rfl) (qg_X4_1 hx hb hts i_X4 hown hK hP5 0 rfl k_3 (q_sn efs5 (by decide) fr_fz_p0_1) dX4_step_67 (lv_aload_n hx hb dX4_step_70 rfl (lv_at hl 0 rfl) (qg_X4_3 hx hb hts i_X4 hown hK hP5 0 rfl k_0 (q_sn efs5 (by decide) fv_fz_p0_3) dX4_step_71 (q_bld hx hb hK hP5 1 0 rfl rfl (q_in (by omega) (by omega)) dX4_step_74 (fun v_7 ev_7 => ?_)))))
          refine q_cSi (As := [.int v_7]) (rest := []) q_w0 trivial hK hP5 hDa za_t_step hS5 hA [] [] (by decide +kernel) ⟨hx, hb, hml, hown, hts⟩ (t_isLetter l dC dI H5.size v_7) rfl rfl (va_cwS 1 hts (p1_gS m_4 m_5 m_6 g_t_isLetter gz_t_isLetter) rfl rfl rfl (by decide +kernel) ⟨by decide, by decide⟩) zm_t_isLetter rfl hl.1 rfl (Nat.le_of_ble_eq_true rfl) dX4_step_75 ⟨by decide, by decide⟩ (fun r_8 H9 lo9 hG9 hS9 => ?_)
          obtain ⟨z_10, hQ9⟩ := hG9
          have hP9 : va_P (dC, dI) vwCl (zW_t_step p0 fs5 p0_text c_p0_text b_p0_text p0_words c_p0_words b_p0_words) H9 := hQ9
          clear hQ9 hP5 hS5
          rcases z_10 with ⟨rfl, z_10⟩ | ⟨rfl, z_10⟩
          · refine lv_if_eq (tgt := 88) hx hb dX4_step_78 (by decide) (fun c_11 => absurd c_11 (by decide)) (fun c_11 => ?_)
            refine lv_aload_n hx hb dX4_step_81 rfl (lv_at hl 0 rfl) ?_
            refine q_cVv (As := []) (rest := []) q_w0 trivial hK hP9 hDa za_t_step hS9 hA [0, 1, 2] [0, 1] (by decide +kernel) ⟨hx, hb, hml, hown, hts⟩ (t_sOWord l dC dI H9.size p0 fs5 p0_text c_p0_text b_p0_text p0_words c_p0_words b_p0_words ho5 ((q_sn efs5 (by decide) fr_fz_p0_0)) ((q_sn efs5 (by decide) fr_fz_p0_1))) rfl rfl (cwV 0 hts (p1_gV m_7 m_8 m_9 m_6 g_t_sOWord gz_t_sOWord) rfl rfl rfl (by decide +kernel) ⟨by decide, by decide⟩) (va_recv hK hP9 (ci := 4) (q0 := 0) rfl rfl) zm_t_sOWord rfl hl.1 rfl (Nat.le_of_ble_eq_true rfl) dX4_step_82 ⟨by decide, by decide⟩ (fun H13 lo13 hG13 hS13 => ?_)
            obtain ⟨o_14, ho_15, hf_16, hQ13⟩ := hG13
            have hP13 : va_P (dC, dI) vwCl (zW_t_step p0 o_14 p0_text c_p0_text b_p0_text p0_words c_p0_words b_p0_words) H13 := hQ13
            clear hQ13 hP9 hS9
            refine lv_goto (tgt := 156) hx hb dX4_step_85 (by decide) ?_
            exact q_vret hx hb hr hlocks hS13 dX4_step_156 ⟨o_14, ho_15, ((hf_fz_p0.st efs5 (by decide)).tr hf_16 (by decide)), hP13, za_t_step⟩
          · refine lv_if_eq (tgt := 88) hx hb dX4_step_78 (by decide) (fun c_17 => ?_) (fun c_17 => absurd c_17 (by decide))
            refine lv_aload_n hx hb dX4_step_88 rfl (lv_at hl 0 rfl) (qg_X4_1 hx hb hts i_X4 hown hK hP9 0 rfl k_3 (q_sn efs5 (by decide) fr_fz_p0_1) dX4_step_89 (lv_aload_n hx hb dX4_step_92 rfl (lv_at hl 0 rfl) (qg_X4_3 hx hb hts i_X4 hown hK hP9 0 rfl k_0 (q_sn efs5 (by decide) fv_fz_p0_3) dX4_step_93 (q_bld hx hb hK hP9 1 0 rfl rfl (q_in (by omega) (by omega)) dX4_step_96 (fun v_18 ev_18 => ?_)))))
            refine q_cSi (As := [.int v_18]) (rest := []) q_w0 trivial hK hP9 hDa za_t_step hS9 hA [] [] (by decide +kernel) ⟨hx, hb, hml, hown, hts⟩ (t_isDigit l dC dI H9.size v_18) rfl rfl (va_cwS 1 hts (p1_gS m_10 m_11 m_6 g_t_isDigit gz_t_isDigit) rfl rfl rfl (by decide +kernel) ⟨by decide, by decide⟩) zm_t_isDigit rfl hl.1 rfl (Nat.le_of_ble_eq_true rfl) dX4_step_97 ⟨by decide, by decide⟩ (fun r_19 H20 lo20 hG20 hS20 => ?_)
            obtain ⟨z_21, hQ20⟩ := hG20
            have hP20 : va_P (dC, dI) vwCl (zW_t_step p0 fs5 p0_text c_p0_text b_p0_text p0_words c_p0_words b_p0_words) H20 := hQ20
            clear hQ20 hP9 hS9
            rcases z_21 with ⟨rfl, z_21⟩ | ⟨rfl, z_21⟩
            · refine lv_if_eq (tgt := 110) hx hb dX4_step_100 (by decide) (fun c_22 => absurd c_22 (by decide)) (fun c_22 => ?_)
              refine lv_aload_n hx hb dX4_step_103 rfl (lv_at hl 0 rfl) ?_
              refine q_cVv (As := []) (rest := []) q_w0 trivial hK hP20 hDa za_t_step hS20 hA [0, 1] [0] (by decide +kernel) ⟨hx, hb, hml, hown, hts⟩ (t_sONumber l dC dI H20.size p0 fs5 p0_text c_p0_text b_p0_text ho5 ((q_sn efs5 (by decide) fr_fz_p0_1))) rfl rfl (cwV 0 hts (p1_gV m_12 m_13 m_14 m_6 g_t_sONumber gz_t_sONumber) rfl rfl rfl (by decide +kernel) ⟨by decide, by decide⟩) (va_recv hK hP20 (ci := 4) (q0 := 0) rfl rfl) zm_t_sONumber rfl hl.1 rfl (Nat.le_of_ble_eq_true rfl) dX4_step_104 ⟨by decide, by decide⟩ (fun H24 lo24 hG24 hS24 => ?_)
              obtain ⟨o_25, ho_26, hf_27, hQ24⟩ := hG24
              have hP24 : va_P (dC, dI) vwCl (zW_t_step p0 o_25 p0_text c_p0_text b_p0_text p0_words c_p0_words b_p0_words) H24 := hQ24
              clear hQ24 hP20 hS20
              refine lv_goto (tgt := 156) hx hb dX4_step_107 (by decide) ?_
              exact q_vret hx hb hr hlocks hS24 dX4_step_156 ⟨o_25, ho_26, ((hf_fz_p0.st efs5 (by decide)).tr hf_27 (by decide)), hP24, za_t_step⟩
            · refine lv_if_eq (tgt := 110) hx hb dX4_step_100 (by decide) (fun c_28 => ?_) (fun c_28 => absurd c_28 (by decide))
              refine lv_aload_n hx hb dX4_step_110 rfl (lv_at hl 0 rfl) (qg_X4_1 hx hb hts i_X4 hown hK hP20 0 rfl k_3 (q_sn efs5 (by decide) fr_fz_p0_1) dX4_step_111 (lv_aload_n hx hb dX4_step_114 rfl (lv_at hl 0 rfl) (qg_X4_3 hx hb hts i_X4 hown hK hP20 0 rfl k_0 (q_sn efs5 (by decide) fv_fz_p0_3) dX4_step_115 (q_bld hx hb hK hP20 1 0 rfl rfl (q_in (by omega) (by omega)) dX4_step_118 (fun v_29 ev_29 => ?_)))))
              refine q_cSi (As := [.int v_29]) (rest := []) q_exw hE hK hP20 hDa za_t_step hS20 hA [] [] (by decide +kernel) ⟨hx, hb, hml, hown, hts⟩ (t_isSign l dC dI H20.size v_29) rfl rfl (va_cwS 1 hts (p1_gS m_15 m_16 m_6 g_t_isSign gz_t_isSign) rfl rfl rfl (by decide +kernel) ⟨by decide, by decide⟩) zm_t_isSign rfl hl.1 rfl (Nat.le_of_ble_eq_true rfl) dX4_step_119 ⟨by decide, by decide⟩ (fun r_30 H31 lo31 hG31 hS31 => ?_)
              obtain ⟨z_32, hQ31⟩ := hG31
              have hP31 : va_P (dC, dI) vwCl (zW_t_step p0 fs5 p0_text c_p0_text b_p0_text p0_words c_p0_words b_p0_words) H31 := hQ31
              clear hQ31 hP20 hS20
              rcases z_32 with ⟨rfl, z_32⟩ | ⟨rfl, z_32⟩
              · refine lv_if_eq (tgt := 151) hx hb dX4_step_122 (by decide) (fun c_33 => absurd c_33 (by decide)) (fun c_33 => ?_)
                refine lv_aload_n hx hb dX4_step_125 rfl (lv_at hl 0 rfl) (lv_aload_n hx hb dX4_step_126 rfl (lv_at hl 0 rfl) (qg_X4_1 hx hb hts i_X4 hown hK hP31 0 rfl k_3 (q_sn efs5 (by decide) fr_fz_p0_1) dX4_step_127 (lv_aload_n hx hb dX4_step_130 rfl (lv_at hl 0 rfl) (qg_X4_3 hx hb hts i_X4 hown hK hP31 0 rfl k_0 (q_sn efs5 (by decide) fv_fz_p0_3) dX4_step_131 (q_bld hx hb hK hP31 1 0 rfl rfl (q_in (by omega) (by omega)) dX4_step_134 (fun v_34 ev_34 => ?_))))))
                refine qp_X4_4 hx hb hts i_X4 hown hK hP31 hDa za_t_step hS31 0 rfl k_17 (OKX4_l ho5) dX4_step_135 (fun H35 lo35 fs35 efs35 (hP35 : va_P (dC, dI) vwCl (zW_t_step p0 fs35 p0_text c_p0_text b_p0_text p0_words c_p0_words b_p0_words) H35) hS35 => ?_)
                have ho35 := OKX4_p4 ho5 efs35
                clear hP31 hS31
                refine lv_aload_n hx hb dX4_step_138 rfl (lv_at hl 0 rfl) (lv_dup hx hb dX4_step_139 rfl (qg_X4_3 hx hb hts i_X4 hown hK hP35 0 rfl k_0 (q_sn efs35 (by decide) (q_sn efs5 (by decide) fv_fz_p0_3)) dX4_step_140 (lv_iconst (v := 1) hx hb dX4_step_143 (by decide) (lv_iadd hx hb dX4_step_144 (lv_topi fun v_36 ev_36 => ?_)))))
                have tv_36 := q_add ev_36 (by omega) (by omega)
                refine qp_X4_3 hx hb hts i_X4 hown hK hP35 hDa za_t_step hS35 0 rfl k_0 (OKX4_l ho35) dX4_step_145 (fun H37 lo37 fs37 efs37 (hP37 : va_P (dC, dI) vwCl (zW_t_step p0 fs37 p0_text c_p0_text b_p0_text p0_words c_p0_words b_p0_words) H37) hS37 => ?_)
                have ho37 := OKX4_p3 ho35 efs37 ⟨by omega, by omega⟩
                clear hP35 hS35
                refine lv_goto (tgt := 156) hx hb dX4_step_148 (by decide) ?_
                exact q_vret hx hb hr hlocks hS37 dX4_step_156 ⟨fs37, ho37, (((hf_fz_p0.st efs5 (by decide)).st efs35 (by decide)).st efs37 (by decide)), hP37, za_t_step⟩
              · refine lv_if_eq (tgt := 151) hx hb dX4_step_122 (by decide) (fun c_38 => ?_) (fun c_38 => absurd c_38 (by decide))
                refine lv_aload_n hx hb dX4_step_151 rfl (lv_at hl 0 rfl) (lv_iconst (v := 1) hx hb dX4_step_152 (by decide) (qp_X4_4 hx hb hts i_X4 hown hK hP31 hDa za_t_step hS31 0 rfl k_17 (OKX4_l ho5) dX4_step_153 (fun H39 lo39 fs39 efs39 (hP39 : va_P (dC, dI) vwCl (zW_t_step p0 fs39 p0_text c_p0_text b_p0_text p0_words c_p0_words b_p0_words) H39) hS39 => ?_)))
                have ho39 := OKX4_p4 ho5 efs39
                clear hP31 hS31
                exact q_vret hx hb hr hlocks hS39 dX4_step_156 ⟨fs39, ho39, ((hf_fz_p0.st efs5 (by decide)).st efs39 (by decide)), hP39, za_t_step⟩
        · have tc_6 := q_geN c_6
          refine lv_aload_n hx hb dX4_step_58 rfl (lv_at hl 0 rfl) (lv_iconst (v := 0) hx hb dX4_step_59 (by decide) (qp_X4_4 hx hb hts i_X4 hown hK hP5 hDa za_t_step hS5 0 rfl k_17 (OKX4_l ho5) dX4_step_60 (fun H40 lo40 fs40 efs40 (hP40 : va_P (dC, dI) vwCl (zW_t_step p0 fs40 p0_text c_p0_text b_p0_text p0_words c_p0_words b_p0_words) H40) hS40 => ?_)))
          have ho40 := OKX4_p4 ho5 efs40
          clear hP5 hS5
          refine lv_goto (tgt := 156) hx hb dX4_step_63 (by decide) ?_
          exact q_vret hx hb hr hlocks hS40 dX4_step_156 ⟨fs40, ho40, ((hf_fz_p0.st efs5 (by decide)).st efs40 (by decide)), hP40, za_t_step⟩
      · have tc_4 := q_ltN c_4
        refine lv_aload_n hx hb dX4_step_11 rfl (lv_at hl 0 rfl) (qg_X4_1 hx hb hts i_X4 hown hK hP2 0 rfl k_3 fr_fz_p0_1 dX4_step_12 (lv_aload_n hx hb dX4_step_15 rfl (lv_at hl 0 rfl) (qg_X4_3 hx hb hts i_X4 hown hK hP2 0 rfl k_0 fv_fz_p0_3 dX4_step_16 (q_bld hx hb hK hP2 1 0 rfl rfl (q_in (by omega) (by omega)) dX4_step_19 (fun v_41 ev_41 => ?_)))))
        refine q_cSi (As := [.int v_41]) (rest := []) q_w0 trivial hK hP2 hDa za_t_step hS2 hA [] [] (by decide +kernel) ⟨hx, hb, hml, hown, hts⟩ (t_isBlank l dC dI H2.size v_41) rfl rfl (va_cwS 1 hts (p1_gS m_18 m_19 m_6 g_t_isBlank gz_t_isBlank) rfl rfl rfl (by decide +kernel) ⟨by decide, by decide⟩) zm_t_isBlank rfl hl.1 rfl (Nat.le_of_ble_eq_true rfl) dX4_step_20 ⟨by decide, by decide⟩ (fun r_42 H43 lo43 hG43 hS43 => ?_)
        obtain ⟨z_44, hQ43⟩ := hG43
        have hP43 : va_P (dC, dI) vwCl (zW_t_step p0 fz_p0 p0_text c_p0_text b_p0_text p0_words c_p0_words b_p0_words) H43 := hQ43
        clear hQ43 hP2 hS2
        rcases z_44 with ⟨rfl, z_44⟩ | ⟨rfl, z_44⟩
        · refine lv_if_eq (tgt := 39) hx hb dX4_step_23 (by decide) (fun c_45 => absurd c_45 (by decide)) (fun c_45 => ?_)
          refine lv_aload_n hx hb dX4_step_26 rfl (lv_at hl 0 rfl) (lv_dup hx hb dX4_step_27 rfl (qg_X4_3 hx hb hts i_X4 hown hK hP43 0 rfl k_0 fv_fz_p0_3 dX4_step_28 (lv_iconst (v := 1) hx hb dX4_step_31 (by decide) (lv_iadd hx hb dX4_step_32 (lv_topi fun v_46 ev_46 => ?_)))))
          have tv_46 := q_add ev_46 (by omega) (by omega)
          refine qp_X4_3 hx hb hts i_X4 hown hK hP43 hDa za_t_step hS43 0 rfl k_0 (OKX4_l ho_fz_p0) dX4_step_33 (fun H47 lo47 fs47 efs47 (hP47 : va_P (dC, dI) vwCl (zW_t_step p0 fs47 p0_text c_p0_text b_p0_text p0_words c_p0_words b_p0_words) H47) hS47 => ?_)
          have ho47 := OKX4_p3 ho_fz_p0 efs47 ⟨by omega, by omega⟩
          clear hP43 hS43
          refine lv_goto (tgt := 0) hx hb dX4_step_36 (by decide) ?_
          exact ih0 (fu0 - 1) (by omega) fs47 v_46 _ _ _ (by omega) ho47 (hf_fz_p0.st efs47 (by decide)) (q_sn efs47 (by decide) fr_fz_p0_0) (q_sn efs47 (by decide) fr_fz_p0_1) (q_sa efs47 (OKX4_l ho_fz_p0) (by decide)) (by omega) hP47 hS47 (lv_sub hl [0] rfl)
        · refine lv_if_eq (tgt := 39) hx hb dX4_step_23 (by decide) (fun c_48 => ?_) (fun c_48 => absurd c_48 (by decide))
          refine lv_aload_n hx hb dX4_step_39 rfl (lv_at hl 0 rfl) (lv_aload_n hx hb dX4_step_40 rfl (lv_at hl 0 rfl) (qg_X4_3 hx hb hts i_X4 hown hK hP43 0 rfl k_0 fv_fz_p0_3 dX4_step_41 (qp_X4_5 hx hb hts i_X4 hown hK hP43 hDa za_t_step hS43 0 rfl k_2 (OKX4_l ho_fz_p0) dX4_step_44 (fun H49 lo49 fs49 efs49 (hP49 : va_P (dC, dI) vwCl (zW_t_step p0 fs49 p0_text c_p0_text b_p0_text p0_words c_p0_words b_p0_words) H49) hS49 => ?_))))
          have ho49 := OKX4_p5 ho_fz_p0 efs49
          clear hP43 hS43
          refine lv_aload_n hx hb dX4_step_47 rfl (lv_at hl 0 rfl) (qg_X4_3 hx hb hts i_X4 hown hK hP49 0 rfl k_0 (q_sn efs49 (by decide) fv_fz_p0_3) dX4_step_48 (lv_aload_n hx hb dX4_step_51 rfl (lv_at hl 0 rfl) (qg_X4_2 hx hb hts i_X4 hown hK hP49 0 rfl k_1 (q_sn efs49 (by decide) fv_3) dX4_step_52 ?_)))
          refine lv_icmp_lt (tgt := 66) hx hb dX4_step_55 (by decide) (fun c_50 => ?_) (fun c_50 => ?_)
          · have tc_50 := q_lt c_50
            refine lv_aload_n hx hb dX4_step_66 rfl (lv_at hl 0 rfl) (qg_X4_1 hx hb hts i_X4 hown hK hP49 0 rfl k_3 (q_sn efs49 (by decide) fr_fz_p0_1) dX4_step_67 (lv_aload_n hx hb dX4_step_70 rfl (lv_at hl 0 rfl) (qg_X4_3 hx hb hts i_X4 hown hK hP49 0 rfl k_0 (q_sn efs49 (by decide) fv_fz_p0_3) dX4_step_71 (q_bld hx hb hK hP49 1 0 rfl rfl (q_in (by omega) (by omega)) dX4_step_74 (fun v_51 ev_51 => ?_)))))
            refine q_cSi (As := [.int v_51]) (rest := []) q_w0 trivial hK hP49 hDa za_t_step hS49 hA [] [] (by decide +kernel) ⟨hx, hb, hml, hown, hts⟩ (t_isLetter l dC dI H49.size v_51) rfl rfl (va_cwS 1 hts (p1_gS m_4 m_5 m_6 g_t_isLetter gz_t_isLetter) rfl rfl rfl (by decide +kernel) ⟨by decide, by decide⟩) zm_t_isLetter rfl hl.1 rfl (Nat.le_of_ble_eq_true rfl) dX4_step_75 ⟨by decide, by decide⟩ (fun r_52 H53 lo53 hG53 hS53 => ?_)
            obtain ⟨z_54, hQ53⟩ := hG53
            have hP53 : va_P (dC, dI) vwCl (zW_t_step p0 fs49 p0_text c_p0_text b_p0_text p0_words c_p0_words b_p0_words) H53 := hQ53
            clear hQ53 hP49 hS49
            rcases z_54 with ⟨rfl, z_54⟩ | ⟨rfl, z_54⟩
            · refine lv_if_eq (tgt := 88) hx hb dX4_step_78 (by decide) (fun c_55 => absurd c_55 (by decide)) (fun c_55 => ?_)
              refine lv_aload_n hx hb dX4_step_81 rfl (lv_at hl 0 rfl) ?_
              refine q_cVv (As := []) (rest := []) q_w0 trivial hK hP53 hDa za_t_step hS53 hA [0, 1, 2] [0, 1] (by decide +kernel) ⟨hx, hb, hml, hown, hts⟩ (t_sOWord l dC dI H53.size p0 fs49 p0_text c_p0_text b_p0_text p0_words c_p0_words b_p0_words ho49 ((q_sn efs49 (by decide) fr_fz_p0_0)) ((q_sn efs49 (by decide) fr_fz_p0_1))) rfl rfl (cwV 0 hts (p1_gV m_7 m_8 m_9 m_6 g_t_sOWord gz_t_sOWord) rfl rfl rfl (by decide +kernel) ⟨by decide, by decide⟩) (va_recv hK hP53 (ci := 4) (q0 := 0) rfl rfl) zm_t_sOWord rfl hl.1 rfl (Nat.le_of_ble_eq_true rfl) dX4_step_82 ⟨by decide, by decide⟩ (fun H57 lo57 hG57 hS57 => ?_)
              obtain ⟨o_58, ho_59, hf_60, hQ57⟩ := hG57
              have hP57 : va_P (dC, dI) vwCl (zW_t_step p0 o_58 p0_text c_p0_text b_p0_text p0_words c_p0_words b_p0_words) H57 := hQ57
              clear hQ57 hP53 hS53
              refine lv_goto (tgt := 156) hx hb dX4_step_85 (by decide) ?_
              exact q_vret hx hb hr hlocks hS57 dX4_step_156 ⟨o_58, ho_59, ((hf_fz_p0.st efs49 (by decide)).tr hf_60 (by decide)), hP57, za_t_step⟩
            · refine lv_if_eq (tgt := 88) hx hb dX4_step_78 (by decide) (fun c_61 => ?_) (fun c_61 => absurd c_61 (by decide))
              refine lv_aload_n hx hb dX4_step_88 rfl (lv_at hl 0 rfl) (qg_X4_1 hx hb hts i_X4 hown hK hP53 0 rfl k_3 (q_sn efs49 (by decide) fr_fz_p0_1) dX4_step_89 (lv_aload_n hx hb dX4_step_92 rfl (lv_at hl 0 rfl) (qg_X4_3 hx hb hts i_X4 hown hK hP53 0 rfl k_0 (q_sn efs49 (by decide) fv_fz_p0_3) dX4_step_93 (q_bld hx hb hK hP53 1 0 rfl rfl (q_in (by omega) (by omega)) dX4_step_96 (fun v_62 ev_62 => ?_)))))
              refine q_cSi (As := [.int v_62]) (rest := []) q_w0 trivial hK hP53 hDa za_t_step hS53 hA [] [] (by decide +kernel) ⟨hx, hb, hml, hown, hts⟩ (t_isDigit l dC dI H53.size v_62) rfl rfl (va_cwS 1 hts (p1_gS m_10 m_11 m_6 g_t_isDigit gz_t_isDigit) rfl rfl rfl (by decide +kernel) ⟨by decide, by decide⟩) zm_t_isDigit rfl hl.1 rfl (Nat.le_of_ble_eq_true rfl) dX4_step_97 ⟨by decide, by decide⟩ (fun r_63 H64 lo64 hG64 hS64 => ?_)
              obtain ⟨z_65, hQ64⟩ := hG64
              have hP64 : va_P (dC, dI) vwCl (zW_t_step p0 fs49 p0_text c_p0_text b_p0_text p0_words c_p0_words b_p0_words) H64 := hQ64
              clear hQ64 hP53 hS53
              rcases z_65 with ⟨rfl, z_65⟩ | ⟨rfl, z_65⟩
              · refine lv_if_eq (tgt := 110) hx hb dX4_step_100 (by decide) (fun c_66 => absurd c_66 (by decide)) (fun c_66 => ?_)
                refine lv_aload_n hx hb dX4_step_103 rfl (lv_at hl 0 rfl) ?_
                refine q_cVv (As := []) (rest := []) q_w0 trivial hK hP64 hDa za_t_step hS64 hA [0, 1] [0] (by decide +kernel) ⟨hx, hb, hml, hown, hts⟩ (t_sONumber l dC dI H64.size p0 fs49 p0_text c_p0_text b_p0_text ho49 ((q_sn efs49 (by decide) fr_fz_p0_1))) rfl rfl (cwV 0 hts (p1_gV m_12 m_13 m_14 m_6 g_t_sONumber gz_t_sONumber) rfl rfl rfl (by decide +kernel) ⟨by decide, by decide⟩) (va_recv hK hP64 (ci := 4) (q0 := 0) rfl rfl) zm_t_sONumber rfl hl.1 rfl (Nat.le_of_ble_eq_true rfl) dX4_step_104 ⟨by decide, by decide⟩ (fun H68 lo68 hG68 hS68 => ?_)
                obtain ⟨o_69, ho_70, hf_71, hQ68⟩ := hG68
                have hP68 : va_P (dC, dI) vwCl (zW_t_step p0 o_69 p0_text c_p0_text b_p0_text p0_words c_p0_words b_p0_words) H68 := hQ68
                clear hQ68 hP64 hS64
                refine lv_goto (tgt := 156) hx hb dX4_step_107 (by decide) ?_
                exact q_vret hx hb hr hlocks hS68 dX4_step_156 ⟨o_69, ho_70, ((hf_fz_p0.st efs49 (by decide)).tr hf_71 (by decide)), hP68, za_t_step⟩
              · refine lv_if_eq (tgt := 110) hx hb dX4_step_100 (by decide) (fun c_72 => ?_) (fun c_72 => absurd c_72 (by decide))
                refine lv_aload_n hx hb dX4_step_110 rfl (lv_at hl 0 rfl) (qg_X4_1 hx hb hts i_X4 hown hK hP64 0 rfl k_3 (q_sn efs49 (by decide) fr_fz_p0_1) dX4_step_111 (lv_aload_n hx hb dX4_step_114 rfl (lv_at hl 0 rfl) (qg_X4_3 hx hb hts i_X4 hown hK hP64 0 rfl k_0 (q_sn efs49 (by decide) fv_fz_p0_3) dX4_step_115 (q_bld hx hb hK hP64 1 0 rfl rfl (q_in (by omega) (by omega)) dX4_step_118 (fun v_73 ev_73 => ?_)))))
                refine q_cSi (As := [.int v_73]) (rest := []) q_exw hE hK hP64 hDa za_t_step hS64 hA [] [] (by decide +kernel) ⟨hx, hb, hml, hown, hts⟩ (t_isSign l dC dI H64.size v_73) rfl rfl (va_cwS 1 hts (p1_gS m_15 m_16 m_6 g_t_isSign gz_t_isSign) rfl rfl rfl (by decide +kernel) ⟨by decide, by decide⟩) zm_t_isSign rfl hl.1 rfl (Nat.le_of_ble_eq_true rfl) dX4_step_119 ⟨by decide, by decide⟩ (fun r_74 H75 lo75 hG75 hS75 => ?_)
                obtain ⟨z_76, hQ75⟩ := hG75
                have hP75 : va_P (dC, dI) vwCl (zW_t_step p0 fs49 p0_text c_p0_text b_p0_text p0_words c_p0_words b_p0_words) H75 := hQ75
                clear hQ75 hP64 hS64
                rcases z_76 with ⟨rfl, z_76⟩ | ⟨rfl, z_76⟩
                · refine lv_if_eq (tgt := 151) hx hb dX4_step_122 (by decide) (fun c_77 => absurd c_77 (by decide)) (fun c_77 => ?_)
                  refine lv_aload_n hx hb dX4_step_125 rfl (lv_at hl 0 rfl) (lv_aload_n hx hb dX4_step_126 rfl (lv_at hl 0 rfl) (qg_X4_1 hx hb hts i_X4 hown hK hP75 0 rfl k_3 (q_sn efs49 (by decide) fr_fz_p0_1) dX4_step_127 (lv_aload_n hx hb dX4_step_130 rfl (lv_at hl 0 rfl) (qg_X4_3 hx hb hts i_X4 hown hK hP75 0 rfl k_0 (q_sn efs49 (by decide) fv_fz_p0_3) dX4_step_131 (q_bld hx hb hK hP75 1 0 rfl rfl (q_in (by omega) (by omega)) dX4_step_134 (fun v_78 ev_78 => ?_))))))
                  refine qp_X4_4 hx hb hts i_X4 hown hK hP75 hDa za_t_step hS75 0 rfl k_17 (OKX4_l ho49) dX4_step_135 (fun H79 lo79 fs79 efs79 (hP79 : va_P (dC, dI) vwCl (zW_t_step p0 fs79 p0_text c_p0_text b_p0_text p0_words c_p0_words b_p0_words) H79) hS79 => ?_)
                  have ho79 := OKX4_p4 ho49 efs79
                  clear hP75 hS75
                  refine lv_aload_n hx hb dX4_step_138 rfl (lv_at hl 0 rfl) (lv_dup hx hb dX4_step_139 rfl (qg_X4_3 hx hb hts i_X4 hown hK hP79 0 rfl k_0 (q_sn efs79 (by decide) (q_sn efs49 (by decide) fv_fz_p0_3)) dX4_step_140 (lv_iconst (v := 1) hx hb dX4_step_143 (by decide) (lv_iadd hx hb dX4_step_144 (lv_topi fun v_80 ev_80 => ?_)))))
                  have tv_80 := q_add ev_80 (by omega) (by omega)
                  refine qp_X4_3 hx hb hts i_X4 hown hK hP79 hDa za_t_step hS79 0 rfl k_0 (OKX4_l ho79) dX4_step_145 (fun H81 lo81 fs81 efs81 (hP81 : va_P (dC, dI) vwCl (zW_t_step p0 fs81 p0_text c_p0_text b_p0_text p0_words c_p0_words b_p0_words) H81) hS81 => ?_)
                  have ho81 := OKX4_p3 ho79 efs81 ⟨by omega, by omega⟩
                  clear hP79 hS79
                  refine lv_goto (tgt := 156) hx hb dX4_step_148 (by decide) ?_
                  exact q_vret hx hb hr hlocks hS81 dX4_step_156 ⟨fs81, ho81, (((hf_fz_p0.st efs49 (by decide)).st efs79 (by decide)).st efs81 (by decide)), hP81, za_t_step⟩
                · refine lv_if_eq (tgt := 151) hx hb dX4_step_122 (by decide) (fun c_82 => ?_) (fun c_82 => absurd c_82 (by decide))
                  refine lv_aload_n hx hb dX4_step_151 rfl (lv_at hl 0 rfl) (lv_iconst (v := 1) hx hb dX4_step_152 (by decide) (qp_X4_4 hx hb hts i_X4 hown hK hP75 hDa za_t_step hS75 0 rfl k_17 (OKX4_l ho49) dX4_step_153 (fun H83 lo83 fs83 efs83 (hP83 : va_P (dC, dI) vwCl (zW_t_step p0 fs83 p0_text c_p0_text b_p0_text p0_words c_p0_words b_p0_words) H83) hS83 => ?_)))
                  have ho83 := OKX4_p4 ho49 efs83
                  clear hP75 hS75
                  exact q_vret hx hb hr hlocks hS83 dX4_step_156 ⟨fs83, ho83, ((hf_fz_p0.st efs49 (by decide)).st efs83 (by decide)), hP83, za_t_step⟩
          · have tc_50 := q_geN c_50
            refine lv_aload_n hx hb dX4_step_58 rfl (lv_at hl 0 rfl) (lv_iconst (v := 0) hx hb dX4_step_59 (by decide) (qp_X4_4 hx hb hts i_X4 hown hK hP49 hDa za_t_step hS49 0 rfl k_17 (OKX4_l ho49) dX4_step_60 (fun H84 lo84 fs84 efs84 (hP84 : va_P (dC, dI) vwCl (zW_t_step p0 fs84 p0_text c_p0_text b_p0_text p0_words c_p0_words b_p0_words) H84) hS84 => ?_)))
            have ho84 := OKX4_p4 ho49 efs84
            clear hP49 hS49
            refine lv_goto (tgt := 156) hx hb dX4_step_63 (by decide) ?_
            exact q_vret hx hb hr hlocks hS84 dX4_step_156 ⟨fs84, ho84, ((hf_fz_p0.st efs49 (by decide)).st efs84 (by decide)), hP84, za_t_step⟩
  exact key0 1600 f_p0 v_1 _ _ _ (by omega) ho_p0 q_fr.rf fr_p0_0 fr_p0_1 fv_1 (by omega) hP hS (lv_sub hl [0] rfl)
def zo_t_take : List Cond := [.code yX4_take cX4_take 2 (some .boolean), .fieldLink RX4 28 "BowWalk$Reader" "token" "I", .methodLink RX4 78 yX4_step, .instanceMethod yX4_step, .selects RX4 yX4_step yX4_step, .initialized RX4, .methodLink RX4 124 yX4_refuse, .instanceMethod yX4_refuse, .selects RX4 yX4_refuse yX4_refuse]
def zw_t_take : List Cond := zo_t_take ++ (zw_t_step ++ (zw_t_refuse ++ (wsX40 ++ [])))
theorem gz_t_take : zw_t_take.all goodWord = true := p1_ga (by decide +kernel) (p1_ga gz_t_step (p1_ga gz_t_refuse (p1_ga gk_X4 p1_g0)))
theorem iz_t_take : ∀ w ∈ zw_t_take, w ∈ lw_tbl := p1_ia (p1_all [632, 311, 573, 575, 1, 105, 613, 615, 7] (by decide +kernel)) (p1_ia iz_t_step (p1_ia iz_t_refuse (p1_ia ik_X4 p1_i0)))
def zW_t_take (p0 : Nat) (f_p0 : List Value) (p0_text : Nat) (c_p0_text : ClassId) (b_p0_text : Nat → Int32) (p0_words : Nat) (c_p0_words : ClassId) (b_p0_words : Nat → Int64) : va_W := [(p0, .inr (4, f_p0)), (p0_text, .inl (c_p0_text, 1600, .inl b_p0_text)), (p0_words, .inl (c_p0_words, 22, .inr (.inl b_p0_words)))]
def zT_t_take (c_p0_text : ClassId) (c_p0_words : ClassId) : List (ClassId × FieldType) := [(c_p0_text, .byte), (c_p0_words, .long)]
def zA_t_take (p0 : Nat) (p0_text : Nat) (p0_words : Nat) : List Nat := [p0, p0_text, p0_words]
theorem za_t_take {p0 : Nat} {f_p0 : List Value} {p0_text : Nat} {c_p0_text : ClassId} {b_p0_text : Nat → Int32} {p0_words : Nat} {c_p0_words : ClassId} {b_p0_words : Nat → Int64} : (zW_t_take p0 f_p0 p0_text c_p0_text b_p0_text p0_words c_p0_words b_p0_words).map Prod.fst = (zA_t_take p0 p0_text p0_words) := rfl
def zG_t_take (p0 : Nat) (f_p0 : List Value) (p0_text : Nat) (c_p0_text : ClassId) (b_p0_text : Nat → Int32) (p0_words : Nat) (c_p0_words : ClassId) (b_p0_words : Nat → Int64) (a1 : Int32) (r : Int32) (X : va_W → Prop) : Prop := ∃ (y_p0 : List Value), ((r = 1 ∧ (True)) ∨ (r = 0 ∧ (True))) ∧ OKX4 y_p0 ∧ q_fr [3, 4, 5, 6, 7, 9, 10] f_p0 y_p0 ∧ X (zW_t_take p0 y_p0 p0_text c_p0_text b_p0_text p0_words c_p0_words b_p0_words)
theorem zm_t_take {p0 : Nat} {f_p0 : List Value} {p0_text : Nat} {c_p0_text : ClassId} {b_p0_text : Nat → Int32} {p0_words : Nat} {c_p0_words : ClassId} {b_p0_words : Nat → Int64} {a1 : Int32} : ∀ (r : Int32), ∀ X Y : va_W → Prop, (∀ w, X w → Y w) → zG_t_take p0 f_p0 p0_text c_p0_text b_p0_text p0_words c_p0_words b_p0_words a1 r X → zG_t_take p0 f_p0 p0_text c_p0_text b_p0_text p0_words c_p0_words b_p0_words a1 r Y := fun r X Y h h1 => by obtain ⟨x0, x1, x2, x3, hx⟩ := h1; exact ⟨x0, x1, x2, x3, h _ hx⟩
set_option maxHeartbeats 4000000 in
set_option maxRecDepth 100000 in
theorem t_take (l : Launch) (dC : Nat → ClassId) (dI : Nat → Nat → Nat) (sz : Nat) (p0 : Nat) (f_p0 : List Value) (p0_text : Nat) (c_p0_text : ClassId) (b_p0_text : Nat → Int32) (p0_words : Nat) (c_p0_words : ClassId) (b_p0_words : Nat → Int64) (a1 : Int32) (ho_p0 : OKX4 f_p0) (fr_p0_0 : q_rf f_p0 0 p0_words) (fr_p0_1 : q_rf f_p0 1 p0_text) : Met l yX4_take zw_t_take ({ frames := 6, cells := 0, slots := 0, locals := 126 }) (va_Pc [.ref p0, .int a1] (q_pre (dC, dI) (zW_t_take p0 f_p0 p0_text c_p0_text b_p0_text p0_words c_p0_words b_p0_words) (zT_t_take c_p0_text c_p0_words) q_ex sz)) (q_Qi (dC, dI) (zG_t_take p0 f_p0 p0_text c_p0_text b_p0_text p0_words c_p0_words b_p0_words a1) (zA_t_take p0 p0_text p0_words) (va_A (zW_t_take p0 f_p0 p0_text c_p0_text b_p0_text p0_words c_p0_words b_p0_words) sz)) 0 0 (va_A (zW_t_take p0 f_p0 p0_text c_p0_text b_p0_text p0_words c_p0_words b_p0_words) sz) := by
  refine Met.ofW (cc := cX4_take) (maxL := 2) (ret := (some .boolean)) (by decide) rfl ?_
  intro p e s m args below meth c s₁ B hml hv
  obtain ⟨rfl, hsz, hP, hK, hD0, hE⟩ := hv
  have hx := B.exec
  have hb := B.bytes
  have hr := B.returns
  have hts := atoms_spec (ws := zw_t_take) B.pre
  have hown : s.vm.findClass RX4 = some m.cls := findClass_of_methodNamed B.named
  have hlocks := B.notSynchronized
  subst hsz
  have hD := hD0.self (sz := s.heap.size)
  generalize hAe : va_A (zW_t_take p0 f_p0 p0_text c_p0_text b_p0_text p0_words c_p0_words b_p0_words) s.heap.size = A at hD hE ⊢
  have hA : ∀ q : Nat, s.heap.size ≤ q → A q := fun q h => by rw [← hAe]; exact Or.inr h
  have hDa : q_DA A (zA_t_take p0 p0_text p0_words) := q_DA.mk hD za_t_take
  clear hAe hD0 hD
  have hS : va_S A s.heap s.heap [] := va_S.rf
  have m_0 : (.fieldLink RX4 28 "BowWalk$Reader" "token" "I" : Cond) ∈ zw_t_take := List.mem_append_left _ (List.mem_of_getElem? (i := 1) rfl)
  have k_0 := hts _ m_0
  have m_1 : (.methodLink RX4 78 yX4_step : Cond) ∈ zw_t_take := List.mem_append_left _ (List.mem_of_getElem? (i := 2) rfl)
  have k_1 := hts _ m_1
  have m_2 : (.instanceMethod yX4_step : Cond) ∈ zw_t_take := List.mem_append_left _ (List.mem_of_getElem? (i := 3) rfl)
  have k_2 := hts _ m_2
  have m_3 : (.selects RX4 yX4_step yX4_step : Cond) ∈ zw_t_take := List.mem_append_left _ (List.mem_of_getElem? (i := 4) rfl)
  have k_3 := hts _ m_3
  have m_4 : (.initialized RX4 : Cond) ∈ zw_t_take := List.mem_append_left _ (List.mem_of_getElem? (i := 5) rfl)
  have k_4 := hts _ m_4
  have m_5 : (.methodLink RX4 124 yX4_refuse : Cond) ∈ zw_t_take := List.mem_append_left _ (List.mem_of_getElem? (i := 6) rfl)
  have k_5 := hts _ m_5
  have m_6 : (.instanceMethod yX4_refuse : Cond) ∈ zw_t_take := List.mem_append_left _ (List.mem_of_getElem? (i := 7) rfl)
  have k_6 := hts _ m_6
  have m_7 : (.selects RX4 yX4_refuse yX4_refuse : Cond) ∈ zw_t_take := List.mem_append_left _ (List.mem_of_getElem? (i := 8) rfl)
  have k_7 := hts _ m_7
  have g_t_step : ∀ w ∈ zw_t_step, w ∈ zw_t_take := fun w h => List.mem_append_right _ (List.mem_append_left _ h)
  have g_t_refuse : ∀ w ∈ zw_t_refuse, w ∈ zw_t_take := fun w h => List.mem_append_right _ (List.mem_append_right _ (List.mem_append_left _ h))
  have i_X4 : ∀ w ∈ u_ws RX4 TX4 11, w ∈ zw_t_take := fun w h => List.mem_append_right _ (List.mem_append_right _ (List.mem_append_right _ (List.mem_append_left _ h)))
  have lt_0 : (0 : Int32).toInt = 0 := by decide
  have lt_1 : (1 : Int32).toInt = 1 := by decide
  have lt_2 : (2 : Int32).toInt = 2 := by decide
  have hl := lv_entry ([.ref p0, .int a1]) (n := 2) (Nat.le_of_ble_eq_true rfl)
  rw [lg_entry_eq]
  generalize (lg_sl ([.ref p0, .int a1]) ++ List.replicate (2 - (lg_sl ([.ref p0, .int a1])).length) Slot.unset).toArray = ls at hl ⊢
  have hl : lv_has ls 2 [(0, .ref p0), (1, .int a1)] := hl
  refine lv_aload_n hx hb dX4_take_0 rfl (lv_at hl 0 rfl) ?_
  obtain ⟨v_1, fv_1⟩ := OKX4_g4 ho_p0
  refine qg_X4_4 hx hb hts i_X4 hown hK hP 0 rfl k_0 fv_1 dX4_take_1 (lv_iload_n hx hb dX4_take_4 rfl (lv_at hl 1 rfl) ?_)
  refine lv_icmp_eq (tgt := 14) hx hb dX4_take_5 (by decide) (fun c_2 => ?_) (fun c_2 => ?_)
  · have tc_2 := q_eq c_2
    refine lv_aload_n hx hb dX4_take_14 rfl (lv_at hl 0 rfl) ?_
    refine q_cVv (As := []) (rest := []) q_exw hE hK hP hDa za_t_take hS hA [0, 1, 2] [0, 1] (by decide +kernel) ⟨hx, hb, hml, hown, hts⟩ (t_step l dC dI s.heap.size p0 f_p0 p0_text c_p0_text b_p0_text p0_words c_p0_words b_p0_words ho_p0 fr_p0_0 fr_p0_1) rfl rfl (cwV 0 hts (p1_gV m_1 m_2 m_3 m_4 g_t_step gz_t_step) rfl rfl rfl (by decide +kernel) ⟨by decide, by decide⟩) (va_recv hK hP (ci := 4) (q0 := 0) rfl rfl) zm_t_step rfl hl.1 rfl (Nat.le_of_ble_eq_true rfl) dX4_take_15 ⟨by decide, by decide⟩ (fun H4 lo4 hG4 hS4 => ?_)
    obtain ⟨o_5, ho_6, hf_7, hQ4⟩ := hG4
    have hP4 : va_P (dC, dI) vwCl (zW_t_take p0 o_5 p0_text c_p0_text b_p0_text p0_words c_p0_words b_p0_words) H4 := hQ4
    clear hQ4 hP hS
    refine lv_iconst (v := 1) hx hb dX4_take_18 (by decide) ?_
    exact q_zret hx hb hr hlocks (by decide) hS4 dX4_take_19 ⟨o_5, (Or.inl ⟨rfl, by first | trivial | omega⟩), ho_6, (q_fr.rf.tr hf_7 (by decide)), hP4, za_t_take⟩
  · have tc_2 := q_neN c_2
    refine lv_aload_n hx hb dX4_take_8 rfl (lv_at hl 0 rfl) (lv_iconst (v := 2) hx hb dX4_take_9 (by decide) ?_)
    refine q_cVi (As := [.int 2]) (rest := []) q_w0 trivial hK hP hDa za_t_take hS hA [0] [] (by decide +kernel) ⟨hx, hb, hml, hown, hts⟩ (t_refuse l dC dI s.heap.size p0 f_p0 2 ho_p0) rfl rfl (cwV 1 hts (p1_gV m_5 m_6 m_7 m_4 g_t_refuse gz_t_refuse) rfl rfl rfl (by decide +kernel) ⟨by decide, by decide⟩) (va_recv hK hP (ci := 4) (q0 := 0) rfl rfl) zm_t_refuse rfl hl.1 rfl (Nat.le_of_ble_eq_true rfl) dX4_take_10 ⟨by decide, by decide⟩ (fun r_8 H9 lo9 hG9 hS9 => ?_)
    obtain ⟨o_10, z_11, ho_12, hf_13, hQ9⟩ := hG9
    have hP9 : va_P (dC, dI) vwCl (zW_t_take p0 o_10 p0_text c_p0_text b_p0_text p0_words c_p0_words b_p0_words) H9 := hQ9
    clear hQ9 hP hS
    rcases z_11 with ⟨rfl, z_11⟩ | ⟨rfl, z_11⟩
    · exact z_11.elim
    · exact q_zret hx hb hr hlocks (by decide) hS9 dX4_take_13 ⟨o_10, (Or.inr ⟨rfl, by first | trivial | omega⟩), ho_12, (q_fr.rf.tr hf_13 (by decide)), hP9, za_t_take⟩
