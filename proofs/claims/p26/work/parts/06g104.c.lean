def zo_t_readAny0 : List Cond := [.code yX4_readAny cX4_readAny 4 (some .boolean), .fieldLink RX4 28 "BowWalk$Reader" "token" "I", .methodLink RX4 78 yX4_step, .instanceMethod yX4_step, .selects RX4 yX4_step yX4_step, .initialized RX4, .methodLink RX4 211 yX4_readAll, .instanceMethod yX4_readAll, .selects RX4 yX4_readAll yX4_readAll, .methodLink RX4 214 yX4_putToken, .instanceMethod yX4_putToken, .selects RX4 yX4_putToken yX4_putToken]
def zw_t_readAny0 : List Cond := zo_t_readAny0 ++ (zw_t_step ++ (zw_t_readAll0 ++ (zw_t_putToken ++ (wsX40 ++ []))))
theorem gz_t_readAny0 : zw_t_readAny0.all goodWord = true := p1_ga (by decide +kernel) (p1_ga gz_t_step (p1_ga gz_t_readAll0 (p1_ga gz_t_putToken (p1_ga gk_X4 p1_g0))))
theorem iz_t_readAny0 : ∀ w ∈ zw_t_readAny0, w ∈ lw_tbl := p1_ia (p1_all [648, 311, 573, 575, 1, 105, 649, 651, 15, 676, 678, 21] (by decide +kernel)) (p1_ia iz_t_step (p1_ia iz_t_readAll0 (p1_ia iz_t_putToken (p1_ia ik_X4 p1_i0))))
def zW_t_readAny0 (p0 : Nat) (f_p0 : List Value) (p0_draft : Nat) (f_p0_draft : List Value) (p0_draft_laws : Nat) (f_p0_draft_laws : List Value) (p0_draft_laws_code : Nat) (c_p0_draft_laws_code : ClassId) (b_p0_draft_laws_code : Nat → Int32) (p0_text : Nat) (c_p0_text : ClassId) (b_p0_text : Nat → Int32) (p0_words : Nat) (c_p0_words : ClassId) (b_p0_words : Nat → Int64) : va_W := [(p0, .inr (4, f_p0)), (p0_draft, .inr (5, f_p0_draft)), (p0_draft_laws, .inr (3, f_p0_draft_laws)), (p0_draft_laws_code, .inl (c_p0_draft_laws_code, 600, .inl b_p0_draft_laws_code)), (p0_text, .inl (c_p0_text, 1600, .inl b_p0_text)), (p0_words, .inl (c_p0_words, 22, .inr (.inl b_p0_words)))]
def zT_t_readAny0 (c_p0_draft_laws_code : ClassId) (c_p0_text : ClassId) (c_p0_words : ClassId) : List (ClassId × FieldType) := [(c_p0_draft_laws_code, .int), (c_p0_text, .byte), (c_p0_words, .long)]
def zA_t_readAny0 (p0 : Nat) (p0_draft : Nat) (p0_draft_laws : Nat) (p0_draft_laws_code : Nat) (p0_text : Nat) (p0_words : Nat) : List Nat := [p0, p0_draft, p0_draft_laws, p0_draft_laws_code, p0_text, p0_words]
theorem za_t_readAny0 {p0 : Nat} {f_p0 : List Value} {p0_draft : Nat} {f_p0_draft : List Value} {p0_draft_laws : Nat} {f_p0_draft_laws : List Value} {p0_draft_laws_code : Nat} {c_p0_draft_laws_code : ClassId} {b_p0_draft_laws_code : Nat → Int32} {p0_text : Nat} {c_p0_text : ClassId} {b_p0_text : Nat → Int32} {p0_words : Nat} {c_p0_words : ClassId} {b_p0_words : Nat → Int64} : (zW_t_readAny0 p0 f_p0 p0_draft f_p0_draft p0_draft_laws f_p0_draft_laws p0_draft_laws_code c_p0_draft_laws_code b_p0_draft_laws_code p0_text c_p0_text b_p0_text p0_words c_p0_words b_p0_words).map Prod.fst = (zA_t_readAny0 p0 p0_draft p0_draft_laws p0_draft_laws_code p0_text p0_words) := rfl
def zG_t_readAny0 (p0 : Nat) (f_p0 : List Value) (p0_draft : Nat) (f_p0_draft : List Value) (p0_draft_laws : Nat) (f_p0_draft_laws : List Value) (p0_draft_laws_code : Nat) (c_p0_draft_laws_code : ClassId) (b_p0_draft_laws_code : Nat → Int32) (p0_text : Nat) (c_p0_text : ClassId) (b_p0_text : Nat → Int32) (p0_words : Nat) (c_p0_words : ClassId) (b_p0_words : Nat → Int64) (r : Int32) (X : va_W → Prop) : Prop := ∃ (y_p0 : List Value) (y_p0_draft_laws : List Value) (y_p0_draft_laws_code : Nat → Int32), ((r = 1 ∧ (True)) ∨ (r = 0 ∧ (True))) ∧ OKX4 y_p0 ∧ q_fr [3, 4, 5, 6, 7, 9, 10] f_p0 y_p0 ∧ OKX3 y_p0_draft_laws ∧ q_fr [3, 5] f_p0_draft_laws y_p0_draft_laws ∧ X (zW_t_readAny0 p0 y_p0 p0_draft f_p0_draft p0_draft_laws y_p0_draft_laws p0_draft_laws_code c_p0_draft_laws_code y_p0_draft_laws_code p0_text c_p0_text b_p0_text p0_words c_p0_words b_p0_words)
theorem zm_t_readAny0 {p0 : Nat} {f_p0 : List Value} {p0_draft : Nat} {f_p0_draft : List Value} {p0_draft_laws : Nat} {f_p0_draft_laws : List Value} {p0_draft_laws_code : Nat} {c_p0_draft_laws_code : ClassId} {b_p0_draft_laws_code : Nat → Int32} {p0_text : Nat} {c_p0_text : ClassId} {b_p0_text : Nat → Int32} {p0_words : Nat} {c_p0_words : ClassId} {b_p0_words : Nat → Int64} : ∀ (r : Int32), ∀ X Y : va_W → Prop, (∀ w, X w → Y w) → zG_t_readAny0 p0 f_p0 p0_draft f_p0_draft p0_draft_laws f_p0_draft_laws p0_draft_laws_code c_p0_draft_laws_code b_p0_draft_laws_code p0_text c_p0_text b_p0_text p0_words c_p0_words b_p0_words r X → zG_t_readAny0 p0 f_p0 p0_draft f_p0_draft p0_draft_laws f_p0_draft_laws p0_draft_laws_code c_p0_draft_laws_code b_p0_draft_laws_code p0_text c_p0_text b_p0_text p0_words c_p0_words b_p0_words r Y := fun r X Y h h1 => by obtain ⟨x0, x1, x2, x3, x4, x5, x6, x7, hx⟩ := h1; exact ⟨x0, x1, x2, x3, x4, x5, x6, x7, h _ hx⟩
set_option maxHeartbeats 4000000 in
set_option maxRecDepth 100000 in
theorem t_readAny0 (l : Launch) (dC : Nat → ClassId) (dI : Nat → Nat → Nat) (sz : Nat) (p0 : Nat) (f_p0 : List Value) (p0_draft : Nat) (f_p0_draft : List Value) (p0_draft_laws : Nat) (f_p0_draft_laws : List Value) (p0_draft_laws_code : Nat) (c_p0_draft_laws_code : ClassId) (b_p0_draft_laws_code : Nat → Int32) (p0_text : Nat) (c_p0_text : ClassId) (b_p0_text : Nat → Int32) (p0_words : Nat) (c_p0_words : ClassId) (b_p0_words : Nat → Int64) (ho_p0 : OKX4 f_p0) (fr_p0_0 : q_rf f_p0 0 p0_words) (fr_p0_1 : q_rf f_p0 1 p0_text) (fr_p0_8 : q_rf f_p0 8 p0_draft) (ho_p0_draft : OKX5 f_p0_draft) (fr_p0_draft_12 : q_rf f_p0_draft 12 p0_draft_laws) (ho_p0_draft_laws : OKX3 f_p0_draft_laws) (fr_p0_draft_laws_0 : q_rf f_p0_draft_laws 0 p0_draft_laws_code) : Met l yX4_readAny zw_t_readAny0 ({ frames := 61, cells := 0, slots := 0, locals := 1391 }) (va_Pc [.ref p0, .int 0] (q_pre (dC, dI) (zW_t_readAny0 p0 f_p0 p0_draft f_p0_draft p0_draft_laws f_p0_draft_laws p0_draft_laws_code c_p0_draft_laws_code b_p0_draft_laws_code p0_text c_p0_text b_p0_text p0_words c_p0_words b_p0_words) (zT_t_readAny0 c_p0_draft_laws_code c_p0_text c_p0_words) q_ex sz)) (q_Qi (dC, dI) (zG_t_readAny0 p0 f_p0 p0_draft f_p0_draft p0_draft_laws f_p0_draft_laws p0_draft_laws_code c_p0_draft_laws_code b_p0_draft_laws_code p0_text c_p0_text b_p0_text p0_words c_p0_words b_p0_words) (zA_t_readAny0 p0 p0_draft p0_draft_laws p0_draft_laws_code p0_text p0_words) (va_A (zW_t_readAny0 p0 f_p0 p0_draft f_p0_draft p0_draft_laws f_p0_draft_laws p0_draft_laws_code c_p0_draft_laws_code b_p0_draft_laws_code p0_text c_p0_text b_p0_text p0_words c_p0_words b_p0_words) sz)) 0 0 (va_A (zW_t_readAny0 p0 f_p0 p0_draft f_p0_draft p0_draft_laws f_p0_draft_laws p0_draft_laws_code c_p0_draft_laws_code b_p0_draft_laws_code p0_text c_p0_text b_p0_text p0_words c_p0_words b_p0_words) sz) := by
  refine Met.ofW (cc := cX4_readAny) (maxL := 4) (ret := (some .boolean)) (by decide) rfl ?_
  intro p e s m args below meth c s₁ B hml hv
  obtain ⟨rfl, hsz, hP, hK, hD0, hE⟩ := hv
  have hx := B.exec
  have hb := B.bytes
  have hr := B.returns
  have hts := atoms_spec (ws := zw_t_readAny0) B.pre
  have hown : s.vm.findClass RX4 = some m.cls := findClass_of_methodNamed B.named
  have hlocks := B.notSynchronized
  subst hsz
  have hD := hD0.self (sz := s.heap.size)
  generalize hAe : va_A (zW_t_readAny0 p0 f_p0 p0_draft f_p0_draft p0_draft_laws f_p0_draft_laws p0_draft_laws_code c_p0_draft_laws_code b_p0_draft_laws_code p0_text c_p0_text b_p0_text p0_words c_p0_words b_p0_words) s.heap.size = A at hD hE ⊢
  have hA : ∀ q : Nat, s.heap.size ≤ q → A q := fun q h => by rw [← hAe]; exact Or.inr h
  have hDa : q_DA A (zA_t_readAny0 p0 p0_draft p0_draft_laws p0_draft_laws_code p0_text p0_words) := q_DA.mk hD za_t_readAny0
  clear hAe hD0 hD
  have hS : va_S A s.heap s.heap [] := va_S.rf
  have m_0 : (.fieldLink RX4 28 "BowWalk$Reader" "token" "I" : Cond) ∈ zw_t_readAny0 := List.mem_append_left _ (List.mem_of_getElem? (i := 1) rfl)
  have k_0 := hts _ m_0
  have m_1 : (.methodLink RX4 78 yX4_step : Cond) ∈ zw_t_readAny0 := List.mem_append_left _ (List.mem_of_getElem? (i := 2) rfl)
  have k_1 := hts _ m_1
  have m_2 : (.instanceMethod yX4_step : Cond) ∈ zw_t_readAny0 := List.mem_append_left _ (List.mem_of_getElem? (i := 3) rfl)
  have k_2 := hts _ m_2
  have m_3 : (.selects RX4 yX4_step yX4_step : Cond) ∈ zw_t_readAny0 := List.mem_append_left _ (List.mem_of_getElem? (i := 4) rfl)
  have k_3 := hts _ m_3
  have m_4 : (.initialized RX4 : Cond) ∈ zw_t_readAny0 := List.mem_append_left _ (List.mem_of_getElem? (i := 5) rfl)
  have k_4 := hts _ m_4
  have m_5 : (.methodLink RX4 211 yX4_readAll : Cond) ∈ zw_t_readAny0 := List.mem_append_left _ (List.mem_of_getElem? (i := 6) rfl)
  have k_5 := hts _ m_5
  have m_6 : (.instanceMethod yX4_readAll : Cond) ∈ zw_t_readAny0 := List.mem_append_left _ (List.mem_of_getElem? (i := 7) rfl)
  have k_6 := hts _ m_6
  have m_7 : (.selects RX4 yX4_readAll yX4_readAll : Cond) ∈ zw_t_readAny0 := List.mem_append_left _ (List.mem_of_getElem? (i := 8) rfl)
  have k_7 := hts _ m_7
  have m_8 : (.methodLink RX4 214 yX4_putToken : Cond) ∈ zw_t_readAny0 := List.mem_append_left _ (List.mem_of_getElem? (i := 9) rfl)
  have k_8 := hts _ m_8
  have m_9 : (.instanceMethod yX4_putToken : Cond) ∈ zw_t_readAny0 := List.mem_append_left _ (List.mem_of_getElem? (i := 10) rfl)
  have k_9 := hts _ m_9
  have m_10 : (.selects RX4 yX4_putToken yX4_putToken : Cond) ∈ zw_t_readAny0 := List.mem_append_left _ (List.mem_of_getElem? (i := 11) rfl)
  have k_10 := hts _ m_10
  have g_t_step : ∀ w ∈ zw_t_step, w ∈ zw_t_readAny0 := fun w h => List.mem_append_right _ (List.mem_append_left _ h)
  have g_t_readAll0 : ∀ w ∈ zw_t_readAll0, w ∈ zw_t_readAny0 := fun w h => List.mem_append_right _ (List.mem_append_right _ (List.mem_append_left _ h))
  have g_t_putToken : ∀ w ∈ zw_t_putToken, w ∈ zw_t_readAny0 := fun w h => List.mem_append_right _ (List.mem_append_right _ (List.mem_append_right _ (List.mem_append_left _ h)))
  have i_X4 : ∀ w ∈ u_ws RX4 TX4 11, w ∈ zw_t_readAny0 := fun w h => List.mem_append_right _ (List.mem_append_right _ (List.mem_append_right _ (List.mem_append_right _ (List.mem_append_left _ h))))
  have lt_0 : (0 : Int32).toInt = 0 := by decide
  have lt_1 : (1 : Int32).toInt = 1 := by decide
  have lt_60 : (60 : Int32).toInt = 60 := by decide
  have lt_275 : (275 : Int32).toInt = 275 := by decide
  have hl := lv_entry ([.ref p0, .int 0]) (n := 4) (Nat.le_of_ble_eq_true rfl)
  rw [lg_entry_eq]
  generalize (lg_sl ([.ref p0, .int 0]) ++ List.replicate (4 - (lg_sl ([.ref p0, .int 0])).length) Slot.unset).toArray = ls at hl ⊢
  have hl : lv_has ls 4 [(0, .ref p0), (1, .int 0)] := hl
  have jn_2 : ∀ (fz_p0 : List Value) (fz_p0_draft_laws : List Value) (bz_p0_draft_laws_code : Nat → Int32) (j_1 : Int32) (H : Heap) (locs : List Loc) (ls : Array Slot) (ho_fz_p0 : OKX4 fz_p0) (hf_fz_p0 : q_fr [3, 4, 5, 6, 7, 9, 10] f_p0 fz_p0) (fr_fz_p0_0 : q_rf fz_p0 0 p0_words) (fr_fz_p0_1 : q_rf fz_p0 1 p0_text) (fr_fz_p0_8 : q_rf fz_p0 8 p0_draft) (ho_fz_p0_draft_laws : OKX3 fz_p0_draft_laws) (hf_fz_p0_draft_laws : q_fr [3, 5] f_p0_draft_laws fz_p0_draft_laws) (fr_fz_p0_draft_laws_0 : q_rf fz_p0_draft_laws 0 p0_draft_laws_code) (tj_1 : (0) ≤ j_1.toInt ∧ j_1.toInt ≤ 1), va_P (dC, dI) vwCl (zW_t_readAny0 p0 fz_p0 p0_draft f_p0_draft p0_draft_laws fz_p0_draft_laws p0_draft_laws_code c_p0_draft_laws_code bz_p0_draft_laws_code p0_text c_p0_text b_p0_text p0_words c_p0_words b_p0_words) H → va_S A s.heap H locs → lv_has ls 4 [(0, .ref p0), (1, .int 0)] → W p l e (headSpec zw_t_readAny0 { frames := 61, cells := 0, slots := 0, locals := 1391 }).room s m ([.ref p0, .int 0] : List Value).toArray below meth c H locs 0 0 (MQ below (q_Qi (dC, dI) (zG_t_readAny0 p0 f_p0 p0_draft f_p0_draft p0_draft_laws f_p0_draft_laws p0_draft_laws_code c_p0_draft_laws_code b_p0_draft_laws_code p0_text c_p0_text b_p0_text p0_words c_p0_words b_p0_words) (zA_t_readAny0 p0 p0_draft p0_draft_laws p0_draft_laws_code p0_text p0_words) A) ([.ref p0, .int 0] : List Value).toArray s 0 0 A) (F0 m 5 ls [.int j_1]) := by
    intro fz_p0 fz_p0_draft_laws bz_p0_draft_laws_code j_1 H3 lo3 ls ho_fz_p0 hf_fz_p0 fr_fz_p0_0 fr_fz_p0_1 fr_fz_p0_8 ho_fz_p0_draft_laws hf_fz_p0_draft_laws fr_fz_p0_draft_laws_0 tj_1 hP3 hS3 hl
    refine lv_istore_n (lv' := [(2, .int j_1), (0, .ref p0), (1, .int 0)]) hx hb dX4_readAny_5 rfl hl (by decide) rfl (fun ls hl => ?_)
    refine lv_iconst (v := 0) hx hb dX4_readAny_6 (by decide) (lv_istore_n (lv' := [(3, .int 0), (2, .int j_1), (0, .ref p0), (1, .int 0)]) hx hb dX4_readAny_7 rfl hl (by decide) rfl (fun ls hl => ?_))
    have key8 : ∀ (fu8 : Nat) (rd : Int32) (n : Int32) (fz_p0 : List Value) (fz_p0_draft_laws : List Value) (bz_p0_draft_laws_code : Nat → Int32) (H : Heap) (locs : List Loc) (ls : Array Slot) (hfu8 : 60 - n.toInt ≤ (fu8 : Int)) (trd : (0) ≤ rd.toInt ∧ rd.toInt ≤ 1) (tn : (0) ≤ n.toInt ∧ n.toInt ≤ 60) (ho_fz_p0 : OKX4 fz_p0) (hf_fz_p0 : q_fr [3, 4, 5, 6, 7, 9, 10] f_p0 fz_p0) (fr_fz_p0_0 : q_rf fz_p0 0 p0_words) (fr_fz_p0_1 : q_rf fz_p0 1 p0_text) (fr_fz_p0_8 : q_rf fz_p0 8 p0_draft) (ho_fz_p0_draft_laws : OKX3 fz_p0_draft_laws) (hf_fz_p0_draft_laws : q_fr [3, 5] f_p0_draft_laws fz_p0_draft_laws) (fr_fz_p0_draft_laws_0 : q_rf fz_p0_draft_laws 0 p0_draft_laws_code), va_P (dC, dI) vwCl (zW_t_readAny0 p0 fz_p0 p0_draft f_p0_draft p0_draft_laws fz_p0_draft_laws p0_draft_laws_code c_p0_draft_laws_code bz_p0_draft_laws_code p0_text c_p0_text b_p0_text p0_words c_p0_words b_p0_words) H → va_S A s.heap H locs → lv_has ls 4 [(3, .int n), (2, .int rd), (0, .ref p0), (1, .int 0)] → W p l e (headSpec zw_t_readAny0 { frames := 61, cells := 0, slots := 0, locals := 1391 }).room s m ([.ref p0, .int 0] : List Value).toArray below meth c H locs 0 0 (MQ below (q_Qi (dC, dI) (zG_t_readAny0 p0 f_p0 p0_draft f_p0_draft p0_draft_laws f_p0_draft_laws p0_draft_laws_code c_p0_draft_laws_code b_p0_draft_laws_code p0_text c_p0_text b_p0_text p0_words c_p0_words b_p0_words) (zA_t_readAny0 p0 p0_draft p0_draft_laws p0_draft_laws_code p0_text p0_words) A) ([.ref p0, .int 0] : List Value).toArray s 0 0 A) (F0 m 8 ls []) := by
      intro fu8
      induction fu8 using Nat.strongRecOn with
      | ind fu8 ih8 =>
        intro rd n fz_p0 fz_p0_draft_laws bz_p0_draft_laws_code H4 lo4 ls hfu8 trd tn ho_fz_p0 hf_fz_p0 fr_fz_p0_0 fr_fz_p0_1 fr_fz_p0_8 ho_fz_p0_draft_laws hf_fz_p0_draft_laws fr_fz_p0_draft_laws_0 hP4 hS4 hl
        refine lv_iload_n hx hb dX4_readAny_8 rfl (lv_at hl 0 rfl) (lv_bipush (v := 60) hx hb dX4_readAny_9 (by decide) ?_)
        refine lv_icmp_ge (tgt := 62) hx hb dX4_readAny_11 (by decide) (fun c_5 => ?_) (fun c_5 => ?_)
        · have tc_5 := q_ge c_5
          refine lv_iload_n hx hb dX4_readAny_62 rfl (lv_at hl 1 rfl) ?_
          rcases q_c2 (i := rd) (by omega) (by omega) with hb_6 | hb_6
          · exact q_zret hx hb hr hlocks (by rw [hb_6]; decide) hS4 dX4_readAny_63 ⟨fz_p0, fz_p0_draft_laws, bz_p0_draft_laws_code, (Or.inr ⟨hb_6, by first | trivial | omega⟩), ho_fz_p0, hf_fz_p0, ho_fz_p0_draft_laws, hf_fz_p0_draft_laws, hP4, za_t_readAny0⟩
          · exact q_zret hx hb hr hlocks (by rw [hb_6]; decide) hS4 dX4_readAny_63 ⟨fz_p0, fz_p0_draft_laws, bz_p0_draft_laws_code, (Or.inl ⟨hb_6, by first | trivial | omega⟩), ho_fz_p0, hf_fz_p0, ho_fz_p0_draft_laws, hf_fz_p0_draft_laws, hP4, za_t_readAny0⟩
        · have tc_5 := q_ltN c_5
          refine lv_iload_n hx hb dX4_readAny_14 rfl (lv_at hl 1 rfl) ?_
          refine lv_if_eq (tgt := 62) hx hb dX4_readAny_15 (by decide) (fun c_7 => ?_) (fun c_7 => ?_)
          · have tc_7 := q_eq c_7
            refine lv_iload_n hx hb dX4_readAny_62 rfl (lv_at hl 1 rfl) ?_
            rcases q_c2 (i := rd) (by omega) (by omega) with hb_8 | hb_8
            · exact q_zret hx hb hr hlocks (by rw [hb_8]; decide) hS4 dX4_readAny_63 ⟨fz_p0, fz_p0_draft_laws, bz_p0_draft_laws_code, (Or.inr ⟨hb_8, by first | trivial | omega⟩), ho_fz_p0, hf_fz_p0, ho_fz_p0_draft_laws, hf_fz_p0_draft_laws, hP4, za_t_readAny0⟩
            · exact q_zret hx hb hr hlocks (by rw [hb_8]; decide) hS4 dX4_readAny_63 ⟨fz_p0, fz_p0_draft_laws, bz_p0_draft_laws_code, (Or.inl ⟨hb_8, by first | trivial | omega⟩), ho_fz_p0, hf_fz_p0, ho_fz_p0_draft_laws, hf_fz_p0_draft_laws, hP4, za_t_readAny0⟩
          · have tc_7 := q_neN c_7
            refine lv_aload_n hx hb dX4_readAny_18 rfl (lv_at hl 2 rfl) ?_
            obtain ⟨v_9, fv_9⟩ := OKX4_g4 ho_fz_p0
            refine qg_X4_4 hx hb hts i_X4 hown hK hP4 0 rfl k_0 fv_9 dX4_readAny_19 (lv_sipush (v := 275) hx hb dX4_readAny_22 (by decide) ?_)
            refine lv_icmp_ne (tgt := 62) hx hb dX4_readAny_25 (by decide) (fun c_10 => ?_) (fun c_10 => ?_)
            · have tc_10 := q_ne c_10
              refine lv_iload_n hx hb dX4_readAny_62 rfl (lv_at hl 1 rfl) ?_
              rcases q_c2 (i := rd) (by omega) (by omega) with hb_11 | hb_11
              · exact q_zret hx hb hr hlocks (by rw [hb_11]; decide) hS4 dX4_readAny_63 ⟨fz_p0, fz_p0_draft_laws, bz_p0_draft_laws_code, (Or.inr ⟨hb_11, by first | trivial | omega⟩), ho_fz_p0, hf_fz_p0, ho_fz_p0_draft_laws, hf_fz_p0_draft_laws, hP4, za_t_readAny0⟩
              · exact q_zret hx hb hr hlocks (by rw [hb_11]; decide) hS4 dX4_readAny_63 ⟨fz_p0, fz_p0_draft_laws, bz_p0_draft_laws_code, (Or.inl ⟨hb_11, by first | trivial | omega⟩), ho_fz_p0, hf_fz_p0, ho_fz_p0_draft_laws, hf_fz_p0_draft_laws, hP4, za_t_readAny0⟩
            · have tc_10 := q_eqN c_10
              refine lv_aload_n hx hb dX4_readAny_28 rfl (lv_at hl 2 rfl) ?_
              refine q_cVv (As := []) (rest := []) q_exw hE hK hP4 hDa za_t_readAny0 hS4 hA [0, 4, 5] [1, 2] (by decide +kernel) ⟨hx, hb, hml, hown, hts⟩ (t_step l dC dI H4.size p0 fz_p0 p0_text c_p0_text b_p0_text p0_words c_p0_words b_p0_words ho_fz_p0 fr_fz_p0_0 fr_fz_p0_1) rfl rfl (cwV 0 hts (p1_gV m_1 m_2 m_3 m_4 g_t_step gz_t_step) rfl rfl rfl (by decide +kernel) ⟨by decide, by decide⟩) (va_recv hK hP4 (ci := 4) (q0 := 0) rfl rfl) zm_t_step rfl hl.1 rfl (Nat.le_of_ble_eq_true rfl) dX4_readAny_29 ⟨by decide, by decide⟩ (fun H13 lo13 hG13 hS13 => ?_)
              obtain ⟨o_14, ho_15, hf_16, hQ13⟩ := hG13
              have hP13 : va_P (dC, dI) vwCl (zW_t_readAny0 p0 o_14 p0_draft f_p0_draft p0_draft_laws fz_p0_draft_laws p0_draft_laws_code c_p0_draft_laws_code bz_p0_draft_laws_code p0_text c_p0_text b_p0_text p0_words c_p0_words b_p0_words) H13 := hQ13
              clear hQ13 hP4 hS4
              refine lv_aload_n hx hb dX4_readAny_32 rfl (lv_at hl 2 rfl) (lv_iload_n hx hb dX4_readAny_33 rfl (lv_at hl 3 rfl) ?_)
              refine q_cVi (As := [.int 0]) (rest := []) q_exw hE hK hP13 hDa za_t_readAny0 hS13 hA [0, 1, 2, 3, 4, 5] [0, 1, 2] (by decide +kernel) ⟨hx, hb, hml, hown, hts⟩ (t_readAll0 l dC dI H13.size p0 o_14 p0_draft f_p0_draft p0_draft_laws fz_p0_draft_laws p0_draft_laws_code c_p0_draft_laws_code bz_p0_draft_laws_code p0_text c_p0_text b_p0_text p0_words c_p0_words b_p0_words ho_15 ((hf_16.u (by decide) fr_fz_p0_0)) ((hf_16.u (by decide) fr_fz_p0_1)) ((hf_16.u (by decide) fr_fz_p0_8)) ho_p0_draft fr_p0_draft_12 ho_fz_p0_draft_laws fr_fz_p0_draft_laws_0) rfl rfl (cwV 1 hts (p1_gV m_5 m_6 m_7 m_4 g_t_readAll0 gz_t_readAll0) rfl rfl rfl (by decide +kernel) ⟨by decide, by decide⟩) (va_recv hK hP13 (ci := 4) (q0 := 0) rfl rfl) zm_t_readAll0 rfl hl.1 rfl (Nat.le_of_ble_eq_true rfl) dX4_readAny_34 ⟨by decide, by decide⟩ (fun r_17 H18 lo18 hG18 hS18 => ?_)
              obtain ⟨o_19, o_20, o_21, z_22, ho_23, hf_24, ho_25, hf_26, hQ18⟩ := hG18
              have hP18 : va_P (dC, dI) vwCl (zW_t_readAny0 p0 o_19 p0_draft f_p0_draft p0_draft_laws o_20 p0_draft_laws_code c_p0_draft_laws_code o_21 p0_text c_p0_text b_p0_text p0_words c_p0_words b_p0_words) H18 := hQ18
              clear hQ18 hP13 hS13
              rcases z_22 with ⟨rfl, z_22⟩ | ⟨rfl, z_22⟩
              · refine lv_if_eq (tgt := 54) hx hb dX4_readAny_37 (by decide) (fun c_27 => absurd c_27 (by decide)) (fun c_27 => ?_)
                refine lv_aload_n hx hb dX4_readAny_40 rfl (lv_at hl 2 rfl) (lv_sipush (v := 275) hx hb dX4_readAny_41 (by decide) ?_)
                refine q_cVi (As := [.int 275]) (rest := []) q_w0 trivial hK hP18 hDa za_t_readAny0 hS18 hA [0, 1, 2, 3] [0] (by decide +kernel) ⟨hx, hb, hml, hown, hts⟩ (t_putToken l dC dI H18.size p0 o_19 p0_draft f_p0_draft p0_draft_laws o_20 p0_draft_laws_code c_p0_draft_laws_code o_21 275 ho_23 ((hf_24.u (by decide) (hf_16.u (by decide) fr_fz_p0_8))) ho_p0_draft fr_p0_draft_12 ho_25 ((hf_26.u (by decide) fr_fz_p0_draft_laws_0))) rfl rfl (cwV 1 hts (p1_gV m_8 m_9 m_10 m_4 g_t_putToken gz_t_putToken) rfl rfl rfl (by decide +kernel) ⟨by decide, by decide⟩) (va_recv hK hP18 (ci := 4) (q0 := 0) rfl rfl) zm_t_putToken rfl hl.1 rfl (Nat.le_of_ble_eq_true rfl) dX4_readAny_44 ⟨by decide, by decide⟩ (fun r_28 H29 lo29 hG29 hS29 => ?_)
                obtain ⟨o_30, o_31, o_32, z_33, ho_34, hf_35, ho_36, hf_37, hQ29⟩ := hG29
                have hP29 : va_P (dC, dI) vwCl (zW_t_readAny0 p0 o_30 p0_draft f_p0_draft p0_draft_laws o_31 p0_draft_laws_code c_p0_draft_laws_code o_32 p0_text c_p0_text b_p0_text p0_words c_p0_words b_p0_words) H29 := hQ29
                clear hQ29 hP18 hS18
                rcases z_33 with ⟨rfl, z_33⟩ | ⟨rfl, z_33⟩
                · refine lv_if_eq (tgt := 54) hx hb dX4_readAny_47 (by decide) (fun c_38 => absurd c_38 (by decide)) (fun c_38 => ?_)
                  refine lv_iconst (v := 1) hx hb dX4_readAny_50 (by decide) (lv_goto (tgt := 55) hx hb dX4_readAny_51 (by decide) (lv_istore_n (lv' := [(2, .int 1), (3, .int n), (0, .ref p0), (1, .int 0)]) hx hb dX4_readAny_55 rfl hl (by decide) rfl (fun ls hl => ?_)))
                  obtain ⟨v_39, ev_39⟩ : ∃ y : Int32, y = n + 1 := ⟨_, rfl⟩
                  have tv_39 := q_add ev_39 (by omega) (by omega)
                  refine lv_iinc (v := v_39) (lv' := [(3, .int v_39), (2, .int 1), (0, .ref p0), (1, .int 0)]) hx hb dX4_readAny_56 hl (k := 1) rfl (by rw [ev_39]; rfl) (by decide) rfl (fun ls hl => ?_)
                  refine lv_goto (tgt := 8) hx hb dX4_readAny_59 (by decide) ?_
                  exact ih8 (fu8 - 1) (by omega) 1 v_39 o_30 o_31 o_32 _ _ _ (by omega) (by omega) (by omega) ho_34 (((hf_fz_p0.tr hf_16 (by decide)).tr hf_24 (by decide)).tr hf_35 (by decide)) (hf_35.u (by decide) (hf_24.u (by decide) (hf_16.u (by decide) fr_fz_p0_0))) (hf_35.u (by decide) (hf_24.u (by decide) (hf_16.u (by decide) fr_fz_p0_1))) (hf_35.u (by decide) (hf_24.u (by decide) (hf_16.u (by decide) fr_fz_p0_8))) ho_36 ((hf_fz_p0_draft_laws.tr hf_26 (by decide)).tr hf_37 (by decide)) (hf_37.u (by decide) (hf_26.u (by decide) fr_fz_p0_draft_laws_0)) hP29 hS29 (lv_sub hl [0, 1, 2, 3] rfl)
                · refine lv_if_eq (tgt := 54) hx hb dX4_readAny_47 (by decide) (fun c_40 => ?_) (fun c_40 => absurd c_40 (by decide))
                  refine lv_iconst (v := 0) hx hb dX4_readAny_54 (by decide) (lv_istore_n (lv' := [(2, .int 0), (3, .int n), (0, .ref p0), (1, .int 0)]) hx hb dX4_readAny_55 rfl hl (by decide) rfl (fun ls hl => ?_))
                  obtain ⟨v_41, ev_41⟩ : ∃ y : Int32, y = n + 1 := ⟨_, rfl⟩
                  have tv_41 := q_add ev_41 (by omega) (by omega)
                  refine lv_iinc (v := v_41) (lv' := [(3, .int v_41), (2, .int 0), (0, .ref p0), (1, .int 0)]) hx hb dX4_readAny_56 hl (k := 1) rfl (by rw [ev_41]; rfl) (by decide) rfl (fun ls hl => ?_)
                  refine lv_goto (tgt := 8) hx hb dX4_readAny_59 (by decide) ?_
                  exact ih8 (fu8 - 1) (by omega) 0 v_41 o_30 o_31 o_32 _ _ _ (by omega) (by omega) (by omega) ho_34 (((hf_fz_p0.tr hf_16 (by decide)).tr hf_24 (by decide)).tr hf_35 (by decide)) (hf_35.u (by decide) (hf_24.u (by decide) (hf_16.u (by decide) fr_fz_p0_0))) (hf_35.u (by decide) (hf_24.u (by decide) (hf_16.u (by decide) fr_fz_p0_1))) (hf_35.u (by decide) (hf_24.u (by decide) (hf_16.u (by decide) fr_fz_p0_8))) ho_36 ((hf_fz_p0_draft_laws.tr hf_26 (by decide)).tr hf_37 (by decide)) (hf_37.u (by decide) (hf_26.u (by decide) fr_fz_p0_draft_laws_0)) hP29 hS29 (lv_sub hl [0, 1, 2, 3] rfl)
              · refine lv_if_eq (tgt := 54) hx hb dX4_readAny_37 (by decide) (fun c_42 => ?_) (fun c_42 => absurd c_42 (by decide))
                refine lv_iconst (v := 0) hx hb dX4_readAny_54 (by decide) (lv_istore_n (lv' := [(2, .int 0), (3, .int n), (0, .ref p0), (1, .int 0)]) hx hb dX4_readAny_55 rfl hl (by decide) rfl (fun ls hl => ?_))
                obtain ⟨v_43, ev_43⟩ : ∃ y : Int32, y = n + 1 := ⟨_, rfl⟩
                have tv_43 := q_add ev_43 (by omega) (by omega)
                refine lv_iinc (v := v_43) (lv' := [(3, .int v_43), (2, .int 0), (0, .ref p0), (1, .int 0)]) hx hb dX4_readAny_56 hl (k := 1) rfl (by rw [ev_43]; rfl) (by decide) rfl (fun ls hl => ?_)
                refine lv_goto (tgt := 8) hx hb dX4_readAny_59 (by decide) ?_
                exact ih8 (fu8 - 1) (by omega) 0 v_43 o_19 o_20 o_21 _ _ _ (by omega) (by omega) (by omega) ho_23 ((hf_fz_p0.tr hf_16 (by decide)).tr hf_24 (by decide)) (hf_24.u (by decide) (hf_16.u (by decide) fr_fz_p0_0)) (hf_24.u (by decide) (hf_16.u (by decide) fr_fz_p0_1)) (hf_24.u (by decide) (hf_16.u (by decide) fr_fz_p0_8)) ho_25 (hf_fz_p0_draft_laws.tr hf_26 (by decide)) (hf_26.u (by decide) fr_fz_p0_draft_laws_0) hP18 hS18 (lv_sub hl [0, 1, 2, 3] rfl)
    exact key8 60 j_1 0 fz_p0 fz_p0_draft_laws bz_p0_draft_laws_code _ _ _ (by omega) (by omega) (by omega) ho_fz_p0 hf_fz_p0 fr_fz_p0_0 fr_fz_p0_1 fr_fz_p0_8 ho_fz_p0_draft_laws hf_fz_p0_draft_laws fr_fz_p0_draft_laws_0 hP3 hS3 (lv_sub hl [0, 1, 2, 3] rfl)
  refine lv_aload_n hx hb dX4_readAny_0 rfl (lv_at hl 0 rfl) (lv_iload_n hx hb dX4_readAny_1 rfl (lv_at hl 1 rfl) ?_)
  refine q_cVi (As := [.int 0]) (rest := []) q_exw hE hK hP hDa za_t_readAny0 hS hA [0, 1, 2, 3, 4, 5] [0, 1, 2] (by decide +kernel) ⟨hx, hb, hml, hown, hts⟩ (t_readAll0 l dC dI s.heap.size p0 f_p0 p0_draft f_p0_draft p0_draft_laws f_p0_draft_laws p0_draft_laws_code c_p0_draft_laws_code b_p0_draft_laws_code p0_text c_p0_text b_p0_text p0_words c_p0_words b_p0_words ho_p0 fr_p0_0 fr_p0_1 fr_p0_8 ho_p0_draft fr_p0_draft_12 ho_p0_draft_laws fr_p0_draft_laws_0) rfl rfl (cwV 1 hts (p1_gV m_5 m_6 m_7 m_4 g_t_readAll0 gz_t_readAll0) rfl rfl rfl (by decide +kernel) ⟨by decide, by decide⟩) (va_recv hK hP (ci := 4) (q0 := 0) rfl rfl) zm_t_readAll0 rfl hl.1 rfl (Nat.le_of_ble_eq_true rfl) dX4_readAny_2 ⟨by decide, by decide⟩ (fun r_44 H45 lo45 hG45 hS45 => ?_)
  obtain ⟨o_46, o_47, o_48, z_49, ho_50, hf_51, ho_52, hf_53, hQ45⟩ := hG45
  have hP45 : va_P (dC, dI) vwCl (zW_t_readAny0 p0 o_46 p0_draft f_p0_draft p0_draft_laws o_47 p0_draft_laws_code c_p0_draft_laws_code o_48 p0_text c_p0_text b_p0_text p0_words c_p0_words b_p0_words) H45 := hQ45
  clear hQ45 hP hS
  rcases z_49 with ⟨rfl, z_49⟩ | ⟨rfl, z_49⟩
  · exact jn_2 o_46 o_47 o_48 1 _ _ _ ho_50 (q_fr.rf.tr hf_51 (by decide)) (hf_51.u (by decide) fr_p0_0) (hf_51.u (by decide) fr_p0_1) (hf_51.u (by decide) fr_p0_8) ho_52 (q_fr.rf.tr hf_53 (by decide)) (hf_53.u (by decide) fr_p0_draft_laws_0) (by omega) hP45 hS45 (lv_sub hl [0, 1] rfl)
  · exact jn_2 o_46 o_47 o_48 0 _ _ _ ho_50 (q_fr.rf.tr hf_51 (by decide)) (hf_51.u (by decide) fr_p0_0) (hf_51.u (by decide) fr_p0_1) (hf_51.u (by decide) fr_p0_8) ho_52 (q_fr.rf.tr hf_53 (by decide)) (hf_53.u (by decide) fr_p0_draft_laws_0) (by omega) hP45 hS45 (lv_sub hl [0, 1] rfl)
