def zo_r_common : List Cond := [.code yX9_common cX9_common 5 (some .int)]
def zw_r_common : List Cond := zo_r_common ++ []
theorem gz_r_common : zw_r_common.all goodWord = true := p1_ga (by decide +kernel) p1_g0
theorem iz_r_common : ∀ w ∈ zw_r_common, w ∈ lw_tbl := p1_ia (p1_all [1603] (by decide +kernel)) p1_i0
def zW_r_common : va_W := []
def zT_r_common : List (ClassId × FieldType) := []
def zA_r_common : List Nat := []
theorem za_r_common : (zW_r_common).map Prod.fst = zA_r_common := rfl
def zG_r_common (a0 : Int32) (a1 : Int32) (r : Int32) (X : va_W → Prop) : Prop := ((1) ≤ r.toInt ∧ r.toInt ≤ 16) ∧ X (zW_r_common)
theorem zm_r_common {a0 : Int32} {a1 : Int32} : ∀ (r : Int32), ∀ X Y : va_W → Prop, (∀ w, X w → Y w) → zG_r_common a0 a1 r X → zG_r_common a0 a1 r Y := fun r X Y h h1 => by obtain ⟨x0, hx⟩ := h1; exact ⟨x0, h _ hx⟩
set_option maxHeartbeats 4000000 in
set_option maxRecDepth 100000 in
theorem r_common (l : Launch) (dC : Nat → ClassId) (dI : Nat → Nat → Nat) (sz : Nat) (a0 : Int32) (a1 : Int32) (ta0 : (0) ≤ a0.toInt ∧ a0.toInt ≤ 16) (ta1 : (1) ≤ a1.toInt ∧ a1.toInt ≤ 16) : Met l yX9_common zw_r_common ({ frames := 0, cells := 0, slots := 0, locals := 0 }) (va_Pc [.int a0, .int a1] (q_pre (dC, dI) (zW_r_common) (zT_r_common) q_E0 sz)) (q_Qi (dC, dI) (zG_r_common a0 a1) zA_r_common (va_A (zW_r_common) sz)) 0 0 (va_A (zW_r_common) sz) := by
  refine Met.ofW (cc := cX9_common) (maxL := 5) (ret := (some .int)) (by decide) rfl ?_
  intro p e s m args below meth c s₁ B hml hv
  obtain ⟨rfl, hsz, hP, hK, hD0, hE⟩ := hv
  have hx := B.exec
  have hb := B.bytes
  have hr := B.returns
  have hts := atoms_spec (ws := zw_r_common) B.pre
  have hown : s.vm.findClass RX9 = some m.cls := findClass_of_methodNamed B.named
  have hlocks := B.notSynchronized
  subst hsz
  have hD := hD0.self (sz := s.heap.size)
  generalize hAe : va_A (zW_r_common) s.heap.size = A at hD hE ⊢
  have hA : ∀ q : Nat, s.heap.size ≤ q → A q := fun q h => by rw [← hAe]; exact Or.inr h
  have hDa : q_DA A zA_r_common := q_DA.mk hD za_r_common
  clear hAe hD0 hD
  have hS : va_S A s.heap s.heap [] := va_S.rf
  have lt_0 : (0 : Int32).toInt = 0 := by decide
  have hl := lv_entry ([.int a0, .int a1]) (n := 5) (Nat.le_of_ble_eq_true rfl)
  rw [lg_entry_eq]
  generalize (lg_sl ([.int a0, .int a1]) ++ List.replicate (5 - (lg_sl ([.int a0, .int a1])).length) Slot.unset).toArray = ls at hl ⊢
  have hl : lv_has ls 5 [(0, .int a0), (1, .int a1)] := hl
  refine lv_iload_n hx hb dX9_common_0 rfl (lv_at hl 0 rfl) (lv_istore_n (lv' := [(2, .int a0), (0, .int a0), (1, .int a1)]) hx hb dX9_common_1 rfl hl (by decide) rfl (fun ls hl => ?_))
  refine lv_iload_n hx hb dX9_common_2 rfl (lv_at hl 2 rfl) (lv_istore_n (lv' := [(3, .int a1), (2, .int a0), (0, .int a0), (1, .int a1)]) hx hb dX9_common_3 rfl hl (by decide) rfl (fun ls hl => ?_))
  have key4 : ∀ (fu4 : Nat) (pp9 : Int32) (qq9 : Int32) (H : Heap) (locs : List Loc) (ls : Array Slot) (hfu4 : qq9.toInt ≤ (fu4 : Int)) (tpp9 : (0) ≤ pp9.toInt ∧ pp9.toInt ≤ 16) (tqq9 : (0) ≤ qq9.toInt ∧ qq9.toInt ≤ 16) (hq4_0 : 1 ≤ pp9.toInt + qq9.toInt), va_P (dC, dI) vwCl (zW_r_common) H → va_S A s.heap H locs → lv_has ls 5 [(3, .int qq9), (2, .int pp9), (0, .int a0), (1, .int a1)] → W p l e (headSpec zw_r_common { frames := 0, cells := 0, slots := 0, locals := 0 }).room s m ([.int a0, .int a1] : List Value).toArray below meth c H locs 0 0 (MQ below (q_Qi (dC, dI) (zG_r_common a0 a1) zA_r_common A) ([.int a0, .int a1] : List Value).toArray s 0 0 A) (F0 m 4 ls []) := by
    intro fu4
    induction fu4 using Nat.strongRecOn with
    | ind fu4 ih4 =>
      intro pp9 qq9 H1 lo1 ls hfu4 tpp9 tqq9 hq4_0 hP1 hS1 hl
      refine lv_iload_n hx hb dX9_common_4 rfl (lv_at hl 0 rfl) ?_
      refine lv_if_eq (tgt := 21) hx hb dX9_common_5 (by decide) (fun c_2 => ?_) (fun c_2 => ?_)
      · have tc_2 := q_eq c_2
        refine lv_iload_n hx hb dX9_common_21 rfl (lv_at hl 1 rfl) ?_
        exact q_iret hx hb hr hlocks hS1 dX9_common_22 ⟨(by omega), hP1, za_r_common⟩
      · have tc_2 := q_neN c_2
        refine lv_iload_n hx hb dX9_common_8 rfl (lv_at hl 1 rfl) (lv_iload_n hx hb dX9_common_9 rfl (lv_at hl 0 rfl) (lv_irem hx hb dX9_common_10 (q_n0 (by omega)) (lv_topi fun v_3 ev_3 => ?_)))
        have tv_3 := q_remv ev_3 (by omega) (by omega)
        have rv_3 := tv_3.2
        clear tv_3
        refine lv_istore (lv' := [(4, .int v_3), (3, .int qq9), (2, .int pp9), (0, .int a0), (1, .int a1)]) hx hb dX9_common_11 hl (by decide) rfl (fun ls hl => ?_)
        refine lv_iload_n hx hb dX9_common_13 rfl (lv_at hl 1 rfl) (lv_istore_n (lv' := [(2, .int qq9), (4, .int v_3), (3, .int qq9), (0, .int a0), (1, .int a1)]) hx hb dX9_common_14 rfl hl (by decide) rfl (fun ls hl => ?_))
        refine lv_iload hx hb dX9_common_15 (lv_at hl 1 rfl) (lv_istore_n (lv' := [(3, .int v_3), (2, .int qq9), (4, .int v_3), (0, .int a0), (1, .int a1)]) hx hb dX9_common_17 rfl hl (by decide) rfl (fun ls hl => ?_))
        refine lv_goto (tgt := 4) hx hb dX9_common_18 (by decide) ?_
        exact ih4 (fu4 - 1) (by omega) qq9 v_3 _ _ _ (by omega) (by omega) (by omega) (by omega) hP1 hS1 (lv_sub hl [0, 1, 3, 4] rfl)
  exact key4 16 a0 a1 _ _ _ (by omega) (by omega) (by omega) (by omega) hP hS (lv_sub hl [0, 1, 2, 3] rfl)
