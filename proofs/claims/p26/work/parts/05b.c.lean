def zo_d_join : List Cond := [.code yX3_join cX3_join 3 (some .int)]
def zw_d_join : List Cond := zo_d_join ++ []
theorem gz_d_join : zw_d_join.all goodWord = true := p1_ga (by decide +kernel) p1_g0
theorem iz_d_join : ∀ w ∈ zw_d_join, w ∈ lw_tbl := p1_ia (p1_all [780] (by decide +kernel)) p1_i0
set_option maxHeartbeats 4000000 in
set_option maxRecDepth 100000 in
theorem d_join (l : Launch) (dC : Nat → ClassId) (dI : Nat → Nat → Nat) (sz : Nat) (a1 : Int32) (a2 : Int32) (a3 : Int32) : Met l yX3_join zw_d_join ({ frames := 0, cells := 0, slots := 0, locals := 0 }) (va_Pc [.int a1, .int a2, .int a3] (fun U => U.heap.size = sz ∧ va_P (dC, dI) vwCl [] U.heap ∧ va_K (dC, dI) vwCl [] U ∧ va_D (fun _ => True) [])) (va_Qi (fun (r : Int32) (_ : Unit) => True) (fun _ t => va_P (dC, dI) vwCl [] t.heap ∧ va_K (dC, dI) vwCl [] t ∧ va_D (va_A [] sz) []) (va_A [] sz)) 0 0 (va_A [] sz) := by
  refine Met.ofW (cc := cX3_join) (maxL := 3) (ret := (some .int)) (by decide) rfl ?_
  intro p e s m args below meth c s₁ B hml hv
  obtain ⟨rfl, hsz, hP, hK, hD0⟩ := hv
  have hx := B.exec
  have hb := B.bytes
  have hr := B.returns
  have hts := atoms_spec (ws := zw_d_join) B.pre
  have hown : s.vm.findClass RX3 = some m.cls := findClass_of_methodNamed B.named
  have hlocks := B.notSynchronized
  subst hsz
  have hD := hD0.self (sz := s.heap.size)
  generalize hAe : va_A [] s.heap.size = A at hD ⊢
  have hA : ∀ q : Nat, s.heap.size ≤ q → A q := fun q h => by rw [← hAe]; exact Or.inr h
  have hS : va_S A s.heap s.heap [] := va_S.rf
  have hP : va_P (dC, dI) vwCl [] s.heap := hP
  have lt_0 : (0 : Int32).toInt = 0 := by decide
  have lt_1 : (1 : Int32).toInt = 1 := by decide
  have lt_42 : (42 : Int32).toInt = 42 := by decide
  have lt_43 : (43 : Int32).toInt = 43 := by decide
  have lt_45 : (45 : Int32).toInt = 45 := by decide
  have lt_47 : (47 : Int32).toInt = 47 := by decide
  have lt_60 : (60 : Int32).toInt = 60 := by decide
  have lt_61 : (61 : Int32).toInt = 61 := by decide
  have lt_62 : (62 : Int32).toInt = 62 := by decide
  have lt_276 : (276 : Int32).toInt = 276 := by decide
  have hl := lv_entry ([.int a1, .int a2, .int a3]) (n := 3) (Nat.le_of_ble_eq_true rfl)
  rw [lg_entry_eq]
  generalize (lg_sl ([.int a1, .int a2, .int a3]) ++ List.replicate (3 - (lg_sl ([.int a1, .int a2, .int a3])).length) Slot.unset).toArray = ls at hl ⊢
  have hl : lv_has ls 3 [(0, .int a1), (1, .int a2), (2, .int a3)] := hl
  refine lv_iload_n hx hb dX3_join_0 rfl (lv_at hl 0 rfl) ?_
  by_cases hk_1 : a1 = 42
  · refine lv_lookup (tgt := 84) (off := 83) hx hb dX3_join_1 (by decide) (by rw [hk_1]; decide) (by decide) ?_
    have thk_1 := q_eq hk_1
    refine lv_iload_n hx hb dX3_join_84 rfl (lv_at hl 1 rfl) ?_
    refine lv_iload_n hx hb dX3_join_85 rfl (lv_at hl 2 rfl) ?_
    refine lv_imul hx hb dX3_join_86 ?_
    refine lv_topi (fun v_2 ev_2 => ?_)
    try have tv_2 := q_mul ev_2 (by omega) (by omega)
    have hP9 := hP.sub (ws' := []) [] rfl
    have hD9 := hD.sub (ws' := []) [] (by decide) rfl
    have hK9 := hK.sub (tys' := []) [] rfl
    exact W.iret (v := v_2) hx hb hr (fun t ht hW => ⟨⟨v_2, (), rfl, trivial, by rw [ht]; exact hP9, va_K.moved hW.alike hK9, hD9⟩, hS.F ht⟩) hS.2.2 dX3_join_87
  by_cases hk_3 : a1 = 43
  · refine lv_lookup (tgt := 76) (off := 75) hx hb dX3_join_1 (by decide) (by rw [hk_3]; decide) (by decide) ?_
    have thk_3 := q_eq hk_3
    refine lv_iload_n hx hb dX3_join_76 rfl (lv_at hl 1 rfl) ?_
    refine lv_iload_n hx hb dX3_join_77 rfl (lv_at hl 2 rfl) ?_
    refine lv_iadd hx hb dX3_join_78 ?_
    refine lv_topi (fun v_4 ev_4 => ?_)
    try have tv_4 := q_add ev_4 (by omega) (by omega)
    have hP9 := hP.sub (ws' := []) [] rfl
    have hD9 := hD.sub (ws' := []) [] (by decide) rfl
    have hK9 := hK.sub (tys' := []) [] rfl
    exact W.iret (v := v_4) hx hb hr (fun t ht hW => ⟨⟨v_4, (), rfl, trivial, by rw [ht]; exact hP9, va_K.moved hW.alike hK9, hD9⟩, hS.F ht⟩) hS.2.2 dX3_join_79
  by_cases hk_5 : a1 = 45
  · refine lv_lookup (tgt := 80) (off := 79) hx hb dX3_join_1 (by decide) (by rw [hk_5]; decide) (by decide) ?_
    have thk_5 := q_eq hk_5
    refine lv_iload_n hx hb dX3_join_80 rfl (lv_at hl 1 rfl) ?_
    refine lv_iload_n hx hb dX3_join_81 rfl (lv_at hl 2 rfl) ?_
    refine lv_isub hx hb dX3_join_82 ?_
    refine lv_topi (fun v_6 ev_6 => ?_)
    try have tv_6 := q_sub ev_6 (by omega) (by omega)
    have hP9 := hP.sub (ws' := []) [] rfl
    have hD9 := hD.sub (ws' := []) [] (by decide) rfl
    have hK9 := hK.sub (tys' := []) [] rfl
    exact W.iret (v := v_6) hx hb hr (fun t ht hW => ⟨⟨v_6, (), rfl, trivial, by rw [ht]; exact hP9, va_K.moved hW.alike hK9, hD9⟩, hS.F ht⟩) hS.2.2 dX3_join_83
  by_cases hk_7 : a1 = 47
  · refine lv_lookup (tgt := 88) (off := 87) hx hb dX3_join_1 (by decide) (by rw [hk_7]; decide) (by decide) ?_
    have thk_7 := q_eq hk_7
    refine lv_iload_n hx hb dX3_join_88 rfl (lv_at hl 2 rfl) ?_
    refine lv_if_ne (tgt := 96) hx hb dX3_join_89 (by decide) (fun c89 => ?_) (fun c89 => ?_)
    · have tc89 := q_ne c89
      refine lv_iload_n hx hb dX3_join_96 rfl (lv_at hl 1 rfl) ?_
      refine lv_iload_n hx hb dX3_join_97 rfl (lv_at hl 2 rfl) ?_
      refine lv_idiv hx hb dX3_join_98 c89 ?_
      refine lv_topi (fun v_8 ev_8 => ?_)
      have hP9 := hP.sub (ws' := []) [] rfl
      have hD9 := hD.sub (ws' := []) [] (by decide) rfl
      have hK9 := hK.sub (tys' := []) [] rfl
      exact W.iret (v := v_8) hx hb hr (fun t ht hW => ⟨⟨v_8, (), rfl, trivial, by rw [ht]; exact hP9, va_K.moved hW.alike hK9, hD9⟩, hS.F ht⟩) hS.2.2 dX3_join_99
    · have tc89 := q_eqN c89
      refine lv_iconst (v := 0) hx hb dX3_join_92 (by decide) ?_
      refine lv_goto (tgt := 99) hx hb dX3_join_93 (by decide) ?_
      have hP9 := hP.sub (ws' := []) [] rfl
      have hD9 := hD.sub (ws' := []) [] (by decide) rfl
      have hK9 := hK.sub (tys' := []) [] rfl
      exact W.iret (v := 0) hx hb hr (fun t ht hW => ⟨⟨0, (), rfl, trivial, by rw [ht]; exact hP9, va_K.moved hW.alike hK9, hD9⟩, hS.F ht⟩) hS.2.2 dX3_join_99
  by_cases hk_9 : a1 = 60
  · refine lv_lookup (tgt := 100) (off := 99) hx hb dX3_join_1 (by decide) (by rw [hk_9]; decide) (by decide) ?_
    have thk_9 := q_eq hk_9
    refine lv_iload_n hx hb dX3_join_100 rfl (lv_at hl 1 rfl) ?_
    refine lv_iload_n hx hb dX3_join_101 rfl (lv_at hl 2 rfl) ?_
    refine lv_icmp_ge (tgt := 109) hx hb dX3_join_102 (by decide) (fun c102 => ?_) (fun c102 => ?_)
    · have tc102 := q_ge c102
      refine lv_iconst (v := 0) hx hb dX3_join_109 (by decide) ?_
      have hP9 := hP.sub (ws' := []) [] rfl
      have hD9 := hD.sub (ws' := []) [] (by decide) rfl
      have hK9 := hK.sub (tys' := []) [] rfl
      exact W.iret (v := 0) hx hb hr (fun t ht hW => ⟨⟨0, (), rfl, trivial, by rw [ht]; exact hP9, va_K.moved hW.alike hK9, hD9⟩, hS.F ht⟩) hS.2.2 dX3_join_110
    · have tc102 := q_ltN c102
      refine lv_iconst (v := 1) hx hb dX3_join_105 (by decide) ?_
      refine lv_goto (tgt := 110) hx hb dX3_join_106 (by decide) ?_
      have hP9 := hP.sub (ws' := []) [] rfl
      have hD9 := hD.sub (ws' := []) [] (by decide) rfl
      have hK9 := hK.sub (tys' := []) [] rfl
      exact W.iret (v := 1) hx hb hr (fun t ht hW => ⟨⟨1, (), rfl, trivial, by rw [ht]; exact hP9, va_K.moved hW.alike hK9, hD9⟩, hS.F ht⟩) hS.2.2 dX3_join_110
  by_cases hk_10 : a1 = 61
  · refine lv_lookup (tgt := 122) (off := 121) hx hb dX3_join_1 (by decide) (by rw [hk_10]; decide) (by decide) ?_
    have thk_10 := q_eq hk_10
    refine lv_iload_n hx hb dX3_join_122 rfl (lv_at hl 1 rfl) ?_
    refine lv_iload_n hx hb dX3_join_123 rfl (lv_at hl 2 rfl) ?_
    refine lv_icmp_ne (tgt := 131) hx hb dX3_join_124 (by decide) (fun c124 => ?_) (fun c124 => ?_)
    · have tc124 := q_ne c124
      refine lv_iconst (v := 0) hx hb dX3_join_131 (by decide) ?_
      have hP9 := hP.sub (ws' := []) [] rfl
      have hD9 := hD.sub (ws' := []) [] (by decide) rfl
      have hK9 := hK.sub (tys' := []) [] rfl
      exact W.iret (v := 0) hx hb hr (fun t ht hW => ⟨⟨0, (), rfl, trivial, by rw [ht]; exact hP9, va_K.moved hW.alike hK9, hD9⟩, hS.F ht⟩) hS.2.2 dX3_join_132
    · have tc124 := q_eqN c124
      refine lv_iconst (v := 1) hx hb dX3_join_127 (by decide) ?_
      refine lv_goto (tgt := 132) hx hb dX3_join_128 (by decide) ?_
      have hP9 := hP.sub (ws' := []) [] rfl
      have hD9 := hD.sub (ws' := []) [] (by decide) rfl
      have hK9 := hK.sub (tys' := []) [] rfl
      exact W.iret (v := 1) hx hb hr (fun t ht hW => ⟨⟨1, (), rfl, trivial, by rw [ht]; exact hP9, va_K.moved hW.alike hK9, hD9⟩, hS.F ht⟩) hS.2.2 dX3_join_132
  by_cases hk_11 : a1 = 62
  · refine lv_lookup (tgt := 111) (off := 110) hx hb dX3_join_1 (by decide) (by rw [hk_11]; decide) (by decide) ?_
    have thk_11 := q_eq hk_11
    refine lv_iload_n hx hb dX3_join_111 rfl (lv_at hl 1 rfl) ?_
    refine lv_iload_n hx hb dX3_join_112 rfl (lv_at hl 2 rfl) ?_
    refine lv_icmp_le (tgt := 120) hx hb dX3_join_113 (by decide) (fun c113 => ?_) (fun c113 => ?_)
    · have tc113 := q_le c113
      refine lv_iconst (v := 0) hx hb dX3_join_120 (by decide) ?_
      have hP9 := hP.sub (ws' := []) [] rfl
      have hD9 := hD.sub (ws' := []) [] (by decide) rfl
      have hK9 := hK.sub (tys' := []) [] rfl
      exact W.iret (v := 0) hx hb hr (fun t ht hW => ⟨⟨0, (), rfl, trivial, by rw [ht]; exact hP9, va_K.moved hW.alike hK9, hD9⟩, hS.F ht⟩) hS.2.2 dX3_join_121
    · have tc113 := q_gtN c113
      refine lv_iconst (v := 1) hx hb dX3_join_116 (by decide) ?_
      refine lv_goto (tgt := 121) hx hb dX3_join_117 (by decide) ?_
      have hP9 := hP.sub (ws' := []) [] rfl
      have hD9 := hD.sub (ws' := []) [] (by decide) rfl
      have hK9 := hK.sub (tys' := []) [] rfl
      exact W.iret (v := 1) hx hb hr (fun t ht hW => ⟨⟨1, (), rfl, trivial, by rw [ht]; exact hP9, va_K.moved hW.alike hK9, hD9⟩, hS.F ht⟩) hS.2.2 dX3_join_121
  by_cases hk_12 : a1 = 276
  · refine lv_lookup (tgt := 133) (off := 132) hx hb dX3_join_1 (by decide) (by rw [hk_12]; decide) (by decide) ?_
    have thk_12 := q_eq hk_12
    refine lv_iload_n hx hb dX3_join_133 rfl (lv_at hl 1 rfl) ?_
    refine lv_if_eq (tgt := 145) hx hb dX3_join_134 (by decide) (fun c134 => ?_) (fun c134 => ?_)
    · have tc134 := q_eq c134
      refine lv_iconst (v := 0) hx hb dX3_join_145 (by decide) ?_
      have hP9 := hP.sub (ws' := []) [] rfl
      have hD9 := hD.sub (ws' := []) [] (by decide) rfl
      have hK9 := hK.sub (tys' := []) [] rfl
      exact W.iret (v := 0) hx hb hr (fun t ht hW => ⟨⟨0, (), rfl, trivial, by rw [ht]; exact hP9, va_K.moved hW.alike hK9, hD9⟩, hS.F ht⟩) hS.2.2 dX3_join_146
    · have tc134 := q_neN c134
      refine lv_iload_n hx hb dX3_join_137 rfl (lv_at hl 2 rfl) ?_
      refine lv_if_eq (tgt := 145) hx hb dX3_join_138 (by decide) (fun c138 => ?_) (fun c138 => ?_)
      · have tc138 := q_eq c138
        refine lv_iconst (v := 0) hx hb dX3_join_145 (by decide) ?_
        have hP9 := hP.sub (ws' := []) [] rfl
        have hD9 := hD.sub (ws' := []) [] (by decide) rfl
        have hK9 := hK.sub (tys' := []) [] rfl
        exact W.iret (v := 0) hx hb hr (fun t ht hW => ⟨⟨0, (), rfl, trivial, by rw [ht]; exact hP9, va_K.moved hW.alike hK9, hD9⟩, hS.F ht⟩) hS.2.2 dX3_join_146
      · have tc138 := q_neN c138
        refine lv_iconst (v := 1) hx hb dX3_join_141 (by decide) ?_
        refine lv_goto (tgt := 146) hx hb dX3_join_142 (by decide) ?_
        have hP9 := hP.sub (ws' := []) [] rfl
        have hD9 := hD.sub (ws' := []) [] (by decide) rfl
        have hK9 := hK.sub (tys' := []) [] rfl
        exact W.iret (v := 1) hx hb hr (fun t ht hW => ⟨⟨1, (), rfl, trivial, by rw [ht]; exact hP9, va_K.moved hW.alike hK9, hD9⟩, hS.F ht⟩) hS.2.2 dX3_join_146
  have thk_1 := q_ne hk_1
  have thk_3 := q_ne hk_3
  have thk_5 := q_ne hk_5
  have thk_7 := q_ne hk_7
  have thk_9 := q_ne hk_9
  have thk_10 := q_ne hk_10
  have thk_11 := q_ne hk_11
  have thk_12 := q_ne hk_12
  refine lv_lookup (tgt := 147) (off := 146) hx hb dX3_join_1 (by decide) (by show Op.lookupswitch.offset [(42, 83), (43, 75), (45, 79), (47, 87), (60, 99), (61, 121), (62, 110), (276, 132)] 146 _ = _; rw [lv_osw hk_1 (by decide)]; rw [lv_osw hk_3 (by decide)]; rw [lv_osw hk_5 (by decide)]; rw [lv_osw hk_7 (by decide)]; rw [lv_osw hk_9 (by decide)]; rw [lv_osw hk_10 (by decide)]; rw [lv_osw hk_11 (by decide)]; rw [lv_osw hk_12 (by decide)]; rfl) (by decide) ?_
  refine lv_iload_n hx hb dX3_join_147 rfl (lv_at hl 1 rfl) ?_
  refine lv_if_ne (tgt := 155) hx hb dX3_join_148 (by decide) (fun c148 => ?_) (fun c148 => ?_)
  · have tc148 := q_ne c148
    refine lv_iconst (v := 1) hx hb dX3_join_155 (by decide) ?_
    refine lv_goto (tgt := 160) hx hb dX3_join_156 (by decide) ?_
    have hP9 := hP.sub (ws' := []) [] rfl
    have hD9 := hD.sub (ws' := []) [] (by decide) rfl
    have hK9 := hK.sub (tys' := []) [] rfl
    exact W.iret (v := 1) hx hb hr (fun t ht hW => ⟨⟨1, (), rfl, trivial, by rw [ht]; exact hP9, va_K.moved hW.alike hK9, hD9⟩, hS.F ht⟩) hS.2.2 dX3_join_160
  · have tc148 := q_eqN c148
    refine lv_iload_n hx hb dX3_join_151 rfl (lv_at hl 2 rfl) ?_
    refine lv_if_eq (tgt := 159) hx hb dX3_join_152 (by decide) (fun c152 => ?_) (fun c152 => ?_)
    · have tc152 := q_eq c152
      refine lv_iconst (v := 0) hx hb dX3_join_159 (by decide) ?_
      have hP9 := hP.sub (ws' := []) [] rfl
      have hD9 := hD.sub (ws' := []) [] (by decide) rfl
      have hK9 := hK.sub (tys' := []) [] rfl
      exact W.iret (v := 0) hx hb hr (fun t ht hW => ⟨⟨0, (), rfl, trivial, by rw [ht]; exact hP9, va_K.moved hW.alike hK9, hD9⟩, hS.F ht⟩) hS.2.2 dX3_join_160
    · have tc152 := q_neN c152
      refine lv_iconst (v := 1) hx hb dX3_join_155 (by decide) ?_
      refine lv_goto (tgt := 160) hx hb dX3_join_156 (by decide) ?_
      have hP9 := hP.sub (ws' := []) [] rfl
      have hD9 := hD.sub (ws' := []) [] (by decide) rfl
      have hK9 := hK.sub (tys' := []) [] rfl
      exact W.iret (v := 1) hx hb hr (fun t ht hW => ⟨⟨1, (), rfl, trivial, by rw [ht]; exact hP9, va_K.moved hW.alike hK9, hD9⟩, hS.F ht⟩) hS.2.2 dX3_join_160
def zo_d_isUnitWord : List Cond := [.code yX6_isUnitWord cX6_isUnitWord 1 (some .boolean)]
def zw_d_isUnitWord : List Cond := zo_d_isUnitWord ++ []
theorem gz_d_isUnitWord : zw_d_isUnitWord.all goodWord = true := p1_ga (by decide +kernel) p1_g0
theorem iz_d_isUnitWord : ∀ w ∈ zw_d_isUnitWord, w ∈ lw_tbl := p1_ia (p1_all [675] (by decide +kernel)) p1_i0
set_option maxHeartbeats 4000000 in
set_option maxRecDepth 100000 in
theorem d_isUnitWord (l : Launch) (dC : Nat → ClassId) (dI : Nat → Nat → Nat) (sz : Nat) (a1 : Int32) : Met l yX6_isUnitWord zw_d_isUnitWord ({ frames := 0, cells := 0, slots := 0, locals := 0 }) (va_Pc [.int a1] (fun U => U.heap.size = sz ∧ va_P (dC, dI) vwCl [] U.heap ∧ va_K (dC, dI) vwCl [] U ∧ va_D (fun _ => True) [])) (va_Qi (fun (r : Int32) (_ : Unit) => (r = 0 ∨ r = 1)) (fun _ t => va_P (dC, dI) vwCl [] t.heap ∧ va_K (dC, dI) vwCl [] t ∧ va_D (va_A [] sz) []) (va_A [] sz)) 0 0 (va_A [] sz) := by
  refine Met.ofW (cc := cX6_isUnitWord) (maxL := 1) (ret := (some .boolean)) (by decide) rfl ?_
  intro p e s m args below meth c s₁ B hml hv
  obtain ⟨rfl, hsz, hP, hK, hD0⟩ := hv
  have hx := B.exec
  have hb := B.bytes
  have hr := B.returns
  have hts := atoms_spec (ws := zw_d_isUnitWord) B.pre
  have hown : s.vm.findClass RX6 = some m.cls := findClass_of_methodNamed B.named
  have hlocks := B.notSynchronized
  subst hsz
  have hD := hD0.self (sz := s.heap.size)
  generalize hAe : va_A [] s.heap.size = A at hD ⊢
  have hA : ∀ q : Nat, s.heap.size ≤ q → A q := fun q h => by rw [← hAe]; exact Or.inr h
  have hS : va_S A s.heap s.heap [] := va_S.rf
  have hP : va_P (dC, dI) vwCl [] s.heap := hP
  have lt_0 : (0 : Int32).toInt = 0 := by decide
  have lt_1 : (1 : Int32).toInt = 1 := by decide
  have lt_261 : (261 : Int32).toInt = 261 := by decide
  have lt_268 : (268 : Int32).toInt = 268 := by decide
  have hl := lv_entry ([.int a1]) (n := 1) (Nat.le_of_ble_eq_true rfl)
  rw [lg_entry_eq]
  generalize (lg_sl ([.int a1]) ++ List.replicate (1 - (lg_sl ([.int a1])).length) Slot.unset).toArray = ls at hl ⊢
  have hl : lv_has ls 1 [(0, .int a1)] := hl
  refine lv_iload_n hx hb dX6_isUnitWord_0 rfl (lv_at hl 0 rfl) ?_
  refine lv_sipush (v := 261) hx hb dX6_isUnitWord_1 (by decide) ?_
  refine lv_icmp_lt (tgt := 18) hx hb dX6_isUnitWord_4 (by decide) (fun c4 => ?_) (fun c4 => ?_)
  · have tc4 := q_lt c4
    refine lv_iconst (v := 0) hx hb dX6_isUnitWord_18 (by decide) ?_
    have hP9 := hP.sub (ws' := []) [] rfl
    have hD9 := hD.sub (ws' := []) [] (by decide) rfl
    have hK9 := hK.sub (tys' := []) [] rfl
    exact W.zret (v := 0) hx hb hr (by decide) (fun t ht hW => ⟨⟨0, (), rfl, Or.inl rfl, by rw [ht]; exact hP9, va_K.moved hW.alike hK9, hD9⟩, hS.F ht⟩) hS.2.2 dX6_isUnitWord_19
  · have tc4 := q_geN c4
    refine lv_iload_n hx hb dX6_isUnitWord_7 rfl (lv_at hl 0 rfl) ?_
    refine lv_sipush (v := 268) hx hb dX6_isUnitWord_8 (by decide) ?_
    refine lv_icmp_gt (tgt := 18) hx hb dX6_isUnitWord_11 (by decide) (fun c11 => ?_) (fun c11 => ?_)
    · have tc11 := q_gt c11
      refine lv_iconst (v := 0) hx hb dX6_isUnitWord_18 (by decide) ?_
      have hP9 := hP.sub (ws' := []) [] rfl
      have hD9 := hD.sub (ws' := []) [] (by decide) rfl
      have hK9 := hK.sub (tys' := []) [] rfl
      exact W.zret (v := 0) hx hb hr (by decide) (fun t ht hW => ⟨⟨0, (), rfl, Or.inl rfl, by rw [ht]; exact hP9, va_K.moved hW.alike hK9, hD9⟩, hS.F ht⟩) hS.2.2 dX6_isUnitWord_19
    · have tc11 := q_leN c11
      refine lv_iconst (v := 1) hx hb dX6_isUnitWord_14 (by decide) ?_
      refine lv_goto (tgt := 19) hx hb dX6_isUnitWord_15 (by decide) ?_
      have hP9 := hP.sub (ws' := []) [] rfl
      have hD9 := hD.sub (ws' := []) [] (by decide) rfl
      have hK9 := hK.sub (tys' := []) [] rfl
      exact W.zret (v := 1) hx hb hr (by decide) (fun t ht hW => ⟨⟨1, (), rfl, Or.inr rfl, by rw [ht]; exact hP9, va_K.moved hW.alike hK9, hD9⟩, hS.F ht⟩) hS.2.2 dX6_isUnitWord_19
def zo_d_tell : List Cond := [.code yX0_tell cX0_tell 3 (some .int), .fieldLink RX0 11 "BowWalk$Bow" "tight" "[I", .fieldLink RX0 42 "BowWalk$Bow" "likes" "I", .fieldLink RX0 45 "BowWalk$Bow" "smooth" "I", .fieldLink RX0 48 "BowWalk$Bow" "weight" "I", .fieldLink RX0 17 "BowWalk$Bow" "ends" "[I", .fieldLink RX0 39 "BowWalk$Bow" "sides" "I", .fieldLink RX0 54 "BowWalk$Bow" "strike" "I", .fieldLink RX0 57 "BowWalk$Bow" "swing" "I"]
def zw_d_tell : List Cond := zo_d_tell ++ (wsX00 ++ [])
theorem gz_d_tell : zw_d_tell.all goodWord = true := p1_ga (by decide +kernel) (p1_ga gk_X0 p1_g0)
theorem iz_d_tell : ∀ w ∈ zw_d_tell, w ∈ lw_tbl := p1_ia (p1_all [777, 350, 369, 370, 371, 352, 368, 373, 374] (by decide +kernel)) (p1_ia ik_X0 p1_i0)
set_option maxHeartbeats 4000000 in
set_option maxRecDepth 100000 in
theorem d_tell (l : Launch) (dC : Nat → ClassId) (dI : Nat → Nat → Nat) (sz : Nat) (bw : Nat) (bf : List Value) (tg : Nat) (en : Nat) (bcrossings : Int32) (bleft : Int32) (bsteps : Int32) (bslipped : Int32) (bwalk : Int32) (bnextStep : Int32) (bsides : Int32) (blikes : Int32) (bsmooth : Int32) (bweight : Int32) (blength : Int32) (bstrike : Int32) (bswing : Int32) (cT : ClassId) (tf : Nat → Int32) (cE : ClassId) (ef : Nat → Int32) (a1 : Int32) (a2 : Int32) (f_bf_0 : bf[0]? = some (.ref tg)) (f_bf_1 : bf[1]? = some (.ref en)) (f_bf_2 : bf[2]? = some (.int bcrossings)) (f_bf_3 : bf[3]? = some (.int bleft)) (f_bf_4 : bf[4]? = some (.int bsteps)) (f_bf_5 : bf[5]? = some (.int bslipped)) (f_bf_6 : bf[6]? = some (.int bwalk)) (f_bf_7 : bf[7]? = some (.int bnextStep)) (f_bf_8 : bf[8]? = some (.int bsides)) (f_bf_9 : bf[9]? = some (.int blikes)) (f_bf_10 : bf[10]? = some (.int bsmooth)) (f_bf_11 : bf[11]? = some (.int bweight)) (f_bf_12 : bf[12]? = some (.int blength)) (f_bf_13 : bf[13]? = some (.int bstrike)) (f_bf_14 : bf[14]? = some (.int bswing)) (h1 : 0 ≤ a2.toInt ∧ a2.toInt < 12) : Met l yX0_tell zw_d_tell ({ frames := 0, cells := 0, slots := 0, locals := 0 }) (va_Pc [.ref bw, .int a1, .int a2] (fun U => U.heap.size = sz ∧ va_P (dC, dI) vwCl [(bw, .inr (0, bf)), (tg, .inl (cT, 12, .inl tf)), (en, .inl (cE, 2, .inl ef))] U.heap ∧ va_K (dC, dI) vwCl [(cT, .int), (cE, .int)] U ∧ va_D (fun _ => True) [(bw, .inr (0, bf)), (tg, .inl (cT, 12, .inl tf)), (en, .inl (cE, 2, .inl ef))])) (va_Qi (fun (r : Int32) (_ : Unit) => True) (fun _ t => va_P (dC, dI) vwCl [(bw, .inr (0, bf)), (tg, .inl (cT, 12, .inl tf)), (en, .inl (cE, 2, .inl ef))] t.heap ∧ va_K (dC, dI) vwCl [(cT, .int), (cE, .int)] t ∧ va_D (va_A [(bw, .inr (0, bf)), (tg, .inl (cT, 12, .inl tf)), (en, .inl (cE, 2, .inl ef))] sz) [(bw, .inr (0, bf)), (tg, .inl (cT, 12, .inl tf)), (en, .inl (cE, 2, .inl ef))]) (va_A [(bw, .inr (0, bf)), (tg, .inl (cT, 12, .inl tf)), (en, .inl (cE, 2, .inl ef))] sz)) 0 0 (va_A [(bw, .inr (0, bf)), (tg, .inl (cT, 12, .inl tf)), (en, .inl (cE, 2, .inl ef))] sz) := by
  refine Met.ofW (cc := cX0_tell) (maxL := 3) (ret := (some .int)) (by decide) rfl ?_
  intro p e s m args below meth c s₁ B hml hv
  obtain ⟨rfl, hsz, hP, hK, hD0⟩ := hv
  have hx := B.exec
  have hb := B.bytes
  have hr := B.returns
  have hts := atoms_spec (ws := zw_d_tell) B.pre
  have hown : s.vm.findClass RX0 = some m.cls := findClass_of_methodNamed B.named
  have hlocks := B.notSynchronized
  subst hsz
  have hD := hD0.self (sz := s.heap.size)
  generalize hAe : va_A [(bw, .inr (0, bf)), (tg, .inl (cT, 12, .inl tf)), (en, .inl (cE, 2, .inl ef))] s.heap.size = A at hD ⊢
  have hA : ∀ q : Nat, s.heap.size ≤ q → A q := fun q h => by rw [← hAe]; exact Or.inr h
  have hS : va_S A s.heap s.heap [] := va_S.rf
  have hP : va_P (dC, dI) vwCl [(bw, .inr (0, bf)), (tg, .inl (cT, 12, .inl tf)), (en, .inl (cE, 2, .inl ef))] s.heap := hP
  have m_0 : (.fieldLink RX0 11 "BowWalk$Bow" "tight" "[I" : Cond) ∈ zw_d_tell := List.mem_append_left _ (List.mem_of_getElem? (i := 1) rfl)
  have k_0 := hts _ m_0
  have m_1 : (.fieldLink RX0 42 "BowWalk$Bow" "likes" "I" : Cond) ∈ zw_d_tell := List.mem_append_left _ (List.mem_of_getElem? (i := 2) rfl)
  have k_1 := hts _ m_1
  have m_2 : (.fieldLink RX0 45 "BowWalk$Bow" "smooth" "I" : Cond) ∈ zw_d_tell := List.mem_append_left _ (List.mem_of_getElem? (i := 3) rfl)
  have k_2 := hts _ m_2
  have m_3 : (.fieldLink RX0 48 "BowWalk$Bow" "weight" "I" : Cond) ∈ zw_d_tell := List.mem_append_left _ (List.mem_of_getElem? (i := 4) rfl)
  have k_3 := hts _ m_3
  have m_4 : (.fieldLink RX0 17 "BowWalk$Bow" "ends" "[I" : Cond) ∈ zw_d_tell := List.mem_append_left _ (List.mem_of_getElem? (i := 5) rfl)
  have k_4 := hts _ m_4
  have m_5 : (.fieldLink RX0 39 "BowWalk$Bow" "sides" "I" : Cond) ∈ zw_d_tell := List.mem_append_left _ (List.mem_of_getElem? (i := 6) rfl)
  have k_5 := hts _ m_5
  have m_6 : (.fieldLink RX0 54 "BowWalk$Bow" "strike" "I" : Cond) ∈ zw_d_tell := List.mem_append_left _ (List.mem_of_getElem? (i := 7) rfl)
  have k_6 := hts _ m_6
  have m_7 : (.fieldLink RX0 57 "BowWalk$Bow" "swing" "I" : Cond) ∈ zw_d_tell := List.mem_append_left _ (List.mem_of_getElem? (i := 8) rfl)
  have k_7 := hts _ m_7
  have i_X0 : ∀ w ∈ u_ws RX0 TX0 15, w ∈ zw_d_tell := fun w h => List.mem_append_right _ (List.mem_append_left _ h)
  have lt_1 : (1 : Int32).toInt = 1 := by decide
  have lt_261 : (261 : Int32).toInt = 261 := by decide
  have lt_262 : (262 : Int32).toInt = 262 := by decide
  have lt_263 : (263 : Int32).toInt = 263 := by decide
  have lt_264 : (264 : Int32).toInt = 264 := by decide
  have lt_265 : (265 : Int32).toInt = 265 := by decide
  have lt_266 : (266 : Int32).toInt = 266 := by decide
  have lt_267 : (267 : Int32).toInt = 267 := by decide
  have hl := lv_entry ([.ref bw, .int a1, .int a2]) (n := 3) (Nat.le_of_ble_eq_true rfl)
  rw [lg_entry_eq]
  generalize (lg_sl ([.ref bw, .int a1, .int a2]) ++ List.replicate (3 - (lg_sl ([.ref bw, .int a1, .int a2])).length) Slot.unset).toArray = ls at hl ⊢
  have hl : lv_has ls 3 [(0, .ref bw), (1, .int a1), (2, .int a2)] := hl
  refine lv_iload_n hx hb dX0_tell_0 rfl (lv_at hl 1 rfl) ?_
  by_cases hk_1 : a1 = 261
  · refine lv_tableIn (tgt := 44) (off := 43) hx hb dX0_tell_1 (by rw [hk_1]; decide) (by rw [hk_1]; decide) (by rw [hk_1]; decide) (by decide) ?_
    have thk_1 := q_eq hk_1
    refine lv_aload_n hx hb dX0_tell_44 rfl (lv_at hl 0 rfl) ?_
    refine va_get (D := (dC, dI)) (ci := 0) (v := .ref tg) (C := RX0) (T := TX0) (N := 15) hx hb hts i_X0 hown hK hP 0 rfl rfl 0 (by decide) k_0 (fun _ h9 => h9) f_bf_0 dX0_tell_45 ?_
    refine lv_iload_n hx hb dX0_tell_48 rfl (lv_at hl 2 rfl) ?_
    refine va_iald hx hb hK hP 1 0 rfl rfl (q_in (by omega) (by omega)) dX0_tell_49 ?_
    refine lv_topi (fun v_2 ev_2 => ?_)
    have uv_2 : v_2.toInt = (tf a2.toNatClampNeg).toInt := by rw [ev_2]
    have hP9 := hP.sub (ws' := [(bw, .inr (0, bf)), (tg, .inl (cT, 12, .inl tf)), (en, .inl (cE, 2, .inl ef))]) [0, 1, 2] rfl
    have hD9 := hD.sub (ws' := [(bw, .inr (0, bf)), (tg, .inl (cT, 12, .inl tf)), (en, .inl (cE, 2, .inl ef))]) [0, 1, 2] (by decide) rfl
    have hK9 := hK.sub (tys' := [(cT, .int), (cE, .int)]) [0, 1] rfl
    exact W.iret (v := v_2) hx hb hr (fun t ht hW => ⟨⟨v_2, (), rfl, trivial, by rw [ht]; exact hP9, va_K.moved hW.alike hK9, hD9⟩, hS.F ht⟩) hS.2.2 dX0_tell_50
  by_cases hk_3 : a1 = 262
  · refine lv_tableIn (tgt := 51) (off := 50) hx hb dX0_tell_1 (by rw [hk_3]; decide) (by rw [hk_3]; decide) (by rw [hk_3]; decide) (by decide) ?_
    have thk_3 := q_eq hk_3
    refine lv_aload_n hx hb dX0_tell_51 rfl (lv_at hl 0 rfl) ?_
    refine va_get (D := (dC, dI)) (ci := 0) (v := .int blikes) (C := RX0) (T := TX0) (N := 15) hx hb hts i_X0 hown hK hP 0 rfl rfl 9 (by decide) k_1 (fun _ h9 => h9) f_bf_9 dX0_tell_52 ?_
    refine lv_iload_n hx hb dX0_tell_55 rfl (lv_at hl 2 rfl) ?_
    refine lv_ishr hx hb dX0_tell_56 ?_
    refine lv_topi (fun v_4 ev_4 => ?_)
    refine lv_iconst (v := 1) hx hb dX0_tell_57 (by decide) ?_
    refine lv_iand hx hb dX0_tell_58 ?_
    refine lv_topi (fun v_5 ev_5 => ?_)
    have tv_5 := q_and (k := 1) ev_5 (by decide) (by decide)
    have hP9 := hP.sub (ws' := [(bw, .inr (0, bf)), (tg, .inl (cT, 12, .inl tf)), (en, .inl (cE, 2, .inl ef))]) [0, 1, 2] rfl
    have hD9 := hD.sub (ws' := [(bw, .inr (0, bf)), (tg, .inl (cT, 12, .inl tf)), (en, .inl (cE, 2, .inl ef))]) [0, 1, 2] (by decide) rfl
    have hK9 := hK.sub (tys' := [(cT, .int), (cE, .int)]) [0, 1] rfl
    exact W.iret (v := v_5) hx hb hr (fun t ht hW => ⟨⟨v_5, (), rfl, trivial, by rw [ht]; exact hP9, va_K.moved hW.alike hK9, hD9⟩, hS.F ht⟩) hS.2.2 dX0_tell_59
  by_cases hk_6 : a1 = 263
  · refine lv_tableIn (tgt := 60) (off := 59) hx hb dX0_tell_1 (by rw [hk_6]; decide) (by rw [hk_6]; decide) (by rw [hk_6]; decide) (by decide) ?_
    have thk_6 := q_eq hk_6
    refine lv_iload_n hx hb dX0_tell_60 rfl (lv_at hl 2 rfl) ?_
    have hP9 := hP.sub (ws' := [(bw, .inr (0, bf)), (tg, .inl (cT, 12, .inl tf)), (en, .inl (cE, 2, .inl ef))]) [0, 1, 2] rfl
    have hD9 := hD.sub (ws' := [(bw, .inr (0, bf)), (tg, .inl (cT, 12, .inl tf)), (en, .inl (cE, 2, .inl ef))]) [0, 1, 2] (by decide) rfl
    have hK9 := hK.sub (tys' := [(cT, .int), (cE, .int)]) [0, 1] rfl
    exact W.iret (v := a2) hx hb hr (fun t ht hW => ⟨⟨a2, (), rfl, trivial, by rw [ht]; exact hP9, va_K.moved hW.alike hK9, hD9⟩, hS.F ht⟩) hS.2.2 dX0_tell_61
  by_cases hk_7 : a1 = 264
  · refine lv_tableIn (tgt := 62) (off := 61) hx hb dX0_tell_1 (by rw [hk_7]; decide) (by rw [hk_7]; decide) (by rw [hk_7]; decide) (by decide) ?_
    have thk_7 := q_eq hk_7
    refine lv_aload_n hx hb dX0_tell_62 rfl (lv_at hl 0 rfl) ?_
    refine va_get (D := (dC, dI)) (ci := 0) (v := .int bsmooth) (C := RX0) (T := TX0) (N := 15) hx hb hts i_X0 hown hK hP 0 rfl rfl 10 (by decide) k_2 (fun _ h9 => h9) f_bf_10 dX0_tell_63 ?_
    have hP9 := hP.sub (ws' := [(bw, .inr (0, bf)), (tg, .inl (cT, 12, .inl tf)), (en, .inl (cE, 2, .inl ef))]) [0, 1, 2] rfl
    have hD9 := hD.sub (ws' := [(bw, .inr (0, bf)), (tg, .inl (cT, 12, .inl tf)), (en, .inl (cE, 2, .inl ef))]) [0, 1, 2] (by decide) rfl
    have hK9 := hK.sub (tys' := [(cT, .int), (cE, .int)]) [0, 1] rfl
    exact W.iret (v := bsmooth) hx hb hr (fun t ht hW => ⟨⟨bsmooth, (), rfl, trivial, by rw [ht]; exact hP9, va_K.moved hW.alike hK9, hD9⟩, hS.F ht⟩) hS.2.2 dX0_tell_66
  by_cases hk_8 : a1 = 265
  · refine lv_tableIn (tgt := 67) (off := 66) hx hb dX0_tell_1 (by rw [hk_8]; decide) (by rw [hk_8]; decide) (by rw [hk_8]; decide) (by decide) ?_
    have thk_8 := q_eq hk_8
    refine lv_aload_n hx hb dX0_tell_67 rfl (lv_at hl 0 rfl) ?_
    refine va_get (D := (dC, dI)) (ci := 0) (v := .int bweight) (C := RX0) (T := TX0) (N := 15) hx hb hts i_X0 hown hK hP 0 rfl rfl 11 (by decide) k_3 (fun _ h9 => h9) f_bf_11 dX0_tell_68 ?_
    have hP9 := hP.sub (ws' := [(bw, .inr (0, bf)), (tg, .inl (cT, 12, .inl tf)), (en, .inl (cE, 2, .inl ef))]) [0, 1, 2] rfl
    have hD9 := hD.sub (ws' := [(bw, .inr (0, bf)), (tg, .inl (cT, 12, .inl tf)), (en, .inl (cE, 2, .inl ef))]) [0, 1, 2] (by decide) rfl
    have hK9 := hK.sub (tys' := [(cT, .int), (cE, .int)]) [0, 1] rfl
    exact W.iret (v := bweight) hx hb hr (fun t ht hW => ⟨⟨bweight, (), rfl, trivial, by rw [ht]; exact hP9, va_K.moved hW.alike hK9, hD9⟩, hS.F ht⟩) hS.2.2 dX0_tell_71
  by_cases hk_9 : a1 = 266
  · refine lv_tableIn (tgt := 72) (off := 71) hx hb dX0_tell_1 (by rw [hk_9]; decide) (by rw [hk_9]; decide) (by rw [hk_9]; decide) (by decide) ?_
    have thk_9 := q_eq hk_9
    refine lv_aload_n hx hb dX0_tell_72 rfl (lv_at hl 0 rfl) ?_
    refine va_get (D := (dC, dI)) (ci := 0) (v := .ref en) (C := RX0) (T := TX0) (N := 15) hx hb hts i_X0 hown hK hP 0 rfl rfl 1 (by decide) k_4 (fun _ h9 => h9) f_bf_1 dX0_tell_73 ?_
    refine lv_aload_n hx hb dX0_tell_76 rfl (lv_at hl 0 rfl) ?_
    refine va_get (D := (dC, dI)) (ci := 0) (v := .int bsides) (C := RX0) (T := TX0) (N := 15) hx hb hts i_X0 hown hK hP 0 rfl rfl 8 (by decide) k_5 (fun _ h9 => h9) f_bf_8 dX0_tell_77 ?_
    refine lv_iload_n hx hb dX0_tell_80 rfl (lv_at hl 2 rfl) ?_
    refine lv_ishr hx hb dX0_tell_81 ?_
    refine lv_topi (fun v_10 ev_10 => ?_)
    refine lv_iconst (v := 1) hx hb dX0_tell_82 (by decide) ?_
    refine lv_iand hx hb dX0_tell_83 ?_
    refine lv_topi (fun v_11 ev_11 => ?_)
    have tv_11 := q_and (k := 1) ev_11 (by decide) (by decide)
    refine va_iald hx hb hK hP 2 1 rfl rfl (q_in (by omega) (by omega)) dX0_tell_84 ?_
    refine lv_topi (fun v_12 ev_12 => ?_)
    have uv_12 : v_12.toInt = (ef v_11.toNatClampNeg).toInt := by rw [ev_12]
    have hP9 := hP.sub (ws' := [(bw, .inr (0, bf)), (tg, .inl (cT, 12, .inl tf)), (en, .inl (cE, 2, .inl ef))]) [0, 1, 2] rfl
    have hD9 := hD.sub (ws' := [(bw, .inr (0, bf)), (tg, .inl (cT, 12, .inl tf)), (en, .inl (cE, 2, .inl ef))]) [0, 1, 2] (by decide) rfl
    have hK9 := hK.sub (tys' := [(cT, .int), (cE, .int)]) [0, 1] rfl
    exact W.iret (v := v_12) hx hb hr (fun t ht hW => ⟨⟨v_12, (), rfl, trivial, by rw [ht]; exact hP9, va_K.moved hW.alike hK9, hD9⟩, hS.F ht⟩) hS.2.2 dX0_tell_85
  by_cases hk_13 : a1 = 267
  · refine lv_tableIn (tgt := 86) (off := 85) hx hb dX0_tell_1 (by rw [hk_13]; decide) (by rw [hk_13]; decide) (by rw [hk_13]; decide) (by decide) ?_
    have thk_13 := q_eq hk_13
    refine lv_aload_n hx hb dX0_tell_86 rfl (lv_at hl 0 rfl) ?_
    refine va_get (D := (dC, dI)) (ci := 0) (v := .int bstrike) (C := RX0) (T := TX0) (N := 15) hx hb hts i_X0 hown hK hP 0 rfl rfl 13 (by decide) k_6 (fun _ h9 => h9) f_bf_13 dX0_tell_87 ?_
    have hP9 := hP.sub (ws' := [(bw, .inr (0, bf)), (tg, .inl (cT, 12, .inl tf)), (en, .inl (cE, 2, .inl ef))]) [0, 1, 2] rfl
    have hD9 := hD.sub (ws' := [(bw, .inr (0, bf)), (tg, .inl (cT, 12, .inl tf)), (en, .inl (cE, 2, .inl ef))]) [0, 1, 2] (by decide) rfl
    have hK9 := hK.sub (tys' := [(cT, .int), (cE, .int)]) [0, 1] rfl
    exact W.iret (v := bstrike) hx hb hr (fun t ht hW => ⟨⟨bstrike, (), rfl, trivial, by rw [ht]; exact hP9, va_K.moved hW.alike hK9, hD9⟩, hS.F ht⟩) hS.2.2 dX0_tell_90
  have thk_1 := q_ne hk_1
  have thk_3 := q_ne hk_3
  have thk_6 := q_ne hk_6
  have thk_7 := q_ne hk_7
  have thk_8 := q_ne hk_8
  have thk_9 := q_ne hk_9
  have thk_13 := q_ne hk_13
  refine lv_tableOut (tgt := 91) hx hb dX0_tell_1 (by omega) (by decide) ?_
  refine lv_aload_n hx hb dX0_tell_91 rfl (lv_at hl 0 rfl) ?_
  refine va_get (D := (dC, dI)) (ci := 0) (v := .int bswing) (C := RX0) (T := TX0) (N := 15) hx hb hts i_X0 hown hK hP 0 rfl rfl 14 (by decide) k_7 (fun _ h9 => h9) f_bf_14 dX0_tell_92 ?_
  have hP9 := hP.sub (ws' := [(bw, .inr (0, bf)), (tg, .inl (cT, 12, .inl tf)), (en, .inl (cE, 2, .inl ef))]) [0, 1, 2] rfl
  have hD9 := hD.sub (ws' := [(bw, .inr (0, bf)), (tg, .inl (cT, 12, .inl tf)), (en, .inl (cE, 2, .inl ef))]) [0, 1, 2] (by decide) rfl
  have hK9 := hK.sub (tys' := [(cT, .int), (cE, .int)]) [0, 1] rfl
  exact W.iret (v := bswing) hx hb hr (fun t ht hW => ⟨⟨bswing, (), rfl, trivial, by rw [ht]; exact hP9, va_K.moved hW.alike hK9, hD9⟩, hS.F ht⟩) hS.2.2 dX0_tell_95
def zo_d_ask : List Cond := [.code yX3_ask cX3_ask 8 (some .int), .fieldLink RX3 25 "BowWalk$Laws" "rows" "I", .fieldLink RX3 15 "BowWalk$Laws" "behind" "[I", .fieldLink RX3 18 "BowWalk$Laws" "stack" "[I", .fieldLink RX3 9 "BowWalk$Laws" "code" "[I", .methodLink RX3 45 yX6_isUnitWord, .static yX6_isUnitWord, .initialized RX6, .methodLink RX3 56 yX3_join, .static yX3_join, .initialized RX3, .methodLink RX3 50 yX0_tell, .instanceMethod yX0_tell, .selects RX0 yX0_tell yX0_tell, .initialized RX0]
def zw_d_ask : List Cond := zo_d_ask ++ (zw_d_isUnitWord ++ (zw_d_join ++ (zw_d_tell ++ (wsX30 ++ []))))
theorem gz_d_ask : zw_d_ask.all goodWord = true := p1_ga (by decide +kernel) (p1_ga gz_d_isUnitWord (p1_ga gz_d_join (p1_ga gz_d_tell (p1_ga gk_X3 p1_g0))))
theorem iz_d_ask : ∀ w ∈ zw_d_ask, w ∈ lw_tbl := p1_ia (p1_all [772, 154, 151, 152, 150, 773, 674, 118, 778, 779, 107, 774, 775, 776, 112] (by decide +kernel)) (p1_ia iz_d_isUnitWord (p1_ia iz_d_join (p1_ia iz_d_tell (p1_ia ik_X3 p1_i0))))
set_option maxHeartbeats 4000000 in
set_option maxRecDepth 100000 in
theorem d_ask (l : Launch) (dC : Nat → ClassId) (dI : Nat → Nat → Nat) (sz : Nat) (lw : Nat) (lf : List Value) (lc : Nat) (lb : Nat) (lk : Nat) (lus : Int32) (lro : Int32) (lun : Int32) (cC : ClassId) (cf : Nat → Int32) (cB : ClassId) (bf : Nat → Int32) (cK : ClassId) (kf : Nat → Int32) (bw : Nat) (bfs : List Value) (tg : Nat) (en : Nat) (bcrossings : Int32) (bleft : Int32) (bsteps : Int32) (bslipped : Int32) (bwalk : Int32) (bnextStep : Int32) (bsides : Int32) (blikes : Int32) (bsmooth : Int32) (bweight : Int32) (blength : Int32) (bstrike : Int32) (bswing : Int32) (cT : ClassId) (tf : Nat → Int32) (cE : ClassId) (ef : Nat → Int32) (a1 : Int32) (a2 : Int32) (f_lf_0 : lf[0]? = some (.ref lc)) (f_lf_1 : lf[1]? = some (.ref lb)) (f_lf_2 : lf[2]? = some (.ref lk)) (f_lf_3 : lf[3]? = some (.int lus)) (f_lf_4 : lf[4]? = some (.int lro)) (f_lf_5 : lf[5]? = some (.int lun)) (f_bfs_0 : bfs[0]? = some (.ref tg)) (f_bfs_1 : bfs[1]? = some (.ref en)) (f_bfs_2 : bfs[2]? = some (.int bcrossings)) (f_bfs_3 : bfs[3]? = some (.int bleft)) (f_bfs_4 : bfs[4]? = some (.int bsteps)) (f_bfs_5 : bfs[5]? = some (.int bslipped)) (f_bfs_6 : bfs[6]? = some (.int bwalk)) (f_bfs_7 : bfs[7]? = some (.int bnextStep)) (f_bfs_8 : bfs[8]? = some (.int bsides)) (f_bfs_9 : bfs[9]? = some (.int blikes)) (f_bfs_10 : bfs[10]? = some (.int bsmooth)) (f_bfs_11 : bfs[11]? = some (.int bweight)) (f_bfs_12 : bfs[12]? = some (.int blength)) (f_bfs_13 : bfs[13]? = some (.int bstrike)) (f_bfs_14 : bfs[14]? = some (.int bswing)) (hr_bf : ∀ k, k < 6 → 0 ≤ ((bf k)).toInt ∧ ((bf k)).toInt ≤ 600) (h1 : 0 ≤ a2.toInt ∧ a2.toInt < 12) (h2 : 0 ≤ lro.toInt ∧ lro.toInt ≤ 6) : Met l yX3_ask zw_d_ask ({ frames := 1, cells := 0, slots := 0, locals := 22 }) (va_Pc [.ref lw, .int a1, .ref bw, .int a2] (fun U => U.heap.size = sz ∧ va_P (dC, dI) vwCl [(lw, .inr (3, lf)), (lc, .inl (cC, 600, .inl cf)), (lb, .inl (cB, 6, .inl bf)), (lk, .inl (cK, 60, .inl kf)), (bw, .inr (0, bfs)), (tg, .inl (cT, 12, .inl tf)), (en, .inl (cE, 2, .inl ef))] U.heap ∧ va_K (dC, dI) vwCl [(cC, .int), (cB, .int), (cK, .int), (cT, .int), (cE, .int)] U ∧ va_D (fun _ => True) [(lw, .inr (3, lf)), (lc, .inl (cC, 600, .inl cf)), (lb, .inl (cB, 6, .inl bf)), (lk, .inl (cK, 60, .inl kf)), (bw, .inr (0, bfs)), (tg, .inl (cT, 12, .inl tf)), (en, .inl (cE, 2, .inl ef))])) (va_Qi (fun (r : Int32) (_ : Unit) => True) (fun _ t => ∃ (kg : Nat → Int32), lf[0]? = some (.ref lc) ∧ lf[1]? = some (.ref lb) ∧ lf[2]? = some (.ref lk) ∧ lf[3]? = some (.int lus) ∧ lf[4]? = some (.int lro) ∧ lf[5]? = some (.int lun) ∧ bfs[0]? = some (.ref tg) ∧ bfs[1]? = some (.ref en) ∧ bfs[2]? = some (.int bcrossings) ∧ bfs[3]? = some (.int bleft) ∧ bfs[4]? = some (.int bsteps) ∧ bfs[5]? = some (.int bslipped) ∧ bfs[6]? = some (.int bwalk) ∧ bfs[7]? = some (.int bnextStep) ∧ bfs[8]? = some (.int bsides) ∧ bfs[9]? = some (.int blikes) ∧ bfs[10]? = some (.int bsmooth) ∧ bfs[11]? = some (.int bweight) ∧ bfs[12]? = some (.int blength) ∧ bfs[13]? = some (.int bstrike) ∧ bfs[14]? = some (.int bswing) ∧ (∀ k, k < 6 → 0 ≤ ((bf k)).toInt ∧ ((bf k)).toInt ≤ 600) ∧ va_P (dC, dI) vwCl [(lw, .inr (3, lf)), (lc, .inl (cC, 600, .inl cf)), (lb, .inl (cB, 6, .inl bf)), (lk, .inl (cK, 60, .inl kg)), (bw, .inr (0, bfs)), (tg, .inl (cT, 12, .inl tf)), (en, .inl (cE, 2, .inl ef))] t.heap ∧ va_K (dC, dI) vwCl [] t ∧ va_D (va_A [(lw, .inr (3, lf)), (lc, .inl (cC, 600, .inl cf)), (lb, .inl (cB, 6, .inl bf)), (lk, .inl (cK, 60, .inl kf)), (bw, .inr (0, bfs)), (tg, .inl (cT, 12, .inl tf)), (en, .inl (cE, 2, .inl ef))] sz) [(lw, .inr (3, lf)), (lc, .inl (cC, 600, .inl cf)), (lb, .inl (cB, 6, .inl bf)), (lk, .inl (cK, 60, .inl kg)), (bw, .inr (0, bfs)), (tg, .inl (cT, 12, .inl tf)), (en, .inl (cE, 2, .inl ef))]) (va_A [(lw, .inr (3, lf)), (lc, .inl (cC, 600, .inl cf)), (lb, .inl (cB, 6, .inl bf)), (lk, .inl (cK, 60, .inl kf)), (bw, .inr (0, bfs)), (tg, .inl (cT, 12, .inl tf)), (en, .inl (cE, 2, .inl ef))] sz)) 0 0 (va_A [(lw, .inr (3, lf)), (lc, .inl (cC, 600, .inl cf)), (lb, .inl (cB, 6, .inl bf)), (lk, .inl (cK, 60, .inl kf)), (bw, .inr (0, bfs)), (tg, .inl (cT, 12, .inl tf)), (en, .inl (cE, 2, .inl ef))] sz) := by
  refine Met.ofW (cc := cX3_ask) (maxL := 8) (ret := (some .int)) (by decide) rfl ?_
  intro p e s m args below meth c s₁ B hml hv
  obtain ⟨rfl, hsz, hP, hK, hD0⟩ := hv
  have hx := B.exec
  have hb := B.bytes
  have hr := B.returns
  have hts := atoms_spec (ws := zw_d_ask) B.pre
  have hown : s.vm.findClass RX3 = some m.cls := findClass_of_methodNamed B.named
  have hlocks := B.notSynchronized
  subst hsz
  have hD := hD0.self (sz := s.heap.size)
  generalize hAe : va_A [(lw, .inr (3, lf)), (lc, .inl (cC, 600, .inl cf)), (lb, .inl (cB, 6, .inl bf)), (lk, .inl (cK, 60, .inl kf)), (bw, .inr (0, bfs)), (tg, .inl (cT, 12, .inl tf)), (en, .inl (cE, 2, .inl ef))] s.heap.size = A at hD ⊢
  have hA : ∀ q : Nat, s.heap.size ≤ q → A q := fun q h => by rw [← hAe]; exact Or.inr h
  have hS : va_S A s.heap s.heap [] := va_S.rf
  have hP : va_P (dC, dI) vwCl [(lw, .inr (3, lf)), (lc, .inl (cC, 600, .inl cf)), (lb, .inl (cB, 6, .inl bf)), (lk, .inl (cK, 60, .inl kf)), (bw, .inr (0, bfs)), (tg, .inl (cT, 12, .inl tf)), (en, .inl (cE, 2, .inl ef))] s.heap := hP
  have m_0 : (.fieldLink RX3 25 "BowWalk$Laws" "rows" "I" : Cond) ∈ zw_d_ask := List.mem_append_left _ (List.mem_of_getElem? (i := 1) rfl)
  have k_0 := hts _ m_0
  have m_1 : (.fieldLink RX3 15 "BowWalk$Laws" "behind" "[I" : Cond) ∈ zw_d_ask := List.mem_append_left _ (List.mem_of_getElem? (i := 2) rfl)
  have k_1 := hts _ m_1
  have m_2 : (.fieldLink RX3 18 "BowWalk$Laws" "stack" "[I" : Cond) ∈ zw_d_ask := List.mem_append_left _ (List.mem_of_getElem? (i := 3) rfl)
  have k_2 := hts _ m_2
  have m_3 : (.fieldLink RX3 9 "BowWalk$Laws" "code" "[I" : Cond) ∈ zw_d_ask := List.mem_append_left _ (List.mem_of_getElem? (i := 4) rfl)
  have k_3 := hts _ m_3
  have m_4 : (.methodLink RX3 45 yX6_isUnitWord : Cond) ∈ zw_d_ask := List.mem_append_left _ (List.mem_of_getElem? (i := 5) rfl)
  have k_4 := hts _ m_4
  have m_5 : (.static yX6_isUnitWord : Cond) ∈ zw_d_ask := List.mem_append_left _ (List.mem_of_getElem? (i := 6) rfl)
  have k_5 := hts _ m_5
  have m_6 : (.initialized RX6 : Cond) ∈ zw_d_ask := List.mem_append_left _ (List.mem_of_getElem? (i := 7) rfl)
  have k_6 := hts _ m_6
  have m_7 : (.methodLink RX3 56 yX3_join : Cond) ∈ zw_d_ask := List.mem_append_left _ (List.mem_of_getElem? (i := 8) rfl)
  have k_7 := hts _ m_7
  have m_8 : (.static yX3_join : Cond) ∈ zw_d_ask := List.mem_append_left _ (List.mem_of_getElem? (i := 9) rfl)
  have k_8 := hts _ m_8
  have m_9 : (.initialized RX3 : Cond) ∈ zw_d_ask := List.mem_append_left _ (List.mem_of_getElem? (i := 10) rfl)
  have k_9 := hts _ m_9
  have m_10 : (.methodLink RX3 50 yX0_tell : Cond) ∈ zw_d_ask := List.mem_append_left _ (List.mem_of_getElem? (i := 11) rfl)
  have k_10 := hts _ m_10
  have m_11 : (.instanceMethod yX0_tell : Cond) ∈ zw_d_ask := List.mem_append_left _ (List.mem_of_getElem? (i := 12) rfl)
  have k_11 := hts _ m_11
  have m_12 : (.selects RX0 yX0_tell yX0_tell : Cond) ∈ zw_d_ask := List.mem_append_left _ (List.mem_of_getElem? (i := 13) rfl)
  have k_12 := hts _ m_12
  have m_13 : (.initialized RX0 : Cond) ∈ zw_d_ask := List.mem_append_left _ (List.mem_of_getElem? (i := 14) rfl)
  have k_13 := hts _ m_13
  have g_d_isUnitWord : ∀ w ∈ zw_d_isUnitWord, w ∈ zw_d_ask := fun w h => List.mem_append_right _ (List.mem_append_left _ h)
  have g_d_join : ∀ w ∈ zw_d_join, w ∈ zw_d_ask := fun w h => List.mem_append_right _ (List.mem_append_right _ (List.mem_append_left _ h))
  have g_d_tell : ∀ w ∈ zw_d_tell, w ∈ zw_d_ask := fun w h => List.mem_append_right _ (List.mem_append_right _ (List.mem_append_right _ (List.mem_append_left _ h)))
  have i_X3 : ∀ w ∈ u_ws RX3 TX3 6, w ∈ zw_d_ask := fun w h => List.mem_append_right _ (List.mem_append_right _ (List.mem_append_right _ (List.mem_append_right _ (List.mem_append_left _ h))))
  have lt_m1 : ((-1) : Int32).toInt = -1 := by decide
  have lt_0 : (0 : Int32).toInt = 0 := by decide
  have lt_1 : (1 : Int32).toInt = 1 := by decide
  have lt_60 : (60 : Int32).toInt = 60 := by decide
  have lt_277 : (277 : Int32).toInt = 277 := by decide
  have lt_1000 : (1000 : Int32).toInt = 1000 := by decide
  have hl := lv_entry ([.ref lw, .int a1, .ref bw, .int a2]) (n := 8) (Nat.le_of_ble_eq_true rfl)
  rw [lg_entry_eq]
  generalize (lg_sl ([.ref lw, .int a1, .ref bw, .int a2]) ++ List.replicate (8 - (lg_sl ([.ref lw, .int a1, .ref bw, .int a2])).length) Slot.unset).toArray = ls at hl ⊢
  have hl : lv_has ls 8 [(0, .ref lw), (1, .int a1), (2, .ref bw), (3, .int a2)] := hl
  refine lv_iload_n hx hb dX3_ask_0 rfl (lv_at hl 1 rfl) ?_
  refine lv_if_lt (tgt := 12) hx hb dX3_ask_1 (by decide) (fun c1 => ?_) (fun c1 => ?_)
  · have tc1 := q_lt c1
    refine lv_iconst (v := 0) hx hb dX3_ask_12 (by decide) ?_
    have hP9 := hP.sub (ws' := [(lw, .inr (3, lf)), (lc, .inl (cC, 600, .inl cf)), (lb, .inl (cB, 6, .inl bf)), (lk, .inl (cK, 60, .inl kf)), (bw, .inr (0, bfs)), (tg, .inl (cT, 12, .inl tf)), (en, .inl (cE, 2, .inl ef))]) [0, 1, 2, 3, 4, 5, 6] rfl
    have hD9 := hD.sub (ws' := [(lw, .inr (3, lf)), (lc, .inl (cC, 600, .inl cf)), (lb, .inl (cB, 6, .inl bf)), (lk, .inl (cK, 60, .inl kf)), (bw, .inr (0, bfs)), (tg, .inl (cT, 12, .inl tf)), (en, .inl (cE, 2, .inl ef))]) [0, 1, 2, 3, 4, 5, 6] (by decide) rfl
    have hK9 := hK.sub (tys' := []) [] rfl
    exact W.iret (v := 0) hx hb hr (fun t ht hW => ⟨⟨0, (), rfl, trivial, kf, f_lf_0, f_lf_1, f_lf_2, f_lf_3, f_lf_4, f_lf_5, f_bfs_0, f_bfs_1, f_bfs_2, f_bfs_3, f_bfs_4, f_bfs_5, f_bfs_6, f_bfs_7, f_bfs_8, f_bfs_9, f_bfs_10, f_bfs_11, f_bfs_12, f_bfs_13, f_bfs_14, hr_bf, by rw [ht]; exact hP9, va_K.moved hW.alike hK9, hD9⟩, hS.F ht⟩) hS.2.2 dX3_ask_13
  · have tc1 := q_geN c1
    refine lv_iload_n hx hb dX3_ask_4 rfl (lv_at hl 1 rfl) ?_
    refine lv_aload_n hx hb dX3_ask_5 rfl (lv_at hl 0 rfl) ?_
    refine va_get (D := (dC, dI)) (ci := 3) (v := .int lro) (C := RX3) (T := TX3) (N := 6) hx hb hts i_X3 hown hK hP 0 rfl rfl 4 (by decide) k_0 (fun _ h9 => h9) f_lf_4 dX3_ask_6 ?_
    refine lv_icmp_lt (tgt := 14) hx hb dX3_ask_9 (by decide) (fun c9 => ?_) (fun c9 => ?_)
    · have tc9 := q_lt c9
      refine lv_iconst (v := 0) hx hb dX3_ask_14 (by decide) ?_
      refine lv_istore (lv' := [(4, .int 0), (0, .ref lw), (1, .int a1), (2, .ref bw), (3, .int a2)]) hx hb dX3_ask_15 hl (by decide) rfl (fun ls hl => ?_)
      refine lv_iload_n hx hb dX3_ask_17 rfl (lv_at hl 2 rfl) ?_
      refine lv_if_ne (tgt := 25) hx hb dX3_ask_18 (by decide) (fun c18 => ?_) (fun c18 => ?_)
      · have tc18 := q_ne c18
        refine lv_aload_n hx hb dX3_ask_25 rfl (lv_at hl 1 rfl) ?_
        refine va_get (D := (dC, dI)) (ci := 3) (v := .ref lb) (C := RX3) (T := TX3) (N := 6) hx hb hts i_X3 hown hK hP 0 rfl rfl 1 (by decide) k_1 (fun _ h9 => h9) f_lf_1 dX3_ask_26 ?_
        refine lv_iload_n hx hb dX3_ask_29 rfl (lv_at hl 2 rfl) ?_
        refine lv_iconst (v := 1) hx hb dX3_ask_30 (by decide) ?_
        refine lv_isub hx hb dX3_ask_31 ?_
        refine lv_topi (fun v_1 ev_1 => ?_)
        try have tv_1 := q_sub ev_1 (by omega) (by omega)
        refine va_iald hx hb hK hP 2 1 rfl rfl (q_in (by omega) (by omega)) dX3_ask_32 ?_
        refine lv_topi (fun v_2 ev_2 => ?_)
        have uv_2 : v_2.toInt = (bf v_1.toNatClampNeg).toInt := by rw [ev_2]
        have tv_2 : 0 ≤ (v_2).toInt ∧ (v_2).toInt ≤ 600 := q_rd (P := fun z : Int32 => 0 ≤ (z).toInt ∧ (z).toInt ≤ 600) hr_bf (q_in (i := v_1) (n := 6) (by omega) (by omega)) ev_2
        refine lv_istore (lv' := [(5, .int v_2), (4, .int 0), (0, .ref lw), (1, .int a1), (2, .ref bw), (3, .int a2)]) hx hb dX3_ask_33 hl (by decide) rfl (fun ls hl => ?_)
        have key35 : ∀ (fu : Nat) (top : Int32) (att : Int32) (rz_lk : Nat → Int32) (H : Heap) (locs : List Loc) (ls : Array Slot) (hfu : (bf a1.toNatClampNeg).toInt - att.toInt ≤ (fu : Int)) (hp0 : 0 ≤ top.toInt ∧ top.toInt ≤ 60) (hp1 : 0 ≤ att.toInt), va_P (dC, dI) vwCl [(lw, .inr (3, lf)), (lc, .inl (cC, 600, .inl cf)), (lb, .inl (cB, 6, .inl bf)), (lk, .inl (cK, 60, .inl rz_lk)), (bw, .inr (0, bfs)), (tg, .inl (cT, 12, .inl tf)), (en, .inl (cE, 2, .inl ef))] H → va_D A [(lw, .inr (3, lf)), (lc, .inl (cC, 600, .inl cf)), (lb, .inl (cB, 6, .inl bf)), (lk, .inl (cK, 60, .inl rz_lk)), (bw, .inr (0, bfs)), (tg, .inl (cT, 12, .inl tf)), (en, .inl (cE, 2, .inl ef))] → va_S A s.heap H locs → lv_has ls 8 [(5, .int att), (4, .int top), (0, .ref lw), (1, .int a1), (2, .ref bw), (3, .int a2)] → W p l e (headSpec zw_d_ask { frames := 1, cells := 0, slots := 0, locals := 22 }).room s m ([.ref lw, .int a1, .ref bw, .int a2] : List Value).toArray below meth c H locs 0 0 (MQ below (va_Qi (fun (r : Int32) (_ : Unit) => True) (fun _ t => ∃ (kg : Nat → Int32), lf[0]? = some (.ref lc) ∧ lf[1]? = some (.ref lb) ∧ lf[2]? = some (.ref lk) ∧ lf[3]? = some (.int lus) ∧ lf[4]? = some (.int lro) ∧ lf[5]? = some (.int lun) ∧ bfs[0]? = some (.ref tg) ∧ bfs[1]? = some (.ref en) ∧ bfs[2]? = some (.int bcrossings) ∧ bfs[3]? = some (.int bleft) ∧ bfs[4]? = some (.int bsteps) ∧ bfs[5]? = some (.int bslipped) ∧ bfs[6]? = some (.int bwalk) ∧ bfs[7]? = some (.int bnextStep) ∧ bfs[8]? = some (.int bsides) ∧ bfs[9]? = some (.int blikes) ∧ bfs[10]? = some (.int bsmooth) ∧ bfs[11]? = some (.int bweight) ∧ bfs[12]? = some (.int blength) ∧ bfs[13]? = some (.int bstrike) ∧ bfs[14]? = some (.int bswing) ∧ (∀ k, k < 6 → 0 ≤ ((bf k)).toInt ∧ ((bf k)).toInt ≤ 600) ∧ va_P (dC, dI) vwCl [(lw, .inr (3, lf)), (lc, .inl (cC, 600, .inl cf)), (lb, .inl (cB, 6, .inl bf)), (lk, .inl (cK, 60, .inl kg)), (bw, .inr (0, bfs)), (tg, .inl (cT, 12, .inl tf)), (en, .inl (cE, 2, .inl ef))] t.heap ∧ va_K (dC, dI) vwCl [] t ∧ va_D A [(lw, .inr (3, lf)), (lc, .inl (cC, 600, .inl cf)), (lb, .inl (cB, 6, .inl bf)), (lk, .inl (cK, 60, .inl kg)), (bw, .inr (0, bfs)), (tg, .inl (cT, 12, .inl tf)), (en, .inl (cE, 2, .inl ef))]) A) ([.ref lw, .int a1, .ref bw, .int a2] : List Value).toArray s 0 0 A) (F0 m 35 ls []) := by
          intro fu
          induction fu with
          | zero =>
            intro top att rz_lk H locs ls hfu hp0 hp1 hP hD hS hl
            refine lv_iload hx hb dX3_ask_35 (lv_at hl 0 rfl) ?_
            refine lv_aload_n hx hb dX3_ask_37 rfl (lv_at hl 2 rfl) ?_
            refine va_get (D := (dC, dI)) (ci := 3) (v := .ref lb) (C := RX3) (T := TX3) (N := 6) hx hb hts i_X3 hown hK hP 0 rfl rfl 1 (by decide) k_1 (fun _ h9 => h9) f_lf_1 dX3_ask_38 ?_
            refine lv_iload_n hx hb dX3_ask_41 rfl (lv_at hl 3 rfl) ?_
            refine va_iald hx hb hK hP 2 1 rfl rfl (q_in (by omega) (by omega)) dX3_ask_42 ?_
            refine lv_topi (fun v_3 ev_3 => ?_)
            have uv_3 : v_3.toInt = (bf a1.toNatClampNeg).toInt := by rw [ev_3]
            have tv_3 : 0 ≤ (v_3).toInt ∧ (v_3).toInt ≤ 600 := q_rd (P := fun z : Int32 => 0 ≤ (z).toInt ∧ (z).toInt ≤ 600) hr_bf (q_in (i := a1) (n := 6) (by omega) (by omega)) ev_3
            refine lv_icmp_ge (tgt := 211) hx hb dX3_ask_43 (by decide) (fun c43 => ?_) (fun c43 => ?_)
            · have tc43 := q_ge c43
              refine lv_aload_n hx hb dX3_ask_211 rfl (lv_at hl 2 rfl) ?_
              refine va_get (D := (dC, dI)) (ci := 3) (v := .ref lk) (C := RX3) (T := TX3) (N := 6) hx hb hts i_X3 hown hK hP 0 rfl rfl 2 (by decide) k_2 (fun _ h9 => h9) f_lf_2 dX3_ask_212 ?_
              refine lv_iconst (v := 0) hx hb dX3_ask_215 (by decide) ?_
              refine va_iald hx hb hK hP 3 2 rfl rfl (p1_in (i := 0) (n := 60) (by decide)) dX3_ask_216 ?_
              refine lv_topi (fun v_4 ev_4 => ?_)
              have uv_4 : v_4.toInt = (rz_lk (0 : Int32).toNatClampNeg).toInt := by rw [ev_4]
              have hP9 := hP.sub (ws' := [(lw, .inr (3, lf)), (lc, .inl (cC, 600, .inl cf)), (lb, .inl (cB, 6, .inl bf)), (lk, .inl (cK, 60, .inl rz_lk)), (bw, .inr (0, bfs)), (tg, .inl (cT, 12, .inl tf)), (en, .inl (cE, 2, .inl ef))]) [0, 1, 2, 3, 4, 5, 6] rfl
              have hD9 := hD.sub (ws' := [(lw, .inr (3, lf)), (lc, .inl (cC, 600, .inl cf)), (lb, .inl (cB, 6, .inl bf)), (lk, .inl (cK, 60, .inl rz_lk)), (bw, .inr (0, bfs)), (tg, .inl (cT, 12, .inl tf)), (en, .inl (cE, 2, .inl ef))]) [0, 1, 2, 3, 4, 5, 6] (by decide) rfl
              have hK9 := hK.sub (tys' := []) [] rfl
              exact W.iret (v := v_4) hx hb hr (fun t ht hW => ⟨⟨v_4, (), rfl, trivial, rz_lk, f_lf_0, f_lf_1, f_lf_2, f_lf_3, f_lf_4, f_lf_5, f_bfs_0, f_bfs_1, f_bfs_2, f_bfs_3, f_bfs_4, f_bfs_5, f_bfs_6, f_bfs_7, f_bfs_8, f_bfs_9, f_bfs_10, f_bfs_11, f_bfs_12, f_bfs_13, f_bfs_14, hr_bf, by rw [ht]; exact hP9, va_K.moved hW.alike hK9, hD9⟩, hS.F ht⟩) hS.2.2 dX3_ask_217
            · have tc43 := q_ltN c43
              refine lv_aload_n hx hb dX3_ask_46 rfl (lv_at hl 2 rfl) ?_
              refine va_get (D := (dC, dI)) (ci := 3) (v := .ref lc) (C := RX3) (T := TX3) (N := 6) hx hb hts i_X3 hown hK hP 0 rfl rfl 0 (by decide) k_3 (fun _ h9 => h9) f_lf_0 dX3_ask_47 ?_
              refine lv_iload hx hb dX3_ask_50 (lv_at hl 0 rfl) ?_
              refine va_iald hx hb hK hP 1 0 rfl rfl (q_in (by omega) (by omega)) dX3_ask_52 ?_
              refine lv_topi (fun v_5 ev_5 => ?_)
              have uv_5 : v_5.toInt = (cf att.toNatClampNeg).toInt := by rw [ev_5]
              refine lv_istore (lv' := [(6, .int v_5), (5, .int att), (4, .int top), (0, .ref lw), (1, .int a1), (2, .ref bw), (3, .int a2)]) hx hb dX3_ask_53 hl (by decide) rfl (fun ls hl => ?_)
              refine lv_iload hx hb dX3_ask_55 (lv_at hl 0 rfl) ?_
              refine lv_sipush (v := 1000) hx hb dX3_ask_57 (by decide) ?_
              refine lv_icmp_lt (tgt := 67) hx hb dX3_ask_60 (by decide) (fun c60 => ?_) (fun c60 => ?_)
              · have tc60 := q_lt c60
                refine lv_iconst (v := 0) hx hb dX3_ask_67 (by decide) ?_
                refine lv_istore (lv' := [(7, .int 0), (6, .int v_5), (5, .int att), (4, .int top), (0, .ref lw), (1, .int a1), (2, .ref bw), (3, .int a2)]) hx hb dX3_ask_68 hl (by decide) rfl (fun ls hl => ?_)
                refine lv_iload hx hb dX3_ask_70 (lv_at hl 0 rfl) ?_
                refine lv_if_ne (tgt := 83) hx hb dX3_ask_72 (by decide) (fun c9 => absurd c9 (by decide)) (fun _ => ?_)
                refine lv_iload hx hb dX3_ask_75 (lv_at hl 1 rfl) ?_
                have hPc := hP.sub (ws' := []) [] rfl
                have hDc := hD.sub (ws' := []) [] (by decide) rfl
                have hKc := hK.sub (tys' := []) [] rfl
                have hFc := va_free (wc := []) hD hS hA [] rfl
                refine va_calli (va_runS (As := [.int v_5]) (rest := []) ⟨hx, hb, hml, hown, hts⟩ (d_isUnitWord l dC dI H.size v_5) (va_cwS 1 hts (p1_gS m_4 m_5 m_6 g_d_isUnitWord gz_d_isUnitWord) rfl rfl rfl (by decide +kernel) ⟨by decide, by decide⟩) ⟨fun a U g mk q => by obtain ⟨q0, q1, qP, qK, qD⟩ := q; exact ⟨q0, q1, qP, va_K.moved (u := U) (U := U.calling g mk a) (Vm.Alike.refl U.vm) qK, qD⟩, fun U hU hW => ⟨rfl, by rw [hU], by rw [hU]; exact hPc, va_K.moved hW.alike hKc, hDc.weaken (fun _ _ _ _ => trivial)⟩⟩ rfl rfl hl.1 rfl (lv_room (Nat.le_of_ble_eq_true rfl)) dX3_ask_77 ⟨by decide, by decide⟩) hS (fun q _ h => hFc q h) hFc (fun r_6 u t H1 locs ht hvm hw hB hz1 hk1 hS => ?_)
                obtain ⟨hP1, hK1, hD1⟩ := hB
                rw [ht] at hP1
                obtain ⟨hP, hD⟩ := va_join (wr := [(lw, .inr (3, lf)), (lc, .inl (cC, 600, .inl cf)), (lb, .inl (cB, 6, .inl bf)), (lk, .inl (cK, 60, .inl rz_lk)), (bw, .inr (0, bfs)), (tg, .inl (cT, 12, .inl tf)), (en, .inl (cE, 2, .inl ef))]) (w1 := []) hP hD [] [0, 1, 2, 3, 4, 5, 6] rfl rfl (by decide) (by decide) hk1 hFc hP1 hD1
                generalize H1 = H at hP hS ⊢
                have hP : va_P (dC, dI) vwCl [(lw, .inr (3, lf)), (lc, .inl (cC, 600, .inl cf)), (lb, .inl (cB, 6, .inl bf)), (lk, .inl (cK, 60, .inl rz_lk)), (bw, .inr (0, bfs)), (tg, .inl (cT, 12, .inl tf)), (en, .inl (cE, 2, .inl ef))] H := hP
                have hD : va_D A [(lw, .inr (3, lf)), (lc, .inl (cC, 600, .inl cf)), (lb, .inl (cB, 6, .inl bf)), (lk, .inl (cK, 60, .inl rz_lk)), (bw, .inr (0, bfs)), (tg, .inl (cT, 12, .inl tf)), (en, .inl (cE, 2, .inl ef))] := hD
                try dsimp only at hw
                have hw_7 := hw
                refine lv_if_eq (tgt := 124) hx hb dX3_ask_80 (by decide) (fun c80 => ?_) (fun c80 => ?_)
                · have tc80 := q_eq c80
                  refine lv_iload hx hb dX3_ask_124 (lv_at hl 1 rfl) ?_
                  refine lv_sipush (v := 277) hx hb dX3_ask_126 (by decide) ?_
                  refine lv_icmp_ne (tgt := 166) hx hb dX3_ask_129 (by decide) (fun c129 => ?_) (fun c129 => ?_)
                  · have tc129 := q_ne c129
                    refine lv_iload hx hb dX3_ask_166 (lv_at hl 3 rfl) ?_
                    refine lv_iconst (v := 1) hx hb dX3_ask_168 (by decide) ?_
                    refine lv_icmp_le (tgt := 205) hx hb dX3_ask_169 (by decide) (fun c169 => ?_) (fun c169 => ?_)
                    · have tc169 := q_le c169
                      obtain ⟨v_8, ev_8⟩ : ∃ y : Int32, y = att + 1 := ⟨_, rfl⟩
                      try have tv_8 := q_add ev_8 (by omega) (by omega)
                      refine lv_iinc (v := v_8) (lv' := [(5, .int v_8), (7, .int 0), (6, .int v_5), (4, .int top), (0, .ref lw), (1, .int a1), (2, .ref bw), (3, .int a2)]) hx hb dX3_ask_205 hl (k := 2) rfl (by rw [ev_8]; rfl) (by decide) rfl (fun ls hl => ?_)
                      refine lv_goto (tgt := 35) hx hb dX3_ask_208 (by decide) ?_
                      exfalso; omega
                    · have tc169 := q_gtN c169
                      obtain ⟨v_9, ev_9⟩ : ∃ y : Int32, y = top + (-1) := ⟨_, rfl⟩
                      try have tv_9 := q_add ev_9 (by omega) (by omega)
                      refine lv_iinc (v := v_9) (lv' := [(4, .int v_9), (7, .int 0), (6, .int v_5), (5, .int att), (0, .ref lw), (1, .int a1), (2, .ref bw), (3, .int a2)]) hx hb dX3_ask_172 hl (k := 3) rfl (by rw [ev_9]; rfl) (by decide) rfl (fun ls hl => ?_)
                      refine lv_aload_n hx hb dX3_ask_175 rfl (lv_at hl 4 rfl) ?_
                      refine va_get (D := (dC, dI)) (ci := 3) (v := .ref lk) (C := RX3) (T := TX3) (N := 6) hx hb hts i_X3 hown hK hP 0 rfl rfl 2 (by decide) k_2 (fun _ h9 => h9) f_lf_2 dX3_ask_176 ?_
                      refine lv_iload hx hb dX3_ask_179 (lv_at hl 0 rfl) ?_
                      refine lv_iconst (v := 1) hx hb dX3_ask_181 (by decide) ?_
                      refine lv_isub hx hb dX3_ask_182 ?_
                      refine lv_topi (fun v_10 ev_10 => ?_)
                      try have tv_10 := q_sub ev_10 (by omega) (by omega)
                      refine lv_iload hx hb dX3_ask_183 (lv_at hl 2 rfl) ?_
                      refine lv_aload_n hx hb dX3_ask_185 rfl (lv_at hl 4 rfl) ?_
                      refine va_get (D := (dC, dI)) (ci := 3) (v := .ref lk) (C := RX3) (T := TX3) (N := 6) hx hb hts i_X3 hown hK hP 0 rfl rfl 2 (by decide) k_2 (fun _ h9 => h9) f_lf_2 dX3_ask_186 ?_
                      refine lv_iload hx hb dX3_ask_189 (lv_at hl 0 rfl) ?_
                      refine lv_iconst (v := 1) hx hb dX3_ask_191 (by decide) ?_
                      refine lv_isub hx hb dX3_ask_192 ?_
                      refine lv_topi (fun v_11 ev_11 => ?_)
                      try have tv_11 := q_sub ev_11 (by omega) (by omega)
                      refine va_iald hx hb hK hP 3 2 rfl rfl (q_in (by omega) (by omega)) dX3_ask_193 ?_
                      refine lv_topi (fun v_12 ev_12 => ?_)
                      have uv_12 : v_12.toInt = (rz_lk v_11.toNatClampNeg).toInt := by rw [ev_12]
                      refine lv_aload_n hx hb dX3_ask_194 rfl (lv_at hl 4 rfl) ?_
                      refine va_get (D := (dC, dI)) (ci := 3) (v := .ref lk) (C := RX3) (T := TX3) (N := 6) hx hb hts i_X3 hown hK hP 0 rfl rfl 2 (by decide) k_2 (fun _ h9 => h9) f_lf_2 dX3_ask_195 ?_
                      refine lv_iload hx hb dX3_ask_198 (lv_at hl 0 rfl) ?_
                      refine va_iald hx hb hK hP 3 2 rfl rfl (q_in (by omega) (by omega)) dX3_ask_200 ?_
                      refine lv_topi (fun v_13 ev_13 => ?_)
                      have uv_13 : v_13.toInt = (rz_lk v_9.toNatClampNeg).toInt := by rw [ev_13]
                      have hPc := hP.sub (ws' := []) [] rfl
                      have hDc := hD.sub (ws' := []) [] (by decide) rfl
                      have hKc := hK.sub (tys' := []) [] rfl
                      have hFc := va_free (wc := []) hD hS hA [] rfl
                      refine va_calli (va_runS (As := [.int v_5, .int v_12, .int v_13]) (rest := [.int v_10, .ref lk]) ⟨hx, hb, hml, hown, hts⟩ (d_join l dC dI H.size v_5 v_12 v_13) (va_cwS 3 hts (p1_gS m_7 m_8 m_9 g_d_join gz_d_join) rfl rfl rfl (by decide +kernel) ⟨by decide, by decide⟩) ⟨fun a U g mk q => by obtain ⟨q0, q1, qP, qK, qD⟩ := q; exact ⟨q0, q1, qP, va_K.moved (u := U) (U := U.calling g mk a) (Vm.Alike.refl U.vm) qK, qD⟩, fun U hU hW => ⟨rfl, by rw [hU], by rw [hU]; exact hPc, va_K.moved hW.alike hKc, hDc.weaken (fun _ _ _ _ => trivial)⟩⟩ rfl rfl hl.1 rfl (lv_room (Nat.le_of_ble_eq_true rfl)) dX3_ask_201 ⟨by decide, by decide⟩) hS (fun q _ h => hFc q h) hFc (fun r_14 u t H1 locs ht hvm hw hB hz1 hk1 hS => ?_)
                      obtain ⟨hP1, hK1, hD1⟩ := hB
                      rw [ht] at hP1
                      obtain ⟨hP, hD⟩ := va_join (wr := [(lw, .inr (3, lf)), (lc, .inl (cC, 600, .inl cf)), (lb, .inl (cB, 6, .inl bf)), (lk, .inl (cK, 60, .inl rz_lk)), (bw, .inr (0, bfs)), (tg, .inl (cT, 12, .inl tf)), (en, .inl (cE, 2, .inl ef))]) (w1 := []) hP hD [] [0, 1, 2, 3, 4, 5, 6] rfl rfl (by decide) (by decide) hk1 hFc hP1 hD1
                      generalize H1 = H at hP hS ⊢
                      have hP : va_P (dC, dI) vwCl [(lw, .inr (3, lf)), (lc, .inl (cC, 600, .inl cf)), (lb, .inl (cB, 6, .inl bf)), (lk, .inl (cK, 60, .inl rz_lk)), (bw, .inr (0, bfs)), (tg, .inl (cT, 12, .inl tf)), (en, .inl (cE, 2, .inl ef))] H := hP
                      have hD : va_D A [(lw, .inr (3, lf)), (lc, .inl (cC, 600, .inl cf)), (lb, .inl (cB, 6, .inl bf)), (lk, .inl (cK, 60, .inl rz_lk)), (bw, .inr (0, bfs)), (tg, .inl (cT, 12, .inl tf)), (en, .inl (cE, 2, .inl ef))] := hD
                      try dsimp only at hw
                      have hw_15 := hw
                      refine va_iast hx hb hK hP hD hS 3 2 rfl rfl (q_in (by omega) (by omega)) dX3_ask_204 (fun H locs hP hD hS => ?_)
                      have hP : va_P (dC, dI) vwCl [(lw, .inr (3, lf)), (lc, .inl (cC, 600, .inl cf)), (lb, .inl (cB, 6, .inl bf)), (lk, .inl (cK, 60, .inl (upd rz_lk v_10.toNatClampNeg r_14))), (bw, .inr (0, bfs)), (tg, .inl (cT, 12, .inl tf)), (en, .inl (cE, 2, .inl ef))] H := hP
                      have hD : va_D A [(lw, .inr (3, lf)), (lc, .inl (cC, 600, .inl cf)), (lb, .inl (cB, 6, .inl bf)), (lk, .inl (cK, 60, .inl (upd rz_lk v_10.toNatClampNeg r_14))), (bw, .inr (0, bfs)), (tg, .inl (cT, 12, .inl tf)), (en, .inl (cE, 2, .inl ef))] := hD
                      generalize eg_16 : (upd rz_lk v_10.toNatClampNeg r_14) = g_16 at hP hD
                      obtain ⟨v_17, ev_17⟩ : ∃ y : Int32, y = att + 1 := ⟨_, rfl⟩
                      try have tv_17 := q_add ev_17 (by omega) (by omega)
                      refine lv_iinc (v := v_17) (lv' := [(5, .int v_17), (4, .int v_9), (7, .int 0), (6, .int v_5), (0, .ref lw), (1, .int a1), (2, .ref bw), (3, .int a2)]) hx hb dX3_ask_205 hl (k := 3) rfl (by rw [ev_17]; rfl) (by decide) rfl (fun ls hl => ?_)
                      refine lv_goto (tgt := 35) hx hb dX3_ask_208 (by decide) ?_
                      exfalso; omega
                  · have tc129 := q_eqN c129
                    refine lv_iload hx hb dX3_ask_132 (lv_at hl 3 rfl) ?_
                    refine lv_if_le (tgt := 205) hx hb dX3_ask_134 (by decide) (fun c134 => ?_) (fun c134 => ?_)
                    · have tc134 := q_le c134
                      obtain ⟨v_18, ev_18⟩ : ∃ y : Int32, y = att + 1 := ⟨_, rfl⟩
                      try have tv_18 := q_add ev_18 (by omega) (by omega)
                      refine lv_iinc (v := v_18) (lv' := [(5, .int v_18), (7, .int 0), (6, .int v_5), (4, .int top), (0, .ref lw), (1, .int a1), (2, .ref bw), (3, .int a2)]) hx hb dX3_ask_205 hl (k := 2) rfl (by rw [ev_18]; rfl) (by decide) rfl (fun ls hl => ?_)
                      refine lv_goto (tgt := 35) hx hb dX3_ask_208 (by decide) ?_
                      exfalso; omega
                    · have tc134 := q_gtN c134
                      refine lv_aload_n hx hb dX3_ask_137 rfl (lv_at hl 4 rfl) ?_
                      refine va_get (D := (dC, dI)) (ci := 3) (v := .ref lk) (C := RX3) (T := TX3) (N := 6) hx hb hts i_X3 hown hK hP 0 rfl rfl 2 (by decide) k_2 (fun _ h9 => h9) f_lf_2 dX3_ask_138 ?_
                      refine lv_iload hx hb dX3_ask_141 (lv_at hl 3 rfl) ?_
                      refine lv_iconst (v := 1) hx hb dX3_ask_143 (by decide) ?_
                      refine lv_isub hx hb dX3_ask_144 ?_
                      refine lv_topi (fun v_19 ev_19 => ?_)
                      try have tv_19 := q_sub ev_19 (by omega) (by omega)
                      refine lv_aload_n hx hb dX3_ask_145 rfl (lv_at hl 4 rfl) ?_
                      refine va_get (D := (dC, dI)) (ci := 3) (v := .ref lk) (C := RX3) (T := TX3) (N := 6) hx hb hts i_X3 hown hK hP 0 rfl rfl 2 (by decide) k_2 (fun _ h9 => h9) f_lf_2 dX3_ask_146 ?_
                      refine lv_iload hx hb dX3_ask_149 (lv_at hl 3 rfl) ?_
                      refine lv_iconst (v := 1) hx hb dX3_ask_151 (by decide) ?_
                      refine lv_isub hx hb dX3_ask_152 ?_
                      refine lv_topi (fun v_20 ev_20 => ?_)
                      try have tv_20 := q_sub ev_20 (by omega) (by omega)
                      refine va_iald hx hb hK hP 3 2 rfl rfl (q_in (by omega) (by omega)) dX3_ask_153 ?_
                      refine lv_topi (fun v_21 ev_21 => ?_)
                      have uv_21 : v_21.toInt = (rz_lk v_20.toNatClampNeg).toInt := by rw [ev_21]
                      refine lv_if_ne (tgt := 161) hx hb dX3_ask_154 (by decide) (fun c154 => ?_) (fun c154 => ?_)
                      · have tc154 := q_ne c154
                        refine lv_iconst (v := 0) hx hb dX3_ask_161 (by decide) ?_
                        refine va_iast hx hb hK hP hD hS 3 2 rfl rfl (q_in (by omega) (by omega)) dX3_ask_162 (fun H locs hP hD hS => ?_)
                        have hP : va_P (dC, dI) vwCl [(lw, .inr (3, lf)), (lc, .inl (cC, 600, .inl cf)), (lb, .inl (cB, 6, .inl bf)), (lk, .inl (cK, 60, .inl (upd rz_lk v_19.toNatClampNeg 0))), (bw, .inr (0, bfs)), (tg, .inl (cT, 12, .inl tf)), (en, .inl (cE, 2, .inl ef))] H := hP
                        have hD : va_D A [(lw, .inr (3, lf)), (lc, .inl (cC, 600, .inl cf)), (lb, .inl (cB, 6, .inl bf)), (lk, .inl (cK, 60, .inl (upd rz_lk v_19.toNatClampNeg 0))), (bw, .inr (0, bfs)), (tg, .inl (cT, 12, .inl tf)), (en, .inl (cE, 2, .inl ef))] := hD
                        generalize eg_22 : (upd rz_lk v_19.toNatClampNeg 0) = g_22 at hP hD
                        refine lv_goto (tgt := 205) hx hb dX3_ask_163 (by decide) ?_
                        obtain ⟨v_23, ev_23⟩ : ∃ y : Int32, y = att + 1 := ⟨_, rfl⟩
                        try have tv_23 := q_add ev_23 (by omega) (by omega)
                        refine lv_iinc (v := v_23) (lv' := [(5, .int v_23), (7, .int 0), (6, .int v_5), (4, .int top), (0, .ref lw), (1, .int a1), (2, .ref bw), (3, .int a2)]) hx hb dX3_ask_205 hl (k := 2) rfl (by rw [ev_23]; rfl) (by decide) rfl (fun ls hl => ?_)
                        refine lv_goto (tgt := 35) hx hb dX3_ask_208 (by decide) ?_
                        exfalso; omega
                      · have tc154 := q_eqN c154
                        refine lv_iconst (v := 1) hx hb dX3_ask_157 (by decide) ?_
                        refine lv_goto (tgt := 162) hx hb dX3_ask_158 (by decide) ?_
                        refine va_iast hx hb hK hP hD hS 3 2 rfl rfl (q_in (by omega) (by omega)) dX3_ask_162 (fun H locs hP hD hS => ?_)
                        have hP : va_P (dC, dI) vwCl [(lw, .inr (3, lf)), (lc, .inl (cC, 600, .inl cf)), (lb, .inl (cB, 6, .inl bf)), (lk, .inl (cK, 60, .inl (upd rz_lk v_19.toNatClampNeg 1))), (bw, .inr (0, bfs)), (tg, .inl (cT, 12, .inl tf)), (en, .inl (cE, 2, .inl ef))] H := hP
                        have hD : va_D A [(lw, .inr (3, lf)), (lc, .inl (cC, 600, .inl cf)), (lb, .inl (cB, 6, .inl bf)), (lk, .inl (cK, 60, .inl (upd rz_lk v_19.toNatClampNeg 1))), (bw, .inr (0, bfs)), (tg, .inl (cT, 12, .inl tf)), (en, .inl (cE, 2, .inl ef))] := hD
                        generalize eg_24 : (upd rz_lk v_19.toNatClampNeg 1) = g_24 at hP hD
                        refine lv_goto (tgt := 205) hx hb dX3_ask_163 (by decide) ?_
                        obtain ⟨v_25, ev_25⟩ : ∃ y : Int32, y = att + 1 := ⟨_, rfl⟩
                        try have tv_25 := q_add ev_25 (by omega) (by omega)
                        refine lv_iinc (v := v_25) (lv' := [(5, .int v_25), (7, .int 0), (6, .int v_5), (4, .int top), (0, .ref lw), (1, .int a1), (2, .ref bw), (3, .int a2)]) hx hb dX3_ask_205 hl (k := 2) rfl (by rw [ev_25]; rfl) (by decide) rfl (fun ls hl => ?_)
                        refine lv_goto (tgt := 35) hx hb dX3_ask_208 (by decide) ?_
                        exfalso; omega
                · have tc80 := q_neN c80
                  refine lv_iload hx hb dX3_ask_83 (lv_at hl 3 rfl) ?_
                  refine lv_bipush (v := 60) hx hb dX3_ask_85 (by decide) ?_
                  refine lv_icmp_ge (tgt := 205) hx hb dX3_ask_87 (by decide) (fun c87 => ?_) (fun c87 => ?_)
                  · have tc87 := q_ge c87
                    obtain ⟨v_26, ev_26⟩ : ∃ y : Int32, y = att + 1 := ⟨_, rfl⟩
                    try have tv_26 := q_add ev_26 (by omega) (by omega)
                    refine lv_iinc (v := v_26) (lv' := [(5, .int v_26), (7, .int 0), (6, .int v_5), (4, .int top), (0, .ref lw), (1, .int a1), (2, .ref bw), (3, .int a2)]) hx hb dX3_ask_205 hl (k := 2) rfl (by rw [ev_26]; rfl) (by decide) rfl (fun ls hl => ?_)
                    refine lv_goto (tgt := 35) hx hb dX3_ask_208 (by decide) ?_
                    exfalso; omega
                  · have tc87 := q_ltN c87
                    refine lv_aload_n hx hb dX3_ask_90 rfl (lv_at hl 4 rfl) ?_
                    refine va_get (D := (dC, dI)) (ci := 3) (v := .ref lk) (C := RX3) (T := TX3) (N := 6) hx hb hts i_X3 hown hK hP 0 rfl rfl 2 (by decide) k_2 (fun _ h9 => h9) f_lf_2 dX3_ask_91 ?_
                    refine lv_iload hx hb dX3_ask_94 (lv_at hl 3 rfl) ?_
                    refine lv_iload hx hb dX3_ask_96 (lv_at hl 0 rfl) ?_
                    refine lv_if_eq (tgt := 110) hx hb dX3_ask_98 (by decide) (fun _ => ?_) (fun c9 => absurd c9 (by decide))
                    refine lv_aload_n hx hb dX3_ask_110 rfl (lv_at hl 6 rfl) ?_
                    refine lv_iload hx hb dX3_ask_111 (lv_at hl 1 rfl) ?_
                    refine lv_iload_n hx hb dX3_ask_113 rfl (lv_at hl 7 rfl) ?_
                    have hPc := hP.sub (ws' := [(bw, .inr (0, bfs)), (tg, .inl (cT, 12, .inl tf)), (en, .inl (cE, 2, .inl ef))]) [4, 5, 6] rfl
                    have hDc := hD.sub (ws' := [(bw, .inr (0, bfs)), (tg, .inl (cT, 12, .inl tf)), (en, .inl (cE, 2, .inl ef))]) [4, 5, 6] (by decide) rfl
                    have hKc := hK.sub (tys' := [(cT, .int), (cE, .int)]) [3, 4] rfl
                    have hFc := va_free (wc := [(bw, .inr (0, bfs)), (tg, .inl (cT, 12, .inl tf)), (en, .inl (cE, 2, .inl ef))]) hD hS hA [4, 5, 6] rfl
                    refine va_calli (va_runV (As := [.int v_5, .int a2]) (rest := [.int top, .ref lk]) ⟨hx, hb, hml, hown, hts⟩ (d_tell l dC dI H.size bw bfs tg en bcrossings bleft bsteps bslipped bwalk bnextStep bsides blikes bsmooth bweight blength bstrike bswing cT tf cE ef v_5 a2 f_bfs_0 f_bfs_1 f_bfs_2 f_bfs_3 f_bfs_4 f_bfs_5 f_bfs_6 f_bfs_7 f_bfs_8 f_bfs_9 f_bfs_10 f_bfs_11 f_bfs_12 f_bfs_13 f_bfs_14 ((by omega))) (cwV 2 hts (p1_gV m_10 m_11 m_12 m_13 g_d_tell gz_d_tell) rfl rfl rfl (by decide +kernel) ⟨by decide, by decide⟩) ⟨fun a U g mk q => by obtain ⟨q0, q1, qP, qK, qD⟩ := q; exact ⟨q0, q1, qP, va_K.moved (u := U) (U := U.calling g mk a) (Vm.Alike.refl U.vm) qK, qD⟩, va_recv hKc hPc (ci := 0) (q0 := 0) rfl rfl, fun U hU hW => ⟨rfl, by rw [hU], by rw [hU]; exact hPc, va_K.moved hW.alike hKc, hDc.weaken (fun _ _ _ _ => trivial)⟩⟩ rfl rfl hl.1 rfl (lv_room (Nat.le_of_ble_eq_true rfl)) dX3_ask_114 ⟨by decide, by decide⟩) hS (fun q _ h => hFc q h) hFc (fun r_27 u t H1 locs ht hvm hw hB hz1 hk1 hS => ?_)
                    obtain ⟨hP1, hK1, hD1⟩ := hB
                    rw [ht] at hP1
                    obtain ⟨hP, hD⟩ := va_join (wr := [(lw, .inr (3, lf)), (lc, .inl (cC, 600, .inl cf)), (lb, .inl (cB, 6, .inl bf)), (lk, .inl (cK, 60, .inl rz_lk))]) (w1 := [(bw, .inr (0, bfs)), (tg, .inl (cT, 12, .inl tf)), (en, .inl (cE, 2, .inl ef))]) hP hD [4, 5, 6] [0, 1, 2, 3] rfl rfl (by decide) (by decide) hk1 hFc hP1 hD1
                    generalize H1 = H at hP hS ⊢
                    have hP : va_P (dC, dI) vwCl [(lw, .inr (3, lf)), (lc, .inl (cC, 600, .inl cf)), (lb, .inl (cB, 6, .inl bf)), (lk, .inl (cK, 60, .inl rz_lk)), (bw, .inr (0, bfs)), (tg, .inl (cT, 12, .inl tf)), (en, .inl (cE, 2, .inl ef))] H := hP
                    have hD : va_D A [(lw, .inr (3, lf)), (lc, .inl (cC, 600, .inl cf)), (lb, .inl (cB, 6, .inl bf)), (lk, .inl (cK, 60, .inl rz_lk)), (bw, .inr (0, bfs)), (tg, .inl (cT, 12, .inl tf)), (en, .inl (cE, 2, .inl ef))] := hD
                    try dsimp only at hw
                    have hw_28 := hw
                    refine va_iast hx hb hK hP hD hS 3 2 rfl rfl (q_in (by omega) (by omega)) dX3_ask_117 (fun H locs hP hD hS => ?_)
                    have hP : va_P (dC, dI) vwCl [(lw, .inr (3, lf)), (lc, .inl (cC, 600, .inl cf)), (lb, .inl (cB, 6, .inl bf)), (lk, .inl (cK, 60, .inl (upd rz_lk top.toNatClampNeg r_27))), (bw, .inr (0, bfs)), (tg, .inl (cT, 12, .inl tf)), (en, .inl (cE, 2, .inl ef))] H := hP
                    have hD : va_D A [(lw, .inr (3, lf)), (lc, .inl (cC, 600, .inl cf)), (lb, .inl (cB, 6, .inl bf)), (lk, .inl (cK, 60, .inl (upd rz_lk top.toNatClampNeg r_27))), (bw, .inr (0, bfs)), (tg, .inl (cT, 12, .inl tf)), (en, .inl (cE, 2, .inl ef))] := hD
                    generalize eg_29 : (upd rz_lk top.toNatClampNeg r_27) = g_29 at hP hD
                    obtain ⟨v_30, ev_30⟩ : ∃ y : Int32, y = top + 1 := ⟨_, rfl⟩
                    try have tv_30 := q_add ev_30 (by omega) (by omega)
                    refine lv_iinc (v := v_30) (lv' := [(4, .int v_30), (7, .int 0), (6, .int v_5), (5, .int att), (0, .ref lw), (1, .int a1), (2, .ref bw), (3, .int a2)]) hx hb dX3_ask_118 hl (k := 3) rfl (by rw [ev_30]; rfl) (by decide) rfl (fun ls hl => ?_)
                    refine lv_goto (tgt := 205) hx hb dX3_ask_121 (by decide) ?_
                    obtain ⟨v_31, ev_31⟩ : ∃ y : Int32, y = att + 1 := ⟨_, rfl⟩
                    try have tv_31 := q_add ev_31 (by omega) (by omega)
                    refine lv_iinc (v := v_31) (lv' := [(5, .int v_31), (4, .int v_30), (7, .int 0), (6, .int v_5), (0, .ref lw), (1, .int a1), (2, .ref bw), (3, .int a2)]) hx hb dX3_ask_205 hl (k := 3) rfl (by rw [ev_31]; rfl) (by decide) rfl (fun ls hl => ?_)
                    refine lv_goto (tgt := 35) hx hb dX3_ask_208 (by decide) ?_
                    exfalso; omega
              · have tc60 := q_geN c60
                refine lv_iconst (v := 1) hx hb dX3_ask_63 (by decide) ?_
                refine lv_goto (tgt := 68) hx hb dX3_ask_64 (by decide) ?_
                refine lv_istore (lv' := [(7, .int 1), (6, .int v_5), (5, .int att), (4, .int top), (0, .ref lw), (1, .int a1), (2, .ref bw), (3, .int a2)]) hx hb dX3_ask_68 hl (by decide) rfl (fun ls hl => ?_)
                refine lv_iload hx hb dX3_ask_70 (lv_at hl 0 rfl) ?_
                refine lv_if_ne (tgt := 83) hx hb dX3_ask_72 (by decide) (fun _ => ?_) (fun c9 => absurd c9 (by decide))
                refine lv_iload hx hb dX3_ask_83 (lv_at hl 3 rfl) ?_
                refine lv_bipush (v := 60) hx hb dX3_ask_85 (by decide) ?_
                refine lv_icmp_ge (tgt := 205) hx hb dX3_ask_87 (by decide) (fun c87 => ?_) (fun c87 => ?_)
                · have tc87 := q_ge c87
                  obtain ⟨v_32, ev_32⟩ : ∃ y : Int32, y = att + 1 := ⟨_, rfl⟩
                  try have tv_32 := q_add ev_32 (by omega) (by omega)
                  refine lv_iinc (v := v_32) (lv' := [(5, .int v_32), (7, .int 1), (6, .int v_5), (4, .int top), (0, .ref lw), (1, .int a1), (2, .ref bw), (3, .int a2)]) hx hb dX3_ask_205 hl (k := 2) rfl (by rw [ev_32]; rfl) (by decide) rfl (fun ls hl => ?_)
                  refine lv_goto (tgt := 35) hx hb dX3_ask_208 (by decide) ?_
                  exfalso; omega
                · have tc87 := q_ltN c87
                  refine lv_aload_n hx hb dX3_ask_90 rfl (lv_at hl 4 rfl) ?_
                  refine va_get (D := (dC, dI)) (ci := 3) (v := .ref lk) (C := RX3) (T := TX3) (N := 6) hx hb hts i_X3 hown hK hP 0 rfl rfl 2 (by decide) k_2 (fun _ h9 => h9) f_lf_2 dX3_ask_91 ?_
                  refine lv_iload hx hb dX3_ask_94 (lv_at hl 3 rfl) ?_
                  refine lv_iload hx hb dX3_ask_96 (lv_at hl 0 rfl) ?_
                  refine lv_if_eq (tgt := 110) hx hb dX3_ask_98 (by decide) (fun c9 => absurd c9 (by decide)) (fun _ => ?_)
                  refine lv_iload hx hb dX3_ask_101 (lv_at hl 1 rfl) ?_
                  refine lv_sipush (v := 1000) hx hb dX3_ask_103 (by decide) ?_
                  refine lv_isub hx hb dX3_ask_106 ?_
                  refine lv_topi (fun v_33 ev_33 => ?_)
                  try have tv_33 := q_sub ev_33 (by omega) (by omega)
                  refine lv_goto (tgt := 117) hx hb dX3_ask_107 (by decide) ?_
                  refine va_iast hx hb hK hP hD hS 3 2 rfl rfl (q_in (by omega) (by omega)) dX3_ask_117 (fun H locs hP hD hS => ?_)
                  have hP : va_P (dC, dI) vwCl [(lw, .inr (3, lf)), (lc, .inl (cC, 600, .inl cf)), (lb, .inl (cB, 6, .inl bf)), (lk, .inl (cK, 60, .inl (upd rz_lk top.toNatClampNeg v_33))), (bw, .inr (0, bfs)), (tg, .inl (cT, 12, .inl tf)), (en, .inl (cE, 2, .inl ef))] H := hP
                  have hD : va_D A [(lw, .inr (3, lf)), (lc, .inl (cC, 600, .inl cf)), (lb, .inl (cB, 6, .inl bf)), (lk, .inl (cK, 60, .inl (upd rz_lk top.toNatClampNeg v_33))), (bw, .inr (0, bfs)), (tg, .inl (cT, 12, .inl tf)), (en, .inl (cE, 2, .inl ef))] := hD
                  generalize eg_34 : (upd rz_lk top.toNatClampNeg v_33) = g_34 at hP hD
                  obtain ⟨v_35, ev_35⟩ : ∃ y : Int32, y = top + 1 := ⟨_, rfl⟩
                  try have tv_35 := q_add ev_35 (by omega) (by omega)
                  refine lv_iinc (v := v_35) (lv' := [(4, .int v_35), (7, .int 1), (6, .int v_5), (5, .int att), (0, .ref lw), (1, .int a1), (2, .ref bw), (3, .int a2)]) hx hb dX3_ask_118 hl (k := 3) rfl (by rw [ev_35]; rfl) (by decide) rfl (fun ls hl => ?_)
                  refine lv_goto (tgt := 205) hx hb dX3_ask_121 (by decide) ?_
                  obtain ⟨v_36, ev_36⟩ : ∃ y : Int32, y = att + 1 := ⟨_, rfl⟩
                  try have tv_36 := q_add ev_36 (by omega) (by omega)
                  refine lv_iinc (v := v_36) (lv' := [(5, .int v_36), (4, .int v_35), (7, .int 1), (6, .int v_5), (0, .ref lw), (1, .int a1), (2, .ref bw), (3, .int a2)]) hx hb dX3_ask_205 hl (k := 3) rfl (by rw [ev_36]; rfl) (by decide) rfl (fun ls hl => ?_)
                  refine lv_goto (tgt := 35) hx hb dX3_ask_208 (by decide) ?_
                  exfalso; omega
          | succ fu ih35 =>
            intro top att rz_lk H locs ls hfu hp0 hp1 hP hD hS hl
            refine lv_iload hx hb dX3_ask_35 (lv_at hl 0 rfl) ?_
            refine lv_aload_n hx hb dX3_ask_37 rfl (lv_at hl 2 rfl) ?_
            refine va_get (D := (dC, dI)) (ci := 3) (v := .ref lb) (C := RX3) (T := TX3) (N := 6) hx hb hts i_X3 hown hK hP 0 rfl rfl 1 (by decide) k_1 (fun _ h9 => h9) f_lf_1 dX3_ask_38 ?_
            refine lv_iload_n hx hb dX3_ask_41 rfl (lv_at hl 3 rfl) ?_
            refine va_iald hx hb hK hP 2 1 rfl rfl (q_in (by omega) (by omega)) dX3_ask_42 ?_
            refine lv_topi (fun v_37 ev_37 => ?_)
            have uv_37 : v_37.toInt = (bf a1.toNatClampNeg).toInt := by rw [ev_37]
            have tv_37 : 0 ≤ (v_37).toInt ∧ (v_37).toInt ≤ 600 := q_rd (P := fun z : Int32 => 0 ≤ (z).toInt ∧ (z).toInt ≤ 600) hr_bf (q_in (i := a1) (n := 6) (by omega) (by omega)) ev_37
            refine lv_icmp_ge (tgt := 211) hx hb dX3_ask_43 (by decide) (fun c43 => ?_) (fun c43 => ?_)
            · have tc43 := q_ge c43
              refine lv_aload_n hx hb dX3_ask_211 rfl (lv_at hl 2 rfl) ?_
              refine va_get (D := (dC, dI)) (ci := 3) (v := .ref lk) (C := RX3) (T := TX3) (N := 6) hx hb hts i_X3 hown hK hP 0 rfl rfl 2 (by decide) k_2 (fun _ h9 => h9) f_lf_2 dX3_ask_212 ?_
              refine lv_iconst (v := 0) hx hb dX3_ask_215 (by decide) ?_
              refine va_iald hx hb hK hP 3 2 rfl rfl (p1_in (i := 0) (n := 60) (by decide)) dX3_ask_216 ?_
              refine lv_topi (fun v_38 ev_38 => ?_)
              have uv_38 : v_38.toInt = (rz_lk (0 : Int32).toNatClampNeg).toInt := by rw [ev_38]
              have hP9 := hP.sub (ws' := [(lw, .inr (3, lf)), (lc, .inl (cC, 600, .inl cf)), (lb, .inl (cB, 6, .inl bf)), (lk, .inl (cK, 60, .inl rz_lk)), (bw, .inr (0, bfs)), (tg, .inl (cT, 12, .inl tf)), (en, .inl (cE, 2, .inl ef))]) [0, 1, 2, 3, 4, 5, 6] rfl
              have hD9 := hD.sub (ws' := [(lw, .inr (3, lf)), (lc, .inl (cC, 600, .inl cf)), (lb, .inl (cB, 6, .inl bf)), (lk, .inl (cK, 60, .inl rz_lk)), (bw, .inr (0, bfs)), (tg, .inl (cT, 12, .inl tf)), (en, .inl (cE, 2, .inl ef))]) [0, 1, 2, 3, 4, 5, 6] (by decide) rfl
              have hK9 := hK.sub (tys' := []) [] rfl
              exact W.iret (v := v_38) hx hb hr (fun t ht hW => ⟨⟨v_38, (), rfl, trivial, rz_lk, f_lf_0, f_lf_1, f_lf_2, f_lf_3, f_lf_4, f_lf_5, f_bfs_0, f_bfs_1, f_bfs_2, f_bfs_3, f_bfs_4, f_bfs_5, f_bfs_6, f_bfs_7, f_bfs_8, f_bfs_9, f_bfs_10, f_bfs_11, f_bfs_12, f_bfs_13, f_bfs_14, hr_bf, by rw [ht]; exact hP9, va_K.moved hW.alike hK9, hD9⟩, hS.F ht⟩) hS.2.2 dX3_ask_217
            · have tc43 := q_ltN c43
              refine lv_aload_n hx hb dX3_ask_46 rfl (lv_at hl 2 rfl) ?_
              refine va_get (D := (dC, dI)) (ci := 3) (v := .ref lc) (C := RX3) (T := TX3) (N := 6) hx hb hts i_X3 hown hK hP 0 rfl rfl 0 (by decide) k_3 (fun _ h9 => h9) f_lf_0 dX3_ask_47 ?_
              refine lv_iload hx hb dX3_ask_50 (lv_at hl 0 rfl) ?_
              refine va_iald hx hb hK hP 1 0 rfl rfl (q_in (by omega) (by omega)) dX3_ask_52 ?_
              refine lv_topi (fun v_39 ev_39 => ?_)
              have uv_39 : v_39.toInt = (cf att.toNatClampNeg).toInt := by rw [ev_39]
              refine lv_istore (lv' := [(6, .int v_39), (5, .int att), (4, .int top), (0, .ref lw), (1, .int a1), (2, .ref bw), (3, .int a2)]) hx hb dX3_ask_53 hl (by decide) rfl (fun ls hl => ?_)
              refine lv_iload hx hb dX3_ask_55 (lv_at hl 0 rfl) ?_
              refine lv_sipush (v := 1000) hx hb dX3_ask_57 (by decide) ?_
              refine lv_icmp_lt (tgt := 67) hx hb dX3_ask_60 (by decide) (fun c60 => ?_) (fun c60 => ?_)
              · have tc60 := q_lt c60
                refine lv_iconst (v := 0) hx hb dX3_ask_67 (by decide) ?_
                refine lv_istore (lv' := [(7, .int 0), (6, .int v_39), (5, .int att), (4, .int top), (0, .ref lw), (1, .int a1), (2, .ref bw), (3, .int a2)]) hx hb dX3_ask_68 hl (by decide) rfl (fun ls hl => ?_)
                refine lv_iload hx hb dX3_ask_70 (lv_at hl 0 rfl) ?_
                refine lv_if_ne (tgt := 83) hx hb dX3_ask_72 (by decide) (fun c9 => absurd c9 (by decide)) (fun _ => ?_)
                refine lv_iload hx hb dX3_ask_75 (lv_at hl 1 rfl) ?_
                have hPc := hP.sub (ws' := []) [] rfl
                have hDc := hD.sub (ws' := []) [] (by decide) rfl
                have hKc := hK.sub (tys' := []) [] rfl
                have hFc := va_free (wc := []) hD hS hA [] rfl
                refine va_calli (va_runS (As := [.int v_39]) (rest := []) ⟨hx, hb, hml, hown, hts⟩ (d_isUnitWord l dC dI H.size v_39) (va_cwS 1 hts (p1_gS m_4 m_5 m_6 g_d_isUnitWord gz_d_isUnitWord) rfl rfl rfl (by decide +kernel) ⟨by decide, by decide⟩) ⟨fun a U g mk q => by obtain ⟨q0, q1, qP, qK, qD⟩ := q; exact ⟨q0, q1, qP, va_K.moved (u := U) (U := U.calling g mk a) (Vm.Alike.refl U.vm) qK, qD⟩, fun U hU hW => ⟨rfl, by rw [hU], by rw [hU]; exact hPc, va_K.moved hW.alike hKc, hDc.weaken (fun _ _ _ _ => trivial)⟩⟩ rfl rfl hl.1 rfl (lv_room (Nat.le_of_ble_eq_true rfl)) dX3_ask_77 ⟨by decide, by decide⟩) hS (fun q _ h => hFc q h) hFc (fun r_40 u t H1 locs ht hvm hw hB hz1 hk1 hS => ?_)
                obtain ⟨hP1, hK1, hD1⟩ := hB
                rw [ht] at hP1
                obtain ⟨hP, hD⟩ := va_join (wr := [(lw, .inr (3, lf)), (lc, .inl (cC, 600, .inl cf)), (lb, .inl (cB, 6, .inl bf)), (lk, .inl (cK, 60, .inl rz_lk)), (bw, .inr (0, bfs)), (tg, .inl (cT, 12, .inl tf)), (en, .inl (cE, 2, .inl ef))]) (w1 := []) hP hD [] [0, 1, 2, 3, 4, 5, 6] rfl rfl (by decide) (by decide) hk1 hFc hP1 hD1
                generalize H1 = H at hP hS ⊢
                have hP : va_P (dC, dI) vwCl [(lw, .inr (3, lf)), (lc, .inl (cC, 600, .inl cf)), (lb, .inl (cB, 6, .inl bf)), (lk, .inl (cK, 60, .inl rz_lk)), (bw, .inr (0, bfs)), (tg, .inl (cT, 12, .inl tf)), (en, .inl (cE, 2, .inl ef))] H := hP
                have hD : va_D A [(lw, .inr (3, lf)), (lc, .inl (cC, 600, .inl cf)), (lb, .inl (cB, 6, .inl bf)), (lk, .inl (cK, 60, .inl rz_lk)), (bw, .inr (0, bfs)), (tg, .inl (cT, 12, .inl tf)), (en, .inl (cE, 2, .inl ef))] := hD
                try dsimp only at hw
                have hw_41 := hw
                refine lv_if_eq (tgt := 124) hx hb dX3_ask_80 (by decide) (fun c80 => ?_) (fun c80 => ?_)
                · have tc80 := q_eq c80
                  refine lv_iload hx hb dX3_ask_124 (lv_at hl 1 rfl) ?_
                  refine lv_sipush (v := 277) hx hb dX3_ask_126 (by decide) ?_
                  refine lv_icmp_ne (tgt := 166) hx hb dX3_ask_129 (by decide) (fun c129 => ?_) (fun c129 => ?_)
                  · have tc129 := q_ne c129
                    refine lv_iload hx hb dX3_ask_166 (lv_at hl 3 rfl) ?_
                    refine lv_iconst (v := 1) hx hb dX3_ask_168 (by decide) ?_
                    refine lv_icmp_le (tgt := 205) hx hb dX3_ask_169 (by decide) (fun c169 => ?_) (fun c169 => ?_)
                    · have tc169 := q_le c169
                      obtain ⟨v_42, ev_42⟩ : ∃ y : Int32, y = att + 1 := ⟨_, rfl⟩
                      try have tv_42 := q_add ev_42 (by omega) (by omega)
                      refine lv_iinc (v := v_42) (lv' := [(5, .int v_42), (7, .int 0), (6, .int v_39), (4, .int top), (0, .ref lw), (1, .int a1), (2, .ref bw), (3, .int a2)]) hx hb dX3_ask_205 hl (k := 2) rfl (by rw [ev_42]; rfl) (by decide) rfl (fun ls hl => ?_)
                      refine lv_goto (tgt := 35) hx hb dX3_ask_208 (by decide) ?_
                      exact ih35 top v_42 rz_lk _ _ _ (by omega) (by omega) (by omega) (hP.sub [0, 1, 2, 3, 4, 5, 6] rfl) (hD.sub [0, 1, 2, 3, 4, 5, 6] (by decide) rfl) hS (lv_sub hl [0, 3, 4, 5, 6, 7] rfl)
                    · have tc169 := q_gtN c169
                      obtain ⟨v_43, ev_43⟩ : ∃ y : Int32, y = top + (-1) := ⟨_, rfl⟩
                      try have tv_43 := q_add ev_43 (by omega) (by omega)
                      refine lv_iinc (v := v_43) (lv' := [(4, .int v_43), (7, .int 0), (6, .int v_39), (5, .int att), (0, .ref lw), (1, .int a1), (2, .ref bw), (3, .int a2)]) hx hb dX3_ask_172 hl (k := 3) rfl (by rw [ev_43]; rfl) (by decide) rfl (fun ls hl => ?_)
                      refine lv_aload_n hx hb dX3_ask_175 rfl (lv_at hl 4 rfl) ?_
                      refine va_get (D := (dC, dI)) (ci := 3) (v := .ref lk) (C := RX3) (T := TX3) (N := 6) hx hb hts i_X3 hown hK hP 0 rfl rfl 2 (by decide) k_2 (fun _ h9 => h9) f_lf_2 dX3_ask_176 ?_
                      refine lv_iload hx hb dX3_ask_179 (lv_at hl 0 rfl) ?_
                      refine lv_iconst (v := 1) hx hb dX3_ask_181 (by decide) ?_
                      refine lv_isub hx hb dX3_ask_182 ?_
                      refine lv_topi (fun v_44 ev_44 => ?_)
                      try have tv_44 := q_sub ev_44 (by omega) (by omega)
                      refine lv_iload hx hb dX3_ask_183 (lv_at hl 2 rfl) ?_
                      refine lv_aload_n hx hb dX3_ask_185 rfl (lv_at hl 4 rfl) ?_
                      refine va_get (D := (dC, dI)) (ci := 3) (v := .ref lk) (C := RX3) (T := TX3) (N := 6) hx hb hts i_X3 hown hK hP 0 rfl rfl 2 (by decide) k_2 (fun _ h9 => h9) f_lf_2 dX3_ask_186 ?_
                      refine lv_iload hx hb dX3_ask_189 (lv_at hl 0 rfl) ?_
                      refine lv_iconst (v := 1) hx hb dX3_ask_191 (by decide) ?_
                      refine lv_isub hx hb dX3_ask_192 ?_
                      refine lv_topi (fun v_45 ev_45 => ?_)
                      try have tv_45 := q_sub ev_45 (by omega) (by omega)
                      refine va_iald hx hb hK hP 3 2 rfl rfl (q_in (by omega) (by omega)) dX3_ask_193 ?_
                      refine lv_topi (fun v_46 ev_46 => ?_)
                      have uv_46 : v_46.toInt = (rz_lk v_45.toNatClampNeg).toInt := by rw [ev_46]
                      refine lv_aload_n hx hb dX3_ask_194 rfl (lv_at hl 4 rfl) ?_
                      refine va_get (D := (dC, dI)) (ci := 3) (v := .ref lk) (C := RX3) (T := TX3) (N := 6) hx hb hts i_X3 hown hK hP 0 rfl rfl 2 (by decide) k_2 (fun _ h9 => h9) f_lf_2 dX3_ask_195 ?_
                      refine lv_iload hx hb dX3_ask_198 (lv_at hl 0 rfl) ?_
                      refine va_iald hx hb hK hP 3 2 rfl rfl (q_in (by omega) (by omega)) dX3_ask_200 ?_
                      refine lv_topi (fun v_47 ev_47 => ?_)
                      have uv_47 : v_47.toInt = (rz_lk v_43.toNatClampNeg).toInt := by rw [ev_47]
                      have hPc := hP.sub (ws' := []) [] rfl
                      have hDc := hD.sub (ws' := []) [] (by decide) rfl
                      have hKc := hK.sub (tys' := []) [] rfl
                      have hFc := va_free (wc := []) hD hS hA [] rfl
                      refine va_calli (va_runS (As := [.int v_39, .int v_46, .int v_47]) (rest := [.int v_44, .ref lk]) ⟨hx, hb, hml, hown, hts⟩ (d_join l dC dI H.size v_39 v_46 v_47) (va_cwS 3 hts (p1_gS m_7 m_8 m_9 g_d_join gz_d_join) rfl rfl rfl (by decide +kernel) ⟨by decide, by decide⟩) ⟨fun a U g mk q => by obtain ⟨q0, q1, qP, qK, qD⟩ := q; exact ⟨q0, q1, qP, va_K.moved (u := U) (U := U.calling g mk a) (Vm.Alike.refl U.vm) qK, qD⟩, fun U hU hW => ⟨rfl, by rw [hU], by rw [hU]; exact hPc, va_K.moved hW.alike hKc, hDc.weaken (fun _ _ _ _ => trivial)⟩⟩ rfl rfl hl.1 rfl (lv_room (Nat.le_of_ble_eq_true rfl)) dX3_ask_201 ⟨by decide, by decide⟩) hS (fun q _ h => hFc q h) hFc (fun r_48 u t H1 locs ht hvm hw hB hz1 hk1 hS => ?_)
                      obtain ⟨hP1, hK1, hD1⟩ := hB
                      rw [ht] at hP1
                      obtain ⟨hP, hD⟩ := va_join (wr := [(lw, .inr (3, lf)), (lc, .inl (cC, 600, .inl cf)), (lb, .inl (cB, 6, .inl bf)), (lk, .inl (cK, 60, .inl rz_lk)), (bw, .inr (0, bfs)), (tg, .inl (cT, 12, .inl tf)), (en, .inl (cE, 2, .inl ef))]) (w1 := []) hP hD [] [0, 1, 2, 3, 4, 5, 6] rfl rfl (by decide) (by decide) hk1 hFc hP1 hD1
                      generalize H1 = H at hP hS ⊢
                      have hP : va_P (dC, dI) vwCl [(lw, .inr (3, lf)), (lc, .inl (cC, 600, .inl cf)), (lb, .inl (cB, 6, .inl bf)), (lk, .inl (cK, 60, .inl rz_lk)), (bw, .inr (0, bfs)), (tg, .inl (cT, 12, .inl tf)), (en, .inl (cE, 2, .inl ef))] H := hP
                      have hD : va_D A [(lw, .inr (3, lf)), (lc, .inl (cC, 600, .inl cf)), (lb, .inl (cB, 6, .inl bf)), (lk, .inl (cK, 60, .inl rz_lk)), (bw, .inr (0, bfs)), (tg, .inl (cT, 12, .inl tf)), (en, .inl (cE, 2, .inl ef))] := hD
                      try dsimp only at hw
                      have hw_49 := hw
                      refine va_iast hx hb hK hP hD hS 3 2 rfl rfl (q_in (by omega) (by omega)) dX3_ask_204 (fun H locs hP hD hS => ?_)
                      have hP : va_P (dC, dI) vwCl [(lw, .inr (3, lf)), (lc, .inl (cC, 600, .inl cf)), (lb, .inl (cB, 6, .inl bf)), (lk, .inl (cK, 60, .inl (upd rz_lk v_44.toNatClampNeg r_48))), (bw, .inr (0, bfs)), (tg, .inl (cT, 12, .inl tf)), (en, .inl (cE, 2, .inl ef))] H := hP
                      have hD : va_D A [(lw, .inr (3, lf)), (lc, .inl (cC, 600, .inl cf)), (lb, .inl (cB, 6, .inl bf)), (lk, .inl (cK, 60, .inl (upd rz_lk v_44.toNatClampNeg r_48))), (bw, .inr (0, bfs)), (tg, .inl (cT, 12, .inl tf)), (en, .inl (cE, 2, .inl ef))] := hD
                      generalize eg_50 : (upd rz_lk v_44.toNatClampNeg r_48) = g_50 at hP hD
                      obtain ⟨v_51, ev_51⟩ : ∃ y : Int32, y = att + 1 := ⟨_, rfl⟩
                      try have tv_51 := q_add ev_51 (by omega) (by omega)
                      refine lv_iinc (v := v_51) (lv' := [(5, .int v_51), (4, .int v_43), (7, .int 0), (6, .int v_39), (0, .ref lw), (1, .int a1), (2, .ref bw), (3, .int a2)]) hx hb dX3_ask_205 hl (k := 3) rfl (by rw [ev_51]; rfl) (by decide) rfl (fun ls hl => ?_)
                      refine lv_goto (tgt := 35) hx hb dX3_ask_208 (by decide) ?_
                      exact ih35 v_43 v_51 g_50 _ _ _ (by omega) (by omega) (by omega) (hP.sub [0, 1, 2, 3, 4, 5, 6] rfl) (hD.sub [0, 1, 2, 3, 4, 5, 6] (by decide) rfl) hS (lv_sub hl [0, 1, 4, 5, 6, 7] rfl)
                  · have tc129 := q_eqN c129
                    refine lv_iload hx hb dX3_ask_132 (lv_at hl 3 rfl) ?_
                    refine lv_if_le (tgt := 205) hx hb dX3_ask_134 (by decide) (fun c134 => ?_) (fun c134 => ?_)
                    · have tc134 := q_le c134
                      obtain ⟨v_52, ev_52⟩ : ∃ y : Int32, y = att + 1 := ⟨_, rfl⟩
                      try have tv_52 := q_add ev_52 (by omega) (by omega)
                      refine lv_iinc (v := v_52) (lv' := [(5, .int v_52), (7, .int 0), (6, .int v_39), (4, .int top), (0, .ref lw), (1, .int a1), (2, .ref bw), (3, .int a2)]) hx hb dX3_ask_205 hl (k := 2) rfl (by rw [ev_52]; rfl) (by decide) rfl (fun ls hl => ?_)
                      refine lv_goto (tgt := 35) hx hb dX3_ask_208 (by decide) ?_
                      exact ih35 top v_52 rz_lk _ _ _ (by omega) (by omega) (by omega) (hP.sub [0, 1, 2, 3, 4, 5, 6] rfl) (hD.sub [0, 1, 2, 3, 4, 5, 6] (by decide) rfl) hS (lv_sub hl [0, 3, 4, 5, 6, 7] rfl)
                    · have tc134 := q_gtN c134
                      refine lv_aload_n hx hb dX3_ask_137 rfl (lv_at hl 4 rfl) ?_
                      refine va_get (D := (dC, dI)) (ci := 3) (v := .ref lk) (C := RX3) (T := TX3) (N := 6) hx hb hts i_X3 hown hK hP 0 rfl rfl 2 (by decide) k_2 (fun _ h9 => h9) f_lf_2 dX3_ask_138 ?_
                      refine lv_iload hx hb dX3_ask_141 (lv_at hl 3 rfl) ?_
                      refine lv_iconst (v := 1) hx hb dX3_ask_143 (by decide) ?_
                      refine lv_isub hx hb dX3_ask_144 ?_
                      refine lv_topi (fun v_53 ev_53 => ?_)
                      try have tv_53 := q_sub ev_53 (by omega) (by omega)
                      refine lv_aload_n hx hb dX3_ask_145 rfl (lv_at hl 4 rfl) ?_
                      refine va_get (D := (dC, dI)) (ci := 3) (v := .ref lk) (C := RX3) (T := TX3) (N := 6) hx hb hts i_X3 hown hK hP 0 rfl rfl 2 (by decide) k_2 (fun _ h9 => h9) f_lf_2 dX3_ask_146 ?_
                      refine lv_iload hx hb dX3_ask_149 (lv_at hl 3 rfl) ?_
                      refine lv_iconst (v := 1) hx hb dX3_ask_151 (by decide) ?_
                      refine lv_isub hx hb dX3_ask_152 ?_
                      refine lv_topi (fun v_54 ev_54 => ?_)
                      try have tv_54 := q_sub ev_54 (by omega) (by omega)
                      refine va_iald hx hb hK hP 3 2 rfl rfl (q_in (by omega) (by omega)) dX3_ask_153 ?_
                      refine lv_topi (fun v_55 ev_55 => ?_)
                      have uv_55 : v_55.toInt = (rz_lk v_54.toNatClampNeg).toInt := by rw [ev_55]
                      refine lv_if_ne (tgt := 161) hx hb dX3_ask_154 (by decide) (fun c154 => ?_) (fun c154 => ?_)
                      · have tc154 := q_ne c154
                        refine lv_iconst (v := 0) hx hb dX3_ask_161 (by decide) ?_
                        refine va_iast hx hb hK hP hD hS 3 2 rfl rfl (q_in (by omega) (by omega)) dX3_ask_162 (fun H locs hP hD hS => ?_)
                        have hP : va_P (dC, dI) vwCl [(lw, .inr (3, lf)), (lc, .inl (cC, 600, .inl cf)), (lb, .inl (cB, 6, .inl bf)), (lk, .inl (cK, 60, .inl (upd rz_lk v_53.toNatClampNeg 0))), (bw, .inr (0, bfs)), (tg, .inl (cT, 12, .inl tf)), (en, .inl (cE, 2, .inl ef))] H := hP
                        have hD : va_D A [(lw, .inr (3, lf)), (lc, .inl (cC, 600, .inl cf)), (lb, .inl (cB, 6, .inl bf)), (lk, .inl (cK, 60, .inl (upd rz_lk v_53.toNatClampNeg 0))), (bw, .inr (0, bfs)), (tg, .inl (cT, 12, .inl tf)), (en, .inl (cE, 2, .inl ef))] := hD
                        generalize eg_56 : (upd rz_lk v_53.toNatClampNeg 0) = g_56 at hP hD
                        refine lv_goto (tgt := 205) hx hb dX3_ask_163 (by decide) ?_
                        obtain ⟨v_57, ev_57⟩ : ∃ y : Int32, y = att + 1 := ⟨_, rfl⟩
                        try have tv_57 := q_add ev_57 (by omega) (by omega)
                        refine lv_iinc (v := v_57) (lv' := [(5, .int v_57), (7, .int 0), (6, .int v_39), (4, .int top), (0, .ref lw), (1, .int a1), (2, .ref bw), (3, .int a2)]) hx hb dX3_ask_205 hl (k := 2) rfl (by rw [ev_57]; rfl) (by decide) rfl (fun ls hl => ?_)
                        refine lv_goto (tgt := 35) hx hb dX3_ask_208 (by decide) ?_
                        exact ih35 top v_57 g_56 _ _ _ (by omega) (by omega) (by omega) (hP.sub [0, 1, 2, 3, 4, 5, 6] rfl) (hD.sub [0, 1, 2, 3, 4, 5, 6] (by decide) rfl) hS (lv_sub hl [0, 3, 4, 5, 6, 7] rfl)
                      · have tc154 := q_eqN c154
                        refine lv_iconst (v := 1) hx hb dX3_ask_157 (by decide) ?_
                        refine lv_goto (tgt := 162) hx hb dX3_ask_158 (by decide) ?_
                        refine va_iast hx hb hK hP hD hS 3 2 rfl rfl (q_in (by omega) (by omega)) dX3_ask_162 (fun H locs hP hD hS => ?_)
                        have hP : va_P (dC, dI) vwCl [(lw, .inr (3, lf)), (lc, .inl (cC, 600, .inl cf)), (lb, .inl (cB, 6, .inl bf)), (lk, .inl (cK, 60, .inl (upd rz_lk v_53.toNatClampNeg 1))), (bw, .inr (0, bfs)), (tg, .inl (cT, 12, .inl tf)), (en, .inl (cE, 2, .inl ef))] H := hP
                        have hD : va_D A [(lw, .inr (3, lf)), (lc, .inl (cC, 600, .inl cf)), (lb, .inl (cB, 6, .inl bf)), (lk, .inl (cK, 60, .inl (upd rz_lk v_53.toNatClampNeg 1))), (bw, .inr (0, bfs)), (tg, .inl (cT, 12, .inl tf)), (en, .inl (cE, 2, .inl ef))] := hD
                        generalize eg_58 : (upd rz_lk v_53.toNatClampNeg 1) = g_58 at hP hD
                        refine lv_goto (tgt := 205) hx hb dX3_ask_163 (by decide) ?_
                        obtain ⟨v_59, ev_59⟩ : ∃ y : Int32, y = att + 1 := ⟨_, rfl⟩
                        try have tv_59 := q_add ev_59 (by omega) (by omega)
                        refine lv_iinc (v := v_59) (lv' := [(5, .int v_59), (7, .int 0), (6, .int v_39), (4, .int top), (0, .ref lw), (1, .int a1), (2, .ref bw), (3, .int a2)]) hx hb dX3_ask_205 hl (k := 2) rfl (by rw [ev_59]; rfl) (by decide) rfl (fun ls hl => ?_)
                        refine lv_goto (tgt := 35) hx hb dX3_ask_208 (by decide) ?_
                        exact ih35 top v_59 g_58 _ _ _ (by omega) (by omega) (by omega) (hP.sub [0, 1, 2, 3, 4, 5, 6] rfl) (hD.sub [0, 1, 2, 3, 4, 5, 6] (by decide) rfl) hS (lv_sub hl [0, 3, 4, 5, 6, 7] rfl)
                · have tc80 := q_neN c80
                  refine lv_iload hx hb dX3_ask_83 (lv_at hl 3 rfl) ?_
                  refine lv_bipush (v := 60) hx hb dX3_ask_85 (by decide) ?_
                  refine lv_icmp_ge (tgt := 205) hx hb dX3_ask_87 (by decide) (fun c87 => ?_) (fun c87 => ?_)
                  · have tc87 := q_ge c87
                    obtain ⟨v_60, ev_60⟩ : ∃ y : Int32, y = att + 1 := ⟨_, rfl⟩
                    try have tv_60 := q_add ev_60 (by omega) (by omega)
                    refine lv_iinc (v := v_60) (lv' := [(5, .int v_60), (7, .int 0), (6, .int v_39), (4, .int top), (0, .ref lw), (1, .int a1), (2, .ref bw), (3, .int a2)]) hx hb dX3_ask_205 hl (k := 2) rfl (by rw [ev_60]; rfl) (by decide) rfl (fun ls hl => ?_)
                    refine lv_goto (tgt := 35) hx hb dX3_ask_208 (by decide) ?_
                    exact ih35 top v_60 rz_lk _ _ _ (by omega) (by omega) (by omega) (hP.sub [0, 1, 2, 3, 4, 5, 6] rfl) (hD.sub [0, 1, 2, 3, 4, 5, 6] (by decide) rfl) hS (lv_sub hl [0, 3, 4, 5, 6, 7] rfl)
                  · have tc87 := q_ltN c87
                    refine lv_aload_n hx hb dX3_ask_90 rfl (lv_at hl 4 rfl) ?_
                    refine va_get (D := (dC, dI)) (ci := 3) (v := .ref lk) (C := RX3) (T := TX3) (N := 6) hx hb hts i_X3 hown hK hP 0 rfl rfl 2 (by decide) k_2 (fun _ h9 => h9) f_lf_2 dX3_ask_91 ?_
                    refine lv_iload hx hb dX3_ask_94 (lv_at hl 3 rfl) ?_
                    refine lv_iload hx hb dX3_ask_96 (lv_at hl 0 rfl) ?_
                    refine lv_if_eq (tgt := 110) hx hb dX3_ask_98 (by decide) (fun _ => ?_) (fun c9 => absurd c9 (by decide))
                    refine lv_aload_n hx hb dX3_ask_110 rfl (lv_at hl 6 rfl) ?_
                    refine lv_iload hx hb dX3_ask_111 (lv_at hl 1 rfl) ?_
                    refine lv_iload_n hx hb dX3_ask_113 rfl (lv_at hl 7 rfl) ?_
                    have hPc := hP.sub (ws' := [(bw, .inr (0, bfs)), (tg, .inl (cT, 12, .inl tf)), (en, .inl (cE, 2, .inl ef))]) [4, 5, 6] rfl
                    have hDc := hD.sub (ws' := [(bw, .inr (0, bfs)), (tg, .inl (cT, 12, .inl tf)), (en, .inl (cE, 2, .inl ef))]) [4, 5, 6] (by decide) rfl
                    have hKc := hK.sub (tys' := [(cT, .int), (cE, .int)]) [3, 4] rfl
                    have hFc := va_free (wc := [(bw, .inr (0, bfs)), (tg, .inl (cT, 12, .inl tf)), (en, .inl (cE, 2, .inl ef))]) hD hS hA [4, 5, 6] rfl
                    refine va_calli (va_runV (As := [.int v_39, .int a2]) (rest := [.int top, .ref lk]) ⟨hx, hb, hml, hown, hts⟩ (d_tell l dC dI H.size bw bfs tg en bcrossings bleft bsteps bslipped bwalk bnextStep bsides blikes bsmooth bweight blength bstrike bswing cT tf cE ef v_39 a2 f_bfs_0 f_bfs_1 f_bfs_2 f_bfs_3 f_bfs_4 f_bfs_5 f_bfs_6 f_bfs_7 f_bfs_8 f_bfs_9 f_bfs_10 f_bfs_11 f_bfs_12 f_bfs_13 f_bfs_14 ((by omega))) (cwV 2 hts (p1_gV m_10 m_11 m_12 m_13 g_d_tell gz_d_tell) rfl rfl rfl (by decide +kernel) ⟨by decide, by decide⟩) ⟨fun a U g mk q => by obtain ⟨q0, q1, qP, qK, qD⟩ := q; exact ⟨q0, q1, qP, va_K.moved (u := U) (U := U.calling g mk a) (Vm.Alike.refl U.vm) qK, qD⟩, va_recv hKc hPc (ci := 0) (q0 := 0) rfl rfl, fun U hU hW => ⟨rfl, by rw [hU], by rw [hU]; exact hPc, va_K.moved hW.alike hKc, hDc.weaken (fun _ _ _ _ => trivial)⟩⟩ rfl rfl hl.1 rfl (lv_room (Nat.le_of_ble_eq_true rfl)) dX3_ask_114 ⟨by decide, by decide⟩) hS (fun q _ h => hFc q h) hFc (fun r_61 u t H1 locs ht hvm hw hB hz1 hk1 hS => ?_)
                    obtain ⟨hP1, hK1, hD1⟩ := hB
                    rw [ht] at hP1
                    obtain ⟨hP, hD⟩ := va_join (wr := [(lw, .inr (3, lf)), (lc, .inl (cC, 600, .inl cf)), (lb, .inl (cB, 6, .inl bf)), (lk, .inl (cK, 60, .inl rz_lk))]) (w1 := [(bw, .inr (0, bfs)), (tg, .inl (cT, 12, .inl tf)), (en, .inl (cE, 2, .inl ef))]) hP hD [4, 5, 6] [0, 1, 2, 3] rfl rfl (by decide) (by decide) hk1 hFc hP1 hD1
                    generalize H1 = H at hP hS ⊢
                    have hP : va_P (dC, dI) vwCl [(lw, .inr (3, lf)), (lc, .inl (cC, 600, .inl cf)), (lb, .inl (cB, 6, .inl bf)), (lk, .inl (cK, 60, .inl rz_lk)), (bw, .inr (0, bfs)), (tg, .inl (cT, 12, .inl tf)), (en, .inl (cE, 2, .inl ef))] H := hP
                    have hD : va_D A [(lw, .inr (3, lf)), (lc, .inl (cC, 600, .inl cf)), (lb, .inl (cB, 6, .inl bf)), (lk, .inl (cK, 60, .inl rz_lk)), (bw, .inr (0, bfs)), (tg, .inl (cT, 12, .inl tf)), (en, .inl (cE, 2, .inl ef))] := hD
                    try dsimp only at hw
                    have hw_62 := hw
                    refine va_iast hx hb hK hP hD hS 3 2 rfl rfl (q_in (by omega) (by omega)) dX3_ask_117 (fun H locs hP hD hS => ?_)
                    have hP : va_P (dC, dI) vwCl [(lw, .inr (3, lf)), (lc, .inl (cC, 600, .inl cf)), (lb, .inl (cB, 6, .inl bf)), (lk, .inl (cK, 60, .inl (upd rz_lk top.toNatClampNeg r_61))), (bw, .inr (0, bfs)), (tg, .inl (cT, 12, .inl tf)), (en, .inl (cE, 2, .inl ef))] H := hP
                    have hD : va_D A [(lw, .inr (3, lf)), (lc, .inl (cC, 600, .inl cf)), (lb, .inl (cB, 6, .inl bf)), (lk, .inl (cK, 60, .inl (upd rz_lk top.toNatClampNeg r_61))), (bw, .inr (0, bfs)), (tg, .inl (cT, 12, .inl tf)), (en, .inl (cE, 2, .inl ef))] := hD
                    generalize eg_63 : (upd rz_lk top.toNatClampNeg r_61) = g_63 at hP hD
                    obtain ⟨v_64, ev_64⟩ : ∃ y : Int32, y = top + 1 := ⟨_, rfl⟩
                    try have tv_64 := q_add ev_64 (by omega) (by omega)
                    refine lv_iinc (v := v_64) (lv' := [(4, .int v_64), (7, .int 0), (6, .int v_39), (5, .int att), (0, .ref lw), (1, .int a1), (2, .ref bw), (3, .int a2)]) hx hb dX3_ask_118 hl (k := 3) rfl (by rw [ev_64]; rfl) (by decide) rfl (fun ls hl => ?_)
                    refine lv_goto (tgt := 205) hx hb dX3_ask_121 (by decide) ?_
                    obtain ⟨v_65, ev_65⟩ : ∃ y : Int32, y = att + 1 := ⟨_, rfl⟩
                    try have tv_65 := q_add ev_65 (by omega) (by omega)
                    refine lv_iinc (v := v_65) (lv' := [(5, .int v_65), (4, .int v_64), (7, .int 0), (6, .int v_39), (0, .ref lw), (1, .int a1), (2, .ref bw), (3, .int a2)]) hx hb dX3_ask_205 hl (k := 3) rfl (by rw [ev_65]; rfl) (by decide) rfl (fun ls hl => ?_)
                    refine lv_goto (tgt := 35) hx hb dX3_ask_208 (by decide) ?_
                    exact ih35 v_64 v_65 g_63 _ _ _ (by omega) (by omega) (by omega) (hP.sub [0, 1, 2, 3, 4, 5, 6] rfl) (hD.sub [0, 1, 2, 3, 4, 5, 6] (by decide) rfl) hS (lv_sub hl [0, 1, 4, 5, 6, 7] rfl)
              · have tc60 := q_geN c60
                refine lv_iconst (v := 1) hx hb dX3_ask_63 (by decide) ?_
                refine lv_goto (tgt := 68) hx hb dX3_ask_64 (by decide) ?_
                refine lv_istore (lv' := [(7, .int 1), (6, .int v_39), (5, .int att), (4, .int top), (0, .ref lw), (1, .int a1), (2, .ref bw), (3, .int a2)]) hx hb dX3_ask_68 hl (by decide) rfl (fun ls hl => ?_)
                refine lv_iload hx hb dX3_ask_70 (lv_at hl 0 rfl) ?_
                refine lv_if_ne (tgt := 83) hx hb dX3_ask_72 (by decide) (fun _ => ?_) (fun c9 => absurd c9 (by decide))
                refine lv_iload hx hb dX3_ask_83 (lv_at hl 3 rfl) ?_
                refine lv_bipush (v := 60) hx hb dX3_ask_85 (by decide) ?_
                refine lv_icmp_ge (tgt := 205) hx hb dX3_ask_87 (by decide) (fun c87 => ?_) (fun c87 => ?_)
                · have tc87 := q_ge c87
                  obtain ⟨v_66, ev_66⟩ : ∃ y : Int32, y = att + 1 := ⟨_, rfl⟩
                  try have tv_66 := q_add ev_66 (by omega) (by omega)
                  refine lv_iinc (v := v_66) (lv' := [(5, .int v_66), (7, .int 1), (6, .int v_39), (4, .int top), (0, .ref lw), (1, .int a1), (2, .ref bw), (3, .int a2)]) hx hb dX3_ask_205 hl (k := 2) rfl (by rw [ev_66]; rfl) (by decide) rfl (fun ls hl => ?_)
                  refine lv_goto (tgt := 35) hx hb dX3_ask_208 (by decide) ?_
                  exact ih35 top v_66 rz_lk _ _ _ (by omega) (by omega) (by omega) (hP.sub [0, 1, 2, 3, 4, 5, 6] rfl) (hD.sub [0, 1, 2, 3, 4, 5, 6] (by decide) rfl) hS (lv_sub hl [0, 3, 4, 5, 6, 7] rfl)
                · have tc87 := q_ltN c87
                  refine lv_aload_n hx hb dX3_ask_90 rfl (lv_at hl 4 rfl) ?_
                  refine va_get (D := (dC, dI)) (ci := 3) (v := .ref lk) (C := RX3) (T := TX3) (N := 6) hx hb hts i_X3 hown hK hP 0 rfl rfl 2 (by decide) k_2 (fun _ h9 => h9) f_lf_2 dX3_ask_91 ?_
                  refine lv_iload hx hb dX3_ask_94 (lv_at hl 3 rfl) ?_
                  refine lv_iload hx hb dX3_ask_96 (lv_at hl 0 rfl) ?_
                  refine lv_if_eq (tgt := 110) hx hb dX3_ask_98 (by decide) (fun c9 => absurd c9 (by decide)) (fun _ => ?_)
                  refine lv_iload hx hb dX3_ask_101 (lv_at hl 1 rfl) ?_
                  refine lv_sipush (v := 1000) hx hb dX3_ask_103 (by decide) ?_
                  refine lv_isub hx hb dX3_ask_106 ?_
                  refine lv_topi (fun v_67 ev_67 => ?_)
                  try have tv_67 := q_sub ev_67 (by omega) (by omega)
                  refine lv_goto (tgt := 117) hx hb dX3_ask_107 (by decide) ?_
                  refine va_iast hx hb hK hP hD hS 3 2 rfl rfl (q_in (by omega) (by omega)) dX3_ask_117 (fun H locs hP hD hS => ?_)
                  have hP : va_P (dC, dI) vwCl [(lw, .inr (3, lf)), (lc, .inl (cC, 600, .inl cf)), (lb, .inl (cB, 6, .inl bf)), (lk, .inl (cK, 60, .inl (upd rz_lk top.toNatClampNeg v_67))), (bw, .inr (0, bfs)), (tg, .inl (cT, 12, .inl tf)), (en, .inl (cE, 2, .inl ef))] H := hP
                  have hD : va_D A [(lw, .inr (3, lf)), (lc, .inl (cC, 600, .inl cf)), (lb, .inl (cB, 6, .inl bf)), (lk, .inl (cK, 60, .inl (upd rz_lk top.toNatClampNeg v_67))), (bw, .inr (0, bfs)), (tg, .inl (cT, 12, .inl tf)), (en, .inl (cE, 2, .inl ef))] := hD
                  generalize eg_68 : (upd rz_lk top.toNatClampNeg v_67) = g_68 at hP hD
                  obtain ⟨v_69, ev_69⟩ : ∃ y : Int32, y = top + 1 := ⟨_, rfl⟩
                  try have tv_69 := q_add ev_69 (by omega) (by omega)
                  refine lv_iinc (v := v_69) (lv' := [(4, .int v_69), (7, .int 1), (6, .int v_39), (5, .int att), (0, .ref lw), (1, .int a1), (2, .ref bw), (3, .int a2)]) hx hb dX3_ask_118 hl (k := 3) rfl (by rw [ev_69]; rfl) (by decide) rfl (fun ls hl => ?_)
                  refine lv_goto (tgt := 205) hx hb dX3_ask_121 (by decide) ?_
                  obtain ⟨v_70, ev_70⟩ : ∃ y : Int32, y = att + 1 := ⟨_, rfl⟩
                  try have tv_70 := q_add ev_70 (by omega) (by omega)
                  refine lv_iinc (v := v_70) (lv' := [(5, .int v_70), (4, .int v_69), (7, .int 1), (6, .int v_39), (0, .ref lw), (1, .int a1), (2, .ref bw), (3, .int a2)]) hx hb dX3_ask_205 hl (k := 3) rfl (by rw [ev_70]; rfl) (by decide) rfl (fun ls hl => ?_)
                  refine lv_goto (tgt := 35) hx hb dX3_ask_208 (by decide) ?_
                  exact ih35 v_69 v_70 g_68 _ _ _ (by omega) (by omega) (by omega) (hP.sub [0, 1, 2, 3, 4, 5, 6] rfl) (hD.sub [0, 1, 2, 3, 4, 5, 6] (by decide) rfl) hS (lv_sub hl [0, 1, 4, 5, 6, 7] rfl)
        exact key35 600 0 v_2 kf _ _ _ (by omega) (by omega) (by omega) hP hD hS (lv_sub hl [0, 1, 2, 3, 4, 5] rfl)
      · have tc18 := q_eqN c18
        refine lv_iconst (v := 0) hx hb dX3_ask_21 (by decide) ?_
        refine lv_goto (tgt := 33) hx hb dX3_ask_22 (by decide) ?_
        refine lv_istore (lv' := [(5, .int 0), (4, .int 0), (0, .ref lw), (1, .int a1), (2, .ref bw), (3, .int a2)]) hx hb dX3_ask_33 hl (by decide) rfl (fun ls hl => ?_)
        have key35 : ∀ (fu : Nat) (top : Int32) (att : Int32) (rz_lk : Nat → Int32) (H : Heap) (locs : List Loc) (ls : Array Slot) (hfu : (bf a1.toNatClampNeg).toInt - att.toInt ≤ (fu : Int)) (hp0 : 0 ≤ top.toInt ∧ top.toInt ≤ 60) (hp1 : 0 ≤ att.toInt), va_P (dC, dI) vwCl [(lw, .inr (3, lf)), (lc, .inl (cC, 600, .inl cf)), (lb, .inl (cB, 6, .inl bf)), (lk, .inl (cK, 60, .inl rz_lk)), (bw, .inr (0, bfs)), (tg, .inl (cT, 12, .inl tf)), (en, .inl (cE, 2, .inl ef))] H → va_D A [(lw, .inr (3, lf)), (lc, .inl (cC, 600, .inl cf)), (lb, .inl (cB, 6, .inl bf)), (lk, .inl (cK, 60, .inl rz_lk)), (bw, .inr (0, bfs)), (tg, .inl (cT, 12, .inl tf)), (en, .inl (cE, 2, .inl ef))] → va_S A s.heap H locs → lv_has ls 8 [(5, .int att), (4, .int top), (0, .ref lw), (1, .int a1), (2, .ref bw), (3, .int a2)] → W p l e (headSpec zw_d_ask { frames := 1, cells := 0, slots := 0, locals := 22 }).room s m ([.ref lw, .int a1, .ref bw, .int a2] : List Value).toArray below meth c H locs 0 0 (MQ below (va_Qi (fun (r : Int32) (_ : Unit) => True) (fun _ t => ∃ (kg : Nat → Int32), lf[0]? = some (.ref lc) ∧ lf[1]? = some (.ref lb) ∧ lf[2]? = some (.ref lk) ∧ lf[3]? = some (.int lus) ∧ lf[4]? = some (.int lro) ∧ lf[5]? = some (.int lun) ∧ bfs[0]? = some (.ref tg) ∧ bfs[1]? = some (.ref en) ∧ bfs[2]? = some (.int bcrossings) ∧ bfs[3]? = some (.int bleft) ∧ bfs[4]? = some (.int bsteps) ∧ bfs[5]? = some (.int bslipped) ∧ bfs[6]? = some (.int bwalk) ∧ bfs[7]? = some (.int bnextStep) ∧ bfs[8]? = some (.int bsides) ∧ bfs[9]? = some (.int blikes) ∧ bfs[10]? = some (.int bsmooth) ∧ bfs[11]? = some (.int bweight) ∧ bfs[12]? = some (.int blength) ∧ bfs[13]? = some (.int bstrike) ∧ bfs[14]? = some (.int bswing) ∧ (∀ k, k < 6 → 0 ≤ ((bf k)).toInt ∧ ((bf k)).toInt ≤ 600) ∧ va_P (dC, dI) vwCl [(lw, .inr (3, lf)), (lc, .inl (cC, 600, .inl cf)), (lb, .inl (cB, 6, .inl bf)), (lk, .inl (cK, 60, .inl kg)), (bw, .inr (0, bfs)), (tg, .inl (cT, 12, .inl tf)), (en, .inl (cE, 2, .inl ef))] t.heap ∧ va_K (dC, dI) vwCl [] t ∧ va_D A [(lw, .inr (3, lf)), (lc, .inl (cC, 600, .inl cf)), (lb, .inl (cB, 6, .inl bf)), (lk, .inl (cK, 60, .inl kg)), (bw, .inr (0, bfs)), (tg, .inl (cT, 12, .inl tf)), (en, .inl (cE, 2, .inl ef))]) A) ([.ref lw, .int a1, .ref bw, .int a2] : List Value).toArray s 0 0 A) (F0 m 35 ls []) := by
          intro fu
          induction fu with
          | zero =>
            intro top att rz_lk H locs ls hfu hp0 hp1 hP hD hS hl
            refine lv_iload hx hb dX3_ask_35 (lv_at hl 0 rfl) ?_
            refine lv_aload_n hx hb dX3_ask_37 rfl (lv_at hl 2 rfl) ?_
            refine va_get (D := (dC, dI)) (ci := 3) (v := .ref lb) (C := RX3) (T := TX3) (N := 6) hx hb hts i_X3 hown hK hP 0 rfl rfl 1 (by decide) k_1 (fun _ h9 => h9) f_lf_1 dX3_ask_38 ?_
            refine lv_iload_n hx hb dX3_ask_41 rfl (lv_at hl 3 rfl) ?_
            refine va_iald hx hb hK hP 2 1 rfl rfl (q_in (by omega) (by omega)) dX3_ask_42 ?_
            refine lv_topi (fun v_71 ev_71 => ?_)
            have uv_71 : v_71.toInt = (bf a1.toNatClampNeg).toInt := by rw [ev_71]
            have tv_71 : 0 ≤ (v_71).toInt ∧ (v_71).toInt ≤ 600 := q_rd (P := fun z : Int32 => 0 ≤ (z).toInt ∧ (z).toInt ≤ 600) hr_bf (q_in (i := a1) (n := 6) (by omega) (by omega)) ev_71
            refine lv_icmp_ge (tgt := 211) hx hb dX3_ask_43 (by decide) (fun c43 => ?_) (fun c43 => ?_)
            · have tc43 := q_ge c43
              refine lv_aload_n hx hb dX3_ask_211 rfl (lv_at hl 2 rfl) ?_
              refine va_get (D := (dC, dI)) (ci := 3) (v := .ref lk) (C := RX3) (T := TX3) (N := 6) hx hb hts i_X3 hown hK hP 0 rfl rfl 2 (by decide) k_2 (fun _ h9 => h9) f_lf_2 dX3_ask_212 ?_
              refine lv_iconst (v := 0) hx hb dX3_ask_215 (by decide) ?_
              refine va_iald hx hb hK hP 3 2 rfl rfl (p1_in (i := 0) (n := 60) (by decide)) dX3_ask_216 ?_
              refine lv_topi (fun v_72 ev_72 => ?_)
              have uv_72 : v_72.toInt = (rz_lk (0 : Int32).toNatClampNeg).toInt := by rw [ev_72]
              have hP9 := hP.sub (ws' := [(lw, .inr (3, lf)), (lc, .inl (cC, 600, .inl cf)), (lb, .inl (cB, 6, .inl bf)), (lk, .inl (cK, 60, .inl rz_lk)), (bw, .inr (0, bfs)), (tg, .inl (cT, 12, .inl tf)), (en, .inl (cE, 2, .inl ef))]) [0, 1, 2, 3, 4, 5, 6] rfl
              have hD9 := hD.sub (ws' := [(lw, .inr (3, lf)), (lc, .inl (cC, 600, .inl cf)), (lb, .inl (cB, 6, .inl bf)), (lk, .inl (cK, 60, .inl rz_lk)), (bw, .inr (0, bfs)), (tg, .inl (cT, 12, .inl tf)), (en, .inl (cE, 2, .inl ef))]) [0, 1, 2, 3, 4, 5, 6] (by decide) rfl
              have hK9 := hK.sub (tys' := []) [] rfl
              exact W.iret (v := v_72) hx hb hr (fun t ht hW => ⟨⟨v_72, (), rfl, trivial, rz_lk, f_lf_0, f_lf_1, f_lf_2, f_lf_3, f_lf_4, f_lf_5, f_bfs_0, f_bfs_1, f_bfs_2, f_bfs_3, f_bfs_4, f_bfs_5, f_bfs_6, f_bfs_7, f_bfs_8, f_bfs_9, f_bfs_10, f_bfs_11, f_bfs_12, f_bfs_13, f_bfs_14, hr_bf, by rw [ht]; exact hP9, va_K.moved hW.alike hK9, hD9⟩, hS.F ht⟩) hS.2.2 dX3_ask_217
            · have tc43 := q_ltN c43
              refine lv_aload_n hx hb dX3_ask_46 rfl (lv_at hl 2 rfl) ?_
              refine va_get (D := (dC, dI)) (ci := 3) (v := .ref lc) (C := RX3) (T := TX3) (N := 6) hx hb hts i_X3 hown hK hP 0 rfl rfl 0 (by decide) k_3 (fun _ h9 => h9) f_lf_0 dX3_ask_47 ?_
              refine lv_iload hx hb dX3_ask_50 (lv_at hl 0 rfl) ?_
              refine va_iald hx hb hK hP 1 0 rfl rfl (q_in (by omega) (by omega)) dX3_ask_52 ?_
              refine lv_topi (fun v_73 ev_73 => ?_)
              have uv_73 : v_73.toInt = (cf att.toNatClampNeg).toInt := by rw [ev_73]
              refine lv_istore (lv' := [(6, .int v_73), (5, .int att), (4, .int top), (0, .ref lw), (1, .int a1), (2, .ref bw), (3, .int a2)]) hx hb dX3_ask_53 hl (by decide) rfl (fun ls hl => ?_)
              refine lv_iload hx hb dX3_ask_55 (lv_at hl 0 rfl) ?_
              refine lv_sipush (v := 1000) hx hb dX3_ask_57 (by decide) ?_
              refine lv_icmp_lt (tgt := 67) hx hb dX3_ask_60 (by decide) (fun c60 => ?_) (fun c60 => ?_)
              · have tc60 := q_lt c60
                refine lv_iconst (v := 0) hx hb dX3_ask_67 (by decide) ?_
                refine lv_istore (lv' := [(7, .int 0), (6, .int v_73), (5, .int att), (4, .int top), (0, .ref lw), (1, .int a1), (2, .ref bw), (3, .int a2)]) hx hb dX3_ask_68 hl (by decide) rfl (fun ls hl => ?_)
                refine lv_iload hx hb dX3_ask_70 (lv_at hl 0 rfl) ?_
                refine lv_if_ne (tgt := 83) hx hb dX3_ask_72 (by decide) (fun c9 => absurd c9 (by decide)) (fun _ => ?_)
                refine lv_iload hx hb dX3_ask_75 (lv_at hl 1 rfl) ?_
                have hPc := hP.sub (ws' := []) [] rfl
                have hDc := hD.sub (ws' := []) [] (by decide) rfl
                have hKc := hK.sub (tys' := []) [] rfl
                have hFc := va_free (wc := []) hD hS hA [] rfl
                refine va_calli (va_runS (As := [.int v_73]) (rest := []) ⟨hx, hb, hml, hown, hts⟩ (d_isUnitWord l dC dI H.size v_73) (va_cwS 1 hts (p1_gS m_4 m_5 m_6 g_d_isUnitWord gz_d_isUnitWord) rfl rfl rfl (by decide +kernel) ⟨by decide, by decide⟩) ⟨fun a U g mk q => by obtain ⟨q0, q1, qP, qK, qD⟩ := q; exact ⟨q0, q1, qP, va_K.moved (u := U) (U := U.calling g mk a) (Vm.Alike.refl U.vm) qK, qD⟩, fun U hU hW => ⟨rfl, by rw [hU], by rw [hU]; exact hPc, va_K.moved hW.alike hKc, hDc.weaken (fun _ _ _ _ => trivial)⟩⟩ rfl rfl hl.1 rfl (lv_room (Nat.le_of_ble_eq_true rfl)) dX3_ask_77 ⟨by decide, by decide⟩) hS (fun q _ h => hFc q h) hFc (fun r_74 u t H1 locs ht hvm hw hB hz1 hk1 hS => ?_)
                obtain ⟨hP1, hK1, hD1⟩ := hB
                rw [ht] at hP1
                obtain ⟨hP, hD⟩ := va_join (wr := [(lw, .inr (3, lf)), (lc, .inl (cC, 600, .inl cf)), (lb, .inl (cB, 6, .inl bf)), (lk, .inl (cK, 60, .inl rz_lk)), (bw, .inr (0, bfs)), (tg, .inl (cT, 12, .inl tf)), (en, .inl (cE, 2, .inl ef))]) (w1 := []) hP hD [] [0, 1, 2, 3, 4, 5, 6] rfl rfl (by decide) (by decide) hk1 hFc hP1 hD1
                generalize H1 = H at hP hS ⊢
                have hP : va_P (dC, dI) vwCl [(lw, .inr (3, lf)), (lc, .inl (cC, 600, .inl cf)), (lb, .inl (cB, 6, .inl bf)), (lk, .inl (cK, 60, .inl rz_lk)), (bw, .inr (0, bfs)), (tg, .inl (cT, 12, .inl tf)), (en, .inl (cE, 2, .inl ef))] H := hP
                have hD : va_D A [(lw, .inr (3, lf)), (lc, .inl (cC, 600, .inl cf)), (lb, .inl (cB, 6, .inl bf)), (lk, .inl (cK, 60, .inl rz_lk)), (bw, .inr (0, bfs)), (tg, .inl (cT, 12, .inl tf)), (en, .inl (cE, 2, .inl ef))] := hD
                try dsimp only at hw
                have hw_75 := hw
                refine lv_if_eq (tgt := 124) hx hb dX3_ask_80 (by decide) (fun c80 => ?_) (fun c80 => ?_)
                · have tc80 := q_eq c80
                  refine lv_iload hx hb dX3_ask_124 (lv_at hl 1 rfl) ?_
                  refine lv_sipush (v := 277) hx hb dX3_ask_126 (by decide) ?_
                  refine lv_icmp_ne (tgt := 166) hx hb dX3_ask_129 (by decide) (fun c129 => ?_) (fun c129 => ?_)
                  · have tc129 := q_ne c129
                    refine lv_iload hx hb dX3_ask_166 (lv_at hl 3 rfl) ?_
                    refine lv_iconst (v := 1) hx hb dX3_ask_168 (by decide) ?_
                    refine lv_icmp_le (tgt := 205) hx hb dX3_ask_169 (by decide) (fun c169 => ?_) (fun c169 => ?_)
                    · have tc169 := q_le c169
                      obtain ⟨v_76, ev_76⟩ : ∃ y : Int32, y = att + 1 := ⟨_, rfl⟩
                      try have tv_76 := q_add ev_76 (by omega) (by omega)
                      refine lv_iinc (v := v_76) (lv' := [(5, .int v_76), (7, .int 0), (6, .int v_73), (4, .int top), (0, .ref lw), (1, .int a1), (2, .ref bw), (3, .int a2)]) hx hb dX3_ask_205 hl (k := 2) rfl (by rw [ev_76]; rfl) (by decide) rfl (fun ls hl => ?_)
                      refine lv_goto (tgt := 35) hx hb dX3_ask_208 (by decide) ?_
                      exfalso; omega
                    · have tc169 := q_gtN c169
                      obtain ⟨v_77, ev_77⟩ : ∃ y : Int32, y = top + (-1) := ⟨_, rfl⟩
                      try have tv_77 := q_add ev_77 (by omega) (by omega)
                      refine lv_iinc (v := v_77) (lv' := [(4, .int v_77), (7, .int 0), (6, .int v_73), (5, .int att), (0, .ref lw), (1, .int a1), (2, .ref bw), (3, .int a2)]) hx hb dX3_ask_172 hl (k := 3) rfl (by rw [ev_77]; rfl) (by decide) rfl (fun ls hl => ?_)
                      refine lv_aload_n hx hb dX3_ask_175 rfl (lv_at hl 4 rfl) ?_
                      refine va_get (D := (dC, dI)) (ci := 3) (v := .ref lk) (C := RX3) (T := TX3) (N := 6) hx hb hts i_X3 hown hK hP 0 rfl rfl 2 (by decide) k_2 (fun _ h9 => h9) f_lf_2 dX3_ask_176 ?_
                      refine lv_iload hx hb dX3_ask_179 (lv_at hl 0 rfl) ?_
                      refine lv_iconst (v := 1) hx hb dX3_ask_181 (by decide) ?_
                      refine lv_isub hx hb dX3_ask_182 ?_
                      refine lv_topi (fun v_78 ev_78 => ?_)
                      try have tv_78 := q_sub ev_78 (by omega) (by omega)
                      refine lv_iload hx hb dX3_ask_183 (lv_at hl 2 rfl) ?_
                      refine lv_aload_n hx hb dX3_ask_185 rfl (lv_at hl 4 rfl) ?_
                      refine va_get (D := (dC, dI)) (ci := 3) (v := .ref lk) (C := RX3) (T := TX3) (N := 6) hx hb hts i_X3 hown hK hP 0 rfl rfl 2 (by decide) k_2 (fun _ h9 => h9) f_lf_2 dX3_ask_186 ?_
                      refine lv_iload hx hb dX3_ask_189 (lv_at hl 0 rfl) ?_
                      refine lv_iconst (v := 1) hx hb dX3_ask_191 (by decide) ?_
                      refine lv_isub hx hb dX3_ask_192 ?_
                      refine lv_topi (fun v_79 ev_79 => ?_)
                      try have tv_79 := q_sub ev_79 (by omega) (by omega)
                      refine va_iald hx hb hK hP 3 2 rfl rfl (q_in (by omega) (by omega)) dX3_ask_193 ?_
                      refine lv_topi (fun v_80 ev_80 => ?_)
                      have uv_80 : v_80.toInt = (rz_lk v_79.toNatClampNeg).toInt := by rw [ev_80]
                      refine lv_aload_n hx hb dX3_ask_194 rfl (lv_at hl 4 rfl) ?_
                      refine va_get (D := (dC, dI)) (ci := 3) (v := .ref lk) (C := RX3) (T := TX3) (N := 6) hx hb hts i_X3 hown hK hP 0 rfl rfl 2 (by decide) k_2 (fun _ h9 => h9) f_lf_2 dX3_ask_195 ?_
                      refine lv_iload hx hb dX3_ask_198 (lv_at hl 0 rfl) ?_
                      refine va_iald hx hb hK hP 3 2 rfl rfl (q_in (by omega) (by omega)) dX3_ask_200 ?_
                      refine lv_topi (fun v_81 ev_81 => ?_)
                      have uv_81 : v_81.toInt = (rz_lk v_77.toNatClampNeg).toInt := by rw [ev_81]
                      have hPc := hP.sub (ws' := []) [] rfl
                      have hDc := hD.sub (ws' := []) [] (by decide) rfl
                      have hKc := hK.sub (tys' := []) [] rfl
                      have hFc := va_free (wc := []) hD hS hA [] rfl
                      refine va_calli (va_runS (As := [.int v_73, .int v_80, .int v_81]) (rest := [.int v_78, .ref lk]) ⟨hx, hb, hml, hown, hts⟩ (d_join l dC dI H.size v_73 v_80 v_81) (va_cwS 3 hts (p1_gS m_7 m_8 m_9 g_d_join gz_d_join) rfl rfl rfl (by decide +kernel) ⟨by decide, by decide⟩) ⟨fun a U g mk q => by obtain ⟨q0, q1, qP, qK, qD⟩ := q; exact ⟨q0, q1, qP, va_K.moved (u := U) (U := U.calling g mk a) (Vm.Alike.refl U.vm) qK, qD⟩, fun U hU hW => ⟨rfl, by rw [hU], by rw [hU]; exact hPc, va_K.moved hW.alike hKc, hDc.weaken (fun _ _ _ _ => trivial)⟩⟩ rfl rfl hl.1 rfl (lv_room (Nat.le_of_ble_eq_true rfl)) dX3_ask_201 ⟨by decide, by decide⟩) hS (fun q _ h => hFc q h) hFc (fun r_82 u t H1 locs ht hvm hw hB hz1 hk1 hS => ?_)
                      obtain ⟨hP1, hK1, hD1⟩ := hB
                      rw [ht] at hP1
                      obtain ⟨hP, hD⟩ := va_join (wr := [(lw, .inr (3, lf)), (lc, .inl (cC, 600, .inl cf)), (lb, .inl (cB, 6, .inl bf)), (lk, .inl (cK, 60, .inl rz_lk)), (bw, .inr (0, bfs)), (tg, .inl (cT, 12, .inl tf)), (en, .inl (cE, 2, .inl ef))]) (w1 := []) hP hD [] [0, 1, 2, 3, 4, 5, 6] rfl rfl (by decide) (by decide) hk1 hFc hP1 hD1
                      generalize H1 = H at hP hS ⊢
                      have hP : va_P (dC, dI) vwCl [(lw, .inr (3, lf)), (lc, .inl (cC, 600, .inl cf)), (lb, .inl (cB, 6, .inl bf)), (lk, .inl (cK, 60, .inl rz_lk)), (bw, .inr (0, bfs)), (tg, .inl (cT, 12, .inl tf)), (en, .inl (cE, 2, .inl ef))] H := hP
                      have hD : va_D A [(lw, .inr (3, lf)), (lc, .inl (cC, 600, .inl cf)), (lb, .inl (cB, 6, .inl bf)), (lk, .inl (cK, 60, .inl rz_lk)), (bw, .inr (0, bfs)), (tg, .inl (cT, 12, .inl tf)), (en, .inl (cE, 2, .inl ef))] := hD
                      try dsimp only at hw
                      have hw_83 := hw
                      refine va_iast hx hb hK hP hD hS 3 2 rfl rfl (q_in (by omega) (by omega)) dX3_ask_204 (fun H locs hP hD hS => ?_)
                      have hP : va_P (dC, dI) vwCl [(lw, .inr (3, lf)), (lc, .inl (cC, 600, .inl cf)), (lb, .inl (cB, 6, .inl bf)), (lk, .inl (cK, 60, .inl (upd rz_lk v_78.toNatClampNeg r_82))), (bw, .inr (0, bfs)), (tg, .inl (cT, 12, .inl tf)), (en, .inl (cE, 2, .inl ef))] H := hP
                      have hD : va_D A [(lw, .inr (3, lf)), (lc, .inl (cC, 600, .inl cf)), (lb, .inl (cB, 6, .inl bf)), (lk, .inl (cK, 60, .inl (upd rz_lk v_78.toNatClampNeg r_82))), (bw, .inr (0, bfs)), (tg, .inl (cT, 12, .inl tf)), (en, .inl (cE, 2, .inl ef))] := hD
                      generalize eg_84 : (upd rz_lk v_78.toNatClampNeg r_82) = g_84 at hP hD
                      obtain ⟨v_85, ev_85⟩ : ∃ y : Int32, y = att + 1 := ⟨_, rfl⟩
                      try have tv_85 := q_add ev_85 (by omega) (by omega)
                      refine lv_iinc (v := v_85) (lv' := [(5, .int v_85), (4, .int v_77), (7, .int 0), (6, .int v_73), (0, .ref lw), (1, .int a1), (2, .ref bw), (3, .int a2)]) hx hb dX3_ask_205 hl (k := 3) rfl (by rw [ev_85]; rfl) (by decide) rfl (fun ls hl => ?_)
                      refine lv_goto (tgt := 35) hx hb dX3_ask_208 (by decide) ?_
                      exfalso; omega
                  · have tc129 := q_eqN c129
                    refine lv_iload hx hb dX3_ask_132 (lv_at hl 3 rfl) ?_
                    refine lv_if_le (tgt := 205) hx hb dX3_ask_134 (by decide) (fun c134 => ?_) (fun c134 => ?_)
                    · have tc134 := q_le c134
                      obtain ⟨v_86, ev_86⟩ : ∃ y : Int32, y = att + 1 := ⟨_, rfl⟩
                      try have tv_86 := q_add ev_86 (by omega) (by omega)
                      refine lv_iinc (v := v_86) (lv' := [(5, .int v_86), (7, .int 0), (6, .int v_73), (4, .int top), (0, .ref lw), (1, .int a1), (2, .ref bw), (3, .int a2)]) hx hb dX3_ask_205 hl (k := 2) rfl (by rw [ev_86]; rfl) (by decide) rfl (fun ls hl => ?_)
                      refine lv_goto (tgt := 35) hx hb dX3_ask_208 (by decide) ?_
                      exfalso; omega
                    · have tc134 := q_gtN c134
                      refine lv_aload_n hx hb dX3_ask_137 rfl (lv_at hl 4 rfl) ?_
                      refine va_get (D := (dC, dI)) (ci := 3) (v := .ref lk) (C := RX3) (T := TX3) (N := 6) hx hb hts i_X3 hown hK hP 0 rfl rfl 2 (by decide) k_2 (fun _ h9 => h9) f_lf_2 dX3_ask_138 ?_
                      refine lv_iload hx hb dX3_ask_141 (lv_at hl 3 rfl) ?_
                      refine lv_iconst (v := 1) hx hb dX3_ask_143 (by decide) ?_
                      refine lv_isub hx hb dX3_ask_144 ?_
                      refine lv_topi (fun v_87 ev_87 => ?_)
                      try have tv_87 := q_sub ev_87 (by omega) (by omega)
                      refine lv_aload_n hx hb dX3_ask_145 rfl (lv_at hl 4 rfl) ?_
                      refine va_get (D := (dC, dI)) (ci := 3) (v := .ref lk) (C := RX3) (T := TX3) (N := 6) hx hb hts i_X3 hown hK hP 0 rfl rfl 2 (by decide) k_2 (fun _ h9 => h9) f_lf_2 dX3_ask_146 ?_
                      refine lv_iload hx hb dX3_ask_149 (lv_at hl 3 rfl) ?_
                      refine lv_iconst (v := 1) hx hb dX3_ask_151 (by decide) ?_
                      refine lv_isub hx hb dX3_ask_152 ?_
                      refine lv_topi (fun v_88 ev_88 => ?_)
                      try have tv_88 := q_sub ev_88 (by omega) (by omega)
                      refine va_iald hx hb hK hP 3 2 rfl rfl (q_in (by omega) (by omega)) dX3_ask_153 ?_
                      refine lv_topi (fun v_89 ev_89 => ?_)
                      have uv_89 : v_89.toInt = (rz_lk v_88.toNatClampNeg).toInt := by rw [ev_89]
                      refine lv_if_ne (tgt := 161) hx hb dX3_ask_154 (by decide) (fun c154 => ?_) (fun c154 => ?_)
                      · have tc154 := q_ne c154
                        refine lv_iconst (v := 0) hx hb dX3_ask_161 (by decide) ?_
                        refine va_iast hx hb hK hP hD hS 3 2 rfl rfl (q_in (by omega) (by omega)) dX3_ask_162 (fun H locs hP hD hS => ?_)
                        have hP : va_P (dC, dI) vwCl [(lw, .inr (3, lf)), (lc, .inl (cC, 600, .inl cf)), (lb, .inl (cB, 6, .inl bf)), (lk, .inl (cK, 60, .inl (upd rz_lk v_87.toNatClampNeg 0))), (bw, .inr (0, bfs)), (tg, .inl (cT, 12, .inl tf)), (en, .inl (cE, 2, .inl ef))] H := hP
                        have hD : va_D A [(lw, .inr (3, lf)), (lc, .inl (cC, 600, .inl cf)), (lb, .inl (cB, 6, .inl bf)), (lk, .inl (cK, 60, .inl (upd rz_lk v_87.toNatClampNeg 0))), (bw, .inr (0, bfs)), (tg, .inl (cT, 12, .inl tf)), (en, .inl (cE, 2, .inl ef))] := hD
                        generalize eg_90 : (upd rz_lk v_87.toNatClampNeg 0) = g_90 at hP hD
                        refine lv_goto (tgt := 205) hx hb dX3_ask_163 (by decide) ?_
                        obtain ⟨v_91, ev_91⟩ : ∃ y : Int32, y = att + 1 := ⟨_, rfl⟩
                        try have tv_91 := q_add ev_91 (by omega) (by omega)
                        refine lv_iinc (v := v_91) (lv' := [(5, .int v_91), (7, .int 0), (6, .int v_73), (4, .int top), (0, .ref lw), (1, .int a1), (2, .ref bw), (3, .int a2)]) hx hb dX3_ask_205 hl (k := 2) rfl (by rw [ev_91]; rfl) (by decide) rfl (fun ls hl => ?_)
                        refine lv_goto (tgt := 35) hx hb dX3_ask_208 (by decide) ?_
                        exfalso; omega
                      · have tc154 := q_eqN c154
                        refine lv_iconst (v := 1) hx hb dX3_ask_157 (by decide) ?_
                        refine lv_goto (tgt := 162) hx hb dX3_ask_158 (by decide) ?_
                        refine va_iast hx hb hK hP hD hS 3 2 rfl rfl (q_in (by omega) (by omega)) dX3_ask_162 (fun H locs hP hD hS => ?_)
                        have hP : va_P (dC, dI) vwCl [(lw, .inr (3, lf)), (lc, .inl (cC, 600, .inl cf)), (lb, .inl (cB, 6, .inl bf)), (lk, .inl (cK, 60, .inl (upd rz_lk v_87.toNatClampNeg 1))), (bw, .inr (0, bfs)), (tg, .inl (cT, 12, .inl tf)), (en, .inl (cE, 2, .inl ef))] H := hP
                        have hD : va_D A [(lw, .inr (3, lf)), (lc, .inl (cC, 600, .inl cf)), (lb, .inl (cB, 6, .inl bf)), (lk, .inl (cK, 60, .inl (upd rz_lk v_87.toNatClampNeg 1))), (bw, .inr (0, bfs)), (tg, .inl (cT, 12, .inl tf)), (en, .inl (cE, 2, .inl ef))] := hD
                        generalize eg_92 : (upd rz_lk v_87.toNatClampNeg 1) = g_92 at hP hD
                        refine lv_goto (tgt := 205) hx hb dX3_ask_163 (by decide) ?_
                        obtain ⟨v_93, ev_93⟩ : ∃ y : Int32, y = att + 1 := ⟨_, rfl⟩
                        try have tv_93 := q_add ev_93 (by omega) (by omega)
                        refine lv_iinc (v := v_93) (lv' := [(5, .int v_93), (7, .int 0), (6, .int v_73), (4, .int top), (0, .ref lw), (1, .int a1), (2, .ref bw), (3, .int a2)]) hx hb dX3_ask_205 hl (k := 2) rfl (by rw [ev_93]; rfl) (by decide) rfl (fun ls hl => ?_)
                        refine lv_goto (tgt := 35) hx hb dX3_ask_208 (by decide) ?_
                        exfalso; omega
                · have tc80 := q_neN c80
                  refine lv_iload hx hb dX3_ask_83 (lv_at hl 3 rfl) ?_
                  refine lv_bipush (v := 60) hx hb dX3_ask_85 (by decide) ?_
                  refine lv_icmp_ge (tgt := 205) hx hb dX3_ask_87 (by decide) (fun c87 => ?_) (fun c87 => ?_)
                  · have tc87 := q_ge c87
                    obtain ⟨v_94, ev_94⟩ : ∃ y : Int32, y = att + 1 := ⟨_, rfl⟩
                    try have tv_94 := q_add ev_94 (by omega) (by omega)
                    refine lv_iinc (v := v_94) (lv' := [(5, .int v_94), (7, .int 0), (6, .int v_73), (4, .int top), (0, .ref lw), (1, .int a1), (2, .ref bw), (3, .int a2)]) hx hb dX3_ask_205 hl (k := 2) rfl (by rw [ev_94]; rfl) (by decide) rfl (fun ls hl => ?_)
                    refine lv_goto (tgt := 35) hx hb dX3_ask_208 (by decide) ?_
                    exfalso; omega
                  · have tc87 := q_ltN c87
                    refine lv_aload_n hx hb dX3_ask_90 rfl (lv_at hl 4 rfl) ?_
                    refine va_get (D := (dC, dI)) (ci := 3) (v := .ref lk) (C := RX3) (T := TX3) (N := 6) hx hb hts i_X3 hown hK hP 0 rfl rfl 2 (by decide) k_2 (fun _ h9 => h9) f_lf_2 dX3_ask_91 ?_
                    refine lv_iload hx hb dX3_ask_94 (lv_at hl 3 rfl) ?_
                    refine lv_iload hx hb dX3_ask_96 (lv_at hl 0 rfl) ?_
                    refine lv_if_eq (tgt := 110) hx hb dX3_ask_98 (by decide) (fun _ => ?_) (fun c9 => absurd c9 (by decide))
                    refine lv_aload_n hx hb dX3_ask_110 rfl (lv_at hl 6 rfl) ?_
                    refine lv_iload hx hb dX3_ask_111 (lv_at hl 1 rfl) ?_
                    refine lv_iload_n hx hb dX3_ask_113 rfl (lv_at hl 7 rfl) ?_
                    have hPc := hP.sub (ws' := [(bw, .inr (0, bfs)), (tg, .inl (cT, 12, .inl tf)), (en, .inl (cE, 2, .inl ef))]) [4, 5, 6] rfl
                    have hDc := hD.sub (ws' := [(bw, .inr (0, bfs)), (tg, .inl (cT, 12, .inl tf)), (en, .inl (cE, 2, .inl ef))]) [4, 5, 6] (by decide) rfl
                    have hKc := hK.sub (tys' := [(cT, .int), (cE, .int)]) [3, 4] rfl
                    have hFc := va_free (wc := [(bw, .inr (0, bfs)), (tg, .inl (cT, 12, .inl tf)), (en, .inl (cE, 2, .inl ef))]) hD hS hA [4, 5, 6] rfl
                    refine va_calli (va_runV (As := [.int v_73, .int a2]) (rest := [.int top, .ref lk]) ⟨hx, hb, hml, hown, hts⟩ (d_tell l dC dI H.size bw bfs tg en bcrossings bleft bsteps bslipped bwalk bnextStep bsides blikes bsmooth bweight blength bstrike bswing cT tf cE ef v_73 a2 f_bfs_0 f_bfs_1 f_bfs_2 f_bfs_3 f_bfs_4 f_bfs_5 f_bfs_6 f_bfs_7 f_bfs_8 f_bfs_9 f_bfs_10 f_bfs_11 f_bfs_12 f_bfs_13 f_bfs_14 ((by omega))) (cwV 2 hts (p1_gV m_10 m_11 m_12 m_13 g_d_tell gz_d_tell) rfl rfl rfl (by decide +kernel) ⟨by decide, by decide⟩) ⟨fun a U g mk q => by obtain ⟨q0, q1, qP, qK, qD⟩ := q; exact ⟨q0, q1, qP, va_K.moved (u := U) (U := U.calling g mk a) (Vm.Alike.refl U.vm) qK, qD⟩, va_recv hKc hPc (ci := 0) (q0 := 0) rfl rfl, fun U hU hW => ⟨rfl, by rw [hU], by rw [hU]; exact hPc, va_K.moved hW.alike hKc, hDc.weaken (fun _ _ _ _ => trivial)⟩⟩ rfl rfl hl.1 rfl (lv_room (Nat.le_of_ble_eq_true rfl)) dX3_ask_114 ⟨by decide, by decide⟩) hS (fun q _ h => hFc q h) hFc (fun r_95 u t H1 locs ht hvm hw hB hz1 hk1 hS => ?_)
                    obtain ⟨hP1, hK1, hD1⟩ := hB
                    rw [ht] at hP1
                    obtain ⟨hP, hD⟩ := va_join (wr := [(lw, .inr (3, lf)), (lc, .inl (cC, 600, .inl cf)), (lb, .inl (cB, 6, .inl bf)), (lk, .inl (cK, 60, .inl rz_lk))]) (w1 := [(bw, .inr (0, bfs)), (tg, .inl (cT, 12, .inl tf)), (en, .inl (cE, 2, .inl ef))]) hP hD [4, 5, 6] [0, 1, 2, 3] rfl rfl (by decide) (by decide) hk1 hFc hP1 hD1
                    generalize H1 = H at hP hS ⊢
                    have hP : va_P (dC, dI) vwCl [(lw, .inr (3, lf)), (lc, .inl (cC, 600, .inl cf)), (lb, .inl (cB, 6, .inl bf)), (lk, .inl (cK, 60, .inl rz_lk)), (bw, .inr (0, bfs)), (tg, .inl (cT, 12, .inl tf)), (en, .inl (cE, 2, .inl ef))] H := hP
                    have hD : va_D A [(lw, .inr (3, lf)), (lc, .inl (cC, 600, .inl cf)), (lb, .inl (cB, 6, .inl bf)), (lk, .inl (cK, 60, .inl rz_lk)), (bw, .inr (0, bfs)), (tg, .inl (cT, 12, .inl tf)), (en, .inl (cE, 2, .inl ef))] := hD
                    try dsimp only at hw
                    have hw_96 := hw
                    refine va_iast hx hb hK hP hD hS 3 2 rfl rfl (q_in (by omega) (by omega)) dX3_ask_117 (fun H locs hP hD hS => ?_)
                    have hP : va_P (dC, dI) vwCl [(lw, .inr (3, lf)), (lc, .inl (cC, 600, .inl cf)), (lb, .inl (cB, 6, .inl bf)), (lk, .inl (cK, 60, .inl (upd rz_lk top.toNatClampNeg r_95))), (bw, .inr (0, bfs)), (tg, .inl (cT, 12, .inl tf)), (en, .inl (cE, 2, .inl ef))] H := hP
                    have hD : va_D A [(lw, .inr (3, lf)), (lc, .inl (cC, 600, .inl cf)), (lb, .inl (cB, 6, .inl bf)), (lk, .inl (cK, 60, .inl (upd rz_lk top.toNatClampNeg r_95))), (bw, .inr (0, bfs)), (tg, .inl (cT, 12, .inl tf)), (en, .inl (cE, 2, .inl ef))] := hD
                    generalize eg_97 : (upd rz_lk top.toNatClampNeg r_95) = g_97 at hP hD
                    obtain ⟨v_98, ev_98⟩ : ∃ y : Int32, y = top + 1 := ⟨_, rfl⟩
                    try have tv_98 := q_add ev_98 (by omega) (by omega)
                    refine lv_iinc (v := v_98) (lv' := [(4, .int v_98), (7, .int 0), (6, .int v_73), (5, .int att), (0, .ref lw), (1, .int a1), (2, .ref bw), (3, .int a2)]) hx hb dX3_ask_118 hl (k := 3) rfl (by rw [ev_98]; rfl) (by decide) rfl (fun ls hl => ?_)
                    refine lv_goto (tgt := 205) hx hb dX3_ask_121 (by decide) ?_
                    obtain ⟨v_99, ev_99⟩ : ∃ y : Int32, y = att + 1 := ⟨_, rfl⟩
                    try have tv_99 := q_add ev_99 (by omega) (by omega)
                    refine lv_iinc (v := v_99) (lv' := [(5, .int v_99), (4, .int v_98), (7, .int 0), (6, .int v_73), (0, .ref lw), (1, .int a1), (2, .ref bw), (3, .int a2)]) hx hb dX3_ask_205 hl (k := 3) rfl (by rw [ev_99]; rfl) (by decide) rfl (fun ls hl => ?_)
                    refine lv_goto (tgt := 35) hx hb dX3_ask_208 (by decide) ?_
                    exfalso; omega
              · have tc60 := q_geN c60
                refine lv_iconst (v := 1) hx hb dX3_ask_63 (by decide) ?_
                refine lv_goto (tgt := 68) hx hb dX3_ask_64 (by decide) ?_
                refine lv_istore (lv' := [(7, .int 1), (6, .int v_73), (5, .int att), (4, .int top), (0, .ref lw), (1, .int a1), (2, .ref bw), (3, .int a2)]) hx hb dX3_ask_68 hl (by decide) rfl (fun ls hl => ?_)
                refine lv_iload hx hb dX3_ask_70 (lv_at hl 0 rfl) ?_
                refine lv_if_ne (tgt := 83) hx hb dX3_ask_72 (by decide) (fun _ => ?_) (fun c9 => absurd c9 (by decide))
                refine lv_iload hx hb dX3_ask_83 (lv_at hl 3 rfl) ?_
                refine lv_bipush (v := 60) hx hb dX3_ask_85 (by decide) ?_
                refine lv_icmp_ge (tgt := 205) hx hb dX3_ask_87 (by decide) (fun c87 => ?_) (fun c87 => ?_)
                · have tc87 := q_ge c87
                  obtain ⟨v_100, ev_100⟩ : ∃ y : Int32, y = att + 1 := ⟨_, rfl⟩
                  try have tv_100 := q_add ev_100 (by omega) (by omega)
                  refine lv_iinc (v := v_100) (lv' := [(5, .int v_100), (7, .int 1), (6, .int v_73), (4, .int top), (0, .ref lw), (1, .int a1), (2, .ref bw), (3, .int a2)]) hx hb dX3_ask_205 hl (k := 2) rfl (by rw [ev_100]; rfl) (by decide) rfl (fun ls hl => ?_)
                  refine lv_goto (tgt := 35) hx hb dX3_ask_208 (by decide) ?_
                  exfalso; omega
                · have tc87 := q_ltN c87
                  refine lv_aload_n hx hb dX3_ask_90 rfl (lv_at hl 4 rfl) ?_
                  refine va_get (D := (dC, dI)) (ci := 3) (v := .ref lk) (C := RX3) (T := TX3) (N := 6) hx hb hts i_X3 hown hK hP 0 rfl rfl 2 (by decide) k_2 (fun _ h9 => h9) f_lf_2 dX3_ask_91 ?_
                  refine lv_iload hx hb dX3_ask_94 (lv_at hl 3 rfl) ?_
                  refine lv_iload hx hb dX3_ask_96 (lv_at hl 0 rfl) ?_
                  refine lv_if_eq (tgt := 110) hx hb dX3_ask_98 (by decide) (fun c9 => absurd c9 (by decide)) (fun _ => ?_)
                  refine lv_iload hx hb dX3_ask_101 (lv_at hl 1 rfl) ?_
                  refine lv_sipush (v := 1000) hx hb dX3_ask_103 (by decide) ?_
                  refine lv_isub hx hb dX3_ask_106 ?_
                  refine lv_topi (fun v_101 ev_101 => ?_)
                  try have tv_101 := q_sub ev_101 (by omega) (by omega)
                  refine lv_goto (tgt := 117) hx hb dX3_ask_107 (by decide) ?_
                  refine va_iast hx hb hK hP hD hS 3 2 rfl rfl (q_in (by omega) (by omega)) dX3_ask_117 (fun H locs hP hD hS => ?_)
                  have hP : va_P (dC, dI) vwCl [(lw, .inr (3, lf)), (lc, .inl (cC, 600, .inl cf)), (lb, .inl (cB, 6, .inl bf)), (lk, .inl (cK, 60, .inl (upd rz_lk top.toNatClampNeg v_101))), (bw, .inr (0, bfs)), (tg, .inl (cT, 12, .inl tf)), (en, .inl (cE, 2, .inl ef))] H := hP
                  have hD : va_D A [(lw, .inr (3, lf)), (lc, .inl (cC, 600, .inl cf)), (lb, .inl (cB, 6, .inl bf)), (lk, .inl (cK, 60, .inl (upd rz_lk top.toNatClampNeg v_101))), (bw, .inr (0, bfs)), (tg, .inl (cT, 12, .inl tf)), (en, .inl (cE, 2, .inl ef))] := hD
                  generalize eg_102 : (upd rz_lk top.toNatClampNeg v_101) = g_102 at hP hD
                  obtain ⟨v_103, ev_103⟩ : ∃ y : Int32, y = top + 1 := ⟨_, rfl⟩
                  try have tv_103 := q_add ev_103 (by omega) (by omega)
                  refine lv_iinc (v := v_103) (lv' := [(4, .int v_103), (7, .int 1), (6, .int v_73), (5, .int att), (0, .ref lw), (1, .int a1), (2, .ref bw), (3, .int a2)]) hx hb dX3_ask_118 hl (k := 3) rfl (by rw [ev_103]; rfl) (by decide) rfl (fun ls hl => ?_)
                  refine lv_goto (tgt := 205) hx hb dX3_ask_121 (by decide) ?_
                  obtain ⟨v_104, ev_104⟩ : ∃ y : Int32, y = att + 1 := ⟨_, rfl⟩
                  try have tv_104 := q_add ev_104 (by omega) (by omega)
                  refine lv_iinc (v := v_104) (lv' := [(5, .int v_104), (4, .int v_103), (7, .int 1), (6, .int v_73), (0, .ref lw), (1, .int a1), (2, .ref bw), (3, .int a2)]) hx hb dX3_ask_205 hl (k := 3) rfl (by rw [ev_104]; rfl) (by decide) rfl (fun ls hl => ?_)
                  refine lv_goto (tgt := 35) hx hb dX3_ask_208 (by decide) ?_
                  exfalso; omega
          | succ fu ih35 =>
            intro top att rz_lk H locs ls hfu hp0 hp1 hP hD hS hl
            refine lv_iload hx hb dX3_ask_35 (lv_at hl 0 rfl) ?_
            refine lv_aload_n hx hb dX3_ask_37 rfl (lv_at hl 2 rfl) ?_
            refine va_get (D := (dC, dI)) (ci := 3) (v := .ref lb) (C := RX3) (T := TX3) (N := 6) hx hb hts i_X3 hown hK hP 0 rfl rfl 1 (by decide) k_1 (fun _ h9 => h9) f_lf_1 dX3_ask_38 ?_
            refine lv_iload_n hx hb dX3_ask_41 rfl (lv_at hl 3 rfl) ?_
            refine va_iald hx hb hK hP 2 1 rfl rfl (q_in (by omega) (by omega)) dX3_ask_42 ?_
            refine lv_topi (fun v_105 ev_105 => ?_)
            have uv_105 : v_105.toInt = (bf a1.toNatClampNeg).toInt := by rw [ev_105]
            have tv_105 : 0 ≤ (v_105).toInt ∧ (v_105).toInt ≤ 600 := q_rd (P := fun z : Int32 => 0 ≤ (z).toInt ∧ (z).toInt ≤ 600) hr_bf (q_in (i := a1) (n := 6) (by omega) (by omega)) ev_105
            refine lv_icmp_ge (tgt := 211) hx hb dX3_ask_43 (by decide) (fun c43 => ?_) (fun c43 => ?_)
            · have tc43 := q_ge c43
              refine lv_aload_n hx hb dX3_ask_211 rfl (lv_at hl 2 rfl) ?_
              refine va_get (D := (dC, dI)) (ci := 3) (v := .ref lk) (C := RX3) (T := TX3) (N := 6) hx hb hts i_X3 hown hK hP 0 rfl rfl 2 (by decide) k_2 (fun _ h9 => h9) f_lf_2 dX3_ask_212 ?_
              refine lv_iconst (v := 0) hx hb dX3_ask_215 (by decide) ?_
              refine va_iald hx hb hK hP 3 2 rfl rfl (p1_in (i := 0) (n := 60) (by decide)) dX3_ask_216 ?_
              refine lv_topi (fun v_106 ev_106 => ?_)
              have uv_106 : v_106.toInt = (rz_lk (0 : Int32).toNatClampNeg).toInt := by rw [ev_106]
              have hP9 := hP.sub (ws' := [(lw, .inr (3, lf)), (lc, .inl (cC, 600, .inl cf)), (lb, .inl (cB, 6, .inl bf)), (lk, .inl (cK, 60, .inl rz_lk)), (bw, .inr (0, bfs)), (tg, .inl (cT, 12, .inl tf)), (en, .inl (cE, 2, .inl ef))]) [0, 1, 2, 3, 4, 5, 6] rfl
              have hD9 := hD.sub (ws' := [(lw, .inr (3, lf)), (lc, .inl (cC, 600, .inl cf)), (lb, .inl (cB, 6, .inl bf)), (lk, .inl (cK, 60, .inl rz_lk)), (bw, .inr (0, bfs)), (tg, .inl (cT, 12, .inl tf)), (en, .inl (cE, 2, .inl ef))]) [0, 1, 2, 3, 4, 5, 6] (by decide) rfl
              have hK9 := hK.sub (tys' := []) [] rfl
              exact W.iret (v := v_106) hx hb hr (fun t ht hW => ⟨⟨v_106, (), rfl, trivial, rz_lk, f_lf_0, f_lf_1, f_lf_2, f_lf_3, f_lf_4, f_lf_5, f_bfs_0, f_bfs_1, f_bfs_2, f_bfs_3, f_bfs_4, f_bfs_5, f_bfs_6, f_bfs_7, f_bfs_8, f_bfs_9, f_bfs_10, f_bfs_11, f_bfs_12, f_bfs_13, f_bfs_14, hr_bf, by rw [ht]; exact hP9, va_K.moved hW.alike hK9, hD9⟩, hS.F ht⟩) hS.2.2 dX3_ask_217
            · have tc43 := q_ltN c43
              refine lv_aload_n hx hb dX3_ask_46 rfl (lv_at hl 2 rfl) ?_
              refine va_get (D := (dC, dI)) (ci := 3) (v := .ref lc) (C := RX3) (T := TX3) (N := 6) hx hb hts i_X3 hown hK hP 0 rfl rfl 0 (by decide) k_3 (fun _ h9 => h9) f_lf_0 dX3_ask_47 ?_
              refine lv_iload hx hb dX3_ask_50 (lv_at hl 0 rfl) ?_
              refine va_iald hx hb hK hP 1 0 rfl rfl (q_in (by omega) (by omega)) dX3_ask_52 ?_
              refine lv_topi (fun v_107 ev_107 => ?_)
              have uv_107 : v_107.toInt = (cf att.toNatClampNeg).toInt := by rw [ev_107]
              refine lv_istore (lv' := [(6, .int v_107), (5, .int att), (4, .int top), (0, .ref lw), (1, .int a1), (2, .ref bw), (3, .int a2)]) hx hb dX3_ask_53 hl (by decide) rfl (fun ls hl => ?_)
              refine lv_iload hx hb dX3_ask_55 (lv_at hl 0 rfl) ?_
              refine lv_sipush (v := 1000) hx hb dX3_ask_57 (by decide) ?_
              refine lv_icmp_lt (tgt := 67) hx hb dX3_ask_60 (by decide) (fun c60 => ?_) (fun c60 => ?_)
              · have tc60 := q_lt c60
                refine lv_iconst (v := 0) hx hb dX3_ask_67 (by decide) ?_
                refine lv_istore (lv' := [(7, .int 0), (6, .int v_107), (5, .int att), (4, .int top), (0, .ref lw), (1, .int a1), (2, .ref bw), (3, .int a2)]) hx hb dX3_ask_68 hl (by decide) rfl (fun ls hl => ?_)
                refine lv_iload hx hb dX3_ask_70 (lv_at hl 0 rfl) ?_
                refine lv_if_ne (tgt := 83) hx hb dX3_ask_72 (by decide) (fun c9 => absurd c9 (by decide)) (fun _ => ?_)
                refine lv_iload hx hb dX3_ask_75 (lv_at hl 1 rfl) ?_
                have hPc := hP.sub (ws' := []) [] rfl
                have hDc := hD.sub (ws' := []) [] (by decide) rfl
                have hKc := hK.sub (tys' := []) [] rfl
                have hFc := va_free (wc := []) hD hS hA [] rfl
                refine va_calli (va_runS (As := [.int v_107]) (rest := []) ⟨hx, hb, hml, hown, hts⟩ (d_isUnitWord l dC dI H.size v_107) (va_cwS 1 hts (p1_gS m_4 m_5 m_6 g_d_isUnitWord gz_d_isUnitWord) rfl rfl rfl (by decide +kernel) ⟨by decide, by decide⟩) ⟨fun a U g mk q => by obtain ⟨q0, q1, qP, qK, qD⟩ := q; exact ⟨q0, q1, qP, va_K.moved (u := U) (U := U.calling g mk a) (Vm.Alike.refl U.vm) qK, qD⟩, fun U hU hW => ⟨rfl, by rw [hU], by rw [hU]; exact hPc, va_K.moved hW.alike hKc, hDc.weaken (fun _ _ _ _ => trivial)⟩⟩ rfl rfl hl.1 rfl (lv_room (Nat.le_of_ble_eq_true rfl)) dX3_ask_77 ⟨by decide, by decide⟩) hS (fun q _ h => hFc q h) hFc (fun r_108 u t H1 locs ht hvm hw hB hz1 hk1 hS => ?_)
                obtain ⟨hP1, hK1, hD1⟩ := hB
                rw [ht] at hP1
                obtain ⟨hP, hD⟩ := va_join (wr := [(lw, .inr (3, lf)), (lc, .inl (cC, 600, .inl cf)), (lb, .inl (cB, 6, .inl bf)), (lk, .inl (cK, 60, .inl rz_lk)), (bw, .inr (0, bfs)), (tg, .inl (cT, 12, .inl tf)), (en, .inl (cE, 2, .inl ef))]) (w1 := []) hP hD [] [0, 1, 2, 3, 4, 5, 6] rfl rfl (by decide) (by decide) hk1 hFc hP1 hD1
                generalize H1 = H at hP hS ⊢
                have hP : va_P (dC, dI) vwCl [(lw, .inr (3, lf)), (lc, .inl (cC, 600, .inl cf)), (lb, .inl (cB, 6, .inl bf)), (lk, .inl (cK, 60, .inl rz_lk)), (bw, .inr (0, bfs)), (tg, .inl (cT, 12, .inl tf)), (en, .inl (cE, 2, .inl ef))] H := hP
                have hD : va_D A [(lw, .inr (3, lf)), (lc, .inl (cC, 600, .inl cf)), (lb, .inl (cB, 6, .inl bf)), (lk, .inl (cK, 60, .inl rz_lk)), (bw, .inr (0, bfs)), (tg, .inl (cT, 12, .inl tf)), (en, .inl (cE, 2, .inl ef))] := hD
                try dsimp only at hw
                have hw_109 := hw
                refine lv_if_eq (tgt := 124) hx hb dX3_ask_80 (by decide) (fun c80 => ?_) (fun c80 => ?_)
                · have tc80 := q_eq c80
                  refine lv_iload hx hb dX3_ask_124 (lv_at hl 1 rfl) ?_
                  refine lv_sipush (v := 277) hx hb dX3_ask_126 (by decide) ?_
                  refine lv_icmp_ne (tgt := 166) hx hb dX3_ask_129 (by decide) (fun c129 => ?_) (fun c129 => ?_)
                  · have tc129 := q_ne c129
                    refine lv_iload hx hb dX3_ask_166 (lv_at hl 3 rfl) ?_
                    refine lv_iconst (v := 1) hx hb dX3_ask_168 (by decide) ?_
                    refine lv_icmp_le (tgt := 205) hx hb dX3_ask_169 (by decide) (fun c169 => ?_) (fun c169 => ?_)
                    · have tc169 := q_le c169
                      obtain ⟨v_110, ev_110⟩ : ∃ y : Int32, y = att + 1 := ⟨_, rfl⟩
                      try have tv_110 := q_add ev_110 (by omega) (by omega)
                      refine lv_iinc (v := v_110) (lv' := [(5, .int v_110), (7, .int 0), (6, .int v_107), (4, .int top), (0, .ref lw), (1, .int a1), (2, .ref bw), (3, .int a2)]) hx hb dX3_ask_205 hl (k := 2) rfl (by rw [ev_110]; rfl) (by decide) rfl (fun ls hl => ?_)
                      refine lv_goto (tgt := 35) hx hb dX3_ask_208 (by decide) ?_
                      exact ih35 top v_110 rz_lk _ _ _ (by omega) (by omega) (by omega) (hP.sub [0, 1, 2, 3, 4, 5, 6] rfl) (hD.sub [0, 1, 2, 3, 4, 5, 6] (by decide) rfl) hS (lv_sub hl [0, 3, 4, 5, 6, 7] rfl)
                    · have tc169 := q_gtN c169
                      obtain ⟨v_111, ev_111⟩ : ∃ y : Int32, y = top + (-1) := ⟨_, rfl⟩
                      try have tv_111 := q_add ev_111 (by omega) (by omega)
                      refine lv_iinc (v := v_111) (lv' := [(4, .int v_111), (7, .int 0), (6, .int v_107), (5, .int att), (0, .ref lw), (1, .int a1), (2, .ref bw), (3, .int a2)]) hx hb dX3_ask_172 hl (k := 3) rfl (by rw [ev_111]; rfl) (by decide) rfl (fun ls hl => ?_)
                      refine lv_aload_n hx hb dX3_ask_175 rfl (lv_at hl 4 rfl) ?_
                      refine va_get (D := (dC, dI)) (ci := 3) (v := .ref lk) (C := RX3) (T := TX3) (N := 6) hx hb hts i_X3 hown hK hP 0 rfl rfl 2 (by decide) k_2 (fun _ h9 => h9) f_lf_2 dX3_ask_176 ?_
                      refine lv_iload hx hb dX3_ask_179 (lv_at hl 0 rfl) ?_
                      refine lv_iconst (v := 1) hx hb dX3_ask_181 (by decide) ?_
                      refine lv_isub hx hb dX3_ask_182 ?_
                      refine lv_topi (fun v_112 ev_112 => ?_)
                      try have tv_112 := q_sub ev_112 (by omega) (by omega)
                      refine lv_iload hx hb dX3_ask_183 (lv_at hl 2 rfl) ?_
                      refine lv_aload_n hx hb dX3_ask_185 rfl (lv_at hl 4 rfl) ?_
                      refine va_get (D := (dC, dI)) (ci := 3) (v := .ref lk) (C := RX3) (T := TX3) (N := 6) hx hb hts i_X3 hown hK hP 0 rfl rfl 2 (by decide) k_2 (fun _ h9 => h9) f_lf_2 dX3_ask_186 ?_
                      refine lv_iload hx hb dX3_ask_189 (lv_at hl 0 rfl) ?_
                      refine lv_iconst (v := 1) hx hb dX3_ask_191 (by decide) ?_
                      refine lv_isub hx hb dX3_ask_192 ?_
                      refine lv_topi (fun v_113 ev_113 => ?_)
                      try have tv_113 := q_sub ev_113 (by omega) (by omega)
                      refine va_iald hx hb hK hP 3 2 rfl rfl (q_in (by omega) (by omega)) dX3_ask_193 ?_
                      refine lv_topi (fun v_114 ev_114 => ?_)
                      have uv_114 : v_114.toInt = (rz_lk v_113.toNatClampNeg).toInt := by rw [ev_114]
                      refine lv_aload_n hx hb dX3_ask_194 rfl (lv_at hl 4 rfl) ?_
                      refine va_get (D := (dC, dI)) (ci := 3) (v := .ref lk) (C := RX3) (T := TX3) (N := 6) hx hb hts i_X3 hown hK hP 0 rfl rfl 2 (by decide) k_2 (fun _ h9 => h9) f_lf_2 dX3_ask_195 ?_
                      refine lv_iload hx hb dX3_ask_198 (lv_at hl 0 rfl) ?_
                      refine va_iald hx hb hK hP 3 2 rfl rfl (q_in (by omega) (by omega)) dX3_ask_200 ?_
                      refine lv_topi (fun v_115 ev_115 => ?_)
                      have uv_115 : v_115.toInt = (rz_lk v_111.toNatClampNeg).toInt := by rw [ev_115]
                      have hPc := hP.sub (ws' := []) [] rfl
                      have hDc := hD.sub (ws' := []) [] (by decide) rfl
                      have hKc := hK.sub (tys' := []) [] rfl
                      have hFc := va_free (wc := []) hD hS hA [] rfl
                      refine va_calli (va_runS (As := [.int v_107, .int v_114, .int v_115]) (rest := [.int v_112, .ref lk]) ⟨hx, hb, hml, hown, hts⟩ (d_join l dC dI H.size v_107 v_114 v_115) (va_cwS 3 hts (p1_gS m_7 m_8 m_9 g_d_join gz_d_join) rfl rfl rfl (by decide +kernel) ⟨by decide, by decide⟩) ⟨fun a U g mk q => by obtain ⟨q0, q1, qP, qK, qD⟩ := q; exact ⟨q0, q1, qP, va_K.moved (u := U) (U := U.calling g mk a) (Vm.Alike.refl U.vm) qK, qD⟩, fun U hU hW => ⟨rfl, by rw [hU], by rw [hU]; exact hPc, va_K.moved hW.alike hKc, hDc.weaken (fun _ _ _ _ => trivial)⟩⟩ rfl rfl hl.1 rfl (lv_room (Nat.le_of_ble_eq_true rfl)) dX3_ask_201 ⟨by decide, by decide⟩) hS (fun q _ h => hFc q h) hFc (fun r_116 u t H1 locs ht hvm hw hB hz1 hk1 hS => ?_)
                      obtain ⟨hP1, hK1, hD1⟩ := hB
                      rw [ht] at hP1
                      obtain ⟨hP, hD⟩ := va_join (wr := [(lw, .inr (3, lf)), (lc, .inl (cC, 600, .inl cf)), (lb, .inl (cB, 6, .inl bf)), (lk, .inl (cK, 60, .inl rz_lk)), (bw, .inr (0, bfs)), (tg, .inl (cT, 12, .inl tf)), (en, .inl (cE, 2, .inl ef))]) (w1 := []) hP hD [] [0, 1, 2, 3, 4, 5, 6] rfl rfl (by decide) (by decide) hk1 hFc hP1 hD1
                      generalize H1 = H at hP hS ⊢
                      have hP : va_P (dC, dI) vwCl [(lw, .inr (3, lf)), (lc, .inl (cC, 600, .inl cf)), (lb, .inl (cB, 6, .inl bf)), (lk, .inl (cK, 60, .inl rz_lk)), (bw, .inr (0, bfs)), (tg, .inl (cT, 12, .inl tf)), (en, .inl (cE, 2, .inl ef))] H := hP
                      have hD : va_D A [(lw, .inr (3, lf)), (lc, .inl (cC, 600, .inl cf)), (lb, .inl (cB, 6, .inl bf)), (lk, .inl (cK, 60, .inl rz_lk)), (bw, .inr (0, bfs)), (tg, .inl (cT, 12, .inl tf)), (en, .inl (cE, 2, .inl ef))] := hD
                      try dsimp only at hw
                      have hw_117 := hw
                      refine va_iast hx hb hK hP hD hS 3 2 rfl rfl (q_in (by omega) (by omega)) dX3_ask_204 (fun H locs hP hD hS => ?_)
                      have hP : va_P (dC, dI) vwCl [(lw, .inr (3, lf)), (lc, .inl (cC, 600, .inl cf)), (lb, .inl (cB, 6, .inl bf)), (lk, .inl (cK, 60, .inl (upd rz_lk v_112.toNatClampNeg r_116))), (bw, .inr (0, bfs)), (tg, .inl (cT, 12, .inl tf)), (en, .inl (cE, 2, .inl ef))] H := hP
                      have hD : va_D A [(lw, .inr (3, lf)), (lc, .inl (cC, 600, .inl cf)), (lb, .inl (cB, 6, .inl bf)), (lk, .inl (cK, 60, .inl (upd rz_lk v_112.toNatClampNeg r_116))), (bw, .inr (0, bfs)), (tg, .inl (cT, 12, .inl tf)), (en, .inl (cE, 2, .inl ef))] := hD
                      generalize eg_118 : (upd rz_lk v_112.toNatClampNeg r_116) = g_118 at hP hD
                      obtain ⟨v_119, ev_119⟩ : ∃ y : Int32, y = att + 1 := ⟨_, rfl⟩
                      try have tv_119 := q_add ev_119 (by omega) (by omega)
                      refine lv_iinc (v := v_119) (lv' := [(5, .int v_119), (4, .int v_111), (7, .int 0), (6, .int v_107), (0, .ref lw), (1, .int a1), (2, .ref bw), (3, .int a2)]) hx hb dX3_ask_205 hl (k := 3) rfl (by rw [ev_119]; rfl) (by decide) rfl (fun ls hl => ?_)
                      refine lv_goto (tgt := 35) hx hb dX3_ask_208 (by decide) ?_
                      exact ih35 v_111 v_119 g_118 _ _ _ (by omega) (by omega) (by omega) (hP.sub [0, 1, 2, 3, 4, 5, 6] rfl) (hD.sub [0, 1, 2, 3, 4, 5, 6] (by decide) rfl) hS (lv_sub hl [0, 1, 4, 5, 6, 7] rfl)
                  · have tc129 := q_eqN c129
                    refine lv_iload hx hb dX3_ask_132 (lv_at hl 3 rfl) ?_
                    refine lv_if_le (tgt := 205) hx hb dX3_ask_134 (by decide) (fun c134 => ?_) (fun c134 => ?_)
                    · have tc134 := q_le c134
                      obtain ⟨v_120, ev_120⟩ : ∃ y : Int32, y = att + 1 := ⟨_, rfl⟩
                      try have tv_120 := q_add ev_120 (by omega) (by omega)
                      refine lv_iinc (v := v_120) (lv' := [(5, .int v_120), (7, .int 0), (6, .int v_107), (4, .int top), (0, .ref lw), (1, .int a1), (2, .ref bw), (3, .int a2)]) hx hb dX3_ask_205 hl (k := 2) rfl (by rw [ev_120]; rfl) (by decide) rfl (fun ls hl => ?_)
                      refine lv_goto (tgt := 35) hx hb dX3_ask_208 (by decide) ?_
                      exact ih35 top v_120 rz_lk _ _ _ (by omega) (by omega) (by omega) (hP.sub [0, 1, 2, 3, 4, 5, 6] rfl) (hD.sub [0, 1, 2, 3, 4, 5, 6] (by decide) rfl) hS (lv_sub hl [0, 3, 4, 5, 6, 7] rfl)
                    · have tc134 := q_gtN c134
                      refine lv_aload_n hx hb dX3_ask_137 rfl (lv_at hl 4 rfl) ?_
                      refine va_get (D := (dC, dI)) (ci := 3) (v := .ref lk) (C := RX3) (T := TX3) (N := 6) hx hb hts i_X3 hown hK hP 0 rfl rfl 2 (by decide) k_2 (fun _ h9 => h9) f_lf_2 dX3_ask_138 ?_
                      refine lv_iload hx hb dX3_ask_141 (lv_at hl 3 rfl) ?_
                      refine lv_iconst (v := 1) hx hb dX3_ask_143 (by decide) ?_
                      refine lv_isub hx hb dX3_ask_144 ?_
                      refine lv_topi (fun v_121 ev_121 => ?_)
                      try have tv_121 := q_sub ev_121 (by omega) (by omega)
                      refine lv_aload_n hx hb dX3_ask_145 rfl (lv_at hl 4 rfl) ?_
                      refine va_get (D := (dC, dI)) (ci := 3) (v := .ref lk) (C := RX3) (T := TX3) (N := 6) hx hb hts i_X3 hown hK hP 0 rfl rfl 2 (by decide) k_2 (fun _ h9 => h9) f_lf_2 dX3_ask_146 ?_
                      refine lv_iload hx hb dX3_ask_149 (lv_at hl 3 rfl) ?_
                      refine lv_iconst (v := 1) hx hb dX3_ask_151 (by decide) ?_
                      refine lv_isub hx hb dX3_ask_152 ?_
                      refine lv_topi (fun v_122 ev_122 => ?_)
                      try have tv_122 := q_sub ev_122 (by omega) (by omega)
                      refine va_iald hx hb hK hP 3 2 rfl rfl (q_in (by omega) (by omega)) dX3_ask_153 ?_
                      refine lv_topi (fun v_123 ev_123 => ?_)
                      have uv_123 : v_123.toInt = (rz_lk v_122.toNatClampNeg).toInt := by rw [ev_123]
                      refine lv_if_ne (tgt := 161) hx hb dX3_ask_154 (by decide) (fun c154 => ?_) (fun c154 => ?_)
                      · have tc154 := q_ne c154
                        refine lv_iconst (v := 0) hx hb dX3_ask_161 (by decide) ?_
                        refine va_iast hx hb hK hP hD hS 3 2 rfl rfl (q_in (by omega) (by omega)) dX3_ask_162 (fun H locs hP hD hS => ?_)
                        have hP : va_P (dC, dI) vwCl [(lw, .inr (3, lf)), (lc, .inl (cC, 600, .inl cf)), (lb, .inl (cB, 6, .inl bf)), (lk, .inl (cK, 60, .inl (upd rz_lk v_121.toNatClampNeg 0))), (bw, .inr (0, bfs)), (tg, .inl (cT, 12, .inl tf)), (en, .inl (cE, 2, .inl ef))] H := hP
                        have hD : va_D A [(lw, .inr (3, lf)), (lc, .inl (cC, 600, .inl cf)), (lb, .inl (cB, 6, .inl bf)), (lk, .inl (cK, 60, .inl (upd rz_lk v_121.toNatClampNeg 0))), (bw, .inr (0, bfs)), (tg, .inl (cT, 12, .inl tf)), (en, .inl (cE, 2, .inl ef))] := hD
                        generalize eg_124 : (upd rz_lk v_121.toNatClampNeg 0) = g_124 at hP hD
                        refine lv_goto (tgt := 205) hx hb dX3_ask_163 (by decide) ?_
                        obtain ⟨v_125, ev_125⟩ : ∃ y : Int32, y = att + 1 := ⟨_, rfl⟩
                        try have tv_125 := q_add ev_125 (by omega) (by omega)
                        refine lv_iinc (v := v_125) (lv' := [(5, .int v_125), (7, .int 0), (6, .int v_107), (4, .int top), (0, .ref lw), (1, .int a1), (2, .ref bw), (3, .int a2)]) hx hb dX3_ask_205 hl (k := 2) rfl (by rw [ev_125]; rfl) (by decide) rfl (fun ls hl => ?_)
                        refine lv_goto (tgt := 35) hx hb dX3_ask_208 (by decide) ?_
                        exact ih35 top v_125 g_124 _ _ _ (by omega) (by omega) (by omega) (hP.sub [0, 1, 2, 3, 4, 5, 6] rfl) (hD.sub [0, 1, 2, 3, 4, 5, 6] (by decide) rfl) hS (lv_sub hl [0, 3, 4, 5, 6, 7] rfl)
                      · have tc154 := q_eqN c154
                        refine lv_iconst (v := 1) hx hb dX3_ask_157 (by decide) ?_
                        refine lv_goto (tgt := 162) hx hb dX3_ask_158 (by decide) ?_
                        refine va_iast hx hb hK hP hD hS 3 2 rfl rfl (q_in (by omega) (by omega)) dX3_ask_162 (fun H locs hP hD hS => ?_)
                        have hP : va_P (dC, dI) vwCl [(lw, .inr (3, lf)), (lc, .inl (cC, 600, .inl cf)), (lb, .inl (cB, 6, .inl bf)), (lk, .inl (cK, 60, .inl (upd rz_lk v_121.toNatClampNeg 1))), (bw, .inr (0, bfs)), (tg, .inl (cT, 12, .inl tf)), (en, .inl (cE, 2, .inl ef))] H := hP
                        have hD : va_D A [(lw, .inr (3, lf)), (lc, .inl (cC, 600, .inl cf)), (lb, .inl (cB, 6, .inl bf)), (lk, .inl (cK, 60, .inl (upd rz_lk v_121.toNatClampNeg 1))), (bw, .inr (0, bfs)), (tg, .inl (cT, 12, .inl tf)), (en, .inl (cE, 2, .inl ef))] := hD
                        generalize eg_126 : (upd rz_lk v_121.toNatClampNeg 1) = g_126 at hP hD
                        refine lv_goto (tgt := 205) hx hb dX3_ask_163 (by decide) ?_
                        obtain ⟨v_127, ev_127⟩ : ∃ y : Int32, y = att + 1 := ⟨_, rfl⟩
                        try have tv_127 := q_add ev_127 (by omega) (by omega)
                        refine lv_iinc (v := v_127) (lv' := [(5, .int v_127), (7, .int 0), (6, .int v_107), (4, .int top), (0, .ref lw), (1, .int a1), (2, .ref bw), (3, .int a2)]) hx hb dX3_ask_205 hl (k := 2) rfl (by rw [ev_127]; rfl) (by decide) rfl (fun ls hl => ?_)
                        refine lv_goto (tgt := 35) hx hb dX3_ask_208 (by decide) ?_
                        exact ih35 top v_127 g_126 _ _ _ (by omega) (by omega) (by omega) (hP.sub [0, 1, 2, 3, 4, 5, 6] rfl) (hD.sub [0, 1, 2, 3, 4, 5, 6] (by decide) rfl) hS (lv_sub hl [0, 3, 4, 5, 6, 7] rfl)
                · have tc80 := q_neN c80
                  refine lv_iload hx hb dX3_ask_83 (lv_at hl 3 rfl) ?_
                  refine lv_bipush (v := 60) hx hb dX3_ask_85 (by decide) ?_
                  refine lv_icmp_ge (tgt := 205) hx hb dX3_ask_87 (by decide) (fun c87 => ?_) (fun c87 => ?_)
                  · have tc87 := q_ge c87
                    obtain ⟨v_128, ev_128⟩ : ∃ y : Int32, y = att + 1 := ⟨_, rfl⟩
                    try have tv_128 := q_add ev_128 (by omega) (by omega)
                    refine lv_iinc (v := v_128) (lv' := [(5, .int v_128), (7, .int 0), (6, .int v_107), (4, .int top), (0, .ref lw), (1, .int a1), (2, .ref bw), (3, .int a2)]) hx hb dX3_ask_205 hl (k := 2) rfl (by rw [ev_128]; rfl) (by decide) rfl (fun ls hl => ?_)
                    refine lv_goto (tgt := 35) hx hb dX3_ask_208 (by decide) ?_
                    exact ih35 top v_128 rz_lk _ _ _ (by omega) (by omega) (by omega) (hP.sub [0, 1, 2, 3, 4, 5, 6] rfl) (hD.sub [0, 1, 2, 3, 4, 5, 6] (by decide) rfl) hS (lv_sub hl [0, 3, 4, 5, 6, 7] rfl)
                  · have tc87 := q_ltN c87
                    refine lv_aload_n hx hb dX3_ask_90 rfl (lv_at hl 4 rfl) ?_
                    refine va_get (D := (dC, dI)) (ci := 3) (v := .ref lk) (C := RX3) (T := TX3) (N := 6) hx hb hts i_X3 hown hK hP 0 rfl rfl 2 (by decide) k_2 (fun _ h9 => h9) f_lf_2 dX3_ask_91 ?_
                    refine lv_iload hx hb dX3_ask_94 (lv_at hl 3 rfl) ?_
                    refine lv_iload hx hb dX3_ask_96 (lv_at hl 0 rfl) ?_
                    refine lv_if_eq (tgt := 110) hx hb dX3_ask_98 (by decide) (fun _ => ?_) (fun c9 => absurd c9 (by decide))
                    refine lv_aload_n hx hb dX3_ask_110 rfl (lv_at hl 6 rfl) ?_
                    refine lv_iload hx hb dX3_ask_111 (lv_at hl 1 rfl) ?_
                    refine lv_iload_n hx hb dX3_ask_113 rfl (lv_at hl 7 rfl) ?_
                    have hPc := hP.sub (ws' := [(bw, .inr (0, bfs)), (tg, .inl (cT, 12, .inl tf)), (en, .inl (cE, 2, .inl ef))]) [4, 5, 6] rfl
                    have hDc := hD.sub (ws' := [(bw, .inr (0, bfs)), (tg, .inl (cT, 12, .inl tf)), (en, .inl (cE, 2, .inl ef))]) [4, 5, 6] (by decide) rfl
                    have hKc := hK.sub (tys' := [(cT, .int), (cE, .int)]) [3, 4] rfl
                    have hFc := va_free (wc := [(bw, .inr (0, bfs)), (tg, .inl (cT, 12, .inl tf)), (en, .inl (cE, 2, .inl ef))]) hD hS hA [4, 5, 6] rfl
                    refine va_calli (va_runV (As := [.int v_107, .int a2]) (rest := [.int top, .ref lk]) ⟨hx, hb, hml, hown, hts⟩ (d_tell l dC dI H.size bw bfs tg en bcrossings bleft bsteps bslipped bwalk bnextStep bsides blikes bsmooth bweight blength bstrike bswing cT tf cE ef v_107 a2 f_bfs_0 f_bfs_1 f_bfs_2 f_bfs_3 f_bfs_4 f_bfs_5 f_bfs_6 f_bfs_7 f_bfs_8 f_bfs_9 f_bfs_10 f_bfs_11 f_bfs_12 f_bfs_13 f_bfs_14 ((by omega))) (cwV 2 hts (p1_gV m_10 m_11 m_12 m_13 g_d_tell gz_d_tell) rfl rfl rfl (by decide +kernel) ⟨by decide, by decide⟩) ⟨fun a U g mk q => by obtain ⟨q0, q1, qP, qK, qD⟩ := q; exact ⟨q0, q1, qP, va_K.moved (u := U) (U := U.calling g mk a) (Vm.Alike.refl U.vm) qK, qD⟩, va_recv hKc hPc (ci := 0) (q0 := 0) rfl rfl, fun U hU hW => ⟨rfl, by rw [hU], by rw [hU]; exact hPc, va_K.moved hW.alike hKc, hDc.weaken (fun _ _ _ _ => trivial)⟩⟩ rfl rfl hl.1 rfl (lv_room (Nat.le_of_ble_eq_true rfl)) dX3_ask_114 ⟨by decide, by decide⟩) hS (fun q _ h => hFc q h) hFc (fun r_129 u t H1 locs ht hvm hw hB hz1 hk1 hS => ?_)
                    obtain ⟨hP1, hK1, hD1⟩ := hB
                    rw [ht] at hP1
                    obtain ⟨hP, hD⟩ := va_join (wr := [(lw, .inr (3, lf)), (lc, .inl (cC, 600, .inl cf)), (lb, .inl (cB, 6, .inl bf)), (lk, .inl (cK, 60, .inl rz_lk))]) (w1 := [(bw, .inr (0, bfs)), (tg, .inl (cT, 12, .inl tf)), (en, .inl (cE, 2, .inl ef))]) hP hD [4, 5, 6] [0, 1, 2, 3] rfl rfl (by decide) (by decide) hk1 hFc hP1 hD1
                    generalize H1 = H at hP hS ⊢
                    have hP : va_P (dC, dI) vwCl [(lw, .inr (3, lf)), (lc, .inl (cC, 600, .inl cf)), (lb, .inl (cB, 6, .inl bf)), (lk, .inl (cK, 60, .inl rz_lk)), (bw, .inr (0, bfs)), (tg, .inl (cT, 12, .inl tf)), (en, .inl (cE, 2, .inl ef))] H := hP
                    have hD : va_D A [(lw, .inr (3, lf)), (lc, .inl (cC, 600, .inl cf)), (lb, .inl (cB, 6, .inl bf)), (lk, .inl (cK, 60, .inl rz_lk)), (bw, .inr (0, bfs)), (tg, .inl (cT, 12, .inl tf)), (en, .inl (cE, 2, .inl ef))] := hD
                    try dsimp only at hw
                    have hw_130 := hw
                    refine va_iast hx hb hK hP hD hS 3 2 rfl rfl (q_in (by omega) (by omega)) dX3_ask_117 (fun H locs hP hD hS => ?_)
                    have hP : va_P (dC, dI) vwCl [(lw, .inr (3, lf)), (lc, .inl (cC, 600, .inl cf)), (lb, .inl (cB, 6, .inl bf)), (lk, .inl (cK, 60, .inl (upd rz_lk top.toNatClampNeg r_129))), (bw, .inr (0, bfs)), (tg, .inl (cT, 12, .inl tf)), (en, .inl (cE, 2, .inl ef))] H := hP
                    have hD : va_D A [(lw, .inr (3, lf)), (lc, .inl (cC, 600, .inl cf)), (lb, .inl (cB, 6, .inl bf)), (lk, .inl (cK, 60, .inl (upd rz_lk top.toNatClampNeg r_129))), (bw, .inr (0, bfs)), (tg, .inl (cT, 12, .inl tf)), (en, .inl (cE, 2, .inl ef))] := hD
                    generalize eg_131 : (upd rz_lk top.toNatClampNeg r_129) = g_131 at hP hD
                    obtain ⟨v_132, ev_132⟩ : ∃ y : Int32, y = top + 1 := ⟨_, rfl⟩
                    try have tv_132 := q_add ev_132 (by omega) (by omega)
                    refine lv_iinc (v := v_132) (lv' := [(4, .int v_132), (7, .int 0), (6, .int v_107), (5, .int att), (0, .ref lw), (1, .int a1), (2, .ref bw), (3, .int a2)]) hx hb dX3_ask_118 hl (k := 3) rfl (by rw [ev_132]; rfl) (by decide) rfl (fun ls hl => ?_)
                    refine lv_goto (tgt := 205) hx hb dX3_ask_121 (by decide) ?_
                    obtain ⟨v_133, ev_133⟩ : ∃ y : Int32, y = att + 1 := ⟨_, rfl⟩
                    try have tv_133 := q_add ev_133 (by omega) (by omega)
                    refine lv_iinc (v := v_133) (lv' := [(5, .int v_133), (4, .int v_132), (7, .int 0), (6, .int v_107), (0, .ref lw), (1, .int a1), (2, .ref bw), (3, .int a2)]) hx hb dX3_ask_205 hl (k := 3) rfl (by rw [ev_133]; rfl) (by decide) rfl (fun ls hl => ?_)
                    refine lv_goto (tgt := 35) hx hb dX3_ask_208 (by decide) ?_
                    exact ih35 v_132 v_133 g_131 _ _ _ (by omega) (by omega) (by omega) (hP.sub [0, 1, 2, 3, 4, 5, 6] rfl) (hD.sub [0, 1, 2, 3, 4, 5, 6] (by decide) rfl) hS (lv_sub hl [0, 1, 4, 5, 6, 7] rfl)
              · have tc60 := q_geN c60
                refine lv_iconst (v := 1) hx hb dX3_ask_63 (by decide) ?_
                refine lv_goto (tgt := 68) hx hb dX3_ask_64 (by decide) ?_
                refine lv_istore (lv' := [(7, .int 1), (6, .int v_107), (5, .int att), (4, .int top), (0, .ref lw), (1, .int a1), (2, .ref bw), (3, .int a2)]) hx hb dX3_ask_68 hl (by decide) rfl (fun ls hl => ?_)
                refine lv_iload hx hb dX3_ask_70 (lv_at hl 0 rfl) ?_
                refine lv_if_ne (tgt := 83) hx hb dX3_ask_72 (by decide) (fun _ => ?_) (fun c9 => absurd c9 (by decide))
                refine lv_iload hx hb dX3_ask_83 (lv_at hl 3 rfl) ?_
                refine lv_bipush (v := 60) hx hb dX3_ask_85 (by decide) ?_
                refine lv_icmp_ge (tgt := 205) hx hb dX3_ask_87 (by decide) (fun c87 => ?_) (fun c87 => ?_)
                · have tc87 := q_ge c87
                  obtain ⟨v_134, ev_134⟩ : ∃ y : Int32, y = att + 1 := ⟨_, rfl⟩
                  try have tv_134 := q_add ev_134 (by omega) (by omega)
                  refine lv_iinc (v := v_134) (lv' := [(5, .int v_134), (7, .int 1), (6, .int v_107), (4, .int top), (0, .ref lw), (1, .int a1), (2, .ref bw), (3, .int a2)]) hx hb dX3_ask_205 hl (k := 2) rfl (by rw [ev_134]; rfl) (by decide) rfl (fun ls hl => ?_)
                  refine lv_goto (tgt := 35) hx hb dX3_ask_208 (by decide) ?_
                  exact ih35 top v_134 rz_lk _ _ _ (by omega) (by omega) (by omega) (hP.sub [0, 1, 2, 3, 4, 5, 6] rfl) (hD.sub [0, 1, 2, 3, 4, 5, 6] (by decide) rfl) hS (lv_sub hl [0, 3, 4, 5, 6, 7] rfl)
                · have tc87 := q_ltN c87
                  refine lv_aload_n hx hb dX3_ask_90 rfl (lv_at hl 4 rfl) ?_
                  refine va_get (D := (dC, dI)) (ci := 3) (v := .ref lk) (C := RX3) (T := TX3) (N := 6) hx hb hts i_X3 hown hK hP 0 rfl rfl 2 (by decide) k_2 (fun _ h9 => h9) f_lf_2 dX3_ask_91 ?_
                  refine lv_iload hx hb dX3_ask_94 (lv_at hl 3 rfl) ?_
                  refine lv_iload hx hb dX3_ask_96 (lv_at hl 0 rfl) ?_
                  refine lv_if_eq (tgt := 110) hx hb dX3_ask_98 (by decide) (fun c9 => absurd c9 (by decide)) (fun _ => ?_)
                  refine lv_iload hx hb dX3_ask_101 (lv_at hl 1 rfl) ?_
                  refine lv_sipush (v := 1000) hx hb dX3_ask_103 (by decide) ?_
                  refine lv_isub hx hb dX3_ask_106 ?_
                  refine lv_topi (fun v_135 ev_135 => ?_)
                  try have tv_135 := q_sub ev_135 (by omega) (by omega)
                  refine lv_goto (tgt := 117) hx hb dX3_ask_107 (by decide) ?_
                  refine va_iast hx hb hK hP hD hS 3 2 rfl rfl (q_in (by omega) (by omega)) dX3_ask_117 (fun H locs hP hD hS => ?_)
                  have hP : va_P (dC, dI) vwCl [(lw, .inr (3, lf)), (lc, .inl (cC, 600, .inl cf)), (lb, .inl (cB, 6, .inl bf)), (lk, .inl (cK, 60, .inl (upd rz_lk top.toNatClampNeg v_135))), (bw, .inr (0, bfs)), (tg, .inl (cT, 12, .inl tf)), (en, .inl (cE, 2, .inl ef))] H := hP
                  have hD : va_D A [(lw, .inr (3, lf)), (lc, .inl (cC, 600, .inl cf)), (lb, .inl (cB, 6, .inl bf)), (lk, .inl (cK, 60, .inl (upd rz_lk top.toNatClampNeg v_135))), (bw, .inr (0, bfs)), (tg, .inl (cT, 12, .inl tf)), (en, .inl (cE, 2, .inl ef))] := hD
                  generalize eg_136 : (upd rz_lk top.toNatClampNeg v_135) = g_136 at hP hD
                  obtain ⟨v_137, ev_137⟩ : ∃ y : Int32, y = top + 1 := ⟨_, rfl⟩
                  try have tv_137 := q_add ev_137 (by omega) (by omega)
                  refine lv_iinc (v := v_137) (lv' := [(4, .int v_137), (7, .int 1), (6, .int v_107), (5, .int att), (0, .ref lw), (1, .int a1), (2, .ref bw), (3, .int a2)]) hx hb dX3_ask_118 hl (k := 3) rfl (by rw [ev_137]; rfl) (by decide) rfl (fun ls hl => ?_)
                  refine lv_goto (tgt := 205) hx hb dX3_ask_121 (by decide) ?_
                  obtain ⟨v_138, ev_138⟩ : ∃ y : Int32, y = att + 1 := ⟨_, rfl⟩
                  try have tv_138 := q_add ev_138 (by omega) (by omega)
                  refine lv_iinc (v := v_138) (lv' := [(5, .int v_138), (4, .int v_137), (7, .int 1), (6, .int v_107), (0, .ref lw), (1, .int a1), (2, .ref bw), (3, .int a2)]) hx hb dX3_ask_205 hl (k := 3) rfl (by rw [ev_138]; rfl) (by decide) rfl (fun ls hl => ?_)
                  refine lv_goto (tgt := 35) hx hb dX3_ask_208 (by decide) ?_
                  exact ih35 v_137 v_138 g_136 _ _ _ (by omega) (by omega) (by omega) (hP.sub [0, 1, 2, 3, 4, 5, 6] rfl) (hD.sub [0, 1, 2, 3, 4, 5, 6] (by decide) rfl) hS (lv_sub hl [0, 1, 4, 5, 6, 7] rfl)
        exact key35 600 0 0 kf _ _ _ (by omega) (by omega) (by omega) hP hD hS (lv_sub hl [0, 1, 2, 3, 4, 5] rfl)
    · have tc9 := q_geN c9
      refine lv_iconst (v := 0) hx hb dX3_ask_12 (by decide) ?_
      have hP9 := hP.sub (ws' := [(lw, .inr (3, lf)), (lc, .inl (cC, 600, .inl cf)), (lb, .inl (cB, 6, .inl bf)), (lk, .inl (cK, 60, .inl kf)), (bw, .inr (0, bfs)), (tg, .inl (cT, 12, .inl tf)), (en, .inl (cE, 2, .inl ef))]) [0, 1, 2, 3, 4, 5, 6] rfl
      have hD9 := hD.sub (ws' := [(lw, .inr (3, lf)), (lc, .inl (cC, 600, .inl cf)), (lb, .inl (cB, 6, .inl bf)), (lk, .inl (cK, 60, .inl kf)), (bw, .inr (0, bfs)), (tg, .inl (cT, 12, .inl tf)), (en, .inl (cE, 2, .inl ef))]) [0, 1, 2, 3, 4, 5, 6] (by decide) rfl
      have hK9 := hK.sub (tys' := []) [] rfl
      exact W.iret (v := 0) hx hb hr (fun t ht hW => ⟨⟨0, (), rfl, trivial, kf, f_lf_0, f_lf_1, f_lf_2, f_lf_3, f_lf_4, f_lf_5, f_bfs_0, f_bfs_1, f_bfs_2, f_bfs_3, f_bfs_4, f_bfs_5, f_bfs_6, f_bfs_7, f_bfs_8, f_bfs_9, f_bfs_10, f_bfs_11, f_bfs_12, f_bfs_13, f_bfs_14, hr_bf, by rw [ht]; exact hP9, va_K.moved hW.alike hK9, hD9⟩, hS.F ht⟩) hS.2.2 dX3_ask_13
