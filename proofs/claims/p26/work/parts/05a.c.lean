def zo_t_likeBits : List Cond := [.code yX0_likeBits cX0_likeBits 3 (some .int)]
def zw_t_likeBits : List Cond := zo_t_likeBits ++ []
theorem gz_t_likeBits : zw_t_likeBits.all goodWord = true := p1_ga (by decide +kernel) p1_g0
theorem iz_t_likeBits : ∀ w ∈ zw_t_likeBits, w ∈ lw_tbl := p1_ia (p1_all [720] (by decide +kernel)) p1_i0
def zW_t_likeBits : va_W := []
def zT_t_likeBits : List (ClassId × FieldType) := []
def zA_t_likeBits : List Nat := []
theorem za_t_likeBits : (zW_t_likeBits).map Prod.fst = zA_t_likeBits := rfl
def zG_t_likeBits (a0 : Int32) (a1 : Int32) (r : Int32) (X : va_W → Prop) : Prop := X (zW_t_likeBits)
theorem zm_t_likeBits {a0 : Int32} {a1 : Int32} : ∀ (r : Int32), ∀ X Y : va_W → Prop, (∀ w, X w → Y w) → zG_t_likeBits a0 a1 r X → zG_t_likeBits a0 a1 r Y := fun r X Y h h1 => h _ h1
set_option maxHeartbeats 4000000 in
set_option maxRecDepth 100000 in
theorem t_likeBits (l : Launch) (dC : Nat → ClassId) (dI : Nat → Nat → Nat) (sz : Nat) (a0 : Int32) (a1 : Int32) : Met l yX0_likeBits zw_t_likeBits ({ frames := 0, cells := 0, slots := 0, locals := 0 }) (va_Pc [.int a0, .int a1] (q_pre (dC, dI) (zW_t_likeBits) (zT_t_likeBits) q_E0 sz)) (q_Qi (dC, dI) (zG_t_likeBits a0 a1) zA_t_likeBits (va_A (zW_t_likeBits) sz)) 0 0 (va_A (zW_t_likeBits) sz) := by
  refine Met.ofW (cc := cX0_likeBits) (maxL := 3) (ret := (some .int)) (by decide) rfl ?_
  intro p e s m args below meth c s₁ B hml hv
  obtain ⟨rfl, hsz, hP, hK, hD0, hE⟩ := hv
  have hx := B.exec
  have hb := B.bytes
  have hr := B.returns
  have hts := atoms_spec (ws := zw_t_likeBits) B.pre
  have hown : s.vm.findClass RX0 = some m.cls := findClass_of_methodNamed B.named
  have hlocks := B.notSynchronized
  subst hsz
  have hD := hD0.self (sz := s.heap.size)
  generalize hAe : va_A (zW_t_likeBits) s.heap.size = A at hD hE ⊢
  have hA : ∀ q : Nat, s.heap.size ≤ q → A q := fun q h => by rw [← hAe]; exact Or.inr h
  have hDa : q_DA A zA_t_likeBits := q_DA.mk hD za_t_likeBits
  clear hAe hD0 hD
  have hS : va_S A s.heap s.heap [] := va_S.rf
  have lt_m1 : ((-1) : Int32).toInt = -1 := by decide
  have lt_1 : (1 : Int32).toInt = 1 := by decide
  have lt_2 : (2 : Int32).toInt = 2 := by decide
  have hl := lv_entry ([.int a0, .int a1]) (n := 3) (Nat.le_of_ble_eq_true rfl)
  rw [lg_entry_eq]
  generalize (lg_sl ([.int a0, .int a1]) ++ List.replicate (3 - (lg_sl ([.int a0, .int a1])).length) Slot.unset).toArray = ls at hl ⊢
  have hl : lv_has ls 3 [(0, .int a0), (1, .int a1)] := hl
  refine lv_iconst (v := 1) hx hb dX0_likeBits_0 (by decide) (lv_iload_n hx hb dX0_likeBits_1 rfl (lv_at hl 0 rfl) (lv_ishl hx hb dX0_likeBits_2 (lv_topi fun v_1 ev_1 => lv_iconst (v := 2) hx hb dX0_likeBits_3 (by decide) (lv_isub hx hb dX0_likeBits_4 (lv_topi fun v_2 ev_2 => lv_istore_n (lv' := [(2, .int v_2), (0, .int a0), (1, .int a1)]) hx hb dX0_likeBits_5 rfl hl (by decide) rfl (fun ls hl => ?_))))))
  refine lv_iload_n hx hb dX0_likeBits_6 rfl (lv_at hl 2 rfl) (lv_iload_n hx hb dX0_likeBits_7 rfl (lv_at hl 2 rfl) (lv_iconst (v := 1) hx hb dX0_likeBits_8 (by decide) (lv_ishl hx hb dX0_likeBits_9 (lv_topi fun v_3 ev_3 => lv_ixor hx hb dX0_likeBits_10 (lv_topi fun v_4 ev_4 => lv_iconst (v := (-1)) hx hb dX0_likeBits_11 (by decide) (lv_ixor hx hb dX0_likeBits_12 (lv_topi fun v_5 ev_5 => lv_iload_n hx hb dX0_likeBits_13 rfl (lv_at hl 0 rfl) ?_)))))))
  refine lv_iand hx hb dX0_likeBits_14 (lv_topi fun v_6 ev_6 => ?_)
  exact q_iret hx hb hr hlocks hS dX0_likeBits_15 ⟨hP, za_t_likeBits⟩
def zo_t_takeKnot : List Cond := [.code yX0_takeKnot cX0_takeKnot 3 none, .methodLink RX0 60 Lib.Math.min.name, .static Lib.Math.min.name, .initialized "java/lang/Math", .code Lib.Math.min.name Lib.Math.min.code 2 (some .int), .fieldLink RX0 20 "BowWalk$Bow" "crossings" "I", .fieldLink RX0 39 "BowWalk$Bow" "sides" "I", .methodLink RX0 66 yX0_likeBits, .static yX0_likeBits, .initialized RX0, .fieldLink RX0 42 "BowWalk$Bow" "likes" "I"]
def zw_t_takeKnot : List Cond := zo_t_takeKnot ++ (zw_t_likeBits ++ (wsX00 ++ []))
theorem gz_t_takeKnot : zw_t_takeKnot.all goodWord = true := p1_ga (by decide +kernel) (p1_ga gz_t_likeBits (p1_ga gk_X0 p1_g0))
theorem iz_t_takeKnot : ∀ w ∈ zw_t_takeKnot, w ∈ lw_tbl := p1_ia (p1_all [734, 735, 563, 117, 564, 355, 368, 736, 719, 112, 369] (by decide +kernel)) (p1_ia iz_t_likeBits (p1_ia ik_X0 p1_i0))
def zW_t_takeKnot (p0 : Nat) (f_p0 : List Value) : va_W := [(p0, .inr (0, f_p0))]
def zT_t_takeKnot : List (ClassId × FieldType) := []
def zA_t_takeKnot (p0 : Nat) : List Nat := [p0]
theorem za_t_takeKnot {p0 : Nat} {f_p0 : List Value} : (zW_t_takeKnot p0 f_p0).map Prod.fst = (zA_t_takeKnot p0) := rfl
def zG_t_takeKnot (p0 : Nat) (f_p0 : List Value) (a1 : Int32) (a2 : Int32) (X : va_W → Prop) : Prop := ∃ (y_p0 : List Value), OKX0 y_p0 ∧ q_fr [2, 8, 9] f_p0 y_p0 ∧ X (zW_t_takeKnot p0 y_p0)
theorem zm_t_takeKnot {p0 : Nat} {f_p0 : List Value} {a1 : Int32} {a2 : Int32} : ∀ X Y : va_W → Prop, (∀ w, X w → Y w) → zG_t_takeKnot p0 f_p0 a1 a2 X → zG_t_takeKnot p0 f_p0 a1 a2 Y := fun X Y h h1 => by obtain ⟨x0, x1, x2, hx⟩ := h1; exact ⟨x0, x1, x2, h _ hx⟩
set_option maxHeartbeats 4000000 in
set_option maxRecDepth 100000 in
theorem t_takeKnot (l : Launch) (dC : Nat → ClassId) (dI : Nat → Nat → Nat) (sz : Nat) (p0 : Nat) (f_p0 : List Value) (a1 : Int32) (a2 : Int32) (ho_p0 : OKX0 f_p0) (ta1 : (0) ≤ a1.toInt ∧ a1.toInt ≤ 2147483647) : Met l yX0_takeKnot zw_t_takeKnot ({ frames := 1, cells := 0, slots := 0, locals := 22 }) (va_Pc [.ref p0, .int a1, .int a2] (q_pre (dC, dI) (zW_t_takeKnot p0 f_p0) (zT_t_takeKnot) q_E0 sz)) (q_Qv (dC, dI) (zG_t_takeKnot p0 f_p0 a1 a2) (zA_t_takeKnot p0) (va_A (zW_t_takeKnot p0 f_p0) sz)) 0 0 (va_A (zW_t_takeKnot p0 f_p0) sz) := by
  refine Met.ofW (cc := cX0_takeKnot) (maxL := 3) (ret := none) (by decide) rfl ?_
  intro p e s m args below meth c s₁ B hml hv
  obtain ⟨rfl, hsz, hP, hK, hD0, hE⟩ := hv
  have hx := B.exec
  have hb := B.bytes
  have hr := B.returns
  have hts := atoms_spec (ws := zw_t_takeKnot) B.pre
  have hown : s.vm.findClass RX0 = some m.cls := findClass_of_methodNamed B.named
  have hlocks := B.notSynchronized
  subst hsz
  have hD := hD0.self (sz := s.heap.size)
  generalize hAe : va_A (zW_t_takeKnot p0 f_p0) s.heap.size = A at hD hE ⊢
  have hA : ∀ q : Nat, s.heap.size ≤ q → A q := fun q h => by rw [← hAe]; exact Or.inr h
  have hDa : q_DA A (zA_t_takeKnot p0) := q_DA.mk hD za_t_takeKnot
  clear hAe hD0 hD
  have hS : va_S A s.heap s.heap [] := va_S.rf
  have m_0 : (.methodLink RX0 60 Lib.Math.min.name : Cond) ∈ zw_t_takeKnot := List.mem_append_left _ (List.mem_of_getElem? (i := 1) rfl)
  have k_0 := hts _ m_0
  have m_1 : (.static Lib.Math.min.name : Cond) ∈ zw_t_takeKnot := List.mem_append_left _ (List.mem_of_getElem? (i := 2) rfl)
  have k_1 := hts _ m_1
  have m_2 : (.initialized "java/lang/Math" : Cond) ∈ zw_t_takeKnot := List.mem_append_left _ (List.mem_of_getElem? (i := 3) rfl)
  have k_2 := hts _ m_2
  have m_3 : (.code Lib.Math.min.name Lib.Math.min.code 2 (some .int) : Cond) ∈ zw_t_takeKnot := List.mem_append_left _ (List.mem_of_getElem? (i := 4) rfl)
  have k_3 := hts _ m_3
  have m_4 : (.fieldLink RX0 20 "BowWalk$Bow" "crossings" "I" : Cond) ∈ zw_t_takeKnot := List.mem_append_left _ (List.mem_of_getElem? (i := 5) rfl)
  have k_4 := hts _ m_4
  have m_5 : (.fieldLink RX0 39 "BowWalk$Bow" "sides" "I" : Cond) ∈ zw_t_takeKnot := List.mem_append_left _ (List.mem_of_getElem? (i := 6) rfl)
  have k_5 := hts _ m_5
  have m_6 : (.methodLink RX0 66 yX0_likeBits : Cond) ∈ zw_t_takeKnot := List.mem_append_left _ (List.mem_of_getElem? (i := 7) rfl)
  have k_6 := hts _ m_6
  have m_7 : (.static yX0_likeBits : Cond) ∈ zw_t_takeKnot := List.mem_append_left _ (List.mem_of_getElem? (i := 8) rfl)
  have k_7 := hts _ m_7
  have m_8 : (.initialized RX0 : Cond) ∈ zw_t_takeKnot := List.mem_append_left _ (List.mem_of_getElem? (i := 9) rfl)
  have k_8 := hts _ m_8
  have m_9 : (.fieldLink RX0 42 "BowWalk$Bow" "likes" "I" : Cond) ∈ zw_t_takeKnot := List.mem_append_left _ (List.mem_of_getElem? (i := 10) rfl)
  have k_9 := hts _ m_9
  have g_t_likeBits : ∀ w ∈ zw_t_likeBits, w ∈ zw_t_takeKnot := fun w h => List.mem_append_right _ (List.mem_append_left _ h)
  have i_X0 : ∀ w ∈ u_ws RX0 TX0 15, w ∈ zw_t_takeKnot := fun w h => List.mem_append_right _ (List.mem_append_right _ (List.mem_append_left _ h))
  have lt_12 : (12 : Int32).toInt = 12 := by decide
  have hl := lv_entry ([.ref p0, .int a1, .int a2]) (n := 3) (Nat.le_of_ble_eq_true rfl)
  rw [lg_entry_eq]
  generalize (lg_sl ([.ref p0, .int a1, .int a2]) ++ List.replicate (3 - (lg_sl ([.ref p0, .int a1, .int a2])).length) Slot.unset).toArray = ls at hl ⊢
  have hl : lv_has ls 3 [(0, .ref p0), (1, .int a1), (2, .int a2)] := hl
  refine lv_aload_n hx hb dX0_takeKnot_0 rfl (lv_at hl 0 rfl) (lv_iload_n hx hb dX0_takeKnot_1 rfl (lv_at hl 1 rfl) (lv_bipush (v := 12) hx hb dX0_takeKnot_2 (by decide) (va_mmin hx hb (by rw [hml]; exact hl.1.symm) hown k_0 k_1 k_2 k_3 (Nat.le_of_ble_eq_true rfl) (Nat.le_of_ble_eq_true rfl) (Nat.le_of_ble_eq_true rfl) (Nat.le_of_ble_eq_true rfl) dX0_takeKnot_4 (lv_topi fun v_1 ev_1 => ?_))))
  have tv_1 := q_min ev_1
  have rv_1 : 0 ≤ v_1.toInt ∧ v_1.toInt ≤ 12 := by omega
  refine qp_X0_2 hx hb hts i_X0 hown hK hP hDa za_t_takeKnot hS 0 rfl k_4 (OKX0_l ho_p0) dX0_takeKnot_7 (fun H2 lo2 fs2 efs2 (hP2 : va_P (dC, dI) vwCl (zW_t_takeKnot p0 fs2) H2) hS2 => ?_)
  have ho2 := OKX0_p2 ho_p0 efs2 ⟨by omega, by omega⟩
  clear hP hS
  refine lv_aload_n hx hb dX0_takeKnot_10 rfl (lv_at hl 0 rfl) (lv_iload_n hx hb dX0_takeKnot_11 rfl (lv_at hl 2 rfl) (qp_X0_8 hx hb hts i_X0 hown hK hP2 hDa za_t_takeKnot hS2 0 rfl k_5 (OKX0_l ho2) dX0_takeKnot_12 (fun H3 lo3 fs3 efs3 (hP3 : va_P (dC, dI) vwCl (zW_t_takeKnot p0 fs3) H3) hS3 => ?_)))
  have ho3 := OKX0_p8 ho2 efs3
  clear hP2 hS2
  refine lv_aload_n hx hb dX0_takeKnot_15 rfl (lv_at hl 0 rfl) (lv_aload_n hx hb dX0_takeKnot_16 rfl (lv_at hl 0 rfl) (qg_X0_2 hx hb hts i_X0 hown hK hP3 0 rfl k_4 (q_sn efs3 (by decide) (q_sa efs2 (OKX0_l ho_p0) (by decide))) dX0_takeKnot_17 (lv_aload_n hx hb dX0_takeKnot_20 rfl (lv_at hl 0 rfl) (qg_X0_8 hx hb hts i_X0 hown hK hP3 0 rfl k_5 (q_sa efs3 (OKX0_l ho2) (by decide)) dX0_takeKnot_21 ?_))))
  refine q_cSi (As := [.int v_1, .int a2]) (rest := [.ref p0]) q_w0 trivial hK hP3 hDa za_t_takeKnot hS3 hA [] [] (by decide +kernel) ⟨hx, hb, hml, hown, hts⟩ (t_likeBits l dC dI H3.size v_1 a2) rfl rfl (va_cwS 2 hts (p1_gS m_6 m_7 m_8 g_t_likeBits gz_t_likeBits) rfl rfl rfl (by decide +kernel) ⟨by decide, by decide⟩) zm_t_likeBits rfl hl.1 rfl (Nat.le_of_ble_eq_true rfl) dX0_takeKnot_24 ⟨by decide, by decide⟩ (fun r_4 H5 lo5 hG5 hS5 => ?_)
  have hQ5 := hG5
  have hP5 : va_P (dC, dI) vwCl (zW_t_takeKnot p0 fs3) H5 := hQ5
  clear hQ5 hP3 hS3
  refine qp_X0_9 hx hb hts i_X0 hown hK hP5 hDa za_t_takeKnot hS5 0 rfl k_9 (OKX0_l ho3) dX0_takeKnot_27 (fun H6 lo6 fs6 efs6 (hP6 : va_P (dC, dI) vwCl (zW_t_takeKnot p0 fs6) H6) hS6 => ?_)
  have ho6 := OKX0_p9 ho3 efs6
  clear hP5 hS5
  exact q_vret hx hb hr hlocks hS6 dX0_takeKnot_30 ⟨fs6, ho6, (((q_fr.rf.st efs2 (by decide)).st efs3 (by decide)).st efs6 (by decide)), hP6, za_t_takeKnot⟩
def zo_t_takeCord : List Cond := [.code yX0_takeCord cX0_takeCord 4 none, .fieldLink RX0 45 "BowWalk$Bow" "smooth" "I", .fieldLink RX0 48 "BowWalk$Bow" "weight" "I", .fieldLink RX0 51 "BowWalk$Bow" "length" "I"]
def zw_t_takeCord : List Cond := zo_t_takeCord ++ (wsX00 ++ [])
theorem gz_t_takeCord : zw_t_takeCord.all goodWord = true := p1_ga (by decide +kernel) (p1_ga gk_X0 p1_g0)
theorem iz_t_takeCord : ∀ w ∈ zw_t_takeCord, w ∈ lw_tbl := p1_ia (p1_all [740, 370, 371, 372] (by decide +kernel)) (p1_ia ik_X0 p1_i0)
def zW_t_takeCord (p0 : Nat) (f_p0 : List Value) : va_W := [(p0, .inr (0, f_p0))]
def zT_t_takeCord : List (ClassId × FieldType) := []
def zA_t_takeCord (p0 : Nat) : List Nat := [p0]
theorem za_t_takeCord {p0 : Nat} {f_p0 : List Value} : (zW_t_takeCord p0 f_p0).map Prod.fst = (zA_t_takeCord p0) := rfl
def zG_t_takeCord (p0 : Nat) (f_p0 : List Value) (a1 : Int32) (a2 : Int32) (a3 : Int32) (X : va_W → Prop) : Prop := ∃ (y_p0 : List Value), OKX0 y_p0 ∧ q_fr [10, 11, 12] f_p0 y_p0 ∧ X (zW_t_takeCord p0 y_p0)
theorem zm_t_takeCord {p0 : Nat} {f_p0 : List Value} {a1 : Int32} {a2 : Int32} {a3 : Int32} : ∀ X Y : va_W → Prop, (∀ w, X w → Y w) → zG_t_takeCord p0 f_p0 a1 a2 a3 X → zG_t_takeCord p0 f_p0 a1 a2 a3 Y := fun X Y h h1 => by obtain ⟨x0, x1, x2, hx⟩ := h1; exact ⟨x0, x1, x2, h _ hx⟩
set_option maxHeartbeats 4000000 in
set_option maxRecDepth 100000 in
theorem t_takeCord (l : Launch) (dC : Nat → ClassId) (dI : Nat → Nat → Nat) (sz : Nat) (p0 : Nat) (f_p0 : List Value) (a1 : Int32) (a2 : Int32) (a3 : Int32) (ho_p0 : OKX0 f_p0) : Met l yX0_takeCord zw_t_takeCord ({ frames := 0, cells := 0, slots := 0, locals := 0 }) (va_Pc [.ref p0, .int a1, .int a2, .int a3] (q_pre (dC, dI) (zW_t_takeCord p0 f_p0) (zT_t_takeCord) q_E0 sz)) (q_Qv (dC, dI) (zG_t_takeCord p0 f_p0 a1 a2 a3) (zA_t_takeCord p0) (va_A (zW_t_takeCord p0 f_p0) sz)) 0 0 (va_A (zW_t_takeCord p0 f_p0) sz) := by
  refine Met.ofW (cc := cX0_takeCord) (maxL := 4) (ret := none) (by decide) rfl ?_
  intro p e s m args below meth c s₁ B hml hv
  obtain ⟨rfl, hsz, hP, hK, hD0, hE⟩ := hv
  have hx := B.exec
  have hb := B.bytes
  have hr := B.returns
  have hts := atoms_spec (ws := zw_t_takeCord) B.pre
  have hown : s.vm.findClass RX0 = some m.cls := findClass_of_methodNamed B.named
  have hlocks := B.notSynchronized
  subst hsz
  have hD := hD0.self (sz := s.heap.size)
  generalize hAe : va_A (zW_t_takeCord p0 f_p0) s.heap.size = A at hD hE ⊢
  have hA : ∀ q : Nat, s.heap.size ≤ q → A q := fun q h => by rw [← hAe]; exact Or.inr h
  have hDa : q_DA A (zA_t_takeCord p0) := q_DA.mk hD za_t_takeCord
  clear hAe hD0 hD
  have hS : va_S A s.heap s.heap [] := va_S.rf
  have m_0 : (.fieldLink RX0 45 "BowWalk$Bow" "smooth" "I" : Cond) ∈ zw_t_takeCord := List.mem_append_left _ (List.mem_of_getElem? (i := 1) rfl)
  have k_0 := hts _ m_0
  have m_1 : (.fieldLink RX0 48 "BowWalk$Bow" "weight" "I" : Cond) ∈ zw_t_takeCord := List.mem_append_left _ (List.mem_of_getElem? (i := 2) rfl)
  have k_1 := hts _ m_1
  have m_2 : (.fieldLink RX0 51 "BowWalk$Bow" "length" "I" : Cond) ∈ zw_t_takeCord := List.mem_append_left _ (List.mem_of_getElem? (i := 3) rfl)
  have k_2 := hts _ m_2
  have i_X0 : ∀ w ∈ u_ws RX0 TX0 15, w ∈ zw_t_takeCord := fun w h => List.mem_append_right _ (List.mem_append_left _ h)
  have hl := lv_entry ([.ref p0, .int a1, .int a2, .int a3]) (n := 4) (Nat.le_of_ble_eq_true rfl)
  rw [lg_entry_eq]
  generalize (lg_sl ([.ref p0, .int a1, .int a2, .int a3]) ++ List.replicate (4 - (lg_sl ([.ref p0, .int a1, .int a2, .int a3])).length) Slot.unset).toArray = ls at hl ⊢
  have hl : lv_has ls 4 [(0, .ref p0), (1, .int a1), (2, .int a2), (3, .int a3)] := hl
  refine lv_aload_n hx hb dX0_takeCord_0 rfl (lv_at hl 0 rfl) (lv_iload_n hx hb dX0_takeCord_1 rfl (lv_at hl 1 rfl) (qp_X0_10 hx hb hts i_X0 hown hK hP hDa za_t_takeCord hS 0 rfl k_0 (OKX0_l ho_p0) dX0_takeCord_2 (fun H1 lo1 fs1 efs1 (hP1 : va_P (dC, dI) vwCl (zW_t_takeCord p0 fs1) H1) hS1 => ?_)))
  have ho1 := OKX0_p10 ho_p0 efs1
  clear hP hS
  refine lv_aload_n hx hb dX0_takeCord_5 rfl (lv_at hl 0 rfl) (lv_iload_n hx hb dX0_takeCord_6 rfl (lv_at hl 2 rfl) (qp_X0_11 hx hb hts i_X0 hown hK hP1 hDa za_t_takeCord hS1 0 rfl k_1 (OKX0_l ho1) dX0_takeCord_7 (fun H2 lo2 fs2 efs2 (hP2 : va_P (dC, dI) vwCl (zW_t_takeCord p0 fs2) H2) hS2 => ?_)))
  have ho2 := OKX0_p11 ho1 efs2
  clear hP1 hS1
  refine lv_aload_n hx hb dX0_takeCord_10 rfl (lv_at hl 0 rfl) (lv_iload_n hx hb dX0_takeCord_11 rfl (lv_at hl 3 rfl) (qp_X0_12 hx hb hts i_X0 hown hK hP2 hDa za_t_takeCord hS2 0 rfl k_2 (OKX0_l ho2) dX0_takeCord_12 (fun H3 lo3 fs3 efs3 (hP3 : va_P (dC, dI) vwCl (zW_t_takeCord p0 fs3) H3) hS3 => ?_)))
  have ho3 := OKX0_p12 ho2 efs3
  clear hP2 hS2
  exact q_vret hx hb hr hlocks hS3 dX0_takeCord_15 ⟨fs3, ho3, (((q_fr.rf.st efs1 (by decide)).st efs2 (by decide)).st efs3 (by decide)), hP3, za_t_takeCord⟩
def zo_t_begin : List Cond := [.code yX0_begin cX0_begin 3 none, .fieldLink RX0 20 "BowWalk$Bow" "crossings" "I", .fieldLink RX0 24 "BowWalk$Bow" "left" "I", .fieldLink RX0 17 "BowWalk$Bow" "ends" "[I", .fieldLink RX0 51 "BowWalk$Bow" "length" "I", .fieldLink RX0 27 "BowWalk$Bow" "steps" "I", .fieldLink RX0 30 "BowWalk$Bow" "slipped" "I", .fieldLink RX0 33 "BowWalk$Bow" "walk" "I", .fieldLink RX0 36 "BowWalk$Bow" "nextStep" "I", .fieldLink RX0 11 "BowWalk$Bow" "tight" "[I"]
def zw_t_begin : List Cond := zo_t_begin ++ (wsX00 ++ [])
theorem gz_t_begin : zw_t_begin.all goodWord = true := p1_ga (by decide +kernel) (p1_ga gk_X0 p1_g0)
theorem iz_t_begin : ∀ w ∈ zw_t_begin, w ∈ lw_tbl := p1_ia (p1_all [744, 355, 357, 352, 372, 360, 362, 364, 366, 350] (by decide +kernel)) (p1_ia ik_X0 p1_i0)
def zW_t_begin (p0 : Nat) (f_p0 : List Value) (p0_ends : Nat) (c_p0_ends : ClassId) (b_p0_ends : Nat → Int32) (p0_tight : Nat) (c_p0_tight : ClassId) (b_p0_tight : Nat → Int32) : va_W := [(p0, .inr (0, f_p0)), (p0_ends, .inl (c_p0_ends, 2, .inl b_p0_ends)), (p0_tight, .inl (c_p0_tight, 12, .inl b_p0_tight))]
def zT_t_begin (c_p0_ends : ClassId) (c_p0_tight : ClassId) : List (ClassId × FieldType) := [(c_p0_ends, .int), (c_p0_tight, .int)]
def zA_t_begin (p0 : Nat) (p0_ends : Nat) (p0_tight : Nat) : List Nat := [p0, p0_ends, p0_tight]
theorem za_t_begin {p0 : Nat} {f_p0 : List Value} {p0_ends : Nat} {c_p0_ends : ClassId} {b_p0_ends : Nat → Int32} {p0_tight : Nat} {c_p0_tight : ClassId} {b_p0_tight : Nat → Int32} : (zW_t_begin p0 f_p0 p0_ends c_p0_ends b_p0_ends p0_tight c_p0_tight b_p0_tight).map Prod.fst = (zA_t_begin p0 p0_ends p0_tight) := rfl
def zG_t_begin (p0 : Nat) (f_p0 : List Value) (p0_ends : Nat) (c_p0_ends : ClassId) (b_p0_ends : Nat → Int32) (p0_tight : Nat) (c_p0_tight : ClassId) (b_p0_tight : Nat → Int32) (a1 : Int32) (X : va_W → Prop) : Prop := ∃ (y_p0 : List Value) (y_p0_ends : Nat → Int32) (y_p0_tight : Nat → Int32), OKX0 y_p0 ∧ q_fr [3, 4, 5, 6, 7] f_p0 y_p0 ∧ X (zW_t_begin p0 y_p0 p0_ends c_p0_ends y_p0_ends p0_tight c_p0_tight y_p0_tight)
theorem zm_t_begin {p0 : Nat} {f_p0 : List Value} {p0_ends : Nat} {c_p0_ends : ClassId} {b_p0_ends : Nat → Int32} {p0_tight : Nat} {c_p0_tight : ClassId} {b_p0_tight : Nat → Int32} {a1 : Int32} : ∀ X Y : va_W → Prop, (∀ w, X w → Y w) → zG_t_begin p0 f_p0 p0_ends c_p0_ends b_p0_ends p0_tight c_p0_tight b_p0_tight a1 X → zG_t_begin p0 f_p0 p0_ends c_p0_ends b_p0_ends p0_tight c_p0_tight b_p0_tight a1 Y := fun X Y h h1 => by obtain ⟨x0, x1, x2, x3, x4, hx⟩ := h1; exact ⟨x0, x1, x2, x3, x4, h _ hx⟩
set_option maxHeartbeats 4000000 in
set_option maxRecDepth 100000 in
theorem t_begin (l : Launch) (dC : Nat → ClassId) (dI : Nat → Nat → Nat) (sz : Nat) (p0 : Nat) (f_p0 : List Value) (p0_ends : Nat) (c_p0_ends : ClassId) (b_p0_ends : Nat → Int32) (p0_tight : Nat) (c_p0_tight : ClassId) (b_p0_tight : Nat → Int32) (a1 : Int32) (ho_p0 : OKX0 f_p0) (fr_p0_0 : q_rf f_p0 0 p0_tight) (fr_p0_1 : q_rf f_p0 1 p0_ends) : Met l yX0_begin zw_t_begin ({ frames := 0, cells := 0, slots := 0, locals := 0 }) (va_Pc [.ref p0, .int a1] (q_pre (dC, dI) (zW_t_begin p0 f_p0 p0_ends c_p0_ends b_p0_ends p0_tight c_p0_tight b_p0_tight) (zT_t_begin c_p0_ends c_p0_tight) q_E0 sz)) (q_Qv (dC, dI) (zG_t_begin p0 f_p0 p0_ends c_p0_ends b_p0_ends p0_tight c_p0_tight b_p0_tight a1) (zA_t_begin p0 p0_ends p0_tight) (va_A (zW_t_begin p0 f_p0 p0_ends c_p0_ends b_p0_ends p0_tight c_p0_tight b_p0_tight) sz)) 0 0 (va_A (zW_t_begin p0 f_p0 p0_ends c_p0_ends b_p0_ends p0_tight c_p0_tight b_p0_tight) sz) := by
  refine Met.ofW (cc := cX0_begin) (maxL := 3) (ret := none) (by decide) rfl ?_
  intro p e s m args below meth c s₁ B hml hv
  obtain ⟨rfl, hsz, hP, hK, hD0, hE⟩ := hv
  have hx := B.exec
  have hb := B.bytes
  have hr := B.returns
  have hts := atoms_spec (ws := zw_t_begin) B.pre
  have hown : s.vm.findClass RX0 = some m.cls := findClass_of_methodNamed B.named
  have hlocks := B.notSynchronized
  subst hsz
  have hD := hD0.self (sz := s.heap.size)
  generalize hAe : va_A (zW_t_begin p0 f_p0 p0_ends c_p0_ends b_p0_ends p0_tight c_p0_tight b_p0_tight) s.heap.size = A at hD hE ⊢
  have hA : ∀ q : Nat, s.heap.size ≤ q → A q := fun q h => by rw [← hAe]; exact Or.inr h
  have hDa : q_DA A (zA_t_begin p0 p0_ends p0_tight) := q_DA.mk hD za_t_begin
  clear hAe hD0 hD
  have hS : va_S A s.heap s.heap [] := va_S.rf
  have m_0 : (.fieldLink RX0 20 "BowWalk$Bow" "crossings" "I" : Cond) ∈ zw_t_begin := List.mem_append_left _ (List.mem_of_getElem? (i := 1) rfl)
  have k_0 := hts _ m_0
  have m_1 : (.fieldLink RX0 24 "BowWalk$Bow" "left" "I" : Cond) ∈ zw_t_begin := List.mem_append_left _ (List.mem_of_getElem? (i := 2) rfl)
  have k_1 := hts _ m_1
  have m_2 : (.fieldLink RX0 17 "BowWalk$Bow" "ends" "[I" : Cond) ∈ zw_t_begin := List.mem_append_left _ (List.mem_of_getElem? (i := 3) rfl)
  have k_2 := hts _ m_2
  have m_3 : (.fieldLink RX0 51 "BowWalk$Bow" "length" "I" : Cond) ∈ zw_t_begin := List.mem_append_left _ (List.mem_of_getElem? (i := 4) rfl)
  have k_3 := hts _ m_3
  have m_4 : (.fieldLink RX0 27 "BowWalk$Bow" "steps" "I" : Cond) ∈ zw_t_begin := List.mem_append_left _ (List.mem_of_getElem? (i := 5) rfl)
  have k_4 := hts _ m_4
  have m_5 : (.fieldLink RX0 30 "BowWalk$Bow" "slipped" "I" : Cond) ∈ zw_t_begin := List.mem_append_left _ (List.mem_of_getElem? (i := 6) rfl)
  have k_5 := hts _ m_5
  have m_6 : (.fieldLink RX0 33 "BowWalk$Bow" "walk" "I" : Cond) ∈ zw_t_begin := List.mem_append_left _ (List.mem_of_getElem? (i := 7) rfl)
  have k_6 := hts _ m_6
  have m_7 : (.fieldLink RX0 36 "BowWalk$Bow" "nextStep" "I" : Cond) ∈ zw_t_begin := List.mem_append_left _ (List.mem_of_getElem? (i := 8) rfl)
  have k_7 := hts _ m_7
  have m_8 : (.fieldLink RX0 11 "BowWalk$Bow" "tight" "[I" : Cond) ∈ zw_t_begin := List.mem_append_left _ (List.mem_of_getElem? (i := 9) rfl)
  have k_8 := hts _ m_8
  have i_X0 : ∀ w ∈ u_ws RX0 TX0 15, w ∈ zw_t_begin := fun w h => List.mem_append_right _ (List.mem_append_left _ h)
  have lt_m1 : ((-1) : Int32).toInt = -1 := by decide
  have lt_0 : (0 : Int32).toInt = 0 := by decide
  have lt_1 : (1 : Int32).toInt = 1 := by decide
  have hl := lv_entry ([.ref p0, .int a1]) (n := 3) (Nat.le_of_ble_eq_true rfl)
  rw [lg_entry_eq]
  generalize (lg_sl ([.ref p0, .int a1]) ++ List.replicate (3 - (lg_sl ([.ref p0, .int a1])).length) Slot.unset).toArray = ls at hl ⊢
  have hl : lv_has ls 3 [(0, .ref p0), (1, .int a1)] := hl
  refine lv_iconst (v := 0) hx hb dX0_begin_0 (by decide) (lv_istore_n (lv' := [(2, .int 0), (0, .ref p0), (1, .int a1)]) hx hb dX0_begin_1 rfl hl (by decide) rfl (fun ls hl => ?_))
  have key2 : ∀ (fu2 : Nat) (i : Int32) (bz_p0_tight : Nat → Int32) (H : Heap) (locs : List Loc) (ls : Array Slot) (hfu2 : 12 - i.toInt ≤ (fu2 : Int)) (ti : (0) ≤ i.toInt ∧ i.toInt ≤ 12), va_P (dC, dI) vwCl (zW_t_begin p0 f_p0 p0_ends c_p0_ends b_p0_ends p0_tight c_p0_tight bz_p0_tight) H → va_S A s.heap H locs → lv_has ls 3 [(2, .int i), (0, .ref p0), (1, .int a1)] → W p l e (headSpec zw_t_begin { frames := 0, cells := 0, slots := 0, locals := 0 }).room s m ([.ref p0, .int a1] : List Value).toArray below meth c H locs 0 0 (MQ below (q_Qv (dC, dI) (zG_t_begin p0 f_p0 p0_ends c_p0_ends b_p0_ends p0_tight c_p0_tight b_p0_tight a1) (zA_t_begin p0 p0_ends p0_tight) A) ([.ref p0, .int a1] : List Value).toArray s 0 0 A) (F0 m 2 ls []) := by
    intro fu2
    induction fu2 using Nat.strongRecOn with
    | ind fu2 ih2 =>
      intro i bz_p0_tight H1 lo1 ls hfu2 ti hP1 hS1 hl
      refine lv_iload_n hx hb dX0_begin_2 rfl (lv_at hl 0 rfl) (lv_aload_n hx hb dX0_begin_3 rfl (lv_at hl 1 rfl) ?_)
      obtain ⟨v_2, fv_2, tv_2⟩ := OKX0_g2 ho_p0
      refine qg_X0_2 hx hb hts i_X0 hown hK hP1 0 rfl k_0 fv_2 dX0_begin_4 ?_
      refine lv_icmp_ge (tgt := 23) hx hb dX0_begin_7 (by decide) (fun c_3 => ?_) (fun c_3 => ?_)
      · have tc_3 := q_ge c_3
        refine lv_aload_n hx hb dX0_begin_23 rfl (lv_at hl 1 rfl) (lv_aload_n hx hb dX0_begin_24 rfl (lv_at hl 1 rfl) (qg_X0_2 hx hb hts i_X0 hown hK hP1 0 rfl k_0 fv_2 dX0_begin_25 (qp_X0_3 hx hb hts i_X0 hown hK hP1 hDa za_t_begin hS1 0 rfl k_1 (OKX0_l ho_p0) dX0_begin_28 (fun H4 lo4 fs4 efs4 (hP4 : va_P (dC, dI) vwCl (zW_t_begin p0 fs4 p0_ends c_p0_ends b_p0_ends p0_tight c_p0_tight bz_p0_tight) H4) hS4 => ?_))))
        have ho4 := OKX0_p3 ho_p0 efs4 ⟨by omega, by omega⟩
        clear hP1 hS1
        refine lv_aload_n hx hb dX0_begin_31 rfl (lv_at hl 1 rfl) (qg_X0_1 hx hb hts i_X0 hown hK hP4 0 rfl k_2 (q_sn efs4 (by decide) fr_p0_1) dX0_begin_32 (lv_iconst (v := 0) hx hb dX0_begin_35 (by decide) (lv_aload_n hx hb dX0_begin_36 rfl (lv_at hl 1 rfl) ?_)))
        obtain ⟨v_5, fv_5⟩ := OKX0_g12 ho4
        refine qg_X0_12 hx hb hts i_X0 hown hK hP4 0 rfl k_3 fv_5 dX0_begin_37 (q_ist hx hb hK hP4 hDa za_t_begin hS4 1 0 rfl rfl (p1_in (i := 0) (n := 2) (by decide)) dX0_begin_40 (fun H6 lo6 g6 eg6 (hP6 : va_P (dC, dI) vwCl (zW_t_begin p0 fs4 p0_ends c_p0_ends g6 p0_tight c_p0_tight bz_p0_tight) H6) hS6 => ?_))
        clear hP4 hS4
        refine lv_aload_n hx hb dX0_begin_41 rfl (lv_at hl 1 rfl) (qg_X0_1 hx hb hts i_X0 hown hK hP6 0 rfl k_2 (q_sn efs4 (by decide) fr_p0_1) dX0_begin_42 (lv_iconst (v := 1) hx hb dX0_begin_45 (by decide) (lv_aload_n hx hb dX0_begin_46 rfl (lv_at hl 1 rfl) (qg_X0_12 hx hb hts i_X0 hown hK hP6 0 rfl k_3 fv_5 dX0_begin_47 (q_ist hx hb hK hP6 hDa za_t_begin hS6 1 0 rfl rfl (p1_in (i := 1) (n := 2) (by decide)) dX0_begin_50 (fun H7 lo7 g7 eg7 (hP7 : va_P (dC, dI) vwCl (zW_t_begin p0 fs4 p0_ends c_p0_ends g7 p0_tight c_p0_tight bz_p0_tight) H7) hS7 => ?_))))))
        clear hP6 hS6
        refine lv_aload_n hx hb dX0_begin_51 rfl (lv_at hl 1 rfl) (lv_iconst (v := 0) hx hb dX0_begin_52 (by decide) (qp_X0_4 hx hb hts i_X0 hown hK hP7 hDa za_t_begin hS7 0 rfl k_4 (OKX0_l ho4) dX0_begin_53 (fun H8 lo8 fs8 efs8 (hP8 : va_P (dC, dI) vwCl (zW_t_begin p0 fs8 p0_ends c_p0_ends g7 p0_tight c_p0_tight bz_p0_tight) H8) hS8 => ?_)))
        have ho8 := OKX0_p4 ho4 efs8
        clear hP7 hS7
        refine lv_aload_n hx hb dX0_begin_56 rfl (lv_at hl 1 rfl) (lv_iconst (v := 0) hx hb dX0_begin_57 (by decide) (qp_X0_5 hx hb hts i_X0 hown hK hP8 hDa za_t_begin hS8 0 rfl k_5 (OKX0_l ho8) dX0_begin_58 (fun H9 lo9 fs9 efs9 (hP9 : va_P (dC, dI) vwCl (zW_t_begin p0 fs9 p0_ends c_p0_ends g7 p0_tight c_p0_tight bz_p0_tight) H9) hS9 => ?_)))
        have ho9 := OKX0_p5 ho8 efs9
        clear hP8 hS8
        refine lv_aload_n hx hb dX0_begin_61 rfl (lv_at hl 1 rfl) (lv_iconst (v := (-1)) hx hb dX0_begin_62 (by decide) (qp_X0_6 hx hb hts i_X0 hown hK hP9 hDa za_t_begin hS9 0 rfl k_6 (OKX0_l ho9) dX0_begin_63 (fun H10 lo10 fs10 efs10 (hP10 : va_P (dC, dI) vwCl (zW_t_begin p0 fs10 p0_ends c_p0_ends g7 p0_tight c_p0_tight bz_p0_tight) H10) hS10 => ?_)))
        have ho10 := OKX0_p6 ho9 efs10
        clear hP9 hS9
        refine lv_aload_n hx hb dX0_begin_66 rfl (lv_at hl 1 rfl) (lv_iconst (v := 0) hx hb dX0_begin_67 (by decide) (qp_X0_7 hx hb hts i_X0 hown hK hP10 hDa za_t_begin hS10 0 rfl k_7 (OKX0_l ho10) dX0_begin_68 (fun H11 lo11 fs11 efs11 (hP11 : va_P (dC, dI) vwCl (zW_t_begin p0 fs11 p0_ends c_p0_ends g7 p0_tight c_p0_tight bz_p0_tight) H11) hS11 => ?_)))
        have ho11 := OKX0_p7 ho10 efs11 ⟨by omega, by omega⟩
        clear hP10 hS10
        exact q_vret hx hb hr hlocks hS11 dX0_begin_71 ⟨fs11, g7, bz_p0_tight, ho11, (((((q_fr.rf.st efs4 (by decide)).st efs8 (by decide)).st efs9 (by decide)).st efs10 (by decide)).st efs11 (by decide)), hP11, za_t_begin⟩
      · have tc_3 := q_ltN c_3
        refine lv_aload_n hx hb dX0_begin_10 rfl (lv_at hl 1 rfl) (qg_X0_0 hx hb hts i_X0 hown hK hP1 0 rfl k_8 fr_p0_0 dX0_begin_11 (lv_iload_n hx hb dX0_begin_14 rfl (lv_at hl 0 rfl) (lv_iload_n hx hb dX0_begin_15 rfl (lv_at hl 2 rfl) (q_ist hx hb hK hP1 hDa za_t_begin hS1 2 1 rfl rfl (q_in (by omega) (by omega)) dX0_begin_16 (fun H12 lo12 g12 eg12 (hP12 : va_P (dC, dI) vwCl (zW_t_begin p0 f_p0 p0_ends c_p0_ends b_p0_ends p0_tight c_p0_tight g12) H12) hS12 => ?_)))))
        clear hP1 hS1
        obtain ⟨v_13, ev_13⟩ : ∃ y : Int32, y = i + 1 := ⟨_, rfl⟩
        have tv_13 := q_add ev_13 (by omega) (by omega)
        refine lv_iinc (v := v_13) (lv' := [(2, .int v_13), (0, .ref p0), (1, .int a1)]) hx hb dX0_begin_17 hl (k := 0) rfl (by rw [ev_13]; rfl) (by decide) rfl (fun ls hl => ?_)
        refine lv_goto (tgt := 2) hx hb dX0_begin_20 (by decide) ?_
        exact ih2 (fu2 - 1) (by omega) v_13 g12 _ _ _ (by omega) (by omega) hP12 hS12 (lv_sub hl [0, 1, 2] rfl)
  exact key2 12 0 b_p0_tight _ _ _ (by omega) (by omega) hP hS (lv_sub hl [0, 1, 2] rfl)
def zo_t_join : List Cond := [.code yX3_join cX3_join 3 (some .int)]
def zw_t_join : List Cond := zo_t_join ++ []
theorem gz_t_join : zw_t_join.all goodWord = true := p1_ga (by decide +kernel) p1_g0
theorem iz_t_join : ∀ w ∈ zw_t_join, w ∈ lw_tbl := p1_ia (p1_all [780] (by decide +kernel)) p1_i0
def zW_t_join : va_W := []
def zT_t_join : List (ClassId × FieldType) := []
def zA_t_join : List Nat := []
theorem za_t_join : (zW_t_join).map Prod.fst = zA_t_join := rfl
def zG_t_join (a0 : Int32) (a1 : Int32) (a2 : Int32) (r : Int32) (X : va_W → Prop) : Prop := X (zW_t_join)
theorem zm_t_join {a0 : Int32} {a1 : Int32} {a2 : Int32} : ∀ (r : Int32), ∀ X Y : va_W → Prop, (∀ w, X w → Y w) → zG_t_join a0 a1 a2 r X → zG_t_join a0 a1 a2 r Y := fun r X Y h h1 => h _ h1
set_option maxHeartbeats 4000000 in
set_option maxRecDepth 100000 in
theorem t_join (l : Launch) (dC : Nat → ClassId) (dI : Nat → Nat → Nat) (sz : Nat) (a0 : Int32) (a1 : Int32) (a2 : Int32) : Met l yX3_join zw_t_join ({ frames := 0, cells := 0, slots := 0, locals := 0 }) (va_Pc [.int a0, .int a1, .int a2] (q_pre (dC, dI) (zW_t_join) (zT_t_join) q_E0 sz)) (q_Qi (dC, dI) (zG_t_join a0 a1 a2) zA_t_join (va_A (zW_t_join) sz)) 0 0 (va_A (zW_t_join) sz) := by
  refine Met.ofW (cc := cX3_join) (maxL := 3) (ret := (some .int)) (by decide) rfl ?_
  intro p e s m args below meth c s₁ B hml hv
  obtain ⟨rfl, hsz, hP, hK, hD0, hE⟩ := hv
  have hx := B.exec
  have hb := B.bytes
  have hr := B.returns
  have hts := atoms_spec (ws := zw_t_join) B.pre
  have hown : s.vm.findClass RX3 = some m.cls := findClass_of_methodNamed B.named
  have hlocks := B.notSynchronized
  subst hsz
  have hD := hD0.self (sz := s.heap.size)
  generalize hAe : va_A (zW_t_join) s.heap.size = A at hD hE ⊢
  have hA : ∀ q : Nat, s.heap.size ≤ q → A q := fun q h => by rw [← hAe]; exact Or.inr h
  have hDa : q_DA A zA_t_join := q_DA.mk hD za_t_join
  clear hAe hD0 hD
  have hS : va_S A s.heap s.heap [] := va_S.rf
  have lt_0 : (0 : Int32).toInt = 0 := by decide
  have lt_1 : (1 : Int32).toInt = 1 := by decide
  have lt_42 : (42 : Int32).toInt = 42 := by decide
  have lt_43 : (43 : Int32).toInt = 43 := by decide
  have lt_45 : (45 : Int32).toInt = 45 := by decide
  have lt_47 : (47 : Int32).toInt = 47 := by decide
  have lt_60 : (60 : Int32).toInt = 60 := by decide
  have lt_61 : (61 : Int32).toInt = 61 := by decide
  have lt_62 : (62 : Int32).toInt = 62 := by decide
  have lt_276 : (276 : Int32).toInt = 276 := by decide
  have hl := lv_entry ([.int a0, .int a1, .int a2]) (n := 3) (Nat.le_of_ble_eq_true rfl)
  rw [lg_entry_eq]
  generalize (lg_sl ([.int a0, .int a1, .int a2]) ++ List.replicate (3 - (lg_sl ([.int a0, .int a1, .int a2])).length) Slot.unset).toArray = ls at hl ⊢
  have hl : lv_has ls 3 [(0, .int a0), (1, .int a1), (2, .int a2)] := hl
  refine lv_iload_n hx hb dX3_join_0 rfl (lv_at hl 0 rfl) ?_
  by_cases hk_1 : a0 = 42
  · refine lv_lookup (tgt := 84) (off := 83) hx hb dX3_join_1 (by decide) (by rw [hk_1]; decide) (by decide) ?_
    have thk_1 := q_eq hk_1
    refine lv_iload_n hx hb dX3_join_84 rfl (lv_at hl 1 rfl) (lv_iload_n hx hb dX3_join_85 rfl (lv_at hl 2 rfl) (lv_imul hx hb dX3_join_86 (lv_topi fun v_2 ev_2 => ?_)))
    exact q_iret hx hb hr hlocks hS dX3_join_87 ⟨hP, za_t_join⟩
  by_cases hk_3 : a0 = 43
  · refine lv_lookup (tgt := 76) (off := 75) hx hb dX3_join_1 (by decide) (by rw [hk_3]; decide) (by decide) ?_
    have thk_3 := q_eq hk_3
    refine lv_iload_n hx hb dX3_join_76 rfl (lv_at hl 1 rfl) (lv_iload_n hx hb dX3_join_77 rfl (lv_at hl 2 rfl) (lv_iadd hx hb dX3_join_78 (lv_topi fun v_4 ev_4 => ?_)))
    exact q_iret hx hb hr hlocks hS dX3_join_79 ⟨hP, za_t_join⟩
  by_cases hk_5 : a0 = 45
  · refine lv_lookup (tgt := 80) (off := 79) hx hb dX3_join_1 (by decide) (by rw [hk_5]; decide) (by decide) ?_
    have thk_5 := q_eq hk_5
    refine lv_iload_n hx hb dX3_join_80 rfl (lv_at hl 1 rfl) (lv_iload_n hx hb dX3_join_81 rfl (lv_at hl 2 rfl) (lv_isub hx hb dX3_join_82 (lv_topi fun v_6 ev_6 => ?_)))
    exact q_iret hx hb hr hlocks hS dX3_join_83 ⟨hP, za_t_join⟩
  by_cases hk_7 : a0 = 47
  · refine lv_lookup (tgt := 88) (off := 87) hx hb dX3_join_1 (by decide) (by rw [hk_7]; decide) (by decide) ?_
    have thk_7 := q_eq hk_7
    refine lv_iload_n hx hb dX3_join_88 rfl (lv_at hl 2 rfl) ?_
    refine lv_if_ne (tgt := 96) hx hb dX3_join_89 (by decide) (fun c_8 => ?_) (fun c_8 => ?_)
    · have tc_8 := q_ne c_8
      refine lv_iload_n hx hb dX3_join_96 rfl (lv_at hl 1 rfl) (lv_iload_n hx hb dX3_join_97 rfl (lv_at hl 2 rfl) (lv_idiv hx hb dX3_join_98 (q_n0 (by omega)) (lv_topi fun v_9 ev_9 => ?_)))
      exact q_iret hx hb hr hlocks hS dX3_join_99 ⟨hP, za_t_join⟩
    · have tc_8 := q_eqN c_8
      refine lv_iconst (v := 0) hx hb dX3_join_92 (by decide) (lv_goto (tgt := 99) hx hb dX3_join_93 (by decide) ?_)
      exact q_iret hx hb hr hlocks hS dX3_join_99 ⟨hP, za_t_join⟩
  by_cases hk_10 : a0 = 60
  · refine lv_lookup (tgt := 100) (off := 99) hx hb dX3_join_1 (by decide) (by rw [hk_10]; decide) (by decide) ?_
    have thk_10 := q_eq hk_10
    refine lv_iload_n hx hb dX3_join_100 rfl (lv_at hl 1 rfl) (lv_iload_n hx hb dX3_join_101 rfl (lv_at hl 2 rfl) ?_)
    refine lv_icmp_ge (tgt := 109) hx hb dX3_join_102 (by decide) (fun c_11 => ?_) (fun c_11 => ?_)
    · have tc_11 := q_ge c_11
      refine lv_iconst (v := 0) hx hb dX3_join_109 (by decide) ?_
      exact q_iret hx hb hr hlocks hS dX3_join_110 ⟨hP, za_t_join⟩
    · have tc_11 := q_ltN c_11
      refine lv_iconst (v := 1) hx hb dX3_join_105 (by decide) (lv_goto (tgt := 110) hx hb dX3_join_106 (by decide) ?_)
      exact q_iret hx hb hr hlocks hS dX3_join_110 ⟨hP, za_t_join⟩
  by_cases hk_12 : a0 = 61
  · refine lv_lookup (tgt := 122) (off := 121) hx hb dX3_join_1 (by decide) (by rw [hk_12]; decide) (by decide) ?_
    have thk_12 := q_eq hk_12
    refine lv_iload_n hx hb dX3_join_122 rfl (lv_at hl 1 rfl) (lv_iload_n hx hb dX3_join_123 rfl (lv_at hl 2 rfl) ?_)
    refine lv_icmp_ne (tgt := 131) hx hb dX3_join_124 (by decide) (fun c_13 => ?_) (fun c_13 => ?_)
    · have tc_13 := q_ne c_13
      refine lv_iconst (v := 0) hx hb dX3_join_131 (by decide) ?_
      exact q_iret hx hb hr hlocks hS dX3_join_132 ⟨hP, za_t_join⟩
    · have tc_13 := q_eqN c_13
      refine lv_iconst (v := 1) hx hb dX3_join_127 (by decide) (lv_goto (tgt := 132) hx hb dX3_join_128 (by decide) ?_)
      exact q_iret hx hb hr hlocks hS dX3_join_132 ⟨hP, za_t_join⟩
  by_cases hk_14 : a0 = 62
  · refine lv_lookup (tgt := 111) (off := 110) hx hb dX3_join_1 (by decide) (by rw [hk_14]; decide) (by decide) ?_
    have thk_14 := q_eq hk_14
    refine lv_iload_n hx hb dX3_join_111 rfl (lv_at hl 1 rfl) (lv_iload_n hx hb dX3_join_112 rfl (lv_at hl 2 rfl) ?_)
    refine lv_icmp_le (tgt := 120) hx hb dX3_join_113 (by decide) (fun c_15 => ?_) (fun c_15 => ?_)
    · have tc_15 := q_le c_15
      refine lv_iconst (v := 0) hx hb dX3_join_120 (by decide) ?_
      exact q_iret hx hb hr hlocks hS dX3_join_121 ⟨hP, za_t_join⟩
    · have tc_15 := q_gtN c_15
      refine lv_iconst (v := 1) hx hb dX3_join_116 (by decide) (lv_goto (tgt := 121) hx hb dX3_join_117 (by decide) ?_)
      exact q_iret hx hb hr hlocks hS dX3_join_121 ⟨hP, za_t_join⟩
  by_cases hk_16 : a0 = 276
  · refine lv_lookup (tgt := 133) (off := 132) hx hb dX3_join_1 (by decide) (by rw [hk_16]; decide) (by decide) ?_
    have thk_16 := q_eq hk_16
    refine lv_iload_n hx hb dX3_join_133 rfl (lv_at hl 1 rfl) ?_
    refine lv_if_eq (tgt := 145) hx hb dX3_join_134 (by decide) (fun c_17 => ?_) (fun c_17 => ?_)
    · have tc_17 := q_eq c_17
      refine lv_iconst (v := 0) hx hb dX3_join_145 (by decide) ?_
      exact q_iret hx hb hr hlocks hS dX3_join_146 ⟨hP, za_t_join⟩
    · have tc_17 := q_neN c_17
      refine lv_iload_n hx hb dX3_join_137 rfl (lv_at hl 2 rfl) ?_
      refine lv_if_eq (tgt := 145) hx hb dX3_join_138 (by decide) (fun c_18 => ?_) (fun c_18 => ?_)
      · have tc_18 := q_eq c_18
        refine lv_iconst (v := 0) hx hb dX3_join_145 (by decide) ?_
        exact q_iret hx hb hr hlocks hS dX3_join_146 ⟨hP, za_t_join⟩
      · have tc_18 := q_neN c_18
        refine lv_iconst (v := 1) hx hb dX3_join_141 (by decide) (lv_goto (tgt := 146) hx hb dX3_join_142 (by decide) ?_)
        exact q_iret hx hb hr hlocks hS dX3_join_146 ⟨hP, za_t_join⟩
  have thk_1 := q_ne hk_1
  have thk_3 := q_ne hk_3
  have thk_5 := q_ne hk_5
  have thk_7 := q_ne hk_7
  have thk_10 := q_ne hk_10
  have thk_12 := q_ne hk_12
  have thk_14 := q_ne hk_14
  have thk_16 := q_ne hk_16
  refine lv_lookup (tgt := 147) (off := 146) hx hb dX3_join_1 (by decide) (by show Op.lookupswitch.offset [(42, 83), (43, 75), (45, 79), (47, 87), (60, 99), (61, 121), (62, 110), (276, 132)] 146 _ = _; rw [lv_osw hk_1 (by decide)]; rw [lv_osw hk_3 (by decide)]; rw [lv_osw hk_5 (by decide)]; rw [lv_osw hk_7 (by decide)]; rw [lv_osw hk_10 (by decide)]; rw [lv_osw hk_12 (by decide)]; rw [lv_osw hk_14 (by decide)]; rw [lv_osw hk_16 (by decide)]; rfl) (by decide) ?_
  refine lv_iload_n hx hb dX3_join_147 rfl (lv_at hl 1 rfl) ?_
  refine lv_if_ne (tgt := 155) hx hb dX3_join_148 (by decide) (fun c_19 => ?_) (fun c_19 => ?_)
  · have tc_19 := q_ne c_19
    refine lv_iconst (v := 1) hx hb dX3_join_155 (by decide) (lv_goto (tgt := 160) hx hb dX3_join_156 (by decide) ?_)
    exact q_iret hx hb hr hlocks hS dX3_join_160 ⟨hP, za_t_join⟩
  · have tc_19 := q_eqN c_19
    refine lv_iload_n hx hb dX3_join_151 rfl (lv_at hl 2 rfl) ?_
    refine lv_if_eq (tgt := 159) hx hb dX3_join_152 (by decide) (fun c_20 => ?_) (fun c_20 => ?_)
    · have tc_20 := q_eq c_20
      refine lv_iconst (v := 0) hx hb dX3_join_159 (by decide) ?_
      exact q_iret hx hb hr hlocks hS dX3_join_160 ⟨hP, za_t_join⟩
    · have tc_20 := q_neN c_20
      refine lv_iconst (v := 1) hx hb dX3_join_155 (by decide) (lv_goto (tgt := 160) hx hb dX3_join_156 (by decide) ?_)
      exact q_iret hx hb hr hlocks hS dX3_join_160 ⟨hP, za_t_join⟩
def zo_t_isUnitWord : List Cond := [.code yX6_isUnitWord cX6_isUnitWord 1 (some .boolean)]
def zw_t_isUnitWord : List Cond := zo_t_isUnitWord ++ []
theorem gz_t_isUnitWord : zw_t_isUnitWord.all goodWord = true := p1_ga (by decide +kernel) p1_g0
theorem iz_t_isUnitWord : ∀ w ∈ zw_t_isUnitWord, w ∈ lw_tbl := p1_ia (p1_all [675] (by decide +kernel)) p1_i0
def zW_t_isUnitWord : va_W := []
def zT_t_isUnitWord : List (ClassId × FieldType) := []
def zA_t_isUnitWord : List Nat := []
theorem za_t_isUnitWord : (zW_t_isUnitWord).map Prod.fst = zA_t_isUnitWord := rfl
def zG_t_isUnitWord (a0 : Int32) (r : Int32) (X : va_W → Prop) : Prop := ((r = 1 ∧ (True)) ∨ (r = 0 ∧ (True))) ∧ X (zW_t_isUnitWord)
theorem zm_t_isUnitWord {a0 : Int32} : ∀ (r : Int32), ∀ X Y : va_W → Prop, (∀ w, X w → Y w) → zG_t_isUnitWord a0 r X → zG_t_isUnitWord a0 r Y := fun r X Y h h1 => by obtain ⟨x0, hx⟩ := h1; exact ⟨x0, h _ hx⟩
set_option maxHeartbeats 4000000 in
set_option maxRecDepth 100000 in
theorem t_isUnitWord (l : Launch) (dC : Nat → ClassId) (dI : Nat → Nat → Nat) (sz : Nat) (a0 : Int32) : Met l yX6_isUnitWord zw_t_isUnitWord ({ frames := 0, cells := 0, slots := 0, locals := 0 }) (va_Pc [.int a0] (q_pre (dC, dI) (zW_t_isUnitWord) (zT_t_isUnitWord) q_E0 sz)) (q_Qi (dC, dI) (zG_t_isUnitWord a0) zA_t_isUnitWord (va_A (zW_t_isUnitWord) sz)) 0 0 (va_A (zW_t_isUnitWord) sz) := by
  refine Met.ofW (cc := cX6_isUnitWord) (maxL := 1) (ret := (some .boolean)) (by decide) rfl ?_
  intro p e s m args below meth c s₁ B hml hv
  obtain ⟨rfl, hsz, hP, hK, hD0, hE⟩ := hv
  have hx := B.exec
  have hb := B.bytes
  have hr := B.returns
  have hts := atoms_spec (ws := zw_t_isUnitWord) B.pre
  have hown : s.vm.findClass RX6 = some m.cls := findClass_of_methodNamed B.named
  have hlocks := B.notSynchronized
  subst hsz
  have hD := hD0.self (sz := s.heap.size)
  generalize hAe : va_A (zW_t_isUnitWord) s.heap.size = A at hD hE ⊢
  have hA : ∀ q : Nat, s.heap.size ≤ q → A q := fun q h => by rw [← hAe]; exact Or.inr h
  have hDa : q_DA A zA_t_isUnitWord := q_DA.mk hD za_t_isUnitWord
  clear hAe hD0 hD
  have hS : va_S A s.heap s.heap [] := va_S.rf
  have lt_0 : (0 : Int32).toInt = 0 := by decide
  have lt_1 : (1 : Int32).toInt = 1 := by decide
  have lt_261 : (261 : Int32).toInt = 261 := by decide
  have lt_268 : (268 : Int32).toInt = 268 := by decide
  have hl := lv_entry ([.int a0]) (n := 1) (Nat.le_of_ble_eq_true rfl)
  rw [lg_entry_eq]
  generalize (lg_sl ([.int a0]) ++ List.replicate (1 - (lg_sl ([.int a0])).length) Slot.unset).toArray = ls at hl ⊢
  have hl : lv_has ls 1 [(0, .int a0)] := hl
  refine lv_iload_n hx hb dX6_isUnitWord_0 rfl (lv_at hl 0 rfl) (lv_sipush (v := 261) hx hb dX6_isUnitWord_1 (by decide) ?_)
  refine lv_icmp_lt (tgt := 18) hx hb dX6_isUnitWord_4 (by decide) (fun c_1 => ?_) (fun c_1 => ?_)
  · have tc_1 := q_lt c_1
    refine lv_iconst (v := 0) hx hb dX6_isUnitWord_18 (by decide) ?_
    exact q_zret hx hb hr hlocks (by decide) hS dX6_isUnitWord_19 ⟨(Or.inr ⟨rfl, by first | trivial | omega⟩), hP, za_t_isUnitWord⟩
  · have tc_1 := q_geN c_1
    refine lv_iload_n hx hb dX6_isUnitWord_7 rfl (lv_at hl 0 rfl) (lv_sipush (v := 268) hx hb dX6_isUnitWord_8 (by decide) ?_)
    refine lv_icmp_gt (tgt := 18) hx hb dX6_isUnitWord_11 (by decide) (fun c_2 => ?_) (fun c_2 => ?_)
    · have tc_2 := q_gt c_2
      refine lv_iconst (v := 0) hx hb dX6_isUnitWord_18 (by decide) ?_
      exact q_zret hx hb hr hlocks (by decide) hS dX6_isUnitWord_19 ⟨(Or.inr ⟨rfl, by first | trivial | omega⟩), hP, za_t_isUnitWord⟩
    · have tc_2 := q_leN c_2
      refine lv_iconst (v := 1) hx hb dX6_isUnitWord_14 (by decide) (lv_goto (tgt := 19) hx hb dX6_isUnitWord_15 (by decide) ?_)
      exact q_zret hx hb hr hlocks (by decide) hS dX6_isUnitWord_19 ⟨(Or.inl ⟨rfl, by first | trivial | omega⟩), hP, za_t_isUnitWord⟩
def zo_t_tell : List Cond := [.code yX0_tell cX0_tell 3 (some .int), .fieldLink RX0 11 "BowWalk$Bow" "tight" "[I", .fieldLink RX0 42 "BowWalk$Bow" "likes" "I", .fieldLink RX0 45 "BowWalk$Bow" "smooth" "I", .fieldLink RX0 48 "BowWalk$Bow" "weight" "I", .fieldLink RX0 17 "BowWalk$Bow" "ends" "[I", .fieldLink RX0 39 "BowWalk$Bow" "sides" "I", .fieldLink RX0 54 "BowWalk$Bow" "strike" "I", .fieldLink RX0 57 "BowWalk$Bow" "swing" "I"]
def zw_t_tell : List Cond := zo_t_tell ++ (wsX00 ++ [])
theorem gz_t_tell : zw_t_tell.all goodWord = true := p1_ga (by decide +kernel) (p1_ga gk_X0 p1_g0)
theorem iz_t_tell : ∀ w ∈ zw_t_tell, w ∈ lw_tbl := p1_ia (p1_all [777, 350, 369, 370, 371, 352, 368, 373, 374] (by decide +kernel)) (p1_ia ik_X0 p1_i0)
def zW_t_tell (p0 : Nat) (f_p0 : List Value) (p0_ends : Nat) (c_p0_ends : ClassId) (b_p0_ends : Nat → Int32) (p0_tight : Nat) (c_p0_tight : ClassId) (b_p0_tight : Nat → Int32) : va_W := [(p0, .inr (0, f_p0)), (p0_ends, .inl (c_p0_ends, 2, .inl b_p0_ends)), (p0_tight, .inl (c_p0_tight, 12, .inl b_p0_tight))]
def zT_t_tell (c_p0_ends : ClassId) (c_p0_tight : ClassId) : List (ClassId × FieldType) := [(c_p0_ends, .int), (c_p0_tight, .int)]
def zA_t_tell (p0 : Nat) (p0_ends : Nat) (p0_tight : Nat) : List Nat := [p0, p0_ends, p0_tight]
theorem za_t_tell {p0 : Nat} {f_p0 : List Value} {p0_ends : Nat} {c_p0_ends : ClassId} {b_p0_ends : Nat → Int32} {p0_tight : Nat} {c_p0_tight : ClassId} {b_p0_tight : Nat → Int32} : (zW_t_tell p0 f_p0 p0_ends c_p0_ends b_p0_ends p0_tight c_p0_tight b_p0_tight).map Prod.fst = (zA_t_tell p0 p0_ends p0_tight) := rfl
def zG_t_tell (p0 : Nat) (f_p0 : List Value) (p0_ends : Nat) (c_p0_ends : ClassId) (b_p0_ends : Nat → Int32) (p0_tight : Nat) (c_p0_tight : ClassId) (b_p0_tight : Nat → Int32) (a1 : Int32) (a2 : Int32) (r : Int32) (X : va_W → Prop) : Prop := X (zW_t_tell p0 f_p0 p0_ends c_p0_ends b_p0_ends p0_tight c_p0_tight b_p0_tight)
theorem zm_t_tell {p0 : Nat} {f_p0 : List Value} {p0_ends : Nat} {c_p0_ends : ClassId} {b_p0_ends : Nat → Int32} {p0_tight : Nat} {c_p0_tight : ClassId} {b_p0_tight : Nat → Int32} {a1 : Int32} {a2 : Int32} : ∀ (r : Int32), ∀ X Y : va_W → Prop, (∀ w, X w → Y w) → zG_t_tell p0 f_p0 p0_ends c_p0_ends b_p0_ends p0_tight c_p0_tight b_p0_tight a1 a2 r X → zG_t_tell p0 f_p0 p0_ends c_p0_ends b_p0_ends p0_tight c_p0_tight b_p0_tight a1 a2 r Y := fun r X Y h h1 => h _ h1
set_option maxHeartbeats 4000000 in
set_option maxRecDepth 100000 in
theorem t_tell (l : Launch) (dC : Nat → ClassId) (dI : Nat → Nat → Nat) (sz : Nat) (p0 : Nat) (f_p0 : List Value) (p0_ends : Nat) (c_p0_ends : ClassId) (b_p0_ends : Nat → Int32) (p0_tight : Nat) (c_p0_tight : ClassId) (b_p0_tight : Nat → Int32) (a1 : Int32) (a2 : Int32) (ho_p0 : OKX0 f_p0) (fr_p0_0 : q_rf f_p0 0 p0_tight) (fr_p0_1 : q_rf f_p0 1 p0_ends) (ta2 : (0) ≤ a2.toInt ∧ a2.toInt ≤ 11) : Met l yX0_tell zw_t_tell ({ frames := 0, cells := 0, slots := 0, locals := 0 }) (va_Pc [.ref p0, .int a1, .int a2] (q_pre (dC, dI) (zW_t_tell p0 f_p0 p0_ends c_p0_ends b_p0_ends p0_tight c_p0_tight b_p0_tight) (zT_t_tell c_p0_ends c_p0_tight) q_E0 sz)) (q_Qi (dC, dI) (zG_t_tell p0 f_p0 p0_ends c_p0_ends b_p0_ends p0_tight c_p0_tight b_p0_tight a1 a2) (zA_t_tell p0 p0_ends p0_tight) (va_A (zW_t_tell p0 f_p0 p0_ends c_p0_ends b_p0_ends p0_tight c_p0_tight b_p0_tight) sz)) 0 0 (va_A (zW_t_tell p0 f_p0 p0_ends c_p0_ends b_p0_ends p0_tight c_p0_tight b_p0_tight) sz) := by
  refine Met.ofW (cc := cX0_tell) (maxL := 3) (ret := (some .int)) (by decide) rfl ?_
  intro p e s m args below meth c s₁ B hml hv
  obtain ⟨rfl, hsz, hP, hK, hD0, hE⟩ := hv
  have hx := B.exec
  have hb := B.bytes
  have hr := B.returns
  have hts := atoms_spec (ws := zw_t_tell) B.pre
  have hown : s.vm.findClass RX0 = some m.cls := findClass_of_methodNamed B.named
  have hlocks := B.notSynchronized
  subst hsz
  have hD := hD0.self (sz := s.heap.size)
  generalize hAe : va_A (zW_t_tell p0 f_p0 p0_ends c_p0_ends b_p0_ends p0_tight c_p0_tight b_p0_tight) s.heap.size = A at hD hE ⊢
  have hA : ∀ q : Nat, s.heap.size ≤ q → A q := fun q h => by rw [← hAe]; exact Or.inr h
  have hDa : q_DA A (zA_t_tell p0 p0_ends p0_tight) := q_DA.mk hD za_t_tell
  clear hAe hD0 hD
  have hS : va_S A s.heap s.heap [] := va_S.rf
  have m_0 : (.fieldLink RX0 11 "BowWalk$Bow" "tight" "[I" : Cond) ∈ zw_t_tell := List.mem_append_left _ (List.mem_of_getElem? (i := 1) rfl)
  have k_0 := hts _ m_0
  have m_1 : (.fieldLink RX0 42 "BowWalk$Bow" "likes" "I" : Cond) ∈ zw_t_tell := List.mem_append_left _ (List.mem_of_getElem? (i := 2) rfl)
  have k_1 := hts _ m_1
  have m_2 : (.fieldLink RX0 45 "BowWalk$Bow" "smooth" "I" : Cond) ∈ zw_t_tell := List.mem_append_left _ (List.mem_of_getElem? (i := 3) rfl)
  have k_2 := hts _ m_2
  have m_3 : (.fieldLink RX0 48 "BowWalk$Bow" "weight" "I" : Cond) ∈ zw_t_tell := List.mem_append_left _ (List.mem_of_getElem? (i := 4) rfl)
  have k_3 := hts _ m_3
  have m_4 : (.fieldLink RX0 17 "BowWalk$Bow" "ends" "[I" : Cond) ∈ zw_t_tell := List.mem_append_left _ (List.mem_of_getElem? (i := 5) rfl)
  have k_4 := hts _ m_4
  have m_5 : (.fieldLink RX0 39 "BowWalk$Bow" "sides" "I" : Cond) ∈ zw_t_tell := List.mem_append_left _ (List.mem_of_getElem? (i := 6) rfl)
  have k_5 := hts _ m_5
  have m_6 : (.fieldLink RX0 54 "BowWalk$Bow" "strike" "I" : Cond) ∈ zw_t_tell := List.mem_append_left _ (List.mem_of_getElem? (i := 7) rfl)
  have k_6 := hts _ m_6
  have m_7 : (.fieldLink RX0 57 "BowWalk$Bow" "swing" "I" : Cond) ∈ zw_t_tell := List.mem_append_left _ (List.mem_of_getElem? (i := 8) rfl)
  have k_7 := hts _ m_7
  have i_X0 : ∀ w ∈ u_ws RX0 TX0 15, w ∈ zw_t_tell := fun w h => List.mem_append_right _ (List.mem_append_left _ h)
  have lt_1 : (1 : Int32).toInt = 1 := by decide
  have lt_261 : (261 : Int32).toInt = 261 := by decide
  have lt_262 : (262 : Int32).toInt = 262 := by decide
  have lt_263 : (263 : Int32).toInt = 263 := by decide
  have lt_264 : (264 : Int32).toInt = 264 := by decide
  have lt_265 : (265 : Int32).toInt = 265 := by decide
  have lt_266 : (266 : Int32).toInt = 266 := by decide
  have lt_267 : (267 : Int32).toInt = 267 := by decide
  have hl := lv_entry ([.ref p0, .int a1, .int a2]) (n := 3) (Nat.le_of_ble_eq_true rfl)
  rw [lg_entry_eq]
  generalize (lg_sl ([.ref p0, .int a1, .int a2]) ++ List.replicate (3 - (lg_sl ([.ref p0, .int a1, .int a2])).length) Slot.unset).toArray = ls at hl ⊢
  have hl : lv_has ls 3 [(0, .ref p0), (1, .int a1), (2, .int a2)] := hl
  refine lv_iload_n hx hb dX0_tell_0 rfl (lv_at hl 1 rfl) ?_
  by_cases hk_1 : a1 = 261
  · refine lv_tableIn (tgt := 44) (off := 43) hx hb dX0_tell_1 (by rw [hk_1]; decide) (by rw [hk_1]; decide) (by rw [hk_1]; decide) (by decide) ?_
    have thk_1 := q_eq hk_1
    refine lv_aload_n hx hb dX0_tell_44 rfl (lv_at hl 0 rfl) (qg_X0_0 hx hb hts i_X0 hown hK hP 0 rfl k_0 fr_p0_0 dX0_tell_45 (lv_iload_n hx hb dX0_tell_48 rfl (lv_at hl 2 rfl) (q_ild hx hb hK hP 2 1 rfl rfl (q_in (by omega) (by omega)) dX0_tell_49 (fun v_2 ev_2 => ?_))))
    exact q_iret hx hb hr hlocks hS dX0_tell_50 ⟨hP, za_t_tell⟩
  by_cases hk_3 : a1 = 262
  · refine lv_tableIn (tgt := 51) (off := 50) hx hb dX0_tell_1 (by rw [hk_3]; decide) (by rw [hk_3]; decide) (by rw [hk_3]; decide) (by decide) ?_
    have thk_3 := q_eq hk_3
    refine lv_aload_n hx hb dX0_tell_51 rfl (lv_at hl 0 rfl) ?_
    obtain ⟨v_4, fv_4⟩ := OKX0_g9 ho_p0
    refine qg_X0_9 hx hb hts i_X0 hown hK hP 0 rfl k_1 fv_4 dX0_tell_52 (lv_iload_n hx hb dX0_tell_55 rfl (lv_at hl 2 rfl) (lv_ishr hx hb dX0_tell_56 (lv_topi fun v_5 ev_5 => lv_iconst (v := 1) hx hb dX0_tell_57 (by decide) (lv_iand hx hb dX0_tell_58 (lv_topi fun v_6 ev_6 => ?_)))))
    have tv_6 := q_and (k := 1) ev_6 (by decide) (by decide)
    exact q_iret hx hb hr hlocks hS dX0_tell_59 ⟨hP, za_t_tell⟩
  by_cases hk_7 : a1 = 263
  · refine lv_tableIn (tgt := 60) (off := 59) hx hb dX0_tell_1 (by rw [hk_7]; decide) (by rw [hk_7]; decide) (by rw [hk_7]; decide) (by decide) ?_
    have thk_7 := q_eq hk_7
    refine lv_iload_n hx hb dX0_tell_60 rfl (lv_at hl 2 rfl) ?_
    exact q_iret hx hb hr hlocks hS dX0_tell_61 ⟨hP, za_t_tell⟩
  by_cases hk_8 : a1 = 264
  · refine lv_tableIn (tgt := 62) (off := 61) hx hb dX0_tell_1 (by rw [hk_8]; decide) (by rw [hk_8]; decide) (by rw [hk_8]; decide) (by decide) ?_
    have thk_8 := q_eq hk_8
    refine lv_aload_n hx hb dX0_tell_62 rfl (lv_at hl 0 rfl) ?_
    obtain ⟨v_9, fv_9⟩ := OKX0_g10 ho_p0
    refine qg_X0_10 hx hb hts i_X0 hown hK hP 0 rfl k_2 fv_9 dX0_tell_63 ?_
    exact q_iret hx hb hr hlocks hS dX0_tell_66 ⟨hP, za_t_tell⟩
  by_cases hk_10 : a1 = 265
  · refine lv_tableIn (tgt := 67) (off := 66) hx hb dX0_tell_1 (by rw [hk_10]; decide) (by rw [hk_10]; decide) (by rw [hk_10]; decide) (by decide) ?_
    have thk_10 := q_eq hk_10
    refine lv_aload_n hx hb dX0_tell_67 rfl (lv_at hl 0 rfl) ?_
    obtain ⟨v_11, fv_11⟩ := OKX0_g11 ho_p0
    refine qg_X0_11 hx hb hts i_X0 hown hK hP 0 rfl k_3 fv_11 dX0_tell_68 ?_
    exact q_iret hx hb hr hlocks hS dX0_tell_71 ⟨hP, za_t_tell⟩
  by_cases hk_12 : a1 = 266
  · refine lv_tableIn (tgt := 72) (off := 71) hx hb dX0_tell_1 (by rw [hk_12]; decide) (by rw [hk_12]; decide) (by rw [hk_12]; decide) (by decide) ?_
    have thk_12 := q_eq hk_12
    refine lv_aload_n hx hb dX0_tell_72 rfl (lv_at hl 0 rfl) (qg_X0_1 hx hb hts i_X0 hown hK hP 0 rfl k_4 fr_p0_1 dX0_tell_73 (lv_aload_n hx hb dX0_tell_76 rfl (lv_at hl 0 rfl) ?_))
    obtain ⟨v_13, fv_13⟩ := OKX0_g8 ho_p0
    refine qg_X0_8 hx hb hts i_X0 hown hK hP 0 rfl k_5 fv_13 dX0_tell_77 (lv_iload_n hx hb dX0_tell_80 rfl (lv_at hl 2 rfl) (lv_ishr hx hb dX0_tell_81 (lv_topi fun v_14 ev_14 => lv_iconst (v := 1) hx hb dX0_tell_82 (by decide) (lv_iand hx hb dX0_tell_83 (lv_topi fun v_15 ev_15 => ?_)))))
    have tv_15 := q_and (k := 1) ev_15 (by decide) (by decide)
    refine q_ild hx hb hK hP 1 0 rfl rfl (q_in (by omega) (by omega)) dX0_tell_84 (fun v_16 ev_16 => ?_)
    exact q_iret hx hb hr hlocks hS dX0_tell_85 ⟨hP, za_t_tell⟩
  by_cases hk_17 : a1 = 267
  · refine lv_tableIn (tgt := 86) (off := 85) hx hb dX0_tell_1 (by rw [hk_17]; decide) (by rw [hk_17]; decide) (by rw [hk_17]; decide) (by decide) ?_
    have thk_17 := q_eq hk_17
    refine lv_aload_n hx hb dX0_tell_86 rfl (lv_at hl 0 rfl) ?_
    obtain ⟨v_18, fv_18⟩ := OKX0_g13 ho_p0
    refine qg_X0_13 hx hb hts i_X0 hown hK hP 0 rfl k_6 fv_18 dX0_tell_87 ?_
    exact q_iret hx hb hr hlocks hS dX0_tell_90 ⟨hP, za_t_tell⟩
  have thk_1 := q_ne hk_1
  have thk_3 := q_ne hk_3
  have thk_7 := q_ne hk_7
  have thk_8 := q_ne hk_8
  have thk_10 := q_ne hk_10
  have thk_12 := q_ne hk_12
  have thk_17 := q_ne hk_17
  refine lv_tableOut (tgt := 91) hx hb dX0_tell_1 (by omega) (by decide) ?_
  refine lv_aload_n hx hb dX0_tell_91 rfl (lv_at hl 0 rfl) ?_
  obtain ⟨v_19, fv_19⟩ := OKX0_g14 ho_p0
  refine qg_X0_14 hx hb hts i_X0 hown hK hP 0 rfl k_7 fv_19 dX0_tell_92 ?_
  exact q_iret hx hb hr hlocks hS dX0_tell_95 ⟨hP, za_t_tell⟩
