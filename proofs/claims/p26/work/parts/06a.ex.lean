/-- the words of the Statement that no list of words carries (nests, arrays over arrays), the String constant, the statics: what the constructors and shop() need of the start -/
def p1_tx : String := "knot cord walk law want tight like place smooth weight long strike swing luck over under rub pull holds or and not "
def p1_AO (ty : FieldType) (U : State) : Prop := (Cond.arrayOver ty).before #[] U = true
theorem p1_AO.use {ty : FieldType} {A : Array Value} {U : State} (h : p1_AO ty U) : (Cond.arrayOver ty).before A U = true := h
def q_sg : String := ";()<>=+-*/"
def q_ex (A : Nat → Prop) (U : State) (H : Heap) : Prop := ∃ (sK sV ru pu gK gV : Nat) (sf rf pf gf : Nat → Int32),
  (va_Nw (.methodLinkNest RX4 43 yX5_init "BowWalk") U ∧ va_Nw (.methodLinkNest RX5 52 yX3_init "BowWalk") U ∧ va_Nw (.methodLinkNest RX8 22 yX0_init "BowWalk") U ∧ va_Nw (.methodLinkNest RX8 29 yX7_init "BowWalk") U ∧ va_Nw (.methodLinkNest RX7 11 yX0_init "BowWalk") U ∧ va_Nw (.methodLinkNest RX8 36 yX2_init "BowWalk") U ∧ va_Nw (.methodLinkNest RX8 59 yX5_init "BowWalk") U ∧ va_Nw (.methodLinkNest RX8 78 yX1_init "BowWalk") U ∧ va_Nw (.methodLinkNest RX1 9 yX0_init "BowWalk") U) ∧
  (p1_AO (.array .long) U ∧ p1_AO (.array .int) U ∧ va_AO RX1 U) ∧ vk_R RX4 54 p1_tx sK U ∧
  (va_O "java/lang/String" sK A U H ∧ va_OF "java/lang/String" "coder" "B" (.int 0) sK A U H ∧ va_OF "java/lang/String" "value" "[B" (.ref sV) sK A U H ∧ va_T .byte sV 115 (fun j => .int (sf j)) A U H) ∧
  va_Z "java/lang/String" "COMPACT_STRINGS" "Z" (.int 1) A U H ∧ va_Zq "jdk/internal/util/Preconditions" "SIOOBE_FORMATTER" "Ljava/util/function/BiFunction;" A U H ∧
  (va_Z RX3 "UNTOLD_RUB" "[I" (.ref ru) A U H ∧ va_T .int ru 5 (fun j => .int (rf j)) A U H) ∧
  (va_Z RX3 "UNTOLD_PULL" "[I" (.ref pu) A U H ∧ va_T .int pu 7 (fun j => .int (pf j)) A U H) ∧
  vk_R RX4 122 q_sg gK U ∧ (va_O "java/lang/String" gK A U H ∧ va_OF "java/lang/String" "coder" "B" (.int 0) gK A U H ∧ va_OF "java/lang/String" "value" "[B" (.ref gV) gK A U H ∧ va_T .byte gV 10 (fun j => .int (gf j)) A U H)
theorem p1_aow {ty : FieldType} {u U : State} (hvm : u.vm.Alike U.vm) (h : p1_AO ty u) : p1_AO ty U := by
  have h1 : (Cond.arrayOver ty).before #[] (u.setVm U.vm) = true := by rw [Cond.arrayOver_setVmC hvm]; exact h
  exact h1
theorem q_ex.warm {A B : Nat → Prop} {s U : State} {H : Heap} {locs : List Loc} (h : q_ex A s s.heap) (hW : s.WarmedH U.vm) (hS : va_S A s.heap H locs) (hAB : ∀ q, B q → A q) : q_ex B U H := by
  obtain ⟨sK, sV, ru, pu, gK, gV, sf, rf, pf, gf, ⟨n1, n2, n3, n4, n5, n6, n7, n8, n9⟩, ⟨o1, o2, o3⟩, r1, ⟨t1, t2, t3, t4⟩, z1, z2, ⟨y1, y2⟩, ⟨w1, w2⟩, r2, ⟨g1, g2, g3, g4⟩⟩ := h
  have hq : ∀ a : Nat, a < s.heap.size → ¬ A a → H[a]? = s.heap[a]? := hS.2.1
  exact ⟨sK, sV, ru, pu, gK, gV, sf, rf, pf, gf, ⟨n1.warmM hW, n2.warmM hW, n3.warmM hW, n4.warmM hW, n5.warmM hW, n6.warmM hW, n7.warmM hW, n8.warmM hW, n9.warmM hW⟩, ⟨p1_aow hW.alike o1, p1_aow hW.alike o2, o3.moved hW.alike⟩, r1.warm hW,
    ⟨((t1.kept hq).moved hW.alike).narrow hAB, ((t2.kept hq).moved hW.alike).narrow hAB, ((t3.kept hq).moved hW.alike).narrow hAB, ((t4.kept hq).moved hW.alike).narrow hAB⟩, ((z1.kept hq).moved hW.alike).narrow hAB, ((z2.kept hq).moved hW.alike).narrow hAB, ⟨((y1.kept hq).moved hW.alike).narrow hAB, ((y2.kept hq).moved hW.alike).narrow hAB⟩, ⟨((w1.kept hq).moved hW.alike).narrow hAB, ((w2.kept hq).moved hW.alike).narrow hAB⟩, r2.warm hW, ⟨((g1.kept hq).moved hW.alike).narrow hAB, ((g2.kept hq).moved hW.alike).narrow hAB, ((g3.kept hq).moved hW.alike).narrow hAB, ((g4.kept hq).moved hW.alike).narrow hAB⟩⟩
/-- a String constant of N letters, alone: of its own methods -/
def q_st (N : Nat) (sK sV : Nat) (sf : Nat → Int32) (A : Nat → Prop) (U : State) (H : Heap) : Prop := va_O "java/lang/String" sK A U H ∧ va_OF "java/lang/String" "coder" "B" (.int 0) sK A U H ∧ va_OF "java/lang/String" "value" "[B" (.ref sV) sK A U H ∧ va_T .byte sV N (fun j => .int (sf j)) A U H ∧
  va_Z "java/lang/String" "COMPACT_STRINGS" "Z" (.int 1) A U H ∧ va_Zq "jdk/internal/util/Preconditions" "SIOOBE_FORMATTER" "Ljava/util/function/BiFunction;" A U H
theorem q_st.warm {N : Nat} {sK sV : Nat} {sf : Nat → Int32} {A B : Nat → Prop} {s U : State} {H : Heap} {locs : List Loc} (h : q_st N sK sV sf A s s.heap) (hW : s.WarmedH U.vm) (hS : va_S A s.heap H locs) (hAB : ∀ q, B q → A q) : q_st N sK sV sf B U H := by
  obtain ⟨t1, t2, t3, t4, z1, z2⟩ := h
  have hq : ∀ a : Nat, a < s.heap.size → ¬ A a → H[a]? = s.heap[a]? := hS.2.1
  exact ⟨((t1.kept hq).moved hW.alike).narrow hAB, ((t2.kept hq).moved hW.alike).narrow hAB, ((t3.kept hq).moved hW.alike).narrow hAB, ((t4.kept hq).moved hW.alike).narrow hAB, ((z1.kept hq).moved hW.alike).narrow hAB, ((z2.kept hq).moved hW.alike).narrow hAB⟩
theorem q_inN {i : Int32} {N : Nat} {c : Int32} (hc : c.toInt = N) (h1 : ¬ i < 0) (h2 : i < c) : vp_in i N := by
  rw [vp_in_iff]
  rw [Int32.lt_iff_toInt_lt] at h1 h2
  have e0 : (0 : Int32).toInt = 0 := by decide
  omega
theorem q_keep {D : va_G} {cl : List vw_C} {ws : va_W} {H H1 : Heap} (hP : va_P D cl ws H) (hk : ∀ q : Nat, q < H.size → ¬ va_A [] H.size q → H1[q]? = H[q]?) : va_P D cl ws H1 := by
  intro k q h
  have hl := (hP k q h).lt
  refine (hP k q h).kept (hk q.1 hl (fun z => ?_))
  rcases z with ⟨k2, e2, h2⟩ | h2
  · cases h2
  · omega
theorem q_P0 {D : va_G} {cl : List vw_C} {H : Heap} : va_P D cl [] H := fun k q h => by cases h
theorem q_D0 {A : Nat → Prop} : va_D A [] := ⟨fun i j p q h _ _ => (by cases h), fun k q h => (by cases h)⟩
theorem p1_recv {E : String} {t : Nat} {A : Nat → Prop} {s : State} {H : Heap} {locs : List Loc} (h : va_O E t A s s.heap) (hS : va_S A s.heap H locs) : ∃ cell : Cell, H[t]? = some cell ∧ cell.vm.isStatics = false ∧ s.vm.findClass E = some cell.cls := by
  obtain ⟨cell, h1, h2, h3, -⟩ := h.kept hS.2.1
  exact ⟨cell, h1, h2, h3⟩
theorem q_exw : q_warm q_ex := ⟨fun _ _ _ _ _ h => h, fun _ _ _ _ _ _ h hW hS hAB => h.warm hW hS hAB⟩
theorem q_nlt {x : Int32} (h : 0 ≤ x.toInt) : ¬ x < 0 := fun q => by
  have := Int32.lt_iff_toInt_lt.mp q
  have e0 : (0 : Int32).toInt = 0 := by decide
  omega
theorem q_ltI {x c : Int32} (h : x.toInt < c.toInt) : x < c := Int32.lt_iff_toInt_lt.mpr h
theorem q_c2 {i : Int32} (h1 : 0 ≤ i.toInt) (h2 : i.toInt ≤ 1) : i = 0 ∨ i = 1 := by
  have : i.toInt = 0 ∨ i.toInt = 1 := by omega
  rcases this with q | q
  · exact Or.inl (q_of (by rw [q]; decide))
  · exact Or.inr (q_of (by rw [q]; decide))
