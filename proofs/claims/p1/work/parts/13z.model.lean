def zo_n_Model : List Cond := [.code yX9_init cX9_init 2 none, .methodLink RX9 1 objectInit, .instanceMethod objectInit, .code objectInit ⟨#[0xb1]⟩ 1 none, .arrayClass .byte, .fieldLink RX9 7 "BowWalkModel" "tape" "[B", .fieldLink RX9 13 "BowWalkModel" "text" "[B", .fieldLink RX9 16 "BowWalkModel" "faultPlace" "I", .arrayClass .int, .fieldLink RX9 20 "BowWalkModel" "knots" "[I", .fieldLink RX9 24 "BowWalkModel" "cords" "[I", .fieldLink RX9 27 "BowWalkModel" "walks" "[I", .fieldLink RX9 30 "BowWalkModel" "laws" "[I", .fieldLink RX9 33 "BowWalkModel" "wants" "[I", .fieldLink RX9 36 "BowWalkModel" "tight" "[I", .fieldLink RX9 39 "BowWalkModel" "luck" "[I", .fieldLink RX9 42 "BowWalkModel" "unitsOf" "[I", .arrayClass .boolean, .fieldLink RX9 45 "BowWalkModel" "isTight" "[Z", .fieldLink RX9 49 "BowWalkModel" "isLuck" "[Z", .arrayClass .long, .fieldLink RX9 52 "BowWalkModel" "kName" "[J", .fieldLink RX9 56 "BowWalkModel" "cName" "[J", .fieldLink RX9 59 "BowWalkModel" "wName" "[J", .fieldLink RX9 62 "BowWalkModel" "lName" "[J", .fieldLink RX9 65 "BowWalkModel" "nName" "[J", .fieldLink RX9 68 "BowWalkModel" "sides" "[I", .fieldLink RX9 71 "BowWalkModel" "crossings" "[I", .fieldLink RX9 74 "BowWalkModel" "smooth" "[I", .fieldLink RX9 77 "BowWalkModel" "weight" "[I", .fieldLink RX9 80 "BowWalkModel" "longOf" "[I", .fieldLink RX9 83 "BowWalkModel" "steps" "[I", .fieldLink RX9 86 "BowWalkModel" "strikes" "[I", .fieldLink RX9 89 "BowWalkModel" "swings" "[I", .fieldLink RX9 92 "BowWalkModel" "wantHolds" "[I", .fieldLink RX9 95 "BowWalkModel" "wantPull" "[I", .fieldLink RX9 98 "BowWalkModel" "rFrom" "[I", .fieldLink RX9 101 "BowWalkModel" "rTo" "[I", .fieldLink RX9 104 "BowWalkModel" "code" "[I", .fieldLink RX9 107 "BowWalkModel" "codeNumber" "[I", .fieldLink RX9 110 "BowWalkModel" "eWhat" "[I", .fieldLink RX9 113 "BowWalkModel" "eSign" "[I", .fieldLink RX9 116 "BowWalkModel" "pile" "[I", .fieldLink RX9 119 "BowWalkModel" "bTight" "[I", .fieldLink RX9 122 "BowWalkModel" "bLong" "[I", .fieldLink RX9 125 "BowWalkModel" "w" "I", .fieldLink RX9 128 "BowWalkModel" "kHolds" "[I", .fieldLink RX9 131 "BowWalkModel" "kPulls" "[I", .fieldLink RX9 134 "BowWalkModel" "fKnot" "[I", .fieldLink RX9 137 "BowWalkModel" "fWalk" "[I", .fieldLink RX9 140 "BowWalkModel" "fSteps" "[I", .fieldLink RX9 143 "BowWalkModel" "fLength" "[I", .fieldLink RX9 146 "BowWalkModel" "fOff" "[I", .fieldLink RX9 149 "BowWalkModel" "fTold" "[I", .fieldLink RX9 152 "BowWalkModel" "fUntold" "[I", .fieldLink RX9 155 "BowWalkModel" "lengths" "[I", .fieldLink RX9 158 "BowWalkModel" "boxMany" "[I", .fieldLink RX9 161 "BowWalkModel" "boxRow" "[I", .fieldLink RX9 164 "BowWalkModel" "boxTight" "[I", .methodLink RX9 167 yX9_clearBank, .instanceMethod yX9_clearBank, .selects RX9 yX9_clearBank yX9_clearBank, .initialized RX9]
def zw_n_Model : List Cond := zo_n_Model ++ (zw_c_clearBank0 ++ (wsX90 ++ []))
theorem gz_n_Model : zw_n_Model.all goodWord = true := p1_ga (by decide +kernel) (p1_ga gz_c_clearBank0 (p1_ga gk_X9 p1_g0))
theorem iz_n_Model : ∀ w ∈ zw_n_Model, w ∈ lw_tbl := p1_ia (p1_all [1031, 1032, 126, 127, 171, 1037, 1038, 1042, 173, 1048, 1049, 1050, 1051, 1052, 1053, 1054, 1055, 253, 1056, 1057, 172, 1058, 1059, 1060, 1061, 1062, 1063, 1064, 1065, 1066, 1067, 1068, 1069, 1070, 1071, 1072, 1073, 1074, 1075, 1076, 1077, 1078, 1079, 1086, 1087, 1102, 1103, 1104, 1105, 1106, 1107, 1108, 1109, 1110, 1111, 1114, 1115, 1116, 1117, 1033, 1035, 43, 116] (by decide +kernel)) (p1_ia iz_c_clearBank0 (p1_ia ik_X9 p1_i0))
set_option maxHeartbeats 4000000 in
set_option maxRecDepth 100000 in
theorem n_Model (l : Launch) (dC : Nat → ClassId) (dI : Nat → Nat → Nat) (sz : Nat) (h0 : Nat) (fs : List Value) (f_fs_2 : fs[2]? = some (.int 0)) (f_fs_3 : fs[3]? = some (.int 0)) (f_fs_4 : fs[4]? = some (.int 0)) (f_fs_43 : fs[43]? = some (.int 0)) (f_fs_60 : fs[60]? = some (.int 0)) (f_fs_75 : fs[75]? = some (.int 0)) (f_fs_7 : fs[7]? = some (.int 0)) (f_fs_76 : fs[76]? = some (.int 0)) (f_fs_44 : fs[44]? = some (.int 0)) (l_fs : fs.length = 81) : Met l yX9_init zw_n_Model ({ frames := 1, cells := 49, slots := 7854, locals := 20 }) (va_Pc [.ref h0] (fun U => U.heap.size = sz ∧ va_P (dC, dI) vwCl [(h0, .inr (8, fs))] U.heap ∧ va_K (dC, dI) vwCl [] U ∧ va_D (fun _ => True) [(h0, .inr (8, fs))])) (va_Qv (fun (_ : Unit) => True) (fun _ t => ∃ (mt : List Value) (un : Nat) (bm : Nat) (tp : Nat) (kn : Nat) (co : Nat) (wa : Nat) (la : Nat) (wt : Nat) (ti : Nat) (lu : Nat) (it : Nat) (il : Nat) (cP : ClassId) (cK : ClassId) (kfo : Nat → Int32) (cC : ClassId) (cfo : Nat → Int32) (cW : ClassId) (wfo : Nat → Int32) (cL : ClassId) (lfo : Nat → Int32) (cT : ClassId) (tfo : Nat → Int32) (cI : ClassId) (if0o : Nat → Int32) (cU : ClassId) (ufo : Nat → Int32) (cY : ClassId) (yfo : Nat → Int32) (cZ : ClassId) (zfo : Nat → Int32) (cV : ClassId) (cB : ClassId) (bmf : Nat → Int32), mt.length = 81 ∧ mt[2]? = some (.int 0) ∧ mt[3]? = some (.int 0) ∧ mt[4]? = some (.int 0) ∧ mt[5]? = some (.int (-1)) ∧ mt[43]? = some (.int 0) ∧ mt[60]? = some (.int 0) ∧ mt[75]? = some (.int 0) ∧ mt[18]? = some (.ref un) ∧ mt[78]? = some (.ref bm) ∧ mt[7]? = some (.int 0) ∧ mt[0]? = some (.ref tp) ∧ mt[65]? = some (.int 1) ∧ mt[76]? = some (.int 0) ∧ mt[11]? = some (.ref kn) ∧ mt[12]? = some (.ref co) ∧ mt[13]? = some (.ref wa) ∧ mt[14]? = some (.ref la) ∧ mt[15]? = some (.ref wt) ∧ mt[16]? = some (.ref ti) ∧ mt[17]? = some (.ref lu) ∧ mt[19]? = some (.ref it) ∧ mt[20]? = some (.ref il) ∧ kfo 0 = 0 ∧ cfo 0 = 0 ∧ wfo 0 = 0 ∧ lfo 0 = 0 ∧ tfo 0 = 0 ∧ bmf 0 = (-1) ∧ bmf 1 = (-1) ∧ bmf 2 = (-1) ∧ bmf 3 = (-1) ∧ va_P (dC, dI) vwCl [(h0, .inr (8, mt)), (tp, .inl (cP, 1620, .inl (fun _ => 0))), (kn, .inl (cK, 2, .inl kfo)), (co, .inl (cC, 2, .inl cfo)), (wa, .inl (cW, 2, .inl wfo)), (la, .inl (cL, 2, .inl lfo)), (wt, .inl (cT, 2, .inl tfo)), (ti, .inl (cI, 2, .inl if0o)), (lu, .inl (cU, 2, .inl ufo)), (it, .inl (cY, 2, .inl yfo)), (il, .inl (cZ, 2, .inl zfo)), (un, .inl (cV, 2, .inl (fun _ => 0))), (bm, .inl (cB, 4, .inl bmf))] t.heap ∧ va_K (dC, dI) vwCl [(cP, .byte), (cK, .int), (cC, .int), (cW, .int), (cL, .int), (cT, .int), (cI, .int), (cU, .int), (cY, .boolean), (cZ, .boolean), (cV, .int), (cB, .int)] t ∧ va_D (va_A [(h0, .inr (8, fs))] sz) [(h0, .inr (8, mt)), (tp, .inl (cP, 1620, .inl (fun _ => 0))), (kn, .inl (cK, 2, .inl kfo)), (co, .inl (cC, 2, .inl cfo)), (wa, .inl (cW, 2, .inl wfo)), (la, .inl (cL, 2, .inl lfo)), (wt, .inl (cT, 2, .inl tfo)), (ti, .inl (cI, 2, .inl if0o)), (lu, .inl (cU, 2, .inl ufo)), (it, .inl (cY, 2, .inl yfo)), (il, .inl (cZ, 2, .inl zfo)), (un, .inl (cV, 2, .inl (fun _ => 0))), (bm, .inl (cB, 4, .inl bmf))]) (va_A [(h0, .inr (8, fs))] sz)) 49 7854 (va_A [(h0, .inr (8, fs))] sz) := by
  refine Met.ofW (cc := cX9_init) (maxL := 2) (ret := none) (by decide) rfl ?_
  intro p e s m args below meth c s₁ B hml hv
  obtain ⟨rfl, hsz, hP, hK, hD0⟩ := hv
  have hx := B.exec
  have hb := B.bytes
  have hr := B.returns
  have hts := atoms_spec (ws := zw_n_Model) B.pre
  have hown : s.vm.findClass RX9 = some m.cls := findClass_of_methodNamed B.named
  have hlocks := B.notSynchronized
  have hin : meth.name = "<init>" := (name_of_methodNamed B.named B.method).1
  subst hsz
  have hD := hD0.self (sz := s.heap.size)
  generalize hAe : va_A [(h0, .inr (8, fs))] s.heap.size = A at hD ⊢
  have hA : ∀ q : Nat, s.heap.size ≤ q → A q := fun q h => by rw [← hAe]; exact Or.inr h
  have hS : va_S A s.heap s.heap [] := va_S.rf
  have hP : va_P (dC, dI) vwCl [(h0, .inr (8, fs))] s.heap := hP
  have m_0 : (.methodLink RX9 1 objectInit : Cond) ∈ zw_n_Model := List.mem_append_left _ (List.mem_of_getElem? (i := 1) rfl)
  have k_0 := hts _ m_0
  have m_1 : (.instanceMethod objectInit : Cond) ∈ zw_n_Model := List.mem_append_left _ (List.mem_of_getElem? (i := 2) rfl)
  have k_1 := hts _ m_1
  have m_2 : (.code objectInit ⟨#[0xb1]⟩ 1 none : Cond) ∈ zw_n_Model := List.mem_append_left _ (List.mem_of_getElem? (i := 3) rfl)
  have k_2 := hts _ m_2
  have m_3 : (.arrayClass .byte : Cond) ∈ zw_n_Model := List.mem_append_left _ (List.mem_of_getElem? (i := 4) rfl)
  have k_3 := hts _ m_3
  have m_4 : (.fieldLink RX9 7 "BowWalkModel" "tape" "[B" : Cond) ∈ zw_n_Model := List.mem_append_left _ (List.mem_of_getElem? (i := 5) rfl)
  have k_4 := hts _ m_4
  have m_5 : (.fieldLink RX9 13 "BowWalkModel" "text" "[B" : Cond) ∈ zw_n_Model := List.mem_append_left _ (List.mem_of_getElem? (i := 6) rfl)
  have k_5 := hts _ m_5
  have m_6 : (.fieldLink RX9 16 "BowWalkModel" "faultPlace" "I" : Cond) ∈ zw_n_Model := List.mem_append_left _ (List.mem_of_getElem? (i := 7) rfl)
  have k_6 := hts _ m_6
  have m_7 : (.arrayClass .int : Cond) ∈ zw_n_Model := List.mem_append_left _ (List.mem_of_getElem? (i := 8) rfl)
  have k_7 := hts _ m_7
  have m_8 : (.fieldLink RX9 20 "BowWalkModel" "knots" "[I" : Cond) ∈ zw_n_Model := List.mem_append_left _ (List.mem_of_getElem? (i := 9) rfl)
  have k_8 := hts _ m_8
  have m_9 : (.fieldLink RX9 24 "BowWalkModel" "cords" "[I" : Cond) ∈ zw_n_Model := List.mem_append_left _ (List.mem_of_getElem? (i := 10) rfl)
  have k_9 := hts _ m_9
  have m_10 : (.fieldLink RX9 27 "BowWalkModel" "walks" "[I" : Cond) ∈ zw_n_Model := List.mem_append_left _ (List.mem_of_getElem? (i := 11) rfl)
  have k_10 := hts _ m_10
  have m_11 : (.fieldLink RX9 30 "BowWalkModel" "laws" "[I" : Cond) ∈ zw_n_Model := List.mem_append_left _ (List.mem_of_getElem? (i := 12) rfl)
  have k_11 := hts _ m_11
  have m_12 : (.fieldLink RX9 33 "BowWalkModel" "wants" "[I" : Cond) ∈ zw_n_Model := List.mem_append_left _ (List.mem_of_getElem? (i := 13) rfl)
  have k_12 := hts _ m_12
  have m_13 : (.fieldLink RX9 36 "BowWalkModel" "tight" "[I" : Cond) ∈ zw_n_Model := List.mem_append_left _ (List.mem_of_getElem? (i := 14) rfl)
  have k_13 := hts _ m_13
  have m_14 : (.fieldLink RX9 39 "BowWalkModel" "luck" "[I" : Cond) ∈ zw_n_Model := List.mem_append_left _ (List.mem_of_getElem? (i := 15) rfl)
  have k_14 := hts _ m_14
  have m_15 : (.fieldLink RX9 42 "BowWalkModel" "unitsOf" "[I" : Cond) ∈ zw_n_Model := List.mem_append_left _ (List.mem_of_getElem? (i := 16) rfl)
  have k_15 := hts _ m_15
  have m_16 : (.arrayClass .boolean : Cond) ∈ zw_n_Model := List.mem_append_left _ (List.mem_of_getElem? (i := 17) rfl)
  have k_16 := hts _ m_16
  have m_17 : (.fieldLink RX9 45 "BowWalkModel" "isTight" "[Z" : Cond) ∈ zw_n_Model := List.mem_append_left _ (List.mem_of_getElem? (i := 18) rfl)
  have k_17 := hts _ m_17
  have m_18 : (.fieldLink RX9 49 "BowWalkModel" "isLuck" "[Z" : Cond) ∈ zw_n_Model := List.mem_append_left _ (List.mem_of_getElem? (i := 19) rfl)
  have k_18 := hts _ m_18
  have m_19 : (.arrayClass .long : Cond) ∈ zw_n_Model := List.mem_append_left _ (List.mem_of_getElem? (i := 20) rfl)
  have k_19 := hts _ m_19
  have m_20 : (.fieldLink RX9 52 "BowWalkModel" "kName" "[J" : Cond) ∈ zw_n_Model := List.mem_append_left _ (List.mem_of_getElem? (i := 21) rfl)
  have k_20 := hts _ m_20
  have m_21 : (.fieldLink RX9 56 "BowWalkModel" "cName" "[J" : Cond) ∈ zw_n_Model := List.mem_append_left _ (List.mem_of_getElem? (i := 22) rfl)
  have k_21 := hts _ m_21
  have m_22 : (.fieldLink RX9 59 "BowWalkModel" "wName" "[J" : Cond) ∈ zw_n_Model := List.mem_append_left _ (List.mem_of_getElem? (i := 23) rfl)
  have k_22 := hts _ m_22
  have m_23 : (.fieldLink RX9 62 "BowWalkModel" "lName" "[J" : Cond) ∈ zw_n_Model := List.mem_append_left _ (List.mem_of_getElem? (i := 24) rfl)
  have k_23 := hts _ m_23
  have m_24 : (.fieldLink RX9 65 "BowWalkModel" "nName" "[J" : Cond) ∈ zw_n_Model := List.mem_append_left _ (List.mem_of_getElem? (i := 25) rfl)
  have k_24 := hts _ m_24
  have m_25 : (.fieldLink RX9 68 "BowWalkModel" "sides" "[I" : Cond) ∈ zw_n_Model := List.mem_append_left _ (List.mem_of_getElem? (i := 26) rfl)
  have k_25 := hts _ m_25
  have m_26 : (.fieldLink RX9 71 "BowWalkModel" "crossings" "[I" : Cond) ∈ zw_n_Model := List.mem_append_left _ (List.mem_of_getElem? (i := 27) rfl)
  have k_26 := hts _ m_26
  have m_27 : (.fieldLink RX9 74 "BowWalkModel" "smooth" "[I" : Cond) ∈ zw_n_Model := List.mem_append_left _ (List.mem_of_getElem? (i := 28) rfl)
  have k_27 := hts _ m_27
  have m_28 : (.fieldLink RX9 77 "BowWalkModel" "weight" "[I" : Cond) ∈ zw_n_Model := List.mem_append_left _ (List.mem_of_getElem? (i := 29) rfl)
  have k_28 := hts _ m_28
  have m_29 : (.fieldLink RX9 80 "BowWalkModel" "longOf" "[I" : Cond) ∈ zw_n_Model := List.mem_append_left _ (List.mem_of_getElem? (i := 30) rfl)
  have k_29 := hts _ m_29
  have m_30 : (.fieldLink RX9 83 "BowWalkModel" "steps" "[I" : Cond) ∈ zw_n_Model := List.mem_append_left _ (List.mem_of_getElem? (i := 31) rfl)
  have k_30 := hts _ m_30
  have m_31 : (.fieldLink RX9 86 "BowWalkModel" "strikes" "[I" : Cond) ∈ zw_n_Model := List.mem_append_left _ (List.mem_of_getElem? (i := 32) rfl)
  have k_31 := hts _ m_31
  have m_32 : (.fieldLink RX9 89 "BowWalkModel" "swings" "[I" : Cond) ∈ zw_n_Model := List.mem_append_left _ (List.mem_of_getElem? (i := 33) rfl)
  have k_32 := hts _ m_32
  have m_33 : (.fieldLink RX9 92 "BowWalkModel" "wantHolds" "[I" : Cond) ∈ zw_n_Model := List.mem_append_left _ (List.mem_of_getElem? (i := 34) rfl)
  have k_33 := hts _ m_33
  have m_34 : (.fieldLink RX9 95 "BowWalkModel" "wantPull" "[I" : Cond) ∈ zw_n_Model := List.mem_append_left _ (List.mem_of_getElem? (i := 35) rfl)
  have k_34 := hts _ m_34
  have m_35 : (.fieldLink RX9 98 "BowWalkModel" "rFrom" "[I" : Cond) ∈ zw_n_Model := List.mem_append_left _ (List.mem_of_getElem? (i := 36) rfl)
  have k_35 := hts _ m_35
  have m_36 : (.fieldLink RX9 101 "BowWalkModel" "rTo" "[I" : Cond) ∈ zw_n_Model := List.mem_append_left _ (List.mem_of_getElem? (i := 37) rfl)
  have k_36 := hts _ m_36
  have m_37 : (.fieldLink RX9 104 "BowWalkModel" "code" "[I" : Cond) ∈ zw_n_Model := List.mem_append_left _ (List.mem_of_getElem? (i := 38) rfl)
  have k_37 := hts _ m_37
  have m_38 : (.fieldLink RX9 107 "BowWalkModel" "codeNumber" "[I" : Cond) ∈ zw_n_Model := List.mem_append_left _ (List.mem_of_getElem? (i := 39) rfl)
  have k_38 := hts _ m_38
  have m_39 : (.fieldLink RX9 110 "BowWalkModel" "eWhat" "[I" : Cond) ∈ zw_n_Model := List.mem_append_left _ (List.mem_of_getElem? (i := 40) rfl)
  have k_39 := hts _ m_39
  have m_40 : (.fieldLink RX9 113 "BowWalkModel" "eSign" "[I" : Cond) ∈ zw_n_Model := List.mem_append_left _ (List.mem_of_getElem? (i := 41) rfl)
  have k_40 := hts _ m_40
  have m_41 : (.fieldLink RX9 116 "BowWalkModel" "pile" "[I" : Cond) ∈ zw_n_Model := List.mem_append_left _ (List.mem_of_getElem? (i := 42) rfl)
  have k_41 := hts _ m_41
  have m_42 : (.fieldLink RX9 119 "BowWalkModel" "bTight" "[I" : Cond) ∈ zw_n_Model := List.mem_append_left _ (List.mem_of_getElem? (i := 43) rfl)
  have k_42 := hts _ m_42
  have m_43 : (.fieldLink RX9 122 "BowWalkModel" "bLong" "[I" : Cond) ∈ zw_n_Model := List.mem_append_left _ (List.mem_of_getElem? (i := 44) rfl)
  have k_43 := hts _ m_43
  have m_44 : (.fieldLink RX9 125 "BowWalkModel" "w" "I" : Cond) ∈ zw_n_Model := List.mem_append_left _ (List.mem_of_getElem? (i := 45) rfl)
  have k_44 := hts _ m_44
  have m_45 : (.fieldLink RX9 128 "BowWalkModel" "kHolds" "[I" : Cond) ∈ zw_n_Model := List.mem_append_left _ (List.mem_of_getElem? (i := 46) rfl)
  have k_45 := hts _ m_45
  have m_46 : (.fieldLink RX9 131 "BowWalkModel" "kPulls" "[I" : Cond) ∈ zw_n_Model := List.mem_append_left _ (List.mem_of_getElem? (i := 47) rfl)
  have k_46 := hts _ m_46
  have m_47 : (.fieldLink RX9 134 "BowWalkModel" "fKnot" "[I" : Cond) ∈ zw_n_Model := List.mem_append_left _ (List.mem_of_getElem? (i := 48) rfl)
  have k_47 := hts _ m_47
  have m_48 : (.fieldLink RX9 137 "BowWalkModel" "fWalk" "[I" : Cond) ∈ zw_n_Model := List.mem_append_left _ (List.mem_of_getElem? (i := 49) rfl)
  have k_48 := hts _ m_48
  have m_49 : (.fieldLink RX9 140 "BowWalkModel" "fSteps" "[I" : Cond) ∈ zw_n_Model := List.mem_append_left _ (List.mem_of_getElem? (i := 50) rfl)
  have k_49 := hts _ m_49
  have m_50 : (.fieldLink RX9 143 "BowWalkModel" "fLength" "[I" : Cond) ∈ zw_n_Model := List.mem_append_left _ (List.mem_of_getElem? (i := 51) rfl)
  have k_50 := hts _ m_50
  have m_51 : (.fieldLink RX9 146 "BowWalkModel" "fOff" "[I" : Cond) ∈ zw_n_Model := List.mem_append_left _ (List.mem_of_getElem? (i := 52) rfl)
  have k_51 := hts _ m_51
  have m_52 : (.fieldLink RX9 149 "BowWalkModel" "fTold" "[I" : Cond) ∈ zw_n_Model := List.mem_append_left _ (List.mem_of_getElem? (i := 53) rfl)
  have k_52 := hts _ m_52
  have m_53 : (.fieldLink RX9 152 "BowWalkModel" "fUntold" "[I" : Cond) ∈ zw_n_Model := List.mem_append_left _ (List.mem_of_getElem? (i := 54) rfl)
  have k_53 := hts _ m_53
  have m_54 : (.fieldLink RX9 155 "BowWalkModel" "lengths" "[I" : Cond) ∈ zw_n_Model := List.mem_append_left _ (List.mem_of_getElem? (i := 55) rfl)
  have k_54 := hts _ m_54
  have m_55 : (.fieldLink RX9 158 "BowWalkModel" "boxMany" "[I" : Cond) ∈ zw_n_Model := List.mem_append_left _ (List.mem_of_getElem? (i := 56) rfl)
  have k_55 := hts _ m_55
  have m_56 : (.fieldLink RX9 161 "BowWalkModel" "boxRow" "[I" : Cond) ∈ zw_n_Model := List.mem_append_left _ (List.mem_of_getElem? (i := 57) rfl)
  have k_56 := hts _ m_56
  have m_57 : (.fieldLink RX9 164 "BowWalkModel" "boxTight" "[I" : Cond) ∈ zw_n_Model := List.mem_append_left _ (List.mem_of_getElem? (i := 58) rfl)
  have k_57 := hts _ m_57
  have m_58 : (.methodLink RX9 167 yX9_clearBank : Cond) ∈ zw_n_Model := List.mem_append_left _ (List.mem_of_getElem? (i := 59) rfl)
  have k_58 := hts _ m_58
  have m_59 : (.instanceMethod yX9_clearBank : Cond) ∈ zw_n_Model := List.mem_append_left _ (List.mem_of_getElem? (i := 60) rfl)
  have k_59 := hts _ m_59
  have m_60 : (.selects RX9 yX9_clearBank yX9_clearBank : Cond) ∈ zw_n_Model := List.mem_append_left _ (List.mem_of_getElem? (i := 61) rfl)
  have k_60 := hts _ m_60
  have m_61 : (.initialized RX9 : Cond) ∈ zw_n_Model := List.mem_append_left _ (List.mem_of_getElem? (i := 62) rfl)
  have k_61 := hts _ m_61
  have g_c_clearBank0 : ∀ w ∈ zw_c_clearBank0, w ∈ zw_n_Model := fun w h => List.mem_append_right _ (List.mem_append_left _ h)
  have i_X9 : ∀ w ∈ u_ws RX9 TX9 81, w ∈ zw_n_Model := fun w h => List.mem_append_right _ (List.mem_append_right _ (List.mem_append_left _ h))
  have hl := lv_entry ([.ref h0]) (n := 2) (Nat.le_of_ble_eq_true rfl)
  rw [lg_entry_eq]
  generalize (lg_sl ([.ref h0]) ++ List.replicate (2 - (lg_sl ([.ref h0])).length) Slot.unset).toArray = ls at hl ⊢
  have hl : lv_has ls 2 [(0, .ref h0)] := hl
  refine lv_aload_n hx hb dX9_init_0 rfl (lv_at hl 0 rfl) ?_
  refine W.objInit hx hb hown k_0 k_1 k_2 rfl (by rw [hml]; exact hl.1) rfl dX9_init_1 (Nat.le_of_ble_eq_true rfl) (Nat.le_of_ble_eq_true rfl) ?_
  refine W.eq (g2 := F0 m 4 ls []) rfl ?_
  refine lv_aload_n hx hb dX9_init_4 rfl (lv_at hl 0 rfl) ?_
  refine lv_sipush (v := 1620) hx hb dX9_init_5 (by decide) ?_
  refine va_newa (atype := .byte) (ty := .byte) (N' := 1620) (a0 := (1620, .inl (fun _ => 0))) hx hb k_3 rfl hK hP hD hS hA (fun _ => rfl) (by decide) rfl (by decide) (by decide) (by decide) dX9_init_8 (fun q_1 cA_2 H hK hP hD hS => ?_)
  have hP : va_P (dC, dI) vwCl [(h0, .inr (8, fs)), (q_1, .inl (cA_2, 1620, .inl (fun _ => 0)))] H := hP
  have hD : va_D A [(h0, .inr (8, fs)), (q_1, .inl (cA_2, 1620, .inl (fun _ => 0)))] := hD
  have hK : va_K (dC, dI) vwCl [(cA_2, .byte)] s := hK
  refine W.widen (k := 1) (n := 1620) (by decide) (by decide) ?_
  refine va_putF (D := (dC, dI)) (ci := 8) (v := .ref q_1) (ty := .array .byte) (C := RX9) (T := TX9) (N := 81) hx hb hts i_X9 tyX9 tyX9_ok nmX9 hown hK hP hD hS 0 rfl rfl 0 (by decide) k_4 (fun _ h9 => h9) rfl hin rfl (by decide +kernel) rfl rfl (by rw [l_fs]; decide) dX9_init_10 (fun H locs hP hD hS => ?_)
  have hP : va_P (dC, dI) vwCl [(h0, .inr (8, (fs.set 0 (.ref q_1)))), (q_1, .inl (cA_2, 1620, .inl (fun _ => 0)))] H := hP
  have hD : va_D A [(h0, .inr (8, (fs.set 0 (.ref q_1)))), (q_1, .inl (cA_2, 1620, .inl (fun _ => 0)))] := hD
  generalize efs_3 : (fs.set 0 (.ref q_1)) = fs_3 at hP hD
  have lfs_3 : fs_3.length = 81 := by rw [← efs_3, List.length_set]; exact l_fs
  have ffs_3_2 : fs_3[2]? = some (.int 0) := by rw [← efs_3]; exact p1_sn (by decide) f_fs_2
  have ffs_3_3 : fs_3[3]? = some (.int 0) := by rw [← efs_3]; exact p1_sn (by decide) f_fs_3
  have ffs_3_4 : fs_3[4]? = some (.int 0) := by rw [← efs_3]; exact p1_sn (by decide) f_fs_4
  have ffs_3_43 : fs_3[43]? = some (.int 0) := by rw [← efs_3]; exact p1_sn (by decide) f_fs_43
  have ffs_3_60 : fs_3[60]? = some (.int 0) := by rw [← efs_3]; exact p1_sn (by decide) f_fs_60
  have ffs_3_75 : fs_3[75]? = some (.int 0) := by rw [← efs_3]; exact p1_sn (by decide) f_fs_75
  have ffs_3_7 : fs_3[7]? = some (.int 0) := by rw [← efs_3]; exact p1_sn (by decide) f_fs_7
  have ffs_3_76 : fs_3[76]? = some (.int 0) := by rw [← efs_3]; exact p1_sn (by decide) f_fs_76
  have ffs_3_44 : fs_3[44]? = some (.int 0) := by rw [← efs_3]; exact p1_sn (by decide) f_fs_44
  have ffs_3_0 : fs_3[0]? = some (.ref q_1) := by rw [← efs_3]; exact p1_sa l_fs (by decide)
  refine lv_aload_n hx hb dX9_init_13 rfl (lv_at hl 0 rfl) ?_
  refine lv_sipush (v := 1600) hx hb dX9_init_14 (by decide) ?_
  refine va_newa (atype := .byte) (ty := .byte) (N' := 1600) (a0 := (1600, .inl (fun _ => 0))) hx hb k_3 rfl hK hP hD hS hA (fun _ => rfl) (by decide) rfl (by decide) (by decide) (by decide) dX9_init_17 (fun q_4 cA_5 H hK hP hD hS => ?_)
  have hP : va_P (dC, dI) vwCl [(h0, .inr (8, fs_3)), (q_1, .inl (cA_2, 1620, .inl (fun _ => 0))), (q_4, .inl (cA_5, 1600, .inl (fun _ => 0)))] H := hP
  have hD : va_D A [(h0, .inr (8, fs_3)), (q_1, .inl (cA_2, 1620, .inl (fun _ => 0))), (q_4, .inl (cA_5, 1600, .inl (fun _ => 0)))] := hD
  have hK : va_K (dC, dI) vwCl [(cA_2, .byte), (cA_5, .byte)] s := hK
  refine W.widen (k := 2) (n := 3220) (by decide) (by decide) ?_
  refine va_putF (D := (dC, dI)) (ci := 8) (v := .ref q_4) (ty := .array .byte) (C := RX9) (T := TX9) (N := 81) hx hb hts i_X9 tyX9 tyX9_ok nmX9 hown hK hP hD hS 0 rfl rfl 1 (by decide) k_5 (fun _ h9 => h9) rfl hin rfl (by decide +kernel) rfl rfl (by rw [lfs_3]; decide) dX9_init_19 (fun H locs hP hD hS => ?_)
  have hP : va_P (dC, dI) vwCl [(h0, .inr (8, (fs_3.set 1 (.ref q_4)))), (q_1, .inl (cA_2, 1620, .inl (fun _ => 0))), (q_4, .inl (cA_5, 1600, .inl (fun _ => 0)))] H := hP
  have hD : va_D A [(h0, .inr (8, (fs_3.set 1 (.ref q_4)))), (q_1, .inl (cA_2, 1620, .inl (fun _ => 0))), (q_4, .inl (cA_5, 1600, .inl (fun _ => 0)))] := hD
  generalize efs_6 : (fs_3.set 1 (.ref q_4)) = fs_6 at hP hD
  have lfs_6 : fs_6.length = 81 := by rw [← efs_6, List.length_set]; exact lfs_3
  have ffs_6_2 : fs_6[2]? = some (.int 0) := by rw [← efs_6]; exact p1_sn (by decide) ffs_3_2
  have ffs_6_3 : fs_6[3]? = some (.int 0) := by rw [← efs_6]; exact p1_sn (by decide) ffs_3_3
  have ffs_6_4 : fs_6[4]? = some (.int 0) := by rw [← efs_6]; exact p1_sn (by decide) ffs_3_4
  have ffs_6_43 : fs_6[43]? = some (.int 0) := by rw [← efs_6]; exact p1_sn (by decide) ffs_3_43
  have ffs_6_60 : fs_6[60]? = some (.int 0) := by rw [← efs_6]; exact p1_sn (by decide) ffs_3_60
  have ffs_6_75 : fs_6[75]? = some (.int 0) := by rw [← efs_6]; exact p1_sn (by decide) ffs_3_75
  have ffs_6_7 : fs_6[7]? = some (.int 0) := by rw [← efs_6]; exact p1_sn (by decide) ffs_3_7
  have ffs_6_76 : fs_6[76]? = some (.int 0) := by rw [← efs_6]; exact p1_sn (by decide) ffs_3_76
  have ffs_6_44 : fs_6[44]? = some (.int 0) := by rw [← efs_6]; exact p1_sn (by decide) ffs_3_44
  have ffs_6_0 : fs_6[0]? = some (.ref q_1) := by rw [← efs_6]; exact p1_sn (by decide) ffs_3_0
  have ffs_6_1 : fs_6[1]? = some (.ref q_4) := by rw [← efs_6]; exact p1_sa lfs_3 (by decide)
  have hP := hP.sub (ws' := [(h0, .inr (8, fs_6)), (q_1, .inl (cA_2, 1620, .inl (fun _ => 0)))]) [0, 1] rfl
  have hD := hD.sub (ws' := [(h0, .inr (8, fs_6)), (q_1, .inl (cA_2, 1620, .inl (fun _ => 0)))]) [0, 1] (by decide) rfl
  have hK := hK.sub (tys' := [(cA_2, .byte)]) [0] rfl
  refine lv_aload_n hx hb dX9_init_22 rfl (lv_at hl 0 rfl) ?_
  refine lv_iconst (v := (-1)) hx hb dX9_init_23 (by decide) ?_
  refine va_put (D := (dC, dI)) (ci := 8) (v := .int (-1)) (ty := .int) (C := RX9) (T := TX9) (N := 81) hx hb hts i_X9 tyX9 tyX9_ok nmX9 hown hK hP hD hS 0 rfl rfl 5 (by decide) k_6 (fun _ h9 => h9) rfl (by decide +kernel) rfl rfl (by rw [lfs_6]; decide) dX9_init_24 (fun H locs hP hD hS => ?_)
  have hP : va_P (dC, dI) vwCl [(h0, .inr (8, (fs_6.set 5 (.int (-1))))), (q_1, .inl (cA_2, 1620, .inl (fun _ => 0)))] H := hP
  have hD : va_D A [(h0, .inr (8, (fs_6.set 5 (.int (-1))))), (q_1, .inl (cA_2, 1620, .inl (fun _ => 0)))] := hD
  generalize efs_7 : (fs_6.set 5 (.int (-1))) = fs_7 at hP hD
  have lfs_7 : fs_7.length = 81 := by rw [← efs_7, List.length_set]; exact lfs_6
  have ffs_7_2 : fs_7[2]? = some (.int 0) := by rw [← efs_7]; exact p1_sn (by decide) ffs_6_2
  have ffs_7_3 : fs_7[3]? = some (.int 0) := by rw [← efs_7]; exact p1_sn (by decide) ffs_6_3
  have ffs_7_4 : fs_7[4]? = some (.int 0) := by rw [← efs_7]; exact p1_sn (by decide) ffs_6_4
  have ffs_7_43 : fs_7[43]? = some (.int 0) := by rw [← efs_7]; exact p1_sn (by decide) ffs_6_43
  have ffs_7_60 : fs_7[60]? = some (.int 0) := by rw [← efs_7]; exact p1_sn (by decide) ffs_6_60
  have ffs_7_75 : fs_7[75]? = some (.int 0) := by rw [← efs_7]; exact p1_sn (by decide) ffs_6_75
  have ffs_7_7 : fs_7[7]? = some (.int 0) := by rw [← efs_7]; exact p1_sn (by decide) ffs_6_7
  have ffs_7_76 : fs_7[76]? = some (.int 0) := by rw [← efs_7]; exact p1_sn (by decide) ffs_6_76
  have ffs_7_44 : fs_7[44]? = some (.int 0) := by rw [← efs_7]; exact p1_sn (by decide) ffs_6_44
  have ffs_7_0 : fs_7[0]? = some (.ref q_1) := by rw [← efs_7]; exact p1_sn (by decide) ffs_6_0
  have ffs_7_5 : fs_7[5]? = some (.int (-1)) := by rw [← efs_7]; exact p1_sa lfs_6 (by decide)
  refine lv_aload_n hx hb dX9_init_27 rfl (lv_at hl 0 rfl) ?_
  refine lv_iconst (v := 2) hx hb dX9_init_28 (by decide) ?_
  refine va_newa (atype := .int) (ty := .int) (N' := 2) (a0 := (2, .inl (fun _ => 0))) hx hb k_7 rfl hK hP hD hS hA (fun _ => rfl) (by decide) rfl (by decide) (by decide) (by decide) dX9_init_29 (fun q_8 cA_9 H hK hP hD hS => ?_)
  have hP : va_P (dC, dI) vwCl [(h0, .inr (8, fs_7)), (q_1, .inl (cA_2, 1620, .inl (fun _ => 0))), (q_8, .inl (cA_9, 2, .inl (fun _ => 0)))] H := hP
  have hD : va_D A [(h0, .inr (8, fs_7)), (q_1, .inl (cA_2, 1620, .inl (fun _ => 0))), (q_8, .inl (cA_9, 2, .inl (fun _ => 0)))] := hD
  have hK : va_K (dC, dI) vwCl [(cA_2, .byte), (cA_9, .int)] s := hK
  refine W.widen (k := 3) (n := 3222) (by decide) (by decide) ?_
  refine va_putF (D := (dC, dI)) (ci := 8) (v := .ref q_8) (ty := .array .int) (C := RX9) (T := TX9) (N := 81) hx hb hts i_X9 tyX9 tyX9_ok nmX9 hown hK hP hD hS 0 rfl rfl 11 (by decide) k_8 (fun _ h9 => h9) rfl hin rfl (by decide +kernel) rfl rfl (by rw [lfs_7]; decide) dX9_init_31 (fun H locs hP hD hS => ?_)
  have hP : va_P (dC, dI) vwCl [(h0, .inr (8, (fs_7.set 11 (.ref q_8)))), (q_1, .inl (cA_2, 1620, .inl (fun _ => 0))), (q_8, .inl (cA_9, 2, .inl (fun _ => 0)))] H := hP
  have hD : va_D A [(h0, .inr (8, (fs_7.set 11 (.ref q_8)))), (q_1, .inl (cA_2, 1620, .inl (fun _ => 0))), (q_8, .inl (cA_9, 2, .inl (fun _ => 0)))] := hD
  generalize efs_10 : (fs_7.set 11 (.ref q_8)) = fs_10 at hP hD
  have lfs_10 : fs_10.length = 81 := by rw [← efs_10, List.length_set]; exact lfs_7
  have ffs_10_2 : fs_10[2]? = some (.int 0) := by rw [← efs_10]; exact p1_sn (by decide) ffs_7_2
  have ffs_10_3 : fs_10[3]? = some (.int 0) := by rw [← efs_10]; exact p1_sn (by decide) ffs_7_3
  have ffs_10_4 : fs_10[4]? = some (.int 0) := by rw [← efs_10]; exact p1_sn (by decide) ffs_7_4
  have ffs_10_43 : fs_10[43]? = some (.int 0) := by rw [← efs_10]; exact p1_sn (by decide) ffs_7_43
  have ffs_10_60 : fs_10[60]? = some (.int 0) := by rw [← efs_10]; exact p1_sn (by decide) ffs_7_60
  have ffs_10_75 : fs_10[75]? = some (.int 0) := by rw [← efs_10]; exact p1_sn (by decide) ffs_7_75
  have ffs_10_7 : fs_10[7]? = some (.int 0) := by rw [← efs_10]; exact p1_sn (by decide) ffs_7_7
  have ffs_10_76 : fs_10[76]? = some (.int 0) := by rw [← efs_10]; exact p1_sn (by decide) ffs_7_76
  have ffs_10_44 : fs_10[44]? = some (.int 0) := by rw [← efs_10]; exact p1_sn (by decide) ffs_7_44
  have ffs_10_0 : fs_10[0]? = some (.ref q_1) := by rw [← efs_10]; exact p1_sn (by decide) ffs_7_0
  have ffs_10_5 : fs_10[5]? = some (.int (-1)) := by rw [← efs_10]; exact p1_sn (by decide) ffs_7_5
  have ffs_10_11 : fs_10[11]? = some (.ref q_8) := by rw [← efs_10]; exact p1_sa lfs_7 (by decide)
  refine lv_aload_n hx hb dX9_init_34 rfl (lv_at hl 0 rfl) ?_
  refine lv_iconst (v := 2) hx hb dX9_init_35 (by decide) ?_
  refine va_newa (atype := .int) (ty := .int) (N' := 2) (a0 := (2, .inl (fun _ => 0))) hx hb k_7 rfl hK hP hD hS hA (fun _ => rfl) (by decide) rfl (by decide) (by decide) (by decide) dX9_init_36 (fun q_11 cA_12 H hK hP hD hS => ?_)
  have hP : va_P (dC, dI) vwCl [(h0, .inr (8, fs_10)), (q_1, .inl (cA_2, 1620, .inl (fun _ => 0))), (q_8, .inl (cA_9, 2, .inl (fun _ => 0))), (q_11, .inl (cA_12, 2, .inl (fun _ => 0)))] H := hP
  have hD : va_D A [(h0, .inr (8, fs_10)), (q_1, .inl (cA_2, 1620, .inl (fun _ => 0))), (q_8, .inl (cA_9, 2, .inl (fun _ => 0))), (q_11, .inl (cA_12, 2, .inl (fun _ => 0)))] := hD
  have hK : va_K (dC, dI) vwCl [(cA_2, .byte), (cA_9, .int), (cA_12, .int)] s := hK
  refine W.widen (k := 4) (n := 3224) (by decide) (by decide) ?_
  refine va_putF (D := (dC, dI)) (ci := 8) (v := .ref q_11) (ty := .array .int) (C := RX9) (T := TX9) (N := 81) hx hb hts i_X9 tyX9 tyX9_ok nmX9 hown hK hP hD hS 0 rfl rfl 12 (by decide) k_9 (fun _ h9 => h9) rfl hin rfl (by decide +kernel) rfl rfl (by rw [lfs_10]; decide) dX9_init_38 (fun H locs hP hD hS => ?_)
  have hP : va_P (dC, dI) vwCl [(h0, .inr (8, (fs_10.set 12 (.ref q_11)))), (q_1, .inl (cA_2, 1620, .inl (fun _ => 0))), (q_8, .inl (cA_9, 2, .inl (fun _ => 0))), (q_11, .inl (cA_12, 2, .inl (fun _ => 0)))] H := hP
  have hD : va_D A [(h0, .inr (8, (fs_10.set 12 (.ref q_11)))), (q_1, .inl (cA_2, 1620, .inl (fun _ => 0))), (q_8, .inl (cA_9, 2, .inl (fun _ => 0))), (q_11, .inl (cA_12, 2, .inl (fun _ => 0)))] := hD
  generalize efs_13 : (fs_10.set 12 (.ref q_11)) = fs_13 at hP hD
  have lfs_13 : fs_13.length = 81 := by rw [← efs_13, List.length_set]; exact lfs_10
  have ffs_13_2 : fs_13[2]? = some (.int 0) := by rw [← efs_13]; exact p1_sn (by decide) ffs_10_2
  have ffs_13_3 : fs_13[3]? = some (.int 0) := by rw [← efs_13]; exact p1_sn (by decide) ffs_10_3
  have ffs_13_4 : fs_13[4]? = some (.int 0) := by rw [← efs_13]; exact p1_sn (by decide) ffs_10_4
  have ffs_13_43 : fs_13[43]? = some (.int 0) := by rw [← efs_13]; exact p1_sn (by decide) ffs_10_43
  have ffs_13_60 : fs_13[60]? = some (.int 0) := by rw [← efs_13]; exact p1_sn (by decide) ffs_10_60
  have ffs_13_75 : fs_13[75]? = some (.int 0) := by rw [← efs_13]; exact p1_sn (by decide) ffs_10_75
  have ffs_13_7 : fs_13[7]? = some (.int 0) := by rw [← efs_13]; exact p1_sn (by decide) ffs_10_7
  have ffs_13_76 : fs_13[76]? = some (.int 0) := by rw [← efs_13]; exact p1_sn (by decide) ffs_10_76
  have ffs_13_44 : fs_13[44]? = some (.int 0) := by rw [← efs_13]; exact p1_sn (by decide) ffs_10_44
  have ffs_13_0 : fs_13[0]? = some (.ref q_1) := by rw [← efs_13]; exact p1_sn (by decide) ffs_10_0
  have ffs_13_5 : fs_13[5]? = some (.int (-1)) := by rw [← efs_13]; exact p1_sn (by decide) ffs_10_5
  have ffs_13_11 : fs_13[11]? = some (.ref q_8) := by rw [← efs_13]; exact p1_sn (by decide) ffs_10_11
  have ffs_13_12 : fs_13[12]? = some (.ref q_11) := by rw [← efs_13]; exact p1_sa lfs_10 (by decide)
  refine lv_aload_n hx hb dX9_init_41 rfl (lv_at hl 0 rfl) ?_
  refine lv_iconst (v := 2) hx hb dX9_init_42 (by decide) ?_
  refine va_newa (atype := .int) (ty := .int) (N' := 2) (a0 := (2, .inl (fun _ => 0))) hx hb k_7 rfl hK hP hD hS hA (fun _ => rfl) (by decide) rfl (by decide) (by decide) (by decide) dX9_init_43 (fun q_14 cA_15 H hK hP hD hS => ?_)
  have hP : va_P (dC, dI) vwCl [(h0, .inr (8, fs_13)), (q_1, .inl (cA_2, 1620, .inl (fun _ => 0))), (q_8, .inl (cA_9, 2, .inl (fun _ => 0))), (q_11, .inl (cA_12, 2, .inl (fun _ => 0))), (q_14, .inl (cA_15, 2, .inl (fun _ => 0)))] H := hP
  have hD : va_D A [(h0, .inr (8, fs_13)), (q_1, .inl (cA_2, 1620, .inl (fun _ => 0))), (q_8, .inl (cA_9, 2, .inl (fun _ => 0))), (q_11, .inl (cA_12, 2, .inl (fun _ => 0))), (q_14, .inl (cA_15, 2, .inl (fun _ => 0)))] := hD
  have hK : va_K (dC, dI) vwCl [(cA_2, .byte), (cA_9, .int), (cA_12, .int), (cA_15, .int)] s := hK
  refine W.widen (k := 5) (n := 3226) (by decide) (by decide) ?_
  refine va_putF (D := (dC, dI)) (ci := 8) (v := .ref q_14) (ty := .array .int) (C := RX9) (T := TX9) (N := 81) hx hb hts i_X9 tyX9 tyX9_ok nmX9 hown hK hP hD hS 0 rfl rfl 13 (by decide) k_10 (fun _ h9 => h9) rfl hin rfl (by decide +kernel) rfl rfl (by rw [lfs_13]; decide) dX9_init_45 (fun H locs hP hD hS => ?_)
  have hP : va_P (dC, dI) vwCl [(h0, .inr (8, (fs_13.set 13 (.ref q_14)))), (q_1, .inl (cA_2, 1620, .inl (fun _ => 0))), (q_8, .inl (cA_9, 2, .inl (fun _ => 0))), (q_11, .inl (cA_12, 2, .inl (fun _ => 0))), (q_14, .inl (cA_15, 2, .inl (fun _ => 0)))] H := hP
  have hD : va_D A [(h0, .inr (8, (fs_13.set 13 (.ref q_14)))), (q_1, .inl (cA_2, 1620, .inl (fun _ => 0))), (q_8, .inl (cA_9, 2, .inl (fun _ => 0))), (q_11, .inl (cA_12, 2, .inl (fun _ => 0))), (q_14, .inl (cA_15, 2, .inl (fun _ => 0)))] := hD
  generalize efs_16 : (fs_13.set 13 (.ref q_14)) = fs_16 at hP hD
  have lfs_16 : fs_16.length = 81 := by rw [← efs_16, List.length_set]; exact lfs_13
  have ffs_16_2 : fs_16[2]? = some (.int 0) := by rw [← efs_16]; exact p1_sn (by decide) ffs_13_2
  have ffs_16_3 : fs_16[3]? = some (.int 0) := by rw [← efs_16]; exact p1_sn (by decide) ffs_13_3
  have ffs_16_4 : fs_16[4]? = some (.int 0) := by rw [← efs_16]; exact p1_sn (by decide) ffs_13_4
  have ffs_16_43 : fs_16[43]? = some (.int 0) := by rw [← efs_16]; exact p1_sn (by decide) ffs_13_43
  have ffs_16_60 : fs_16[60]? = some (.int 0) := by rw [← efs_16]; exact p1_sn (by decide) ffs_13_60
  have ffs_16_75 : fs_16[75]? = some (.int 0) := by rw [← efs_16]; exact p1_sn (by decide) ffs_13_75
  have ffs_16_7 : fs_16[7]? = some (.int 0) := by rw [← efs_16]; exact p1_sn (by decide) ffs_13_7
  have ffs_16_76 : fs_16[76]? = some (.int 0) := by rw [← efs_16]; exact p1_sn (by decide) ffs_13_76
  have ffs_16_44 : fs_16[44]? = some (.int 0) := by rw [← efs_16]; exact p1_sn (by decide) ffs_13_44
  have ffs_16_0 : fs_16[0]? = some (.ref q_1) := by rw [← efs_16]; exact p1_sn (by decide) ffs_13_0
  have ffs_16_5 : fs_16[5]? = some (.int (-1)) := by rw [← efs_16]; exact p1_sn (by decide) ffs_13_5
  have ffs_16_11 : fs_16[11]? = some (.ref q_8) := by rw [← efs_16]; exact p1_sn (by decide) ffs_13_11
  have ffs_16_12 : fs_16[12]? = some (.ref q_11) := by rw [← efs_16]; exact p1_sn (by decide) ffs_13_12
  have ffs_16_13 : fs_16[13]? = some (.ref q_14) := by rw [← efs_16]; exact p1_sa lfs_13 (by decide)
  refine lv_aload_n hx hb dX9_init_48 rfl (lv_at hl 0 rfl) ?_
  refine lv_iconst (v := 2) hx hb dX9_init_49 (by decide) ?_
  refine va_newa (atype := .int) (ty := .int) (N' := 2) (a0 := (2, .inl (fun _ => 0))) hx hb k_7 rfl hK hP hD hS hA (fun _ => rfl) (by decide) rfl (by decide) (by decide) (by decide) dX9_init_50 (fun q_17 cA_18 H hK hP hD hS => ?_)
  have hP : va_P (dC, dI) vwCl [(h0, .inr (8, fs_16)), (q_1, .inl (cA_2, 1620, .inl (fun _ => 0))), (q_8, .inl (cA_9, 2, .inl (fun _ => 0))), (q_11, .inl (cA_12, 2, .inl (fun _ => 0))), (q_14, .inl (cA_15, 2, .inl (fun _ => 0))), (q_17, .inl (cA_18, 2, .inl (fun _ => 0)))] H := hP
  have hD : va_D A [(h0, .inr (8, fs_16)), (q_1, .inl (cA_2, 1620, .inl (fun _ => 0))), (q_8, .inl (cA_9, 2, .inl (fun _ => 0))), (q_11, .inl (cA_12, 2, .inl (fun _ => 0))), (q_14, .inl (cA_15, 2, .inl (fun _ => 0))), (q_17, .inl (cA_18, 2, .inl (fun _ => 0)))] := hD
  have hK : va_K (dC, dI) vwCl [(cA_2, .byte), (cA_9, .int), (cA_12, .int), (cA_15, .int), (cA_18, .int)] s := hK
  refine W.widen (k := 6) (n := 3228) (by decide) (by decide) ?_
  refine va_putF (D := (dC, dI)) (ci := 8) (v := .ref q_17) (ty := .array .int) (C := RX9) (T := TX9) (N := 81) hx hb hts i_X9 tyX9 tyX9_ok nmX9 hown hK hP hD hS 0 rfl rfl 14 (by decide) k_11 (fun _ h9 => h9) rfl hin rfl (by decide +kernel) rfl rfl (by rw [lfs_16]; decide) dX9_init_52 (fun H locs hP hD hS => ?_)
  have hP : va_P (dC, dI) vwCl [(h0, .inr (8, (fs_16.set 14 (.ref q_17)))), (q_1, .inl (cA_2, 1620, .inl (fun _ => 0))), (q_8, .inl (cA_9, 2, .inl (fun _ => 0))), (q_11, .inl (cA_12, 2, .inl (fun _ => 0))), (q_14, .inl (cA_15, 2, .inl (fun _ => 0))), (q_17, .inl (cA_18, 2, .inl (fun _ => 0)))] H := hP
  have hD : va_D A [(h0, .inr (8, (fs_16.set 14 (.ref q_17)))), (q_1, .inl (cA_2, 1620, .inl (fun _ => 0))), (q_8, .inl (cA_9, 2, .inl (fun _ => 0))), (q_11, .inl (cA_12, 2, .inl (fun _ => 0))), (q_14, .inl (cA_15, 2, .inl (fun _ => 0))), (q_17, .inl (cA_18, 2, .inl (fun _ => 0)))] := hD
  generalize efs_19 : (fs_16.set 14 (.ref q_17)) = fs_19 at hP hD
  have lfs_19 : fs_19.length = 81 := by rw [← efs_19, List.length_set]; exact lfs_16
  have ffs_19_2 : fs_19[2]? = some (.int 0) := by rw [← efs_19]; exact p1_sn (by decide) ffs_16_2
  have ffs_19_3 : fs_19[3]? = some (.int 0) := by rw [← efs_19]; exact p1_sn (by decide) ffs_16_3
  have ffs_19_4 : fs_19[4]? = some (.int 0) := by rw [← efs_19]; exact p1_sn (by decide) ffs_16_4
  have ffs_19_43 : fs_19[43]? = some (.int 0) := by rw [← efs_19]; exact p1_sn (by decide) ffs_16_43
  have ffs_19_60 : fs_19[60]? = some (.int 0) := by rw [← efs_19]; exact p1_sn (by decide) ffs_16_60
  have ffs_19_75 : fs_19[75]? = some (.int 0) := by rw [← efs_19]; exact p1_sn (by decide) ffs_16_75
  have ffs_19_7 : fs_19[7]? = some (.int 0) := by rw [← efs_19]; exact p1_sn (by decide) ffs_16_7
  have ffs_19_76 : fs_19[76]? = some (.int 0) := by rw [← efs_19]; exact p1_sn (by decide) ffs_16_76
  have ffs_19_44 : fs_19[44]? = some (.int 0) := by rw [← efs_19]; exact p1_sn (by decide) ffs_16_44
  have ffs_19_0 : fs_19[0]? = some (.ref q_1) := by rw [← efs_19]; exact p1_sn (by decide) ffs_16_0
  have ffs_19_5 : fs_19[5]? = some (.int (-1)) := by rw [← efs_19]; exact p1_sn (by decide) ffs_16_5
  have ffs_19_11 : fs_19[11]? = some (.ref q_8) := by rw [← efs_19]; exact p1_sn (by decide) ffs_16_11
  have ffs_19_12 : fs_19[12]? = some (.ref q_11) := by rw [← efs_19]; exact p1_sn (by decide) ffs_16_12
  have ffs_19_13 : fs_19[13]? = some (.ref q_14) := by rw [← efs_19]; exact p1_sn (by decide) ffs_16_13
  have ffs_19_14 : fs_19[14]? = some (.ref q_17) := by rw [← efs_19]; exact p1_sa lfs_16 (by decide)
  refine lv_aload_n hx hb dX9_init_55 rfl (lv_at hl 0 rfl) ?_
  refine lv_iconst (v := 2) hx hb dX9_init_56 (by decide) ?_
  refine va_newa (atype := .int) (ty := .int) (N' := 2) (a0 := (2, .inl (fun _ => 0))) hx hb k_7 rfl hK hP hD hS hA (fun _ => rfl) (by decide) rfl (by decide) (by decide) (by decide) dX9_init_57 (fun q_20 cA_21 H hK hP hD hS => ?_)
  have hP : va_P (dC, dI) vwCl [(h0, .inr (8, fs_19)), (q_1, .inl (cA_2, 1620, .inl (fun _ => 0))), (q_8, .inl (cA_9, 2, .inl (fun _ => 0))), (q_11, .inl (cA_12, 2, .inl (fun _ => 0))), (q_14, .inl (cA_15, 2, .inl (fun _ => 0))), (q_17, .inl (cA_18, 2, .inl (fun _ => 0))), (q_20, .inl (cA_21, 2, .inl (fun _ => 0)))] H := hP
  have hD : va_D A [(h0, .inr (8, fs_19)), (q_1, .inl (cA_2, 1620, .inl (fun _ => 0))), (q_8, .inl (cA_9, 2, .inl (fun _ => 0))), (q_11, .inl (cA_12, 2, .inl (fun _ => 0))), (q_14, .inl (cA_15, 2, .inl (fun _ => 0))), (q_17, .inl (cA_18, 2, .inl (fun _ => 0))), (q_20, .inl (cA_21, 2, .inl (fun _ => 0)))] := hD
  have hK : va_K (dC, dI) vwCl [(cA_2, .byte), (cA_9, .int), (cA_12, .int), (cA_15, .int), (cA_18, .int), (cA_21, .int)] s := hK
  refine W.widen (k := 7) (n := 3230) (by decide) (by decide) ?_
  refine va_putF (D := (dC, dI)) (ci := 8) (v := .ref q_20) (ty := .array .int) (C := RX9) (T := TX9) (N := 81) hx hb hts i_X9 tyX9 tyX9_ok nmX9 hown hK hP hD hS 0 rfl rfl 15 (by decide) k_12 (fun _ h9 => h9) rfl hin rfl (by decide +kernel) rfl rfl (by rw [lfs_19]; decide) dX9_init_59 (fun H locs hP hD hS => ?_)
  have hP : va_P (dC, dI) vwCl [(h0, .inr (8, (fs_19.set 15 (.ref q_20)))), (q_1, .inl (cA_2, 1620, .inl (fun _ => 0))), (q_8, .inl (cA_9, 2, .inl (fun _ => 0))), (q_11, .inl (cA_12, 2, .inl (fun _ => 0))), (q_14, .inl (cA_15, 2, .inl (fun _ => 0))), (q_17, .inl (cA_18, 2, .inl (fun _ => 0))), (q_20, .inl (cA_21, 2, .inl (fun _ => 0)))] H := hP
  have hD : va_D A [(h0, .inr (8, (fs_19.set 15 (.ref q_20)))), (q_1, .inl (cA_2, 1620, .inl (fun _ => 0))), (q_8, .inl (cA_9, 2, .inl (fun _ => 0))), (q_11, .inl (cA_12, 2, .inl (fun _ => 0))), (q_14, .inl (cA_15, 2, .inl (fun _ => 0))), (q_17, .inl (cA_18, 2, .inl (fun _ => 0))), (q_20, .inl (cA_21, 2, .inl (fun _ => 0)))] := hD
  generalize efs_22 : (fs_19.set 15 (.ref q_20)) = fs_22 at hP hD
  have lfs_22 : fs_22.length = 81 := by rw [← efs_22, List.length_set]; exact lfs_19
  have ffs_22_2 : fs_22[2]? = some (.int 0) := by rw [← efs_22]; exact p1_sn (by decide) ffs_19_2
  have ffs_22_3 : fs_22[3]? = some (.int 0) := by rw [← efs_22]; exact p1_sn (by decide) ffs_19_3
  have ffs_22_4 : fs_22[4]? = some (.int 0) := by rw [← efs_22]; exact p1_sn (by decide) ffs_19_4
  have ffs_22_43 : fs_22[43]? = some (.int 0) := by rw [← efs_22]; exact p1_sn (by decide) ffs_19_43
  have ffs_22_60 : fs_22[60]? = some (.int 0) := by rw [← efs_22]; exact p1_sn (by decide) ffs_19_60
  have ffs_22_75 : fs_22[75]? = some (.int 0) := by rw [← efs_22]; exact p1_sn (by decide) ffs_19_75
  have ffs_22_7 : fs_22[7]? = some (.int 0) := by rw [← efs_22]; exact p1_sn (by decide) ffs_19_7
  have ffs_22_76 : fs_22[76]? = some (.int 0) := by rw [← efs_22]; exact p1_sn (by decide) ffs_19_76
  have ffs_22_44 : fs_22[44]? = some (.int 0) := by rw [← efs_22]; exact p1_sn (by decide) ffs_19_44
  have ffs_22_0 : fs_22[0]? = some (.ref q_1) := by rw [← efs_22]; exact p1_sn (by decide) ffs_19_0
  have ffs_22_5 : fs_22[5]? = some (.int (-1)) := by rw [← efs_22]; exact p1_sn (by decide) ffs_19_5
  have ffs_22_11 : fs_22[11]? = some (.ref q_8) := by rw [← efs_22]; exact p1_sn (by decide) ffs_19_11
  have ffs_22_12 : fs_22[12]? = some (.ref q_11) := by rw [← efs_22]; exact p1_sn (by decide) ffs_19_12
  have ffs_22_13 : fs_22[13]? = some (.ref q_14) := by rw [← efs_22]; exact p1_sn (by decide) ffs_19_13
  have ffs_22_14 : fs_22[14]? = some (.ref q_17) := by rw [← efs_22]; exact p1_sn (by decide) ffs_19_14
  have ffs_22_15 : fs_22[15]? = some (.ref q_20) := by rw [← efs_22]; exact p1_sa lfs_19 (by decide)
  refine lv_aload_n hx hb dX9_init_62 rfl (lv_at hl 0 rfl) ?_
  refine lv_iconst (v := 2) hx hb dX9_init_63 (by decide) ?_
  refine va_newa (atype := .int) (ty := .int) (N' := 2) (a0 := (2, .inl (fun _ => 0))) hx hb k_7 rfl hK hP hD hS hA (fun _ => rfl) (by decide) rfl (by decide) (by decide) (by decide) dX9_init_64 (fun q_23 cA_24 H hK hP hD hS => ?_)
  have hP : va_P (dC, dI) vwCl [(h0, .inr (8, fs_22)), (q_1, .inl (cA_2, 1620, .inl (fun _ => 0))), (q_8, .inl (cA_9, 2, .inl (fun _ => 0))), (q_11, .inl (cA_12, 2, .inl (fun _ => 0))), (q_14, .inl (cA_15, 2, .inl (fun _ => 0))), (q_17, .inl (cA_18, 2, .inl (fun _ => 0))), (q_20, .inl (cA_21, 2, .inl (fun _ => 0))), (q_23, .inl (cA_24, 2, .inl (fun _ => 0)))] H := hP
  have hD : va_D A [(h0, .inr (8, fs_22)), (q_1, .inl (cA_2, 1620, .inl (fun _ => 0))), (q_8, .inl (cA_9, 2, .inl (fun _ => 0))), (q_11, .inl (cA_12, 2, .inl (fun _ => 0))), (q_14, .inl (cA_15, 2, .inl (fun _ => 0))), (q_17, .inl (cA_18, 2, .inl (fun _ => 0))), (q_20, .inl (cA_21, 2, .inl (fun _ => 0))), (q_23, .inl (cA_24, 2, .inl (fun _ => 0)))] := hD
  have hK : va_K (dC, dI) vwCl [(cA_2, .byte), (cA_9, .int), (cA_12, .int), (cA_15, .int), (cA_18, .int), (cA_21, .int), (cA_24, .int)] s := hK
  refine W.widen (k := 8) (n := 3232) (by decide) (by decide) ?_
  refine va_putF (D := (dC, dI)) (ci := 8) (v := .ref q_23) (ty := .array .int) (C := RX9) (T := TX9) (N := 81) hx hb hts i_X9 tyX9 tyX9_ok nmX9 hown hK hP hD hS 0 rfl rfl 16 (by decide) k_13 (fun _ h9 => h9) rfl hin rfl (by decide +kernel) rfl rfl (by rw [lfs_22]; decide) dX9_init_66 (fun H locs hP hD hS => ?_)
  have hP : va_P (dC, dI) vwCl [(h0, .inr (8, (fs_22.set 16 (.ref q_23)))), (q_1, .inl (cA_2, 1620, .inl (fun _ => 0))), (q_8, .inl (cA_9, 2, .inl (fun _ => 0))), (q_11, .inl (cA_12, 2, .inl (fun _ => 0))), (q_14, .inl (cA_15, 2, .inl (fun _ => 0))), (q_17, .inl (cA_18, 2, .inl (fun _ => 0))), (q_20, .inl (cA_21, 2, .inl (fun _ => 0))), (q_23, .inl (cA_24, 2, .inl (fun _ => 0)))] H := hP
  have hD : va_D A [(h0, .inr (8, (fs_22.set 16 (.ref q_23)))), (q_1, .inl (cA_2, 1620, .inl (fun _ => 0))), (q_8, .inl (cA_9, 2, .inl (fun _ => 0))), (q_11, .inl (cA_12, 2, .inl (fun _ => 0))), (q_14, .inl (cA_15, 2, .inl (fun _ => 0))), (q_17, .inl (cA_18, 2, .inl (fun _ => 0))), (q_20, .inl (cA_21, 2, .inl (fun _ => 0))), (q_23, .inl (cA_24, 2, .inl (fun _ => 0)))] := hD
  generalize efs_25 : (fs_22.set 16 (.ref q_23)) = fs_25 at hP hD
  have lfs_25 : fs_25.length = 81 := by rw [← efs_25, List.length_set]; exact lfs_22
  have ffs_25_2 : fs_25[2]? = some (.int 0) := by rw [← efs_25]; exact p1_sn (by decide) ffs_22_2
  have ffs_25_3 : fs_25[3]? = some (.int 0) := by rw [← efs_25]; exact p1_sn (by decide) ffs_22_3
  have ffs_25_4 : fs_25[4]? = some (.int 0) := by rw [← efs_25]; exact p1_sn (by decide) ffs_22_4
  have ffs_25_43 : fs_25[43]? = some (.int 0) := by rw [← efs_25]; exact p1_sn (by decide) ffs_22_43
  have ffs_25_60 : fs_25[60]? = some (.int 0) := by rw [← efs_25]; exact p1_sn (by decide) ffs_22_60
  have ffs_25_75 : fs_25[75]? = some (.int 0) := by rw [← efs_25]; exact p1_sn (by decide) ffs_22_75
  have ffs_25_7 : fs_25[7]? = some (.int 0) := by rw [← efs_25]; exact p1_sn (by decide) ffs_22_7
  have ffs_25_76 : fs_25[76]? = some (.int 0) := by rw [← efs_25]; exact p1_sn (by decide) ffs_22_76
  have ffs_25_44 : fs_25[44]? = some (.int 0) := by rw [← efs_25]; exact p1_sn (by decide) ffs_22_44
  have ffs_25_0 : fs_25[0]? = some (.ref q_1) := by rw [← efs_25]; exact p1_sn (by decide) ffs_22_0
  have ffs_25_5 : fs_25[5]? = some (.int (-1)) := by rw [← efs_25]; exact p1_sn (by decide) ffs_22_5
  have ffs_25_11 : fs_25[11]? = some (.ref q_8) := by rw [← efs_25]; exact p1_sn (by decide) ffs_22_11
  have ffs_25_12 : fs_25[12]? = some (.ref q_11) := by rw [← efs_25]; exact p1_sn (by decide) ffs_22_12
  have ffs_25_13 : fs_25[13]? = some (.ref q_14) := by rw [← efs_25]; exact p1_sn (by decide) ffs_22_13
  have ffs_25_14 : fs_25[14]? = some (.ref q_17) := by rw [← efs_25]; exact p1_sn (by decide) ffs_22_14
  have ffs_25_15 : fs_25[15]? = some (.ref q_20) := by rw [← efs_25]; exact p1_sn (by decide) ffs_22_15
  have ffs_25_16 : fs_25[16]? = some (.ref q_23) := by rw [← efs_25]; exact p1_sa lfs_22 (by decide)
  refine lv_aload_n hx hb dX9_init_69 rfl (lv_at hl 0 rfl) ?_
  refine lv_iconst (v := 2) hx hb dX9_init_70 (by decide) ?_
  refine va_newa (atype := .int) (ty := .int) (N' := 2) (a0 := (2, .inl (fun _ => 0))) hx hb k_7 rfl hK hP hD hS hA (fun _ => rfl) (by decide) rfl (by decide) (by decide) (by decide) dX9_init_71 (fun q_26 cA_27 H hK hP hD hS => ?_)
  have hP : va_P (dC, dI) vwCl [(h0, .inr (8, fs_25)), (q_1, .inl (cA_2, 1620, .inl (fun _ => 0))), (q_8, .inl (cA_9, 2, .inl (fun _ => 0))), (q_11, .inl (cA_12, 2, .inl (fun _ => 0))), (q_14, .inl (cA_15, 2, .inl (fun _ => 0))), (q_17, .inl (cA_18, 2, .inl (fun _ => 0))), (q_20, .inl (cA_21, 2, .inl (fun _ => 0))), (q_23, .inl (cA_24, 2, .inl (fun _ => 0))), (q_26, .inl (cA_27, 2, .inl (fun _ => 0)))] H := hP
  have hD : va_D A [(h0, .inr (8, fs_25)), (q_1, .inl (cA_2, 1620, .inl (fun _ => 0))), (q_8, .inl (cA_9, 2, .inl (fun _ => 0))), (q_11, .inl (cA_12, 2, .inl (fun _ => 0))), (q_14, .inl (cA_15, 2, .inl (fun _ => 0))), (q_17, .inl (cA_18, 2, .inl (fun _ => 0))), (q_20, .inl (cA_21, 2, .inl (fun _ => 0))), (q_23, .inl (cA_24, 2, .inl (fun _ => 0))), (q_26, .inl (cA_27, 2, .inl (fun _ => 0)))] := hD
  have hK : va_K (dC, dI) vwCl [(cA_2, .byte), (cA_9, .int), (cA_12, .int), (cA_15, .int), (cA_18, .int), (cA_21, .int), (cA_24, .int), (cA_27, .int)] s := hK
  refine W.widen (k := 9) (n := 3234) (by decide) (by decide) ?_
  refine va_putF (D := (dC, dI)) (ci := 8) (v := .ref q_26) (ty := .array .int) (C := RX9) (T := TX9) (N := 81) hx hb hts i_X9 tyX9 tyX9_ok nmX9 hown hK hP hD hS 0 rfl rfl 17 (by decide) k_14 (fun _ h9 => h9) rfl hin rfl (by decide +kernel) rfl rfl (by rw [lfs_25]; decide) dX9_init_73 (fun H locs hP hD hS => ?_)
  have hP : va_P (dC, dI) vwCl [(h0, .inr (8, (fs_25.set 17 (.ref q_26)))), (q_1, .inl (cA_2, 1620, .inl (fun _ => 0))), (q_8, .inl (cA_9, 2, .inl (fun _ => 0))), (q_11, .inl (cA_12, 2, .inl (fun _ => 0))), (q_14, .inl (cA_15, 2, .inl (fun _ => 0))), (q_17, .inl (cA_18, 2, .inl (fun _ => 0))), (q_20, .inl (cA_21, 2, .inl (fun _ => 0))), (q_23, .inl (cA_24, 2, .inl (fun _ => 0))), (q_26, .inl (cA_27, 2, .inl (fun _ => 0)))] H := hP
  have hD : va_D A [(h0, .inr (8, (fs_25.set 17 (.ref q_26)))), (q_1, .inl (cA_2, 1620, .inl (fun _ => 0))), (q_8, .inl (cA_9, 2, .inl (fun _ => 0))), (q_11, .inl (cA_12, 2, .inl (fun _ => 0))), (q_14, .inl (cA_15, 2, .inl (fun _ => 0))), (q_17, .inl (cA_18, 2, .inl (fun _ => 0))), (q_20, .inl (cA_21, 2, .inl (fun _ => 0))), (q_23, .inl (cA_24, 2, .inl (fun _ => 0))), (q_26, .inl (cA_27, 2, .inl (fun _ => 0)))] := hD
  generalize efs_28 : (fs_25.set 17 (.ref q_26)) = fs_28 at hP hD
  have lfs_28 : fs_28.length = 81 := by rw [← efs_28, List.length_set]; exact lfs_25
  have ffs_28_2 : fs_28[2]? = some (.int 0) := by rw [← efs_28]; exact p1_sn (by decide) ffs_25_2
  have ffs_28_3 : fs_28[3]? = some (.int 0) := by rw [← efs_28]; exact p1_sn (by decide) ffs_25_3
  have ffs_28_4 : fs_28[4]? = some (.int 0) := by rw [← efs_28]; exact p1_sn (by decide) ffs_25_4
  have ffs_28_43 : fs_28[43]? = some (.int 0) := by rw [← efs_28]; exact p1_sn (by decide) ffs_25_43
  have ffs_28_60 : fs_28[60]? = some (.int 0) := by rw [← efs_28]; exact p1_sn (by decide) ffs_25_60
  have ffs_28_75 : fs_28[75]? = some (.int 0) := by rw [← efs_28]; exact p1_sn (by decide) ffs_25_75
  have ffs_28_7 : fs_28[7]? = some (.int 0) := by rw [← efs_28]; exact p1_sn (by decide) ffs_25_7
  have ffs_28_76 : fs_28[76]? = some (.int 0) := by rw [← efs_28]; exact p1_sn (by decide) ffs_25_76
  have ffs_28_44 : fs_28[44]? = some (.int 0) := by rw [← efs_28]; exact p1_sn (by decide) ffs_25_44
  have ffs_28_0 : fs_28[0]? = some (.ref q_1) := by rw [← efs_28]; exact p1_sn (by decide) ffs_25_0
  have ffs_28_5 : fs_28[5]? = some (.int (-1)) := by rw [← efs_28]; exact p1_sn (by decide) ffs_25_5
  have ffs_28_11 : fs_28[11]? = some (.ref q_8) := by rw [← efs_28]; exact p1_sn (by decide) ffs_25_11
  have ffs_28_12 : fs_28[12]? = some (.ref q_11) := by rw [← efs_28]; exact p1_sn (by decide) ffs_25_12
  have ffs_28_13 : fs_28[13]? = some (.ref q_14) := by rw [← efs_28]; exact p1_sn (by decide) ffs_25_13
  have ffs_28_14 : fs_28[14]? = some (.ref q_17) := by rw [← efs_28]; exact p1_sn (by decide) ffs_25_14
  have ffs_28_15 : fs_28[15]? = some (.ref q_20) := by rw [← efs_28]; exact p1_sn (by decide) ffs_25_15
  have ffs_28_16 : fs_28[16]? = some (.ref q_23) := by rw [← efs_28]; exact p1_sn (by decide) ffs_25_16
  have ffs_28_17 : fs_28[17]? = some (.ref q_26) := by rw [← efs_28]; exact p1_sa lfs_25 (by decide)
  refine lv_aload_n hx hb dX9_init_76 rfl (lv_at hl 0 rfl) ?_
  refine lv_iconst (v := 2) hx hb dX9_init_77 (by decide) ?_
  refine va_newa (atype := .int) (ty := .int) (N' := 2) (a0 := (2, .inl (fun _ => 0))) hx hb k_7 rfl hK hP hD hS hA (fun _ => rfl) (by decide) rfl (by decide) (by decide) (by decide) dX9_init_78 (fun q_29 cA_30 H hK hP hD hS => ?_)
  have hP : va_P (dC, dI) vwCl [(h0, .inr (8, fs_28)), (q_1, .inl (cA_2, 1620, .inl (fun _ => 0))), (q_8, .inl (cA_9, 2, .inl (fun _ => 0))), (q_11, .inl (cA_12, 2, .inl (fun _ => 0))), (q_14, .inl (cA_15, 2, .inl (fun _ => 0))), (q_17, .inl (cA_18, 2, .inl (fun _ => 0))), (q_20, .inl (cA_21, 2, .inl (fun _ => 0))), (q_23, .inl (cA_24, 2, .inl (fun _ => 0))), (q_26, .inl (cA_27, 2, .inl (fun _ => 0))), (q_29, .inl (cA_30, 2, .inl (fun _ => 0)))] H := hP
  have hD : va_D A [(h0, .inr (8, fs_28)), (q_1, .inl (cA_2, 1620, .inl (fun _ => 0))), (q_8, .inl (cA_9, 2, .inl (fun _ => 0))), (q_11, .inl (cA_12, 2, .inl (fun _ => 0))), (q_14, .inl (cA_15, 2, .inl (fun _ => 0))), (q_17, .inl (cA_18, 2, .inl (fun _ => 0))), (q_20, .inl (cA_21, 2, .inl (fun _ => 0))), (q_23, .inl (cA_24, 2, .inl (fun _ => 0))), (q_26, .inl (cA_27, 2, .inl (fun _ => 0))), (q_29, .inl (cA_30, 2, .inl (fun _ => 0)))] := hD
  have hK : va_K (dC, dI) vwCl [(cA_2, .byte), (cA_9, .int), (cA_12, .int), (cA_15, .int), (cA_18, .int), (cA_21, .int), (cA_24, .int), (cA_27, .int), (cA_30, .int)] s := hK
  refine W.widen (k := 10) (n := 3236) (by decide) (by decide) ?_
  refine va_putF (D := (dC, dI)) (ci := 8) (v := .ref q_29) (ty := .array .int) (C := RX9) (T := TX9) (N := 81) hx hb hts i_X9 tyX9 tyX9_ok nmX9 hown hK hP hD hS 0 rfl rfl 18 (by decide) k_15 (fun _ h9 => h9) rfl hin rfl (by decide +kernel) rfl rfl (by rw [lfs_28]; decide) dX9_init_80 (fun H locs hP hD hS => ?_)
  have hP : va_P (dC, dI) vwCl [(h0, .inr (8, (fs_28.set 18 (.ref q_29)))), (q_1, .inl (cA_2, 1620, .inl (fun _ => 0))), (q_8, .inl (cA_9, 2, .inl (fun _ => 0))), (q_11, .inl (cA_12, 2, .inl (fun _ => 0))), (q_14, .inl (cA_15, 2, .inl (fun _ => 0))), (q_17, .inl (cA_18, 2, .inl (fun _ => 0))), (q_20, .inl (cA_21, 2, .inl (fun _ => 0))), (q_23, .inl (cA_24, 2, .inl (fun _ => 0))), (q_26, .inl (cA_27, 2, .inl (fun _ => 0))), (q_29, .inl (cA_30, 2, .inl (fun _ => 0)))] H := hP
  have hD : va_D A [(h0, .inr (8, (fs_28.set 18 (.ref q_29)))), (q_1, .inl (cA_2, 1620, .inl (fun _ => 0))), (q_8, .inl (cA_9, 2, .inl (fun _ => 0))), (q_11, .inl (cA_12, 2, .inl (fun _ => 0))), (q_14, .inl (cA_15, 2, .inl (fun _ => 0))), (q_17, .inl (cA_18, 2, .inl (fun _ => 0))), (q_20, .inl (cA_21, 2, .inl (fun _ => 0))), (q_23, .inl (cA_24, 2, .inl (fun _ => 0))), (q_26, .inl (cA_27, 2, .inl (fun _ => 0))), (q_29, .inl (cA_30, 2, .inl (fun _ => 0)))] := hD
  generalize efs_31 : (fs_28.set 18 (.ref q_29)) = fs_31 at hP hD
  have lfs_31 : fs_31.length = 81 := by rw [← efs_31, List.length_set]; exact lfs_28
  have ffs_31_2 : fs_31[2]? = some (.int 0) := by rw [← efs_31]; exact p1_sn (by decide) ffs_28_2
  have ffs_31_3 : fs_31[3]? = some (.int 0) := by rw [← efs_31]; exact p1_sn (by decide) ffs_28_3
  have ffs_31_4 : fs_31[4]? = some (.int 0) := by rw [← efs_31]; exact p1_sn (by decide) ffs_28_4
  have ffs_31_43 : fs_31[43]? = some (.int 0) := by rw [← efs_31]; exact p1_sn (by decide) ffs_28_43
  have ffs_31_60 : fs_31[60]? = some (.int 0) := by rw [← efs_31]; exact p1_sn (by decide) ffs_28_60
  have ffs_31_75 : fs_31[75]? = some (.int 0) := by rw [← efs_31]; exact p1_sn (by decide) ffs_28_75
  have ffs_31_7 : fs_31[7]? = some (.int 0) := by rw [← efs_31]; exact p1_sn (by decide) ffs_28_7
  have ffs_31_76 : fs_31[76]? = some (.int 0) := by rw [← efs_31]; exact p1_sn (by decide) ffs_28_76
  have ffs_31_44 : fs_31[44]? = some (.int 0) := by rw [← efs_31]; exact p1_sn (by decide) ffs_28_44
  have ffs_31_0 : fs_31[0]? = some (.ref q_1) := by rw [← efs_31]; exact p1_sn (by decide) ffs_28_0
  have ffs_31_5 : fs_31[5]? = some (.int (-1)) := by rw [← efs_31]; exact p1_sn (by decide) ffs_28_5
  have ffs_31_11 : fs_31[11]? = some (.ref q_8) := by rw [← efs_31]; exact p1_sn (by decide) ffs_28_11
  have ffs_31_12 : fs_31[12]? = some (.ref q_11) := by rw [← efs_31]; exact p1_sn (by decide) ffs_28_12
  have ffs_31_13 : fs_31[13]? = some (.ref q_14) := by rw [← efs_31]; exact p1_sn (by decide) ffs_28_13
  have ffs_31_14 : fs_31[14]? = some (.ref q_17) := by rw [← efs_31]; exact p1_sn (by decide) ffs_28_14
  have ffs_31_15 : fs_31[15]? = some (.ref q_20) := by rw [← efs_31]; exact p1_sn (by decide) ffs_28_15
  have ffs_31_16 : fs_31[16]? = some (.ref q_23) := by rw [← efs_31]; exact p1_sn (by decide) ffs_28_16
  have ffs_31_17 : fs_31[17]? = some (.ref q_26) := by rw [← efs_31]; exact p1_sn (by decide) ffs_28_17
  have ffs_31_18 : fs_31[18]? = some (.ref q_29) := by rw [← efs_31]; exact p1_sa lfs_28 (by decide)
  refine lv_aload_n hx hb dX9_init_83 rfl (lv_at hl 0 rfl) ?_
  refine lv_iconst (v := 2) hx hb dX9_init_84 (by decide) ?_
  refine va_newa (atype := .boolean) (ty := .boolean) (N' := 2) (a0 := (2, .inl (fun _ => 0))) hx hb k_16 rfl hK hP hD hS hA (fun _ => rfl) (by decide) rfl (by decide) (by decide) (by decide) dX9_init_85 (fun q_32 cA_33 H hK hP hD hS => ?_)
  have hP : va_P (dC, dI) vwCl [(h0, .inr (8, fs_31)), (q_1, .inl (cA_2, 1620, .inl (fun _ => 0))), (q_8, .inl (cA_9, 2, .inl (fun _ => 0))), (q_11, .inl (cA_12, 2, .inl (fun _ => 0))), (q_14, .inl (cA_15, 2, .inl (fun _ => 0))), (q_17, .inl (cA_18, 2, .inl (fun _ => 0))), (q_20, .inl (cA_21, 2, .inl (fun _ => 0))), (q_23, .inl (cA_24, 2, .inl (fun _ => 0))), (q_26, .inl (cA_27, 2, .inl (fun _ => 0))), (q_29, .inl (cA_30, 2, .inl (fun _ => 0))), (q_32, .inl (cA_33, 2, .inl (fun _ => 0)))] H := hP
  have hD : va_D A [(h0, .inr (8, fs_31)), (q_1, .inl (cA_2, 1620, .inl (fun _ => 0))), (q_8, .inl (cA_9, 2, .inl (fun _ => 0))), (q_11, .inl (cA_12, 2, .inl (fun _ => 0))), (q_14, .inl (cA_15, 2, .inl (fun _ => 0))), (q_17, .inl (cA_18, 2, .inl (fun _ => 0))), (q_20, .inl (cA_21, 2, .inl (fun _ => 0))), (q_23, .inl (cA_24, 2, .inl (fun _ => 0))), (q_26, .inl (cA_27, 2, .inl (fun _ => 0))), (q_29, .inl (cA_30, 2, .inl (fun _ => 0))), (q_32, .inl (cA_33, 2, .inl (fun _ => 0)))] := hD
  have hK : va_K (dC, dI) vwCl [(cA_2, .byte), (cA_9, .int), (cA_12, .int), (cA_15, .int), (cA_18, .int), (cA_21, .int), (cA_24, .int), (cA_27, .int), (cA_30, .int), (cA_33, .boolean)] s := hK
  refine W.widen (k := 11) (n := 3238) (by decide) (by decide) ?_
  refine va_putF (D := (dC, dI)) (ci := 8) (v := .ref q_32) (ty := .array .boolean) (C := RX9) (T := TX9) (N := 81) hx hb hts i_X9 tyX9 tyX9_ok nmX9 hown hK hP hD hS 0 rfl rfl 19 (by decide) k_17 (fun _ h9 => h9) rfl hin rfl (by decide +kernel) rfl rfl (by rw [lfs_31]; decide) dX9_init_87 (fun H locs hP hD hS => ?_)
  have hP : va_P (dC, dI) vwCl [(h0, .inr (8, (fs_31.set 19 (.ref q_32)))), (q_1, .inl (cA_2, 1620, .inl (fun _ => 0))), (q_8, .inl (cA_9, 2, .inl (fun _ => 0))), (q_11, .inl (cA_12, 2, .inl (fun _ => 0))), (q_14, .inl (cA_15, 2, .inl (fun _ => 0))), (q_17, .inl (cA_18, 2, .inl (fun _ => 0))), (q_20, .inl (cA_21, 2, .inl (fun _ => 0))), (q_23, .inl (cA_24, 2, .inl (fun _ => 0))), (q_26, .inl (cA_27, 2, .inl (fun _ => 0))), (q_29, .inl (cA_30, 2, .inl (fun _ => 0))), (q_32, .inl (cA_33, 2, .inl (fun _ => 0)))] H := hP
  have hD : va_D A [(h0, .inr (8, (fs_31.set 19 (.ref q_32)))), (q_1, .inl (cA_2, 1620, .inl (fun _ => 0))), (q_8, .inl (cA_9, 2, .inl (fun _ => 0))), (q_11, .inl (cA_12, 2, .inl (fun _ => 0))), (q_14, .inl (cA_15, 2, .inl (fun _ => 0))), (q_17, .inl (cA_18, 2, .inl (fun _ => 0))), (q_20, .inl (cA_21, 2, .inl (fun _ => 0))), (q_23, .inl (cA_24, 2, .inl (fun _ => 0))), (q_26, .inl (cA_27, 2, .inl (fun _ => 0))), (q_29, .inl (cA_30, 2, .inl (fun _ => 0))), (q_32, .inl (cA_33, 2, .inl (fun _ => 0)))] := hD
  generalize efs_34 : (fs_31.set 19 (.ref q_32)) = fs_34 at hP hD
  have lfs_34 : fs_34.length = 81 := by rw [← efs_34, List.length_set]; exact lfs_31
  have ffs_34_2 : fs_34[2]? = some (.int 0) := by rw [← efs_34]; exact p1_sn (by decide) ffs_31_2
  have ffs_34_3 : fs_34[3]? = some (.int 0) := by rw [← efs_34]; exact p1_sn (by decide) ffs_31_3
  have ffs_34_4 : fs_34[4]? = some (.int 0) := by rw [← efs_34]; exact p1_sn (by decide) ffs_31_4
  have ffs_34_43 : fs_34[43]? = some (.int 0) := by rw [← efs_34]; exact p1_sn (by decide) ffs_31_43
  have ffs_34_60 : fs_34[60]? = some (.int 0) := by rw [← efs_34]; exact p1_sn (by decide) ffs_31_60
  have ffs_34_75 : fs_34[75]? = some (.int 0) := by rw [← efs_34]; exact p1_sn (by decide) ffs_31_75
  have ffs_34_7 : fs_34[7]? = some (.int 0) := by rw [← efs_34]; exact p1_sn (by decide) ffs_31_7
  have ffs_34_76 : fs_34[76]? = some (.int 0) := by rw [← efs_34]; exact p1_sn (by decide) ffs_31_76
  have ffs_34_44 : fs_34[44]? = some (.int 0) := by rw [← efs_34]; exact p1_sn (by decide) ffs_31_44
  have ffs_34_0 : fs_34[0]? = some (.ref q_1) := by rw [← efs_34]; exact p1_sn (by decide) ffs_31_0
  have ffs_34_5 : fs_34[5]? = some (.int (-1)) := by rw [← efs_34]; exact p1_sn (by decide) ffs_31_5
  have ffs_34_11 : fs_34[11]? = some (.ref q_8) := by rw [← efs_34]; exact p1_sn (by decide) ffs_31_11
  have ffs_34_12 : fs_34[12]? = some (.ref q_11) := by rw [← efs_34]; exact p1_sn (by decide) ffs_31_12
  have ffs_34_13 : fs_34[13]? = some (.ref q_14) := by rw [← efs_34]; exact p1_sn (by decide) ffs_31_13
  have ffs_34_14 : fs_34[14]? = some (.ref q_17) := by rw [← efs_34]; exact p1_sn (by decide) ffs_31_14
  have ffs_34_15 : fs_34[15]? = some (.ref q_20) := by rw [← efs_34]; exact p1_sn (by decide) ffs_31_15
  have ffs_34_16 : fs_34[16]? = some (.ref q_23) := by rw [← efs_34]; exact p1_sn (by decide) ffs_31_16
  have ffs_34_17 : fs_34[17]? = some (.ref q_26) := by rw [← efs_34]; exact p1_sn (by decide) ffs_31_17
  have ffs_34_18 : fs_34[18]? = some (.ref q_29) := by rw [← efs_34]; exact p1_sn (by decide) ffs_31_18
  have ffs_34_19 : fs_34[19]? = some (.ref q_32) := by rw [← efs_34]; exact p1_sa lfs_31 (by decide)
  refine lv_aload_n hx hb dX9_init_90 rfl (lv_at hl 0 rfl) ?_
  refine lv_iconst (v := 2) hx hb dX9_init_91 (by decide) ?_
  refine va_newa (atype := .boolean) (ty := .boolean) (N' := 2) (a0 := (2, .inl (fun _ => 0))) hx hb k_16 rfl hK hP hD hS hA (fun _ => rfl) (by decide) rfl (by decide) (by decide) (by decide) dX9_init_92 (fun q_35 cA_36 H hK hP hD hS => ?_)
  have hP : va_P (dC, dI) vwCl [(h0, .inr (8, fs_34)), (q_1, .inl (cA_2, 1620, .inl (fun _ => 0))), (q_8, .inl (cA_9, 2, .inl (fun _ => 0))), (q_11, .inl (cA_12, 2, .inl (fun _ => 0))), (q_14, .inl (cA_15, 2, .inl (fun _ => 0))), (q_17, .inl (cA_18, 2, .inl (fun _ => 0))), (q_20, .inl (cA_21, 2, .inl (fun _ => 0))), (q_23, .inl (cA_24, 2, .inl (fun _ => 0))), (q_26, .inl (cA_27, 2, .inl (fun _ => 0))), (q_29, .inl (cA_30, 2, .inl (fun _ => 0))), (q_32, .inl (cA_33, 2, .inl (fun _ => 0))), (q_35, .inl (cA_36, 2, .inl (fun _ => 0)))] H := hP
  have hD : va_D A [(h0, .inr (8, fs_34)), (q_1, .inl (cA_2, 1620, .inl (fun _ => 0))), (q_8, .inl (cA_9, 2, .inl (fun _ => 0))), (q_11, .inl (cA_12, 2, .inl (fun _ => 0))), (q_14, .inl (cA_15, 2, .inl (fun _ => 0))), (q_17, .inl (cA_18, 2, .inl (fun _ => 0))), (q_20, .inl (cA_21, 2, .inl (fun _ => 0))), (q_23, .inl (cA_24, 2, .inl (fun _ => 0))), (q_26, .inl (cA_27, 2, .inl (fun _ => 0))), (q_29, .inl (cA_30, 2, .inl (fun _ => 0))), (q_32, .inl (cA_33, 2, .inl (fun _ => 0))), (q_35, .inl (cA_36, 2, .inl (fun _ => 0)))] := hD
  have hK : va_K (dC, dI) vwCl [(cA_2, .byte), (cA_9, .int), (cA_12, .int), (cA_15, .int), (cA_18, .int), (cA_21, .int), (cA_24, .int), (cA_27, .int), (cA_30, .int), (cA_33, .boolean), (cA_36, .boolean)] s := hK
  refine W.widen (k := 12) (n := 3240) (by decide) (by decide) ?_
  refine va_putF (D := (dC, dI)) (ci := 8) (v := .ref q_35) (ty := .array .boolean) (C := RX9) (T := TX9) (N := 81) hx hb hts i_X9 tyX9 tyX9_ok nmX9 hown hK hP hD hS 0 rfl rfl 20 (by decide) k_18 (fun _ h9 => h9) rfl hin rfl (by decide +kernel) rfl rfl (by rw [lfs_34]; decide) dX9_init_94 (fun H locs hP hD hS => ?_)
  have hP : va_P (dC, dI) vwCl [(h0, .inr (8, (fs_34.set 20 (.ref q_35)))), (q_1, .inl (cA_2, 1620, .inl (fun _ => 0))), (q_8, .inl (cA_9, 2, .inl (fun _ => 0))), (q_11, .inl (cA_12, 2, .inl (fun _ => 0))), (q_14, .inl (cA_15, 2, .inl (fun _ => 0))), (q_17, .inl (cA_18, 2, .inl (fun _ => 0))), (q_20, .inl (cA_21, 2, .inl (fun _ => 0))), (q_23, .inl (cA_24, 2, .inl (fun _ => 0))), (q_26, .inl (cA_27, 2, .inl (fun _ => 0))), (q_29, .inl (cA_30, 2, .inl (fun _ => 0))), (q_32, .inl (cA_33, 2, .inl (fun _ => 0))), (q_35, .inl (cA_36, 2, .inl (fun _ => 0)))] H := hP
  have hD : va_D A [(h0, .inr (8, (fs_34.set 20 (.ref q_35)))), (q_1, .inl (cA_2, 1620, .inl (fun _ => 0))), (q_8, .inl (cA_9, 2, .inl (fun _ => 0))), (q_11, .inl (cA_12, 2, .inl (fun _ => 0))), (q_14, .inl (cA_15, 2, .inl (fun _ => 0))), (q_17, .inl (cA_18, 2, .inl (fun _ => 0))), (q_20, .inl (cA_21, 2, .inl (fun _ => 0))), (q_23, .inl (cA_24, 2, .inl (fun _ => 0))), (q_26, .inl (cA_27, 2, .inl (fun _ => 0))), (q_29, .inl (cA_30, 2, .inl (fun _ => 0))), (q_32, .inl (cA_33, 2, .inl (fun _ => 0))), (q_35, .inl (cA_36, 2, .inl (fun _ => 0)))] := hD
  generalize efs_37 : (fs_34.set 20 (.ref q_35)) = fs_37 at hP hD
  have lfs_37 : fs_37.length = 81 := by rw [← efs_37, List.length_set]; exact lfs_34
  have ffs_37_2 : fs_37[2]? = some (.int 0) := by rw [← efs_37]; exact p1_sn (by decide) ffs_34_2
  have ffs_37_3 : fs_37[3]? = some (.int 0) := by rw [← efs_37]; exact p1_sn (by decide) ffs_34_3
  have ffs_37_4 : fs_37[4]? = some (.int 0) := by rw [← efs_37]; exact p1_sn (by decide) ffs_34_4
  have ffs_37_43 : fs_37[43]? = some (.int 0) := by rw [← efs_37]; exact p1_sn (by decide) ffs_34_43
  have ffs_37_60 : fs_37[60]? = some (.int 0) := by rw [← efs_37]; exact p1_sn (by decide) ffs_34_60
  have ffs_37_75 : fs_37[75]? = some (.int 0) := by rw [← efs_37]; exact p1_sn (by decide) ffs_34_75
  have ffs_37_7 : fs_37[7]? = some (.int 0) := by rw [← efs_37]; exact p1_sn (by decide) ffs_34_7
  have ffs_37_76 : fs_37[76]? = some (.int 0) := by rw [← efs_37]; exact p1_sn (by decide) ffs_34_76
  have ffs_37_44 : fs_37[44]? = some (.int 0) := by rw [← efs_37]; exact p1_sn (by decide) ffs_34_44
  have ffs_37_0 : fs_37[0]? = some (.ref q_1) := by rw [← efs_37]; exact p1_sn (by decide) ffs_34_0
  have ffs_37_5 : fs_37[5]? = some (.int (-1)) := by rw [← efs_37]; exact p1_sn (by decide) ffs_34_5
  have ffs_37_11 : fs_37[11]? = some (.ref q_8) := by rw [← efs_37]; exact p1_sn (by decide) ffs_34_11
  have ffs_37_12 : fs_37[12]? = some (.ref q_11) := by rw [← efs_37]; exact p1_sn (by decide) ffs_34_12
  have ffs_37_13 : fs_37[13]? = some (.ref q_14) := by rw [← efs_37]; exact p1_sn (by decide) ffs_34_13
  have ffs_37_14 : fs_37[14]? = some (.ref q_17) := by rw [← efs_37]; exact p1_sn (by decide) ffs_34_14
  have ffs_37_15 : fs_37[15]? = some (.ref q_20) := by rw [← efs_37]; exact p1_sn (by decide) ffs_34_15
  have ffs_37_16 : fs_37[16]? = some (.ref q_23) := by rw [← efs_37]; exact p1_sn (by decide) ffs_34_16
  have ffs_37_17 : fs_37[17]? = some (.ref q_26) := by rw [← efs_37]; exact p1_sn (by decide) ffs_34_17
  have ffs_37_18 : fs_37[18]? = some (.ref q_29) := by rw [← efs_37]; exact p1_sn (by decide) ffs_34_18
  have ffs_37_19 : fs_37[19]? = some (.ref q_32) := by rw [← efs_37]; exact p1_sn (by decide) ffs_34_19
  have ffs_37_20 : fs_37[20]? = some (.ref q_35) := by rw [← efs_37]; exact p1_sa lfs_34 (by decide)
  refine lv_aload_n hx hb dX9_init_97 rfl (lv_at hl 0 rfl) ?_
  refine lv_bipush (v := 12) hx hb dX9_init_98 (by decide) ?_
  refine va_newa (atype := .long) (ty := .long) (N' := 12) (a0 := (12, .inr (.inl (fun _ => 0)))) hx hb k_19 rfl hK hP hD hS hA (fun _ => rfl) (by decide) rfl (by decide) (by decide) (by decide) dX9_init_100 (fun q_38 cA_39 H hK hP hD hS => ?_)
  have hP : va_P (dC, dI) vwCl [(h0, .inr (8, fs_37)), (q_1, .inl (cA_2, 1620, .inl (fun _ => 0))), (q_8, .inl (cA_9, 2, .inl (fun _ => 0))), (q_11, .inl (cA_12, 2, .inl (fun _ => 0))), (q_14, .inl (cA_15, 2, .inl (fun _ => 0))), (q_17, .inl (cA_18, 2, .inl (fun _ => 0))), (q_20, .inl (cA_21, 2, .inl (fun _ => 0))), (q_23, .inl (cA_24, 2, .inl (fun _ => 0))), (q_26, .inl (cA_27, 2, .inl (fun _ => 0))), (q_29, .inl (cA_30, 2, .inl (fun _ => 0))), (q_32, .inl (cA_33, 2, .inl (fun _ => 0))), (q_35, .inl (cA_36, 2, .inl (fun _ => 0))), (q_38, .inl (cA_39, 12, .inr (.inl (fun _ => 0))))] H := hP
  have hD : va_D A [(h0, .inr (8, fs_37)), (q_1, .inl (cA_2, 1620, .inl (fun _ => 0))), (q_8, .inl (cA_9, 2, .inl (fun _ => 0))), (q_11, .inl (cA_12, 2, .inl (fun _ => 0))), (q_14, .inl (cA_15, 2, .inl (fun _ => 0))), (q_17, .inl (cA_18, 2, .inl (fun _ => 0))), (q_20, .inl (cA_21, 2, .inl (fun _ => 0))), (q_23, .inl (cA_24, 2, .inl (fun _ => 0))), (q_26, .inl (cA_27, 2, .inl (fun _ => 0))), (q_29, .inl (cA_30, 2, .inl (fun _ => 0))), (q_32, .inl (cA_33, 2, .inl (fun _ => 0))), (q_35, .inl (cA_36, 2, .inl (fun _ => 0))), (q_38, .inl (cA_39, 12, .inr (.inl (fun _ => 0))))] := hD
  have hK : va_K (dC, dI) vwCl [(cA_2, .byte), (cA_9, .int), (cA_12, .int), (cA_15, .int), (cA_18, .int), (cA_21, .int), (cA_24, .int), (cA_27, .int), (cA_30, .int), (cA_33, .boolean), (cA_36, .boolean), (cA_39, .long)] s := hK
  refine W.widen (k := 13) (n := 3252) (by decide) (by decide) ?_
  refine va_putF (D := (dC, dI)) (ci := 8) (v := .ref q_38) (ty := .array .long) (C := RX9) (T := TX9) (N := 81) hx hb hts i_X9 tyX9 tyX9_ok nmX9 hown hK hP hD hS 0 rfl rfl 21 (by decide) k_20 (fun _ h9 => h9) rfl hin rfl (by decide +kernel) rfl rfl (by rw [lfs_37]; decide) dX9_init_102 (fun H locs hP hD hS => ?_)
  have hP : va_P (dC, dI) vwCl [(h0, .inr (8, (fs_37.set 21 (.ref q_38)))), (q_1, .inl (cA_2, 1620, .inl (fun _ => 0))), (q_8, .inl (cA_9, 2, .inl (fun _ => 0))), (q_11, .inl (cA_12, 2, .inl (fun _ => 0))), (q_14, .inl (cA_15, 2, .inl (fun _ => 0))), (q_17, .inl (cA_18, 2, .inl (fun _ => 0))), (q_20, .inl (cA_21, 2, .inl (fun _ => 0))), (q_23, .inl (cA_24, 2, .inl (fun _ => 0))), (q_26, .inl (cA_27, 2, .inl (fun _ => 0))), (q_29, .inl (cA_30, 2, .inl (fun _ => 0))), (q_32, .inl (cA_33, 2, .inl (fun _ => 0))), (q_35, .inl (cA_36, 2, .inl (fun _ => 0))), (q_38, .inl (cA_39, 12, .inr (.inl (fun _ => 0))))] H := hP
  have hD : va_D A [(h0, .inr (8, (fs_37.set 21 (.ref q_38)))), (q_1, .inl (cA_2, 1620, .inl (fun _ => 0))), (q_8, .inl (cA_9, 2, .inl (fun _ => 0))), (q_11, .inl (cA_12, 2, .inl (fun _ => 0))), (q_14, .inl (cA_15, 2, .inl (fun _ => 0))), (q_17, .inl (cA_18, 2, .inl (fun _ => 0))), (q_20, .inl (cA_21, 2, .inl (fun _ => 0))), (q_23, .inl (cA_24, 2, .inl (fun _ => 0))), (q_26, .inl (cA_27, 2, .inl (fun _ => 0))), (q_29, .inl (cA_30, 2, .inl (fun _ => 0))), (q_32, .inl (cA_33, 2, .inl (fun _ => 0))), (q_35, .inl (cA_36, 2, .inl (fun _ => 0))), (q_38, .inl (cA_39, 12, .inr (.inl (fun _ => 0))))] := hD
  generalize efs_40 : (fs_37.set 21 (.ref q_38)) = fs_40 at hP hD
  have lfs_40 : fs_40.length = 81 := by rw [← efs_40, List.length_set]; exact lfs_37
  have ffs_40_2 : fs_40[2]? = some (.int 0) := by rw [← efs_40]; exact p1_sn (by decide) ffs_37_2
  have ffs_40_3 : fs_40[3]? = some (.int 0) := by rw [← efs_40]; exact p1_sn (by decide) ffs_37_3
  have ffs_40_4 : fs_40[4]? = some (.int 0) := by rw [← efs_40]; exact p1_sn (by decide) ffs_37_4
  have ffs_40_43 : fs_40[43]? = some (.int 0) := by rw [← efs_40]; exact p1_sn (by decide) ffs_37_43
  have ffs_40_60 : fs_40[60]? = some (.int 0) := by rw [← efs_40]; exact p1_sn (by decide) ffs_37_60
  have ffs_40_75 : fs_40[75]? = some (.int 0) := by rw [← efs_40]; exact p1_sn (by decide) ffs_37_75
  have ffs_40_7 : fs_40[7]? = some (.int 0) := by rw [← efs_40]; exact p1_sn (by decide) ffs_37_7
  have ffs_40_76 : fs_40[76]? = some (.int 0) := by rw [← efs_40]; exact p1_sn (by decide) ffs_37_76
  have ffs_40_44 : fs_40[44]? = some (.int 0) := by rw [← efs_40]; exact p1_sn (by decide) ffs_37_44
  have ffs_40_0 : fs_40[0]? = some (.ref q_1) := by rw [← efs_40]; exact p1_sn (by decide) ffs_37_0
  have ffs_40_5 : fs_40[5]? = some (.int (-1)) := by rw [← efs_40]; exact p1_sn (by decide) ffs_37_5
  have ffs_40_11 : fs_40[11]? = some (.ref q_8) := by rw [← efs_40]; exact p1_sn (by decide) ffs_37_11
  have ffs_40_12 : fs_40[12]? = some (.ref q_11) := by rw [← efs_40]; exact p1_sn (by decide) ffs_37_12
  have ffs_40_13 : fs_40[13]? = some (.ref q_14) := by rw [← efs_40]; exact p1_sn (by decide) ffs_37_13
  have ffs_40_14 : fs_40[14]? = some (.ref q_17) := by rw [← efs_40]; exact p1_sn (by decide) ffs_37_14
  have ffs_40_15 : fs_40[15]? = some (.ref q_20) := by rw [← efs_40]; exact p1_sn (by decide) ffs_37_15
  have ffs_40_16 : fs_40[16]? = some (.ref q_23) := by rw [← efs_40]; exact p1_sn (by decide) ffs_37_16
  have ffs_40_17 : fs_40[17]? = some (.ref q_26) := by rw [← efs_40]; exact p1_sn (by decide) ffs_37_17
  have ffs_40_18 : fs_40[18]? = some (.ref q_29) := by rw [← efs_40]; exact p1_sn (by decide) ffs_37_18
  have ffs_40_19 : fs_40[19]? = some (.ref q_32) := by rw [← efs_40]; exact p1_sn (by decide) ffs_37_19
  have ffs_40_20 : fs_40[20]? = some (.ref q_35) := by rw [← efs_40]; exact p1_sn (by decide) ffs_37_20
  have ffs_40_21 : fs_40[21]? = some (.ref q_38) := by rw [← efs_40]; exact p1_sa lfs_37 (by decide)
  have hP := hP.sub (ws' := [(h0, .inr (8, fs_40)), (q_1, .inl (cA_2, 1620, .inl (fun _ => 0))), (q_8, .inl (cA_9, 2, .inl (fun _ => 0))), (q_11, .inl (cA_12, 2, .inl (fun _ => 0))), (q_14, .inl (cA_15, 2, .inl (fun _ => 0))), (q_17, .inl (cA_18, 2, .inl (fun _ => 0))), (q_20, .inl (cA_21, 2, .inl (fun _ => 0))), (q_23, .inl (cA_24, 2, .inl (fun _ => 0))), (q_26, .inl (cA_27, 2, .inl (fun _ => 0))), (q_29, .inl (cA_30, 2, .inl (fun _ => 0))), (q_32, .inl (cA_33, 2, .inl (fun _ => 0))), (q_35, .inl (cA_36, 2, .inl (fun _ => 0)))]) [0, 1, 2, 3, 4, 5, 6, 7, 8, 9, 10, 11] rfl
  have hD := hD.sub (ws' := [(h0, .inr (8, fs_40)), (q_1, .inl (cA_2, 1620, .inl (fun _ => 0))), (q_8, .inl (cA_9, 2, .inl (fun _ => 0))), (q_11, .inl (cA_12, 2, .inl (fun _ => 0))), (q_14, .inl (cA_15, 2, .inl (fun _ => 0))), (q_17, .inl (cA_18, 2, .inl (fun _ => 0))), (q_20, .inl (cA_21, 2, .inl (fun _ => 0))), (q_23, .inl (cA_24, 2, .inl (fun _ => 0))), (q_26, .inl (cA_27, 2, .inl (fun _ => 0))), (q_29, .inl (cA_30, 2, .inl (fun _ => 0))), (q_32, .inl (cA_33, 2, .inl (fun _ => 0))), (q_35, .inl (cA_36, 2, .inl (fun _ => 0)))]) [0, 1, 2, 3, 4, 5, 6, 7, 8, 9, 10, 11] (by decide) rfl
  have hK := hK.sub (tys' := [(cA_2, .byte), (cA_9, .int), (cA_12, .int), (cA_15, .int), (cA_18, .int), (cA_21, .int), (cA_24, .int), (cA_27, .int), (cA_30, .int), (cA_33, .boolean), (cA_36, .boolean)]) [0, 1, 2, 3, 4, 5, 6, 7, 8, 9, 10] rfl
  refine lv_aload_n hx hb dX9_init_105 rfl (lv_at hl 0 rfl) ?_
  refine lv_bipush (v := 8) hx hb dX9_init_106 (by decide) ?_
  refine va_newa (atype := .long) (ty := .long) (N' := 8) (a0 := (8, .inr (.inl (fun _ => 0)))) hx hb k_19 rfl hK hP hD hS hA (fun _ => rfl) (by decide) rfl (by decide) (by decide) (by decide) dX9_init_108 (fun q_41 cA_42 H hK hP hD hS => ?_)
  have hP : va_P (dC, dI) vwCl [(h0, .inr (8, fs_40)), (q_1, .inl (cA_2, 1620, .inl (fun _ => 0))), (q_8, .inl (cA_9, 2, .inl (fun _ => 0))), (q_11, .inl (cA_12, 2, .inl (fun _ => 0))), (q_14, .inl (cA_15, 2, .inl (fun _ => 0))), (q_17, .inl (cA_18, 2, .inl (fun _ => 0))), (q_20, .inl (cA_21, 2, .inl (fun _ => 0))), (q_23, .inl (cA_24, 2, .inl (fun _ => 0))), (q_26, .inl (cA_27, 2, .inl (fun _ => 0))), (q_29, .inl (cA_30, 2, .inl (fun _ => 0))), (q_32, .inl (cA_33, 2, .inl (fun _ => 0))), (q_35, .inl (cA_36, 2, .inl (fun _ => 0))), (q_41, .inl (cA_42, 8, .inr (.inl (fun _ => 0))))] H := hP
  have hD : va_D A [(h0, .inr (8, fs_40)), (q_1, .inl (cA_2, 1620, .inl (fun _ => 0))), (q_8, .inl (cA_9, 2, .inl (fun _ => 0))), (q_11, .inl (cA_12, 2, .inl (fun _ => 0))), (q_14, .inl (cA_15, 2, .inl (fun _ => 0))), (q_17, .inl (cA_18, 2, .inl (fun _ => 0))), (q_20, .inl (cA_21, 2, .inl (fun _ => 0))), (q_23, .inl (cA_24, 2, .inl (fun _ => 0))), (q_26, .inl (cA_27, 2, .inl (fun _ => 0))), (q_29, .inl (cA_30, 2, .inl (fun _ => 0))), (q_32, .inl (cA_33, 2, .inl (fun _ => 0))), (q_35, .inl (cA_36, 2, .inl (fun _ => 0))), (q_41, .inl (cA_42, 8, .inr (.inl (fun _ => 0))))] := hD
  have hK : va_K (dC, dI) vwCl [(cA_2, .byte), (cA_9, .int), (cA_12, .int), (cA_15, .int), (cA_18, .int), (cA_21, .int), (cA_24, .int), (cA_27, .int), (cA_30, .int), (cA_33, .boolean), (cA_36, .boolean), (cA_42, .long)] s := hK
  refine W.widen (k := 14) (n := 3260) (by decide) (by decide) ?_
  refine va_putF (D := (dC, dI)) (ci := 8) (v := .ref q_41) (ty := .array .long) (C := RX9) (T := TX9) (N := 81) hx hb hts i_X9 tyX9 tyX9_ok nmX9 hown hK hP hD hS 0 rfl rfl 22 (by decide) k_21 (fun _ h9 => h9) rfl hin rfl (by decide +kernel) rfl rfl (by rw [lfs_40]; decide) dX9_init_110 (fun H locs hP hD hS => ?_)
  have hP : va_P (dC, dI) vwCl [(h0, .inr (8, (fs_40.set 22 (.ref q_41)))), (q_1, .inl (cA_2, 1620, .inl (fun _ => 0))), (q_8, .inl (cA_9, 2, .inl (fun _ => 0))), (q_11, .inl (cA_12, 2, .inl (fun _ => 0))), (q_14, .inl (cA_15, 2, .inl (fun _ => 0))), (q_17, .inl (cA_18, 2, .inl (fun _ => 0))), (q_20, .inl (cA_21, 2, .inl (fun _ => 0))), (q_23, .inl (cA_24, 2, .inl (fun _ => 0))), (q_26, .inl (cA_27, 2, .inl (fun _ => 0))), (q_29, .inl (cA_30, 2, .inl (fun _ => 0))), (q_32, .inl (cA_33, 2, .inl (fun _ => 0))), (q_35, .inl (cA_36, 2, .inl (fun _ => 0))), (q_41, .inl (cA_42, 8, .inr (.inl (fun _ => 0))))] H := hP
  have hD : va_D A [(h0, .inr (8, (fs_40.set 22 (.ref q_41)))), (q_1, .inl (cA_2, 1620, .inl (fun _ => 0))), (q_8, .inl (cA_9, 2, .inl (fun _ => 0))), (q_11, .inl (cA_12, 2, .inl (fun _ => 0))), (q_14, .inl (cA_15, 2, .inl (fun _ => 0))), (q_17, .inl (cA_18, 2, .inl (fun _ => 0))), (q_20, .inl (cA_21, 2, .inl (fun _ => 0))), (q_23, .inl (cA_24, 2, .inl (fun _ => 0))), (q_26, .inl (cA_27, 2, .inl (fun _ => 0))), (q_29, .inl (cA_30, 2, .inl (fun _ => 0))), (q_32, .inl (cA_33, 2, .inl (fun _ => 0))), (q_35, .inl (cA_36, 2, .inl (fun _ => 0))), (q_41, .inl (cA_42, 8, .inr (.inl (fun _ => 0))))] := hD
  generalize efs_43 : (fs_40.set 22 (.ref q_41)) = fs_43 at hP hD
  have lfs_43 : fs_43.length = 81 := by rw [← efs_43, List.length_set]; exact lfs_40
  have ffs_43_2 : fs_43[2]? = some (.int 0) := by rw [← efs_43]; exact p1_sn (by decide) ffs_40_2
  have ffs_43_3 : fs_43[3]? = some (.int 0) := by rw [← efs_43]; exact p1_sn (by decide) ffs_40_3
  have ffs_43_4 : fs_43[4]? = some (.int 0) := by rw [← efs_43]; exact p1_sn (by decide) ffs_40_4
  have ffs_43_43 : fs_43[43]? = some (.int 0) := by rw [← efs_43]; exact p1_sn (by decide) ffs_40_43
  have ffs_43_60 : fs_43[60]? = some (.int 0) := by rw [← efs_43]; exact p1_sn (by decide) ffs_40_60
  have ffs_43_75 : fs_43[75]? = some (.int 0) := by rw [← efs_43]; exact p1_sn (by decide) ffs_40_75
  have ffs_43_7 : fs_43[7]? = some (.int 0) := by rw [← efs_43]; exact p1_sn (by decide) ffs_40_7
  have ffs_43_76 : fs_43[76]? = some (.int 0) := by rw [← efs_43]; exact p1_sn (by decide) ffs_40_76
  have ffs_43_44 : fs_43[44]? = some (.int 0) := by rw [← efs_43]; exact p1_sn (by decide) ffs_40_44
  have ffs_43_0 : fs_43[0]? = some (.ref q_1) := by rw [← efs_43]; exact p1_sn (by decide) ffs_40_0
  have ffs_43_5 : fs_43[5]? = some (.int (-1)) := by rw [← efs_43]; exact p1_sn (by decide) ffs_40_5
  have ffs_43_11 : fs_43[11]? = some (.ref q_8) := by rw [← efs_43]; exact p1_sn (by decide) ffs_40_11
  have ffs_43_12 : fs_43[12]? = some (.ref q_11) := by rw [← efs_43]; exact p1_sn (by decide) ffs_40_12
  have ffs_43_13 : fs_43[13]? = some (.ref q_14) := by rw [← efs_43]; exact p1_sn (by decide) ffs_40_13
  have ffs_43_14 : fs_43[14]? = some (.ref q_17) := by rw [← efs_43]; exact p1_sn (by decide) ffs_40_14
  have ffs_43_15 : fs_43[15]? = some (.ref q_20) := by rw [← efs_43]; exact p1_sn (by decide) ffs_40_15
  have ffs_43_16 : fs_43[16]? = some (.ref q_23) := by rw [← efs_43]; exact p1_sn (by decide) ffs_40_16
  have ffs_43_17 : fs_43[17]? = some (.ref q_26) := by rw [← efs_43]; exact p1_sn (by decide) ffs_40_17
  have ffs_43_18 : fs_43[18]? = some (.ref q_29) := by rw [← efs_43]; exact p1_sn (by decide) ffs_40_18
  have ffs_43_19 : fs_43[19]? = some (.ref q_32) := by rw [← efs_43]; exact p1_sn (by decide) ffs_40_19
  have ffs_43_20 : fs_43[20]? = some (.ref q_35) := by rw [← efs_43]; exact p1_sn (by decide) ffs_40_20
  have ffs_43_22 : fs_43[22]? = some (.ref q_41) := by rw [← efs_43]; exact p1_sa lfs_40 (by decide)
  have hP := hP.sub (ws' := [(h0, .inr (8, fs_43)), (q_1, .inl (cA_2, 1620, .inl (fun _ => 0))), (q_8, .inl (cA_9, 2, .inl (fun _ => 0))), (q_11, .inl (cA_12, 2, .inl (fun _ => 0))), (q_14, .inl (cA_15, 2, .inl (fun _ => 0))), (q_17, .inl (cA_18, 2, .inl (fun _ => 0))), (q_20, .inl (cA_21, 2, .inl (fun _ => 0))), (q_23, .inl (cA_24, 2, .inl (fun _ => 0))), (q_26, .inl (cA_27, 2, .inl (fun _ => 0))), (q_29, .inl (cA_30, 2, .inl (fun _ => 0))), (q_32, .inl (cA_33, 2, .inl (fun _ => 0))), (q_35, .inl (cA_36, 2, .inl (fun _ => 0)))]) [0, 1, 2, 3, 4, 5, 6, 7, 8, 9, 10, 11] rfl
  have hD := hD.sub (ws' := [(h0, .inr (8, fs_43)), (q_1, .inl (cA_2, 1620, .inl (fun _ => 0))), (q_8, .inl (cA_9, 2, .inl (fun _ => 0))), (q_11, .inl (cA_12, 2, .inl (fun _ => 0))), (q_14, .inl (cA_15, 2, .inl (fun _ => 0))), (q_17, .inl (cA_18, 2, .inl (fun _ => 0))), (q_20, .inl (cA_21, 2, .inl (fun _ => 0))), (q_23, .inl (cA_24, 2, .inl (fun _ => 0))), (q_26, .inl (cA_27, 2, .inl (fun _ => 0))), (q_29, .inl (cA_30, 2, .inl (fun _ => 0))), (q_32, .inl (cA_33, 2, .inl (fun _ => 0))), (q_35, .inl (cA_36, 2, .inl (fun _ => 0)))]) [0, 1, 2, 3, 4, 5, 6, 7, 8, 9, 10, 11] (by decide) rfl
  have hK := hK.sub (tys' := [(cA_2, .byte), (cA_9, .int), (cA_12, .int), (cA_15, .int), (cA_18, .int), (cA_21, .int), (cA_24, .int), (cA_27, .int), (cA_30, .int), (cA_33, .boolean), (cA_36, .boolean)]) [0, 1, 2, 3, 4, 5, 6, 7, 8, 9, 10] rfl
  refine lv_aload_n hx hb dX9_init_113 rfl (lv_at hl 0 rfl) ?_
  refine lv_bipush (v := 8) hx hb dX9_init_114 (by decide) ?_
  refine va_newa (atype := .long) (ty := .long) (N' := 8) (a0 := (8, .inr (.inl (fun _ => 0)))) hx hb k_19 rfl hK hP hD hS hA (fun _ => rfl) (by decide) rfl (by decide) (by decide) (by decide) dX9_init_116 (fun q_44 cA_45 H hK hP hD hS => ?_)
  have hP : va_P (dC, dI) vwCl [(h0, .inr (8, fs_43)), (q_1, .inl (cA_2, 1620, .inl (fun _ => 0))), (q_8, .inl (cA_9, 2, .inl (fun _ => 0))), (q_11, .inl (cA_12, 2, .inl (fun _ => 0))), (q_14, .inl (cA_15, 2, .inl (fun _ => 0))), (q_17, .inl (cA_18, 2, .inl (fun _ => 0))), (q_20, .inl (cA_21, 2, .inl (fun _ => 0))), (q_23, .inl (cA_24, 2, .inl (fun _ => 0))), (q_26, .inl (cA_27, 2, .inl (fun _ => 0))), (q_29, .inl (cA_30, 2, .inl (fun _ => 0))), (q_32, .inl (cA_33, 2, .inl (fun _ => 0))), (q_35, .inl (cA_36, 2, .inl (fun _ => 0))), (q_44, .inl (cA_45, 8, .inr (.inl (fun _ => 0))))] H := hP
  have hD : va_D A [(h0, .inr (8, fs_43)), (q_1, .inl (cA_2, 1620, .inl (fun _ => 0))), (q_8, .inl (cA_9, 2, .inl (fun _ => 0))), (q_11, .inl (cA_12, 2, .inl (fun _ => 0))), (q_14, .inl (cA_15, 2, .inl (fun _ => 0))), (q_17, .inl (cA_18, 2, .inl (fun _ => 0))), (q_20, .inl (cA_21, 2, .inl (fun _ => 0))), (q_23, .inl (cA_24, 2, .inl (fun _ => 0))), (q_26, .inl (cA_27, 2, .inl (fun _ => 0))), (q_29, .inl (cA_30, 2, .inl (fun _ => 0))), (q_32, .inl (cA_33, 2, .inl (fun _ => 0))), (q_35, .inl (cA_36, 2, .inl (fun _ => 0))), (q_44, .inl (cA_45, 8, .inr (.inl (fun _ => 0))))] := hD
  have hK : va_K (dC, dI) vwCl [(cA_2, .byte), (cA_9, .int), (cA_12, .int), (cA_15, .int), (cA_18, .int), (cA_21, .int), (cA_24, .int), (cA_27, .int), (cA_30, .int), (cA_33, .boolean), (cA_36, .boolean), (cA_45, .long)] s := hK
  refine W.widen (k := 15) (n := 3268) (by decide) (by decide) ?_
  refine va_putF (D := (dC, dI)) (ci := 8) (v := .ref q_44) (ty := .array .long) (C := RX9) (T := TX9) (N := 81) hx hb hts i_X9 tyX9 tyX9_ok nmX9 hown hK hP hD hS 0 rfl rfl 23 (by decide) k_22 (fun _ h9 => h9) rfl hin rfl (by decide +kernel) rfl rfl (by rw [lfs_43]; decide) dX9_init_118 (fun H locs hP hD hS => ?_)
  have hP : va_P (dC, dI) vwCl [(h0, .inr (8, (fs_43.set 23 (.ref q_44)))), (q_1, .inl (cA_2, 1620, .inl (fun _ => 0))), (q_8, .inl (cA_9, 2, .inl (fun _ => 0))), (q_11, .inl (cA_12, 2, .inl (fun _ => 0))), (q_14, .inl (cA_15, 2, .inl (fun _ => 0))), (q_17, .inl (cA_18, 2, .inl (fun _ => 0))), (q_20, .inl (cA_21, 2, .inl (fun _ => 0))), (q_23, .inl (cA_24, 2, .inl (fun _ => 0))), (q_26, .inl (cA_27, 2, .inl (fun _ => 0))), (q_29, .inl (cA_30, 2, .inl (fun _ => 0))), (q_32, .inl (cA_33, 2, .inl (fun _ => 0))), (q_35, .inl (cA_36, 2, .inl (fun _ => 0))), (q_44, .inl (cA_45, 8, .inr (.inl (fun _ => 0))))] H := hP
  have hD : va_D A [(h0, .inr (8, (fs_43.set 23 (.ref q_44)))), (q_1, .inl (cA_2, 1620, .inl (fun _ => 0))), (q_8, .inl (cA_9, 2, .inl (fun _ => 0))), (q_11, .inl (cA_12, 2, .inl (fun _ => 0))), (q_14, .inl (cA_15, 2, .inl (fun _ => 0))), (q_17, .inl (cA_18, 2, .inl (fun _ => 0))), (q_20, .inl (cA_21, 2, .inl (fun _ => 0))), (q_23, .inl (cA_24, 2, .inl (fun _ => 0))), (q_26, .inl (cA_27, 2, .inl (fun _ => 0))), (q_29, .inl (cA_30, 2, .inl (fun _ => 0))), (q_32, .inl (cA_33, 2, .inl (fun _ => 0))), (q_35, .inl (cA_36, 2, .inl (fun _ => 0))), (q_44, .inl (cA_45, 8, .inr (.inl (fun _ => 0))))] := hD
  generalize efs_46 : (fs_43.set 23 (.ref q_44)) = fs_46 at hP hD
  have lfs_46 : fs_46.length = 81 := by rw [← efs_46, List.length_set]; exact lfs_43
  have ffs_46_2 : fs_46[2]? = some (.int 0) := by rw [← efs_46]; exact p1_sn (by decide) ffs_43_2
  have ffs_46_3 : fs_46[3]? = some (.int 0) := by rw [← efs_46]; exact p1_sn (by decide) ffs_43_3
  have ffs_46_4 : fs_46[4]? = some (.int 0) := by rw [← efs_46]; exact p1_sn (by decide) ffs_43_4
  have ffs_46_43 : fs_46[43]? = some (.int 0) := by rw [← efs_46]; exact p1_sn (by decide) ffs_43_43
  have ffs_46_60 : fs_46[60]? = some (.int 0) := by rw [← efs_46]; exact p1_sn (by decide) ffs_43_60
  have ffs_46_75 : fs_46[75]? = some (.int 0) := by rw [← efs_46]; exact p1_sn (by decide) ffs_43_75
  have ffs_46_7 : fs_46[7]? = some (.int 0) := by rw [← efs_46]; exact p1_sn (by decide) ffs_43_7
  have ffs_46_76 : fs_46[76]? = some (.int 0) := by rw [← efs_46]; exact p1_sn (by decide) ffs_43_76
  have ffs_46_44 : fs_46[44]? = some (.int 0) := by rw [← efs_46]; exact p1_sn (by decide) ffs_43_44
  have ffs_46_0 : fs_46[0]? = some (.ref q_1) := by rw [← efs_46]; exact p1_sn (by decide) ffs_43_0
  have ffs_46_5 : fs_46[5]? = some (.int (-1)) := by rw [← efs_46]; exact p1_sn (by decide) ffs_43_5
  have ffs_46_11 : fs_46[11]? = some (.ref q_8) := by rw [← efs_46]; exact p1_sn (by decide) ffs_43_11
  have ffs_46_12 : fs_46[12]? = some (.ref q_11) := by rw [← efs_46]; exact p1_sn (by decide) ffs_43_12
  have ffs_46_13 : fs_46[13]? = some (.ref q_14) := by rw [← efs_46]; exact p1_sn (by decide) ffs_43_13
  have ffs_46_14 : fs_46[14]? = some (.ref q_17) := by rw [← efs_46]; exact p1_sn (by decide) ffs_43_14
  have ffs_46_15 : fs_46[15]? = some (.ref q_20) := by rw [← efs_46]; exact p1_sn (by decide) ffs_43_15
  have ffs_46_16 : fs_46[16]? = some (.ref q_23) := by rw [← efs_46]; exact p1_sn (by decide) ffs_43_16
  have ffs_46_17 : fs_46[17]? = some (.ref q_26) := by rw [← efs_46]; exact p1_sn (by decide) ffs_43_17
  have ffs_46_18 : fs_46[18]? = some (.ref q_29) := by rw [← efs_46]; exact p1_sn (by decide) ffs_43_18
  have ffs_46_19 : fs_46[19]? = some (.ref q_32) := by rw [← efs_46]; exact p1_sn (by decide) ffs_43_19
  have ffs_46_20 : fs_46[20]? = some (.ref q_35) := by rw [← efs_46]; exact p1_sn (by decide) ffs_43_20
  have ffs_46_23 : fs_46[23]? = some (.ref q_44) := by rw [← efs_46]; exact p1_sa lfs_43 (by decide)
  have hP := hP.sub (ws' := [(h0, .inr (8, fs_46)), (q_1, .inl (cA_2, 1620, .inl (fun _ => 0))), (q_8, .inl (cA_9, 2, .inl (fun _ => 0))), (q_11, .inl (cA_12, 2, .inl (fun _ => 0))), (q_14, .inl (cA_15, 2, .inl (fun _ => 0))), (q_17, .inl (cA_18, 2, .inl (fun _ => 0))), (q_20, .inl (cA_21, 2, .inl (fun _ => 0))), (q_23, .inl (cA_24, 2, .inl (fun _ => 0))), (q_26, .inl (cA_27, 2, .inl (fun _ => 0))), (q_29, .inl (cA_30, 2, .inl (fun _ => 0))), (q_32, .inl (cA_33, 2, .inl (fun _ => 0))), (q_35, .inl (cA_36, 2, .inl (fun _ => 0)))]) [0, 1, 2, 3, 4, 5, 6, 7, 8, 9, 10, 11] rfl
  have hD := hD.sub (ws' := [(h0, .inr (8, fs_46)), (q_1, .inl (cA_2, 1620, .inl (fun _ => 0))), (q_8, .inl (cA_9, 2, .inl (fun _ => 0))), (q_11, .inl (cA_12, 2, .inl (fun _ => 0))), (q_14, .inl (cA_15, 2, .inl (fun _ => 0))), (q_17, .inl (cA_18, 2, .inl (fun _ => 0))), (q_20, .inl (cA_21, 2, .inl (fun _ => 0))), (q_23, .inl (cA_24, 2, .inl (fun _ => 0))), (q_26, .inl (cA_27, 2, .inl (fun _ => 0))), (q_29, .inl (cA_30, 2, .inl (fun _ => 0))), (q_32, .inl (cA_33, 2, .inl (fun _ => 0))), (q_35, .inl (cA_36, 2, .inl (fun _ => 0)))]) [0, 1, 2, 3, 4, 5, 6, 7, 8, 9, 10, 11] (by decide) rfl
  have hK := hK.sub (tys' := [(cA_2, .byte), (cA_9, .int), (cA_12, .int), (cA_15, .int), (cA_18, .int), (cA_21, .int), (cA_24, .int), (cA_27, .int), (cA_30, .int), (cA_33, .boolean), (cA_36, .boolean)]) [0, 1, 2, 3, 4, 5, 6, 7, 8, 9, 10] rfl
  refine lv_aload_n hx hb dX9_init_121 rfl (lv_at hl 0 rfl) ?_
  refine lv_bipush (v := 6) hx hb dX9_init_122 (by decide) ?_
  refine va_newa (atype := .long) (ty := .long) (N' := 6) (a0 := (6, .inr (.inl (fun _ => 0)))) hx hb k_19 rfl hK hP hD hS hA (fun _ => rfl) (by decide) rfl (by decide) (by decide) (by decide) dX9_init_124 (fun q_47 cA_48 H hK hP hD hS => ?_)
  have hP : va_P (dC, dI) vwCl [(h0, .inr (8, fs_46)), (q_1, .inl (cA_2, 1620, .inl (fun _ => 0))), (q_8, .inl (cA_9, 2, .inl (fun _ => 0))), (q_11, .inl (cA_12, 2, .inl (fun _ => 0))), (q_14, .inl (cA_15, 2, .inl (fun _ => 0))), (q_17, .inl (cA_18, 2, .inl (fun _ => 0))), (q_20, .inl (cA_21, 2, .inl (fun _ => 0))), (q_23, .inl (cA_24, 2, .inl (fun _ => 0))), (q_26, .inl (cA_27, 2, .inl (fun _ => 0))), (q_29, .inl (cA_30, 2, .inl (fun _ => 0))), (q_32, .inl (cA_33, 2, .inl (fun _ => 0))), (q_35, .inl (cA_36, 2, .inl (fun _ => 0))), (q_47, .inl (cA_48, 6, .inr (.inl (fun _ => 0))))] H := hP
  have hD : va_D A [(h0, .inr (8, fs_46)), (q_1, .inl (cA_2, 1620, .inl (fun _ => 0))), (q_8, .inl (cA_9, 2, .inl (fun _ => 0))), (q_11, .inl (cA_12, 2, .inl (fun _ => 0))), (q_14, .inl (cA_15, 2, .inl (fun _ => 0))), (q_17, .inl (cA_18, 2, .inl (fun _ => 0))), (q_20, .inl (cA_21, 2, .inl (fun _ => 0))), (q_23, .inl (cA_24, 2, .inl (fun _ => 0))), (q_26, .inl (cA_27, 2, .inl (fun _ => 0))), (q_29, .inl (cA_30, 2, .inl (fun _ => 0))), (q_32, .inl (cA_33, 2, .inl (fun _ => 0))), (q_35, .inl (cA_36, 2, .inl (fun _ => 0))), (q_47, .inl (cA_48, 6, .inr (.inl (fun _ => 0))))] := hD
  have hK : va_K (dC, dI) vwCl [(cA_2, .byte), (cA_9, .int), (cA_12, .int), (cA_15, .int), (cA_18, .int), (cA_21, .int), (cA_24, .int), (cA_27, .int), (cA_30, .int), (cA_33, .boolean), (cA_36, .boolean), (cA_48, .long)] s := hK
  refine W.widen (k := 16) (n := 3274) (by decide) (by decide) ?_
  refine va_putF (D := (dC, dI)) (ci := 8) (v := .ref q_47) (ty := .array .long) (C := RX9) (T := TX9) (N := 81) hx hb hts i_X9 tyX9 tyX9_ok nmX9 hown hK hP hD hS 0 rfl rfl 24 (by decide) k_23 (fun _ h9 => h9) rfl hin rfl (by decide +kernel) rfl rfl (by rw [lfs_46]; decide) dX9_init_126 (fun H locs hP hD hS => ?_)
  have hP : va_P (dC, dI) vwCl [(h0, .inr (8, (fs_46.set 24 (.ref q_47)))), (q_1, .inl (cA_2, 1620, .inl (fun _ => 0))), (q_8, .inl (cA_9, 2, .inl (fun _ => 0))), (q_11, .inl (cA_12, 2, .inl (fun _ => 0))), (q_14, .inl (cA_15, 2, .inl (fun _ => 0))), (q_17, .inl (cA_18, 2, .inl (fun _ => 0))), (q_20, .inl (cA_21, 2, .inl (fun _ => 0))), (q_23, .inl (cA_24, 2, .inl (fun _ => 0))), (q_26, .inl (cA_27, 2, .inl (fun _ => 0))), (q_29, .inl (cA_30, 2, .inl (fun _ => 0))), (q_32, .inl (cA_33, 2, .inl (fun _ => 0))), (q_35, .inl (cA_36, 2, .inl (fun _ => 0))), (q_47, .inl (cA_48, 6, .inr (.inl (fun _ => 0))))] H := hP
  have hD : va_D A [(h0, .inr (8, (fs_46.set 24 (.ref q_47)))), (q_1, .inl (cA_2, 1620, .inl (fun _ => 0))), (q_8, .inl (cA_9, 2, .inl (fun _ => 0))), (q_11, .inl (cA_12, 2, .inl (fun _ => 0))), (q_14, .inl (cA_15, 2, .inl (fun _ => 0))), (q_17, .inl (cA_18, 2, .inl (fun _ => 0))), (q_20, .inl (cA_21, 2, .inl (fun _ => 0))), (q_23, .inl (cA_24, 2, .inl (fun _ => 0))), (q_26, .inl (cA_27, 2, .inl (fun _ => 0))), (q_29, .inl (cA_30, 2, .inl (fun _ => 0))), (q_32, .inl (cA_33, 2, .inl (fun _ => 0))), (q_35, .inl (cA_36, 2, .inl (fun _ => 0))), (q_47, .inl (cA_48, 6, .inr (.inl (fun _ => 0))))] := hD
  generalize efs_49 : (fs_46.set 24 (.ref q_47)) = fs_49 at hP hD
  have lfs_49 : fs_49.length = 81 := by rw [← efs_49, List.length_set]; exact lfs_46
  have ffs_49_2 : fs_49[2]? = some (.int 0) := by rw [← efs_49]; exact p1_sn (by decide) ffs_46_2
  have ffs_49_3 : fs_49[3]? = some (.int 0) := by rw [← efs_49]; exact p1_sn (by decide) ffs_46_3
  have ffs_49_4 : fs_49[4]? = some (.int 0) := by rw [← efs_49]; exact p1_sn (by decide) ffs_46_4
  have ffs_49_43 : fs_49[43]? = some (.int 0) := by rw [← efs_49]; exact p1_sn (by decide) ffs_46_43
  have ffs_49_60 : fs_49[60]? = some (.int 0) := by rw [← efs_49]; exact p1_sn (by decide) ffs_46_60
  have ffs_49_75 : fs_49[75]? = some (.int 0) := by rw [← efs_49]; exact p1_sn (by decide) ffs_46_75
  have ffs_49_7 : fs_49[7]? = some (.int 0) := by rw [← efs_49]; exact p1_sn (by decide) ffs_46_7
  have ffs_49_76 : fs_49[76]? = some (.int 0) := by rw [← efs_49]; exact p1_sn (by decide) ffs_46_76
  have ffs_49_44 : fs_49[44]? = some (.int 0) := by rw [← efs_49]; exact p1_sn (by decide) ffs_46_44
  have ffs_49_0 : fs_49[0]? = some (.ref q_1) := by rw [← efs_49]; exact p1_sn (by decide) ffs_46_0
  have ffs_49_5 : fs_49[5]? = some (.int (-1)) := by rw [← efs_49]; exact p1_sn (by decide) ffs_46_5
  have ffs_49_11 : fs_49[11]? = some (.ref q_8) := by rw [← efs_49]; exact p1_sn (by decide) ffs_46_11
  have ffs_49_12 : fs_49[12]? = some (.ref q_11) := by rw [← efs_49]; exact p1_sn (by decide) ffs_46_12
  have ffs_49_13 : fs_49[13]? = some (.ref q_14) := by rw [← efs_49]; exact p1_sn (by decide) ffs_46_13
  have ffs_49_14 : fs_49[14]? = some (.ref q_17) := by rw [← efs_49]; exact p1_sn (by decide) ffs_46_14
  have ffs_49_15 : fs_49[15]? = some (.ref q_20) := by rw [← efs_49]; exact p1_sn (by decide) ffs_46_15
  have ffs_49_16 : fs_49[16]? = some (.ref q_23) := by rw [← efs_49]; exact p1_sn (by decide) ffs_46_16
  have ffs_49_17 : fs_49[17]? = some (.ref q_26) := by rw [← efs_49]; exact p1_sn (by decide) ffs_46_17
  have ffs_49_18 : fs_49[18]? = some (.ref q_29) := by rw [← efs_49]; exact p1_sn (by decide) ffs_46_18
  have ffs_49_19 : fs_49[19]? = some (.ref q_32) := by rw [← efs_49]; exact p1_sn (by decide) ffs_46_19
  have ffs_49_20 : fs_49[20]? = some (.ref q_35) := by rw [← efs_49]; exact p1_sn (by decide) ffs_46_20
  have ffs_49_24 : fs_49[24]? = some (.ref q_47) := by rw [← efs_49]; exact p1_sa lfs_46 (by decide)
  have hP := hP.sub (ws' := [(h0, .inr (8, fs_49)), (q_1, .inl (cA_2, 1620, .inl (fun _ => 0))), (q_8, .inl (cA_9, 2, .inl (fun _ => 0))), (q_11, .inl (cA_12, 2, .inl (fun _ => 0))), (q_14, .inl (cA_15, 2, .inl (fun _ => 0))), (q_17, .inl (cA_18, 2, .inl (fun _ => 0))), (q_20, .inl (cA_21, 2, .inl (fun _ => 0))), (q_23, .inl (cA_24, 2, .inl (fun _ => 0))), (q_26, .inl (cA_27, 2, .inl (fun _ => 0))), (q_29, .inl (cA_30, 2, .inl (fun _ => 0))), (q_32, .inl (cA_33, 2, .inl (fun _ => 0))), (q_35, .inl (cA_36, 2, .inl (fun _ => 0)))]) [0, 1, 2, 3, 4, 5, 6, 7, 8, 9, 10, 11] rfl
  have hD := hD.sub (ws' := [(h0, .inr (8, fs_49)), (q_1, .inl (cA_2, 1620, .inl (fun _ => 0))), (q_8, .inl (cA_9, 2, .inl (fun _ => 0))), (q_11, .inl (cA_12, 2, .inl (fun _ => 0))), (q_14, .inl (cA_15, 2, .inl (fun _ => 0))), (q_17, .inl (cA_18, 2, .inl (fun _ => 0))), (q_20, .inl (cA_21, 2, .inl (fun _ => 0))), (q_23, .inl (cA_24, 2, .inl (fun _ => 0))), (q_26, .inl (cA_27, 2, .inl (fun _ => 0))), (q_29, .inl (cA_30, 2, .inl (fun _ => 0))), (q_32, .inl (cA_33, 2, .inl (fun _ => 0))), (q_35, .inl (cA_36, 2, .inl (fun _ => 0)))]) [0, 1, 2, 3, 4, 5, 6, 7, 8, 9, 10, 11] (by decide) rfl
  have hK := hK.sub (tys' := [(cA_2, .byte), (cA_9, .int), (cA_12, .int), (cA_15, .int), (cA_18, .int), (cA_21, .int), (cA_24, .int), (cA_27, .int), (cA_30, .int), (cA_33, .boolean), (cA_36, .boolean)]) [0, 1, 2, 3, 4, 5, 6, 7, 8, 9, 10] rfl
  refine lv_aload_n hx hb dX9_init_129 rfl (lv_at hl 0 rfl) ?_
  refine lv_bipush (v := 8) hx hb dX9_init_130 (by decide) ?_
  refine va_newa (atype := .long) (ty := .long) (N' := 8) (a0 := (8, .inr (.inl (fun _ => 0)))) hx hb k_19 rfl hK hP hD hS hA (fun _ => rfl) (by decide) rfl (by decide) (by decide) (by decide) dX9_init_132 (fun q_50 cA_51 H hK hP hD hS => ?_)
  have hP : va_P (dC, dI) vwCl [(h0, .inr (8, fs_49)), (q_1, .inl (cA_2, 1620, .inl (fun _ => 0))), (q_8, .inl (cA_9, 2, .inl (fun _ => 0))), (q_11, .inl (cA_12, 2, .inl (fun _ => 0))), (q_14, .inl (cA_15, 2, .inl (fun _ => 0))), (q_17, .inl (cA_18, 2, .inl (fun _ => 0))), (q_20, .inl (cA_21, 2, .inl (fun _ => 0))), (q_23, .inl (cA_24, 2, .inl (fun _ => 0))), (q_26, .inl (cA_27, 2, .inl (fun _ => 0))), (q_29, .inl (cA_30, 2, .inl (fun _ => 0))), (q_32, .inl (cA_33, 2, .inl (fun _ => 0))), (q_35, .inl (cA_36, 2, .inl (fun _ => 0))), (q_50, .inl (cA_51, 8, .inr (.inl (fun _ => 0))))] H := hP
  have hD : va_D A [(h0, .inr (8, fs_49)), (q_1, .inl (cA_2, 1620, .inl (fun _ => 0))), (q_8, .inl (cA_9, 2, .inl (fun _ => 0))), (q_11, .inl (cA_12, 2, .inl (fun _ => 0))), (q_14, .inl (cA_15, 2, .inl (fun _ => 0))), (q_17, .inl (cA_18, 2, .inl (fun _ => 0))), (q_20, .inl (cA_21, 2, .inl (fun _ => 0))), (q_23, .inl (cA_24, 2, .inl (fun _ => 0))), (q_26, .inl (cA_27, 2, .inl (fun _ => 0))), (q_29, .inl (cA_30, 2, .inl (fun _ => 0))), (q_32, .inl (cA_33, 2, .inl (fun _ => 0))), (q_35, .inl (cA_36, 2, .inl (fun _ => 0))), (q_50, .inl (cA_51, 8, .inr (.inl (fun _ => 0))))] := hD
  have hK : va_K (dC, dI) vwCl [(cA_2, .byte), (cA_9, .int), (cA_12, .int), (cA_15, .int), (cA_18, .int), (cA_21, .int), (cA_24, .int), (cA_27, .int), (cA_30, .int), (cA_33, .boolean), (cA_36, .boolean), (cA_51, .long)] s := hK
  refine W.widen (k := 17) (n := 3282) (by decide) (by decide) ?_
  refine va_putF (D := (dC, dI)) (ci := 8) (v := .ref q_50) (ty := .array .long) (C := RX9) (T := TX9) (N := 81) hx hb hts i_X9 tyX9 tyX9_ok nmX9 hown hK hP hD hS 0 rfl rfl 25 (by decide) k_24 (fun _ h9 => h9) rfl hin rfl (by decide +kernel) rfl rfl (by rw [lfs_49]; decide) dX9_init_134 (fun H locs hP hD hS => ?_)
  have hP : va_P (dC, dI) vwCl [(h0, .inr (8, (fs_49.set 25 (.ref q_50)))), (q_1, .inl (cA_2, 1620, .inl (fun _ => 0))), (q_8, .inl (cA_9, 2, .inl (fun _ => 0))), (q_11, .inl (cA_12, 2, .inl (fun _ => 0))), (q_14, .inl (cA_15, 2, .inl (fun _ => 0))), (q_17, .inl (cA_18, 2, .inl (fun _ => 0))), (q_20, .inl (cA_21, 2, .inl (fun _ => 0))), (q_23, .inl (cA_24, 2, .inl (fun _ => 0))), (q_26, .inl (cA_27, 2, .inl (fun _ => 0))), (q_29, .inl (cA_30, 2, .inl (fun _ => 0))), (q_32, .inl (cA_33, 2, .inl (fun _ => 0))), (q_35, .inl (cA_36, 2, .inl (fun _ => 0))), (q_50, .inl (cA_51, 8, .inr (.inl (fun _ => 0))))] H := hP
  have hD : va_D A [(h0, .inr (8, (fs_49.set 25 (.ref q_50)))), (q_1, .inl (cA_2, 1620, .inl (fun _ => 0))), (q_8, .inl (cA_9, 2, .inl (fun _ => 0))), (q_11, .inl (cA_12, 2, .inl (fun _ => 0))), (q_14, .inl (cA_15, 2, .inl (fun _ => 0))), (q_17, .inl (cA_18, 2, .inl (fun _ => 0))), (q_20, .inl (cA_21, 2, .inl (fun _ => 0))), (q_23, .inl (cA_24, 2, .inl (fun _ => 0))), (q_26, .inl (cA_27, 2, .inl (fun _ => 0))), (q_29, .inl (cA_30, 2, .inl (fun _ => 0))), (q_32, .inl (cA_33, 2, .inl (fun _ => 0))), (q_35, .inl (cA_36, 2, .inl (fun _ => 0))), (q_50, .inl (cA_51, 8, .inr (.inl (fun _ => 0))))] := hD
  generalize efs_52 : (fs_49.set 25 (.ref q_50)) = fs_52 at hP hD
  have lfs_52 : fs_52.length = 81 := by rw [← efs_52, List.length_set]; exact lfs_49
  have ffs_52_2 : fs_52[2]? = some (.int 0) := by rw [← efs_52]; exact p1_sn (by decide) ffs_49_2
  have ffs_52_3 : fs_52[3]? = some (.int 0) := by rw [← efs_52]; exact p1_sn (by decide) ffs_49_3
  have ffs_52_4 : fs_52[4]? = some (.int 0) := by rw [← efs_52]; exact p1_sn (by decide) ffs_49_4
  have ffs_52_43 : fs_52[43]? = some (.int 0) := by rw [← efs_52]; exact p1_sn (by decide) ffs_49_43
  have ffs_52_60 : fs_52[60]? = some (.int 0) := by rw [← efs_52]; exact p1_sn (by decide) ffs_49_60
  have ffs_52_75 : fs_52[75]? = some (.int 0) := by rw [← efs_52]; exact p1_sn (by decide) ffs_49_75
  have ffs_52_7 : fs_52[7]? = some (.int 0) := by rw [← efs_52]; exact p1_sn (by decide) ffs_49_7
  have ffs_52_76 : fs_52[76]? = some (.int 0) := by rw [← efs_52]; exact p1_sn (by decide) ffs_49_76
  have ffs_52_44 : fs_52[44]? = some (.int 0) := by rw [← efs_52]; exact p1_sn (by decide) ffs_49_44
  have ffs_52_0 : fs_52[0]? = some (.ref q_1) := by rw [← efs_52]; exact p1_sn (by decide) ffs_49_0
  have ffs_52_5 : fs_52[5]? = some (.int (-1)) := by rw [← efs_52]; exact p1_sn (by decide) ffs_49_5
  have ffs_52_11 : fs_52[11]? = some (.ref q_8) := by rw [← efs_52]; exact p1_sn (by decide) ffs_49_11
  have ffs_52_12 : fs_52[12]? = some (.ref q_11) := by rw [← efs_52]; exact p1_sn (by decide) ffs_49_12
  have ffs_52_13 : fs_52[13]? = some (.ref q_14) := by rw [← efs_52]; exact p1_sn (by decide) ffs_49_13
  have ffs_52_14 : fs_52[14]? = some (.ref q_17) := by rw [← efs_52]; exact p1_sn (by decide) ffs_49_14
  have ffs_52_15 : fs_52[15]? = some (.ref q_20) := by rw [← efs_52]; exact p1_sn (by decide) ffs_49_15
  have ffs_52_16 : fs_52[16]? = some (.ref q_23) := by rw [← efs_52]; exact p1_sn (by decide) ffs_49_16
  have ffs_52_17 : fs_52[17]? = some (.ref q_26) := by rw [← efs_52]; exact p1_sn (by decide) ffs_49_17
  have ffs_52_18 : fs_52[18]? = some (.ref q_29) := by rw [← efs_52]; exact p1_sn (by decide) ffs_49_18
  have ffs_52_19 : fs_52[19]? = some (.ref q_32) := by rw [← efs_52]; exact p1_sn (by decide) ffs_49_19
  have ffs_52_20 : fs_52[20]? = some (.ref q_35) := by rw [← efs_52]; exact p1_sn (by decide) ffs_49_20
  have ffs_52_25 : fs_52[25]? = some (.ref q_50) := by rw [← efs_52]; exact p1_sa lfs_49 (by decide)
  have hP := hP.sub (ws' := [(h0, .inr (8, fs_52)), (q_1, .inl (cA_2, 1620, .inl (fun _ => 0))), (q_8, .inl (cA_9, 2, .inl (fun _ => 0))), (q_11, .inl (cA_12, 2, .inl (fun _ => 0))), (q_14, .inl (cA_15, 2, .inl (fun _ => 0))), (q_17, .inl (cA_18, 2, .inl (fun _ => 0))), (q_20, .inl (cA_21, 2, .inl (fun _ => 0))), (q_23, .inl (cA_24, 2, .inl (fun _ => 0))), (q_26, .inl (cA_27, 2, .inl (fun _ => 0))), (q_29, .inl (cA_30, 2, .inl (fun _ => 0))), (q_32, .inl (cA_33, 2, .inl (fun _ => 0))), (q_35, .inl (cA_36, 2, .inl (fun _ => 0)))]) [0, 1, 2, 3, 4, 5, 6, 7, 8, 9, 10, 11] rfl
  have hD := hD.sub (ws' := [(h0, .inr (8, fs_52)), (q_1, .inl (cA_2, 1620, .inl (fun _ => 0))), (q_8, .inl (cA_9, 2, .inl (fun _ => 0))), (q_11, .inl (cA_12, 2, .inl (fun _ => 0))), (q_14, .inl (cA_15, 2, .inl (fun _ => 0))), (q_17, .inl (cA_18, 2, .inl (fun _ => 0))), (q_20, .inl (cA_21, 2, .inl (fun _ => 0))), (q_23, .inl (cA_24, 2, .inl (fun _ => 0))), (q_26, .inl (cA_27, 2, .inl (fun _ => 0))), (q_29, .inl (cA_30, 2, .inl (fun _ => 0))), (q_32, .inl (cA_33, 2, .inl (fun _ => 0))), (q_35, .inl (cA_36, 2, .inl (fun _ => 0)))]) [0, 1, 2, 3, 4, 5, 6, 7, 8, 9, 10, 11] (by decide) rfl
  have hK := hK.sub (tys' := [(cA_2, .byte), (cA_9, .int), (cA_12, .int), (cA_15, .int), (cA_18, .int), (cA_21, .int), (cA_24, .int), (cA_27, .int), (cA_30, .int), (cA_33, .boolean), (cA_36, .boolean)]) [0, 1, 2, 3, 4, 5, 6, 7, 8, 9, 10] rfl
  refine lv_aload_n hx hb dX9_init_137 rfl (lv_at hl 0 rfl) ?_
  refine lv_bipush (v := 12) hx hb dX9_init_138 (by decide) ?_
  refine va_newa (atype := .int) (ty := .int) (N' := 12) (a0 := (12, .inl (fun _ => 0))) hx hb k_7 rfl hK hP hD hS hA (fun _ => rfl) (by decide) rfl (by decide) (by decide) (by decide) dX9_init_140 (fun q_53 cA_54 H hK hP hD hS => ?_)
  have hP : va_P (dC, dI) vwCl [(h0, .inr (8, fs_52)), (q_1, .inl (cA_2, 1620, .inl (fun _ => 0))), (q_8, .inl (cA_9, 2, .inl (fun _ => 0))), (q_11, .inl (cA_12, 2, .inl (fun _ => 0))), (q_14, .inl (cA_15, 2, .inl (fun _ => 0))), (q_17, .inl (cA_18, 2, .inl (fun _ => 0))), (q_20, .inl (cA_21, 2, .inl (fun _ => 0))), (q_23, .inl (cA_24, 2, .inl (fun _ => 0))), (q_26, .inl (cA_27, 2, .inl (fun _ => 0))), (q_29, .inl (cA_30, 2, .inl (fun _ => 0))), (q_32, .inl (cA_33, 2, .inl (fun _ => 0))), (q_35, .inl (cA_36, 2, .inl (fun _ => 0))), (q_53, .inl (cA_54, 12, .inl (fun _ => 0)))] H := hP
  have hD : va_D A [(h0, .inr (8, fs_52)), (q_1, .inl (cA_2, 1620, .inl (fun _ => 0))), (q_8, .inl (cA_9, 2, .inl (fun _ => 0))), (q_11, .inl (cA_12, 2, .inl (fun _ => 0))), (q_14, .inl (cA_15, 2, .inl (fun _ => 0))), (q_17, .inl (cA_18, 2, .inl (fun _ => 0))), (q_20, .inl (cA_21, 2, .inl (fun _ => 0))), (q_23, .inl (cA_24, 2, .inl (fun _ => 0))), (q_26, .inl (cA_27, 2, .inl (fun _ => 0))), (q_29, .inl (cA_30, 2, .inl (fun _ => 0))), (q_32, .inl (cA_33, 2, .inl (fun _ => 0))), (q_35, .inl (cA_36, 2, .inl (fun _ => 0))), (q_53, .inl (cA_54, 12, .inl (fun _ => 0)))] := hD
  have hK : va_K (dC, dI) vwCl [(cA_2, .byte), (cA_9, .int), (cA_12, .int), (cA_15, .int), (cA_18, .int), (cA_21, .int), (cA_24, .int), (cA_27, .int), (cA_30, .int), (cA_33, .boolean), (cA_36, .boolean), (cA_54, .int)] s := hK
  refine W.widen (k := 18) (n := 3294) (by decide) (by decide) ?_
  refine va_putF (D := (dC, dI)) (ci := 8) (v := .ref q_53) (ty := .array .int) (C := RX9) (T := TX9) (N := 81) hx hb hts i_X9 tyX9 tyX9_ok nmX9 hown hK hP hD hS 0 rfl rfl 26 (by decide) k_25 (fun _ h9 => h9) rfl hin rfl (by decide +kernel) rfl rfl (by rw [lfs_52]; decide) dX9_init_142 (fun H locs hP hD hS => ?_)
  have hP : va_P (dC, dI) vwCl [(h0, .inr (8, (fs_52.set 26 (.ref q_53)))), (q_1, .inl (cA_2, 1620, .inl (fun _ => 0))), (q_8, .inl (cA_9, 2, .inl (fun _ => 0))), (q_11, .inl (cA_12, 2, .inl (fun _ => 0))), (q_14, .inl (cA_15, 2, .inl (fun _ => 0))), (q_17, .inl (cA_18, 2, .inl (fun _ => 0))), (q_20, .inl (cA_21, 2, .inl (fun _ => 0))), (q_23, .inl (cA_24, 2, .inl (fun _ => 0))), (q_26, .inl (cA_27, 2, .inl (fun _ => 0))), (q_29, .inl (cA_30, 2, .inl (fun _ => 0))), (q_32, .inl (cA_33, 2, .inl (fun _ => 0))), (q_35, .inl (cA_36, 2, .inl (fun _ => 0))), (q_53, .inl (cA_54, 12, .inl (fun _ => 0)))] H := hP
  have hD : va_D A [(h0, .inr (8, (fs_52.set 26 (.ref q_53)))), (q_1, .inl (cA_2, 1620, .inl (fun _ => 0))), (q_8, .inl (cA_9, 2, .inl (fun _ => 0))), (q_11, .inl (cA_12, 2, .inl (fun _ => 0))), (q_14, .inl (cA_15, 2, .inl (fun _ => 0))), (q_17, .inl (cA_18, 2, .inl (fun _ => 0))), (q_20, .inl (cA_21, 2, .inl (fun _ => 0))), (q_23, .inl (cA_24, 2, .inl (fun _ => 0))), (q_26, .inl (cA_27, 2, .inl (fun _ => 0))), (q_29, .inl (cA_30, 2, .inl (fun _ => 0))), (q_32, .inl (cA_33, 2, .inl (fun _ => 0))), (q_35, .inl (cA_36, 2, .inl (fun _ => 0))), (q_53, .inl (cA_54, 12, .inl (fun _ => 0)))] := hD
  generalize efs_55 : (fs_52.set 26 (.ref q_53)) = fs_55 at hP hD
  have lfs_55 : fs_55.length = 81 := by rw [← efs_55, List.length_set]; exact lfs_52
  have ffs_55_2 : fs_55[2]? = some (.int 0) := by rw [← efs_55]; exact p1_sn (by decide) ffs_52_2
  have ffs_55_3 : fs_55[3]? = some (.int 0) := by rw [← efs_55]; exact p1_sn (by decide) ffs_52_3
  have ffs_55_4 : fs_55[4]? = some (.int 0) := by rw [← efs_55]; exact p1_sn (by decide) ffs_52_4
  have ffs_55_43 : fs_55[43]? = some (.int 0) := by rw [← efs_55]; exact p1_sn (by decide) ffs_52_43
  have ffs_55_60 : fs_55[60]? = some (.int 0) := by rw [← efs_55]; exact p1_sn (by decide) ffs_52_60
  have ffs_55_75 : fs_55[75]? = some (.int 0) := by rw [← efs_55]; exact p1_sn (by decide) ffs_52_75
  have ffs_55_7 : fs_55[7]? = some (.int 0) := by rw [← efs_55]; exact p1_sn (by decide) ffs_52_7
  have ffs_55_76 : fs_55[76]? = some (.int 0) := by rw [← efs_55]; exact p1_sn (by decide) ffs_52_76
  have ffs_55_44 : fs_55[44]? = some (.int 0) := by rw [← efs_55]; exact p1_sn (by decide) ffs_52_44
  have ffs_55_0 : fs_55[0]? = some (.ref q_1) := by rw [← efs_55]; exact p1_sn (by decide) ffs_52_0
  have ffs_55_5 : fs_55[5]? = some (.int (-1)) := by rw [← efs_55]; exact p1_sn (by decide) ffs_52_5
  have ffs_55_11 : fs_55[11]? = some (.ref q_8) := by rw [← efs_55]; exact p1_sn (by decide) ffs_52_11
  have ffs_55_12 : fs_55[12]? = some (.ref q_11) := by rw [← efs_55]; exact p1_sn (by decide) ffs_52_12
  have ffs_55_13 : fs_55[13]? = some (.ref q_14) := by rw [← efs_55]; exact p1_sn (by decide) ffs_52_13
  have ffs_55_14 : fs_55[14]? = some (.ref q_17) := by rw [← efs_55]; exact p1_sn (by decide) ffs_52_14
  have ffs_55_15 : fs_55[15]? = some (.ref q_20) := by rw [← efs_55]; exact p1_sn (by decide) ffs_52_15
  have ffs_55_16 : fs_55[16]? = some (.ref q_23) := by rw [← efs_55]; exact p1_sn (by decide) ffs_52_16
  have ffs_55_17 : fs_55[17]? = some (.ref q_26) := by rw [← efs_55]; exact p1_sn (by decide) ffs_52_17
  have ffs_55_18 : fs_55[18]? = some (.ref q_29) := by rw [← efs_55]; exact p1_sn (by decide) ffs_52_18
  have ffs_55_19 : fs_55[19]? = some (.ref q_32) := by rw [← efs_55]; exact p1_sn (by decide) ffs_52_19
  have ffs_55_20 : fs_55[20]? = some (.ref q_35) := by rw [← efs_55]; exact p1_sn (by decide) ffs_52_20
  have ffs_55_26 : fs_55[26]? = some (.ref q_53) := by rw [← efs_55]; exact p1_sa lfs_52 (by decide)
  have hP := hP.sub (ws' := [(h0, .inr (8, fs_55)), (q_1, .inl (cA_2, 1620, .inl (fun _ => 0))), (q_8, .inl (cA_9, 2, .inl (fun _ => 0))), (q_11, .inl (cA_12, 2, .inl (fun _ => 0))), (q_14, .inl (cA_15, 2, .inl (fun _ => 0))), (q_17, .inl (cA_18, 2, .inl (fun _ => 0))), (q_20, .inl (cA_21, 2, .inl (fun _ => 0))), (q_23, .inl (cA_24, 2, .inl (fun _ => 0))), (q_26, .inl (cA_27, 2, .inl (fun _ => 0))), (q_29, .inl (cA_30, 2, .inl (fun _ => 0))), (q_32, .inl (cA_33, 2, .inl (fun _ => 0))), (q_35, .inl (cA_36, 2, .inl (fun _ => 0)))]) [0, 1, 2, 3, 4, 5, 6, 7, 8, 9, 10, 11] rfl
  have hD := hD.sub (ws' := [(h0, .inr (8, fs_55)), (q_1, .inl (cA_2, 1620, .inl (fun _ => 0))), (q_8, .inl (cA_9, 2, .inl (fun _ => 0))), (q_11, .inl (cA_12, 2, .inl (fun _ => 0))), (q_14, .inl (cA_15, 2, .inl (fun _ => 0))), (q_17, .inl (cA_18, 2, .inl (fun _ => 0))), (q_20, .inl (cA_21, 2, .inl (fun _ => 0))), (q_23, .inl (cA_24, 2, .inl (fun _ => 0))), (q_26, .inl (cA_27, 2, .inl (fun _ => 0))), (q_29, .inl (cA_30, 2, .inl (fun _ => 0))), (q_32, .inl (cA_33, 2, .inl (fun _ => 0))), (q_35, .inl (cA_36, 2, .inl (fun _ => 0)))]) [0, 1, 2, 3, 4, 5, 6, 7, 8, 9, 10, 11] (by decide) rfl
  have hK := hK.sub (tys' := [(cA_2, .byte), (cA_9, .int), (cA_12, .int), (cA_15, .int), (cA_18, .int), (cA_21, .int), (cA_24, .int), (cA_27, .int), (cA_30, .int), (cA_33, .boolean), (cA_36, .boolean)]) [0, 1, 2, 3, 4, 5, 6, 7, 8, 9, 10] rfl
  refine lv_aload_n hx hb dX9_init_145 rfl (lv_at hl 0 rfl) ?_
  refine lv_bipush (v := 12) hx hb dX9_init_146 (by decide) ?_
  refine va_newa (atype := .int) (ty := .int) (N' := 12) (a0 := (12, .inl (fun _ => 0))) hx hb k_7 rfl hK hP hD hS hA (fun _ => rfl) (by decide) rfl (by decide) (by decide) (by decide) dX9_init_148 (fun q_56 cA_57 H hK hP hD hS => ?_)
  have hP : va_P (dC, dI) vwCl [(h0, .inr (8, fs_55)), (q_1, .inl (cA_2, 1620, .inl (fun _ => 0))), (q_8, .inl (cA_9, 2, .inl (fun _ => 0))), (q_11, .inl (cA_12, 2, .inl (fun _ => 0))), (q_14, .inl (cA_15, 2, .inl (fun _ => 0))), (q_17, .inl (cA_18, 2, .inl (fun _ => 0))), (q_20, .inl (cA_21, 2, .inl (fun _ => 0))), (q_23, .inl (cA_24, 2, .inl (fun _ => 0))), (q_26, .inl (cA_27, 2, .inl (fun _ => 0))), (q_29, .inl (cA_30, 2, .inl (fun _ => 0))), (q_32, .inl (cA_33, 2, .inl (fun _ => 0))), (q_35, .inl (cA_36, 2, .inl (fun _ => 0))), (q_56, .inl (cA_57, 12, .inl (fun _ => 0)))] H := hP
  have hD : va_D A [(h0, .inr (8, fs_55)), (q_1, .inl (cA_2, 1620, .inl (fun _ => 0))), (q_8, .inl (cA_9, 2, .inl (fun _ => 0))), (q_11, .inl (cA_12, 2, .inl (fun _ => 0))), (q_14, .inl (cA_15, 2, .inl (fun _ => 0))), (q_17, .inl (cA_18, 2, .inl (fun _ => 0))), (q_20, .inl (cA_21, 2, .inl (fun _ => 0))), (q_23, .inl (cA_24, 2, .inl (fun _ => 0))), (q_26, .inl (cA_27, 2, .inl (fun _ => 0))), (q_29, .inl (cA_30, 2, .inl (fun _ => 0))), (q_32, .inl (cA_33, 2, .inl (fun _ => 0))), (q_35, .inl (cA_36, 2, .inl (fun _ => 0))), (q_56, .inl (cA_57, 12, .inl (fun _ => 0)))] := hD
  have hK : va_K (dC, dI) vwCl [(cA_2, .byte), (cA_9, .int), (cA_12, .int), (cA_15, .int), (cA_18, .int), (cA_21, .int), (cA_24, .int), (cA_27, .int), (cA_30, .int), (cA_33, .boolean), (cA_36, .boolean), (cA_57, .int)] s := hK
  refine W.widen (k := 19) (n := 3306) (by decide) (by decide) ?_
  refine va_putF (D := (dC, dI)) (ci := 8) (v := .ref q_56) (ty := .array .int) (C := RX9) (T := TX9) (N := 81) hx hb hts i_X9 tyX9 tyX9_ok nmX9 hown hK hP hD hS 0 rfl rfl 27 (by decide) k_26 (fun _ h9 => h9) rfl hin rfl (by decide +kernel) rfl rfl (by rw [lfs_55]; decide) dX9_init_150 (fun H locs hP hD hS => ?_)
  have hP : va_P (dC, dI) vwCl [(h0, .inr (8, (fs_55.set 27 (.ref q_56)))), (q_1, .inl (cA_2, 1620, .inl (fun _ => 0))), (q_8, .inl (cA_9, 2, .inl (fun _ => 0))), (q_11, .inl (cA_12, 2, .inl (fun _ => 0))), (q_14, .inl (cA_15, 2, .inl (fun _ => 0))), (q_17, .inl (cA_18, 2, .inl (fun _ => 0))), (q_20, .inl (cA_21, 2, .inl (fun _ => 0))), (q_23, .inl (cA_24, 2, .inl (fun _ => 0))), (q_26, .inl (cA_27, 2, .inl (fun _ => 0))), (q_29, .inl (cA_30, 2, .inl (fun _ => 0))), (q_32, .inl (cA_33, 2, .inl (fun _ => 0))), (q_35, .inl (cA_36, 2, .inl (fun _ => 0))), (q_56, .inl (cA_57, 12, .inl (fun _ => 0)))] H := hP
  have hD : va_D A [(h0, .inr (8, (fs_55.set 27 (.ref q_56)))), (q_1, .inl (cA_2, 1620, .inl (fun _ => 0))), (q_8, .inl (cA_9, 2, .inl (fun _ => 0))), (q_11, .inl (cA_12, 2, .inl (fun _ => 0))), (q_14, .inl (cA_15, 2, .inl (fun _ => 0))), (q_17, .inl (cA_18, 2, .inl (fun _ => 0))), (q_20, .inl (cA_21, 2, .inl (fun _ => 0))), (q_23, .inl (cA_24, 2, .inl (fun _ => 0))), (q_26, .inl (cA_27, 2, .inl (fun _ => 0))), (q_29, .inl (cA_30, 2, .inl (fun _ => 0))), (q_32, .inl (cA_33, 2, .inl (fun _ => 0))), (q_35, .inl (cA_36, 2, .inl (fun _ => 0))), (q_56, .inl (cA_57, 12, .inl (fun _ => 0)))] := hD
  generalize efs_58 : (fs_55.set 27 (.ref q_56)) = fs_58 at hP hD
  have lfs_58 : fs_58.length = 81 := by rw [← efs_58, List.length_set]; exact lfs_55
  have ffs_58_2 : fs_58[2]? = some (.int 0) := by rw [← efs_58]; exact p1_sn (by decide) ffs_55_2
  have ffs_58_3 : fs_58[3]? = some (.int 0) := by rw [← efs_58]; exact p1_sn (by decide) ffs_55_3
  have ffs_58_4 : fs_58[4]? = some (.int 0) := by rw [← efs_58]; exact p1_sn (by decide) ffs_55_4
  have ffs_58_43 : fs_58[43]? = some (.int 0) := by rw [← efs_58]; exact p1_sn (by decide) ffs_55_43
  have ffs_58_60 : fs_58[60]? = some (.int 0) := by rw [← efs_58]; exact p1_sn (by decide) ffs_55_60
  have ffs_58_75 : fs_58[75]? = some (.int 0) := by rw [← efs_58]; exact p1_sn (by decide) ffs_55_75
  have ffs_58_7 : fs_58[7]? = some (.int 0) := by rw [← efs_58]; exact p1_sn (by decide) ffs_55_7
  have ffs_58_76 : fs_58[76]? = some (.int 0) := by rw [← efs_58]; exact p1_sn (by decide) ffs_55_76
  have ffs_58_44 : fs_58[44]? = some (.int 0) := by rw [← efs_58]; exact p1_sn (by decide) ffs_55_44
  have ffs_58_0 : fs_58[0]? = some (.ref q_1) := by rw [← efs_58]; exact p1_sn (by decide) ffs_55_0
  have ffs_58_5 : fs_58[5]? = some (.int (-1)) := by rw [← efs_58]; exact p1_sn (by decide) ffs_55_5
  have ffs_58_11 : fs_58[11]? = some (.ref q_8) := by rw [← efs_58]; exact p1_sn (by decide) ffs_55_11
  have ffs_58_12 : fs_58[12]? = some (.ref q_11) := by rw [← efs_58]; exact p1_sn (by decide) ffs_55_12
  have ffs_58_13 : fs_58[13]? = some (.ref q_14) := by rw [← efs_58]; exact p1_sn (by decide) ffs_55_13
  have ffs_58_14 : fs_58[14]? = some (.ref q_17) := by rw [← efs_58]; exact p1_sn (by decide) ffs_55_14
  have ffs_58_15 : fs_58[15]? = some (.ref q_20) := by rw [← efs_58]; exact p1_sn (by decide) ffs_55_15
  have ffs_58_16 : fs_58[16]? = some (.ref q_23) := by rw [← efs_58]; exact p1_sn (by decide) ffs_55_16
  have ffs_58_17 : fs_58[17]? = some (.ref q_26) := by rw [← efs_58]; exact p1_sn (by decide) ffs_55_17
  have ffs_58_18 : fs_58[18]? = some (.ref q_29) := by rw [← efs_58]; exact p1_sn (by decide) ffs_55_18
  have ffs_58_19 : fs_58[19]? = some (.ref q_32) := by rw [← efs_58]; exact p1_sn (by decide) ffs_55_19
  have ffs_58_20 : fs_58[20]? = some (.ref q_35) := by rw [← efs_58]; exact p1_sn (by decide) ffs_55_20
  have ffs_58_27 : fs_58[27]? = some (.ref q_56) := by rw [← efs_58]; exact p1_sa lfs_55 (by decide)
  have hP := hP.sub (ws' := [(h0, .inr (8, fs_58)), (q_1, .inl (cA_2, 1620, .inl (fun _ => 0))), (q_8, .inl (cA_9, 2, .inl (fun _ => 0))), (q_11, .inl (cA_12, 2, .inl (fun _ => 0))), (q_14, .inl (cA_15, 2, .inl (fun _ => 0))), (q_17, .inl (cA_18, 2, .inl (fun _ => 0))), (q_20, .inl (cA_21, 2, .inl (fun _ => 0))), (q_23, .inl (cA_24, 2, .inl (fun _ => 0))), (q_26, .inl (cA_27, 2, .inl (fun _ => 0))), (q_29, .inl (cA_30, 2, .inl (fun _ => 0))), (q_32, .inl (cA_33, 2, .inl (fun _ => 0))), (q_35, .inl (cA_36, 2, .inl (fun _ => 0)))]) [0, 1, 2, 3, 4, 5, 6, 7, 8, 9, 10, 11] rfl
  have hD := hD.sub (ws' := [(h0, .inr (8, fs_58)), (q_1, .inl (cA_2, 1620, .inl (fun _ => 0))), (q_8, .inl (cA_9, 2, .inl (fun _ => 0))), (q_11, .inl (cA_12, 2, .inl (fun _ => 0))), (q_14, .inl (cA_15, 2, .inl (fun _ => 0))), (q_17, .inl (cA_18, 2, .inl (fun _ => 0))), (q_20, .inl (cA_21, 2, .inl (fun _ => 0))), (q_23, .inl (cA_24, 2, .inl (fun _ => 0))), (q_26, .inl (cA_27, 2, .inl (fun _ => 0))), (q_29, .inl (cA_30, 2, .inl (fun _ => 0))), (q_32, .inl (cA_33, 2, .inl (fun _ => 0))), (q_35, .inl (cA_36, 2, .inl (fun _ => 0)))]) [0, 1, 2, 3, 4, 5, 6, 7, 8, 9, 10, 11] (by decide) rfl
  have hK := hK.sub (tys' := [(cA_2, .byte), (cA_9, .int), (cA_12, .int), (cA_15, .int), (cA_18, .int), (cA_21, .int), (cA_24, .int), (cA_27, .int), (cA_30, .int), (cA_33, .boolean), (cA_36, .boolean)]) [0, 1, 2, 3, 4, 5, 6, 7, 8, 9, 10] rfl
  refine lv_aload_n hx hb dX9_init_153 rfl (lv_at hl 0 rfl) ?_
  refine lv_bipush (v := 8) hx hb dX9_init_154 (by decide) ?_
  refine va_newa (atype := .int) (ty := .int) (N' := 8) (a0 := (8, .inl (fun _ => 0))) hx hb k_7 rfl hK hP hD hS hA (fun _ => rfl) (by decide) rfl (by decide) (by decide) (by decide) dX9_init_156 (fun q_59 cA_60 H hK hP hD hS => ?_)
  have hP : va_P (dC, dI) vwCl [(h0, .inr (8, fs_58)), (q_1, .inl (cA_2, 1620, .inl (fun _ => 0))), (q_8, .inl (cA_9, 2, .inl (fun _ => 0))), (q_11, .inl (cA_12, 2, .inl (fun _ => 0))), (q_14, .inl (cA_15, 2, .inl (fun _ => 0))), (q_17, .inl (cA_18, 2, .inl (fun _ => 0))), (q_20, .inl (cA_21, 2, .inl (fun _ => 0))), (q_23, .inl (cA_24, 2, .inl (fun _ => 0))), (q_26, .inl (cA_27, 2, .inl (fun _ => 0))), (q_29, .inl (cA_30, 2, .inl (fun _ => 0))), (q_32, .inl (cA_33, 2, .inl (fun _ => 0))), (q_35, .inl (cA_36, 2, .inl (fun _ => 0))), (q_59, .inl (cA_60, 8, .inl (fun _ => 0)))] H := hP
  have hD : va_D A [(h0, .inr (8, fs_58)), (q_1, .inl (cA_2, 1620, .inl (fun _ => 0))), (q_8, .inl (cA_9, 2, .inl (fun _ => 0))), (q_11, .inl (cA_12, 2, .inl (fun _ => 0))), (q_14, .inl (cA_15, 2, .inl (fun _ => 0))), (q_17, .inl (cA_18, 2, .inl (fun _ => 0))), (q_20, .inl (cA_21, 2, .inl (fun _ => 0))), (q_23, .inl (cA_24, 2, .inl (fun _ => 0))), (q_26, .inl (cA_27, 2, .inl (fun _ => 0))), (q_29, .inl (cA_30, 2, .inl (fun _ => 0))), (q_32, .inl (cA_33, 2, .inl (fun _ => 0))), (q_35, .inl (cA_36, 2, .inl (fun _ => 0))), (q_59, .inl (cA_60, 8, .inl (fun _ => 0)))] := hD
  have hK : va_K (dC, dI) vwCl [(cA_2, .byte), (cA_9, .int), (cA_12, .int), (cA_15, .int), (cA_18, .int), (cA_21, .int), (cA_24, .int), (cA_27, .int), (cA_30, .int), (cA_33, .boolean), (cA_36, .boolean), (cA_60, .int)] s := hK
  refine W.widen (k := 20) (n := 3314) (by decide) (by decide) ?_
  refine va_putF (D := (dC, dI)) (ci := 8) (v := .ref q_59) (ty := .array .int) (C := RX9) (T := TX9) (N := 81) hx hb hts i_X9 tyX9 tyX9_ok nmX9 hown hK hP hD hS 0 rfl rfl 28 (by decide) k_27 (fun _ h9 => h9) rfl hin rfl (by decide +kernel) rfl rfl (by rw [lfs_58]; decide) dX9_init_158 (fun H locs hP hD hS => ?_)
  have hP : va_P (dC, dI) vwCl [(h0, .inr (8, (fs_58.set 28 (.ref q_59)))), (q_1, .inl (cA_2, 1620, .inl (fun _ => 0))), (q_8, .inl (cA_9, 2, .inl (fun _ => 0))), (q_11, .inl (cA_12, 2, .inl (fun _ => 0))), (q_14, .inl (cA_15, 2, .inl (fun _ => 0))), (q_17, .inl (cA_18, 2, .inl (fun _ => 0))), (q_20, .inl (cA_21, 2, .inl (fun _ => 0))), (q_23, .inl (cA_24, 2, .inl (fun _ => 0))), (q_26, .inl (cA_27, 2, .inl (fun _ => 0))), (q_29, .inl (cA_30, 2, .inl (fun _ => 0))), (q_32, .inl (cA_33, 2, .inl (fun _ => 0))), (q_35, .inl (cA_36, 2, .inl (fun _ => 0))), (q_59, .inl (cA_60, 8, .inl (fun _ => 0)))] H := hP
  have hD : va_D A [(h0, .inr (8, (fs_58.set 28 (.ref q_59)))), (q_1, .inl (cA_2, 1620, .inl (fun _ => 0))), (q_8, .inl (cA_9, 2, .inl (fun _ => 0))), (q_11, .inl (cA_12, 2, .inl (fun _ => 0))), (q_14, .inl (cA_15, 2, .inl (fun _ => 0))), (q_17, .inl (cA_18, 2, .inl (fun _ => 0))), (q_20, .inl (cA_21, 2, .inl (fun _ => 0))), (q_23, .inl (cA_24, 2, .inl (fun _ => 0))), (q_26, .inl (cA_27, 2, .inl (fun _ => 0))), (q_29, .inl (cA_30, 2, .inl (fun _ => 0))), (q_32, .inl (cA_33, 2, .inl (fun _ => 0))), (q_35, .inl (cA_36, 2, .inl (fun _ => 0))), (q_59, .inl (cA_60, 8, .inl (fun _ => 0)))] := hD
  generalize efs_61 : (fs_58.set 28 (.ref q_59)) = fs_61 at hP hD
  have lfs_61 : fs_61.length = 81 := by rw [← efs_61, List.length_set]; exact lfs_58
  have ffs_61_2 : fs_61[2]? = some (.int 0) := by rw [← efs_61]; exact p1_sn (by decide) ffs_58_2
  have ffs_61_3 : fs_61[3]? = some (.int 0) := by rw [← efs_61]; exact p1_sn (by decide) ffs_58_3
  have ffs_61_4 : fs_61[4]? = some (.int 0) := by rw [← efs_61]; exact p1_sn (by decide) ffs_58_4
  have ffs_61_43 : fs_61[43]? = some (.int 0) := by rw [← efs_61]; exact p1_sn (by decide) ffs_58_43
  have ffs_61_60 : fs_61[60]? = some (.int 0) := by rw [← efs_61]; exact p1_sn (by decide) ffs_58_60
  have ffs_61_75 : fs_61[75]? = some (.int 0) := by rw [← efs_61]; exact p1_sn (by decide) ffs_58_75
  have ffs_61_7 : fs_61[7]? = some (.int 0) := by rw [← efs_61]; exact p1_sn (by decide) ffs_58_7
  have ffs_61_76 : fs_61[76]? = some (.int 0) := by rw [← efs_61]; exact p1_sn (by decide) ffs_58_76
  have ffs_61_44 : fs_61[44]? = some (.int 0) := by rw [← efs_61]; exact p1_sn (by decide) ffs_58_44
  have ffs_61_0 : fs_61[0]? = some (.ref q_1) := by rw [← efs_61]; exact p1_sn (by decide) ffs_58_0
  have ffs_61_5 : fs_61[5]? = some (.int (-1)) := by rw [← efs_61]; exact p1_sn (by decide) ffs_58_5
  have ffs_61_11 : fs_61[11]? = some (.ref q_8) := by rw [← efs_61]; exact p1_sn (by decide) ffs_58_11
  have ffs_61_12 : fs_61[12]? = some (.ref q_11) := by rw [← efs_61]; exact p1_sn (by decide) ffs_58_12
  have ffs_61_13 : fs_61[13]? = some (.ref q_14) := by rw [← efs_61]; exact p1_sn (by decide) ffs_58_13
  have ffs_61_14 : fs_61[14]? = some (.ref q_17) := by rw [← efs_61]; exact p1_sn (by decide) ffs_58_14
  have ffs_61_15 : fs_61[15]? = some (.ref q_20) := by rw [← efs_61]; exact p1_sn (by decide) ffs_58_15
  have ffs_61_16 : fs_61[16]? = some (.ref q_23) := by rw [← efs_61]; exact p1_sn (by decide) ffs_58_16
  have ffs_61_17 : fs_61[17]? = some (.ref q_26) := by rw [← efs_61]; exact p1_sn (by decide) ffs_58_17
  have ffs_61_18 : fs_61[18]? = some (.ref q_29) := by rw [← efs_61]; exact p1_sn (by decide) ffs_58_18
  have ffs_61_19 : fs_61[19]? = some (.ref q_32) := by rw [← efs_61]; exact p1_sn (by decide) ffs_58_19
  have ffs_61_20 : fs_61[20]? = some (.ref q_35) := by rw [← efs_61]; exact p1_sn (by decide) ffs_58_20
  have ffs_61_28 : fs_61[28]? = some (.ref q_59) := by rw [← efs_61]; exact p1_sa lfs_58 (by decide)
  have hP := hP.sub (ws' := [(h0, .inr (8, fs_61)), (q_1, .inl (cA_2, 1620, .inl (fun _ => 0))), (q_8, .inl (cA_9, 2, .inl (fun _ => 0))), (q_11, .inl (cA_12, 2, .inl (fun _ => 0))), (q_14, .inl (cA_15, 2, .inl (fun _ => 0))), (q_17, .inl (cA_18, 2, .inl (fun _ => 0))), (q_20, .inl (cA_21, 2, .inl (fun _ => 0))), (q_23, .inl (cA_24, 2, .inl (fun _ => 0))), (q_26, .inl (cA_27, 2, .inl (fun _ => 0))), (q_29, .inl (cA_30, 2, .inl (fun _ => 0))), (q_32, .inl (cA_33, 2, .inl (fun _ => 0))), (q_35, .inl (cA_36, 2, .inl (fun _ => 0)))]) [0, 1, 2, 3, 4, 5, 6, 7, 8, 9, 10, 11] rfl
  have hD := hD.sub (ws' := [(h0, .inr (8, fs_61)), (q_1, .inl (cA_2, 1620, .inl (fun _ => 0))), (q_8, .inl (cA_9, 2, .inl (fun _ => 0))), (q_11, .inl (cA_12, 2, .inl (fun _ => 0))), (q_14, .inl (cA_15, 2, .inl (fun _ => 0))), (q_17, .inl (cA_18, 2, .inl (fun _ => 0))), (q_20, .inl (cA_21, 2, .inl (fun _ => 0))), (q_23, .inl (cA_24, 2, .inl (fun _ => 0))), (q_26, .inl (cA_27, 2, .inl (fun _ => 0))), (q_29, .inl (cA_30, 2, .inl (fun _ => 0))), (q_32, .inl (cA_33, 2, .inl (fun _ => 0))), (q_35, .inl (cA_36, 2, .inl (fun _ => 0)))]) [0, 1, 2, 3, 4, 5, 6, 7, 8, 9, 10, 11] (by decide) rfl
  have hK := hK.sub (tys' := [(cA_2, .byte), (cA_9, .int), (cA_12, .int), (cA_15, .int), (cA_18, .int), (cA_21, .int), (cA_24, .int), (cA_27, .int), (cA_30, .int), (cA_33, .boolean), (cA_36, .boolean)]) [0, 1, 2, 3, 4, 5, 6, 7, 8, 9, 10] rfl
  refine lv_aload_n hx hb dX9_init_161 rfl (lv_at hl 0 rfl) ?_
  refine lv_bipush (v := 8) hx hb dX9_init_162 (by decide) ?_
  refine va_newa (atype := .int) (ty := .int) (N' := 8) (a0 := (8, .inl (fun _ => 0))) hx hb k_7 rfl hK hP hD hS hA (fun _ => rfl) (by decide) rfl (by decide) (by decide) (by decide) dX9_init_164 (fun q_62 cA_63 H hK hP hD hS => ?_)
  have hP : va_P (dC, dI) vwCl [(h0, .inr (8, fs_61)), (q_1, .inl (cA_2, 1620, .inl (fun _ => 0))), (q_8, .inl (cA_9, 2, .inl (fun _ => 0))), (q_11, .inl (cA_12, 2, .inl (fun _ => 0))), (q_14, .inl (cA_15, 2, .inl (fun _ => 0))), (q_17, .inl (cA_18, 2, .inl (fun _ => 0))), (q_20, .inl (cA_21, 2, .inl (fun _ => 0))), (q_23, .inl (cA_24, 2, .inl (fun _ => 0))), (q_26, .inl (cA_27, 2, .inl (fun _ => 0))), (q_29, .inl (cA_30, 2, .inl (fun _ => 0))), (q_32, .inl (cA_33, 2, .inl (fun _ => 0))), (q_35, .inl (cA_36, 2, .inl (fun _ => 0))), (q_62, .inl (cA_63, 8, .inl (fun _ => 0)))] H := hP
  have hD : va_D A [(h0, .inr (8, fs_61)), (q_1, .inl (cA_2, 1620, .inl (fun _ => 0))), (q_8, .inl (cA_9, 2, .inl (fun _ => 0))), (q_11, .inl (cA_12, 2, .inl (fun _ => 0))), (q_14, .inl (cA_15, 2, .inl (fun _ => 0))), (q_17, .inl (cA_18, 2, .inl (fun _ => 0))), (q_20, .inl (cA_21, 2, .inl (fun _ => 0))), (q_23, .inl (cA_24, 2, .inl (fun _ => 0))), (q_26, .inl (cA_27, 2, .inl (fun _ => 0))), (q_29, .inl (cA_30, 2, .inl (fun _ => 0))), (q_32, .inl (cA_33, 2, .inl (fun _ => 0))), (q_35, .inl (cA_36, 2, .inl (fun _ => 0))), (q_62, .inl (cA_63, 8, .inl (fun _ => 0)))] := hD
  have hK : va_K (dC, dI) vwCl [(cA_2, .byte), (cA_9, .int), (cA_12, .int), (cA_15, .int), (cA_18, .int), (cA_21, .int), (cA_24, .int), (cA_27, .int), (cA_30, .int), (cA_33, .boolean), (cA_36, .boolean), (cA_63, .int)] s := hK
  refine W.widen (k := 21) (n := 3322) (by decide) (by decide) ?_
  refine va_putF (D := (dC, dI)) (ci := 8) (v := .ref q_62) (ty := .array .int) (C := RX9) (T := TX9) (N := 81) hx hb hts i_X9 tyX9 tyX9_ok nmX9 hown hK hP hD hS 0 rfl rfl 29 (by decide) k_28 (fun _ h9 => h9) rfl hin rfl (by decide +kernel) rfl rfl (by rw [lfs_61]; decide) dX9_init_166 (fun H locs hP hD hS => ?_)
  have hP : va_P (dC, dI) vwCl [(h0, .inr (8, (fs_61.set 29 (.ref q_62)))), (q_1, .inl (cA_2, 1620, .inl (fun _ => 0))), (q_8, .inl (cA_9, 2, .inl (fun _ => 0))), (q_11, .inl (cA_12, 2, .inl (fun _ => 0))), (q_14, .inl (cA_15, 2, .inl (fun _ => 0))), (q_17, .inl (cA_18, 2, .inl (fun _ => 0))), (q_20, .inl (cA_21, 2, .inl (fun _ => 0))), (q_23, .inl (cA_24, 2, .inl (fun _ => 0))), (q_26, .inl (cA_27, 2, .inl (fun _ => 0))), (q_29, .inl (cA_30, 2, .inl (fun _ => 0))), (q_32, .inl (cA_33, 2, .inl (fun _ => 0))), (q_35, .inl (cA_36, 2, .inl (fun _ => 0))), (q_62, .inl (cA_63, 8, .inl (fun _ => 0)))] H := hP
  have hD : va_D A [(h0, .inr (8, (fs_61.set 29 (.ref q_62)))), (q_1, .inl (cA_2, 1620, .inl (fun _ => 0))), (q_8, .inl (cA_9, 2, .inl (fun _ => 0))), (q_11, .inl (cA_12, 2, .inl (fun _ => 0))), (q_14, .inl (cA_15, 2, .inl (fun _ => 0))), (q_17, .inl (cA_18, 2, .inl (fun _ => 0))), (q_20, .inl (cA_21, 2, .inl (fun _ => 0))), (q_23, .inl (cA_24, 2, .inl (fun _ => 0))), (q_26, .inl (cA_27, 2, .inl (fun _ => 0))), (q_29, .inl (cA_30, 2, .inl (fun _ => 0))), (q_32, .inl (cA_33, 2, .inl (fun _ => 0))), (q_35, .inl (cA_36, 2, .inl (fun _ => 0))), (q_62, .inl (cA_63, 8, .inl (fun _ => 0)))] := hD
  generalize efs_64 : (fs_61.set 29 (.ref q_62)) = fs_64 at hP hD
  have lfs_64 : fs_64.length = 81 := by rw [← efs_64, List.length_set]; exact lfs_61
  have ffs_64_2 : fs_64[2]? = some (.int 0) := by rw [← efs_64]; exact p1_sn (by decide) ffs_61_2
  have ffs_64_3 : fs_64[3]? = some (.int 0) := by rw [← efs_64]; exact p1_sn (by decide) ffs_61_3
  have ffs_64_4 : fs_64[4]? = some (.int 0) := by rw [← efs_64]; exact p1_sn (by decide) ffs_61_4
  have ffs_64_43 : fs_64[43]? = some (.int 0) := by rw [← efs_64]; exact p1_sn (by decide) ffs_61_43
  have ffs_64_60 : fs_64[60]? = some (.int 0) := by rw [← efs_64]; exact p1_sn (by decide) ffs_61_60
  have ffs_64_75 : fs_64[75]? = some (.int 0) := by rw [← efs_64]; exact p1_sn (by decide) ffs_61_75
  have ffs_64_7 : fs_64[7]? = some (.int 0) := by rw [← efs_64]; exact p1_sn (by decide) ffs_61_7
  have ffs_64_76 : fs_64[76]? = some (.int 0) := by rw [← efs_64]; exact p1_sn (by decide) ffs_61_76
  have ffs_64_44 : fs_64[44]? = some (.int 0) := by rw [← efs_64]; exact p1_sn (by decide) ffs_61_44
  have ffs_64_0 : fs_64[0]? = some (.ref q_1) := by rw [← efs_64]; exact p1_sn (by decide) ffs_61_0
  have ffs_64_5 : fs_64[5]? = some (.int (-1)) := by rw [← efs_64]; exact p1_sn (by decide) ffs_61_5
  have ffs_64_11 : fs_64[11]? = some (.ref q_8) := by rw [← efs_64]; exact p1_sn (by decide) ffs_61_11
  have ffs_64_12 : fs_64[12]? = some (.ref q_11) := by rw [← efs_64]; exact p1_sn (by decide) ffs_61_12
  have ffs_64_13 : fs_64[13]? = some (.ref q_14) := by rw [← efs_64]; exact p1_sn (by decide) ffs_61_13
  have ffs_64_14 : fs_64[14]? = some (.ref q_17) := by rw [← efs_64]; exact p1_sn (by decide) ffs_61_14
  have ffs_64_15 : fs_64[15]? = some (.ref q_20) := by rw [← efs_64]; exact p1_sn (by decide) ffs_61_15
  have ffs_64_16 : fs_64[16]? = some (.ref q_23) := by rw [← efs_64]; exact p1_sn (by decide) ffs_61_16
  have ffs_64_17 : fs_64[17]? = some (.ref q_26) := by rw [← efs_64]; exact p1_sn (by decide) ffs_61_17
  have ffs_64_18 : fs_64[18]? = some (.ref q_29) := by rw [← efs_64]; exact p1_sn (by decide) ffs_61_18
  have ffs_64_19 : fs_64[19]? = some (.ref q_32) := by rw [← efs_64]; exact p1_sn (by decide) ffs_61_19
  have ffs_64_20 : fs_64[20]? = some (.ref q_35) := by rw [← efs_64]; exact p1_sn (by decide) ffs_61_20
  have ffs_64_29 : fs_64[29]? = some (.ref q_62) := by rw [← efs_64]; exact p1_sa lfs_61 (by decide)
  have hP := hP.sub (ws' := [(h0, .inr (8, fs_64)), (q_1, .inl (cA_2, 1620, .inl (fun _ => 0))), (q_8, .inl (cA_9, 2, .inl (fun _ => 0))), (q_11, .inl (cA_12, 2, .inl (fun _ => 0))), (q_14, .inl (cA_15, 2, .inl (fun _ => 0))), (q_17, .inl (cA_18, 2, .inl (fun _ => 0))), (q_20, .inl (cA_21, 2, .inl (fun _ => 0))), (q_23, .inl (cA_24, 2, .inl (fun _ => 0))), (q_26, .inl (cA_27, 2, .inl (fun _ => 0))), (q_29, .inl (cA_30, 2, .inl (fun _ => 0))), (q_32, .inl (cA_33, 2, .inl (fun _ => 0))), (q_35, .inl (cA_36, 2, .inl (fun _ => 0)))]) [0, 1, 2, 3, 4, 5, 6, 7, 8, 9, 10, 11] rfl
  have hD := hD.sub (ws' := [(h0, .inr (8, fs_64)), (q_1, .inl (cA_2, 1620, .inl (fun _ => 0))), (q_8, .inl (cA_9, 2, .inl (fun _ => 0))), (q_11, .inl (cA_12, 2, .inl (fun _ => 0))), (q_14, .inl (cA_15, 2, .inl (fun _ => 0))), (q_17, .inl (cA_18, 2, .inl (fun _ => 0))), (q_20, .inl (cA_21, 2, .inl (fun _ => 0))), (q_23, .inl (cA_24, 2, .inl (fun _ => 0))), (q_26, .inl (cA_27, 2, .inl (fun _ => 0))), (q_29, .inl (cA_30, 2, .inl (fun _ => 0))), (q_32, .inl (cA_33, 2, .inl (fun _ => 0))), (q_35, .inl (cA_36, 2, .inl (fun _ => 0)))]) [0, 1, 2, 3, 4, 5, 6, 7, 8, 9, 10, 11] (by decide) rfl
  have hK := hK.sub (tys' := [(cA_2, .byte), (cA_9, .int), (cA_12, .int), (cA_15, .int), (cA_18, .int), (cA_21, .int), (cA_24, .int), (cA_27, .int), (cA_30, .int), (cA_33, .boolean), (cA_36, .boolean)]) [0, 1, 2, 3, 4, 5, 6, 7, 8, 9, 10] rfl
  refine lv_aload_n hx hb dX9_init_169 rfl (lv_at hl 0 rfl) ?_
  refine lv_bipush (v := 8) hx hb dX9_init_170 (by decide) ?_
  refine va_newa (atype := .int) (ty := .int) (N' := 8) (a0 := (8, .inl (fun _ => 0))) hx hb k_7 rfl hK hP hD hS hA (fun _ => rfl) (by decide) rfl (by decide) (by decide) (by decide) dX9_init_172 (fun q_65 cA_66 H hK hP hD hS => ?_)
  have hP : va_P (dC, dI) vwCl [(h0, .inr (8, fs_64)), (q_1, .inl (cA_2, 1620, .inl (fun _ => 0))), (q_8, .inl (cA_9, 2, .inl (fun _ => 0))), (q_11, .inl (cA_12, 2, .inl (fun _ => 0))), (q_14, .inl (cA_15, 2, .inl (fun _ => 0))), (q_17, .inl (cA_18, 2, .inl (fun _ => 0))), (q_20, .inl (cA_21, 2, .inl (fun _ => 0))), (q_23, .inl (cA_24, 2, .inl (fun _ => 0))), (q_26, .inl (cA_27, 2, .inl (fun _ => 0))), (q_29, .inl (cA_30, 2, .inl (fun _ => 0))), (q_32, .inl (cA_33, 2, .inl (fun _ => 0))), (q_35, .inl (cA_36, 2, .inl (fun _ => 0))), (q_65, .inl (cA_66, 8, .inl (fun _ => 0)))] H := hP
  have hD : va_D A [(h0, .inr (8, fs_64)), (q_1, .inl (cA_2, 1620, .inl (fun _ => 0))), (q_8, .inl (cA_9, 2, .inl (fun _ => 0))), (q_11, .inl (cA_12, 2, .inl (fun _ => 0))), (q_14, .inl (cA_15, 2, .inl (fun _ => 0))), (q_17, .inl (cA_18, 2, .inl (fun _ => 0))), (q_20, .inl (cA_21, 2, .inl (fun _ => 0))), (q_23, .inl (cA_24, 2, .inl (fun _ => 0))), (q_26, .inl (cA_27, 2, .inl (fun _ => 0))), (q_29, .inl (cA_30, 2, .inl (fun _ => 0))), (q_32, .inl (cA_33, 2, .inl (fun _ => 0))), (q_35, .inl (cA_36, 2, .inl (fun _ => 0))), (q_65, .inl (cA_66, 8, .inl (fun _ => 0)))] := hD
  have hK : va_K (dC, dI) vwCl [(cA_2, .byte), (cA_9, .int), (cA_12, .int), (cA_15, .int), (cA_18, .int), (cA_21, .int), (cA_24, .int), (cA_27, .int), (cA_30, .int), (cA_33, .boolean), (cA_36, .boolean), (cA_66, .int)] s := hK
  refine W.widen (k := 22) (n := 3330) (by decide) (by decide) ?_
  refine va_putF (D := (dC, dI)) (ci := 8) (v := .ref q_65) (ty := .array .int) (C := RX9) (T := TX9) (N := 81) hx hb hts i_X9 tyX9 tyX9_ok nmX9 hown hK hP hD hS 0 rfl rfl 30 (by decide) k_29 (fun _ h9 => h9) rfl hin rfl (by decide +kernel) rfl rfl (by rw [lfs_64]; decide) dX9_init_174 (fun H locs hP hD hS => ?_)
  have hP : va_P (dC, dI) vwCl [(h0, .inr (8, (fs_64.set 30 (.ref q_65)))), (q_1, .inl (cA_2, 1620, .inl (fun _ => 0))), (q_8, .inl (cA_9, 2, .inl (fun _ => 0))), (q_11, .inl (cA_12, 2, .inl (fun _ => 0))), (q_14, .inl (cA_15, 2, .inl (fun _ => 0))), (q_17, .inl (cA_18, 2, .inl (fun _ => 0))), (q_20, .inl (cA_21, 2, .inl (fun _ => 0))), (q_23, .inl (cA_24, 2, .inl (fun _ => 0))), (q_26, .inl (cA_27, 2, .inl (fun _ => 0))), (q_29, .inl (cA_30, 2, .inl (fun _ => 0))), (q_32, .inl (cA_33, 2, .inl (fun _ => 0))), (q_35, .inl (cA_36, 2, .inl (fun _ => 0))), (q_65, .inl (cA_66, 8, .inl (fun _ => 0)))] H := hP
  have hD : va_D A [(h0, .inr (8, (fs_64.set 30 (.ref q_65)))), (q_1, .inl (cA_2, 1620, .inl (fun _ => 0))), (q_8, .inl (cA_9, 2, .inl (fun _ => 0))), (q_11, .inl (cA_12, 2, .inl (fun _ => 0))), (q_14, .inl (cA_15, 2, .inl (fun _ => 0))), (q_17, .inl (cA_18, 2, .inl (fun _ => 0))), (q_20, .inl (cA_21, 2, .inl (fun _ => 0))), (q_23, .inl (cA_24, 2, .inl (fun _ => 0))), (q_26, .inl (cA_27, 2, .inl (fun _ => 0))), (q_29, .inl (cA_30, 2, .inl (fun _ => 0))), (q_32, .inl (cA_33, 2, .inl (fun _ => 0))), (q_35, .inl (cA_36, 2, .inl (fun _ => 0))), (q_65, .inl (cA_66, 8, .inl (fun _ => 0)))] := hD
  generalize efs_67 : (fs_64.set 30 (.ref q_65)) = fs_67 at hP hD
  have lfs_67 : fs_67.length = 81 := by rw [← efs_67, List.length_set]; exact lfs_64
  have ffs_67_2 : fs_67[2]? = some (.int 0) := by rw [← efs_67]; exact p1_sn (by decide) ffs_64_2
  have ffs_67_3 : fs_67[3]? = some (.int 0) := by rw [← efs_67]; exact p1_sn (by decide) ffs_64_3
  have ffs_67_4 : fs_67[4]? = some (.int 0) := by rw [← efs_67]; exact p1_sn (by decide) ffs_64_4
  have ffs_67_43 : fs_67[43]? = some (.int 0) := by rw [← efs_67]; exact p1_sn (by decide) ffs_64_43
  have ffs_67_60 : fs_67[60]? = some (.int 0) := by rw [← efs_67]; exact p1_sn (by decide) ffs_64_60
  have ffs_67_75 : fs_67[75]? = some (.int 0) := by rw [← efs_67]; exact p1_sn (by decide) ffs_64_75
  have ffs_67_7 : fs_67[7]? = some (.int 0) := by rw [← efs_67]; exact p1_sn (by decide) ffs_64_7
  have ffs_67_76 : fs_67[76]? = some (.int 0) := by rw [← efs_67]; exact p1_sn (by decide) ffs_64_76
  have ffs_67_44 : fs_67[44]? = some (.int 0) := by rw [← efs_67]; exact p1_sn (by decide) ffs_64_44
  have ffs_67_0 : fs_67[0]? = some (.ref q_1) := by rw [← efs_67]; exact p1_sn (by decide) ffs_64_0
  have ffs_67_5 : fs_67[5]? = some (.int (-1)) := by rw [← efs_67]; exact p1_sn (by decide) ffs_64_5
  have ffs_67_11 : fs_67[11]? = some (.ref q_8) := by rw [← efs_67]; exact p1_sn (by decide) ffs_64_11
  have ffs_67_12 : fs_67[12]? = some (.ref q_11) := by rw [← efs_67]; exact p1_sn (by decide) ffs_64_12
  have ffs_67_13 : fs_67[13]? = some (.ref q_14) := by rw [← efs_67]; exact p1_sn (by decide) ffs_64_13
  have ffs_67_14 : fs_67[14]? = some (.ref q_17) := by rw [← efs_67]; exact p1_sn (by decide) ffs_64_14
  have ffs_67_15 : fs_67[15]? = some (.ref q_20) := by rw [← efs_67]; exact p1_sn (by decide) ffs_64_15
  have ffs_67_16 : fs_67[16]? = some (.ref q_23) := by rw [← efs_67]; exact p1_sn (by decide) ffs_64_16
  have ffs_67_17 : fs_67[17]? = some (.ref q_26) := by rw [← efs_67]; exact p1_sn (by decide) ffs_64_17
  have ffs_67_18 : fs_67[18]? = some (.ref q_29) := by rw [← efs_67]; exact p1_sn (by decide) ffs_64_18
  have ffs_67_19 : fs_67[19]? = some (.ref q_32) := by rw [← efs_67]; exact p1_sn (by decide) ffs_64_19
  have ffs_67_20 : fs_67[20]? = some (.ref q_35) := by rw [← efs_67]; exact p1_sn (by decide) ffs_64_20
  have ffs_67_30 : fs_67[30]? = some (.ref q_65) := by rw [← efs_67]; exact p1_sa lfs_64 (by decide)
  have hP := hP.sub (ws' := [(h0, .inr (8, fs_67)), (q_1, .inl (cA_2, 1620, .inl (fun _ => 0))), (q_8, .inl (cA_9, 2, .inl (fun _ => 0))), (q_11, .inl (cA_12, 2, .inl (fun _ => 0))), (q_14, .inl (cA_15, 2, .inl (fun _ => 0))), (q_17, .inl (cA_18, 2, .inl (fun _ => 0))), (q_20, .inl (cA_21, 2, .inl (fun _ => 0))), (q_23, .inl (cA_24, 2, .inl (fun _ => 0))), (q_26, .inl (cA_27, 2, .inl (fun _ => 0))), (q_29, .inl (cA_30, 2, .inl (fun _ => 0))), (q_32, .inl (cA_33, 2, .inl (fun _ => 0))), (q_35, .inl (cA_36, 2, .inl (fun _ => 0)))]) [0, 1, 2, 3, 4, 5, 6, 7, 8, 9, 10, 11] rfl
  have hD := hD.sub (ws' := [(h0, .inr (8, fs_67)), (q_1, .inl (cA_2, 1620, .inl (fun _ => 0))), (q_8, .inl (cA_9, 2, .inl (fun _ => 0))), (q_11, .inl (cA_12, 2, .inl (fun _ => 0))), (q_14, .inl (cA_15, 2, .inl (fun _ => 0))), (q_17, .inl (cA_18, 2, .inl (fun _ => 0))), (q_20, .inl (cA_21, 2, .inl (fun _ => 0))), (q_23, .inl (cA_24, 2, .inl (fun _ => 0))), (q_26, .inl (cA_27, 2, .inl (fun _ => 0))), (q_29, .inl (cA_30, 2, .inl (fun _ => 0))), (q_32, .inl (cA_33, 2, .inl (fun _ => 0))), (q_35, .inl (cA_36, 2, .inl (fun _ => 0)))]) [0, 1, 2, 3, 4, 5, 6, 7, 8, 9, 10, 11] (by decide) rfl
  have hK := hK.sub (tys' := [(cA_2, .byte), (cA_9, .int), (cA_12, .int), (cA_15, .int), (cA_18, .int), (cA_21, .int), (cA_24, .int), (cA_27, .int), (cA_30, .int), (cA_33, .boolean), (cA_36, .boolean)]) [0, 1, 2, 3, 4, 5, 6, 7, 8, 9, 10] rfl
  refine lv_aload_n hx hb dX9_init_177 rfl (lv_at hl 0 rfl) ?_
  refine lv_bipush (v := 8) hx hb dX9_init_178 (by decide) ?_
  refine va_newa (atype := .int) (ty := .int) (N' := 8) (a0 := (8, .inl (fun _ => 0))) hx hb k_7 rfl hK hP hD hS hA (fun _ => rfl) (by decide) rfl (by decide) (by decide) (by decide) dX9_init_180 (fun q_68 cA_69 H hK hP hD hS => ?_)
  have hP : va_P (dC, dI) vwCl [(h0, .inr (8, fs_67)), (q_1, .inl (cA_2, 1620, .inl (fun _ => 0))), (q_8, .inl (cA_9, 2, .inl (fun _ => 0))), (q_11, .inl (cA_12, 2, .inl (fun _ => 0))), (q_14, .inl (cA_15, 2, .inl (fun _ => 0))), (q_17, .inl (cA_18, 2, .inl (fun _ => 0))), (q_20, .inl (cA_21, 2, .inl (fun _ => 0))), (q_23, .inl (cA_24, 2, .inl (fun _ => 0))), (q_26, .inl (cA_27, 2, .inl (fun _ => 0))), (q_29, .inl (cA_30, 2, .inl (fun _ => 0))), (q_32, .inl (cA_33, 2, .inl (fun _ => 0))), (q_35, .inl (cA_36, 2, .inl (fun _ => 0))), (q_68, .inl (cA_69, 8, .inl (fun _ => 0)))] H := hP
  have hD : va_D A [(h0, .inr (8, fs_67)), (q_1, .inl (cA_2, 1620, .inl (fun _ => 0))), (q_8, .inl (cA_9, 2, .inl (fun _ => 0))), (q_11, .inl (cA_12, 2, .inl (fun _ => 0))), (q_14, .inl (cA_15, 2, .inl (fun _ => 0))), (q_17, .inl (cA_18, 2, .inl (fun _ => 0))), (q_20, .inl (cA_21, 2, .inl (fun _ => 0))), (q_23, .inl (cA_24, 2, .inl (fun _ => 0))), (q_26, .inl (cA_27, 2, .inl (fun _ => 0))), (q_29, .inl (cA_30, 2, .inl (fun _ => 0))), (q_32, .inl (cA_33, 2, .inl (fun _ => 0))), (q_35, .inl (cA_36, 2, .inl (fun _ => 0))), (q_68, .inl (cA_69, 8, .inl (fun _ => 0)))] := hD
  have hK : va_K (dC, dI) vwCl [(cA_2, .byte), (cA_9, .int), (cA_12, .int), (cA_15, .int), (cA_18, .int), (cA_21, .int), (cA_24, .int), (cA_27, .int), (cA_30, .int), (cA_33, .boolean), (cA_36, .boolean), (cA_69, .int)] s := hK
  refine W.widen (k := 23) (n := 3338) (by decide) (by decide) ?_
  refine va_putF (D := (dC, dI)) (ci := 8) (v := .ref q_68) (ty := .array .int) (C := RX9) (T := TX9) (N := 81) hx hb hts i_X9 tyX9 tyX9_ok nmX9 hown hK hP hD hS 0 rfl rfl 31 (by decide) k_30 (fun _ h9 => h9) rfl hin rfl (by decide +kernel) rfl rfl (by rw [lfs_67]; decide) dX9_init_182 (fun H locs hP hD hS => ?_)
  have hP : va_P (dC, dI) vwCl [(h0, .inr (8, (fs_67.set 31 (.ref q_68)))), (q_1, .inl (cA_2, 1620, .inl (fun _ => 0))), (q_8, .inl (cA_9, 2, .inl (fun _ => 0))), (q_11, .inl (cA_12, 2, .inl (fun _ => 0))), (q_14, .inl (cA_15, 2, .inl (fun _ => 0))), (q_17, .inl (cA_18, 2, .inl (fun _ => 0))), (q_20, .inl (cA_21, 2, .inl (fun _ => 0))), (q_23, .inl (cA_24, 2, .inl (fun _ => 0))), (q_26, .inl (cA_27, 2, .inl (fun _ => 0))), (q_29, .inl (cA_30, 2, .inl (fun _ => 0))), (q_32, .inl (cA_33, 2, .inl (fun _ => 0))), (q_35, .inl (cA_36, 2, .inl (fun _ => 0))), (q_68, .inl (cA_69, 8, .inl (fun _ => 0)))] H := hP
  have hD : va_D A [(h0, .inr (8, (fs_67.set 31 (.ref q_68)))), (q_1, .inl (cA_2, 1620, .inl (fun _ => 0))), (q_8, .inl (cA_9, 2, .inl (fun _ => 0))), (q_11, .inl (cA_12, 2, .inl (fun _ => 0))), (q_14, .inl (cA_15, 2, .inl (fun _ => 0))), (q_17, .inl (cA_18, 2, .inl (fun _ => 0))), (q_20, .inl (cA_21, 2, .inl (fun _ => 0))), (q_23, .inl (cA_24, 2, .inl (fun _ => 0))), (q_26, .inl (cA_27, 2, .inl (fun _ => 0))), (q_29, .inl (cA_30, 2, .inl (fun _ => 0))), (q_32, .inl (cA_33, 2, .inl (fun _ => 0))), (q_35, .inl (cA_36, 2, .inl (fun _ => 0))), (q_68, .inl (cA_69, 8, .inl (fun _ => 0)))] := hD
  generalize efs_70 : (fs_67.set 31 (.ref q_68)) = fs_70 at hP hD
  have lfs_70 : fs_70.length = 81 := by rw [← efs_70, List.length_set]; exact lfs_67
  have ffs_70_2 : fs_70[2]? = some (.int 0) := by rw [← efs_70]; exact p1_sn (by decide) ffs_67_2
  have ffs_70_3 : fs_70[3]? = some (.int 0) := by rw [← efs_70]; exact p1_sn (by decide) ffs_67_3
  have ffs_70_4 : fs_70[4]? = some (.int 0) := by rw [← efs_70]; exact p1_sn (by decide) ffs_67_4
  have ffs_70_43 : fs_70[43]? = some (.int 0) := by rw [← efs_70]; exact p1_sn (by decide) ffs_67_43
  have ffs_70_60 : fs_70[60]? = some (.int 0) := by rw [← efs_70]; exact p1_sn (by decide) ffs_67_60
  have ffs_70_75 : fs_70[75]? = some (.int 0) := by rw [← efs_70]; exact p1_sn (by decide) ffs_67_75
  have ffs_70_7 : fs_70[7]? = some (.int 0) := by rw [← efs_70]; exact p1_sn (by decide) ffs_67_7
  have ffs_70_76 : fs_70[76]? = some (.int 0) := by rw [← efs_70]; exact p1_sn (by decide) ffs_67_76
  have ffs_70_44 : fs_70[44]? = some (.int 0) := by rw [← efs_70]; exact p1_sn (by decide) ffs_67_44
  have ffs_70_0 : fs_70[0]? = some (.ref q_1) := by rw [← efs_70]; exact p1_sn (by decide) ffs_67_0
  have ffs_70_5 : fs_70[5]? = some (.int (-1)) := by rw [← efs_70]; exact p1_sn (by decide) ffs_67_5
  have ffs_70_11 : fs_70[11]? = some (.ref q_8) := by rw [← efs_70]; exact p1_sn (by decide) ffs_67_11
  have ffs_70_12 : fs_70[12]? = some (.ref q_11) := by rw [← efs_70]; exact p1_sn (by decide) ffs_67_12
  have ffs_70_13 : fs_70[13]? = some (.ref q_14) := by rw [← efs_70]; exact p1_sn (by decide) ffs_67_13
  have ffs_70_14 : fs_70[14]? = some (.ref q_17) := by rw [← efs_70]; exact p1_sn (by decide) ffs_67_14
  have ffs_70_15 : fs_70[15]? = some (.ref q_20) := by rw [← efs_70]; exact p1_sn (by decide) ffs_67_15
  have ffs_70_16 : fs_70[16]? = some (.ref q_23) := by rw [← efs_70]; exact p1_sn (by decide) ffs_67_16
  have ffs_70_17 : fs_70[17]? = some (.ref q_26) := by rw [← efs_70]; exact p1_sn (by decide) ffs_67_17
  have ffs_70_18 : fs_70[18]? = some (.ref q_29) := by rw [← efs_70]; exact p1_sn (by decide) ffs_67_18
  have ffs_70_19 : fs_70[19]? = some (.ref q_32) := by rw [← efs_70]; exact p1_sn (by decide) ffs_67_19
  have ffs_70_20 : fs_70[20]? = some (.ref q_35) := by rw [← efs_70]; exact p1_sn (by decide) ffs_67_20
  have ffs_70_31 : fs_70[31]? = some (.ref q_68) := by rw [← efs_70]; exact p1_sa lfs_67 (by decide)
  have hP := hP.sub (ws' := [(h0, .inr (8, fs_70)), (q_1, .inl (cA_2, 1620, .inl (fun _ => 0))), (q_8, .inl (cA_9, 2, .inl (fun _ => 0))), (q_11, .inl (cA_12, 2, .inl (fun _ => 0))), (q_14, .inl (cA_15, 2, .inl (fun _ => 0))), (q_17, .inl (cA_18, 2, .inl (fun _ => 0))), (q_20, .inl (cA_21, 2, .inl (fun _ => 0))), (q_23, .inl (cA_24, 2, .inl (fun _ => 0))), (q_26, .inl (cA_27, 2, .inl (fun _ => 0))), (q_29, .inl (cA_30, 2, .inl (fun _ => 0))), (q_32, .inl (cA_33, 2, .inl (fun _ => 0))), (q_35, .inl (cA_36, 2, .inl (fun _ => 0)))]) [0, 1, 2, 3, 4, 5, 6, 7, 8, 9, 10, 11] rfl
  have hD := hD.sub (ws' := [(h0, .inr (8, fs_70)), (q_1, .inl (cA_2, 1620, .inl (fun _ => 0))), (q_8, .inl (cA_9, 2, .inl (fun _ => 0))), (q_11, .inl (cA_12, 2, .inl (fun _ => 0))), (q_14, .inl (cA_15, 2, .inl (fun _ => 0))), (q_17, .inl (cA_18, 2, .inl (fun _ => 0))), (q_20, .inl (cA_21, 2, .inl (fun _ => 0))), (q_23, .inl (cA_24, 2, .inl (fun _ => 0))), (q_26, .inl (cA_27, 2, .inl (fun _ => 0))), (q_29, .inl (cA_30, 2, .inl (fun _ => 0))), (q_32, .inl (cA_33, 2, .inl (fun _ => 0))), (q_35, .inl (cA_36, 2, .inl (fun _ => 0)))]) [0, 1, 2, 3, 4, 5, 6, 7, 8, 9, 10, 11] (by decide) rfl
  have hK := hK.sub (tys' := [(cA_2, .byte), (cA_9, .int), (cA_12, .int), (cA_15, .int), (cA_18, .int), (cA_21, .int), (cA_24, .int), (cA_27, .int), (cA_30, .int), (cA_33, .boolean), (cA_36, .boolean)]) [0, 1, 2, 3, 4, 5, 6, 7, 8, 9, 10] rfl
  refine lv_aload_n hx hb dX9_init_185 rfl (lv_at hl 0 rfl) ?_
  refine lv_bipush (v := 64) hx hb dX9_init_186 (by decide) ?_
  refine va_newa (atype := .int) (ty := .int) (N' := 64) (a0 := (64, .inl (fun _ => 0))) hx hb k_7 rfl hK hP hD hS hA (fun _ => rfl) (by decide) rfl (by decide) (by decide) (by decide) dX9_init_188 (fun q_71 cA_72 H hK hP hD hS => ?_)
  have hP : va_P (dC, dI) vwCl [(h0, .inr (8, fs_70)), (q_1, .inl (cA_2, 1620, .inl (fun _ => 0))), (q_8, .inl (cA_9, 2, .inl (fun _ => 0))), (q_11, .inl (cA_12, 2, .inl (fun _ => 0))), (q_14, .inl (cA_15, 2, .inl (fun _ => 0))), (q_17, .inl (cA_18, 2, .inl (fun _ => 0))), (q_20, .inl (cA_21, 2, .inl (fun _ => 0))), (q_23, .inl (cA_24, 2, .inl (fun _ => 0))), (q_26, .inl (cA_27, 2, .inl (fun _ => 0))), (q_29, .inl (cA_30, 2, .inl (fun _ => 0))), (q_32, .inl (cA_33, 2, .inl (fun _ => 0))), (q_35, .inl (cA_36, 2, .inl (fun _ => 0))), (q_71, .inl (cA_72, 64, .inl (fun _ => 0)))] H := hP
  have hD : va_D A [(h0, .inr (8, fs_70)), (q_1, .inl (cA_2, 1620, .inl (fun _ => 0))), (q_8, .inl (cA_9, 2, .inl (fun _ => 0))), (q_11, .inl (cA_12, 2, .inl (fun _ => 0))), (q_14, .inl (cA_15, 2, .inl (fun _ => 0))), (q_17, .inl (cA_18, 2, .inl (fun _ => 0))), (q_20, .inl (cA_21, 2, .inl (fun _ => 0))), (q_23, .inl (cA_24, 2, .inl (fun _ => 0))), (q_26, .inl (cA_27, 2, .inl (fun _ => 0))), (q_29, .inl (cA_30, 2, .inl (fun _ => 0))), (q_32, .inl (cA_33, 2, .inl (fun _ => 0))), (q_35, .inl (cA_36, 2, .inl (fun _ => 0))), (q_71, .inl (cA_72, 64, .inl (fun _ => 0)))] := hD
  have hK : va_K (dC, dI) vwCl [(cA_2, .byte), (cA_9, .int), (cA_12, .int), (cA_15, .int), (cA_18, .int), (cA_21, .int), (cA_24, .int), (cA_27, .int), (cA_30, .int), (cA_33, .boolean), (cA_36, .boolean), (cA_72, .int)] s := hK
  refine W.widen (k := 24) (n := 3402) (by decide) (by decide) ?_
  refine va_putF (D := (dC, dI)) (ci := 8) (v := .ref q_71) (ty := .array .int) (C := RX9) (T := TX9) (N := 81) hx hb hts i_X9 tyX9 tyX9_ok nmX9 hown hK hP hD hS 0 rfl rfl 32 (by decide) k_31 (fun _ h9 => h9) rfl hin rfl (by decide +kernel) rfl rfl (by rw [lfs_70]; decide) dX9_init_190 (fun H locs hP hD hS => ?_)
  have hP : va_P (dC, dI) vwCl [(h0, .inr (8, (fs_70.set 32 (.ref q_71)))), (q_1, .inl (cA_2, 1620, .inl (fun _ => 0))), (q_8, .inl (cA_9, 2, .inl (fun _ => 0))), (q_11, .inl (cA_12, 2, .inl (fun _ => 0))), (q_14, .inl (cA_15, 2, .inl (fun _ => 0))), (q_17, .inl (cA_18, 2, .inl (fun _ => 0))), (q_20, .inl (cA_21, 2, .inl (fun _ => 0))), (q_23, .inl (cA_24, 2, .inl (fun _ => 0))), (q_26, .inl (cA_27, 2, .inl (fun _ => 0))), (q_29, .inl (cA_30, 2, .inl (fun _ => 0))), (q_32, .inl (cA_33, 2, .inl (fun _ => 0))), (q_35, .inl (cA_36, 2, .inl (fun _ => 0))), (q_71, .inl (cA_72, 64, .inl (fun _ => 0)))] H := hP
  have hD : va_D A [(h0, .inr (8, (fs_70.set 32 (.ref q_71)))), (q_1, .inl (cA_2, 1620, .inl (fun _ => 0))), (q_8, .inl (cA_9, 2, .inl (fun _ => 0))), (q_11, .inl (cA_12, 2, .inl (fun _ => 0))), (q_14, .inl (cA_15, 2, .inl (fun _ => 0))), (q_17, .inl (cA_18, 2, .inl (fun _ => 0))), (q_20, .inl (cA_21, 2, .inl (fun _ => 0))), (q_23, .inl (cA_24, 2, .inl (fun _ => 0))), (q_26, .inl (cA_27, 2, .inl (fun _ => 0))), (q_29, .inl (cA_30, 2, .inl (fun _ => 0))), (q_32, .inl (cA_33, 2, .inl (fun _ => 0))), (q_35, .inl (cA_36, 2, .inl (fun _ => 0))), (q_71, .inl (cA_72, 64, .inl (fun _ => 0)))] := hD
  generalize efs_73 : (fs_70.set 32 (.ref q_71)) = fs_73 at hP hD
  have lfs_73 : fs_73.length = 81 := by rw [← efs_73, List.length_set]; exact lfs_70
  have ffs_73_2 : fs_73[2]? = some (.int 0) := by rw [← efs_73]; exact p1_sn (by decide) ffs_70_2
  have ffs_73_3 : fs_73[3]? = some (.int 0) := by rw [← efs_73]; exact p1_sn (by decide) ffs_70_3
  have ffs_73_4 : fs_73[4]? = some (.int 0) := by rw [← efs_73]; exact p1_sn (by decide) ffs_70_4
  have ffs_73_43 : fs_73[43]? = some (.int 0) := by rw [← efs_73]; exact p1_sn (by decide) ffs_70_43
  have ffs_73_60 : fs_73[60]? = some (.int 0) := by rw [← efs_73]; exact p1_sn (by decide) ffs_70_60
  have ffs_73_75 : fs_73[75]? = some (.int 0) := by rw [← efs_73]; exact p1_sn (by decide) ffs_70_75
  have ffs_73_7 : fs_73[7]? = some (.int 0) := by rw [← efs_73]; exact p1_sn (by decide) ffs_70_7
  have ffs_73_76 : fs_73[76]? = some (.int 0) := by rw [← efs_73]; exact p1_sn (by decide) ffs_70_76
  have ffs_73_44 : fs_73[44]? = some (.int 0) := by rw [← efs_73]; exact p1_sn (by decide) ffs_70_44
  have ffs_73_0 : fs_73[0]? = some (.ref q_1) := by rw [← efs_73]; exact p1_sn (by decide) ffs_70_0
  have ffs_73_5 : fs_73[5]? = some (.int (-1)) := by rw [← efs_73]; exact p1_sn (by decide) ffs_70_5
  have ffs_73_11 : fs_73[11]? = some (.ref q_8) := by rw [← efs_73]; exact p1_sn (by decide) ffs_70_11
  have ffs_73_12 : fs_73[12]? = some (.ref q_11) := by rw [← efs_73]; exact p1_sn (by decide) ffs_70_12
  have ffs_73_13 : fs_73[13]? = some (.ref q_14) := by rw [← efs_73]; exact p1_sn (by decide) ffs_70_13
  have ffs_73_14 : fs_73[14]? = some (.ref q_17) := by rw [← efs_73]; exact p1_sn (by decide) ffs_70_14
  have ffs_73_15 : fs_73[15]? = some (.ref q_20) := by rw [← efs_73]; exact p1_sn (by decide) ffs_70_15
  have ffs_73_16 : fs_73[16]? = some (.ref q_23) := by rw [← efs_73]; exact p1_sn (by decide) ffs_70_16
  have ffs_73_17 : fs_73[17]? = some (.ref q_26) := by rw [← efs_73]; exact p1_sn (by decide) ffs_70_17
  have ffs_73_18 : fs_73[18]? = some (.ref q_29) := by rw [← efs_73]; exact p1_sn (by decide) ffs_70_18
  have ffs_73_19 : fs_73[19]? = some (.ref q_32) := by rw [← efs_73]; exact p1_sn (by decide) ffs_70_19
  have ffs_73_20 : fs_73[20]? = some (.ref q_35) := by rw [← efs_73]; exact p1_sn (by decide) ffs_70_20
  have ffs_73_32 : fs_73[32]? = some (.ref q_71) := by rw [← efs_73]; exact p1_sa lfs_70 (by decide)
  have hP := hP.sub (ws' := [(h0, .inr (8, fs_73)), (q_1, .inl (cA_2, 1620, .inl (fun _ => 0))), (q_8, .inl (cA_9, 2, .inl (fun _ => 0))), (q_11, .inl (cA_12, 2, .inl (fun _ => 0))), (q_14, .inl (cA_15, 2, .inl (fun _ => 0))), (q_17, .inl (cA_18, 2, .inl (fun _ => 0))), (q_20, .inl (cA_21, 2, .inl (fun _ => 0))), (q_23, .inl (cA_24, 2, .inl (fun _ => 0))), (q_26, .inl (cA_27, 2, .inl (fun _ => 0))), (q_29, .inl (cA_30, 2, .inl (fun _ => 0))), (q_32, .inl (cA_33, 2, .inl (fun _ => 0))), (q_35, .inl (cA_36, 2, .inl (fun _ => 0)))]) [0, 1, 2, 3, 4, 5, 6, 7, 8, 9, 10, 11] rfl
  have hD := hD.sub (ws' := [(h0, .inr (8, fs_73)), (q_1, .inl (cA_2, 1620, .inl (fun _ => 0))), (q_8, .inl (cA_9, 2, .inl (fun _ => 0))), (q_11, .inl (cA_12, 2, .inl (fun _ => 0))), (q_14, .inl (cA_15, 2, .inl (fun _ => 0))), (q_17, .inl (cA_18, 2, .inl (fun _ => 0))), (q_20, .inl (cA_21, 2, .inl (fun _ => 0))), (q_23, .inl (cA_24, 2, .inl (fun _ => 0))), (q_26, .inl (cA_27, 2, .inl (fun _ => 0))), (q_29, .inl (cA_30, 2, .inl (fun _ => 0))), (q_32, .inl (cA_33, 2, .inl (fun _ => 0))), (q_35, .inl (cA_36, 2, .inl (fun _ => 0)))]) [0, 1, 2, 3, 4, 5, 6, 7, 8, 9, 10, 11] (by decide) rfl
  have hK := hK.sub (tys' := [(cA_2, .byte), (cA_9, .int), (cA_12, .int), (cA_15, .int), (cA_18, .int), (cA_21, .int), (cA_24, .int), (cA_27, .int), (cA_30, .int), (cA_33, .boolean), (cA_36, .boolean)]) [0, 1, 2, 3, 4, 5, 6, 7, 8, 9, 10] rfl
  refine lv_aload_n hx hb dX9_init_193 rfl (lv_at hl 0 rfl) ?_
  refine lv_bipush (v := 64) hx hb dX9_init_194 (by decide) ?_
  refine va_newa (atype := .int) (ty := .int) (N' := 64) (a0 := (64, .inl (fun _ => 0))) hx hb k_7 rfl hK hP hD hS hA (fun _ => rfl) (by decide) rfl (by decide) (by decide) (by decide) dX9_init_196 (fun q_74 cA_75 H hK hP hD hS => ?_)
  have hP : va_P (dC, dI) vwCl [(h0, .inr (8, fs_73)), (q_1, .inl (cA_2, 1620, .inl (fun _ => 0))), (q_8, .inl (cA_9, 2, .inl (fun _ => 0))), (q_11, .inl (cA_12, 2, .inl (fun _ => 0))), (q_14, .inl (cA_15, 2, .inl (fun _ => 0))), (q_17, .inl (cA_18, 2, .inl (fun _ => 0))), (q_20, .inl (cA_21, 2, .inl (fun _ => 0))), (q_23, .inl (cA_24, 2, .inl (fun _ => 0))), (q_26, .inl (cA_27, 2, .inl (fun _ => 0))), (q_29, .inl (cA_30, 2, .inl (fun _ => 0))), (q_32, .inl (cA_33, 2, .inl (fun _ => 0))), (q_35, .inl (cA_36, 2, .inl (fun _ => 0))), (q_74, .inl (cA_75, 64, .inl (fun _ => 0)))] H := hP
  have hD : va_D A [(h0, .inr (8, fs_73)), (q_1, .inl (cA_2, 1620, .inl (fun _ => 0))), (q_8, .inl (cA_9, 2, .inl (fun _ => 0))), (q_11, .inl (cA_12, 2, .inl (fun _ => 0))), (q_14, .inl (cA_15, 2, .inl (fun _ => 0))), (q_17, .inl (cA_18, 2, .inl (fun _ => 0))), (q_20, .inl (cA_21, 2, .inl (fun _ => 0))), (q_23, .inl (cA_24, 2, .inl (fun _ => 0))), (q_26, .inl (cA_27, 2, .inl (fun _ => 0))), (q_29, .inl (cA_30, 2, .inl (fun _ => 0))), (q_32, .inl (cA_33, 2, .inl (fun _ => 0))), (q_35, .inl (cA_36, 2, .inl (fun _ => 0))), (q_74, .inl (cA_75, 64, .inl (fun _ => 0)))] := hD
  have hK : va_K (dC, dI) vwCl [(cA_2, .byte), (cA_9, .int), (cA_12, .int), (cA_15, .int), (cA_18, .int), (cA_21, .int), (cA_24, .int), (cA_27, .int), (cA_30, .int), (cA_33, .boolean), (cA_36, .boolean), (cA_75, .int)] s := hK
  refine W.widen (k := 25) (n := 3466) (by decide) (by decide) ?_
  refine va_putF (D := (dC, dI)) (ci := 8) (v := .ref q_74) (ty := .array .int) (C := RX9) (T := TX9) (N := 81) hx hb hts i_X9 tyX9 tyX9_ok nmX9 hown hK hP hD hS 0 rfl rfl 33 (by decide) k_32 (fun _ h9 => h9) rfl hin rfl (by decide +kernel) rfl rfl (by rw [lfs_73]; decide) dX9_init_198 (fun H locs hP hD hS => ?_)
  have hP : va_P (dC, dI) vwCl [(h0, .inr (8, (fs_73.set 33 (.ref q_74)))), (q_1, .inl (cA_2, 1620, .inl (fun _ => 0))), (q_8, .inl (cA_9, 2, .inl (fun _ => 0))), (q_11, .inl (cA_12, 2, .inl (fun _ => 0))), (q_14, .inl (cA_15, 2, .inl (fun _ => 0))), (q_17, .inl (cA_18, 2, .inl (fun _ => 0))), (q_20, .inl (cA_21, 2, .inl (fun _ => 0))), (q_23, .inl (cA_24, 2, .inl (fun _ => 0))), (q_26, .inl (cA_27, 2, .inl (fun _ => 0))), (q_29, .inl (cA_30, 2, .inl (fun _ => 0))), (q_32, .inl (cA_33, 2, .inl (fun _ => 0))), (q_35, .inl (cA_36, 2, .inl (fun _ => 0))), (q_74, .inl (cA_75, 64, .inl (fun _ => 0)))] H := hP
  have hD : va_D A [(h0, .inr (8, (fs_73.set 33 (.ref q_74)))), (q_1, .inl (cA_2, 1620, .inl (fun _ => 0))), (q_8, .inl (cA_9, 2, .inl (fun _ => 0))), (q_11, .inl (cA_12, 2, .inl (fun _ => 0))), (q_14, .inl (cA_15, 2, .inl (fun _ => 0))), (q_17, .inl (cA_18, 2, .inl (fun _ => 0))), (q_20, .inl (cA_21, 2, .inl (fun _ => 0))), (q_23, .inl (cA_24, 2, .inl (fun _ => 0))), (q_26, .inl (cA_27, 2, .inl (fun _ => 0))), (q_29, .inl (cA_30, 2, .inl (fun _ => 0))), (q_32, .inl (cA_33, 2, .inl (fun _ => 0))), (q_35, .inl (cA_36, 2, .inl (fun _ => 0))), (q_74, .inl (cA_75, 64, .inl (fun _ => 0)))] := hD
  generalize efs_76 : (fs_73.set 33 (.ref q_74)) = fs_76 at hP hD
  have lfs_76 : fs_76.length = 81 := by rw [← efs_76, List.length_set]; exact lfs_73
  have ffs_76_2 : fs_76[2]? = some (.int 0) := by rw [← efs_76]; exact p1_sn (by decide) ffs_73_2
  have ffs_76_3 : fs_76[3]? = some (.int 0) := by rw [← efs_76]; exact p1_sn (by decide) ffs_73_3
  have ffs_76_4 : fs_76[4]? = some (.int 0) := by rw [← efs_76]; exact p1_sn (by decide) ffs_73_4
  have ffs_76_43 : fs_76[43]? = some (.int 0) := by rw [← efs_76]; exact p1_sn (by decide) ffs_73_43
  have ffs_76_60 : fs_76[60]? = some (.int 0) := by rw [← efs_76]; exact p1_sn (by decide) ffs_73_60
  have ffs_76_75 : fs_76[75]? = some (.int 0) := by rw [← efs_76]; exact p1_sn (by decide) ffs_73_75
  have ffs_76_7 : fs_76[7]? = some (.int 0) := by rw [← efs_76]; exact p1_sn (by decide) ffs_73_7
  have ffs_76_76 : fs_76[76]? = some (.int 0) := by rw [← efs_76]; exact p1_sn (by decide) ffs_73_76
  have ffs_76_44 : fs_76[44]? = some (.int 0) := by rw [← efs_76]; exact p1_sn (by decide) ffs_73_44
  have ffs_76_0 : fs_76[0]? = some (.ref q_1) := by rw [← efs_76]; exact p1_sn (by decide) ffs_73_0
  have ffs_76_5 : fs_76[5]? = some (.int (-1)) := by rw [← efs_76]; exact p1_sn (by decide) ffs_73_5
  have ffs_76_11 : fs_76[11]? = some (.ref q_8) := by rw [← efs_76]; exact p1_sn (by decide) ffs_73_11
  have ffs_76_12 : fs_76[12]? = some (.ref q_11) := by rw [← efs_76]; exact p1_sn (by decide) ffs_73_12
  have ffs_76_13 : fs_76[13]? = some (.ref q_14) := by rw [← efs_76]; exact p1_sn (by decide) ffs_73_13
  have ffs_76_14 : fs_76[14]? = some (.ref q_17) := by rw [← efs_76]; exact p1_sn (by decide) ffs_73_14
  have ffs_76_15 : fs_76[15]? = some (.ref q_20) := by rw [← efs_76]; exact p1_sn (by decide) ffs_73_15
  have ffs_76_16 : fs_76[16]? = some (.ref q_23) := by rw [← efs_76]; exact p1_sn (by decide) ffs_73_16
  have ffs_76_17 : fs_76[17]? = some (.ref q_26) := by rw [← efs_76]; exact p1_sn (by decide) ffs_73_17
  have ffs_76_18 : fs_76[18]? = some (.ref q_29) := by rw [← efs_76]; exact p1_sn (by decide) ffs_73_18
  have ffs_76_19 : fs_76[19]? = some (.ref q_32) := by rw [← efs_76]; exact p1_sn (by decide) ffs_73_19
  have ffs_76_20 : fs_76[20]? = some (.ref q_35) := by rw [← efs_76]; exact p1_sn (by decide) ffs_73_20
  have ffs_76_33 : fs_76[33]? = some (.ref q_74) := by rw [← efs_76]; exact p1_sa lfs_73 (by decide)
  have hP := hP.sub (ws' := [(h0, .inr (8, fs_76)), (q_1, .inl (cA_2, 1620, .inl (fun _ => 0))), (q_8, .inl (cA_9, 2, .inl (fun _ => 0))), (q_11, .inl (cA_12, 2, .inl (fun _ => 0))), (q_14, .inl (cA_15, 2, .inl (fun _ => 0))), (q_17, .inl (cA_18, 2, .inl (fun _ => 0))), (q_20, .inl (cA_21, 2, .inl (fun _ => 0))), (q_23, .inl (cA_24, 2, .inl (fun _ => 0))), (q_26, .inl (cA_27, 2, .inl (fun _ => 0))), (q_29, .inl (cA_30, 2, .inl (fun _ => 0))), (q_32, .inl (cA_33, 2, .inl (fun _ => 0))), (q_35, .inl (cA_36, 2, .inl (fun _ => 0)))]) [0, 1, 2, 3, 4, 5, 6, 7, 8, 9, 10, 11] rfl
  have hD := hD.sub (ws' := [(h0, .inr (8, fs_76)), (q_1, .inl (cA_2, 1620, .inl (fun _ => 0))), (q_8, .inl (cA_9, 2, .inl (fun _ => 0))), (q_11, .inl (cA_12, 2, .inl (fun _ => 0))), (q_14, .inl (cA_15, 2, .inl (fun _ => 0))), (q_17, .inl (cA_18, 2, .inl (fun _ => 0))), (q_20, .inl (cA_21, 2, .inl (fun _ => 0))), (q_23, .inl (cA_24, 2, .inl (fun _ => 0))), (q_26, .inl (cA_27, 2, .inl (fun _ => 0))), (q_29, .inl (cA_30, 2, .inl (fun _ => 0))), (q_32, .inl (cA_33, 2, .inl (fun _ => 0))), (q_35, .inl (cA_36, 2, .inl (fun _ => 0)))]) [0, 1, 2, 3, 4, 5, 6, 7, 8, 9, 10, 11] (by decide) rfl
  have hK := hK.sub (tys' := [(cA_2, .byte), (cA_9, .int), (cA_12, .int), (cA_15, .int), (cA_18, .int), (cA_21, .int), (cA_24, .int), (cA_27, .int), (cA_30, .int), (cA_33, .boolean), (cA_36, .boolean)]) [0, 1, 2, 3, 4, 5, 6, 7, 8, 9, 10] rfl
  refine lv_aload_n hx hb dX9_init_201 rfl (lv_at hl 0 rfl) ?_
  refine lv_bipush (v := 8) hx hb dX9_init_202 (by decide) ?_
  refine va_newa (atype := .int) (ty := .int) (N' := 8) (a0 := (8, .inl (fun _ => 0))) hx hb k_7 rfl hK hP hD hS hA (fun _ => rfl) (by decide) rfl (by decide) (by decide) (by decide) dX9_init_204 (fun q_77 cA_78 H hK hP hD hS => ?_)
  have hP : va_P (dC, dI) vwCl [(h0, .inr (8, fs_76)), (q_1, .inl (cA_2, 1620, .inl (fun _ => 0))), (q_8, .inl (cA_9, 2, .inl (fun _ => 0))), (q_11, .inl (cA_12, 2, .inl (fun _ => 0))), (q_14, .inl (cA_15, 2, .inl (fun _ => 0))), (q_17, .inl (cA_18, 2, .inl (fun _ => 0))), (q_20, .inl (cA_21, 2, .inl (fun _ => 0))), (q_23, .inl (cA_24, 2, .inl (fun _ => 0))), (q_26, .inl (cA_27, 2, .inl (fun _ => 0))), (q_29, .inl (cA_30, 2, .inl (fun _ => 0))), (q_32, .inl (cA_33, 2, .inl (fun _ => 0))), (q_35, .inl (cA_36, 2, .inl (fun _ => 0))), (q_77, .inl (cA_78, 8, .inl (fun _ => 0)))] H := hP
  have hD : va_D A [(h0, .inr (8, fs_76)), (q_1, .inl (cA_2, 1620, .inl (fun _ => 0))), (q_8, .inl (cA_9, 2, .inl (fun _ => 0))), (q_11, .inl (cA_12, 2, .inl (fun _ => 0))), (q_14, .inl (cA_15, 2, .inl (fun _ => 0))), (q_17, .inl (cA_18, 2, .inl (fun _ => 0))), (q_20, .inl (cA_21, 2, .inl (fun _ => 0))), (q_23, .inl (cA_24, 2, .inl (fun _ => 0))), (q_26, .inl (cA_27, 2, .inl (fun _ => 0))), (q_29, .inl (cA_30, 2, .inl (fun _ => 0))), (q_32, .inl (cA_33, 2, .inl (fun _ => 0))), (q_35, .inl (cA_36, 2, .inl (fun _ => 0))), (q_77, .inl (cA_78, 8, .inl (fun _ => 0)))] := hD
  have hK : va_K (dC, dI) vwCl [(cA_2, .byte), (cA_9, .int), (cA_12, .int), (cA_15, .int), (cA_18, .int), (cA_21, .int), (cA_24, .int), (cA_27, .int), (cA_30, .int), (cA_33, .boolean), (cA_36, .boolean), (cA_78, .int)] s := hK
  refine W.widen (k := 26) (n := 3474) (by decide) (by decide) ?_
  refine va_putF (D := (dC, dI)) (ci := 8) (v := .ref q_77) (ty := .array .int) (C := RX9) (T := TX9) (N := 81) hx hb hts i_X9 tyX9 tyX9_ok nmX9 hown hK hP hD hS 0 rfl rfl 34 (by decide) k_33 (fun _ h9 => h9) rfl hin rfl (by decide +kernel) rfl rfl (by rw [lfs_76]; decide) dX9_init_206 (fun H locs hP hD hS => ?_)
  have hP : va_P (dC, dI) vwCl [(h0, .inr (8, (fs_76.set 34 (.ref q_77)))), (q_1, .inl (cA_2, 1620, .inl (fun _ => 0))), (q_8, .inl (cA_9, 2, .inl (fun _ => 0))), (q_11, .inl (cA_12, 2, .inl (fun _ => 0))), (q_14, .inl (cA_15, 2, .inl (fun _ => 0))), (q_17, .inl (cA_18, 2, .inl (fun _ => 0))), (q_20, .inl (cA_21, 2, .inl (fun _ => 0))), (q_23, .inl (cA_24, 2, .inl (fun _ => 0))), (q_26, .inl (cA_27, 2, .inl (fun _ => 0))), (q_29, .inl (cA_30, 2, .inl (fun _ => 0))), (q_32, .inl (cA_33, 2, .inl (fun _ => 0))), (q_35, .inl (cA_36, 2, .inl (fun _ => 0))), (q_77, .inl (cA_78, 8, .inl (fun _ => 0)))] H := hP
  have hD : va_D A [(h0, .inr (8, (fs_76.set 34 (.ref q_77)))), (q_1, .inl (cA_2, 1620, .inl (fun _ => 0))), (q_8, .inl (cA_9, 2, .inl (fun _ => 0))), (q_11, .inl (cA_12, 2, .inl (fun _ => 0))), (q_14, .inl (cA_15, 2, .inl (fun _ => 0))), (q_17, .inl (cA_18, 2, .inl (fun _ => 0))), (q_20, .inl (cA_21, 2, .inl (fun _ => 0))), (q_23, .inl (cA_24, 2, .inl (fun _ => 0))), (q_26, .inl (cA_27, 2, .inl (fun _ => 0))), (q_29, .inl (cA_30, 2, .inl (fun _ => 0))), (q_32, .inl (cA_33, 2, .inl (fun _ => 0))), (q_35, .inl (cA_36, 2, .inl (fun _ => 0))), (q_77, .inl (cA_78, 8, .inl (fun _ => 0)))] := hD
  generalize efs_79 : (fs_76.set 34 (.ref q_77)) = fs_79 at hP hD
  have lfs_79 : fs_79.length = 81 := by rw [← efs_79, List.length_set]; exact lfs_76
  have ffs_79_2 : fs_79[2]? = some (.int 0) := by rw [← efs_79]; exact p1_sn (by decide) ffs_76_2
  have ffs_79_3 : fs_79[3]? = some (.int 0) := by rw [← efs_79]; exact p1_sn (by decide) ffs_76_3
  have ffs_79_4 : fs_79[4]? = some (.int 0) := by rw [← efs_79]; exact p1_sn (by decide) ffs_76_4
  have ffs_79_43 : fs_79[43]? = some (.int 0) := by rw [← efs_79]; exact p1_sn (by decide) ffs_76_43
  have ffs_79_60 : fs_79[60]? = some (.int 0) := by rw [← efs_79]; exact p1_sn (by decide) ffs_76_60
  have ffs_79_75 : fs_79[75]? = some (.int 0) := by rw [← efs_79]; exact p1_sn (by decide) ffs_76_75
  have ffs_79_7 : fs_79[7]? = some (.int 0) := by rw [← efs_79]; exact p1_sn (by decide) ffs_76_7
  have ffs_79_76 : fs_79[76]? = some (.int 0) := by rw [← efs_79]; exact p1_sn (by decide) ffs_76_76
  have ffs_79_44 : fs_79[44]? = some (.int 0) := by rw [← efs_79]; exact p1_sn (by decide) ffs_76_44
  have ffs_79_0 : fs_79[0]? = some (.ref q_1) := by rw [← efs_79]; exact p1_sn (by decide) ffs_76_0
  have ffs_79_5 : fs_79[5]? = some (.int (-1)) := by rw [← efs_79]; exact p1_sn (by decide) ffs_76_5
  have ffs_79_11 : fs_79[11]? = some (.ref q_8) := by rw [← efs_79]; exact p1_sn (by decide) ffs_76_11
  have ffs_79_12 : fs_79[12]? = some (.ref q_11) := by rw [← efs_79]; exact p1_sn (by decide) ffs_76_12
  have ffs_79_13 : fs_79[13]? = some (.ref q_14) := by rw [← efs_79]; exact p1_sn (by decide) ffs_76_13
  have ffs_79_14 : fs_79[14]? = some (.ref q_17) := by rw [← efs_79]; exact p1_sn (by decide) ffs_76_14
  have ffs_79_15 : fs_79[15]? = some (.ref q_20) := by rw [← efs_79]; exact p1_sn (by decide) ffs_76_15
  have ffs_79_16 : fs_79[16]? = some (.ref q_23) := by rw [← efs_79]; exact p1_sn (by decide) ffs_76_16
  have ffs_79_17 : fs_79[17]? = some (.ref q_26) := by rw [← efs_79]; exact p1_sn (by decide) ffs_76_17
  have ffs_79_18 : fs_79[18]? = some (.ref q_29) := by rw [← efs_79]; exact p1_sn (by decide) ffs_76_18
  have ffs_79_19 : fs_79[19]? = some (.ref q_32) := by rw [← efs_79]; exact p1_sn (by decide) ffs_76_19
  have ffs_79_20 : fs_79[20]? = some (.ref q_35) := by rw [← efs_79]; exact p1_sn (by decide) ffs_76_20
  have ffs_79_34 : fs_79[34]? = some (.ref q_77) := by rw [← efs_79]; exact p1_sa lfs_76 (by decide)
  have hP := hP.sub (ws' := [(h0, .inr (8, fs_79)), (q_1, .inl (cA_2, 1620, .inl (fun _ => 0))), (q_8, .inl (cA_9, 2, .inl (fun _ => 0))), (q_11, .inl (cA_12, 2, .inl (fun _ => 0))), (q_14, .inl (cA_15, 2, .inl (fun _ => 0))), (q_17, .inl (cA_18, 2, .inl (fun _ => 0))), (q_20, .inl (cA_21, 2, .inl (fun _ => 0))), (q_23, .inl (cA_24, 2, .inl (fun _ => 0))), (q_26, .inl (cA_27, 2, .inl (fun _ => 0))), (q_29, .inl (cA_30, 2, .inl (fun _ => 0))), (q_32, .inl (cA_33, 2, .inl (fun _ => 0))), (q_35, .inl (cA_36, 2, .inl (fun _ => 0)))]) [0, 1, 2, 3, 4, 5, 6, 7, 8, 9, 10, 11] rfl
  have hD := hD.sub (ws' := [(h0, .inr (8, fs_79)), (q_1, .inl (cA_2, 1620, .inl (fun _ => 0))), (q_8, .inl (cA_9, 2, .inl (fun _ => 0))), (q_11, .inl (cA_12, 2, .inl (fun _ => 0))), (q_14, .inl (cA_15, 2, .inl (fun _ => 0))), (q_17, .inl (cA_18, 2, .inl (fun _ => 0))), (q_20, .inl (cA_21, 2, .inl (fun _ => 0))), (q_23, .inl (cA_24, 2, .inl (fun _ => 0))), (q_26, .inl (cA_27, 2, .inl (fun _ => 0))), (q_29, .inl (cA_30, 2, .inl (fun _ => 0))), (q_32, .inl (cA_33, 2, .inl (fun _ => 0))), (q_35, .inl (cA_36, 2, .inl (fun _ => 0)))]) [0, 1, 2, 3, 4, 5, 6, 7, 8, 9, 10, 11] (by decide) rfl
  have hK := hK.sub (tys' := [(cA_2, .byte), (cA_9, .int), (cA_12, .int), (cA_15, .int), (cA_18, .int), (cA_21, .int), (cA_24, .int), (cA_27, .int), (cA_30, .int), (cA_33, .boolean), (cA_36, .boolean)]) [0, 1, 2, 3, 4, 5, 6, 7, 8, 9, 10] rfl
  refine lv_aload_n hx hb dX9_init_209 rfl (lv_at hl 0 rfl) ?_
  refine lv_bipush (v := 8) hx hb dX9_init_210 (by decide) ?_
  refine va_newa (atype := .int) (ty := .int) (N' := 8) (a0 := (8, .inl (fun _ => 0))) hx hb k_7 rfl hK hP hD hS hA (fun _ => rfl) (by decide) rfl (by decide) (by decide) (by decide) dX9_init_212 (fun q_80 cA_81 H hK hP hD hS => ?_)
  have hP : va_P (dC, dI) vwCl [(h0, .inr (8, fs_79)), (q_1, .inl (cA_2, 1620, .inl (fun _ => 0))), (q_8, .inl (cA_9, 2, .inl (fun _ => 0))), (q_11, .inl (cA_12, 2, .inl (fun _ => 0))), (q_14, .inl (cA_15, 2, .inl (fun _ => 0))), (q_17, .inl (cA_18, 2, .inl (fun _ => 0))), (q_20, .inl (cA_21, 2, .inl (fun _ => 0))), (q_23, .inl (cA_24, 2, .inl (fun _ => 0))), (q_26, .inl (cA_27, 2, .inl (fun _ => 0))), (q_29, .inl (cA_30, 2, .inl (fun _ => 0))), (q_32, .inl (cA_33, 2, .inl (fun _ => 0))), (q_35, .inl (cA_36, 2, .inl (fun _ => 0))), (q_80, .inl (cA_81, 8, .inl (fun _ => 0)))] H := hP
  have hD : va_D A [(h0, .inr (8, fs_79)), (q_1, .inl (cA_2, 1620, .inl (fun _ => 0))), (q_8, .inl (cA_9, 2, .inl (fun _ => 0))), (q_11, .inl (cA_12, 2, .inl (fun _ => 0))), (q_14, .inl (cA_15, 2, .inl (fun _ => 0))), (q_17, .inl (cA_18, 2, .inl (fun _ => 0))), (q_20, .inl (cA_21, 2, .inl (fun _ => 0))), (q_23, .inl (cA_24, 2, .inl (fun _ => 0))), (q_26, .inl (cA_27, 2, .inl (fun _ => 0))), (q_29, .inl (cA_30, 2, .inl (fun _ => 0))), (q_32, .inl (cA_33, 2, .inl (fun _ => 0))), (q_35, .inl (cA_36, 2, .inl (fun _ => 0))), (q_80, .inl (cA_81, 8, .inl (fun _ => 0)))] := hD
  have hK : va_K (dC, dI) vwCl [(cA_2, .byte), (cA_9, .int), (cA_12, .int), (cA_15, .int), (cA_18, .int), (cA_21, .int), (cA_24, .int), (cA_27, .int), (cA_30, .int), (cA_33, .boolean), (cA_36, .boolean), (cA_81, .int)] s := hK
  refine W.widen (k := 27) (n := 3482) (by decide) (by decide) ?_
  refine va_putF (D := (dC, dI)) (ci := 8) (v := .ref q_80) (ty := .array .int) (C := RX9) (T := TX9) (N := 81) hx hb hts i_X9 tyX9 tyX9_ok nmX9 hown hK hP hD hS 0 rfl rfl 35 (by decide) k_34 (fun _ h9 => h9) rfl hin rfl (by decide +kernel) rfl rfl (by rw [lfs_79]; decide) dX9_init_214 (fun H locs hP hD hS => ?_)
  have hP : va_P (dC, dI) vwCl [(h0, .inr (8, (fs_79.set 35 (.ref q_80)))), (q_1, .inl (cA_2, 1620, .inl (fun _ => 0))), (q_8, .inl (cA_9, 2, .inl (fun _ => 0))), (q_11, .inl (cA_12, 2, .inl (fun _ => 0))), (q_14, .inl (cA_15, 2, .inl (fun _ => 0))), (q_17, .inl (cA_18, 2, .inl (fun _ => 0))), (q_20, .inl (cA_21, 2, .inl (fun _ => 0))), (q_23, .inl (cA_24, 2, .inl (fun _ => 0))), (q_26, .inl (cA_27, 2, .inl (fun _ => 0))), (q_29, .inl (cA_30, 2, .inl (fun _ => 0))), (q_32, .inl (cA_33, 2, .inl (fun _ => 0))), (q_35, .inl (cA_36, 2, .inl (fun _ => 0))), (q_80, .inl (cA_81, 8, .inl (fun _ => 0)))] H := hP
  have hD : va_D A [(h0, .inr (8, (fs_79.set 35 (.ref q_80)))), (q_1, .inl (cA_2, 1620, .inl (fun _ => 0))), (q_8, .inl (cA_9, 2, .inl (fun _ => 0))), (q_11, .inl (cA_12, 2, .inl (fun _ => 0))), (q_14, .inl (cA_15, 2, .inl (fun _ => 0))), (q_17, .inl (cA_18, 2, .inl (fun _ => 0))), (q_20, .inl (cA_21, 2, .inl (fun _ => 0))), (q_23, .inl (cA_24, 2, .inl (fun _ => 0))), (q_26, .inl (cA_27, 2, .inl (fun _ => 0))), (q_29, .inl (cA_30, 2, .inl (fun _ => 0))), (q_32, .inl (cA_33, 2, .inl (fun _ => 0))), (q_35, .inl (cA_36, 2, .inl (fun _ => 0))), (q_80, .inl (cA_81, 8, .inl (fun _ => 0)))] := hD
  generalize efs_82 : (fs_79.set 35 (.ref q_80)) = fs_82 at hP hD
  have lfs_82 : fs_82.length = 81 := by rw [← efs_82, List.length_set]; exact lfs_79
  have ffs_82_2 : fs_82[2]? = some (.int 0) := by rw [← efs_82]; exact p1_sn (by decide) ffs_79_2
  have ffs_82_3 : fs_82[3]? = some (.int 0) := by rw [← efs_82]; exact p1_sn (by decide) ffs_79_3
  have ffs_82_4 : fs_82[4]? = some (.int 0) := by rw [← efs_82]; exact p1_sn (by decide) ffs_79_4
  have ffs_82_43 : fs_82[43]? = some (.int 0) := by rw [← efs_82]; exact p1_sn (by decide) ffs_79_43
  have ffs_82_60 : fs_82[60]? = some (.int 0) := by rw [← efs_82]; exact p1_sn (by decide) ffs_79_60
  have ffs_82_75 : fs_82[75]? = some (.int 0) := by rw [← efs_82]; exact p1_sn (by decide) ffs_79_75
  have ffs_82_7 : fs_82[7]? = some (.int 0) := by rw [← efs_82]; exact p1_sn (by decide) ffs_79_7
  have ffs_82_76 : fs_82[76]? = some (.int 0) := by rw [← efs_82]; exact p1_sn (by decide) ffs_79_76
  have ffs_82_44 : fs_82[44]? = some (.int 0) := by rw [← efs_82]; exact p1_sn (by decide) ffs_79_44
  have ffs_82_0 : fs_82[0]? = some (.ref q_1) := by rw [← efs_82]; exact p1_sn (by decide) ffs_79_0
  have ffs_82_5 : fs_82[5]? = some (.int (-1)) := by rw [← efs_82]; exact p1_sn (by decide) ffs_79_5
  have ffs_82_11 : fs_82[11]? = some (.ref q_8) := by rw [← efs_82]; exact p1_sn (by decide) ffs_79_11
  have ffs_82_12 : fs_82[12]? = some (.ref q_11) := by rw [← efs_82]; exact p1_sn (by decide) ffs_79_12
  have ffs_82_13 : fs_82[13]? = some (.ref q_14) := by rw [← efs_82]; exact p1_sn (by decide) ffs_79_13
  have ffs_82_14 : fs_82[14]? = some (.ref q_17) := by rw [← efs_82]; exact p1_sn (by decide) ffs_79_14
  have ffs_82_15 : fs_82[15]? = some (.ref q_20) := by rw [← efs_82]; exact p1_sn (by decide) ffs_79_15
  have ffs_82_16 : fs_82[16]? = some (.ref q_23) := by rw [← efs_82]; exact p1_sn (by decide) ffs_79_16
  have ffs_82_17 : fs_82[17]? = some (.ref q_26) := by rw [← efs_82]; exact p1_sn (by decide) ffs_79_17
  have ffs_82_18 : fs_82[18]? = some (.ref q_29) := by rw [← efs_82]; exact p1_sn (by decide) ffs_79_18
  have ffs_82_19 : fs_82[19]? = some (.ref q_32) := by rw [← efs_82]; exact p1_sn (by decide) ffs_79_19
  have ffs_82_20 : fs_82[20]? = some (.ref q_35) := by rw [← efs_82]; exact p1_sn (by decide) ffs_79_20
  have ffs_82_35 : fs_82[35]? = some (.ref q_80) := by rw [← efs_82]; exact p1_sa lfs_79 (by decide)
  have hP := hP.sub (ws' := [(h0, .inr (8, fs_82)), (q_1, .inl (cA_2, 1620, .inl (fun _ => 0))), (q_8, .inl (cA_9, 2, .inl (fun _ => 0))), (q_11, .inl (cA_12, 2, .inl (fun _ => 0))), (q_14, .inl (cA_15, 2, .inl (fun _ => 0))), (q_17, .inl (cA_18, 2, .inl (fun _ => 0))), (q_20, .inl (cA_21, 2, .inl (fun _ => 0))), (q_23, .inl (cA_24, 2, .inl (fun _ => 0))), (q_26, .inl (cA_27, 2, .inl (fun _ => 0))), (q_29, .inl (cA_30, 2, .inl (fun _ => 0))), (q_32, .inl (cA_33, 2, .inl (fun _ => 0))), (q_35, .inl (cA_36, 2, .inl (fun _ => 0)))]) [0, 1, 2, 3, 4, 5, 6, 7, 8, 9, 10, 11] rfl
  have hD := hD.sub (ws' := [(h0, .inr (8, fs_82)), (q_1, .inl (cA_2, 1620, .inl (fun _ => 0))), (q_8, .inl (cA_9, 2, .inl (fun _ => 0))), (q_11, .inl (cA_12, 2, .inl (fun _ => 0))), (q_14, .inl (cA_15, 2, .inl (fun _ => 0))), (q_17, .inl (cA_18, 2, .inl (fun _ => 0))), (q_20, .inl (cA_21, 2, .inl (fun _ => 0))), (q_23, .inl (cA_24, 2, .inl (fun _ => 0))), (q_26, .inl (cA_27, 2, .inl (fun _ => 0))), (q_29, .inl (cA_30, 2, .inl (fun _ => 0))), (q_32, .inl (cA_33, 2, .inl (fun _ => 0))), (q_35, .inl (cA_36, 2, .inl (fun _ => 0)))]) [0, 1, 2, 3, 4, 5, 6, 7, 8, 9, 10, 11] (by decide) rfl
  have hK := hK.sub (tys' := [(cA_2, .byte), (cA_9, .int), (cA_12, .int), (cA_15, .int), (cA_18, .int), (cA_21, .int), (cA_24, .int), (cA_27, .int), (cA_30, .int), (cA_33, .boolean), (cA_36, .boolean)]) [0, 1, 2, 3, 4, 5, 6, 7, 8, 9, 10] rfl
  refine lv_aload_n hx hb dX9_init_217 rfl (lv_at hl 0 rfl) ?_
  refine lv_bipush (v := 12) hx hb dX9_init_218 (by decide) ?_
  refine va_newa (atype := .int) (ty := .int) (N' := 12) (a0 := (12, .inl (fun _ => 0))) hx hb k_7 rfl hK hP hD hS hA (fun _ => rfl) (by decide) rfl (by decide) (by decide) (by decide) dX9_init_220 (fun q_83 cA_84 H hK hP hD hS => ?_)
  have hP : va_P (dC, dI) vwCl [(h0, .inr (8, fs_82)), (q_1, .inl (cA_2, 1620, .inl (fun _ => 0))), (q_8, .inl (cA_9, 2, .inl (fun _ => 0))), (q_11, .inl (cA_12, 2, .inl (fun _ => 0))), (q_14, .inl (cA_15, 2, .inl (fun _ => 0))), (q_17, .inl (cA_18, 2, .inl (fun _ => 0))), (q_20, .inl (cA_21, 2, .inl (fun _ => 0))), (q_23, .inl (cA_24, 2, .inl (fun _ => 0))), (q_26, .inl (cA_27, 2, .inl (fun _ => 0))), (q_29, .inl (cA_30, 2, .inl (fun _ => 0))), (q_32, .inl (cA_33, 2, .inl (fun _ => 0))), (q_35, .inl (cA_36, 2, .inl (fun _ => 0))), (q_83, .inl (cA_84, 12, .inl (fun _ => 0)))] H := hP
  have hD : va_D A [(h0, .inr (8, fs_82)), (q_1, .inl (cA_2, 1620, .inl (fun _ => 0))), (q_8, .inl (cA_9, 2, .inl (fun _ => 0))), (q_11, .inl (cA_12, 2, .inl (fun _ => 0))), (q_14, .inl (cA_15, 2, .inl (fun _ => 0))), (q_17, .inl (cA_18, 2, .inl (fun _ => 0))), (q_20, .inl (cA_21, 2, .inl (fun _ => 0))), (q_23, .inl (cA_24, 2, .inl (fun _ => 0))), (q_26, .inl (cA_27, 2, .inl (fun _ => 0))), (q_29, .inl (cA_30, 2, .inl (fun _ => 0))), (q_32, .inl (cA_33, 2, .inl (fun _ => 0))), (q_35, .inl (cA_36, 2, .inl (fun _ => 0))), (q_83, .inl (cA_84, 12, .inl (fun _ => 0)))] := hD
  have hK : va_K (dC, dI) vwCl [(cA_2, .byte), (cA_9, .int), (cA_12, .int), (cA_15, .int), (cA_18, .int), (cA_21, .int), (cA_24, .int), (cA_27, .int), (cA_30, .int), (cA_33, .boolean), (cA_36, .boolean), (cA_84, .int)] s := hK
  refine W.widen (k := 28) (n := 3494) (by decide) (by decide) ?_
  refine va_putF (D := (dC, dI)) (ci := 8) (v := .ref q_83) (ty := .array .int) (C := RX9) (T := TX9) (N := 81) hx hb hts i_X9 tyX9 tyX9_ok nmX9 hown hK hP hD hS 0 rfl rfl 36 (by decide) k_35 (fun _ h9 => h9) rfl hin rfl (by decide +kernel) rfl rfl (by rw [lfs_82]; decide) dX9_init_222 (fun H locs hP hD hS => ?_)
  have hP : va_P (dC, dI) vwCl [(h0, .inr (8, (fs_82.set 36 (.ref q_83)))), (q_1, .inl (cA_2, 1620, .inl (fun _ => 0))), (q_8, .inl (cA_9, 2, .inl (fun _ => 0))), (q_11, .inl (cA_12, 2, .inl (fun _ => 0))), (q_14, .inl (cA_15, 2, .inl (fun _ => 0))), (q_17, .inl (cA_18, 2, .inl (fun _ => 0))), (q_20, .inl (cA_21, 2, .inl (fun _ => 0))), (q_23, .inl (cA_24, 2, .inl (fun _ => 0))), (q_26, .inl (cA_27, 2, .inl (fun _ => 0))), (q_29, .inl (cA_30, 2, .inl (fun _ => 0))), (q_32, .inl (cA_33, 2, .inl (fun _ => 0))), (q_35, .inl (cA_36, 2, .inl (fun _ => 0))), (q_83, .inl (cA_84, 12, .inl (fun _ => 0)))] H := hP
  have hD : va_D A [(h0, .inr (8, (fs_82.set 36 (.ref q_83)))), (q_1, .inl (cA_2, 1620, .inl (fun _ => 0))), (q_8, .inl (cA_9, 2, .inl (fun _ => 0))), (q_11, .inl (cA_12, 2, .inl (fun _ => 0))), (q_14, .inl (cA_15, 2, .inl (fun _ => 0))), (q_17, .inl (cA_18, 2, .inl (fun _ => 0))), (q_20, .inl (cA_21, 2, .inl (fun _ => 0))), (q_23, .inl (cA_24, 2, .inl (fun _ => 0))), (q_26, .inl (cA_27, 2, .inl (fun _ => 0))), (q_29, .inl (cA_30, 2, .inl (fun _ => 0))), (q_32, .inl (cA_33, 2, .inl (fun _ => 0))), (q_35, .inl (cA_36, 2, .inl (fun _ => 0))), (q_83, .inl (cA_84, 12, .inl (fun _ => 0)))] := hD
  generalize efs_85 : (fs_82.set 36 (.ref q_83)) = fs_85 at hP hD
  have lfs_85 : fs_85.length = 81 := by rw [← efs_85, List.length_set]; exact lfs_82
  have ffs_85_2 : fs_85[2]? = some (.int 0) := by rw [← efs_85]; exact p1_sn (by decide) ffs_82_2
  have ffs_85_3 : fs_85[3]? = some (.int 0) := by rw [← efs_85]; exact p1_sn (by decide) ffs_82_3
  have ffs_85_4 : fs_85[4]? = some (.int 0) := by rw [← efs_85]; exact p1_sn (by decide) ffs_82_4
  have ffs_85_43 : fs_85[43]? = some (.int 0) := by rw [← efs_85]; exact p1_sn (by decide) ffs_82_43
  have ffs_85_60 : fs_85[60]? = some (.int 0) := by rw [← efs_85]; exact p1_sn (by decide) ffs_82_60
  have ffs_85_75 : fs_85[75]? = some (.int 0) := by rw [← efs_85]; exact p1_sn (by decide) ffs_82_75
  have ffs_85_7 : fs_85[7]? = some (.int 0) := by rw [← efs_85]; exact p1_sn (by decide) ffs_82_7
  have ffs_85_76 : fs_85[76]? = some (.int 0) := by rw [← efs_85]; exact p1_sn (by decide) ffs_82_76
  have ffs_85_44 : fs_85[44]? = some (.int 0) := by rw [← efs_85]; exact p1_sn (by decide) ffs_82_44
  have ffs_85_0 : fs_85[0]? = some (.ref q_1) := by rw [← efs_85]; exact p1_sn (by decide) ffs_82_0
  have ffs_85_5 : fs_85[5]? = some (.int (-1)) := by rw [← efs_85]; exact p1_sn (by decide) ffs_82_5
  have ffs_85_11 : fs_85[11]? = some (.ref q_8) := by rw [← efs_85]; exact p1_sn (by decide) ffs_82_11
  have ffs_85_12 : fs_85[12]? = some (.ref q_11) := by rw [← efs_85]; exact p1_sn (by decide) ffs_82_12
  have ffs_85_13 : fs_85[13]? = some (.ref q_14) := by rw [← efs_85]; exact p1_sn (by decide) ffs_82_13
  have ffs_85_14 : fs_85[14]? = some (.ref q_17) := by rw [← efs_85]; exact p1_sn (by decide) ffs_82_14
  have ffs_85_15 : fs_85[15]? = some (.ref q_20) := by rw [← efs_85]; exact p1_sn (by decide) ffs_82_15
  have ffs_85_16 : fs_85[16]? = some (.ref q_23) := by rw [← efs_85]; exact p1_sn (by decide) ffs_82_16
  have ffs_85_17 : fs_85[17]? = some (.ref q_26) := by rw [← efs_85]; exact p1_sn (by decide) ffs_82_17
  have ffs_85_18 : fs_85[18]? = some (.ref q_29) := by rw [← efs_85]; exact p1_sn (by decide) ffs_82_18
  have ffs_85_19 : fs_85[19]? = some (.ref q_32) := by rw [← efs_85]; exact p1_sn (by decide) ffs_82_19
  have ffs_85_20 : fs_85[20]? = some (.ref q_35) := by rw [← efs_85]; exact p1_sn (by decide) ffs_82_20
  have ffs_85_36 : fs_85[36]? = some (.ref q_83) := by rw [← efs_85]; exact p1_sa lfs_82 (by decide)
  have hP := hP.sub (ws' := [(h0, .inr (8, fs_85)), (q_1, .inl (cA_2, 1620, .inl (fun _ => 0))), (q_8, .inl (cA_9, 2, .inl (fun _ => 0))), (q_11, .inl (cA_12, 2, .inl (fun _ => 0))), (q_14, .inl (cA_15, 2, .inl (fun _ => 0))), (q_17, .inl (cA_18, 2, .inl (fun _ => 0))), (q_20, .inl (cA_21, 2, .inl (fun _ => 0))), (q_23, .inl (cA_24, 2, .inl (fun _ => 0))), (q_26, .inl (cA_27, 2, .inl (fun _ => 0))), (q_29, .inl (cA_30, 2, .inl (fun _ => 0))), (q_32, .inl (cA_33, 2, .inl (fun _ => 0))), (q_35, .inl (cA_36, 2, .inl (fun _ => 0)))]) [0, 1, 2, 3, 4, 5, 6, 7, 8, 9, 10, 11] rfl
  have hD := hD.sub (ws' := [(h0, .inr (8, fs_85)), (q_1, .inl (cA_2, 1620, .inl (fun _ => 0))), (q_8, .inl (cA_9, 2, .inl (fun _ => 0))), (q_11, .inl (cA_12, 2, .inl (fun _ => 0))), (q_14, .inl (cA_15, 2, .inl (fun _ => 0))), (q_17, .inl (cA_18, 2, .inl (fun _ => 0))), (q_20, .inl (cA_21, 2, .inl (fun _ => 0))), (q_23, .inl (cA_24, 2, .inl (fun _ => 0))), (q_26, .inl (cA_27, 2, .inl (fun _ => 0))), (q_29, .inl (cA_30, 2, .inl (fun _ => 0))), (q_32, .inl (cA_33, 2, .inl (fun _ => 0))), (q_35, .inl (cA_36, 2, .inl (fun _ => 0)))]) [0, 1, 2, 3, 4, 5, 6, 7, 8, 9, 10, 11] (by decide) rfl
  have hK := hK.sub (tys' := [(cA_2, .byte), (cA_9, .int), (cA_12, .int), (cA_15, .int), (cA_18, .int), (cA_21, .int), (cA_24, .int), (cA_27, .int), (cA_30, .int), (cA_33, .boolean), (cA_36, .boolean)]) [0, 1, 2, 3, 4, 5, 6, 7, 8, 9, 10] rfl
  refine lv_aload_n hx hb dX9_init_225 rfl (lv_at hl 0 rfl) ?_
  refine lv_bipush (v := 12) hx hb dX9_init_226 (by decide) ?_
  refine va_newa (atype := .int) (ty := .int) (N' := 12) (a0 := (12, .inl (fun _ => 0))) hx hb k_7 rfl hK hP hD hS hA (fun _ => rfl) (by decide) rfl (by decide) (by decide) (by decide) dX9_init_228 (fun q_86 cA_87 H hK hP hD hS => ?_)
  have hP : va_P (dC, dI) vwCl [(h0, .inr (8, fs_85)), (q_1, .inl (cA_2, 1620, .inl (fun _ => 0))), (q_8, .inl (cA_9, 2, .inl (fun _ => 0))), (q_11, .inl (cA_12, 2, .inl (fun _ => 0))), (q_14, .inl (cA_15, 2, .inl (fun _ => 0))), (q_17, .inl (cA_18, 2, .inl (fun _ => 0))), (q_20, .inl (cA_21, 2, .inl (fun _ => 0))), (q_23, .inl (cA_24, 2, .inl (fun _ => 0))), (q_26, .inl (cA_27, 2, .inl (fun _ => 0))), (q_29, .inl (cA_30, 2, .inl (fun _ => 0))), (q_32, .inl (cA_33, 2, .inl (fun _ => 0))), (q_35, .inl (cA_36, 2, .inl (fun _ => 0))), (q_86, .inl (cA_87, 12, .inl (fun _ => 0)))] H := hP
  have hD : va_D A [(h0, .inr (8, fs_85)), (q_1, .inl (cA_2, 1620, .inl (fun _ => 0))), (q_8, .inl (cA_9, 2, .inl (fun _ => 0))), (q_11, .inl (cA_12, 2, .inl (fun _ => 0))), (q_14, .inl (cA_15, 2, .inl (fun _ => 0))), (q_17, .inl (cA_18, 2, .inl (fun _ => 0))), (q_20, .inl (cA_21, 2, .inl (fun _ => 0))), (q_23, .inl (cA_24, 2, .inl (fun _ => 0))), (q_26, .inl (cA_27, 2, .inl (fun _ => 0))), (q_29, .inl (cA_30, 2, .inl (fun _ => 0))), (q_32, .inl (cA_33, 2, .inl (fun _ => 0))), (q_35, .inl (cA_36, 2, .inl (fun _ => 0))), (q_86, .inl (cA_87, 12, .inl (fun _ => 0)))] := hD
  have hK : va_K (dC, dI) vwCl [(cA_2, .byte), (cA_9, .int), (cA_12, .int), (cA_15, .int), (cA_18, .int), (cA_21, .int), (cA_24, .int), (cA_27, .int), (cA_30, .int), (cA_33, .boolean), (cA_36, .boolean), (cA_87, .int)] s := hK
  refine W.widen (k := 29) (n := 3506) (by decide) (by decide) ?_
  refine va_putF (D := (dC, dI)) (ci := 8) (v := .ref q_86) (ty := .array .int) (C := RX9) (T := TX9) (N := 81) hx hb hts i_X9 tyX9 tyX9_ok nmX9 hown hK hP hD hS 0 rfl rfl 37 (by decide) k_36 (fun _ h9 => h9) rfl hin rfl (by decide +kernel) rfl rfl (by rw [lfs_85]; decide) dX9_init_230 (fun H locs hP hD hS => ?_)
  have hP : va_P (dC, dI) vwCl [(h0, .inr (8, (fs_85.set 37 (.ref q_86)))), (q_1, .inl (cA_2, 1620, .inl (fun _ => 0))), (q_8, .inl (cA_9, 2, .inl (fun _ => 0))), (q_11, .inl (cA_12, 2, .inl (fun _ => 0))), (q_14, .inl (cA_15, 2, .inl (fun _ => 0))), (q_17, .inl (cA_18, 2, .inl (fun _ => 0))), (q_20, .inl (cA_21, 2, .inl (fun _ => 0))), (q_23, .inl (cA_24, 2, .inl (fun _ => 0))), (q_26, .inl (cA_27, 2, .inl (fun _ => 0))), (q_29, .inl (cA_30, 2, .inl (fun _ => 0))), (q_32, .inl (cA_33, 2, .inl (fun _ => 0))), (q_35, .inl (cA_36, 2, .inl (fun _ => 0))), (q_86, .inl (cA_87, 12, .inl (fun _ => 0)))] H := hP
  have hD : va_D A [(h0, .inr (8, (fs_85.set 37 (.ref q_86)))), (q_1, .inl (cA_2, 1620, .inl (fun _ => 0))), (q_8, .inl (cA_9, 2, .inl (fun _ => 0))), (q_11, .inl (cA_12, 2, .inl (fun _ => 0))), (q_14, .inl (cA_15, 2, .inl (fun _ => 0))), (q_17, .inl (cA_18, 2, .inl (fun _ => 0))), (q_20, .inl (cA_21, 2, .inl (fun _ => 0))), (q_23, .inl (cA_24, 2, .inl (fun _ => 0))), (q_26, .inl (cA_27, 2, .inl (fun _ => 0))), (q_29, .inl (cA_30, 2, .inl (fun _ => 0))), (q_32, .inl (cA_33, 2, .inl (fun _ => 0))), (q_35, .inl (cA_36, 2, .inl (fun _ => 0))), (q_86, .inl (cA_87, 12, .inl (fun _ => 0)))] := hD
  generalize efs_88 : (fs_85.set 37 (.ref q_86)) = fs_88 at hP hD
  have lfs_88 : fs_88.length = 81 := by rw [← efs_88, List.length_set]; exact lfs_85
  have ffs_88_2 : fs_88[2]? = some (.int 0) := by rw [← efs_88]; exact p1_sn (by decide) ffs_85_2
  have ffs_88_3 : fs_88[3]? = some (.int 0) := by rw [← efs_88]; exact p1_sn (by decide) ffs_85_3
  have ffs_88_4 : fs_88[4]? = some (.int 0) := by rw [← efs_88]; exact p1_sn (by decide) ffs_85_4
  have ffs_88_43 : fs_88[43]? = some (.int 0) := by rw [← efs_88]; exact p1_sn (by decide) ffs_85_43
  have ffs_88_60 : fs_88[60]? = some (.int 0) := by rw [← efs_88]; exact p1_sn (by decide) ffs_85_60
  have ffs_88_75 : fs_88[75]? = some (.int 0) := by rw [← efs_88]; exact p1_sn (by decide) ffs_85_75
  have ffs_88_7 : fs_88[7]? = some (.int 0) := by rw [← efs_88]; exact p1_sn (by decide) ffs_85_7
  have ffs_88_76 : fs_88[76]? = some (.int 0) := by rw [← efs_88]; exact p1_sn (by decide) ffs_85_76
  have ffs_88_44 : fs_88[44]? = some (.int 0) := by rw [← efs_88]; exact p1_sn (by decide) ffs_85_44
  have ffs_88_0 : fs_88[0]? = some (.ref q_1) := by rw [← efs_88]; exact p1_sn (by decide) ffs_85_0
  have ffs_88_5 : fs_88[5]? = some (.int (-1)) := by rw [← efs_88]; exact p1_sn (by decide) ffs_85_5
  have ffs_88_11 : fs_88[11]? = some (.ref q_8) := by rw [← efs_88]; exact p1_sn (by decide) ffs_85_11
  have ffs_88_12 : fs_88[12]? = some (.ref q_11) := by rw [← efs_88]; exact p1_sn (by decide) ffs_85_12
  have ffs_88_13 : fs_88[13]? = some (.ref q_14) := by rw [← efs_88]; exact p1_sn (by decide) ffs_85_13
  have ffs_88_14 : fs_88[14]? = some (.ref q_17) := by rw [← efs_88]; exact p1_sn (by decide) ffs_85_14
  have ffs_88_15 : fs_88[15]? = some (.ref q_20) := by rw [← efs_88]; exact p1_sn (by decide) ffs_85_15
  have ffs_88_16 : fs_88[16]? = some (.ref q_23) := by rw [← efs_88]; exact p1_sn (by decide) ffs_85_16
  have ffs_88_17 : fs_88[17]? = some (.ref q_26) := by rw [← efs_88]; exact p1_sn (by decide) ffs_85_17
  have ffs_88_18 : fs_88[18]? = some (.ref q_29) := by rw [← efs_88]; exact p1_sn (by decide) ffs_85_18
  have ffs_88_19 : fs_88[19]? = some (.ref q_32) := by rw [← efs_88]; exact p1_sn (by decide) ffs_85_19
  have ffs_88_20 : fs_88[20]? = some (.ref q_35) := by rw [← efs_88]; exact p1_sn (by decide) ffs_85_20
  have ffs_88_37 : fs_88[37]? = some (.ref q_86) := by rw [← efs_88]; exact p1_sa lfs_85 (by decide)
  have hP := hP.sub (ws' := [(h0, .inr (8, fs_88)), (q_1, .inl (cA_2, 1620, .inl (fun _ => 0))), (q_8, .inl (cA_9, 2, .inl (fun _ => 0))), (q_11, .inl (cA_12, 2, .inl (fun _ => 0))), (q_14, .inl (cA_15, 2, .inl (fun _ => 0))), (q_17, .inl (cA_18, 2, .inl (fun _ => 0))), (q_20, .inl (cA_21, 2, .inl (fun _ => 0))), (q_23, .inl (cA_24, 2, .inl (fun _ => 0))), (q_26, .inl (cA_27, 2, .inl (fun _ => 0))), (q_29, .inl (cA_30, 2, .inl (fun _ => 0))), (q_32, .inl (cA_33, 2, .inl (fun _ => 0))), (q_35, .inl (cA_36, 2, .inl (fun _ => 0)))]) [0, 1, 2, 3, 4, 5, 6, 7, 8, 9, 10, 11] rfl
  have hD := hD.sub (ws' := [(h0, .inr (8, fs_88)), (q_1, .inl (cA_2, 1620, .inl (fun _ => 0))), (q_8, .inl (cA_9, 2, .inl (fun _ => 0))), (q_11, .inl (cA_12, 2, .inl (fun _ => 0))), (q_14, .inl (cA_15, 2, .inl (fun _ => 0))), (q_17, .inl (cA_18, 2, .inl (fun _ => 0))), (q_20, .inl (cA_21, 2, .inl (fun _ => 0))), (q_23, .inl (cA_24, 2, .inl (fun _ => 0))), (q_26, .inl (cA_27, 2, .inl (fun _ => 0))), (q_29, .inl (cA_30, 2, .inl (fun _ => 0))), (q_32, .inl (cA_33, 2, .inl (fun _ => 0))), (q_35, .inl (cA_36, 2, .inl (fun _ => 0)))]) [0, 1, 2, 3, 4, 5, 6, 7, 8, 9, 10, 11] (by decide) rfl
  have hK := hK.sub (tys' := [(cA_2, .byte), (cA_9, .int), (cA_12, .int), (cA_15, .int), (cA_18, .int), (cA_21, .int), (cA_24, .int), (cA_27, .int), (cA_30, .int), (cA_33, .boolean), (cA_36, .boolean)]) [0, 1, 2, 3, 4, 5, 6, 7, 8, 9, 10] rfl
  refine lv_aload_n hx hb dX9_init_233 rfl (lv_at hl 0 rfl) ?_
  refine lv_sipush (v := 1800) hx hb dX9_init_234 (by decide) ?_
  refine va_newa (atype := .int) (ty := .int) (N' := 1800) (a0 := (1800, .inl (fun _ => 0))) hx hb k_7 rfl hK hP hD hS hA (fun _ => rfl) (by decide) rfl (by decide) (by decide) (by decide) dX9_init_237 (fun q_89 cA_90 H hK hP hD hS => ?_)
  have hP : va_P (dC, dI) vwCl [(h0, .inr (8, fs_88)), (q_1, .inl (cA_2, 1620, .inl (fun _ => 0))), (q_8, .inl (cA_9, 2, .inl (fun _ => 0))), (q_11, .inl (cA_12, 2, .inl (fun _ => 0))), (q_14, .inl (cA_15, 2, .inl (fun _ => 0))), (q_17, .inl (cA_18, 2, .inl (fun _ => 0))), (q_20, .inl (cA_21, 2, .inl (fun _ => 0))), (q_23, .inl (cA_24, 2, .inl (fun _ => 0))), (q_26, .inl (cA_27, 2, .inl (fun _ => 0))), (q_29, .inl (cA_30, 2, .inl (fun _ => 0))), (q_32, .inl (cA_33, 2, .inl (fun _ => 0))), (q_35, .inl (cA_36, 2, .inl (fun _ => 0))), (q_89, .inl (cA_90, 1800, .inl (fun _ => 0)))] H := hP
  have hD : va_D A [(h0, .inr (8, fs_88)), (q_1, .inl (cA_2, 1620, .inl (fun _ => 0))), (q_8, .inl (cA_9, 2, .inl (fun _ => 0))), (q_11, .inl (cA_12, 2, .inl (fun _ => 0))), (q_14, .inl (cA_15, 2, .inl (fun _ => 0))), (q_17, .inl (cA_18, 2, .inl (fun _ => 0))), (q_20, .inl (cA_21, 2, .inl (fun _ => 0))), (q_23, .inl (cA_24, 2, .inl (fun _ => 0))), (q_26, .inl (cA_27, 2, .inl (fun _ => 0))), (q_29, .inl (cA_30, 2, .inl (fun _ => 0))), (q_32, .inl (cA_33, 2, .inl (fun _ => 0))), (q_35, .inl (cA_36, 2, .inl (fun _ => 0))), (q_89, .inl (cA_90, 1800, .inl (fun _ => 0)))] := hD
  have hK : va_K (dC, dI) vwCl [(cA_2, .byte), (cA_9, .int), (cA_12, .int), (cA_15, .int), (cA_18, .int), (cA_21, .int), (cA_24, .int), (cA_27, .int), (cA_30, .int), (cA_33, .boolean), (cA_36, .boolean), (cA_90, .int)] s := hK
  refine W.widen (k := 30) (n := 5306) (by decide) (by decide) ?_
  refine va_putF (D := (dC, dI)) (ci := 8) (v := .ref q_89) (ty := .array .int) (C := RX9) (T := TX9) (N := 81) hx hb hts i_X9 tyX9 tyX9_ok nmX9 hown hK hP hD hS 0 rfl rfl 38 (by decide) k_37 (fun _ h9 => h9) rfl hin rfl (by decide +kernel) rfl rfl (by rw [lfs_88]; decide) dX9_init_239 (fun H locs hP hD hS => ?_)
  have hP : va_P (dC, dI) vwCl [(h0, .inr (8, (fs_88.set 38 (.ref q_89)))), (q_1, .inl (cA_2, 1620, .inl (fun _ => 0))), (q_8, .inl (cA_9, 2, .inl (fun _ => 0))), (q_11, .inl (cA_12, 2, .inl (fun _ => 0))), (q_14, .inl (cA_15, 2, .inl (fun _ => 0))), (q_17, .inl (cA_18, 2, .inl (fun _ => 0))), (q_20, .inl (cA_21, 2, .inl (fun _ => 0))), (q_23, .inl (cA_24, 2, .inl (fun _ => 0))), (q_26, .inl (cA_27, 2, .inl (fun _ => 0))), (q_29, .inl (cA_30, 2, .inl (fun _ => 0))), (q_32, .inl (cA_33, 2, .inl (fun _ => 0))), (q_35, .inl (cA_36, 2, .inl (fun _ => 0))), (q_89, .inl (cA_90, 1800, .inl (fun _ => 0)))] H := hP
  have hD : va_D A [(h0, .inr (8, (fs_88.set 38 (.ref q_89)))), (q_1, .inl (cA_2, 1620, .inl (fun _ => 0))), (q_8, .inl (cA_9, 2, .inl (fun _ => 0))), (q_11, .inl (cA_12, 2, .inl (fun _ => 0))), (q_14, .inl (cA_15, 2, .inl (fun _ => 0))), (q_17, .inl (cA_18, 2, .inl (fun _ => 0))), (q_20, .inl (cA_21, 2, .inl (fun _ => 0))), (q_23, .inl (cA_24, 2, .inl (fun _ => 0))), (q_26, .inl (cA_27, 2, .inl (fun _ => 0))), (q_29, .inl (cA_30, 2, .inl (fun _ => 0))), (q_32, .inl (cA_33, 2, .inl (fun _ => 0))), (q_35, .inl (cA_36, 2, .inl (fun _ => 0))), (q_89, .inl (cA_90, 1800, .inl (fun _ => 0)))] := hD
  generalize efs_91 : (fs_88.set 38 (.ref q_89)) = fs_91 at hP hD
  have lfs_91 : fs_91.length = 81 := by rw [← efs_91, List.length_set]; exact lfs_88
  have ffs_91_2 : fs_91[2]? = some (.int 0) := by rw [← efs_91]; exact p1_sn (by decide) ffs_88_2
  have ffs_91_3 : fs_91[3]? = some (.int 0) := by rw [← efs_91]; exact p1_sn (by decide) ffs_88_3
  have ffs_91_4 : fs_91[4]? = some (.int 0) := by rw [← efs_91]; exact p1_sn (by decide) ffs_88_4
  have ffs_91_43 : fs_91[43]? = some (.int 0) := by rw [← efs_91]; exact p1_sn (by decide) ffs_88_43
  have ffs_91_60 : fs_91[60]? = some (.int 0) := by rw [← efs_91]; exact p1_sn (by decide) ffs_88_60
  have ffs_91_75 : fs_91[75]? = some (.int 0) := by rw [← efs_91]; exact p1_sn (by decide) ffs_88_75
  have ffs_91_7 : fs_91[7]? = some (.int 0) := by rw [← efs_91]; exact p1_sn (by decide) ffs_88_7
  have ffs_91_76 : fs_91[76]? = some (.int 0) := by rw [← efs_91]; exact p1_sn (by decide) ffs_88_76
  have ffs_91_44 : fs_91[44]? = some (.int 0) := by rw [← efs_91]; exact p1_sn (by decide) ffs_88_44
  have ffs_91_0 : fs_91[0]? = some (.ref q_1) := by rw [← efs_91]; exact p1_sn (by decide) ffs_88_0
  have ffs_91_5 : fs_91[5]? = some (.int (-1)) := by rw [← efs_91]; exact p1_sn (by decide) ffs_88_5
  have ffs_91_11 : fs_91[11]? = some (.ref q_8) := by rw [← efs_91]; exact p1_sn (by decide) ffs_88_11
  have ffs_91_12 : fs_91[12]? = some (.ref q_11) := by rw [← efs_91]; exact p1_sn (by decide) ffs_88_12
  have ffs_91_13 : fs_91[13]? = some (.ref q_14) := by rw [← efs_91]; exact p1_sn (by decide) ffs_88_13
  have ffs_91_14 : fs_91[14]? = some (.ref q_17) := by rw [← efs_91]; exact p1_sn (by decide) ffs_88_14
  have ffs_91_15 : fs_91[15]? = some (.ref q_20) := by rw [← efs_91]; exact p1_sn (by decide) ffs_88_15
  have ffs_91_16 : fs_91[16]? = some (.ref q_23) := by rw [← efs_91]; exact p1_sn (by decide) ffs_88_16
  have ffs_91_17 : fs_91[17]? = some (.ref q_26) := by rw [← efs_91]; exact p1_sn (by decide) ffs_88_17
  have ffs_91_18 : fs_91[18]? = some (.ref q_29) := by rw [← efs_91]; exact p1_sn (by decide) ffs_88_18
  have ffs_91_19 : fs_91[19]? = some (.ref q_32) := by rw [← efs_91]; exact p1_sn (by decide) ffs_88_19
  have ffs_91_20 : fs_91[20]? = some (.ref q_35) := by rw [← efs_91]; exact p1_sn (by decide) ffs_88_20
  have ffs_91_38 : fs_91[38]? = some (.ref q_89) := by rw [← efs_91]; exact p1_sa lfs_88 (by decide)
  have hP := hP.sub (ws' := [(h0, .inr (8, fs_91)), (q_1, .inl (cA_2, 1620, .inl (fun _ => 0))), (q_8, .inl (cA_9, 2, .inl (fun _ => 0))), (q_11, .inl (cA_12, 2, .inl (fun _ => 0))), (q_14, .inl (cA_15, 2, .inl (fun _ => 0))), (q_17, .inl (cA_18, 2, .inl (fun _ => 0))), (q_20, .inl (cA_21, 2, .inl (fun _ => 0))), (q_23, .inl (cA_24, 2, .inl (fun _ => 0))), (q_26, .inl (cA_27, 2, .inl (fun _ => 0))), (q_29, .inl (cA_30, 2, .inl (fun _ => 0))), (q_32, .inl (cA_33, 2, .inl (fun _ => 0))), (q_35, .inl (cA_36, 2, .inl (fun _ => 0)))]) [0, 1, 2, 3, 4, 5, 6, 7, 8, 9, 10, 11] rfl
  have hD := hD.sub (ws' := [(h0, .inr (8, fs_91)), (q_1, .inl (cA_2, 1620, .inl (fun _ => 0))), (q_8, .inl (cA_9, 2, .inl (fun _ => 0))), (q_11, .inl (cA_12, 2, .inl (fun _ => 0))), (q_14, .inl (cA_15, 2, .inl (fun _ => 0))), (q_17, .inl (cA_18, 2, .inl (fun _ => 0))), (q_20, .inl (cA_21, 2, .inl (fun _ => 0))), (q_23, .inl (cA_24, 2, .inl (fun _ => 0))), (q_26, .inl (cA_27, 2, .inl (fun _ => 0))), (q_29, .inl (cA_30, 2, .inl (fun _ => 0))), (q_32, .inl (cA_33, 2, .inl (fun _ => 0))), (q_35, .inl (cA_36, 2, .inl (fun _ => 0)))]) [0, 1, 2, 3, 4, 5, 6, 7, 8, 9, 10, 11] (by decide) rfl
  have hK := hK.sub (tys' := [(cA_2, .byte), (cA_9, .int), (cA_12, .int), (cA_15, .int), (cA_18, .int), (cA_21, .int), (cA_24, .int), (cA_27, .int), (cA_30, .int), (cA_33, .boolean), (cA_36, .boolean)]) [0, 1, 2, 3, 4, 5, 6, 7, 8, 9, 10] rfl
  refine lv_aload_n hx hb dX9_init_242 rfl (lv_at hl 0 rfl) ?_
  refine lv_sipush (v := 1800) hx hb dX9_init_243 (by decide) ?_
  refine va_newa (atype := .int) (ty := .int) (N' := 1800) (a0 := (1800, .inl (fun _ => 0))) hx hb k_7 rfl hK hP hD hS hA (fun _ => rfl) (by decide) rfl (by decide) (by decide) (by decide) dX9_init_246 (fun q_92 cA_93 H hK hP hD hS => ?_)
  have hP : va_P (dC, dI) vwCl [(h0, .inr (8, fs_91)), (q_1, .inl (cA_2, 1620, .inl (fun _ => 0))), (q_8, .inl (cA_9, 2, .inl (fun _ => 0))), (q_11, .inl (cA_12, 2, .inl (fun _ => 0))), (q_14, .inl (cA_15, 2, .inl (fun _ => 0))), (q_17, .inl (cA_18, 2, .inl (fun _ => 0))), (q_20, .inl (cA_21, 2, .inl (fun _ => 0))), (q_23, .inl (cA_24, 2, .inl (fun _ => 0))), (q_26, .inl (cA_27, 2, .inl (fun _ => 0))), (q_29, .inl (cA_30, 2, .inl (fun _ => 0))), (q_32, .inl (cA_33, 2, .inl (fun _ => 0))), (q_35, .inl (cA_36, 2, .inl (fun _ => 0))), (q_92, .inl (cA_93, 1800, .inl (fun _ => 0)))] H := hP
  have hD : va_D A [(h0, .inr (8, fs_91)), (q_1, .inl (cA_2, 1620, .inl (fun _ => 0))), (q_8, .inl (cA_9, 2, .inl (fun _ => 0))), (q_11, .inl (cA_12, 2, .inl (fun _ => 0))), (q_14, .inl (cA_15, 2, .inl (fun _ => 0))), (q_17, .inl (cA_18, 2, .inl (fun _ => 0))), (q_20, .inl (cA_21, 2, .inl (fun _ => 0))), (q_23, .inl (cA_24, 2, .inl (fun _ => 0))), (q_26, .inl (cA_27, 2, .inl (fun _ => 0))), (q_29, .inl (cA_30, 2, .inl (fun _ => 0))), (q_32, .inl (cA_33, 2, .inl (fun _ => 0))), (q_35, .inl (cA_36, 2, .inl (fun _ => 0))), (q_92, .inl (cA_93, 1800, .inl (fun _ => 0)))] := hD
  have hK : va_K (dC, dI) vwCl [(cA_2, .byte), (cA_9, .int), (cA_12, .int), (cA_15, .int), (cA_18, .int), (cA_21, .int), (cA_24, .int), (cA_27, .int), (cA_30, .int), (cA_33, .boolean), (cA_36, .boolean), (cA_93, .int)] s := hK
  refine W.widen (k := 31) (n := 7106) (by decide) (by decide) ?_
  refine va_putF (D := (dC, dI)) (ci := 8) (v := .ref q_92) (ty := .array .int) (C := RX9) (T := TX9) (N := 81) hx hb hts i_X9 tyX9 tyX9_ok nmX9 hown hK hP hD hS 0 rfl rfl 39 (by decide) k_38 (fun _ h9 => h9) rfl hin rfl (by decide +kernel) rfl rfl (by rw [lfs_91]; decide) dX9_init_248 (fun H locs hP hD hS => ?_)
  have hP : va_P (dC, dI) vwCl [(h0, .inr (8, (fs_91.set 39 (.ref q_92)))), (q_1, .inl (cA_2, 1620, .inl (fun _ => 0))), (q_8, .inl (cA_9, 2, .inl (fun _ => 0))), (q_11, .inl (cA_12, 2, .inl (fun _ => 0))), (q_14, .inl (cA_15, 2, .inl (fun _ => 0))), (q_17, .inl (cA_18, 2, .inl (fun _ => 0))), (q_20, .inl (cA_21, 2, .inl (fun _ => 0))), (q_23, .inl (cA_24, 2, .inl (fun _ => 0))), (q_26, .inl (cA_27, 2, .inl (fun _ => 0))), (q_29, .inl (cA_30, 2, .inl (fun _ => 0))), (q_32, .inl (cA_33, 2, .inl (fun _ => 0))), (q_35, .inl (cA_36, 2, .inl (fun _ => 0))), (q_92, .inl (cA_93, 1800, .inl (fun _ => 0)))] H := hP
  have hD : va_D A [(h0, .inr (8, (fs_91.set 39 (.ref q_92)))), (q_1, .inl (cA_2, 1620, .inl (fun _ => 0))), (q_8, .inl (cA_9, 2, .inl (fun _ => 0))), (q_11, .inl (cA_12, 2, .inl (fun _ => 0))), (q_14, .inl (cA_15, 2, .inl (fun _ => 0))), (q_17, .inl (cA_18, 2, .inl (fun _ => 0))), (q_20, .inl (cA_21, 2, .inl (fun _ => 0))), (q_23, .inl (cA_24, 2, .inl (fun _ => 0))), (q_26, .inl (cA_27, 2, .inl (fun _ => 0))), (q_29, .inl (cA_30, 2, .inl (fun _ => 0))), (q_32, .inl (cA_33, 2, .inl (fun _ => 0))), (q_35, .inl (cA_36, 2, .inl (fun _ => 0))), (q_92, .inl (cA_93, 1800, .inl (fun _ => 0)))] := hD
  generalize efs_94 : (fs_91.set 39 (.ref q_92)) = fs_94 at hP hD
  have lfs_94 : fs_94.length = 81 := by rw [← efs_94, List.length_set]; exact lfs_91
  have ffs_94_2 : fs_94[2]? = some (.int 0) := by rw [← efs_94]; exact p1_sn (by decide) ffs_91_2
  have ffs_94_3 : fs_94[3]? = some (.int 0) := by rw [← efs_94]; exact p1_sn (by decide) ffs_91_3
  have ffs_94_4 : fs_94[4]? = some (.int 0) := by rw [← efs_94]; exact p1_sn (by decide) ffs_91_4
  have ffs_94_43 : fs_94[43]? = some (.int 0) := by rw [← efs_94]; exact p1_sn (by decide) ffs_91_43
  have ffs_94_60 : fs_94[60]? = some (.int 0) := by rw [← efs_94]; exact p1_sn (by decide) ffs_91_60
  have ffs_94_75 : fs_94[75]? = some (.int 0) := by rw [← efs_94]; exact p1_sn (by decide) ffs_91_75
  have ffs_94_7 : fs_94[7]? = some (.int 0) := by rw [← efs_94]; exact p1_sn (by decide) ffs_91_7
  have ffs_94_76 : fs_94[76]? = some (.int 0) := by rw [← efs_94]; exact p1_sn (by decide) ffs_91_76
  have ffs_94_44 : fs_94[44]? = some (.int 0) := by rw [← efs_94]; exact p1_sn (by decide) ffs_91_44
  have ffs_94_0 : fs_94[0]? = some (.ref q_1) := by rw [← efs_94]; exact p1_sn (by decide) ffs_91_0
  have ffs_94_5 : fs_94[5]? = some (.int (-1)) := by rw [← efs_94]; exact p1_sn (by decide) ffs_91_5
  have ffs_94_11 : fs_94[11]? = some (.ref q_8) := by rw [← efs_94]; exact p1_sn (by decide) ffs_91_11
  have ffs_94_12 : fs_94[12]? = some (.ref q_11) := by rw [← efs_94]; exact p1_sn (by decide) ffs_91_12
  have ffs_94_13 : fs_94[13]? = some (.ref q_14) := by rw [← efs_94]; exact p1_sn (by decide) ffs_91_13
  have ffs_94_14 : fs_94[14]? = some (.ref q_17) := by rw [← efs_94]; exact p1_sn (by decide) ffs_91_14
  have ffs_94_15 : fs_94[15]? = some (.ref q_20) := by rw [← efs_94]; exact p1_sn (by decide) ffs_91_15
  have ffs_94_16 : fs_94[16]? = some (.ref q_23) := by rw [← efs_94]; exact p1_sn (by decide) ffs_91_16
  have ffs_94_17 : fs_94[17]? = some (.ref q_26) := by rw [← efs_94]; exact p1_sn (by decide) ffs_91_17
  have ffs_94_18 : fs_94[18]? = some (.ref q_29) := by rw [← efs_94]; exact p1_sn (by decide) ffs_91_18
  have ffs_94_19 : fs_94[19]? = some (.ref q_32) := by rw [← efs_94]; exact p1_sn (by decide) ffs_91_19
  have ffs_94_20 : fs_94[20]? = some (.ref q_35) := by rw [← efs_94]; exact p1_sn (by decide) ffs_91_20
  have ffs_94_39 : fs_94[39]? = some (.ref q_92) := by rw [← efs_94]; exact p1_sa lfs_91 (by decide)
  have hP := hP.sub (ws' := [(h0, .inr (8, fs_94)), (q_1, .inl (cA_2, 1620, .inl (fun _ => 0))), (q_8, .inl (cA_9, 2, .inl (fun _ => 0))), (q_11, .inl (cA_12, 2, .inl (fun _ => 0))), (q_14, .inl (cA_15, 2, .inl (fun _ => 0))), (q_17, .inl (cA_18, 2, .inl (fun _ => 0))), (q_20, .inl (cA_21, 2, .inl (fun _ => 0))), (q_23, .inl (cA_24, 2, .inl (fun _ => 0))), (q_26, .inl (cA_27, 2, .inl (fun _ => 0))), (q_29, .inl (cA_30, 2, .inl (fun _ => 0))), (q_32, .inl (cA_33, 2, .inl (fun _ => 0))), (q_35, .inl (cA_36, 2, .inl (fun _ => 0)))]) [0, 1, 2, 3, 4, 5, 6, 7, 8, 9, 10, 11] rfl
  have hD := hD.sub (ws' := [(h0, .inr (8, fs_94)), (q_1, .inl (cA_2, 1620, .inl (fun _ => 0))), (q_8, .inl (cA_9, 2, .inl (fun _ => 0))), (q_11, .inl (cA_12, 2, .inl (fun _ => 0))), (q_14, .inl (cA_15, 2, .inl (fun _ => 0))), (q_17, .inl (cA_18, 2, .inl (fun _ => 0))), (q_20, .inl (cA_21, 2, .inl (fun _ => 0))), (q_23, .inl (cA_24, 2, .inl (fun _ => 0))), (q_26, .inl (cA_27, 2, .inl (fun _ => 0))), (q_29, .inl (cA_30, 2, .inl (fun _ => 0))), (q_32, .inl (cA_33, 2, .inl (fun _ => 0))), (q_35, .inl (cA_36, 2, .inl (fun _ => 0)))]) [0, 1, 2, 3, 4, 5, 6, 7, 8, 9, 10, 11] (by decide) rfl
  have hK := hK.sub (tys' := [(cA_2, .byte), (cA_9, .int), (cA_12, .int), (cA_15, .int), (cA_18, .int), (cA_21, .int), (cA_24, .int), (cA_27, .int), (cA_30, .int), (cA_33, .boolean), (cA_36, .boolean)]) [0, 1, 2, 3, 4, 5, 6, 7, 8, 9, 10] rfl
  refine lv_aload_n hx hb dX9_init_251 rfl (lv_at hl 0 rfl) ?_
  refine lv_bipush (v := 120) hx hb dX9_init_252 (by decide) ?_
  refine va_newa (atype := .int) (ty := .int) (N' := 120) (a0 := (120, .inl (fun _ => 0))) hx hb k_7 rfl hK hP hD hS hA (fun _ => rfl) (by decide) rfl (by decide) (by decide) (by decide) dX9_init_254 (fun q_95 cA_96 H hK hP hD hS => ?_)
  have hP : va_P (dC, dI) vwCl [(h0, .inr (8, fs_94)), (q_1, .inl (cA_2, 1620, .inl (fun _ => 0))), (q_8, .inl (cA_9, 2, .inl (fun _ => 0))), (q_11, .inl (cA_12, 2, .inl (fun _ => 0))), (q_14, .inl (cA_15, 2, .inl (fun _ => 0))), (q_17, .inl (cA_18, 2, .inl (fun _ => 0))), (q_20, .inl (cA_21, 2, .inl (fun _ => 0))), (q_23, .inl (cA_24, 2, .inl (fun _ => 0))), (q_26, .inl (cA_27, 2, .inl (fun _ => 0))), (q_29, .inl (cA_30, 2, .inl (fun _ => 0))), (q_32, .inl (cA_33, 2, .inl (fun _ => 0))), (q_35, .inl (cA_36, 2, .inl (fun _ => 0))), (q_95, .inl (cA_96, 120, .inl (fun _ => 0)))] H := hP
  have hD : va_D A [(h0, .inr (8, fs_94)), (q_1, .inl (cA_2, 1620, .inl (fun _ => 0))), (q_8, .inl (cA_9, 2, .inl (fun _ => 0))), (q_11, .inl (cA_12, 2, .inl (fun _ => 0))), (q_14, .inl (cA_15, 2, .inl (fun _ => 0))), (q_17, .inl (cA_18, 2, .inl (fun _ => 0))), (q_20, .inl (cA_21, 2, .inl (fun _ => 0))), (q_23, .inl (cA_24, 2, .inl (fun _ => 0))), (q_26, .inl (cA_27, 2, .inl (fun _ => 0))), (q_29, .inl (cA_30, 2, .inl (fun _ => 0))), (q_32, .inl (cA_33, 2, .inl (fun _ => 0))), (q_35, .inl (cA_36, 2, .inl (fun _ => 0))), (q_95, .inl (cA_96, 120, .inl (fun _ => 0)))] := hD
  have hK : va_K (dC, dI) vwCl [(cA_2, .byte), (cA_9, .int), (cA_12, .int), (cA_15, .int), (cA_18, .int), (cA_21, .int), (cA_24, .int), (cA_27, .int), (cA_30, .int), (cA_33, .boolean), (cA_36, .boolean), (cA_96, .int)] s := hK
  refine W.widen (k := 32) (n := 7226) (by decide) (by decide) ?_
  refine va_putF (D := (dC, dI)) (ci := 8) (v := .ref q_95) (ty := .array .int) (C := RX9) (T := TX9) (N := 81) hx hb hts i_X9 tyX9 tyX9_ok nmX9 hown hK hP hD hS 0 rfl rfl 40 (by decide) k_39 (fun _ h9 => h9) rfl hin rfl (by decide +kernel) rfl rfl (by rw [lfs_94]; decide) dX9_init_256 (fun H locs hP hD hS => ?_)
  have hP : va_P (dC, dI) vwCl [(h0, .inr (8, (fs_94.set 40 (.ref q_95)))), (q_1, .inl (cA_2, 1620, .inl (fun _ => 0))), (q_8, .inl (cA_9, 2, .inl (fun _ => 0))), (q_11, .inl (cA_12, 2, .inl (fun _ => 0))), (q_14, .inl (cA_15, 2, .inl (fun _ => 0))), (q_17, .inl (cA_18, 2, .inl (fun _ => 0))), (q_20, .inl (cA_21, 2, .inl (fun _ => 0))), (q_23, .inl (cA_24, 2, .inl (fun _ => 0))), (q_26, .inl (cA_27, 2, .inl (fun _ => 0))), (q_29, .inl (cA_30, 2, .inl (fun _ => 0))), (q_32, .inl (cA_33, 2, .inl (fun _ => 0))), (q_35, .inl (cA_36, 2, .inl (fun _ => 0))), (q_95, .inl (cA_96, 120, .inl (fun _ => 0)))] H := hP
  have hD : va_D A [(h0, .inr (8, (fs_94.set 40 (.ref q_95)))), (q_1, .inl (cA_2, 1620, .inl (fun _ => 0))), (q_8, .inl (cA_9, 2, .inl (fun _ => 0))), (q_11, .inl (cA_12, 2, .inl (fun _ => 0))), (q_14, .inl (cA_15, 2, .inl (fun _ => 0))), (q_17, .inl (cA_18, 2, .inl (fun _ => 0))), (q_20, .inl (cA_21, 2, .inl (fun _ => 0))), (q_23, .inl (cA_24, 2, .inl (fun _ => 0))), (q_26, .inl (cA_27, 2, .inl (fun _ => 0))), (q_29, .inl (cA_30, 2, .inl (fun _ => 0))), (q_32, .inl (cA_33, 2, .inl (fun _ => 0))), (q_35, .inl (cA_36, 2, .inl (fun _ => 0))), (q_95, .inl (cA_96, 120, .inl (fun _ => 0)))] := hD
  generalize efs_97 : (fs_94.set 40 (.ref q_95)) = fs_97 at hP hD
  have lfs_97 : fs_97.length = 81 := by rw [← efs_97, List.length_set]; exact lfs_94
  have ffs_97_2 : fs_97[2]? = some (.int 0) := by rw [← efs_97]; exact p1_sn (by decide) ffs_94_2
  have ffs_97_3 : fs_97[3]? = some (.int 0) := by rw [← efs_97]; exact p1_sn (by decide) ffs_94_3
  have ffs_97_4 : fs_97[4]? = some (.int 0) := by rw [← efs_97]; exact p1_sn (by decide) ffs_94_4
  have ffs_97_43 : fs_97[43]? = some (.int 0) := by rw [← efs_97]; exact p1_sn (by decide) ffs_94_43
  have ffs_97_60 : fs_97[60]? = some (.int 0) := by rw [← efs_97]; exact p1_sn (by decide) ffs_94_60
  have ffs_97_75 : fs_97[75]? = some (.int 0) := by rw [← efs_97]; exact p1_sn (by decide) ffs_94_75
  have ffs_97_7 : fs_97[7]? = some (.int 0) := by rw [← efs_97]; exact p1_sn (by decide) ffs_94_7
  have ffs_97_76 : fs_97[76]? = some (.int 0) := by rw [← efs_97]; exact p1_sn (by decide) ffs_94_76
  have ffs_97_44 : fs_97[44]? = some (.int 0) := by rw [← efs_97]; exact p1_sn (by decide) ffs_94_44
  have ffs_97_0 : fs_97[0]? = some (.ref q_1) := by rw [← efs_97]; exact p1_sn (by decide) ffs_94_0
  have ffs_97_5 : fs_97[5]? = some (.int (-1)) := by rw [← efs_97]; exact p1_sn (by decide) ffs_94_5
  have ffs_97_11 : fs_97[11]? = some (.ref q_8) := by rw [← efs_97]; exact p1_sn (by decide) ffs_94_11
  have ffs_97_12 : fs_97[12]? = some (.ref q_11) := by rw [← efs_97]; exact p1_sn (by decide) ffs_94_12
  have ffs_97_13 : fs_97[13]? = some (.ref q_14) := by rw [← efs_97]; exact p1_sn (by decide) ffs_94_13
  have ffs_97_14 : fs_97[14]? = some (.ref q_17) := by rw [← efs_97]; exact p1_sn (by decide) ffs_94_14
  have ffs_97_15 : fs_97[15]? = some (.ref q_20) := by rw [← efs_97]; exact p1_sn (by decide) ffs_94_15
  have ffs_97_16 : fs_97[16]? = some (.ref q_23) := by rw [← efs_97]; exact p1_sn (by decide) ffs_94_16
  have ffs_97_17 : fs_97[17]? = some (.ref q_26) := by rw [← efs_97]; exact p1_sn (by decide) ffs_94_17
  have ffs_97_18 : fs_97[18]? = some (.ref q_29) := by rw [← efs_97]; exact p1_sn (by decide) ffs_94_18
  have ffs_97_19 : fs_97[19]? = some (.ref q_32) := by rw [← efs_97]; exact p1_sn (by decide) ffs_94_19
  have ffs_97_20 : fs_97[20]? = some (.ref q_35) := by rw [← efs_97]; exact p1_sn (by decide) ffs_94_20
  have ffs_97_40 : fs_97[40]? = some (.ref q_95) := by rw [← efs_97]; exact p1_sa lfs_94 (by decide)
  have hP := hP.sub (ws' := [(h0, .inr (8, fs_97)), (q_1, .inl (cA_2, 1620, .inl (fun _ => 0))), (q_8, .inl (cA_9, 2, .inl (fun _ => 0))), (q_11, .inl (cA_12, 2, .inl (fun _ => 0))), (q_14, .inl (cA_15, 2, .inl (fun _ => 0))), (q_17, .inl (cA_18, 2, .inl (fun _ => 0))), (q_20, .inl (cA_21, 2, .inl (fun _ => 0))), (q_23, .inl (cA_24, 2, .inl (fun _ => 0))), (q_26, .inl (cA_27, 2, .inl (fun _ => 0))), (q_29, .inl (cA_30, 2, .inl (fun _ => 0))), (q_32, .inl (cA_33, 2, .inl (fun _ => 0))), (q_35, .inl (cA_36, 2, .inl (fun _ => 0)))]) [0, 1, 2, 3, 4, 5, 6, 7, 8, 9, 10, 11] rfl
  have hD := hD.sub (ws' := [(h0, .inr (8, fs_97)), (q_1, .inl (cA_2, 1620, .inl (fun _ => 0))), (q_8, .inl (cA_9, 2, .inl (fun _ => 0))), (q_11, .inl (cA_12, 2, .inl (fun _ => 0))), (q_14, .inl (cA_15, 2, .inl (fun _ => 0))), (q_17, .inl (cA_18, 2, .inl (fun _ => 0))), (q_20, .inl (cA_21, 2, .inl (fun _ => 0))), (q_23, .inl (cA_24, 2, .inl (fun _ => 0))), (q_26, .inl (cA_27, 2, .inl (fun _ => 0))), (q_29, .inl (cA_30, 2, .inl (fun _ => 0))), (q_32, .inl (cA_33, 2, .inl (fun _ => 0))), (q_35, .inl (cA_36, 2, .inl (fun _ => 0)))]) [0, 1, 2, 3, 4, 5, 6, 7, 8, 9, 10, 11] (by decide) rfl
  have hK := hK.sub (tys' := [(cA_2, .byte), (cA_9, .int), (cA_12, .int), (cA_15, .int), (cA_18, .int), (cA_21, .int), (cA_24, .int), (cA_27, .int), (cA_30, .int), (cA_33, .boolean), (cA_36, .boolean)]) [0, 1, 2, 3, 4, 5, 6, 7, 8, 9, 10] rfl
  refine lv_aload_n hx hb dX9_init_259 rfl (lv_at hl 0 rfl) ?_
  refine lv_bipush (v := 120) hx hb dX9_init_260 (by decide) ?_
  refine va_newa (atype := .int) (ty := .int) (N' := 120) (a0 := (120, .inl (fun _ => 0))) hx hb k_7 rfl hK hP hD hS hA (fun _ => rfl) (by decide) rfl (by decide) (by decide) (by decide) dX9_init_262 (fun q_98 cA_99 H hK hP hD hS => ?_)
  have hP : va_P (dC, dI) vwCl [(h0, .inr (8, fs_97)), (q_1, .inl (cA_2, 1620, .inl (fun _ => 0))), (q_8, .inl (cA_9, 2, .inl (fun _ => 0))), (q_11, .inl (cA_12, 2, .inl (fun _ => 0))), (q_14, .inl (cA_15, 2, .inl (fun _ => 0))), (q_17, .inl (cA_18, 2, .inl (fun _ => 0))), (q_20, .inl (cA_21, 2, .inl (fun _ => 0))), (q_23, .inl (cA_24, 2, .inl (fun _ => 0))), (q_26, .inl (cA_27, 2, .inl (fun _ => 0))), (q_29, .inl (cA_30, 2, .inl (fun _ => 0))), (q_32, .inl (cA_33, 2, .inl (fun _ => 0))), (q_35, .inl (cA_36, 2, .inl (fun _ => 0))), (q_98, .inl (cA_99, 120, .inl (fun _ => 0)))] H := hP
  have hD : va_D A [(h0, .inr (8, fs_97)), (q_1, .inl (cA_2, 1620, .inl (fun _ => 0))), (q_8, .inl (cA_9, 2, .inl (fun _ => 0))), (q_11, .inl (cA_12, 2, .inl (fun _ => 0))), (q_14, .inl (cA_15, 2, .inl (fun _ => 0))), (q_17, .inl (cA_18, 2, .inl (fun _ => 0))), (q_20, .inl (cA_21, 2, .inl (fun _ => 0))), (q_23, .inl (cA_24, 2, .inl (fun _ => 0))), (q_26, .inl (cA_27, 2, .inl (fun _ => 0))), (q_29, .inl (cA_30, 2, .inl (fun _ => 0))), (q_32, .inl (cA_33, 2, .inl (fun _ => 0))), (q_35, .inl (cA_36, 2, .inl (fun _ => 0))), (q_98, .inl (cA_99, 120, .inl (fun _ => 0)))] := hD
  have hK : va_K (dC, dI) vwCl [(cA_2, .byte), (cA_9, .int), (cA_12, .int), (cA_15, .int), (cA_18, .int), (cA_21, .int), (cA_24, .int), (cA_27, .int), (cA_30, .int), (cA_33, .boolean), (cA_36, .boolean), (cA_99, .int)] s := hK
  refine W.widen (k := 33) (n := 7346) (by decide) (by decide) ?_
  refine va_putF (D := (dC, dI)) (ci := 8) (v := .ref q_98) (ty := .array .int) (C := RX9) (T := TX9) (N := 81) hx hb hts i_X9 tyX9 tyX9_ok nmX9 hown hK hP hD hS 0 rfl rfl 41 (by decide) k_40 (fun _ h9 => h9) rfl hin rfl (by decide +kernel) rfl rfl (by rw [lfs_97]; decide) dX9_init_264 (fun H locs hP hD hS => ?_)
  have hP : va_P (dC, dI) vwCl [(h0, .inr (8, (fs_97.set 41 (.ref q_98)))), (q_1, .inl (cA_2, 1620, .inl (fun _ => 0))), (q_8, .inl (cA_9, 2, .inl (fun _ => 0))), (q_11, .inl (cA_12, 2, .inl (fun _ => 0))), (q_14, .inl (cA_15, 2, .inl (fun _ => 0))), (q_17, .inl (cA_18, 2, .inl (fun _ => 0))), (q_20, .inl (cA_21, 2, .inl (fun _ => 0))), (q_23, .inl (cA_24, 2, .inl (fun _ => 0))), (q_26, .inl (cA_27, 2, .inl (fun _ => 0))), (q_29, .inl (cA_30, 2, .inl (fun _ => 0))), (q_32, .inl (cA_33, 2, .inl (fun _ => 0))), (q_35, .inl (cA_36, 2, .inl (fun _ => 0))), (q_98, .inl (cA_99, 120, .inl (fun _ => 0)))] H := hP
  have hD : va_D A [(h0, .inr (8, (fs_97.set 41 (.ref q_98)))), (q_1, .inl (cA_2, 1620, .inl (fun _ => 0))), (q_8, .inl (cA_9, 2, .inl (fun _ => 0))), (q_11, .inl (cA_12, 2, .inl (fun _ => 0))), (q_14, .inl (cA_15, 2, .inl (fun _ => 0))), (q_17, .inl (cA_18, 2, .inl (fun _ => 0))), (q_20, .inl (cA_21, 2, .inl (fun _ => 0))), (q_23, .inl (cA_24, 2, .inl (fun _ => 0))), (q_26, .inl (cA_27, 2, .inl (fun _ => 0))), (q_29, .inl (cA_30, 2, .inl (fun _ => 0))), (q_32, .inl (cA_33, 2, .inl (fun _ => 0))), (q_35, .inl (cA_36, 2, .inl (fun _ => 0))), (q_98, .inl (cA_99, 120, .inl (fun _ => 0)))] := hD
  generalize efs_100 : (fs_97.set 41 (.ref q_98)) = fs_100 at hP hD
  have lfs_100 : fs_100.length = 81 := by rw [← efs_100, List.length_set]; exact lfs_97
  have ffs_100_2 : fs_100[2]? = some (.int 0) := by rw [← efs_100]; exact p1_sn (by decide) ffs_97_2
  have ffs_100_3 : fs_100[3]? = some (.int 0) := by rw [← efs_100]; exact p1_sn (by decide) ffs_97_3
  have ffs_100_4 : fs_100[4]? = some (.int 0) := by rw [← efs_100]; exact p1_sn (by decide) ffs_97_4
  have ffs_100_43 : fs_100[43]? = some (.int 0) := by rw [← efs_100]; exact p1_sn (by decide) ffs_97_43
  have ffs_100_60 : fs_100[60]? = some (.int 0) := by rw [← efs_100]; exact p1_sn (by decide) ffs_97_60
  have ffs_100_75 : fs_100[75]? = some (.int 0) := by rw [← efs_100]; exact p1_sn (by decide) ffs_97_75
  have ffs_100_7 : fs_100[7]? = some (.int 0) := by rw [← efs_100]; exact p1_sn (by decide) ffs_97_7
  have ffs_100_76 : fs_100[76]? = some (.int 0) := by rw [← efs_100]; exact p1_sn (by decide) ffs_97_76
  have ffs_100_44 : fs_100[44]? = some (.int 0) := by rw [← efs_100]; exact p1_sn (by decide) ffs_97_44
  have ffs_100_0 : fs_100[0]? = some (.ref q_1) := by rw [← efs_100]; exact p1_sn (by decide) ffs_97_0
  have ffs_100_5 : fs_100[5]? = some (.int (-1)) := by rw [← efs_100]; exact p1_sn (by decide) ffs_97_5
  have ffs_100_11 : fs_100[11]? = some (.ref q_8) := by rw [← efs_100]; exact p1_sn (by decide) ffs_97_11
  have ffs_100_12 : fs_100[12]? = some (.ref q_11) := by rw [← efs_100]; exact p1_sn (by decide) ffs_97_12
  have ffs_100_13 : fs_100[13]? = some (.ref q_14) := by rw [← efs_100]; exact p1_sn (by decide) ffs_97_13
  have ffs_100_14 : fs_100[14]? = some (.ref q_17) := by rw [← efs_100]; exact p1_sn (by decide) ffs_97_14
  have ffs_100_15 : fs_100[15]? = some (.ref q_20) := by rw [← efs_100]; exact p1_sn (by decide) ffs_97_15
  have ffs_100_16 : fs_100[16]? = some (.ref q_23) := by rw [← efs_100]; exact p1_sn (by decide) ffs_97_16
  have ffs_100_17 : fs_100[17]? = some (.ref q_26) := by rw [← efs_100]; exact p1_sn (by decide) ffs_97_17
  have ffs_100_18 : fs_100[18]? = some (.ref q_29) := by rw [← efs_100]; exact p1_sn (by decide) ffs_97_18
  have ffs_100_19 : fs_100[19]? = some (.ref q_32) := by rw [← efs_100]; exact p1_sn (by decide) ffs_97_19
  have ffs_100_20 : fs_100[20]? = some (.ref q_35) := by rw [← efs_100]; exact p1_sn (by decide) ffs_97_20
  have ffs_100_41 : fs_100[41]? = some (.ref q_98) := by rw [← efs_100]; exact p1_sa lfs_97 (by decide)
  have hP := hP.sub (ws' := [(h0, .inr (8, fs_100)), (q_1, .inl (cA_2, 1620, .inl (fun _ => 0))), (q_8, .inl (cA_9, 2, .inl (fun _ => 0))), (q_11, .inl (cA_12, 2, .inl (fun _ => 0))), (q_14, .inl (cA_15, 2, .inl (fun _ => 0))), (q_17, .inl (cA_18, 2, .inl (fun _ => 0))), (q_20, .inl (cA_21, 2, .inl (fun _ => 0))), (q_23, .inl (cA_24, 2, .inl (fun _ => 0))), (q_26, .inl (cA_27, 2, .inl (fun _ => 0))), (q_29, .inl (cA_30, 2, .inl (fun _ => 0))), (q_32, .inl (cA_33, 2, .inl (fun _ => 0))), (q_35, .inl (cA_36, 2, .inl (fun _ => 0)))]) [0, 1, 2, 3, 4, 5, 6, 7, 8, 9, 10, 11] rfl
  have hD := hD.sub (ws' := [(h0, .inr (8, fs_100)), (q_1, .inl (cA_2, 1620, .inl (fun _ => 0))), (q_8, .inl (cA_9, 2, .inl (fun _ => 0))), (q_11, .inl (cA_12, 2, .inl (fun _ => 0))), (q_14, .inl (cA_15, 2, .inl (fun _ => 0))), (q_17, .inl (cA_18, 2, .inl (fun _ => 0))), (q_20, .inl (cA_21, 2, .inl (fun _ => 0))), (q_23, .inl (cA_24, 2, .inl (fun _ => 0))), (q_26, .inl (cA_27, 2, .inl (fun _ => 0))), (q_29, .inl (cA_30, 2, .inl (fun _ => 0))), (q_32, .inl (cA_33, 2, .inl (fun _ => 0))), (q_35, .inl (cA_36, 2, .inl (fun _ => 0)))]) [0, 1, 2, 3, 4, 5, 6, 7, 8, 9, 10, 11] (by decide) rfl
  have hK := hK.sub (tys' := [(cA_2, .byte), (cA_9, .int), (cA_12, .int), (cA_15, .int), (cA_18, .int), (cA_21, .int), (cA_24, .int), (cA_27, .int), (cA_30, .int), (cA_33, .boolean), (cA_36, .boolean)]) [0, 1, 2, 3, 4, 5, 6, 7, 8, 9, 10] rfl
  refine lv_aload_n hx hb dX9_init_267 rfl (lv_at hl 0 rfl) ?_
  refine lv_bipush (v := 90) hx hb dX9_init_268 (by decide) ?_
  refine va_newa (atype := .int) (ty := .int) (N' := 90) (a0 := (90, .inl (fun _ => 0))) hx hb k_7 rfl hK hP hD hS hA (fun _ => rfl) (by decide) rfl (by decide) (by decide) (by decide) dX9_init_270 (fun q_101 cA_102 H hK hP hD hS => ?_)
  have hP : va_P (dC, dI) vwCl [(h0, .inr (8, fs_100)), (q_1, .inl (cA_2, 1620, .inl (fun _ => 0))), (q_8, .inl (cA_9, 2, .inl (fun _ => 0))), (q_11, .inl (cA_12, 2, .inl (fun _ => 0))), (q_14, .inl (cA_15, 2, .inl (fun _ => 0))), (q_17, .inl (cA_18, 2, .inl (fun _ => 0))), (q_20, .inl (cA_21, 2, .inl (fun _ => 0))), (q_23, .inl (cA_24, 2, .inl (fun _ => 0))), (q_26, .inl (cA_27, 2, .inl (fun _ => 0))), (q_29, .inl (cA_30, 2, .inl (fun _ => 0))), (q_32, .inl (cA_33, 2, .inl (fun _ => 0))), (q_35, .inl (cA_36, 2, .inl (fun _ => 0))), (q_101, .inl (cA_102, 90, .inl (fun _ => 0)))] H := hP
  have hD : va_D A [(h0, .inr (8, fs_100)), (q_1, .inl (cA_2, 1620, .inl (fun _ => 0))), (q_8, .inl (cA_9, 2, .inl (fun _ => 0))), (q_11, .inl (cA_12, 2, .inl (fun _ => 0))), (q_14, .inl (cA_15, 2, .inl (fun _ => 0))), (q_17, .inl (cA_18, 2, .inl (fun _ => 0))), (q_20, .inl (cA_21, 2, .inl (fun _ => 0))), (q_23, .inl (cA_24, 2, .inl (fun _ => 0))), (q_26, .inl (cA_27, 2, .inl (fun _ => 0))), (q_29, .inl (cA_30, 2, .inl (fun _ => 0))), (q_32, .inl (cA_33, 2, .inl (fun _ => 0))), (q_35, .inl (cA_36, 2, .inl (fun _ => 0))), (q_101, .inl (cA_102, 90, .inl (fun _ => 0)))] := hD
  have hK : va_K (dC, dI) vwCl [(cA_2, .byte), (cA_9, .int), (cA_12, .int), (cA_15, .int), (cA_18, .int), (cA_21, .int), (cA_24, .int), (cA_27, .int), (cA_30, .int), (cA_33, .boolean), (cA_36, .boolean), (cA_102, .int)] s := hK
  refine W.widen (k := 34) (n := 7436) (by decide) (by decide) ?_
  refine va_putF (D := (dC, dI)) (ci := 8) (v := .ref q_101) (ty := .array .int) (C := RX9) (T := TX9) (N := 81) hx hb hts i_X9 tyX9 tyX9_ok nmX9 hown hK hP hD hS 0 rfl rfl 42 (by decide) k_41 (fun _ h9 => h9) rfl hin rfl (by decide +kernel) rfl rfl (by rw [lfs_100]; decide) dX9_init_272 (fun H locs hP hD hS => ?_)
  have hP : va_P (dC, dI) vwCl [(h0, .inr (8, (fs_100.set 42 (.ref q_101)))), (q_1, .inl (cA_2, 1620, .inl (fun _ => 0))), (q_8, .inl (cA_9, 2, .inl (fun _ => 0))), (q_11, .inl (cA_12, 2, .inl (fun _ => 0))), (q_14, .inl (cA_15, 2, .inl (fun _ => 0))), (q_17, .inl (cA_18, 2, .inl (fun _ => 0))), (q_20, .inl (cA_21, 2, .inl (fun _ => 0))), (q_23, .inl (cA_24, 2, .inl (fun _ => 0))), (q_26, .inl (cA_27, 2, .inl (fun _ => 0))), (q_29, .inl (cA_30, 2, .inl (fun _ => 0))), (q_32, .inl (cA_33, 2, .inl (fun _ => 0))), (q_35, .inl (cA_36, 2, .inl (fun _ => 0))), (q_101, .inl (cA_102, 90, .inl (fun _ => 0)))] H := hP
  have hD : va_D A [(h0, .inr (8, (fs_100.set 42 (.ref q_101)))), (q_1, .inl (cA_2, 1620, .inl (fun _ => 0))), (q_8, .inl (cA_9, 2, .inl (fun _ => 0))), (q_11, .inl (cA_12, 2, .inl (fun _ => 0))), (q_14, .inl (cA_15, 2, .inl (fun _ => 0))), (q_17, .inl (cA_18, 2, .inl (fun _ => 0))), (q_20, .inl (cA_21, 2, .inl (fun _ => 0))), (q_23, .inl (cA_24, 2, .inl (fun _ => 0))), (q_26, .inl (cA_27, 2, .inl (fun _ => 0))), (q_29, .inl (cA_30, 2, .inl (fun _ => 0))), (q_32, .inl (cA_33, 2, .inl (fun _ => 0))), (q_35, .inl (cA_36, 2, .inl (fun _ => 0))), (q_101, .inl (cA_102, 90, .inl (fun _ => 0)))] := hD
  generalize efs_103 : (fs_100.set 42 (.ref q_101)) = fs_103 at hP hD
  have lfs_103 : fs_103.length = 81 := by rw [← efs_103, List.length_set]; exact lfs_100
  have ffs_103_2 : fs_103[2]? = some (.int 0) := by rw [← efs_103]; exact p1_sn (by decide) ffs_100_2
  have ffs_103_3 : fs_103[3]? = some (.int 0) := by rw [← efs_103]; exact p1_sn (by decide) ffs_100_3
  have ffs_103_4 : fs_103[4]? = some (.int 0) := by rw [← efs_103]; exact p1_sn (by decide) ffs_100_4
  have ffs_103_43 : fs_103[43]? = some (.int 0) := by rw [← efs_103]; exact p1_sn (by decide) ffs_100_43
  have ffs_103_60 : fs_103[60]? = some (.int 0) := by rw [← efs_103]; exact p1_sn (by decide) ffs_100_60
  have ffs_103_75 : fs_103[75]? = some (.int 0) := by rw [← efs_103]; exact p1_sn (by decide) ffs_100_75
  have ffs_103_7 : fs_103[7]? = some (.int 0) := by rw [← efs_103]; exact p1_sn (by decide) ffs_100_7
  have ffs_103_76 : fs_103[76]? = some (.int 0) := by rw [← efs_103]; exact p1_sn (by decide) ffs_100_76
  have ffs_103_44 : fs_103[44]? = some (.int 0) := by rw [← efs_103]; exact p1_sn (by decide) ffs_100_44
  have ffs_103_0 : fs_103[0]? = some (.ref q_1) := by rw [← efs_103]; exact p1_sn (by decide) ffs_100_0
  have ffs_103_5 : fs_103[5]? = some (.int (-1)) := by rw [← efs_103]; exact p1_sn (by decide) ffs_100_5
  have ffs_103_11 : fs_103[11]? = some (.ref q_8) := by rw [← efs_103]; exact p1_sn (by decide) ffs_100_11
  have ffs_103_12 : fs_103[12]? = some (.ref q_11) := by rw [← efs_103]; exact p1_sn (by decide) ffs_100_12
  have ffs_103_13 : fs_103[13]? = some (.ref q_14) := by rw [← efs_103]; exact p1_sn (by decide) ffs_100_13
  have ffs_103_14 : fs_103[14]? = some (.ref q_17) := by rw [← efs_103]; exact p1_sn (by decide) ffs_100_14
  have ffs_103_15 : fs_103[15]? = some (.ref q_20) := by rw [← efs_103]; exact p1_sn (by decide) ffs_100_15
  have ffs_103_16 : fs_103[16]? = some (.ref q_23) := by rw [← efs_103]; exact p1_sn (by decide) ffs_100_16
  have ffs_103_17 : fs_103[17]? = some (.ref q_26) := by rw [← efs_103]; exact p1_sn (by decide) ffs_100_17
  have ffs_103_18 : fs_103[18]? = some (.ref q_29) := by rw [← efs_103]; exact p1_sn (by decide) ffs_100_18
  have ffs_103_19 : fs_103[19]? = some (.ref q_32) := by rw [← efs_103]; exact p1_sn (by decide) ffs_100_19
  have ffs_103_20 : fs_103[20]? = some (.ref q_35) := by rw [← efs_103]; exact p1_sn (by decide) ffs_100_20
  have ffs_103_42 : fs_103[42]? = some (.ref q_101) := by rw [← efs_103]; exact p1_sa lfs_100 (by decide)
  have hP := hP.sub (ws' := [(h0, .inr (8, fs_103)), (q_1, .inl (cA_2, 1620, .inl (fun _ => 0))), (q_8, .inl (cA_9, 2, .inl (fun _ => 0))), (q_11, .inl (cA_12, 2, .inl (fun _ => 0))), (q_14, .inl (cA_15, 2, .inl (fun _ => 0))), (q_17, .inl (cA_18, 2, .inl (fun _ => 0))), (q_20, .inl (cA_21, 2, .inl (fun _ => 0))), (q_23, .inl (cA_24, 2, .inl (fun _ => 0))), (q_26, .inl (cA_27, 2, .inl (fun _ => 0))), (q_29, .inl (cA_30, 2, .inl (fun _ => 0))), (q_32, .inl (cA_33, 2, .inl (fun _ => 0))), (q_35, .inl (cA_36, 2, .inl (fun _ => 0)))]) [0, 1, 2, 3, 4, 5, 6, 7, 8, 9, 10, 11] rfl
  have hD := hD.sub (ws' := [(h0, .inr (8, fs_103)), (q_1, .inl (cA_2, 1620, .inl (fun _ => 0))), (q_8, .inl (cA_9, 2, .inl (fun _ => 0))), (q_11, .inl (cA_12, 2, .inl (fun _ => 0))), (q_14, .inl (cA_15, 2, .inl (fun _ => 0))), (q_17, .inl (cA_18, 2, .inl (fun _ => 0))), (q_20, .inl (cA_21, 2, .inl (fun _ => 0))), (q_23, .inl (cA_24, 2, .inl (fun _ => 0))), (q_26, .inl (cA_27, 2, .inl (fun _ => 0))), (q_29, .inl (cA_30, 2, .inl (fun _ => 0))), (q_32, .inl (cA_33, 2, .inl (fun _ => 0))), (q_35, .inl (cA_36, 2, .inl (fun _ => 0)))]) [0, 1, 2, 3, 4, 5, 6, 7, 8, 9, 10, 11] (by decide) rfl
  have hK := hK.sub (tys' := [(cA_2, .byte), (cA_9, .int), (cA_12, .int), (cA_15, .int), (cA_18, .int), (cA_21, .int), (cA_24, .int), (cA_27, .int), (cA_30, .int), (cA_33, .boolean), (cA_36, .boolean)]) [0, 1, 2, 3, 4, 5, 6, 7, 8, 9, 10] rfl
  refine lv_aload_n hx hb dX9_init_275 rfl (lv_at hl 0 rfl) ?_
  refine lv_bipush (v := 12) hx hb dX9_init_276 (by decide) ?_
  refine va_newa (atype := .int) (ty := .int) (N' := 12) (a0 := (12, .inl (fun _ => 0))) hx hb k_7 rfl hK hP hD hS hA (fun _ => rfl) (by decide) rfl (by decide) (by decide) (by decide) dX9_init_278 (fun q_104 cA_105 H hK hP hD hS => ?_)
  have hP : va_P (dC, dI) vwCl [(h0, .inr (8, fs_103)), (q_1, .inl (cA_2, 1620, .inl (fun _ => 0))), (q_8, .inl (cA_9, 2, .inl (fun _ => 0))), (q_11, .inl (cA_12, 2, .inl (fun _ => 0))), (q_14, .inl (cA_15, 2, .inl (fun _ => 0))), (q_17, .inl (cA_18, 2, .inl (fun _ => 0))), (q_20, .inl (cA_21, 2, .inl (fun _ => 0))), (q_23, .inl (cA_24, 2, .inl (fun _ => 0))), (q_26, .inl (cA_27, 2, .inl (fun _ => 0))), (q_29, .inl (cA_30, 2, .inl (fun _ => 0))), (q_32, .inl (cA_33, 2, .inl (fun _ => 0))), (q_35, .inl (cA_36, 2, .inl (fun _ => 0))), (q_104, .inl (cA_105, 12, .inl (fun _ => 0)))] H := hP
  have hD : va_D A [(h0, .inr (8, fs_103)), (q_1, .inl (cA_2, 1620, .inl (fun _ => 0))), (q_8, .inl (cA_9, 2, .inl (fun _ => 0))), (q_11, .inl (cA_12, 2, .inl (fun _ => 0))), (q_14, .inl (cA_15, 2, .inl (fun _ => 0))), (q_17, .inl (cA_18, 2, .inl (fun _ => 0))), (q_20, .inl (cA_21, 2, .inl (fun _ => 0))), (q_23, .inl (cA_24, 2, .inl (fun _ => 0))), (q_26, .inl (cA_27, 2, .inl (fun _ => 0))), (q_29, .inl (cA_30, 2, .inl (fun _ => 0))), (q_32, .inl (cA_33, 2, .inl (fun _ => 0))), (q_35, .inl (cA_36, 2, .inl (fun _ => 0))), (q_104, .inl (cA_105, 12, .inl (fun _ => 0)))] := hD
  have hK : va_K (dC, dI) vwCl [(cA_2, .byte), (cA_9, .int), (cA_12, .int), (cA_15, .int), (cA_18, .int), (cA_21, .int), (cA_24, .int), (cA_27, .int), (cA_30, .int), (cA_33, .boolean), (cA_36, .boolean), (cA_105, .int)] s := hK
  refine W.widen (k := 35) (n := 7448) (by decide) (by decide) ?_
  refine va_putF (D := (dC, dI)) (ci := 8) (v := .ref q_104) (ty := .array .int) (C := RX9) (T := TX9) (N := 81) hx hb hts i_X9 tyX9 tyX9_ok nmX9 hown hK hP hD hS 0 rfl rfl 49 (by decide) k_42 (fun _ h9 => h9) rfl hin rfl (by decide +kernel) rfl rfl (by rw [lfs_103]; decide) dX9_init_280 (fun H locs hP hD hS => ?_)
  have hP : va_P (dC, dI) vwCl [(h0, .inr (8, (fs_103.set 49 (.ref q_104)))), (q_1, .inl (cA_2, 1620, .inl (fun _ => 0))), (q_8, .inl (cA_9, 2, .inl (fun _ => 0))), (q_11, .inl (cA_12, 2, .inl (fun _ => 0))), (q_14, .inl (cA_15, 2, .inl (fun _ => 0))), (q_17, .inl (cA_18, 2, .inl (fun _ => 0))), (q_20, .inl (cA_21, 2, .inl (fun _ => 0))), (q_23, .inl (cA_24, 2, .inl (fun _ => 0))), (q_26, .inl (cA_27, 2, .inl (fun _ => 0))), (q_29, .inl (cA_30, 2, .inl (fun _ => 0))), (q_32, .inl (cA_33, 2, .inl (fun _ => 0))), (q_35, .inl (cA_36, 2, .inl (fun _ => 0))), (q_104, .inl (cA_105, 12, .inl (fun _ => 0)))] H := hP
  have hD : va_D A [(h0, .inr (8, (fs_103.set 49 (.ref q_104)))), (q_1, .inl (cA_2, 1620, .inl (fun _ => 0))), (q_8, .inl (cA_9, 2, .inl (fun _ => 0))), (q_11, .inl (cA_12, 2, .inl (fun _ => 0))), (q_14, .inl (cA_15, 2, .inl (fun _ => 0))), (q_17, .inl (cA_18, 2, .inl (fun _ => 0))), (q_20, .inl (cA_21, 2, .inl (fun _ => 0))), (q_23, .inl (cA_24, 2, .inl (fun _ => 0))), (q_26, .inl (cA_27, 2, .inl (fun _ => 0))), (q_29, .inl (cA_30, 2, .inl (fun _ => 0))), (q_32, .inl (cA_33, 2, .inl (fun _ => 0))), (q_35, .inl (cA_36, 2, .inl (fun _ => 0))), (q_104, .inl (cA_105, 12, .inl (fun _ => 0)))] := hD
  generalize efs_106 : (fs_103.set 49 (.ref q_104)) = fs_106 at hP hD
  have lfs_106 : fs_106.length = 81 := by rw [← efs_106, List.length_set]; exact lfs_103
  have ffs_106_2 : fs_106[2]? = some (.int 0) := by rw [← efs_106]; exact p1_sn (by decide) ffs_103_2
  have ffs_106_3 : fs_106[3]? = some (.int 0) := by rw [← efs_106]; exact p1_sn (by decide) ffs_103_3
  have ffs_106_4 : fs_106[4]? = some (.int 0) := by rw [← efs_106]; exact p1_sn (by decide) ffs_103_4
  have ffs_106_43 : fs_106[43]? = some (.int 0) := by rw [← efs_106]; exact p1_sn (by decide) ffs_103_43
  have ffs_106_60 : fs_106[60]? = some (.int 0) := by rw [← efs_106]; exact p1_sn (by decide) ffs_103_60
  have ffs_106_75 : fs_106[75]? = some (.int 0) := by rw [← efs_106]; exact p1_sn (by decide) ffs_103_75
  have ffs_106_7 : fs_106[7]? = some (.int 0) := by rw [← efs_106]; exact p1_sn (by decide) ffs_103_7
  have ffs_106_76 : fs_106[76]? = some (.int 0) := by rw [← efs_106]; exact p1_sn (by decide) ffs_103_76
  have ffs_106_44 : fs_106[44]? = some (.int 0) := by rw [← efs_106]; exact p1_sn (by decide) ffs_103_44
  have ffs_106_0 : fs_106[0]? = some (.ref q_1) := by rw [← efs_106]; exact p1_sn (by decide) ffs_103_0
  have ffs_106_5 : fs_106[5]? = some (.int (-1)) := by rw [← efs_106]; exact p1_sn (by decide) ffs_103_5
  have ffs_106_11 : fs_106[11]? = some (.ref q_8) := by rw [← efs_106]; exact p1_sn (by decide) ffs_103_11
  have ffs_106_12 : fs_106[12]? = some (.ref q_11) := by rw [← efs_106]; exact p1_sn (by decide) ffs_103_12
  have ffs_106_13 : fs_106[13]? = some (.ref q_14) := by rw [← efs_106]; exact p1_sn (by decide) ffs_103_13
  have ffs_106_14 : fs_106[14]? = some (.ref q_17) := by rw [← efs_106]; exact p1_sn (by decide) ffs_103_14
  have ffs_106_15 : fs_106[15]? = some (.ref q_20) := by rw [← efs_106]; exact p1_sn (by decide) ffs_103_15
  have ffs_106_16 : fs_106[16]? = some (.ref q_23) := by rw [← efs_106]; exact p1_sn (by decide) ffs_103_16
  have ffs_106_17 : fs_106[17]? = some (.ref q_26) := by rw [← efs_106]; exact p1_sn (by decide) ffs_103_17
  have ffs_106_18 : fs_106[18]? = some (.ref q_29) := by rw [← efs_106]; exact p1_sn (by decide) ffs_103_18
  have ffs_106_19 : fs_106[19]? = some (.ref q_32) := by rw [← efs_106]; exact p1_sn (by decide) ffs_103_19
  have ffs_106_20 : fs_106[20]? = some (.ref q_35) := by rw [← efs_106]; exact p1_sn (by decide) ffs_103_20
  have ffs_106_49 : fs_106[49]? = some (.ref q_104) := by rw [← efs_106]; exact p1_sa lfs_103 (by decide)
  have hP := hP.sub (ws' := [(h0, .inr (8, fs_106)), (q_1, .inl (cA_2, 1620, .inl (fun _ => 0))), (q_8, .inl (cA_9, 2, .inl (fun _ => 0))), (q_11, .inl (cA_12, 2, .inl (fun _ => 0))), (q_14, .inl (cA_15, 2, .inl (fun _ => 0))), (q_17, .inl (cA_18, 2, .inl (fun _ => 0))), (q_20, .inl (cA_21, 2, .inl (fun _ => 0))), (q_23, .inl (cA_24, 2, .inl (fun _ => 0))), (q_26, .inl (cA_27, 2, .inl (fun _ => 0))), (q_29, .inl (cA_30, 2, .inl (fun _ => 0))), (q_32, .inl (cA_33, 2, .inl (fun _ => 0))), (q_35, .inl (cA_36, 2, .inl (fun _ => 0)))]) [0, 1, 2, 3, 4, 5, 6, 7, 8, 9, 10, 11] rfl
  have hD := hD.sub (ws' := [(h0, .inr (8, fs_106)), (q_1, .inl (cA_2, 1620, .inl (fun _ => 0))), (q_8, .inl (cA_9, 2, .inl (fun _ => 0))), (q_11, .inl (cA_12, 2, .inl (fun _ => 0))), (q_14, .inl (cA_15, 2, .inl (fun _ => 0))), (q_17, .inl (cA_18, 2, .inl (fun _ => 0))), (q_20, .inl (cA_21, 2, .inl (fun _ => 0))), (q_23, .inl (cA_24, 2, .inl (fun _ => 0))), (q_26, .inl (cA_27, 2, .inl (fun _ => 0))), (q_29, .inl (cA_30, 2, .inl (fun _ => 0))), (q_32, .inl (cA_33, 2, .inl (fun _ => 0))), (q_35, .inl (cA_36, 2, .inl (fun _ => 0)))]) [0, 1, 2, 3, 4, 5, 6, 7, 8, 9, 10, 11] (by decide) rfl
  have hK := hK.sub (tys' := [(cA_2, .byte), (cA_9, .int), (cA_12, .int), (cA_15, .int), (cA_18, .int), (cA_21, .int), (cA_24, .int), (cA_27, .int), (cA_30, .int), (cA_33, .boolean), (cA_36, .boolean)]) [0, 1, 2, 3, 4, 5, 6, 7, 8, 9, 10] rfl
  refine lv_aload_n hx hb dX9_init_283 rfl (lv_at hl 0 rfl) ?_
  refine lv_iconst (v := 2) hx hb dX9_init_284 (by decide) ?_
  refine va_newa (atype := .int) (ty := .int) (N' := 2) (a0 := (2, .inl (fun _ => 0))) hx hb k_7 rfl hK hP hD hS hA (fun _ => rfl) (by decide) rfl (by decide) (by decide) (by decide) dX9_init_285 (fun q_107 cA_108 H hK hP hD hS => ?_)
  have hP : va_P (dC, dI) vwCl [(h0, .inr (8, fs_106)), (q_1, .inl (cA_2, 1620, .inl (fun _ => 0))), (q_8, .inl (cA_9, 2, .inl (fun _ => 0))), (q_11, .inl (cA_12, 2, .inl (fun _ => 0))), (q_14, .inl (cA_15, 2, .inl (fun _ => 0))), (q_17, .inl (cA_18, 2, .inl (fun _ => 0))), (q_20, .inl (cA_21, 2, .inl (fun _ => 0))), (q_23, .inl (cA_24, 2, .inl (fun _ => 0))), (q_26, .inl (cA_27, 2, .inl (fun _ => 0))), (q_29, .inl (cA_30, 2, .inl (fun _ => 0))), (q_32, .inl (cA_33, 2, .inl (fun _ => 0))), (q_35, .inl (cA_36, 2, .inl (fun _ => 0))), (q_107, .inl (cA_108, 2, .inl (fun _ => 0)))] H := hP
  have hD : va_D A [(h0, .inr (8, fs_106)), (q_1, .inl (cA_2, 1620, .inl (fun _ => 0))), (q_8, .inl (cA_9, 2, .inl (fun _ => 0))), (q_11, .inl (cA_12, 2, .inl (fun _ => 0))), (q_14, .inl (cA_15, 2, .inl (fun _ => 0))), (q_17, .inl (cA_18, 2, .inl (fun _ => 0))), (q_20, .inl (cA_21, 2, .inl (fun _ => 0))), (q_23, .inl (cA_24, 2, .inl (fun _ => 0))), (q_26, .inl (cA_27, 2, .inl (fun _ => 0))), (q_29, .inl (cA_30, 2, .inl (fun _ => 0))), (q_32, .inl (cA_33, 2, .inl (fun _ => 0))), (q_35, .inl (cA_36, 2, .inl (fun _ => 0))), (q_107, .inl (cA_108, 2, .inl (fun _ => 0)))] := hD
  have hK : va_K (dC, dI) vwCl [(cA_2, .byte), (cA_9, .int), (cA_12, .int), (cA_15, .int), (cA_18, .int), (cA_21, .int), (cA_24, .int), (cA_27, .int), (cA_30, .int), (cA_33, .boolean), (cA_36, .boolean), (cA_108, .int)] s := hK
  refine W.widen (k := 36) (n := 7450) (by decide) (by decide) ?_
  refine va_putF (D := (dC, dI)) (ci := 8) (v := .ref q_107) (ty := .array .int) (C := RX9) (T := TX9) (N := 81) hx hb hts i_X9 tyX9 tyX9_ok nmX9 hown hK hP hD hS 0 rfl rfl 50 (by decide) k_43 (fun _ h9 => h9) rfl hin rfl (by decide +kernel) rfl rfl (by rw [lfs_106]; decide) dX9_init_287 (fun H locs hP hD hS => ?_)
  have hP : va_P (dC, dI) vwCl [(h0, .inr (8, (fs_106.set 50 (.ref q_107)))), (q_1, .inl (cA_2, 1620, .inl (fun _ => 0))), (q_8, .inl (cA_9, 2, .inl (fun _ => 0))), (q_11, .inl (cA_12, 2, .inl (fun _ => 0))), (q_14, .inl (cA_15, 2, .inl (fun _ => 0))), (q_17, .inl (cA_18, 2, .inl (fun _ => 0))), (q_20, .inl (cA_21, 2, .inl (fun _ => 0))), (q_23, .inl (cA_24, 2, .inl (fun _ => 0))), (q_26, .inl (cA_27, 2, .inl (fun _ => 0))), (q_29, .inl (cA_30, 2, .inl (fun _ => 0))), (q_32, .inl (cA_33, 2, .inl (fun _ => 0))), (q_35, .inl (cA_36, 2, .inl (fun _ => 0))), (q_107, .inl (cA_108, 2, .inl (fun _ => 0)))] H := hP
  have hD : va_D A [(h0, .inr (8, (fs_106.set 50 (.ref q_107)))), (q_1, .inl (cA_2, 1620, .inl (fun _ => 0))), (q_8, .inl (cA_9, 2, .inl (fun _ => 0))), (q_11, .inl (cA_12, 2, .inl (fun _ => 0))), (q_14, .inl (cA_15, 2, .inl (fun _ => 0))), (q_17, .inl (cA_18, 2, .inl (fun _ => 0))), (q_20, .inl (cA_21, 2, .inl (fun _ => 0))), (q_23, .inl (cA_24, 2, .inl (fun _ => 0))), (q_26, .inl (cA_27, 2, .inl (fun _ => 0))), (q_29, .inl (cA_30, 2, .inl (fun _ => 0))), (q_32, .inl (cA_33, 2, .inl (fun _ => 0))), (q_35, .inl (cA_36, 2, .inl (fun _ => 0))), (q_107, .inl (cA_108, 2, .inl (fun _ => 0)))] := hD
  generalize efs_109 : (fs_106.set 50 (.ref q_107)) = fs_109 at hP hD
  have lfs_109 : fs_109.length = 81 := by rw [← efs_109, List.length_set]; exact lfs_106
  have ffs_109_2 : fs_109[2]? = some (.int 0) := by rw [← efs_109]; exact p1_sn (by decide) ffs_106_2
  have ffs_109_3 : fs_109[3]? = some (.int 0) := by rw [← efs_109]; exact p1_sn (by decide) ffs_106_3
  have ffs_109_4 : fs_109[4]? = some (.int 0) := by rw [← efs_109]; exact p1_sn (by decide) ffs_106_4
  have ffs_109_43 : fs_109[43]? = some (.int 0) := by rw [← efs_109]; exact p1_sn (by decide) ffs_106_43
  have ffs_109_60 : fs_109[60]? = some (.int 0) := by rw [← efs_109]; exact p1_sn (by decide) ffs_106_60
  have ffs_109_75 : fs_109[75]? = some (.int 0) := by rw [← efs_109]; exact p1_sn (by decide) ffs_106_75
  have ffs_109_7 : fs_109[7]? = some (.int 0) := by rw [← efs_109]; exact p1_sn (by decide) ffs_106_7
  have ffs_109_76 : fs_109[76]? = some (.int 0) := by rw [← efs_109]; exact p1_sn (by decide) ffs_106_76
  have ffs_109_44 : fs_109[44]? = some (.int 0) := by rw [← efs_109]; exact p1_sn (by decide) ffs_106_44
  have ffs_109_0 : fs_109[0]? = some (.ref q_1) := by rw [← efs_109]; exact p1_sn (by decide) ffs_106_0
  have ffs_109_5 : fs_109[5]? = some (.int (-1)) := by rw [← efs_109]; exact p1_sn (by decide) ffs_106_5
  have ffs_109_11 : fs_109[11]? = some (.ref q_8) := by rw [← efs_109]; exact p1_sn (by decide) ffs_106_11
  have ffs_109_12 : fs_109[12]? = some (.ref q_11) := by rw [← efs_109]; exact p1_sn (by decide) ffs_106_12
  have ffs_109_13 : fs_109[13]? = some (.ref q_14) := by rw [← efs_109]; exact p1_sn (by decide) ffs_106_13
  have ffs_109_14 : fs_109[14]? = some (.ref q_17) := by rw [← efs_109]; exact p1_sn (by decide) ffs_106_14
  have ffs_109_15 : fs_109[15]? = some (.ref q_20) := by rw [← efs_109]; exact p1_sn (by decide) ffs_106_15
  have ffs_109_16 : fs_109[16]? = some (.ref q_23) := by rw [← efs_109]; exact p1_sn (by decide) ffs_106_16
  have ffs_109_17 : fs_109[17]? = some (.ref q_26) := by rw [← efs_109]; exact p1_sn (by decide) ffs_106_17
  have ffs_109_18 : fs_109[18]? = some (.ref q_29) := by rw [← efs_109]; exact p1_sn (by decide) ffs_106_18
  have ffs_109_19 : fs_109[19]? = some (.ref q_32) := by rw [← efs_109]; exact p1_sn (by decide) ffs_106_19
  have ffs_109_20 : fs_109[20]? = some (.ref q_35) := by rw [← efs_109]; exact p1_sn (by decide) ffs_106_20
  have ffs_109_50 : fs_109[50]? = some (.ref q_107) := by rw [← efs_109]; exact p1_sa lfs_106 (by decide)
  have hP := hP.sub (ws' := [(h0, .inr (8, fs_109)), (q_1, .inl (cA_2, 1620, .inl (fun _ => 0))), (q_8, .inl (cA_9, 2, .inl (fun _ => 0))), (q_11, .inl (cA_12, 2, .inl (fun _ => 0))), (q_14, .inl (cA_15, 2, .inl (fun _ => 0))), (q_17, .inl (cA_18, 2, .inl (fun _ => 0))), (q_20, .inl (cA_21, 2, .inl (fun _ => 0))), (q_23, .inl (cA_24, 2, .inl (fun _ => 0))), (q_26, .inl (cA_27, 2, .inl (fun _ => 0))), (q_29, .inl (cA_30, 2, .inl (fun _ => 0))), (q_32, .inl (cA_33, 2, .inl (fun _ => 0))), (q_35, .inl (cA_36, 2, .inl (fun _ => 0)))]) [0, 1, 2, 3, 4, 5, 6, 7, 8, 9, 10, 11] rfl
  have hD := hD.sub (ws' := [(h0, .inr (8, fs_109)), (q_1, .inl (cA_2, 1620, .inl (fun _ => 0))), (q_8, .inl (cA_9, 2, .inl (fun _ => 0))), (q_11, .inl (cA_12, 2, .inl (fun _ => 0))), (q_14, .inl (cA_15, 2, .inl (fun _ => 0))), (q_17, .inl (cA_18, 2, .inl (fun _ => 0))), (q_20, .inl (cA_21, 2, .inl (fun _ => 0))), (q_23, .inl (cA_24, 2, .inl (fun _ => 0))), (q_26, .inl (cA_27, 2, .inl (fun _ => 0))), (q_29, .inl (cA_30, 2, .inl (fun _ => 0))), (q_32, .inl (cA_33, 2, .inl (fun _ => 0))), (q_35, .inl (cA_36, 2, .inl (fun _ => 0)))]) [0, 1, 2, 3, 4, 5, 6, 7, 8, 9, 10, 11] (by decide) rfl
  have hK := hK.sub (tys' := [(cA_2, .byte), (cA_9, .int), (cA_12, .int), (cA_15, .int), (cA_18, .int), (cA_21, .int), (cA_24, .int), (cA_27, .int), (cA_30, .int), (cA_33, .boolean), (cA_36, .boolean)]) [0, 1, 2, 3, 4, 5, 6, 7, 8, 9, 10] rfl
  refine lv_aload_n hx hb dX9_init_290 rfl (lv_at hl 0 rfl) ?_
  refine lv_iconst (v := 1) hx hb dX9_init_291 (by decide) ?_
  refine va_put (D := (dC, dI)) (ci := 8) (v := .int 1) (ty := .int) (C := RX9) (T := TX9) (N := 81) hx hb hts i_X9 tyX9 tyX9_ok nmX9 hown hK hP hD hS 0 rfl rfl 65 (by decide) k_44 (fun _ h9 => h9) rfl (by decide +kernel) rfl rfl (by rw [lfs_109]; decide) dX9_init_292 (fun H locs hP hD hS => ?_)
  have hP : va_P (dC, dI) vwCl [(h0, .inr (8, (fs_109.set 65 (.int 1)))), (q_1, .inl (cA_2, 1620, .inl (fun _ => 0))), (q_8, .inl (cA_9, 2, .inl (fun _ => 0))), (q_11, .inl (cA_12, 2, .inl (fun _ => 0))), (q_14, .inl (cA_15, 2, .inl (fun _ => 0))), (q_17, .inl (cA_18, 2, .inl (fun _ => 0))), (q_20, .inl (cA_21, 2, .inl (fun _ => 0))), (q_23, .inl (cA_24, 2, .inl (fun _ => 0))), (q_26, .inl (cA_27, 2, .inl (fun _ => 0))), (q_29, .inl (cA_30, 2, .inl (fun _ => 0))), (q_32, .inl (cA_33, 2, .inl (fun _ => 0))), (q_35, .inl (cA_36, 2, .inl (fun _ => 0)))] H := hP
  have hD : va_D A [(h0, .inr (8, (fs_109.set 65 (.int 1)))), (q_1, .inl (cA_2, 1620, .inl (fun _ => 0))), (q_8, .inl (cA_9, 2, .inl (fun _ => 0))), (q_11, .inl (cA_12, 2, .inl (fun _ => 0))), (q_14, .inl (cA_15, 2, .inl (fun _ => 0))), (q_17, .inl (cA_18, 2, .inl (fun _ => 0))), (q_20, .inl (cA_21, 2, .inl (fun _ => 0))), (q_23, .inl (cA_24, 2, .inl (fun _ => 0))), (q_26, .inl (cA_27, 2, .inl (fun _ => 0))), (q_29, .inl (cA_30, 2, .inl (fun _ => 0))), (q_32, .inl (cA_33, 2, .inl (fun _ => 0))), (q_35, .inl (cA_36, 2, .inl (fun _ => 0)))] := hD
  generalize efs_110 : (fs_109.set 65 (.int 1)) = fs_110 at hP hD
  have lfs_110 : fs_110.length = 81 := by rw [← efs_110, List.length_set]; exact lfs_109
  have ffs_110_2 : fs_110[2]? = some (.int 0) := by rw [← efs_110]; exact p1_sn (by decide) ffs_109_2
  have ffs_110_3 : fs_110[3]? = some (.int 0) := by rw [← efs_110]; exact p1_sn (by decide) ffs_109_3
  have ffs_110_4 : fs_110[4]? = some (.int 0) := by rw [← efs_110]; exact p1_sn (by decide) ffs_109_4
  have ffs_110_43 : fs_110[43]? = some (.int 0) := by rw [← efs_110]; exact p1_sn (by decide) ffs_109_43
  have ffs_110_60 : fs_110[60]? = some (.int 0) := by rw [← efs_110]; exact p1_sn (by decide) ffs_109_60
  have ffs_110_75 : fs_110[75]? = some (.int 0) := by rw [← efs_110]; exact p1_sn (by decide) ffs_109_75
  have ffs_110_7 : fs_110[7]? = some (.int 0) := by rw [← efs_110]; exact p1_sn (by decide) ffs_109_7
  have ffs_110_76 : fs_110[76]? = some (.int 0) := by rw [← efs_110]; exact p1_sn (by decide) ffs_109_76
  have ffs_110_44 : fs_110[44]? = some (.int 0) := by rw [← efs_110]; exact p1_sn (by decide) ffs_109_44
  have ffs_110_0 : fs_110[0]? = some (.ref q_1) := by rw [← efs_110]; exact p1_sn (by decide) ffs_109_0
  have ffs_110_5 : fs_110[5]? = some (.int (-1)) := by rw [← efs_110]; exact p1_sn (by decide) ffs_109_5
  have ffs_110_11 : fs_110[11]? = some (.ref q_8) := by rw [← efs_110]; exact p1_sn (by decide) ffs_109_11
  have ffs_110_12 : fs_110[12]? = some (.ref q_11) := by rw [← efs_110]; exact p1_sn (by decide) ffs_109_12
  have ffs_110_13 : fs_110[13]? = some (.ref q_14) := by rw [← efs_110]; exact p1_sn (by decide) ffs_109_13
  have ffs_110_14 : fs_110[14]? = some (.ref q_17) := by rw [← efs_110]; exact p1_sn (by decide) ffs_109_14
  have ffs_110_15 : fs_110[15]? = some (.ref q_20) := by rw [← efs_110]; exact p1_sn (by decide) ffs_109_15
  have ffs_110_16 : fs_110[16]? = some (.ref q_23) := by rw [← efs_110]; exact p1_sn (by decide) ffs_109_16
  have ffs_110_17 : fs_110[17]? = some (.ref q_26) := by rw [← efs_110]; exact p1_sn (by decide) ffs_109_17
  have ffs_110_18 : fs_110[18]? = some (.ref q_29) := by rw [← efs_110]; exact p1_sn (by decide) ffs_109_18
  have ffs_110_19 : fs_110[19]? = some (.ref q_32) := by rw [← efs_110]; exact p1_sn (by decide) ffs_109_19
  have ffs_110_20 : fs_110[20]? = some (.ref q_35) := by rw [← efs_110]; exact p1_sn (by decide) ffs_109_20
  have ffs_110_65 : fs_110[65]? = some (.int 1) := by rw [← efs_110]; exact p1_sa lfs_109 (by decide)
  refine lv_aload_n hx hb dX9_init_295 rfl (lv_at hl 0 rfl) ?_
  refine lv_bipush (v := 6) hx hb dX9_init_296 (by decide) ?_
  refine va_newa (atype := .int) (ty := .int) (N' := 6) (a0 := (6, .inl (fun _ => 0))) hx hb k_7 rfl hK hP hD hS hA (fun _ => rfl) (by decide) rfl (by decide) (by decide) (by decide) dX9_init_298 (fun q_111 cA_112 H hK hP hD hS => ?_)
  have hP : va_P (dC, dI) vwCl [(h0, .inr (8, fs_110)), (q_1, .inl (cA_2, 1620, .inl (fun _ => 0))), (q_8, .inl (cA_9, 2, .inl (fun _ => 0))), (q_11, .inl (cA_12, 2, .inl (fun _ => 0))), (q_14, .inl (cA_15, 2, .inl (fun _ => 0))), (q_17, .inl (cA_18, 2, .inl (fun _ => 0))), (q_20, .inl (cA_21, 2, .inl (fun _ => 0))), (q_23, .inl (cA_24, 2, .inl (fun _ => 0))), (q_26, .inl (cA_27, 2, .inl (fun _ => 0))), (q_29, .inl (cA_30, 2, .inl (fun _ => 0))), (q_32, .inl (cA_33, 2, .inl (fun _ => 0))), (q_35, .inl (cA_36, 2, .inl (fun _ => 0))), (q_111, .inl (cA_112, 6, .inl (fun _ => 0)))] H := hP
  have hD : va_D A [(h0, .inr (8, fs_110)), (q_1, .inl (cA_2, 1620, .inl (fun _ => 0))), (q_8, .inl (cA_9, 2, .inl (fun _ => 0))), (q_11, .inl (cA_12, 2, .inl (fun _ => 0))), (q_14, .inl (cA_15, 2, .inl (fun _ => 0))), (q_17, .inl (cA_18, 2, .inl (fun _ => 0))), (q_20, .inl (cA_21, 2, .inl (fun _ => 0))), (q_23, .inl (cA_24, 2, .inl (fun _ => 0))), (q_26, .inl (cA_27, 2, .inl (fun _ => 0))), (q_29, .inl (cA_30, 2, .inl (fun _ => 0))), (q_32, .inl (cA_33, 2, .inl (fun _ => 0))), (q_35, .inl (cA_36, 2, .inl (fun _ => 0))), (q_111, .inl (cA_112, 6, .inl (fun _ => 0)))] := hD
  have hK : va_K (dC, dI) vwCl [(cA_2, .byte), (cA_9, .int), (cA_12, .int), (cA_15, .int), (cA_18, .int), (cA_21, .int), (cA_24, .int), (cA_27, .int), (cA_30, .int), (cA_33, .boolean), (cA_36, .boolean), (cA_112, .int)] s := hK
  refine W.widen (k := 37) (n := 7456) (by decide) (by decide) ?_
  refine va_putF (D := (dC, dI)) (ci := 8) (v := .ref q_111) (ty := .array .int) (C := RX9) (T := TX9) (N := 81) hx hb hts i_X9 tyX9 tyX9_ok nmX9 hown hK hP hD hS 0 rfl rfl 66 (by decide) k_45 (fun _ h9 => h9) rfl hin rfl (by decide +kernel) rfl rfl (by rw [lfs_110]; decide) dX9_init_300 (fun H locs hP hD hS => ?_)
  have hP : va_P (dC, dI) vwCl [(h0, .inr (8, (fs_110.set 66 (.ref q_111)))), (q_1, .inl (cA_2, 1620, .inl (fun _ => 0))), (q_8, .inl (cA_9, 2, .inl (fun _ => 0))), (q_11, .inl (cA_12, 2, .inl (fun _ => 0))), (q_14, .inl (cA_15, 2, .inl (fun _ => 0))), (q_17, .inl (cA_18, 2, .inl (fun _ => 0))), (q_20, .inl (cA_21, 2, .inl (fun _ => 0))), (q_23, .inl (cA_24, 2, .inl (fun _ => 0))), (q_26, .inl (cA_27, 2, .inl (fun _ => 0))), (q_29, .inl (cA_30, 2, .inl (fun _ => 0))), (q_32, .inl (cA_33, 2, .inl (fun _ => 0))), (q_35, .inl (cA_36, 2, .inl (fun _ => 0))), (q_111, .inl (cA_112, 6, .inl (fun _ => 0)))] H := hP
  have hD : va_D A [(h0, .inr (8, (fs_110.set 66 (.ref q_111)))), (q_1, .inl (cA_2, 1620, .inl (fun _ => 0))), (q_8, .inl (cA_9, 2, .inl (fun _ => 0))), (q_11, .inl (cA_12, 2, .inl (fun _ => 0))), (q_14, .inl (cA_15, 2, .inl (fun _ => 0))), (q_17, .inl (cA_18, 2, .inl (fun _ => 0))), (q_20, .inl (cA_21, 2, .inl (fun _ => 0))), (q_23, .inl (cA_24, 2, .inl (fun _ => 0))), (q_26, .inl (cA_27, 2, .inl (fun _ => 0))), (q_29, .inl (cA_30, 2, .inl (fun _ => 0))), (q_32, .inl (cA_33, 2, .inl (fun _ => 0))), (q_35, .inl (cA_36, 2, .inl (fun _ => 0))), (q_111, .inl (cA_112, 6, .inl (fun _ => 0)))] := hD
  generalize efs_113 : (fs_110.set 66 (.ref q_111)) = fs_113 at hP hD
  have lfs_113 : fs_113.length = 81 := by rw [← efs_113, List.length_set]; exact lfs_110
  have ffs_113_2 : fs_113[2]? = some (.int 0) := by rw [← efs_113]; exact p1_sn (by decide) ffs_110_2
  have ffs_113_3 : fs_113[3]? = some (.int 0) := by rw [← efs_113]; exact p1_sn (by decide) ffs_110_3
  have ffs_113_4 : fs_113[4]? = some (.int 0) := by rw [← efs_113]; exact p1_sn (by decide) ffs_110_4
  have ffs_113_43 : fs_113[43]? = some (.int 0) := by rw [← efs_113]; exact p1_sn (by decide) ffs_110_43
  have ffs_113_60 : fs_113[60]? = some (.int 0) := by rw [← efs_113]; exact p1_sn (by decide) ffs_110_60
  have ffs_113_75 : fs_113[75]? = some (.int 0) := by rw [← efs_113]; exact p1_sn (by decide) ffs_110_75
  have ffs_113_7 : fs_113[7]? = some (.int 0) := by rw [← efs_113]; exact p1_sn (by decide) ffs_110_7
  have ffs_113_76 : fs_113[76]? = some (.int 0) := by rw [← efs_113]; exact p1_sn (by decide) ffs_110_76
  have ffs_113_44 : fs_113[44]? = some (.int 0) := by rw [← efs_113]; exact p1_sn (by decide) ffs_110_44
  have ffs_113_0 : fs_113[0]? = some (.ref q_1) := by rw [← efs_113]; exact p1_sn (by decide) ffs_110_0
  have ffs_113_5 : fs_113[5]? = some (.int (-1)) := by rw [← efs_113]; exact p1_sn (by decide) ffs_110_5
  have ffs_113_11 : fs_113[11]? = some (.ref q_8) := by rw [← efs_113]; exact p1_sn (by decide) ffs_110_11
  have ffs_113_12 : fs_113[12]? = some (.ref q_11) := by rw [← efs_113]; exact p1_sn (by decide) ffs_110_12
  have ffs_113_13 : fs_113[13]? = some (.ref q_14) := by rw [← efs_113]; exact p1_sn (by decide) ffs_110_13
  have ffs_113_14 : fs_113[14]? = some (.ref q_17) := by rw [← efs_113]; exact p1_sn (by decide) ffs_110_14
  have ffs_113_15 : fs_113[15]? = some (.ref q_20) := by rw [← efs_113]; exact p1_sn (by decide) ffs_110_15
  have ffs_113_16 : fs_113[16]? = some (.ref q_23) := by rw [← efs_113]; exact p1_sn (by decide) ffs_110_16
  have ffs_113_17 : fs_113[17]? = some (.ref q_26) := by rw [← efs_113]; exact p1_sn (by decide) ffs_110_17
  have ffs_113_18 : fs_113[18]? = some (.ref q_29) := by rw [← efs_113]; exact p1_sn (by decide) ffs_110_18
  have ffs_113_19 : fs_113[19]? = some (.ref q_32) := by rw [← efs_113]; exact p1_sn (by decide) ffs_110_19
  have ffs_113_20 : fs_113[20]? = some (.ref q_35) := by rw [← efs_113]; exact p1_sn (by decide) ffs_110_20
  have ffs_113_65 : fs_113[65]? = some (.int 1) := by rw [← efs_113]; exact p1_sn (by decide) ffs_110_65
  have ffs_113_66 : fs_113[66]? = some (.ref q_111) := by rw [← efs_113]; exact p1_sa lfs_110 (by decide)
  have hP := hP.sub (ws' := [(h0, .inr (8, fs_113)), (q_1, .inl (cA_2, 1620, .inl (fun _ => 0))), (q_8, .inl (cA_9, 2, .inl (fun _ => 0))), (q_11, .inl (cA_12, 2, .inl (fun _ => 0))), (q_14, .inl (cA_15, 2, .inl (fun _ => 0))), (q_17, .inl (cA_18, 2, .inl (fun _ => 0))), (q_20, .inl (cA_21, 2, .inl (fun _ => 0))), (q_23, .inl (cA_24, 2, .inl (fun _ => 0))), (q_26, .inl (cA_27, 2, .inl (fun _ => 0))), (q_29, .inl (cA_30, 2, .inl (fun _ => 0))), (q_32, .inl (cA_33, 2, .inl (fun _ => 0))), (q_35, .inl (cA_36, 2, .inl (fun _ => 0)))]) [0, 1, 2, 3, 4, 5, 6, 7, 8, 9, 10, 11] rfl
  have hD := hD.sub (ws' := [(h0, .inr (8, fs_113)), (q_1, .inl (cA_2, 1620, .inl (fun _ => 0))), (q_8, .inl (cA_9, 2, .inl (fun _ => 0))), (q_11, .inl (cA_12, 2, .inl (fun _ => 0))), (q_14, .inl (cA_15, 2, .inl (fun _ => 0))), (q_17, .inl (cA_18, 2, .inl (fun _ => 0))), (q_20, .inl (cA_21, 2, .inl (fun _ => 0))), (q_23, .inl (cA_24, 2, .inl (fun _ => 0))), (q_26, .inl (cA_27, 2, .inl (fun _ => 0))), (q_29, .inl (cA_30, 2, .inl (fun _ => 0))), (q_32, .inl (cA_33, 2, .inl (fun _ => 0))), (q_35, .inl (cA_36, 2, .inl (fun _ => 0)))]) [0, 1, 2, 3, 4, 5, 6, 7, 8, 9, 10, 11] (by decide) rfl
  have hK := hK.sub (tys' := [(cA_2, .byte), (cA_9, .int), (cA_12, .int), (cA_15, .int), (cA_18, .int), (cA_21, .int), (cA_24, .int), (cA_27, .int), (cA_30, .int), (cA_33, .boolean), (cA_36, .boolean)]) [0, 1, 2, 3, 4, 5, 6, 7, 8, 9, 10] rfl
  refine lv_aload_n hx hb dX9_init_303 rfl (lv_at hl 0 rfl) ?_
  refine lv_bipush (v := 6) hx hb dX9_init_304 (by decide) ?_
  refine va_newa (atype := .int) (ty := .int) (N' := 6) (a0 := (6, .inl (fun _ => 0))) hx hb k_7 rfl hK hP hD hS hA (fun _ => rfl) (by decide) rfl (by decide) (by decide) (by decide) dX9_init_306 (fun q_114 cA_115 H hK hP hD hS => ?_)
  have hP : va_P (dC, dI) vwCl [(h0, .inr (8, fs_113)), (q_1, .inl (cA_2, 1620, .inl (fun _ => 0))), (q_8, .inl (cA_9, 2, .inl (fun _ => 0))), (q_11, .inl (cA_12, 2, .inl (fun _ => 0))), (q_14, .inl (cA_15, 2, .inl (fun _ => 0))), (q_17, .inl (cA_18, 2, .inl (fun _ => 0))), (q_20, .inl (cA_21, 2, .inl (fun _ => 0))), (q_23, .inl (cA_24, 2, .inl (fun _ => 0))), (q_26, .inl (cA_27, 2, .inl (fun _ => 0))), (q_29, .inl (cA_30, 2, .inl (fun _ => 0))), (q_32, .inl (cA_33, 2, .inl (fun _ => 0))), (q_35, .inl (cA_36, 2, .inl (fun _ => 0))), (q_114, .inl (cA_115, 6, .inl (fun _ => 0)))] H := hP
  have hD : va_D A [(h0, .inr (8, fs_113)), (q_1, .inl (cA_2, 1620, .inl (fun _ => 0))), (q_8, .inl (cA_9, 2, .inl (fun _ => 0))), (q_11, .inl (cA_12, 2, .inl (fun _ => 0))), (q_14, .inl (cA_15, 2, .inl (fun _ => 0))), (q_17, .inl (cA_18, 2, .inl (fun _ => 0))), (q_20, .inl (cA_21, 2, .inl (fun _ => 0))), (q_23, .inl (cA_24, 2, .inl (fun _ => 0))), (q_26, .inl (cA_27, 2, .inl (fun _ => 0))), (q_29, .inl (cA_30, 2, .inl (fun _ => 0))), (q_32, .inl (cA_33, 2, .inl (fun _ => 0))), (q_35, .inl (cA_36, 2, .inl (fun _ => 0))), (q_114, .inl (cA_115, 6, .inl (fun _ => 0)))] := hD
  have hK : va_K (dC, dI) vwCl [(cA_2, .byte), (cA_9, .int), (cA_12, .int), (cA_15, .int), (cA_18, .int), (cA_21, .int), (cA_24, .int), (cA_27, .int), (cA_30, .int), (cA_33, .boolean), (cA_36, .boolean), (cA_115, .int)] s := hK
  refine W.widen (k := 38) (n := 7462) (by decide) (by decide) ?_
  refine va_putF (D := (dC, dI)) (ci := 8) (v := .ref q_114) (ty := .array .int) (C := RX9) (T := TX9) (N := 81) hx hb hts i_X9 tyX9 tyX9_ok nmX9 hown hK hP hD hS 0 rfl rfl 67 (by decide) k_46 (fun _ h9 => h9) rfl hin rfl (by decide +kernel) rfl rfl (by rw [lfs_113]; decide) dX9_init_308 (fun H locs hP hD hS => ?_)
  have hP : va_P (dC, dI) vwCl [(h0, .inr (8, (fs_113.set 67 (.ref q_114)))), (q_1, .inl (cA_2, 1620, .inl (fun _ => 0))), (q_8, .inl (cA_9, 2, .inl (fun _ => 0))), (q_11, .inl (cA_12, 2, .inl (fun _ => 0))), (q_14, .inl (cA_15, 2, .inl (fun _ => 0))), (q_17, .inl (cA_18, 2, .inl (fun _ => 0))), (q_20, .inl (cA_21, 2, .inl (fun _ => 0))), (q_23, .inl (cA_24, 2, .inl (fun _ => 0))), (q_26, .inl (cA_27, 2, .inl (fun _ => 0))), (q_29, .inl (cA_30, 2, .inl (fun _ => 0))), (q_32, .inl (cA_33, 2, .inl (fun _ => 0))), (q_35, .inl (cA_36, 2, .inl (fun _ => 0))), (q_114, .inl (cA_115, 6, .inl (fun _ => 0)))] H := hP
  have hD : va_D A [(h0, .inr (8, (fs_113.set 67 (.ref q_114)))), (q_1, .inl (cA_2, 1620, .inl (fun _ => 0))), (q_8, .inl (cA_9, 2, .inl (fun _ => 0))), (q_11, .inl (cA_12, 2, .inl (fun _ => 0))), (q_14, .inl (cA_15, 2, .inl (fun _ => 0))), (q_17, .inl (cA_18, 2, .inl (fun _ => 0))), (q_20, .inl (cA_21, 2, .inl (fun _ => 0))), (q_23, .inl (cA_24, 2, .inl (fun _ => 0))), (q_26, .inl (cA_27, 2, .inl (fun _ => 0))), (q_29, .inl (cA_30, 2, .inl (fun _ => 0))), (q_32, .inl (cA_33, 2, .inl (fun _ => 0))), (q_35, .inl (cA_36, 2, .inl (fun _ => 0))), (q_114, .inl (cA_115, 6, .inl (fun _ => 0)))] := hD
  generalize efs_116 : (fs_113.set 67 (.ref q_114)) = fs_116 at hP hD
  have lfs_116 : fs_116.length = 81 := by rw [← efs_116, List.length_set]; exact lfs_113
  have ffs_116_2 : fs_116[2]? = some (.int 0) := by rw [← efs_116]; exact p1_sn (by decide) ffs_113_2
  have ffs_116_3 : fs_116[3]? = some (.int 0) := by rw [← efs_116]; exact p1_sn (by decide) ffs_113_3
  have ffs_116_4 : fs_116[4]? = some (.int 0) := by rw [← efs_116]; exact p1_sn (by decide) ffs_113_4
  have ffs_116_43 : fs_116[43]? = some (.int 0) := by rw [← efs_116]; exact p1_sn (by decide) ffs_113_43
  have ffs_116_60 : fs_116[60]? = some (.int 0) := by rw [← efs_116]; exact p1_sn (by decide) ffs_113_60
  have ffs_116_75 : fs_116[75]? = some (.int 0) := by rw [← efs_116]; exact p1_sn (by decide) ffs_113_75
  have ffs_116_7 : fs_116[7]? = some (.int 0) := by rw [← efs_116]; exact p1_sn (by decide) ffs_113_7
  have ffs_116_76 : fs_116[76]? = some (.int 0) := by rw [← efs_116]; exact p1_sn (by decide) ffs_113_76
  have ffs_116_44 : fs_116[44]? = some (.int 0) := by rw [← efs_116]; exact p1_sn (by decide) ffs_113_44
  have ffs_116_0 : fs_116[0]? = some (.ref q_1) := by rw [← efs_116]; exact p1_sn (by decide) ffs_113_0
  have ffs_116_5 : fs_116[5]? = some (.int (-1)) := by rw [← efs_116]; exact p1_sn (by decide) ffs_113_5
  have ffs_116_11 : fs_116[11]? = some (.ref q_8) := by rw [← efs_116]; exact p1_sn (by decide) ffs_113_11
  have ffs_116_12 : fs_116[12]? = some (.ref q_11) := by rw [← efs_116]; exact p1_sn (by decide) ffs_113_12
  have ffs_116_13 : fs_116[13]? = some (.ref q_14) := by rw [← efs_116]; exact p1_sn (by decide) ffs_113_13
  have ffs_116_14 : fs_116[14]? = some (.ref q_17) := by rw [← efs_116]; exact p1_sn (by decide) ffs_113_14
  have ffs_116_15 : fs_116[15]? = some (.ref q_20) := by rw [← efs_116]; exact p1_sn (by decide) ffs_113_15
  have ffs_116_16 : fs_116[16]? = some (.ref q_23) := by rw [← efs_116]; exact p1_sn (by decide) ffs_113_16
  have ffs_116_17 : fs_116[17]? = some (.ref q_26) := by rw [← efs_116]; exact p1_sn (by decide) ffs_113_17
  have ffs_116_18 : fs_116[18]? = some (.ref q_29) := by rw [← efs_116]; exact p1_sn (by decide) ffs_113_18
  have ffs_116_19 : fs_116[19]? = some (.ref q_32) := by rw [← efs_116]; exact p1_sn (by decide) ffs_113_19
  have ffs_116_20 : fs_116[20]? = some (.ref q_35) := by rw [← efs_116]; exact p1_sn (by decide) ffs_113_20
  have ffs_116_65 : fs_116[65]? = some (.int 1) := by rw [← efs_116]; exact p1_sn (by decide) ffs_113_65
  have ffs_116_67 : fs_116[67]? = some (.ref q_114) := by rw [← efs_116]; exact p1_sa lfs_113 (by decide)
  have hP := hP.sub (ws' := [(h0, .inr (8, fs_116)), (q_1, .inl (cA_2, 1620, .inl (fun _ => 0))), (q_8, .inl (cA_9, 2, .inl (fun _ => 0))), (q_11, .inl (cA_12, 2, .inl (fun _ => 0))), (q_14, .inl (cA_15, 2, .inl (fun _ => 0))), (q_17, .inl (cA_18, 2, .inl (fun _ => 0))), (q_20, .inl (cA_21, 2, .inl (fun _ => 0))), (q_23, .inl (cA_24, 2, .inl (fun _ => 0))), (q_26, .inl (cA_27, 2, .inl (fun _ => 0))), (q_29, .inl (cA_30, 2, .inl (fun _ => 0))), (q_32, .inl (cA_33, 2, .inl (fun _ => 0))), (q_35, .inl (cA_36, 2, .inl (fun _ => 0)))]) [0, 1, 2, 3, 4, 5, 6, 7, 8, 9, 10, 11] rfl
  have hD := hD.sub (ws' := [(h0, .inr (8, fs_116)), (q_1, .inl (cA_2, 1620, .inl (fun _ => 0))), (q_8, .inl (cA_9, 2, .inl (fun _ => 0))), (q_11, .inl (cA_12, 2, .inl (fun _ => 0))), (q_14, .inl (cA_15, 2, .inl (fun _ => 0))), (q_17, .inl (cA_18, 2, .inl (fun _ => 0))), (q_20, .inl (cA_21, 2, .inl (fun _ => 0))), (q_23, .inl (cA_24, 2, .inl (fun _ => 0))), (q_26, .inl (cA_27, 2, .inl (fun _ => 0))), (q_29, .inl (cA_30, 2, .inl (fun _ => 0))), (q_32, .inl (cA_33, 2, .inl (fun _ => 0))), (q_35, .inl (cA_36, 2, .inl (fun _ => 0)))]) [0, 1, 2, 3, 4, 5, 6, 7, 8, 9, 10, 11] (by decide) rfl
  have hK := hK.sub (tys' := [(cA_2, .byte), (cA_9, .int), (cA_12, .int), (cA_15, .int), (cA_18, .int), (cA_21, .int), (cA_24, .int), (cA_27, .int), (cA_30, .int), (cA_33, .boolean), (cA_36, .boolean)]) [0, 1, 2, 3, 4, 5, 6, 7, 8, 9, 10] rfl
  refine lv_aload_n hx hb dX9_init_311 rfl (lv_at hl 0 rfl) ?_
  refine lv_bipush (v := 40) hx hb dX9_init_312 (by decide) ?_
  refine va_newa (atype := .int) (ty := .int) (N' := 40) (a0 := (40, .inl (fun _ => 0))) hx hb k_7 rfl hK hP hD hS hA (fun _ => rfl) (by decide) rfl (by decide) (by decide) (by decide) dX9_init_314 (fun q_117 cA_118 H hK hP hD hS => ?_)
  have hP : va_P (dC, dI) vwCl [(h0, .inr (8, fs_116)), (q_1, .inl (cA_2, 1620, .inl (fun _ => 0))), (q_8, .inl (cA_9, 2, .inl (fun _ => 0))), (q_11, .inl (cA_12, 2, .inl (fun _ => 0))), (q_14, .inl (cA_15, 2, .inl (fun _ => 0))), (q_17, .inl (cA_18, 2, .inl (fun _ => 0))), (q_20, .inl (cA_21, 2, .inl (fun _ => 0))), (q_23, .inl (cA_24, 2, .inl (fun _ => 0))), (q_26, .inl (cA_27, 2, .inl (fun _ => 0))), (q_29, .inl (cA_30, 2, .inl (fun _ => 0))), (q_32, .inl (cA_33, 2, .inl (fun _ => 0))), (q_35, .inl (cA_36, 2, .inl (fun _ => 0))), (q_117, .inl (cA_118, 40, .inl (fun _ => 0)))] H := hP
  have hD : va_D A [(h0, .inr (8, fs_116)), (q_1, .inl (cA_2, 1620, .inl (fun _ => 0))), (q_8, .inl (cA_9, 2, .inl (fun _ => 0))), (q_11, .inl (cA_12, 2, .inl (fun _ => 0))), (q_14, .inl (cA_15, 2, .inl (fun _ => 0))), (q_17, .inl (cA_18, 2, .inl (fun _ => 0))), (q_20, .inl (cA_21, 2, .inl (fun _ => 0))), (q_23, .inl (cA_24, 2, .inl (fun _ => 0))), (q_26, .inl (cA_27, 2, .inl (fun _ => 0))), (q_29, .inl (cA_30, 2, .inl (fun _ => 0))), (q_32, .inl (cA_33, 2, .inl (fun _ => 0))), (q_35, .inl (cA_36, 2, .inl (fun _ => 0))), (q_117, .inl (cA_118, 40, .inl (fun _ => 0)))] := hD
  have hK : va_K (dC, dI) vwCl [(cA_2, .byte), (cA_9, .int), (cA_12, .int), (cA_15, .int), (cA_18, .int), (cA_21, .int), (cA_24, .int), (cA_27, .int), (cA_30, .int), (cA_33, .boolean), (cA_36, .boolean), (cA_118, .int)] s := hK
  refine W.widen (k := 39) (n := 7502) (by decide) (by decide) ?_
  refine va_putF (D := (dC, dI)) (ci := 8) (v := .ref q_117) (ty := .array .int) (C := RX9) (T := TX9) (N := 81) hx hb hts i_X9 tyX9 tyX9_ok nmX9 hown hK hP hD hS 0 rfl rfl 68 (by decide) k_47 (fun _ h9 => h9) rfl hin rfl (by decide +kernel) rfl rfl (by rw [lfs_116]; decide) dX9_init_316 (fun H locs hP hD hS => ?_)
  have hP : va_P (dC, dI) vwCl [(h0, .inr (8, (fs_116.set 68 (.ref q_117)))), (q_1, .inl (cA_2, 1620, .inl (fun _ => 0))), (q_8, .inl (cA_9, 2, .inl (fun _ => 0))), (q_11, .inl (cA_12, 2, .inl (fun _ => 0))), (q_14, .inl (cA_15, 2, .inl (fun _ => 0))), (q_17, .inl (cA_18, 2, .inl (fun _ => 0))), (q_20, .inl (cA_21, 2, .inl (fun _ => 0))), (q_23, .inl (cA_24, 2, .inl (fun _ => 0))), (q_26, .inl (cA_27, 2, .inl (fun _ => 0))), (q_29, .inl (cA_30, 2, .inl (fun _ => 0))), (q_32, .inl (cA_33, 2, .inl (fun _ => 0))), (q_35, .inl (cA_36, 2, .inl (fun _ => 0))), (q_117, .inl (cA_118, 40, .inl (fun _ => 0)))] H := hP
  have hD : va_D A [(h0, .inr (8, (fs_116.set 68 (.ref q_117)))), (q_1, .inl (cA_2, 1620, .inl (fun _ => 0))), (q_8, .inl (cA_9, 2, .inl (fun _ => 0))), (q_11, .inl (cA_12, 2, .inl (fun _ => 0))), (q_14, .inl (cA_15, 2, .inl (fun _ => 0))), (q_17, .inl (cA_18, 2, .inl (fun _ => 0))), (q_20, .inl (cA_21, 2, .inl (fun _ => 0))), (q_23, .inl (cA_24, 2, .inl (fun _ => 0))), (q_26, .inl (cA_27, 2, .inl (fun _ => 0))), (q_29, .inl (cA_30, 2, .inl (fun _ => 0))), (q_32, .inl (cA_33, 2, .inl (fun _ => 0))), (q_35, .inl (cA_36, 2, .inl (fun _ => 0))), (q_117, .inl (cA_118, 40, .inl (fun _ => 0)))] := hD
  generalize efs_119 : (fs_116.set 68 (.ref q_117)) = fs_119 at hP hD
  have lfs_119 : fs_119.length = 81 := by rw [← efs_119, List.length_set]; exact lfs_116
  have ffs_119_2 : fs_119[2]? = some (.int 0) := by rw [← efs_119]; exact p1_sn (by decide) ffs_116_2
  have ffs_119_3 : fs_119[3]? = some (.int 0) := by rw [← efs_119]; exact p1_sn (by decide) ffs_116_3
  have ffs_119_4 : fs_119[4]? = some (.int 0) := by rw [← efs_119]; exact p1_sn (by decide) ffs_116_4
  have ffs_119_43 : fs_119[43]? = some (.int 0) := by rw [← efs_119]; exact p1_sn (by decide) ffs_116_43
  have ffs_119_60 : fs_119[60]? = some (.int 0) := by rw [← efs_119]; exact p1_sn (by decide) ffs_116_60
  have ffs_119_75 : fs_119[75]? = some (.int 0) := by rw [← efs_119]; exact p1_sn (by decide) ffs_116_75
  have ffs_119_7 : fs_119[7]? = some (.int 0) := by rw [← efs_119]; exact p1_sn (by decide) ffs_116_7
  have ffs_119_76 : fs_119[76]? = some (.int 0) := by rw [← efs_119]; exact p1_sn (by decide) ffs_116_76
  have ffs_119_44 : fs_119[44]? = some (.int 0) := by rw [← efs_119]; exact p1_sn (by decide) ffs_116_44
  have ffs_119_0 : fs_119[0]? = some (.ref q_1) := by rw [← efs_119]; exact p1_sn (by decide) ffs_116_0
  have ffs_119_5 : fs_119[5]? = some (.int (-1)) := by rw [← efs_119]; exact p1_sn (by decide) ffs_116_5
  have ffs_119_11 : fs_119[11]? = some (.ref q_8) := by rw [← efs_119]; exact p1_sn (by decide) ffs_116_11
  have ffs_119_12 : fs_119[12]? = some (.ref q_11) := by rw [← efs_119]; exact p1_sn (by decide) ffs_116_12
  have ffs_119_13 : fs_119[13]? = some (.ref q_14) := by rw [← efs_119]; exact p1_sn (by decide) ffs_116_13
  have ffs_119_14 : fs_119[14]? = some (.ref q_17) := by rw [← efs_119]; exact p1_sn (by decide) ffs_116_14
  have ffs_119_15 : fs_119[15]? = some (.ref q_20) := by rw [← efs_119]; exact p1_sn (by decide) ffs_116_15
  have ffs_119_16 : fs_119[16]? = some (.ref q_23) := by rw [← efs_119]; exact p1_sn (by decide) ffs_116_16
  have ffs_119_17 : fs_119[17]? = some (.ref q_26) := by rw [← efs_119]; exact p1_sn (by decide) ffs_116_17
  have ffs_119_18 : fs_119[18]? = some (.ref q_29) := by rw [← efs_119]; exact p1_sn (by decide) ffs_116_18
  have ffs_119_19 : fs_119[19]? = some (.ref q_32) := by rw [← efs_119]; exact p1_sn (by decide) ffs_116_19
  have ffs_119_20 : fs_119[20]? = some (.ref q_35) := by rw [← efs_119]; exact p1_sn (by decide) ffs_116_20
  have ffs_119_65 : fs_119[65]? = some (.int 1) := by rw [← efs_119]; exact p1_sn (by decide) ffs_116_65
  have ffs_119_68 : fs_119[68]? = some (.ref q_117) := by rw [← efs_119]; exact p1_sa lfs_116 (by decide)
  have hP := hP.sub (ws' := [(h0, .inr (8, fs_119)), (q_1, .inl (cA_2, 1620, .inl (fun _ => 0))), (q_8, .inl (cA_9, 2, .inl (fun _ => 0))), (q_11, .inl (cA_12, 2, .inl (fun _ => 0))), (q_14, .inl (cA_15, 2, .inl (fun _ => 0))), (q_17, .inl (cA_18, 2, .inl (fun _ => 0))), (q_20, .inl (cA_21, 2, .inl (fun _ => 0))), (q_23, .inl (cA_24, 2, .inl (fun _ => 0))), (q_26, .inl (cA_27, 2, .inl (fun _ => 0))), (q_29, .inl (cA_30, 2, .inl (fun _ => 0))), (q_32, .inl (cA_33, 2, .inl (fun _ => 0))), (q_35, .inl (cA_36, 2, .inl (fun _ => 0)))]) [0, 1, 2, 3, 4, 5, 6, 7, 8, 9, 10, 11] rfl
  have hD := hD.sub (ws' := [(h0, .inr (8, fs_119)), (q_1, .inl (cA_2, 1620, .inl (fun _ => 0))), (q_8, .inl (cA_9, 2, .inl (fun _ => 0))), (q_11, .inl (cA_12, 2, .inl (fun _ => 0))), (q_14, .inl (cA_15, 2, .inl (fun _ => 0))), (q_17, .inl (cA_18, 2, .inl (fun _ => 0))), (q_20, .inl (cA_21, 2, .inl (fun _ => 0))), (q_23, .inl (cA_24, 2, .inl (fun _ => 0))), (q_26, .inl (cA_27, 2, .inl (fun _ => 0))), (q_29, .inl (cA_30, 2, .inl (fun _ => 0))), (q_32, .inl (cA_33, 2, .inl (fun _ => 0))), (q_35, .inl (cA_36, 2, .inl (fun _ => 0)))]) [0, 1, 2, 3, 4, 5, 6, 7, 8, 9, 10, 11] (by decide) rfl
  have hK := hK.sub (tys' := [(cA_2, .byte), (cA_9, .int), (cA_12, .int), (cA_15, .int), (cA_18, .int), (cA_21, .int), (cA_24, .int), (cA_27, .int), (cA_30, .int), (cA_33, .boolean), (cA_36, .boolean)]) [0, 1, 2, 3, 4, 5, 6, 7, 8, 9, 10] rfl
  refine lv_aload_n hx hb dX9_init_319 rfl (lv_at hl 0 rfl) ?_
  refine lv_bipush (v := 40) hx hb dX9_init_320 (by decide) ?_
  refine va_newa (atype := .int) (ty := .int) (N' := 40) (a0 := (40, .inl (fun _ => 0))) hx hb k_7 rfl hK hP hD hS hA (fun _ => rfl) (by decide) rfl (by decide) (by decide) (by decide) dX9_init_322 (fun q_120 cA_121 H hK hP hD hS => ?_)
  have hP : va_P (dC, dI) vwCl [(h0, .inr (8, fs_119)), (q_1, .inl (cA_2, 1620, .inl (fun _ => 0))), (q_8, .inl (cA_9, 2, .inl (fun _ => 0))), (q_11, .inl (cA_12, 2, .inl (fun _ => 0))), (q_14, .inl (cA_15, 2, .inl (fun _ => 0))), (q_17, .inl (cA_18, 2, .inl (fun _ => 0))), (q_20, .inl (cA_21, 2, .inl (fun _ => 0))), (q_23, .inl (cA_24, 2, .inl (fun _ => 0))), (q_26, .inl (cA_27, 2, .inl (fun _ => 0))), (q_29, .inl (cA_30, 2, .inl (fun _ => 0))), (q_32, .inl (cA_33, 2, .inl (fun _ => 0))), (q_35, .inl (cA_36, 2, .inl (fun _ => 0))), (q_120, .inl (cA_121, 40, .inl (fun _ => 0)))] H := hP
  have hD : va_D A [(h0, .inr (8, fs_119)), (q_1, .inl (cA_2, 1620, .inl (fun _ => 0))), (q_8, .inl (cA_9, 2, .inl (fun _ => 0))), (q_11, .inl (cA_12, 2, .inl (fun _ => 0))), (q_14, .inl (cA_15, 2, .inl (fun _ => 0))), (q_17, .inl (cA_18, 2, .inl (fun _ => 0))), (q_20, .inl (cA_21, 2, .inl (fun _ => 0))), (q_23, .inl (cA_24, 2, .inl (fun _ => 0))), (q_26, .inl (cA_27, 2, .inl (fun _ => 0))), (q_29, .inl (cA_30, 2, .inl (fun _ => 0))), (q_32, .inl (cA_33, 2, .inl (fun _ => 0))), (q_35, .inl (cA_36, 2, .inl (fun _ => 0))), (q_120, .inl (cA_121, 40, .inl (fun _ => 0)))] := hD
  have hK : va_K (dC, dI) vwCl [(cA_2, .byte), (cA_9, .int), (cA_12, .int), (cA_15, .int), (cA_18, .int), (cA_21, .int), (cA_24, .int), (cA_27, .int), (cA_30, .int), (cA_33, .boolean), (cA_36, .boolean), (cA_121, .int)] s := hK
  refine W.widen (k := 40) (n := 7542) (by decide) (by decide) ?_
  refine va_putF (D := (dC, dI)) (ci := 8) (v := .ref q_120) (ty := .array .int) (C := RX9) (T := TX9) (N := 81) hx hb hts i_X9 tyX9 tyX9_ok nmX9 hown hK hP hD hS 0 rfl rfl 69 (by decide) k_48 (fun _ h9 => h9) rfl hin rfl (by decide +kernel) rfl rfl (by rw [lfs_119]; decide) dX9_init_324 (fun H locs hP hD hS => ?_)
  have hP : va_P (dC, dI) vwCl [(h0, .inr (8, (fs_119.set 69 (.ref q_120)))), (q_1, .inl (cA_2, 1620, .inl (fun _ => 0))), (q_8, .inl (cA_9, 2, .inl (fun _ => 0))), (q_11, .inl (cA_12, 2, .inl (fun _ => 0))), (q_14, .inl (cA_15, 2, .inl (fun _ => 0))), (q_17, .inl (cA_18, 2, .inl (fun _ => 0))), (q_20, .inl (cA_21, 2, .inl (fun _ => 0))), (q_23, .inl (cA_24, 2, .inl (fun _ => 0))), (q_26, .inl (cA_27, 2, .inl (fun _ => 0))), (q_29, .inl (cA_30, 2, .inl (fun _ => 0))), (q_32, .inl (cA_33, 2, .inl (fun _ => 0))), (q_35, .inl (cA_36, 2, .inl (fun _ => 0))), (q_120, .inl (cA_121, 40, .inl (fun _ => 0)))] H := hP
  have hD : va_D A [(h0, .inr (8, (fs_119.set 69 (.ref q_120)))), (q_1, .inl (cA_2, 1620, .inl (fun _ => 0))), (q_8, .inl (cA_9, 2, .inl (fun _ => 0))), (q_11, .inl (cA_12, 2, .inl (fun _ => 0))), (q_14, .inl (cA_15, 2, .inl (fun _ => 0))), (q_17, .inl (cA_18, 2, .inl (fun _ => 0))), (q_20, .inl (cA_21, 2, .inl (fun _ => 0))), (q_23, .inl (cA_24, 2, .inl (fun _ => 0))), (q_26, .inl (cA_27, 2, .inl (fun _ => 0))), (q_29, .inl (cA_30, 2, .inl (fun _ => 0))), (q_32, .inl (cA_33, 2, .inl (fun _ => 0))), (q_35, .inl (cA_36, 2, .inl (fun _ => 0))), (q_120, .inl (cA_121, 40, .inl (fun _ => 0)))] := hD
  generalize efs_122 : (fs_119.set 69 (.ref q_120)) = fs_122 at hP hD
  have lfs_122 : fs_122.length = 81 := by rw [← efs_122, List.length_set]; exact lfs_119
  have ffs_122_2 : fs_122[2]? = some (.int 0) := by rw [← efs_122]; exact p1_sn (by decide) ffs_119_2
  have ffs_122_3 : fs_122[3]? = some (.int 0) := by rw [← efs_122]; exact p1_sn (by decide) ffs_119_3
  have ffs_122_4 : fs_122[4]? = some (.int 0) := by rw [← efs_122]; exact p1_sn (by decide) ffs_119_4
  have ffs_122_43 : fs_122[43]? = some (.int 0) := by rw [← efs_122]; exact p1_sn (by decide) ffs_119_43
  have ffs_122_60 : fs_122[60]? = some (.int 0) := by rw [← efs_122]; exact p1_sn (by decide) ffs_119_60
  have ffs_122_75 : fs_122[75]? = some (.int 0) := by rw [← efs_122]; exact p1_sn (by decide) ffs_119_75
  have ffs_122_7 : fs_122[7]? = some (.int 0) := by rw [← efs_122]; exact p1_sn (by decide) ffs_119_7
  have ffs_122_76 : fs_122[76]? = some (.int 0) := by rw [← efs_122]; exact p1_sn (by decide) ffs_119_76
  have ffs_122_44 : fs_122[44]? = some (.int 0) := by rw [← efs_122]; exact p1_sn (by decide) ffs_119_44
  have ffs_122_0 : fs_122[0]? = some (.ref q_1) := by rw [← efs_122]; exact p1_sn (by decide) ffs_119_0
  have ffs_122_5 : fs_122[5]? = some (.int (-1)) := by rw [← efs_122]; exact p1_sn (by decide) ffs_119_5
  have ffs_122_11 : fs_122[11]? = some (.ref q_8) := by rw [← efs_122]; exact p1_sn (by decide) ffs_119_11
  have ffs_122_12 : fs_122[12]? = some (.ref q_11) := by rw [← efs_122]; exact p1_sn (by decide) ffs_119_12
  have ffs_122_13 : fs_122[13]? = some (.ref q_14) := by rw [← efs_122]; exact p1_sn (by decide) ffs_119_13
  have ffs_122_14 : fs_122[14]? = some (.ref q_17) := by rw [← efs_122]; exact p1_sn (by decide) ffs_119_14
  have ffs_122_15 : fs_122[15]? = some (.ref q_20) := by rw [← efs_122]; exact p1_sn (by decide) ffs_119_15
  have ffs_122_16 : fs_122[16]? = some (.ref q_23) := by rw [← efs_122]; exact p1_sn (by decide) ffs_119_16
  have ffs_122_17 : fs_122[17]? = some (.ref q_26) := by rw [← efs_122]; exact p1_sn (by decide) ffs_119_17
  have ffs_122_18 : fs_122[18]? = some (.ref q_29) := by rw [← efs_122]; exact p1_sn (by decide) ffs_119_18
  have ffs_122_19 : fs_122[19]? = some (.ref q_32) := by rw [← efs_122]; exact p1_sn (by decide) ffs_119_19
  have ffs_122_20 : fs_122[20]? = some (.ref q_35) := by rw [← efs_122]; exact p1_sn (by decide) ffs_119_20
  have ffs_122_65 : fs_122[65]? = some (.int 1) := by rw [← efs_122]; exact p1_sn (by decide) ffs_119_65
  have ffs_122_69 : fs_122[69]? = some (.ref q_120) := by rw [← efs_122]; exact p1_sa lfs_119 (by decide)
  have hP := hP.sub (ws' := [(h0, .inr (8, fs_122)), (q_1, .inl (cA_2, 1620, .inl (fun _ => 0))), (q_8, .inl (cA_9, 2, .inl (fun _ => 0))), (q_11, .inl (cA_12, 2, .inl (fun _ => 0))), (q_14, .inl (cA_15, 2, .inl (fun _ => 0))), (q_17, .inl (cA_18, 2, .inl (fun _ => 0))), (q_20, .inl (cA_21, 2, .inl (fun _ => 0))), (q_23, .inl (cA_24, 2, .inl (fun _ => 0))), (q_26, .inl (cA_27, 2, .inl (fun _ => 0))), (q_29, .inl (cA_30, 2, .inl (fun _ => 0))), (q_32, .inl (cA_33, 2, .inl (fun _ => 0))), (q_35, .inl (cA_36, 2, .inl (fun _ => 0)))]) [0, 1, 2, 3, 4, 5, 6, 7, 8, 9, 10, 11] rfl
  have hD := hD.sub (ws' := [(h0, .inr (8, fs_122)), (q_1, .inl (cA_2, 1620, .inl (fun _ => 0))), (q_8, .inl (cA_9, 2, .inl (fun _ => 0))), (q_11, .inl (cA_12, 2, .inl (fun _ => 0))), (q_14, .inl (cA_15, 2, .inl (fun _ => 0))), (q_17, .inl (cA_18, 2, .inl (fun _ => 0))), (q_20, .inl (cA_21, 2, .inl (fun _ => 0))), (q_23, .inl (cA_24, 2, .inl (fun _ => 0))), (q_26, .inl (cA_27, 2, .inl (fun _ => 0))), (q_29, .inl (cA_30, 2, .inl (fun _ => 0))), (q_32, .inl (cA_33, 2, .inl (fun _ => 0))), (q_35, .inl (cA_36, 2, .inl (fun _ => 0)))]) [0, 1, 2, 3, 4, 5, 6, 7, 8, 9, 10, 11] (by decide) rfl
  have hK := hK.sub (tys' := [(cA_2, .byte), (cA_9, .int), (cA_12, .int), (cA_15, .int), (cA_18, .int), (cA_21, .int), (cA_24, .int), (cA_27, .int), (cA_30, .int), (cA_33, .boolean), (cA_36, .boolean)]) [0, 1, 2, 3, 4, 5, 6, 7, 8, 9, 10] rfl
  refine lv_aload_n hx hb dX9_init_327 rfl (lv_at hl 0 rfl) ?_
  refine lv_bipush (v := 40) hx hb dX9_init_328 (by decide) ?_
  refine va_newa (atype := .int) (ty := .int) (N' := 40) (a0 := (40, .inl (fun _ => 0))) hx hb k_7 rfl hK hP hD hS hA (fun _ => rfl) (by decide) rfl (by decide) (by decide) (by decide) dX9_init_330 (fun q_123 cA_124 H hK hP hD hS => ?_)
  have hP : va_P (dC, dI) vwCl [(h0, .inr (8, fs_122)), (q_1, .inl (cA_2, 1620, .inl (fun _ => 0))), (q_8, .inl (cA_9, 2, .inl (fun _ => 0))), (q_11, .inl (cA_12, 2, .inl (fun _ => 0))), (q_14, .inl (cA_15, 2, .inl (fun _ => 0))), (q_17, .inl (cA_18, 2, .inl (fun _ => 0))), (q_20, .inl (cA_21, 2, .inl (fun _ => 0))), (q_23, .inl (cA_24, 2, .inl (fun _ => 0))), (q_26, .inl (cA_27, 2, .inl (fun _ => 0))), (q_29, .inl (cA_30, 2, .inl (fun _ => 0))), (q_32, .inl (cA_33, 2, .inl (fun _ => 0))), (q_35, .inl (cA_36, 2, .inl (fun _ => 0))), (q_123, .inl (cA_124, 40, .inl (fun _ => 0)))] H := hP
  have hD : va_D A [(h0, .inr (8, fs_122)), (q_1, .inl (cA_2, 1620, .inl (fun _ => 0))), (q_8, .inl (cA_9, 2, .inl (fun _ => 0))), (q_11, .inl (cA_12, 2, .inl (fun _ => 0))), (q_14, .inl (cA_15, 2, .inl (fun _ => 0))), (q_17, .inl (cA_18, 2, .inl (fun _ => 0))), (q_20, .inl (cA_21, 2, .inl (fun _ => 0))), (q_23, .inl (cA_24, 2, .inl (fun _ => 0))), (q_26, .inl (cA_27, 2, .inl (fun _ => 0))), (q_29, .inl (cA_30, 2, .inl (fun _ => 0))), (q_32, .inl (cA_33, 2, .inl (fun _ => 0))), (q_35, .inl (cA_36, 2, .inl (fun _ => 0))), (q_123, .inl (cA_124, 40, .inl (fun _ => 0)))] := hD
  have hK : va_K (dC, dI) vwCl [(cA_2, .byte), (cA_9, .int), (cA_12, .int), (cA_15, .int), (cA_18, .int), (cA_21, .int), (cA_24, .int), (cA_27, .int), (cA_30, .int), (cA_33, .boolean), (cA_36, .boolean), (cA_124, .int)] s := hK
  refine W.widen (k := 41) (n := 7582) (by decide) (by decide) ?_
  refine va_putF (D := (dC, dI)) (ci := 8) (v := .ref q_123) (ty := .array .int) (C := RX9) (T := TX9) (N := 81) hx hb hts i_X9 tyX9 tyX9_ok nmX9 hown hK hP hD hS 0 rfl rfl 70 (by decide) k_49 (fun _ h9 => h9) rfl hin rfl (by decide +kernel) rfl rfl (by rw [lfs_122]; decide) dX9_init_332 (fun H locs hP hD hS => ?_)
  have hP : va_P (dC, dI) vwCl [(h0, .inr (8, (fs_122.set 70 (.ref q_123)))), (q_1, .inl (cA_2, 1620, .inl (fun _ => 0))), (q_8, .inl (cA_9, 2, .inl (fun _ => 0))), (q_11, .inl (cA_12, 2, .inl (fun _ => 0))), (q_14, .inl (cA_15, 2, .inl (fun _ => 0))), (q_17, .inl (cA_18, 2, .inl (fun _ => 0))), (q_20, .inl (cA_21, 2, .inl (fun _ => 0))), (q_23, .inl (cA_24, 2, .inl (fun _ => 0))), (q_26, .inl (cA_27, 2, .inl (fun _ => 0))), (q_29, .inl (cA_30, 2, .inl (fun _ => 0))), (q_32, .inl (cA_33, 2, .inl (fun _ => 0))), (q_35, .inl (cA_36, 2, .inl (fun _ => 0))), (q_123, .inl (cA_124, 40, .inl (fun _ => 0)))] H := hP
  have hD : va_D A [(h0, .inr (8, (fs_122.set 70 (.ref q_123)))), (q_1, .inl (cA_2, 1620, .inl (fun _ => 0))), (q_8, .inl (cA_9, 2, .inl (fun _ => 0))), (q_11, .inl (cA_12, 2, .inl (fun _ => 0))), (q_14, .inl (cA_15, 2, .inl (fun _ => 0))), (q_17, .inl (cA_18, 2, .inl (fun _ => 0))), (q_20, .inl (cA_21, 2, .inl (fun _ => 0))), (q_23, .inl (cA_24, 2, .inl (fun _ => 0))), (q_26, .inl (cA_27, 2, .inl (fun _ => 0))), (q_29, .inl (cA_30, 2, .inl (fun _ => 0))), (q_32, .inl (cA_33, 2, .inl (fun _ => 0))), (q_35, .inl (cA_36, 2, .inl (fun _ => 0))), (q_123, .inl (cA_124, 40, .inl (fun _ => 0)))] := hD
  generalize efs_125 : (fs_122.set 70 (.ref q_123)) = fs_125 at hP hD
  have lfs_125 : fs_125.length = 81 := by rw [← efs_125, List.length_set]; exact lfs_122
  have ffs_125_2 : fs_125[2]? = some (.int 0) := by rw [← efs_125]; exact p1_sn (by decide) ffs_122_2
  have ffs_125_3 : fs_125[3]? = some (.int 0) := by rw [← efs_125]; exact p1_sn (by decide) ffs_122_3
  have ffs_125_4 : fs_125[4]? = some (.int 0) := by rw [← efs_125]; exact p1_sn (by decide) ffs_122_4
  have ffs_125_43 : fs_125[43]? = some (.int 0) := by rw [← efs_125]; exact p1_sn (by decide) ffs_122_43
  have ffs_125_60 : fs_125[60]? = some (.int 0) := by rw [← efs_125]; exact p1_sn (by decide) ffs_122_60
  have ffs_125_75 : fs_125[75]? = some (.int 0) := by rw [← efs_125]; exact p1_sn (by decide) ffs_122_75
  have ffs_125_7 : fs_125[7]? = some (.int 0) := by rw [← efs_125]; exact p1_sn (by decide) ffs_122_7
  have ffs_125_76 : fs_125[76]? = some (.int 0) := by rw [← efs_125]; exact p1_sn (by decide) ffs_122_76
  have ffs_125_44 : fs_125[44]? = some (.int 0) := by rw [← efs_125]; exact p1_sn (by decide) ffs_122_44
  have ffs_125_0 : fs_125[0]? = some (.ref q_1) := by rw [← efs_125]; exact p1_sn (by decide) ffs_122_0
  have ffs_125_5 : fs_125[5]? = some (.int (-1)) := by rw [← efs_125]; exact p1_sn (by decide) ffs_122_5
  have ffs_125_11 : fs_125[11]? = some (.ref q_8) := by rw [← efs_125]; exact p1_sn (by decide) ffs_122_11
  have ffs_125_12 : fs_125[12]? = some (.ref q_11) := by rw [← efs_125]; exact p1_sn (by decide) ffs_122_12
  have ffs_125_13 : fs_125[13]? = some (.ref q_14) := by rw [← efs_125]; exact p1_sn (by decide) ffs_122_13
  have ffs_125_14 : fs_125[14]? = some (.ref q_17) := by rw [← efs_125]; exact p1_sn (by decide) ffs_122_14
  have ffs_125_15 : fs_125[15]? = some (.ref q_20) := by rw [← efs_125]; exact p1_sn (by decide) ffs_122_15
  have ffs_125_16 : fs_125[16]? = some (.ref q_23) := by rw [← efs_125]; exact p1_sn (by decide) ffs_122_16
  have ffs_125_17 : fs_125[17]? = some (.ref q_26) := by rw [← efs_125]; exact p1_sn (by decide) ffs_122_17
  have ffs_125_18 : fs_125[18]? = some (.ref q_29) := by rw [← efs_125]; exact p1_sn (by decide) ffs_122_18
  have ffs_125_19 : fs_125[19]? = some (.ref q_32) := by rw [← efs_125]; exact p1_sn (by decide) ffs_122_19
  have ffs_125_20 : fs_125[20]? = some (.ref q_35) := by rw [← efs_125]; exact p1_sn (by decide) ffs_122_20
  have ffs_125_65 : fs_125[65]? = some (.int 1) := by rw [← efs_125]; exact p1_sn (by decide) ffs_122_65
  have ffs_125_70 : fs_125[70]? = some (.ref q_123) := by rw [← efs_125]; exact p1_sa lfs_122 (by decide)
  have hP := hP.sub (ws' := [(h0, .inr (8, fs_125)), (q_1, .inl (cA_2, 1620, .inl (fun _ => 0))), (q_8, .inl (cA_9, 2, .inl (fun _ => 0))), (q_11, .inl (cA_12, 2, .inl (fun _ => 0))), (q_14, .inl (cA_15, 2, .inl (fun _ => 0))), (q_17, .inl (cA_18, 2, .inl (fun _ => 0))), (q_20, .inl (cA_21, 2, .inl (fun _ => 0))), (q_23, .inl (cA_24, 2, .inl (fun _ => 0))), (q_26, .inl (cA_27, 2, .inl (fun _ => 0))), (q_29, .inl (cA_30, 2, .inl (fun _ => 0))), (q_32, .inl (cA_33, 2, .inl (fun _ => 0))), (q_35, .inl (cA_36, 2, .inl (fun _ => 0)))]) [0, 1, 2, 3, 4, 5, 6, 7, 8, 9, 10, 11] rfl
  have hD := hD.sub (ws' := [(h0, .inr (8, fs_125)), (q_1, .inl (cA_2, 1620, .inl (fun _ => 0))), (q_8, .inl (cA_9, 2, .inl (fun _ => 0))), (q_11, .inl (cA_12, 2, .inl (fun _ => 0))), (q_14, .inl (cA_15, 2, .inl (fun _ => 0))), (q_17, .inl (cA_18, 2, .inl (fun _ => 0))), (q_20, .inl (cA_21, 2, .inl (fun _ => 0))), (q_23, .inl (cA_24, 2, .inl (fun _ => 0))), (q_26, .inl (cA_27, 2, .inl (fun _ => 0))), (q_29, .inl (cA_30, 2, .inl (fun _ => 0))), (q_32, .inl (cA_33, 2, .inl (fun _ => 0))), (q_35, .inl (cA_36, 2, .inl (fun _ => 0)))]) [0, 1, 2, 3, 4, 5, 6, 7, 8, 9, 10, 11] (by decide) rfl
  have hK := hK.sub (tys' := [(cA_2, .byte), (cA_9, .int), (cA_12, .int), (cA_15, .int), (cA_18, .int), (cA_21, .int), (cA_24, .int), (cA_27, .int), (cA_30, .int), (cA_33, .boolean), (cA_36, .boolean)]) [0, 1, 2, 3, 4, 5, 6, 7, 8, 9, 10] rfl
  refine lv_aload_n hx hb dX9_init_335 rfl (lv_at hl 0 rfl) ?_
  refine lv_bipush (v := 40) hx hb dX9_init_336 (by decide) ?_
  refine va_newa (atype := .int) (ty := .int) (N' := 40) (a0 := (40, .inl (fun _ => 0))) hx hb k_7 rfl hK hP hD hS hA (fun _ => rfl) (by decide) rfl (by decide) (by decide) (by decide) dX9_init_338 (fun q_126 cA_127 H hK hP hD hS => ?_)
  have hP : va_P (dC, dI) vwCl [(h0, .inr (8, fs_125)), (q_1, .inl (cA_2, 1620, .inl (fun _ => 0))), (q_8, .inl (cA_9, 2, .inl (fun _ => 0))), (q_11, .inl (cA_12, 2, .inl (fun _ => 0))), (q_14, .inl (cA_15, 2, .inl (fun _ => 0))), (q_17, .inl (cA_18, 2, .inl (fun _ => 0))), (q_20, .inl (cA_21, 2, .inl (fun _ => 0))), (q_23, .inl (cA_24, 2, .inl (fun _ => 0))), (q_26, .inl (cA_27, 2, .inl (fun _ => 0))), (q_29, .inl (cA_30, 2, .inl (fun _ => 0))), (q_32, .inl (cA_33, 2, .inl (fun _ => 0))), (q_35, .inl (cA_36, 2, .inl (fun _ => 0))), (q_126, .inl (cA_127, 40, .inl (fun _ => 0)))] H := hP
  have hD : va_D A [(h0, .inr (8, fs_125)), (q_1, .inl (cA_2, 1620, .inl (fun _ => 0))), (q_8, .inl (cA_9, 2, .inl (fun _ => 0))), (q_11, .inl (cA_12, 2, .inl (fun _ => 0))), (q_14, .inl (cA_15, 2, .inl (fun _ => 0))), (q_17, .inl (cA_18, 2, .inl (fun _ => 0))), (q_20, .inl (cA_21, 2, .inl (fun _ => 0))), (q_23, .inl (cA_24, 2, .inl (fun _ => 0))), (q_26, .inl (cA_27, 2, .inl (fun _ => 0))), (q_29, .inl (cA_30, 2, .inl (fun _ => 0))), (q_32, .inl (cA_33, 2, .inl (fun _ => 0))), (q_35, .inl (cA_36, 2, .inl (fun _ => 0))), (q_126, .inl (cA_127, 40, .inl (fun _ => 0)))] := hD
  have hK : va_K (dC, dI) vwCl [(cA_2, .byte), (cA_9, .int), (cA_12, .int), (cA_15, .int), (cA_18, .int), (cA_21, .int), (cA_24, .int), (cA_27, .int), (cA_30, .int), (cA_33, .boolean), (cA_36, .boolean), (cA_127, .int)] s := hK
  refine W.widen (k := 42) (n := 7622) (by decide) (by decide) ?_
  refine va_putF (D := (dC, dI)) (ci := 8) (v := .ref q_126) (ty := .array .int) (C := RX9) (T := TX9) (N := 81) hx hb hts i_X9 tyX9 tyX9_ok nmX9 hown hK hP hD hS 0 rfl rfl 71 (by decide) k_50 (fun _ h9 => h9) rfl hin rfl (by decide +kernel) rfl rfl (by rw [lfs_125]; decide) dX9_init_340 (fun H locs hP hD hS => ?_)
  have hP : va_P (dC, dI) vwCl [(h0, .inr (8, (fs_125.set 71 (.ref q_126)))), (q_1, .inl (cA_2, 1620, .inl (fun _ => 0))), (q_8, .inl (cA_9, 2, .inl (fun _ => 0))), (q_11, .inl (cA_12, 2, .inl (fun _ => 0))), (q_14, .inl (cA_15, 2, .inl (fun _ => 0))), (q_17, .inl (cA_18, 2, .inl (fun _ => 0))), (q_20, .inl (cA_21, 2, .inl (fun _ => 0))), (q_23, .inl (cA_24, 2, .inl (fun _ => 0))), (q_26, .inl (cA_27, 2, .inl (fun _ => 0))), (q_29, .inl (cA_30, 2, .inl (fun _ => 0))), (q_32, .inl (cA_33, 2, .inl (fun _ => 0))), (q_35, .inl (cA_36, 2, .inl (fun _ => 0))), (q_126, .inl (cA_127, 40, .inl (fun _ => 0)))] H := hP
  have hD : va_D A [(h0, .inr (8, (fs_125.set 71 (.ref q_126)))), (q_1, .inl (cA_2, 1620, .inl (fun _ => 0))), (q_8, .inl (cA_9, 2, .inl (fun _ => 0))), (q_11, .inl (cA_12, 2, .inl (fun _ => 0))), (q_14, .inl (cA_15, 2, .inl (fun _ => 0))), (q_17, .inl (cA_18, 2, .inl (fun _ => 0))), (q_20, .inl (cA_21, 2, .inl (fun _ => 0))), (q_23, .inl (cA_24, 2, .inl (fun _ => 0))), (q_26, .inl (cA_27, 2, .inl (fun _ => 0))), (q_29, .inl (cA_30, 2, .inl (fun _ => 0))), (q_32, .inl (cA_33, 2, .inl (fun _ => 0))), (q_35, .inl (cA_36, 2, .inl (fun _ => 0))), (q_126, .inl (cA_127, 40, .inl (fun _ => 0)))] := hD
  generalize efs_128 : (fs_125.set 71 (.ref q_126)) = fs_128 at hP hD
  have lfs_128 : fs_128.length = 81 := by rw [← efs_128, List.length_set]; exact lfs_125
  have ffs_128_2 : fs_128[2]? = some (.int 0) := by rw [← efs_128]; exact p1_sn (by decide) ffs_125_2
  have ffs_128_3 : fs_128[3]? = some (.int 0) := by rw [← efs_128]; exact p1_sn (by decide) ffs_125_3
  have ffs_128_4 : fs_128[4]? = some (.int 0) := by rw [← efs_128]; exact p1_sn (by decide) ffs_125_4
  have ffs_128_43 : fs_128[43]? = some (.int 0) := by rw [← efs_128]; exact p1_sn (by decide) ffs_125_43
  have ffs_128_60 : fs_128[60]? = some (.int 0) := by rw [← efs_128]; exact p1_sn (by decide) ffs_125_60
  have ffs_128_75 : fs_128[75]? = some (.int 0) := by rw [← efs_128]; exact p1_sn (by decide) ffs_125_75
  have ffs_128_7 : fs_128[7]? = some (.int 0) := by rw [← efs_128]; exact p1_sn (by decide) ffs_125_7
  have ffs_128_76 : fs_128[76]? = some (.int 0) := by rw [← efs_128]; exact p1_sn (by decide) ffs_125_76
  have ffs_128_44 : fs_128[44]? = some (.int 0) := by rw [← efs_128]; exact p1_sn (by decide) ffs_125_44
  have ffs_128_0 : fs_128[0]? = some (.ref q_1) := by rw [← efs_128]; exact p1_sn (by decide) ffs_125_0
  have ffs_128_5 : fs_128[5]? = some (.int (-1)) := by rw [← efs_128]; exact p1_sn (by decide) ffs_125_5
  have ffs_128_11 : fs_128[11]? = some (.ref q_8) := by rw [← efs_128]; exact p1_sn (by decide) ffs_125_11
  have ffs_128_12 : fs_128[12]? = some (.ref q_11) := by rw [← efs_128]; exact p1_sn (by decide) ffs_125_12
  have ffs_128_13 : fs_128[13]? = some (.ref q_14) := by rw [← efs_128]; exact p1_sn (by decide) ffs_125_13
  have ffs_128_14 : fs_128[14]? = some (.ref q_17) := by rw [← efs_128]; exact p1_sn (by decide) ffs_125_14
  have ffs_128_15 : fs_128[15]? = some (.ref q_20) := by rw [← efs_128]; exact p1_sn (by decide) ffs_125_15
  have ffs_128_16 : fs_128[16]? = some (.ref q_23) := by rw [← efs_128]; exact p1_sn (by decide) ffs_125_16
  have ffs_128_17 : fs_128[17]? = some (.ref q_26) := by rw [← efs_128]; exact p1_sn (by decide) ffs_125_17
  have ffs_128_18 : fs_128[18]? = some (.ref q_29) := by rw [← efs_128]; exact p1_sn (by decide) ffs_125_18
  have ffs_128_19 : fs_128[19]? = some (.ref q_32) := by rw [← efs_128]; exact p1_sn (by decide) ffs_125_19
  have ffs_128_20 : fs_128[20]? = some (.ref q_35) := by rw [← efs_128]; exact p1_sn (by decide) ffs_125_20
  have ffs_128_65 : fs_128[65]? = some (.int 1) := by rw [← efs_128]; exact p1_sn (by decide) ffs_125_65
  have ffs_128_71 : fs_128[71]? = some (.ref q_126) := by rw [← efs_128]; exact p1_sa lfs_125 (by decide)
  have hP := hP.sub (ws' := [(h0, .inr (8, fs_128)), (q_1, .inl (cA_2, 1620, .inl (fun _ => 0))), (q_8, .inl (cA_9, 2, .inl (fun _ => 0))), (q_11, .inl (cA_12, 2, .inl (fun _ => 0))), (q_14, .inl (cA_15, 2, .inl (fun _ => 0))), (q_17, .inl (cA_18, 2, .inl (fun _ => 0))), (q_20, .inl (cA_21, 2, .inl (fun _ => 0))), (q_23, .inl (cA_24, 2, .inl (fun _ => 0))), (q_26, .inl (cA_27, 2, .inl (fun _ => 0))), (q_29, .inl (cA_30, 2, .inl (fun _ => 0))), (q_32, .inl (cA_33, 2, .inl (fun _ => 0))), (q_35, .inl (cA_36, 2, .inl (fun _ => 0)))]) [0, 1, 2, 3, 4, 5, 6, 7, 8, 9, 10, 11] rfl
  have hD := hD.sub (ws' := [(h0, .inr (8, fs_128)), (q_1, .inl (cA_2, 1620, .inl (fun _ => 0))), (q_8, .inl (cA_9, 2, .inl (fun _ => 0))), (q_11, .inl (cA_12, 2, .inl (fun _ => 0))), (q_14, .inl (cA_15, 2, .inl (fun _ => 0))), (q_17, .inl (cA_18, 2, .inl (fun _ => 0))), (q_20, .inl (cA_21, 2, .inl (fun _ => 0))), (q_23, .inl (cA_24, 2, .inl (fun _ => 0))), (q_26, .inl (cA_27, 2, .inl (fun _ => 0))), (q_29, .inl (cA_30, 2, .inl (fun _ => 0))), (q_32, .inl (cA_33, 2, .inl (fun _ => 0))), (q_35, .inl (cA_36, 2, .inl (fun _ => 0)))]) [0, 1, 2, 3, 4, 5, 6, 7, 8, 9, 10, 11] (by decide) rfl
  have hK := hK.sub (tys' := [(cA_2, .byte), (cA_9, .int), (cA_12, .int), (cA_15, .int), (cA_18, .int), (cA_21, .int), (cA_24, .int), (cA_27, .int), (cA_30, .int), (cA_33, .boolean), (cA_36, .boolean)]) [0, 1, 2, 3, 4, 5, 6, 7, 8, 9, 10] rfl
  refine lv_aload_n hx hb dX9_init_343 rfl (lv_at hl 0 rfl) ?_
  refine lv_bipush (v := 40) hx hb dX9_init_344 (by decide) ?_
  refine va_newa (atype := .int) (ty := .int) (N' := 40) (a0 := (40, .inl (fun _ => 0))) hx hb k_7 rfl hK hP hD hS hA (fun _ => rfl) (by decide) rfl (by decide) (by decide) (by decide) dX9_init_346 (fun q_129 cA_130 H hK hP hD hS => ?_)
  have hP : va_P (dC, dI) vwCl [(h0, .inr (8, fs_128)), (q_1, .inl (cA_2, 1620, .inl (fun _ => 0))), (q_8, .inl (cA_9, 2, .inl (fun _ => 0))), (q_11, .inl (cA_12, 2, .inl (fun _ => 0))), (q_14, .inl (cA_15, 2, .inl (fun _ => 0))), (q_17, .inl (cA_18, 2, .inl (fun _ => 0))), (q_20, .inl (cA_21, 2, .inl (fun _ => 0))), (q_23, .inl (cA_24, 2, .inl (fun _ => 0))), (q_26, .inl (cA_27, 2, .inl (fun _ => 0))), (q_29, .inl (cA_30, 2, .inl (fun _ => 0))), (q_32, .inl (cA_33, 2, .inl (fun _ => 0))), (q_35, .inl (cA_36, 2, .inl (fun _ => 0))), (q_129, .inl (cA_130, 40, .inl (fun _ => 0)))] H := hP
  have hD : va_D A [(h0, .inr (8, fs_128)), (q_1, .inl (cA_2, 1620, .inl (fun _ => 0))), (q_8, .inl (cA_9, 2, .inl (fun _ => 0))), (q_11, .inl (cA_12, 2, .inl (fun _ => 0))), (q_14, .inl (cA_15, 2, .inl (fun _ => 0))), (q_17, .inl (cA_18, 2, .inl (fun _ => 0))), (q_20, .inl (cA_21, 2, .inl (fun _ => 0))), (q_23, .inl (cA_24, 2, .inl (fun _ => 0))), (q_26, .inl (cA_27, 2, .inl (fun _ => 0))), (q_29, .inl (cA_30, 2, .inl (fun _ => 0))), (q_32, .inl (cA_33, 2, .inl (fun _ => 0))), (q_35, .inl (cA_36, 2, .inl (fun _ => 0))), (q_129, .inl (cA_130, 40, .inl (fun _ => 0)))] := hD
  have hK : va_K (dC, dI) vwCl [(cA_2, .byte), (cA_9, .int), (cA_12, .int), (cA_15, .int), (cA_18, .int), (cA_21, .int), (cA_24, .int), (cA_27, .int), (cA_30, .int), (cA_33, .boolean), (cA_36, .boolean), (cA_130, .int)] s := hK
  refine W.widen (k := 43) (n := 7662) (by decide) (by decide) ?_
  refine va_putF (D := (dC, dI)) (ci := 8) (v := .ref q_129) (ty := .array .int) (C := RX9) (T := TX9) (N := 81) hx hb hts i_X9 tyX9 tyX9_ok nmX9 hown hK hP hD hS 0 rfl rfl 72 (by decide) k_51 (fun _ h9 => h9) rfl hin rfl (by decide +kernel) rfl rfl (by rw [lfs_128]; decide) dX9_init_348 (fun H locs hP hD hS => ?_)
  have hP : va_P (dC, dI) vwCl [(h0, .inr (8, (fs_128.set 72 (.ref q_129)))), (q_1, .inl (cA_2, 1620, .inl (fun _ => 0))), (q_8, .inl (cA_9, 2, .inl (fun _ => 0))), (q_11, .inl (cA_12, 2, .inl (fun _ => 0))), (q_14, .inl (cA_15, 2, .inl (fun _ => 0))), (q_17, .inl (cA_18, 2, .inl (fun _ => 0))), (q_20, .inl (cA_21, 2, .inl (fun _ => 0))), (q_23, .inl (cA_24, 2, .inl (fun _ => 0))), (q_26, .inl (cA_27, 2, .inl (fun _ => 0))), (q_29, .inl (cA_30, 2, .inl (fun _ => 0))), (q_32, .inl (cA_33, 2, .inl (fun _ => 0))), (q_35, .inl (cA_36, 2, .inl (fun _ => 0))), (q_129, .inl (cA_130, 40, .inl (fun _ => 0)))] H := hP
  have hD : va_D A [(h0, .inr (8, (fs_128.set 72 (.ref q_129)))), (q_1, .inl (cA_2, 1620, .inl (fun _ => 0))), (q_8, .inl (cA_9, 2, .inl (fun _ => 0))), (q_11, .inl (cA_12, 2, .inl (fun _ => 0))), (q_14, .inl (cA_15, 2, .inl (fun _ => 0))), (q_17, .inl (cA_18, 2, .inl (fun _ => 0))), (q_20, .inl (cA_21, 2, .inl (fun _ => 0))), (q_23, .inl (cA_24, 2, .inl (fun _ => 0))), (q_26, .inl (cA_27, 2, .inl (fun _ => 0))), (q_29, .inl (cA_30, 2, .inl (fun _ => 0))), (q_32, .inl (cA_33, 2, .inl (fun _ => 0))), (q_35, .inl (cA_36, 2, .inl (fun _ => 0))), (q_129, .inl (cA_130, 40, .inl (fun _ => 0)))] := hD
  generalize efs_131 : (fs_128.set 72 (.ref q_129)) = fs_131 at hP hD
  have lfs_131 : fs_131.length = 81 := by rw [← efs_131, List.length_set]; exact lfs_128
  have ffs_131_2 : fs_131[2]? = some (.int 0) := by rw [← efs_131]; exact p1_sn (by decide) ffs_128_2
  have ffs_131_3 : fs_131[3]? = some (.int 0) := by rw [← efs_131]; exact p1_sn (by decide) ffs_128_3
  have ffs_131_4 : fs_131[4]? = some (.int 0) := by rw [← efs_131]; exact p1_sn (by decide) ffs_128_4
  have ffs_131_43 : fs_131[43]? = some (.int 0) := by rw [← efs_131]; exact p1_sn (by decide) ffs_128_43
  have ffs_131_60 : fs_131[60]? = some (.int 0) := by rw [← efs_131]; exact p1_sn (by decide) ffs_128_60
  have ffs_131_75 : fs_131[75]? = some (.int 0) := by rw [← efs_131]; exact p1_sn (by decide) ffs_128_75
  have ffs_131_7 : fs_131[7]? = some (.int 0) := by rw [← efs_131]; exact p1_sn (by decide) ffs_128_7
  have ffs_131_76 : fs_131[76]? = some (.int 0) := by rw [← efs_131]; exact p1_sn (by decide) ffs_128_76
  have ffs_131_44 : fs_131[44]? = some (.int 0) := by rw [← efs_131]; exact p1_sn (by decide) ffs_128_44
  have ffs_131_0 : fs_131[0]? = some (.ref q_1) := by rw [← efs_131]; exact p1_sn (by decide) ffs_128_0
  have ffs_131_5 : fs_131[5]? = some (.int (-1)) := by rw [← efs_131]; exact p1_sn (by decide) ffs_128_5
  have ffs_131_11 : fs_131[11]? = some (.ref q_8) := by rw [← efs_131]; exact p1_sn (by decide) ffs_128_11
  have ffs_131_12 : fs_131[12]? = some (.ref q_11) := by rw [← efs_131]; exact p1_sn (by decide) ffs_128_12
  have ffs_131_13 : fs_131[13]? = some (.ref q_14) := by rw [← efs_131]; exact p1_sn (by decide) ffs_128_13
  have ffs_131_14 : fs_131[14]? = some (.ref q_17) := by rw [← efs_131]; exact p1_sn (by decide) ffs_128_14
  have ffs_131_15 : fs_131[15]? = some (.ref q_20) := by rw [← efs_131]; exact p1_sn (by decide) ffs_128_15
  have ffs_131_16 : fs_131[16]? = some (.ref q_23) := by rw [← efs_131]; exact p1_sn (by decide) ffs_128_16
  have ffs_131_17 : fs_131[17]? = some (.ref q_26) := by rw [← efs_131]; exact p1_sn (by decide) ffs_128_17
  have ffs_131_18 : fs_131[18]? = some (.ref q_29) := by rw [← efs_131]; exact p1_sn (by decide) ffs_128_18
  have ffs_131_19 : fs_131[19]? = some (.ref q_32) := by rw [← efs_131]; exact p1_sn (by decide) ffs_128_19
  have ffs_131_20 : fs_131[20]? = some (.ref q_35) := by rw [← efs_131]; exact p1_sn (by decide) ffs_128_20
  have ffs_131_65 : fs_131[65]? = some (.int 1) := by rw [← efs_131]; exact p1_sn (by decide) ffs_128_65
  have ffs_131_72 : fs_131[72]? = some (.ref q_129) := by rw [← efs_131]; exact p1_sa lfs_128 (by decide)
  have hP := hP.sub (ws' := [(h0, .inr (8, fs_131)), (q_1, .inl (cA_2, 1620, .inl (fun _ => 0))), (q_8, .inl (cA_9, 2, .inl (fun _ => 0))), (q_11, .inl (cA_12, 2, .inl (fun _ => 0))), (q_14, .inl (cA_15, 2, .inl (fun _ => 0))), (q_17, .inl (cA_18, 2, .inl (fun _ => 0))), (q_20, .inl (cA_21, 2, .inl (fun _ => 0))), (q_23, .inl (cA_24, 2, .inl (fun _ => 0))), (q_26, .inl (cA_27, 2, .inl (fun _ => 0))), (q_29, .inl (cA_30, 2, .inl (fun _ => 0))), (q_32, .inl (cA_33, 2, .inl (fun _ => 0))), (q_35, .inl (cA_36, 2, .inl (fun _ => 0)))]) [0, 1, 2, 3, 4, 5, 6, 7, 8, 9, 10, 11] rfl
  have hD := hD.sub (ws' := [(h0, .inr (8, fs_131)), (q_1, .inl (cA_2, 1620, .inl (fun _ => 0))), (q_8, .inl (cA_9, 2, .inl (fun _ => 0))), (q_11, .inl (cA_12, 2, .inl (fun _ => 0))), (q_14, .inl (cA_15, 2, .inl (fun _ => 0))), (q_17, .inl (cA_18, 2, .inl (fun _ => 0))), (q_20, .inl (cA_21, 2, .inl (fun _ => 0))), (q_23, .inl (cA_24, 2, .inl (fun _ => 0))), (q_26, .inl (cA_27, 2, .inl (fun _ => 0))), (q_29, .inl (cA_30, 2, .inl (fun _ => 0))), (q_32, .inl (cA_33, 2, .inl (fun _ => 0))), (q_35, .inl (cA_36, 2, .inl (fun _ => 0)))]) [0, 1, 2, 3, 4, 5, 6, 7, 8, 9, 10, 11] (by decide) rfl
  have hK := hK.sub (tys' := [(cA_2, .byte), (cA_9, .int), (cA_12, .int), (cA_15, .int), (cA_18, .int), (cA_21, .int), (cA_24, .int), (cA_27, .int), (cA_30, .int), (cA_33, .boolean), (cA_36, .boolean)]) [0, 1, 2, 3, 4, 5, 6, 7, 8, 9, 10] rfl
  refine lv_aload_n hx hb dX9_init_351 rfl (lv_at hl 0 rfl) ?_
  refine lv_bipush (v := 40) hx hb dX9_init_352 (by decide) ?_
  refine va_newa (atype := .int) (ty := .int) (N' := 40) (a0 := (40, .inl (fun _ => 0))) hx hb k_7 rfl hK hP hD hS hA (fun _ => rfl) (by decide) rfl (by decide) (by decide) (by decide) dX9_init_354 (fun q_132 cA_133 H hK hP hD hS => ?_)
  have hP : va_P (dC, dI) vwCl [(h0, .inr (8, fs_131)), (q_1, .inl (cA_2, 1620, .inl (fun _ => 0))), (q_8, .inl (cA_9, 2, .inl (fun _ => 0))), (q_11, .inl (cA_12, 2, .inl (fun _ => 0))), (q_14, .inl (cA_15, 2, .inl (fun _ => 0))), (q_17, .inl (cA_18, 2, .inl (fun _ => 0))), (q_20, .inl (cA_21, 2, .inl (fun _ => 0))), (q_23, .inl (cA_24, 2, .inl (fun _ => 0))), (q_26, .inl (cA_27, 2, .inl (fun _ => 0))), (q_29, .inl (cA_30, 2, .inl (fun _ => 0))), (q_32, .inl (cA_33, 2, .inl (fun _ => 0))), (q_35, .inl (cA_36, 2, .inl (fun _ => 0))), (q_132, .inl (cA_133, 40, .inl (fun _ => 0)))] H := hP
  have hD : va_D A [(h0, .inr (8, fs_131)), (q_1, .inl (cA_2, 1620, .inl (fun _ => 0))), (q_8, .inl (cA_9, 2, .inl (fun _ => 0))), (q_11, .inl (cA_12, 2, .inl (fun _ => 0))), (q_14, .inl (cA_15, 2, .inl (fun _ => 0))), (q_17, .inl (cA_18, 2, .inl (fun _ => 0))), (q_20, .inl (cA_21, 2, .inl (fun _ => 0))), (q_23, .inl (cA_24, 2, .inl (fun _ => 0))), (q_26, .inl (cA_27, 2, .inl (fun _ => 0))), (q_29, .inl (cA_30, 2, .inl (fun _ => 0))), (q_32, .inl (cA_33, 2, .inl (fun _ => 0))), (q_35, .inl (cA_36, 2, .inl (fun _ => 0))), (q_132, .inl (cA_133, 40, .inl (fun _ => 0)))] := hD
  have hK : va_K (dC, dI) vwCl [(cA_2, .byte), (cA_9, .int), (cA_12, .int), (cA_15, .int), (cA_18, .int), (cA_21, .int), (cA_24, .int), (cA_27, .int), (cA_30, .int), (cA_33, .boolean), (cA_36, .boolean), (cA_133, .int)] s := hK
  refine W.widen (k := 44) (n := 7702) (by decide) (by decide) ?_
  refine va_putF (D := (dC, dI)) (ci := 8) (v := .ref q_132) (ty := .array .int) (C := RX9) (T := TX9) (N := 81) hx hb hts i_X9 tyX9 tyX9_ok nmX9 hown hK hP hD hS 0 rfl rfl 73 (by decide) k_52 (fun _ h9 => h9) rfl hin rfl (by decide +kernel) rfl rfl (by rw [lfs_131]; decide) dX9_init_356 (fun H locs hP hD hS => ?_)
  have hP : va_P (dC, dI) vwCl [(h0, .inr (8, (fs_131.set 73 (.ref q_132)))), (q_1, .inl (cA_2, 1620, .inl (fun _ => 0))), (q_8, .inl (cA_9, 2, .inl (fun _ => 0))), (q_11, .inl (cA_12, 2, .inl (fun _ => 0))), (q_14, .inl (cA_15, 2, .inl (fun _ => 0))), (q_17, .inl (cA_18, 2, .inl (fun _ => 0))), (q_20, .inl (cA_21, 2, .inl (fun _ => 0))), (q_23, .inl (cA_24, 2, .inl (fun _ => 0))), (q_26, .inl (cA_27, 2, .inl (fun _ => 0))), (q_29, .inl (cA_30, 2, .inl (fun _ => 0))), (q_32, .inl (cA_33, 2, .inl (fun _ => 0))), (q_35, .inl (cA_36, 2, .inl (fun _ => 0))), (q_132, .inl (cA_133, 40, .inl (fun _ => 0)))] H := hP
  have hD : va_D A [(h0, .inr (8, (fs_131.set 73 (.ref q_132)))), (q_1, .inl (cA_2, 1620, .inl (fun _ => 0))), (q_8, .inl (cA_9, 2, .inl (fun _ => 0))), (q_11, .inl (cA_12, 2, .inl (fun _ => 0))), (q_14, .inl (cA_15, 2, .inl (fun _ => 0))), (q_17, .inl (cA_18, 2, .inl (fun _ => 0))), (q_20, .inl (cA_21, 2, .inl (fun _ => 0))), (q_23, .inl (cA_24, 2, .inl (fun _ => 0))), (q_26, .inl (cA_27, 2, .inl (fun _ => 0))), (q_29, .inl (cA_30, 2, .inl (fun _ => 0))), (q_32, .inl (cA_33, 2, .inl (fun _ => 0))), (q_35, .inl (cA_36, 2, .inl (fun _ => 0))), (q_132, .inl (cA_133, 40, .inl (fun _ => 0)))] := hD
  generalize efs_134 : (fs_131.set 73 (.ref q_132)) = fs_134 at hP hD
  have lfs_134 : fs_134.length = 81 := by rw [← efs_134, List.length_set]; exact lfs_131
  have ffs_134_2 : fs_134[2]? = some (.int 0) := by rw [← efs_134]; exact p1_sn (by decide) ffs_131_2
  have ffs_134_3 : fs_134[3]? = some (.int 0) := by rw [← efs_134]; exact p1_sn (by decide) ffs_131_3
  have ffs_134_4 : fs_134[4]? = some (.int 0) := by rw [← efs_134]; exact p1_sn (by decide) ffs_131_4
  have ffs_134_43 : fs_134[43]? = some (.int 0) := by rw [← efs_134]; exact p1_sn (by decide) ffs_131_43
  have ffs_134_60 : fs_134[60]? = some (.int 0) := by rw [← efs_134]; exact p1_sn (by decide) ffs_131_60
  have ffs_134_75 : fs_134[75]? = some (.int 0) := by rw [← efs_134]; exact p1_sn (by decide) ffs_131_75
  have ffs_134_7 : fs_134[7]? = some (.int 0) := by rw [← efs_134]; exact p1_sn (by decide) ffs_131_7
  have ffs_134_76 : fs_134[76]? = some (.int 0) := by rw [← efs_134]; exact p1_sn (by decide) ffs_131_76
  have ffs_134_44 : fs_134[44]? = some (.int 0) := by rw [← efs_134]; exact p1_sn (by decide) ffs_131_44
  have ffs_134_0 : fs_134[0]? = some (.ref q_1) := by rw [← efs_134]; exact p1_sn (by decide) ffs_131_0
  have ffs_134_5 : fs_134[5]? = some (.int (-1)) := by rw [← efs_134]; exact p1_sn (by decide) ffs_131_5
  have ffs_134_11 : fs_134[11]? = some (.ref q_8) := by rw [← efs_134]; exact p1_sn (by decide) ffs_131_11
  have ffs_134_12 : fs_134[12]? = some (.ref q_11) := by rw [← efs_134]; exact p1_sn (by decide) ffs_131_12
  have ffs_134_13 : fs_134[13]? = some (.ref q_14) := by rw [← efs_134]; exact p1_sn (by decide) ffs_131_13
  have ffs_134_14 : fs_134[14]? = some (.ref q_17) := by rw [← efs_134]; exact p1_sn (by decide) ffs_131_14
  have ffs_134_15 : fs_134[15]? = some (.ref q_20) := by rw [← efs_134]; exact p1_sn (by decide) ffs_131_15
  have ffs_134_16 : fs_134[16]? = some (.ref q_23) := by rw [← efs_134]; exact p1_sn (by decide) ffs_131_16
  have ffs_134_17 : fs_134[17]? = some (.ref q_26) := by rw [← efs_134]; exact p1_sn (by decide) ffs_131_17
  have ffs_134_18 : fs_134[18]? = some (.ref q_29) := by rw [← efs_134]; exact p1_sn (by decide) ffs_131_18
  have ffs_134_19 : fs_134[19]? = some (.ref q_32) := by rw [← efs_134]; exact p1_sn (by decide) ffs_131_19
  have ffs_134_20 : fs_134[20]? = some (.ref q_35) := by rw [← efs_134]; exact p1_sn (by decide) ffs_131_20
  have ffs_134_65 : fs_134[65]? = some (.int 1) := by rw [← efs_134]; exact p1_sn (by decide) ffs_131_65
  have ffs_134_73 : fs_134[73]? = some (.ref q_132) := by rw [← efs_134]; exact p1_sa lfs_131 (by decide)
  have hP := hP.sub (ws' := [(h0, .inr (8, fs_134)), (q_1, .inl (cA_2, 1620, .inl (fun _ => 0))), (q_8, .inl (cA_9, 2, .inl (fun _ => 0))), (q_11, .inl (cA_12, 2, .inl (fun _ => 0))), (q_14, .inl (cA_15, 2, .inl (fun _ => 0))), (q_17, .inl (cA_18, 2, .inl (fun _ => 0))), (q_20, .inl (cA_21, 2, .inl (fun _ => 0))), (q_23, .inl (cA_24, 2, .inl (fun _ => 0))), (q_26, .inl (cA_27, 2, .inl (fun _ => 0))), (q_29, .inl (cA_30, 2, .inl (fun _ => 0))), (q_32, .inl (cA_33, 2, .inl (fun _ => 0))), (q_35, .inl (cA_36, 2, .inl (fun _ => 0)))]) [0, 1, 2, 3, 4, 5, 6, 7, 8, 9, 10, 11] rfl
  have hD := hD.sub (ws' := [(h0, .inr (8, fs_134)), (q_1, .inl (cA_2, 1620, .inl (fun _ => 0))), (q_8, .inl (cA_9, 2, .inl (fun _ => 0))), (q_11, .inl (cA_12, 2, .inl (fun _ => 0))), (q_14, .inl (cA_15, 2, .inl (fun _ => 0))), (q_17, .inl (cA_18, 2, .inl (fun _ => 0))), (q_20, .inl (cA_21, 2, .inl (fun _ => 0))), (q_23, .inl (cA_24, 2, .inl (fun _ => 0))), (q_26, .inl (cA_27, 2, .inl (fun _ => 0))), (q_29, .inl (cA_30, 2, .inl (fun _ => 0))), (q_32, .inl (cA_33, 2, .inl (fun _ => 0))), (q_35, .inl (cA_36, 2, .inl (fun _ => 0)))]) [0, 1, 2, 3, 4, 5, 6, 7, 8, 9, 10, 11] (by decide) rfl
  have hK := hK.sub (tys' := [(cA_2, .byte), (cA_9, .int), (cA_12, .int), (cA_15, .int), (cA_18, .int), (cA_21, .int), (cA_24, .int), (cA_27, .int), (cA_30, .int), (cA_33, .boolean), (cA_36, .boolean)]) [0, 1, 2, 3, 4, 5, 6, 7, 8, 9, 10] rfl
  refine lv_aload_n hx hb dX9_init_359 rfl (lv_at hl 0 rfl) ?_
  refine lv_bipush (v := 40) hx hb dX9_init_360 (by decide) ?_
  refine va_newa (atype := .int) (ty := .int) (N' := 40) (a0 := (40, .inl (fun _ => 0))) hx hb k_7 rfl hK hP hD hS hA (fun _ => rfl) (by decide) rfl (by decide) (by decide) (by decide) dX9_init_362 (fun q_135 cA_136 H hK hP hD hS => ?_)
  have hP : va_P (dC, dI) vwCl [(h0, .inr (8, fs_134)), (q_1, .inl (cA_2, 1620, .inl (fun _ => 0))), (q_8, .inl (cA_9, 2, .inl (fun _ => 0))), (q_11, .inl (cA_12, 2, .inl (fun _ => 0))), (q_14, .inl (cA_15, 2, .inl (fun _ => 0))), (q_17, .inl (cA_18, 2, .inl (fun _ => 0))), (q_20, .inl (cA_21, 2, .inl (fun _ => 0))), (q_23, .inl (cA_24, 2, .inl (fun _ => 0))), (q_26, .inl (cA_27, 2, .inl (fun _ => 0))), (q_29, .inl (cA_30, 2, .inl (fun _ => 0))), (q_32, .inl (cA_33, 2, .inl (fun _ => 0))), (q_35, .inl (cA_36, 2, .inl (fun _ => 0))), (q_135, .inl (cA_136, 40, .inl (fun _ => 0)))] H := hP
  have hD : va_D A [(h0, .inr (8, fs_134)), (q_1, .inl (cA_2, 1620, .inl (fun _ => 0))), (q_8, .inl (cA_9, 2, .inl (fun _ => 0))), (q_11, .inl (cA_12, 2, .inl (fun _ => 0))), (q_14, .inl (cA_15, 2, .inl (fun _ => 0))), (q_17, .inl (cA_18, 2, .inl (fun _ => 0))), (q_20, .inl (cA_21, 2, .inl (fun _ => 0))), (q_23, .inl (cA_24, 2, .inl (fun _ => 0))), (q_26, .inl (cA_27, 2, .inl (fun _ => 0))), (q_29, .inl (cA_30, 2, .inl (fun _ => 0))), (q_32, .inl (cA_33, 2, .inl (fun _ => 0))), (q_35, .inl (cA_36, 2, .inl (fun _ => 0))), (q_135, .inl (cA_136, 40, .inl (fun _ => 0)))] := hD
  have hK : va_K (dC, dI) vwCl [(cA_2, .byte), (cA_9, .int), (cA_12, .int), (cA_15, .int), (cA_18, .int), (cA_21, .int), (cA_24, .int), (cA_27, .int), (cA_30, .int), (cA_33, .boolean), (cA_36, .boolean), (cA_136, .int)] s := hK
  refine W.widen (k := 45) (n := 7742) (by decide) (by decide) ?_
  refine va_putF (D := (dC, dI)) (ci := 8) (v := .ref q_135) (ty := .array .int) (C := RX9) (T := TX9) (N := 81) hx hb hts i_X9 tyX9 tyX9_ok nmX9 hown hK hP hD hS 0 rfl rfl 74 (by decide) k_53 (fun _ h9 => h9) rfl hin rfl (by decide +kernel) rfl rfl (by rw [lfs_134]; decide) dX9_init_364 (fun H locs hP hD hS => ?_)
  have hP : va_P (dC, dI) vwCl [(h0, .inr (8, (fs_134.set 74 (.ref q_135)))), (q_1, .inl (cA_2, 1620, .inl (fun _ => 0))), (q_8, .inl (cA_9, 2, .inl (fun _ => 0))), (q_11, .inl (cA_12, 2, .inl (fun _ => 0))), (q_14, .inl (cA_15, 2, .inl (fun _ => 0))), (q_17, .inl (cA_18, 2, .inl (fun _ => 0))), (q_20, .inl (cA_21, 2, .inl (fun _ => 0))), (q_23, .inl (cA_24, 2, .inl (fun _ => 0))), (q_26, .inl (cA_27, 2, .inl (fun _ => 0))), (q_29, .inl (cA_30, 2, .inl (fun _ => 0))), (q_32, .inl (cA_33, 2, .inl (fun _ => 0))), (q_35, .inl (cA_36, 2, .inl (fun _ => 0))), (q_135, .inl (cA_136, 40, .inl (fun _ => 0)))] H := hP
  have hD : va_D A [(h0, .inr (8, (fs_134.set 74 (.ref q_135)))), (q_1, .inl (cA_2, 1620, .inl (fun _ => 0))), (q_8, .inl (cA_9, 2, .inl (fun _ => 0))), (q_11, .inl (cA_12, 2, .inl (fun _ => 0))), (q_14, .inl (cA_15, 2, .inl (fun _ => 0))), (q_17, .inl (cA_18, 2, .inl (fun _ => 0))), (q_20, .inl (cA_21, 2, .inl (fun _ => 0))), (q_23, .inl (cA_24, 2, .inl (fun _ => 0))), (q_26, .inl (cA_27, 2, .inl (fun _ => 0))), (q_29, .inl (cA_30, 2, .inl (fun _ => 0))), (q_32, .inl (cA_33, 2, .inl (fun _ => 0))), (q_35, .inl (cA_36, 2, .inl (fun _ => 0))), (q_135, .inl (cA_136, 40, .inl (fun _ => 0)))] := hD
  generalize efs_137 : (fs_134.set 74 (.ref q_135)) = fs_137 at hP hD
  have lfs_137 : fs_137.length = 81 := by rw [← efs_137, List.length_set]; exact lfs_134
  have ffs_137_2 : fs_137[2]? = some (.int 0) := by rw [← efs_137]; exact p1_sn (by decide) ffs_134_2
  have ffs_137_3 : fs_137[3]? = some (.int 0) := by rw [← efs_137]; exact p1_sn (by decide) ffs_134_3
  have ffs_137_4 : fs_137[4]? = some (.int 0) := by rw [← efs_137]; exact p1_sn (by decide) ffs_134_4
  have ffs_137_43 : fs_137[43]? = some (.int 0) := by rw [← efs_137]; exact p1_sn (by decide) ffs_134_43
  have ffs_137_60 : fs_137[60]? = some (.int 0) := by rw [← efs_137]; exact p1_sn (by decide) ffs_134_60
  have ffs_137_75 : fs_137[75]? = some (.int 0) := by rw [← efs_137]; exact p1_sn (by decide) ffs_134_75
  have ffs_137_7 : fs_137[7]? = some (.int 0) := by rw [← efs_137]; exact p1_sn (by decide) ffs_134_7
  have ffs_137_76 : fs_137[76]? = some (.int 0) := by rw [← efs_137]; exact p1_sn (by decide) ffs_134_76
  have ffs_137_44 : fs_137[44]? = some (.int 0) := by rw [← efs_137]; exact p1_sn (by decide) ffs_134_44
  have ffs_137_0 : fs_137[0]? = some (.ref q_1) := by rw [← efs_137]; exact p1_sn (by decide) ffs_134_0
  have ffs_137_5 : fs_137[5]? = some (.int (-1)) := by rw [← efs_137]; exact p1_sn (by decide) ffs_134_5
  have ffs_137_11 : fs_137[11]? = some (.ref q_8) := by rw [← efs_137]; exact p1_sn (by decide) ffs_134_11
  have ffs_137_12 : fs_137[12]? = some (.ref q_11) := by rw [← efs_137]; exact p1_sn (by decide) ffs_134_12
  have ffs_137_13 : fs_137[13]? = some (.ref q_14) := by rw [← efs_137]; exact p1_sn (by decide) ffs_134_13
  have ffs_137_14 : fs_137[14]? = some (.ref q_17) := by rw [← efs_137]; exact p1_sn (by decide) ffs_134_14
  have ffs_137_15 : fs_137[15]? = some (.ref q_20) := by rw [← efs_137]; exact p1_sn (by decide) ffs_134_15
  have ffs_137_16 : fs_137[16]? = some (.ref q_23) := by rw [← efs_137]; exact p1_sn (by decide) ffs_134_16
  have ffs_137_17 : fs_137[17]? = some (.ref q_26) := by rw [← efs_137]; exact p1_sn (by decide) ffs_134_17
  have ffs_137_18 : fs_137[18]? = some (.ref q_29) := by rw [← efs_137]; exact p1_sn (by decide) ffs_134_18
  have ffs_137_19 : fs_137[19]? = some (.ref q_32) := by rw [← efs_137]; exact p1_sn (by decide) ffs_134_19
  have ffs_137_20 : fs_137[20]? = some (.ref q_35) := by rw [← efs_137]; exact p1_sn (by decide) ffs_134_20
  have ffs_137_65 : fs_137[65]? = some (.int 1) := by rw [← efs_137]; exact p1_sn (by decide) ffs_134_65
  have ffs_137_74 : fs_137[74]? = some (.ref q_135) := by rw [← efs_137]; exact p1_sa lfs_134 (by decide)
  have hP := hP.sub (ws' := [(h0, .inr (8, fs_137)), (q_1, .inl (cA_2, 1620, .inl (fun _ => 0))), (q_8, .inl (cA_9, 2, .inl (fun _ => 0))), (q_11, .inl (cA_12, 2, .inl (fun _ => 0))), (q_14, .inl (cA_15, 2, .inl (fun _ => 0))), (q_17, .inl (cA_18, 2, .inl (fun _ => 0))), (q_20, .inl (cA_21, 2, .inl (fun _ => 0))), (q_23, .inl (cA_24, 2, .inl (fun _ => 0))), (q_26, .inl (cA_27, 2, .inl (fun _ => 0))), (q_29, .inl (cA_30, 2, .inl (fun _ => 0))), (q_32, .inl (cA_33, 2, .inl (fun _ => 0))), (q_35, .inl (cA_36, 2, .inl (fun _ => 0)))]) [0, 1, 2, 3, 4, 5, 6, 7, 8, 9, 10, 11] rfl
  have hD := hD.sub (ws' := [(h0, .inr (8, fs_137)), (q_1, .inl (cA_2, 1620, .inl (fun _ => 0))), (q_8, .inl (cA_9, 2, .inl (fun _ => 0))), (q_11, .inl (cA_12, 2, .inl (fun _ => 0))), (q_14, .inl (cA_15, 2, .inl (fun _ => 0))), (q_17, .inl (cA_18, 2, .inl (fun _ => 0))), (q_20, .inl (cA_21, 2, .inl (fun _ => 0))), (q_23, .inl (cA_24, 2, .inl (fun _ => 0))), (q_26, .inl (cA_27, 2, .inl (fun _ => 0))), (q_29, .inl (cA_30, 2, .inl (fun _ => 0))), (q_32, .inl (cA_33, 2, .inl (fun _ => 0))), (q_35, .inl (cA_36, 2, .inl (fun _ => 0)))]) [0, 1, 2, 3, 4, 5, 6, 7, 8, 9, 10, 11] (by decide) rfl
  have hK := hK.sub (tys' := [(cA_2, .byte), (cA_9, .int), (cA_12, .int), (cA_15, .int), (cA_18, .int), (cA_21, .int), (cA_24, .int), (cA_27, .int), (cA_30, .int), (cA_33, .boolean), (cA_36, .boolean)]) [0, 1, 2, 3, 4, 5, 6, 7, 8, 9, 10] rfl
  refine lv_aload_n hx hb dX9_init_367 rfl (lv_at hl 0 rfl) ?_
  refine lv_bipush (v := 12) hx hb dX9_init_368 (by decide) ?_
  refine va_newa (atype := .int) (ty := .int) (N' := 12) (a0 := (12, .inl (fun _ => 0))) hx hb k_7 rfl hK hP hD hS hA (fun _ => rfl) (by decide) rfl (by decide) (by decide) (by decide) dX9_init_370 (fun q_138 cA_139 H hK hP hD hS => ?_)
  have hP : va_P (dC, dI) vwCl [(h0, .inr (8, fs_137)), (q_1, .inl (cA_2, 1620, .inl (fun _ => 0))), (q_8, .inl (cA_9, 2, .inl (fun _ => 0))), (q_11, .inl (cA_12, 2, .inl (fun _ => 0))), (q_14, .inl (cA_15, 2, .inl (fun _ => 0))), (q_17, .inl (cA_18, 2, .inl (fun _ => 0))), (q_20, .inl (cA_21, 2, .inl (fun _ => 0))), (q_23, .inl (cA_24, 2, .inl (fun _ => 0))), (q_26, .inl (cA_27, 2, .inl (fun _ => 0))), (q_29, .inl (cA_30, 2, .inl (fun _ => 0))), (q_32, .inl (cA_33, 2, .inl (fun _ => 0))), (q_35, .inl (cA_36, 2, .inl (fun _ => 0))), (q_138, .inl (cA_139, 12, .inl (fun _ => 0)))] H := hP
  have hD : va_D A [(h0, .inr (8, fs_137)), (q_1, .inl (cA_2, 1620, .inl (fun _ => 0))), (q_8, .inl (cA_9, 2, .inl (fun _ => 0))), (q_11, .inl (cA_12, 2, .inl (fun _ => 0))), (q_14, .inl (cA_15, 2, .inl (fun _ => 0))), (q_17, .inl (cA_18, 2, .inl (fun _ => 0))), (q_20, .inl (cA_21, 2, .inl (fun _ => 0))), (q_23, .inl (cA_24, 2, .inl (fun _ => 0))), (q_26, .inl (cA_27, 2, .inl (fun _ => 0))), (q_29, .inl (cA_30, 2, .inl (fun _ => 0))), (q_32, .inl (cA_33, 2, .inl (fun _ => 0))), (q_35, .inl (cA_36, 2, .inl (fun _ => 0))), (q_138, .inl (cA_139, 12, .inl (fun _ => 0)))] := hD
  have hK : va_K (dC, dI) vwCl [(cA_2, .byte), (cA_9, .int), (cA_12, .int), (cA_15, .int), (cA_18, .int), (cA_21, .int), (cA_24, .int), (cA_27, .int), (cA_30, .int), (cA_33, .boolean), (cA_36, .boolean), (cA_139, .int)] s := hK
  refine W.widen (k := 46) (n := 7754) (by decide) (by decide) ?_
  refine va_putF (D := (dC, dI)) (ci := 8) (v := .ref q_138) (ty := .array .int) (C := RX9) (T := TX9) (N := 81) hx hb hts i_X9 tyX9 tyX9_ok nmX9 hown hK hP hD hS 0 rfl rfl 77 (by decide) k_54 (fun _ h9 => h9) rfl hin rfl (by decide +kernel) rfl rfl (by rw [lfs_137]; decide) dX9_init_372 (fun H locs hP hD hS => ?_)
  have hP : va_P (dC, dI) vwCl [(h0, .inr (8, (fs_137.set 77 (.ref q_138)))), (q_1, .inl (cA_2, 1620, .inl (fun _ => 0))), (q_8, .inl (cA_9, 2, .inl (fun _ => 0))), (q_11, .inl (cA_12, 2, .inl (fun _ => 0))), (q_14, .inl (cA_15, 2, .inl (fun _ => 0))), (q_17, .inl (cA_18, 2, .inl (fun _ => 0))), (q_20, .inl (cA_21, 2, .inl (fun _ => 0))), (q_23, .inl (cA_24, 2, .inl (fun _ => 0))), (q_26, .inl (cA_27, 2, .inl (fun _ => 0))), (q_29, .inl (cA_30, 2, .inl (fun _ => 0))), (q_32, .inl (cA_33, 2, .inl (fun _ => 0))), (q_35, .inl (cA_36, 2, .inl (fun _ => 0))), (q_138, .inl (cA_139, 12, .inl (fun _ => 0)))] H := hP
  have hD : va_D A [(h0, .inr (8, (fs_137.set 77 (.ref q_138)))), (q_1, .inl (cA_2, 1620, .inl (fun _ => 0))), (q_8, .inl (cA_9, 2, .inl (fun _ => 0))), (q_11, .inl (cA_12, 2, .inl (fun _ => 0))), (q_14, .inl (cA_15, 2, .inl (fun _ => 0))), (q_17, .inl (cA_18, 2, .inl (fun _ => 0))), (q_20, .inl (cA_21, 2, .inl (fun _ => 0))), (q_23, .inl (cA_24, 2, .inl (fun _ => 0))), (q_26, .inl (cA_27, 2, .inl (fun _ => 0))), (q_29, .inl (cA_30, 2, .inl (fun _ => 0))), (q_32, .inl (cA_33, 2, .inl (fun _ => 0))), (q_35, .inl (cA_36, 2, .inl (fun _ => 0))), (q_138, .inl (cA_139, 12, .inl (fun _ => 0)))] := hD
  generalize efs_140 : (fs_137.set 77 (.ref q_138)) = fs_140 at hP hD
  have lfs_140 : fs_140.length = 81 := by rw [← efs_140, List.length_set]; exact lfs_137
  have ffs_140_2 : fs_140[2]? = some (.int 0) := by rw [← efs_140]; exact p1_sn (by decide) ffs_137_2
  have ffs_140_3 : fs_140[3]? = some (.int 0) := by rw [← efs_140]; exact p1_sn (by decide) ffs_137_3
  have ffs_140_4 : fs_140[4]? = some (.int 0) := by rw [← efs_140]; exact p1_sn (by decide) ffs_137_4
  have ffs_140_43 : fs_140[43]? = some (.int 0) := by rw [← efs_140]; exact p1_sn (by decide) ffs_137_43
  have ffs_140_60 : fs_140[60]? = some (.int 0) := by rw [← efs_140]; exact p1_sn (by decide) ffs_137_60
  have ffs_140_75 : fs_140[75]? = some (.int 0) := by rw [← efs_140]; exact p1_sn (by decide) ffs_137_75
  have ffs_140_7 : fs_140[7]? = some (.int 0) := by rw [← efs_140]; exact p1_sn (by decide) ffs_137_7
  have ffs_140_76 : fs_140[76]? = some (.int 0) := by rw [← efs_140]; exact p1_sn (by decide) ffs_137_76
  have ffs_140_44 : fs_140[44]? = some (.int 0) := by rw [← efs_140]; exact p1_sn (by decide) ffs_137_44
  have ffs_140_0 : fs_140[0]? = some (.ref q_1) := by rw [← efs_140]; exact p1_sn (by decide) ffs_137_0
  have ffs_140_5 : fs_140[5]? = some (.int (-1)) := by rw [← efs_140]; exact p1_sn (by decide) ffs_137_5
  have ffs_140_11 : fs_140[11]? = some (.ref q_8) := by rw [← efs_140]; exact p1_sn (by decide) ffs_137_11
  have ffs_140_12 : fs_140[12]? = some (.ref q_11) := by rw [← efs_140]; exact p1_sn (by decide) ffs_137_12
  have ffs_140_13 : fs_140[13]? = some (.ref q_14) := by rw [← efs_140]; exact p1_sn (by decide) ffs_137_13
  have ffs_140_14 : fs_140[14]? = some (.ref q_17) := by rw [← efs_140]; exact p1_sn (by decide) ffs_137_14
  have ffs_140_15 : fs_140[15]? = some (.ref q_20) := by rw [← efs_140]; exact p1_sn (by decide) ffs_137_15
  have ffs_140_16 : fs_140[16]? = some (.ref q_23) := by rw [← efs_140]; exact p1_sn (by decide) ffs_137_16
  have ffs_140_17 : fs_140[17]? = some (.ref q_26) := by rw [← efs_140]; exact p1_sn (by decide) ffs_137_17
  have ffs_140_18 : fs_140[18]? = some (.ref q_29) := by rw [← efs_140]; exact p1_sn (by decide) ffs_137_18
  have ffs_140_19 : fs_140[19]? = some (.ref q_32) := by rw [← efs_140]; exact p1_sn (by decide) ffs_137_19
  have ffs_140_20 : fs_140[20]? = some (.ref q_35) := by rw [← efs_140]; exact p1_sn (by decide) ffs_137_20
  have ffs_140_65 : fs_140[65]? = some (.int 1) := by rw [← efs_140]; exact p1_sn (by decide) ffs_137_65
  have ffs_140_77 : fs_140[77]? = some (.ref q_138) := by rw [← efs_140]; exact p1_sa lfs_137 (by decide)
  have hP := hP.sub (ws' := [(h0, .inr (8, fs_140)), (q_1, .inl (cA_2, 1620, .inl (fun _ => 0))), (q_8, .inl (cA_9, 2, .inl (fun _ => 0))), (q_11, .inl (cA_12, 2, .inl (fun _ => 0))), (q_14, .inl (cA_15, 2, .inl (fun _ => 0))), (q_17, .inl (cA_18, 2, .inl (fun _ => 0))), (q_20, .inl (cA_21, 2, .inl (fun _ => 0))), (q_23, .inl (cA_24, 2, .inl (fun _ => 0))), (q_26, .inl (cA_27, 2, .inl (fun _ => 0))), (q_29, .inl (cA_30, 2, .inl (fun _ => 0))), (q_32, .inl (cA_33, 2, .inl (fun _ => 0))), (q_35, .inl (cA_36, 2, .inl (fun _ => 0)))]) [0, 1, 2, 3, 4, 5, 6, 7, 8, 9, 10, 11] rfl
  have hD := hD.sub (ws' := [(h0, .inr (8, fs_140)), (q_1, .inl (cA_2, 1620, .inl (fun _ => 0))), (q_8, .inl (cA_9, 2, .inl (fun _ => 0))), (q_11, .inl (cA_12, 2, .inl (fun _ => 0))), (q_14, .inl (cA_15, 2, .inl (fun _ => 0))), (q_17, .inl (cA_18, 2, .inl (fun _ => 0))), (q_20, .inl (cA_21, 2, .inl (fun _ => 0))), (q_23, .inl (cA_24, 2, .inl (fun _ => 0))), (q_26, .inl (cA_27, 2, .inl (fun _ => 0))), (q_29, .inl (cA_30, 2, .inl (fun _ => 0))), (q_32, .inl (cA_33, 2, .inl (fun _ => 0))), (q_35, .inl (cA_36, 2, .inl (fun _ => 0)))]) [0, 1, 2, 3, 4, 5, 6, 7, 8, 9, 10, 11] (by decide) rfl
  have hK := hK.sub (tys' := [(cA_2, .byte), (cA_9, .int), (cA_12, .int), (cA_15, .int), (cA_18, .int), (cA_21, .int), (cA_24, .int), (cA_27, .int), (cA_30, .int), (cA_33, .boolean), (cA_36, .boolean)]) [0, 1, 2, 3, 4, 5, 6, 7, 8, 9, 10] rfl
  refine lv_aload_n hx hb dX9_init_375 rfl (lv_at hl 0 rfl) ?_
  refine lv_iconst (v := 4) hx hb dX9_init_376 (by decide) ?_
  refine va_newa (atype := .int) (ty := .int) (N' := 4) (a0 := (4, .inl (fun _ => 0))) hx hb k_7 rfl hK hP hD hS hA (fun _ => rfl) (by decide) rfl (by decide) (by decide) (by decide) dX9_init_377 (fun q_141 cA_142 H hK hP hD hS => ?_)
  have hP : va_P (dC, dI) vwCl [(h0, .inr (8, fs_140)), (q_1, .inl (cA_2, 1620, .inl (fun _ => 0))), (q_8, .inl (cA_9, 2, .inl (fun _ => 0))), (q_11, .inl (cA_12, 2, .inl (fun _ => 0))), (q_14, .inl (cA_15, 2, .inl (fun _ => 0))), (q_17, .inl (cA_18, 2, .inl (fun _ => 0))), (q_20, .inl (cA_21, 2, .inl (fun _ => 0))), (q_23, .inl (cA_24, 2, .inl (fun _ => 0))), (q_26, .inl (cA_27, 2, .inl (fun _ => 0))), (q_29, .inl (cA_30, 2, .inl (fun _ => 0))), (q_32, .inl (cA_33, 2, .inl (fun _ => 0))), (q_35, .inl (cA_36, 2, .inl (fun _ => 0))), (q_141, .inl (cA_142, 4, .inl (fun _ => 0)))] H := hP
  have hD : va_D A [(h0, .inr (8, fs_140)), (q_1, .inl (cA_2, 1620, .inl (fun _ => 0))), (q_8, .inl (cA_9, 2, .inl (fun _ => 0))), (q_11, .inl (cA_12, 2, .inl (fun _ => 0))), (q_14, .inl (cA_15, 2, .inl (fun _ => 0))), (q_17, .inl (cA_18, 2, .inl (fun _ => 0))), (q_20, .inl (cA_21, 2, .inl (fun _ => 0))), (q_23, .inl (cA_24, 2, .inl (fun _ => 0))), (q_26, .inl (cA_27, 2, .inl (fun _ => 0))), (q_29, .inl (cA_30, 2, .inl (fun _ => 0))), (q_32, .inl (cA_33, 2, .inl (fun _ => 0))), (q_35, .inl (cA_36, 2, .inl (fun _ => 0))), (q_141, .inl (cA_142, 4, .inl (fun _ => 0)))] := hD
  have hK : va_K (dC, dI) vwCl [(cA_2, .byte), (cA_9, .int), (cA_12, .int), (cA_15, .int), (cA_18, .int), (cA_21, .int), (cA_24, .int), (cA_27, .int), (cA_30, .int), (cA_33, .boolean), (cA_36, .boolean), (cA_142, .int)] s := hK
  refine W.widen (k := 47) (n := 7758) (by decide) (by decide) ?_
  refine va_putF (D := (dC, dI)) (ci := 8) (v := .ref q_141) (ty := .array .int) (C := RX9) (T := TX9) (N := 81) hx hb hts i_X9 tyX9 tyX9_ok nmX9 hown hK hP hD hS 0 rfl rfl 78 (by decide) k_55 (fun _ h9 => h9) rfl hin rfl (by decide +kernel) rfl rfl (by rw [lfs_140]; decide) dX9_init_379 (fun H locs hP hD hS => ?_)
  have hP : va_P (dC, dI) vwCl [(h0, .inr (8, (fs_140.set 78 (.ref q_141)))), (q_1, .inl (cA_2, 1620, .inl (fun _ => 0))), (q_8, .inl (cA_9, 2, .inl (fun _ => 0))), (q_11, .inl (cA_12, 2, .inl (fun _ => 0))), (q_14, .inl (cA_15, 2, .inl (fun _ => 0))), (q_17, .inl (cA_18, 2, .inl (fun _ => 0))), (q_20, .inl (cA_21, 2, .inl (fun _ => 0))), (q_23, .inl (cA_24, 2, .inl (fun _ => 0))), (q_26, .inl (cA_27, 2, .inl (fun _ => 0))), (q_29, .inl (cA_30, 2, .inl (fun _ => 0))), (q_32, .inl (cA_33, 2, .inl (fun _ => 0))), (q_35, .inl (cA_36, 2, .inl (fun _ => 0))), (q_141, .inl (cA_142, 4, .inl (fun _ => 0)))] H := hP
  have hD : va_D A [(h0, .inr (8, (fs_140.set 78 (.ref q_141)))), (q_1, .inl (cA_2, 1620, .inl (fun _ => 0))), (q_8, .inl (cA_9, 2, .inl (fun _ => 0))), (q_11, .inl (cA_12, 2, .inl (fun _ => 0))), (q_14, .inl (cA_15, 2, .inl (fun _ => 0))), (q_17, .inl (cA_18, 2, .inl (fun _ => 0))), (q_20, .inl (cA_21, 2, .inl (fun _ => 0))), (q_23, .inl (cA_24, 2, .inl (fun _ => 0))), (q_26, .inl (cA_27, 2, .inl (fun _ => 0))), (q_29, .inl (cA_30, 2, .inl (fun _ => 0))), (q_32, .inl (cA_33, 2, .inl (fun _ => 0))), (q_35, .inl (cA_36, 2, .inl (fun _ => 0))), (q_141, .inl (cA_142, 4, .inl (fun _ => 0)))] := hD
  generalize efs_143 : (fs_140.set 78 (.ref q_141)) = fs_143 at hP hD
  have lfs_143 : fs_143.length = 81 := by rw [← efs_143, List.length_set]; exact lfs_140
  have ffs_143_2 : fs_143[2]? = some (.int 0) := by rw [← efs_143]; exact p1_sn (by decide) ffs_140_2
  have ffs_143_3 : fs_143[3]? = some (.int 0) := by rw [← efs_143]; exact p1_sn (by decide) ffs_140_3
  have ffs_143_4 : fs_143[4]? = some (.int 0) := by rw [← efs_143]; exact p1_sn (by decide) ffs_140_4
  have ffs_143_43 : fs_143[43]? = some (.int 0) := by rw [← efs_143]; exact p1_sn (by decide) ffs_140_43
  have ffs_143_60 : fs_143[60]? = some (.int 0) := by rw [← efs_143]; exact p1_sn (by decide) ffs_140_60
  have ffs_143_75 : fs_143[75]? = some (.int 0) := by rw [← efs_143]; exact p1_sn (by decide) ffs_140_75
  have ffs_143_7 : fs_143[7]? = some (.int 0) := by rw [← efs_143]; exact p1_sn (by decide) ffs_140_7
  have ffs_143_76 : fs_143[76]? = some (.int 0) := by rw [← efs_143]; exact p1_sn (by decide) ffs_140_76
  have ffs_143_44 : fs_143[44]? = some (.int 0) := by rw [← efs_143]; exact p1_sn (by decide) ffs_140_44
  have ffs_143_0 : fs_143[0]? = some (.ref q_1) := by rw [← efs_143]; exact p1_sn (by decide) ffs_140_0
  have ffs_143_5 : fs_143[5]? = some (.int (-1)) := by rw [← efs_143]; exact p1_sn (by decide) ffs_140_5
  have ffs_143_11 : fs_143[11]? = some (.ref q_8) := by rw [← efs_143]; exact p1_sn (by decide) ffs_140_11
  have ffs_143_12 : fs_143[12]? = some (.ref q_11) := by rw [← efs_143]; exact p1_sn (by decide) ffs_140_12
  have ffs_143_13 : fs_143[13]? = some (.ref q_14) := by rw [← efs_143]; exact p1_sn (by decide) ffs_140_13
  have ffs_143_14 : fs_143[14]? = some (.ref q_17) := by rw [← efs_143]; exact p1_sn (by decide) ffs_140_14
  have ffs_143_15 : fs_143[15]? = some (.ref q_20) := by rw [← efs_143]; exact p1_sn (by decide) ffs_140_15
  have ffs_143_16 : fs_143[16]? = some (.ref q_23) := by rw [← efs_143]; exact p1_sn (by decide) ffs_140_16
  have ffs_143_17 : fs_143[17]? = some (.ref q_26) := by rw [← efs_143]; exact p1_sn (by decide) ffs_140_17
  have ffs_143_18 : fs_143[18]? = some (.ref q_29) := by rw [← efs_143]; exact p1_sn (by decide) ffs_140_18
  have ffs_143_19 : fs_143[19]? = some (.ref q_32) := by rw [← efs_143]; exact p1_sn (by decide) ffs_140_19
  have ffs_143_20 : fs_143[20]? = some (.ref q_35) := by rw [← efs_143]; exact p1_sn (by decide) ffs_140_20
  have ffs_143_65 : fs_143[65]? = some (.int 1) := by rw [← efs_143]; exact p1_sn (by decide) ffs_140_65
  have ffs_143_78 : fs_143[78]? = some (.ref q_141) := by rw [← efs_143]; exact p1_sa lfs_140 (by decide)
  refine lv_aload_n hx hb dX9_init_382 rfl (lv_at hl 0 rfl) ?_
  refine lv_bipush (v := 48) hx hb dX9_init_383 (by decide) ?_
  refine va_newa (atype := .int) (ty := .int) (N' := 48) (a0 := (48, .inl (fun _ => 0))) hx hb k_7 rfl hK hP hD hS hA (fun _ => rfl) (by decide) rfl (by decide) (by decide) (by decide) dX9_init_385 (fun q_144 cA_145 H hK hP hD hS => ?_)
  have hP : va_P (dC, dI) vwCl [(h0, .inr (8, fs_143)), (q_1, .inl (cA_2, 1620, .inl (fun _ => 0))), (q_8, .inl (cA_9, 2, .inl (fun _ => 0))), (q_11, .inl (cA_12, 2, .inl (fun _ => 0))), (q_14, .inl (cA_15, 2, .inl (fun _ => 0))), (q_17, .inl (cA_18, 2, .inl (fun _ => 0))), (q_20, .inl (cA_21, 2, .inl (fun _ => 0))), (q_23, .inl (cA_24, 2, .inl (fun _ => 0))), (q_26, .inl (cA_27, 2, .inl (fun _ => 0))), (q_29, .inl (cA_30, 2, .inl (fun _ => 0))), (q_32, .inl (cA_33, 2, .inl (fun _ => 0))), (q_35, .inl (cA_36, 2, .inl (fun _ => 0))), (q_141, .inl (cA_142, 4, .inl (fun _ => 0))), (q_144, .inl (cA_145, 48, .inl (fun _ => 0)))] H := hP
  have hD : va_D A [(h0, .inr (8, fs_143)), (q_1, .inl (cA_2, 1620, .inl (fun _ => 0))), (q_8, .inl (cA_9, 2, .inl (fun _ => 0))), (q_11, .inl (cA_12, 2, .inl (fun _ => 0))), (q_14, .inl (cA_15, 2, .inl (fun _ => 0))), (q_17, .inl (cA_18, 2, .inl (fun _ => 0))), (q_20, .inl (cA_21, 2, .inl (fun _ => 0))), (q_23, .inl (cA_24, 2, .inl (fun _ => 0))), (q_26, .inl (cA_27, 2, .inl (fun _ => 0))), (q_29, .inl (cA_30, 2, .inl (fun _ => 0))), (q_32, .inl (cA_33, 2, .inl (fun _ => 0))), (q_35, .inl (cA_36, 2, .inl (fun _ => 0))), (q_141, .inl (cA_142, 4, .inl (fun _ => 0))), (q_144, .inl (cA_145, 48, .inl (fun _ => 0)))] := hD
  have hK : va_K (dC, dI) vwCl [(cA_2, .byte), (cA_9, .int), (cA_12, .int), (cA_15, .int), (cA_18, .int), (cA_21, .int), (cA_24, .int), (cA_27, .int), (cA_30, .int), (cA_33, .boolean), (cA_36, .boolean), (cA_142, .int), (cA_145, .int)] s := hK
  refine W.widen (k := 48) (n := 7806) (by decide) (by decide) ?_
  refine va_putF (D := (dC, dI)) (ci := 8) (v := .ref q_144) (ty := .array .int) (C := RX9) (T := TX9) (N := 81) hx hb hts i_X9 tyX9 tyX9_ok nmX9 hown hK hP hD hS 0 rfl rfl 79 (by decide) k_56 (fun _ h9 => h9) rfl hin rfl (by decide +kernel) rfl rfl (by rw [lfs_143]; decide) dX9_init_387 (fun H locs hP hD hS => ?_)
  have hP : va_P (dC, dI) vwCl [(h0, .inr (8, (fs_143.set 79 (.ref q_144)))), (q_1, .inl (cA_2, 1620, .inl (fun _ => 0))), (q_8, .inl (cA_9, 2, .inl (fun _ => 0))), (q_11, .inl (cA_12, 2, .inl (fun _ => 0))), (q_14, .inl (cA_15, 2, .inl (fun _ => 0))), (q_17, .inl (cA_18, 2, .inl (fun _ => 0))), (q_20, .inl (cA_21, 2, .inl (fun _ => 0))), (q_23, .inl (cA_24, 2, .inl (fun _ => 0))), (q_26, .inl (cA_27, 2, .inl (fun _ => 0))), (q_29, .inl (cA_30, 2, .inl (fun _ => 0))), (q_32, .inl (cA_33, 2, .inl (fun _ => 0))), (q_35, .inl (cA_36, 2, .inl (fun _ => 0))), (q_141, .inl (cA_142, 4, .inl (fun _ => 0))), (q_144, .inl (cA_145, 48, .inl (fun _ => 0)))] H := hP
  have hD : va_D A [(h0, .inr (8, (fs_143.set 79 (.ref q_144)))), (q_1, .inl (cA_2, 1620, .inl (fun _ => 0))), (q_8, .inl (cA_9, 2, .inl (fun _ => 0))), (q_11, .inl (cA_12, 2, .inl (fun _ => 0))), (q_14, .inl (cA_15, 2, .inl (fun _ => 0))), (q_17, .inl (cA_18, 2, .inl (fun _ => 0))), (q_20, .inl (cA_21, 2, .inl (fun _ => 0))), (q_23, .inl (cA_24, 2, .inl (fun _ => 0))), (q_26, .inl (cA_27, 2, .inl (fun _ => 0))), (q_29, .inl (cA_30, 2, .inl (fun _ => 0))), (q_32, .inl (cA_33, 2, .inl (fun _ => 0))), (q_35, .inl (cA_36, 2, .inl (fun _ => 0))), (q_141, .inl (cA_142, 4, .inl (fun _ => 0))), (q_144, .inl (cA_145, 48, .inl (fun _ => 0)))] := hD
  generalize efs_146 : (fs_143.set 79 (.ref q_144)) = fs_146 at hP hD
  have lfs_146 : fs_146.length = 81 := by rw [← efs_146, List.length_set]; exact lfs_143
  have ffs_146_2 : fs_146[2]? = some (.int 0) := by rw [← efs_146]; exact p1_sn (by decide) ffs_143_2
  have ffs_146_3 : fs_146[3]? = some (.int 0) := by rw [← efs_146]; exact p1_sn (by decide) ffs_143_3
  have ffs_146_4 : fs_146[4]? = some (.int 0) := by rw [← efs_146]; exact p1_sn (by decide) ffs_143_4
  have ffs_146_43 : fs_146[43]? = some (.int 0) := by rw [← efs_146]; exact p1_sn (by decide) ffs_143_43
  have ffs_146_60 : fs_146[60]? = some (.int 0) := by rw [← efs_146]; exact p1_sn (by decide) ffs_143_60
  have ffs_146_75 : fs_146[75]? = some (.int 0) := by rw [← efs_146]; exact p1_sn (by decide) ffs_143_75
  have ffs_146_7 : fs_146[7]? = some (.int 0) := by rw [← efs_146]; exact p1_sn (by decide) ffs_143_7
  have ffs_146_76 : fs_146[76]? = some (.int 0) := by rw [← efs_146]; exact p1_sn (by decide) ffs_143_76
  have ffs_146_44 : fs_146[44]? = some (.int 0) := by rw [← efs_146]; exact p1_sn (by decide) ffs_143_44
  have ffs_146_0 : fs_146[0]? = some (.ref q_1) := by rw [← efs_146]; exact p1_sn (by decide) ffs_143_0
  have ffs_146_5 : fs_146[5]? = some (.int (-1)) := by rw [← efs_146]; exact p1_sn (by decide) ffs_143_5
  have ffs_146_11 : fs_146[11]? = some (.ref q_8) := by rw [← efs_146]; exact p1_sn (by decide) ffs_143_11
  have ffs_146_12 : fs_146[12]? = some (.ref q_11) := by rw [← efs_146]; exact p1_sn (by decide) ffs_143_12
  have ffs_146_13 : fs_146[13]? = some (.ref q_14) := by rw [← efs_146]; exact p1_sn (by decide) ffs_143_13
  have ffs_146_14 : fs_146[14]? = some (.ref q_17) := by rw [← efs_146]; exact p1_sn (by decide) ffs_143_14
  have ffs_146_15 : fs_146[15]? = some (.ref q_20) := by rw [← efs_146]; exact p1_sn (by decide) ffs_143_15
  have ffs_146_16 : fs_146[16]? = some (.ref q_23) := by rw [← efs_146]; exact p1_sn (by decide) ffs_143_16
  have ffs_146_17 : fs_146[17]? = some (.ref q_26) := by rw [← efs_146]; exact p1_sn (by decide) ffs_143_17
  have ffs_146_18 : fs_146[18]? = some (.ref q_29) := by rw [← efs_146]; exact p1_sn (by decide) ffs_143_18
  have ffs_146_19 : fs_146[19]? = some (.ref q_32) := by rw [← efs_146]; exact p1_sn (by decide) ffs_143_19
  have ffs_146_20 : fs_146[20]? = some (.ref q_35) := by rw [← efs_146]; exact p1_sn (by decide) ffs_143_20
  have ffs_146_65 : fs_146[65]? = some (.int 1) := by rw [← efs_146]; exact p1_sn (by decide) ffs_143_65
  have ffs_146_78 : fs_146[78]? = some (.ref q_141) := by rw [← efs_146]; exact p1_sn (by decide) ffs_143_78
  have ffs_146_79 : fs_146[79]? = some (.ref q_144) := by rw [← efs_146]; exact p1_sa lfs_143 (by decide)
  have hP := hP.sub (ws' := [(h0, .inr (8, fs_146)), (q_1, .inl (cA_2, 1620, .inl (fun _ => 0))), (q_8, .inl (cA_9, 2, .inl (fun _ => 0))), (q_11, .inl (cA_12, 2, .inl (fun _ => 0))), (q_14, .inl (cA_15, 2, .inl (fun _ => 0))), (q_17, .inl (cA_18, 2, .inl (fun _ => 0))), (q_20, .inl (cA_21, 2, .inl (fun _ => 0))), (q_23, .inl (cA_24, 2, .inl (fun _ => 0))), (q_26, .inl (cA_27, 2, .inl (fun _ => 0))), (q_29, .inl (cA_30, 2, .inl (fun _ => 0))), (q_32, .inl (cA_33, 2, .inl (fun _ => 0))), (q_35, .inl (cA_36, 2, .inl (fun _ => 0))), (q_141, .inl (cA_142, 4, .inl (fun _ => 0)))]) [0, 1, 2, 3, 4, 5, 6, 7, 8, 9, 10, 11, 12] rfl
  have hD := hD.sub (ws' := [(h0, .inr (8, fs_146)), (q_1, .inl (cA_2, 1620, .inl (fun _ => 0))), (q_8, .inl (cA_9, 2, .inl (fun _ => 0))), (q_11, .inl (cA_12, 2, .inl (fun _ => 0))), (q_14, .inl (cA_15, 2, .inl (fun _ => 0))), (q_17, .inl (cA_18, 2, .inl (fun _ => 0))), (q_20, .inl (cA_21, 2, .inl (fun _ => 0))), (q_23, .inl (cA_24, 2, .inl (fun _ => 0))), (q_26, .inl (cA_27, 2, .inl (fun _ => 0))), (q_29, .inl (cA_30, 2, .inl (fun _ => 0))), (q_32, .inl (cA_33, 2, .inl (fun _ => 0))), (q_35, .inl (cA_36, 2, .inl (fun _ => 0))), (q_141, .inl (cA_142, 4, .inl (fun _ => 0)))]) [0, 1, 2, 3, 4, 5, 6, 7, 8, 9, 10, 11, 12] (by decide) rfl
  have hK := hK.sub (tys' := [(cA_2, .byte), (cA_9, .int), (cA_12, .int), (cA_15, .int), (cA_18, .int), (cA_21, .int), (cA_24, .int), (cA_27, .int), (cA_30, .int), (cA_33, .boolean), (cA_36, .boolean), (cA_142, .int)]) [0, 1, 2, 3, 4, 5, 6, 7, 8, 9, 10, 11] rfl
  refine lv_aload_n hx hb dX9_init_390 rfl (lv_at hl 0 rfl) ?_
  refine lv_bipush (v := 48) hx hb dX9_init_391 (by decide) ?_
  refine va_newa (atype := .int) (ty := .int) (N' := 48) (a0 := (48, .inl (fun _ => 0))) hx hb k_7 rfl hK hP hD hS hA (fun _ => rfl) (by decide) rfl (by decide) (by decide) (by decide) dX9_init_393 (fun q_147 cA_148 H hK hP hD hS => ?_)
  have hP : va_P (dC, dI) vwCl [(h0, .inr (8, fs_146)), (q_1, .inl (cA_2, 1620, .inl (fun _ => 0))), (q_8, .inl (cA_9, 2, .inl (fun _ => 0))), (q_11, .inl (cA_12, 2, .inl (fun _ => 0))), (q_14, .inl (cA_15, 2, .inl (fun _ => 0))), (q_17, .inl (cA_18, 2, .inl (fun _ => 0))), (q_20, .inl (cA_21, 2, .inl (fun _ => 0))), (q_23, .inl (cA_24, 2, .inl (fun _ => 0))), (q_26, .inl (cA_27, 2, .inl (fun _ => 0))), (q_29, .inl (cA_30, 2, .inl (fun _ => 0))), (q_32, .inl (cA_33, 2, .inl (fun _ => 0))), (q_35, .inl (cA_36, 2, .inl (fun _ => 0))), (q_141, .inl (cA_142, 4, .inl (fun _ => 0))), (q_147, .inl (cA_148, 48, .inl (fun _ => 0)))] H := hP
  have hD : va_D A [(h0, .inr (8, fs_146)), (q_1, .inl (cA_2, 1620, .inl (fun _ => 0))), (q_8, .inl (cA_9, 2, .inl (fun _ => 0))), (q_11, .inl (cA_12, 2, .inl (fun _ => 0))), (q_14, .inl (cA_15, 2, .inl (fun _ => 0))), (q_17, .inl (cA_18, 2, .inl (fun _ => 0))), (q_20, .inl (cA_21, 2, .inl (fun _ => 0))), (q_23, .inl (cA_24, 2, .inl (fun _ => 0))), (q_26, .inl (cA_27, 2, .inl (fun _ => 0))), (q_29, .inl (cA_30, 2, .inl (fun _ => 0))), (q_32, .inl (cA_33, 2, .inl (fun _ => 0))), (q_35, .inl (cA_36, 2, .inl (fun _ => 0))), (q_141, .inl (cA_142, 4, .inl (fun _ => 0))), (q_147, .inl (cA_148, 48, .inl (fun _ => 0)))] := hD
  have hK : va_K (dC, dI) vwCl [(cA_2, .byte), (cA_9, .int), (cA_12, .int), (cA_15, .int), (cA_18, .int), (cA_21, .int), (cA_24, .int), (cA_27, .int), (cA_30, .int), (cA_33, .boolean), (cA_36, .boolean), (cA_142, .int), (cA_148, .int)] s := hK
  refine W.widen (k := 49) (n := 7854) (by decide) (by decide) ?_
  refine va_putF (D := (dC, dI)) (ci := 8) (v := .ref q_147) (ty := .array .int) (C := RX9) (T := TX9) (N := 81) hx hb hts i_X9 tyX9 tyX9_ok nmX9 hown hK hP hD hS 0 rfl rfl 80 (by decide) k_57 (fun _ h9 => h9) rfl hin rfl (by decide +kernel) rfl rfl (by rw [lfs_146]; decide) dX9_init_395 (fun H locs hP hD hS => ?_)
  have hP : va_P (dC, dI) vwCl [(h0, .inr (8, (fs_146.set 80 (.ref q_147)))), (q_1, .inl (cA_2, 1620, .inl (fun _ => 0))), (q_8, .inl (cA_9, 2, .inl (fun _ => 0))), (q_11, .inl (cA_12, 2, .inl (fun _ => 0))), (q_14, .inl (cA_15, 2, .inl (fun _ => 0))), (q_17, .inl (cA_18, 2, .inl (fun _ => 0))), (q_20, .inl (cA_21, 2, .inl (fun _ => 0))), (q_23, .inl (cA_24, 2, .inl (fun _ => 0))), (q_26, .inl (cA_27, 2, .inl (fun _ => 0))), (q_29, .inl (cA_30, 2, .inl (fun _ => 0))), (q_32, .inl (cA_33, 2, .inl (fun _ => 0))), (q_35, .inl (cA_36, 2, .inl (fun _ => 0))), (q_141, .inl (cA_142, 4, .inl (fun _ => 0))), (q_147, .inl (cA_148, 48, .inl (fun _ => 0)))] H := hP
  have hD : va_D A [(h0, .inr (8, (fs_146.set 80 (.ref q_147)))), (q_1, .inl (cA_2, 1620, .inl (fun _ => 0))), (q_8, .inl (cA_9, 2, .inl (fun _ => 0))), (q_11, .inl (cA_12, 2, .inl (fun _ => 0))), (q_14, .inl (cA_15, 2, .inl (fun _ => 0))), (q_17, .inl (cA_18, 2, .inl (fun _ => 0))), (q_20, .inl (cA_21, 2, .inl (fun _ => 0))), (q_23, .inl (cA_24, 2, .inl (fun _ => 0))), (q_26, .inl (cA_27, 2, .inl (fun _ => 0))), (q_29, .inl (cA_30, 2, .inl (fun _ => 0))), (q_32, .inl (cA_33, 2, .inl (fun _ => 0))), (q_35, .inl (cA_36, 2, .inl (fun _ => 0))), (q_141, .inl (cA_142, 4, .inl (fun _ => 0))), (q_147, .inl (cA_148, 48, .inl (fun _ => 0)))] := hD
  generalize efs_149 : (fs_146.set 80 (.ref q_147)) = fs_149 at hP hD
  have lfs_149 : fs_149.length = 81 := by rw [← efs_149, List.length_set]; exact lfs_146
  have ffs_149_2 : fs_149[2]? = some (.int 0) := by rw [← efs_149]; exact p1_sn (by decide) ffs_146_2
  have ffs_149_3 : fs_149[3]? = some (.int 0) := by rw [← efs_149]; exact p1_sn (by decide) ffs_146_3
  have ffs_149_4 : fs_149[4]? = some (.int 0) := by rw [← efs_149]; exact p1_sn (by decide) ffs_146_4
  have ffs_149_43 : fs_149[43]? = some (.int 0) := by rw [← efs_149]; exact p1_sn (by decide) ffs_146_43
  have ffs_149_60 : fs_149[60]? = some (.int 0) := by rw [← efs_149]; exact p1_sn (by decide) ffs_146_60
  have ffs_149_75 : fs_149[75]? = some (.int 0) := by rw [← efs_149]; exact p1_sn (by decide) ffs_146_75
  have ffs_149_7 : fs_149[7]? = some (.int 0) := by rw [← efs_149]; exact p1_sn (by decide) ffs_146_7
  have ffs_149_76 : fs_149[76]? = some (.int 0) := by rw [← efs_149]; exact p1_sn (by decide) ffs_146_76
  have ffs_149_44 : fs_149[44]? = some (.int 0) := by rw [← efs_149]; exact p1_sn (by decide) ffs_146_44
  have ffs_149_0 : fs_149[0]? = some (.ref q_1) := by rw [← efs_149]; exact p1_sn (by decide) ffs_146_0
  have ffs_149_5 : fs_149[5]? = some (.int (-1)) := by rw [← efs_149]; exact p1_sn (by decide) ffs_146_5
  have ffs_149_11 : fs_149[11]? = some (.ref q_8) := by rw [← efs_149]; exact p1_sn (by decide) ffs_146_11
  have ffs_149_12 : fs_149[12]? = some (.ref q_11) := by rw [← efs_149]; exact p1_sn (by decide) ffs_146_12
  have ffs_149_13 : fs_149[13]? = some (.ref q_14) := by rw [← efs_149]; exact p1_sn (by decide) ffs_146_13
  have ffs_149_14 : fs_149[14]? = some (.ref q_17) := by rw [← efs_149]; exact p1_sn (by decide) ffs_146_14
  have ffs_149_15 : fs_149[15]? = some (.ref q_20) := by rw [← efs_149]; exact p1_sn (by decide) ffs_146_15
  have ffs_149_16 : fs_149[16]? = some (.ref q_23) := by rw [← efs_149]; exact p1_sn (by decide) ffs_146_16
  have ffs_149_17 : fs_149[17]? = some (.ref q_26) := by rw [← efs_149]; exact p1_sn (by decide) ffs_146_17
  have ffs_149_18 : fs_149[18]? = some (.ref q_29) := by rw [← efs_149]; exact p1_sn (by decide) ffs_146_18
  have ffs_149_19 : fs_149[19]? = some (.ref q_32) := by rw [← efs_149]; exact p1_sn (by decide) ffs_146_19
  have ffs_149_20 : fs_149[20]? = some (.ref q_35) := by rw [← efs_149]; exact p1_sn (by decide) ffs_146_20
  have ffs_149_65 : fs_149[65]? = some (.int 1) := by rw [← efs_149]; exact p1_sn (by decide) ffs_146_65
  have ffs_149_78 : fs_149[78]? = some (.ref q_141) := by rw [← efs_149]; exact p1_sn (by decide) ffs_146_78
  have ffs_149_80 : fs_149[80]? = some (.ref q_147) := by rw [← efs_149]; exact p1_sa lfs_146 (by decide)
  have hP := hP.sub (ws' := [(h0, .inr (8, fs_149)), (q_1, .inl (cA_2, 1620, .inl (fun _ => 0))), (q_8, .inl (cA_9, 2, .inl (fun _ => 0))), (q_11, .inl (cA_12, 2, .inl (fun _ => 0))), (q_14, .inl (cA_15, 2, .inl (fun _ => 0))), (q_17, .inl (cA_18, 2, .inl (fun _ => 0))), (q_20, .inl (cA_21, 2, .inl (fun _ => 0))), (q_23, .inl (cA_24, 2, .inl (fun _ => 0))), (q_26, .inl (cA_27, 2, .inl (fun _ => 0))), (q_29, .inl (cA_30, 2, .inl (fun _ => 0))), (q_32, .inl (cA_33, 2, .inl (fun _ => 0))), (q_35, .inl (cA_36, 2, .inl (fun _ => 0))), (q_141, .inl (cA_142, 4, .inl (fun _ => 0)))]) [0, 1, 2, 3, 4, 5, 6, 7, 8, 9, 10, 11, 12] rfl
  have hD := hD.sub (ws' := [(h0, .inr (8, fs_149)), (q_1, .inl (cA_2, 1620, .inl (fun _ => 0))), (q_8, .inl (cA_9, 2, .inl (fun _ => 0))), (q_11, .inl (cA_12, 2, .inl (fun _ => 0))), (q_14, .inl (cA_15, 2, .inl (fun _ => 0))), (q_17, .inl (cA_18, 2, .inl (fun _ => 0))), (q_20, .inl (cA_21, 2, .inl (fun _ => 0))), (q_23, .inl (cA_24, 2, .inl (fun _ => 0))), (q_26, .inl (cA_27, 2, .inl (fun _ => 0))), (q_29, .inl (cA_30, 2, .inl (fun _ => 0))), (q_32, .inl (cA_33, 2, .inl (fun _ => 0))), (q_35, .inl (cA_36, 2, .inl (fun _ => 0))), (q_141, .inl (cA_142, 4, .inl (fun _ => 0)))]) [0, 1, 2, 3, 4, 5, 6, 7, 8, 9, 10, 11, 12] (by decide) rfl
  have hK := hK.sub (tys' := [(cA_2, .byte), (cA_9, .int), (cA_12, .int), (cA_15, .int), (cA_18, .int), (cA_21, .int), (cA_24, .int), (cA_27, .int), (cA_30, .int), (cA_33, .boolean), (cA_36, .boolean), (cA_142, .int)]) [0, 1, 2, 3, 4, 5, 6, 7, 8, 9, 10, 11] rfl
  refine lv_aload_n hx hb dX9_init_398 rfl (lv_at hl 0 rfl) ?_
  have hPc := hP.sub (ws' := [(h0, .inr (8, fs_149)), (q_8, .inl (cA_9, 2, .inl (fun _ => 0))), (q_11, .inl (cA_12, 2, .inl (fun _ => 0))), (q_14, .inl (cA_15, 2, .inl (fun _ => 0))), (q_17, .inl (cA_18, 2, .inl (fun _ => 0))), (q_20, .inl (cA_21, 2, .inl (fun _ => 0))), (q_23, .inl (cA_24, 2, .inl (fun _ => 0))), (q_26, .inl (cA_27, 2, .inl (fun _ => 0))), (q_32, .inl (cA_33, 2, .inl (fun _ => 0))), (q_35, .inl (cA_36, 2, .inl (fun _ => 0)))]) [0, 2, 3, 4, 5, 6, 7, 8, 10, 11] rfl
  have hDc := hD.sub (ws' := [(h0, .inr (8, fs_149)), (q_8, .inl (cA_9, 2, .inl (fun _ => 0))), (q_11, .inl (cA_12, 2, .inl (fun _ => 0))), (q_14, .inl (cA_15, 2, .inl (fun _ => 0))), (q_17, .inl (cA_18, 2, .inl (fun _ => 0))), (q_20, .inl (cA_21, 2, .inl (fun _ => 0))), (q_23, .inl (cA_24, 2, .inl (fun _ => 0))), (q_26, .inl (cA_27, 2, .inl (fun _ => 0))), (q_32, .inl (cA_33, 2, .inl (fun _ => 0))), (q_35, .inl (cA_36, 2, .inl (fun _ => 0)))]) [0, 2, 3, 4, 5, 6, 7, 8, 10, 11] (by decide) rfl
  have hKc := hK.sub (tys' := [(cA_9, .int), (cA_12, .int), (cA_15, .int), (cA_18, .int), (cA_21, .int), (cA_24, .int), (cA_27, .int), (cA_33, .boolean), (cA_36, .boolean)]) [1, 2, 3, 4, 5, 6, 7, 9, 10] rfl
  have hFc := va_free (wc := [(h0, .inr (8, fs_149)), (q_8, .inl (cA_9, 2, .inl (fun _ => 0))), (q_11, .inl (cA_12, 2, .inl (fun _ => 0))), (q_14, .inl (cA_15, 2, .inl (fun _ => 0))), (q_17, .inl (cA_18, 2, .inl (fun _ => 0))), (q_20, .inl (cA_21, 2, .inl (fun _ => 0))), (q_23, .inl (cA_24, 2, .inl (fun _ => 0))), (q_26, .inl (cA_27, 2, .inl (fun _ => 0))), (q_32, .inl (cA_33, 2, .inl (fun _ => 0))), (q_35, .inl (cA_36, 2, .inl (fun _ => 0)))]) hD hS hA [0, 2, 3, 4, 5, 6, 7, 8, 10, 11] rfl
  refine va_callv (va_runV (As := []) (rest := []) ⟨hx, hb, hml, hown, hts⟩ (c_clearBank0 l dC dI H.size h0 fs_149 q_1 q_29 q_141 q_8 q_11 q_14 q_17 q_20 q_23 q_26 q_32 q_35 cA_9 cA_12 cA_15 cA_18 cA_21 cA_24 cA_27 cA_33 cA_36 ffs_149_2 ffs_149_3 ffs_149_4 ffs_149_43 ffs_149_60 ffs_149_75 ffs_149_7 ffs_149_76 ffs_149_0 ffs_149_5 ffs_149_18 ffs_149_65 ffs_149_78 ffs_149_11 ffs_149_12 ffs_149_13 ffs_149_14 ffs_149_15 ffs_149_16 ffs_149_17 ffs_149_19 ffs_149_20 ffs_149_44 lfs_149) (cwV 0 hts (p1_gV m_58 m_59 m_60 m_61 g_c_clearBank0 gz_c_clearBank0) rfl rfl rfl (by decide +kernel) ⟨by decide, by decide⟩) ⟨fun a U g mk q => by obtain ⟨q0, q1, qP, qK, qD⟩ := q; exact ⟨q0, q1, qP, va_K.moved (u := U) (U := U.calling g mk a) (Vm.Alike.refl U.vm) qK, qD⟩, va_recv hKc hPc (ci := 8) (q0 := 0) rfl rfl, fun U hU hW => ⟨rfl, by rw [hU], by rw [hU]; exact hPc, va_K.moved hW.alike hKc, hDc.weaken (fun _ _ _ _ => trivial)⟩⟩ rfl rfl hl.1 rfl (lv_room (Nat.le_of_ble_eq_true rfl)) dX9_init_399 ⟨by decide, by decide⟩) hS (fun q _ h => hFc q h) hFc (fun u t H1 locs ht hvm hw hB hz1 hk1 hS => ?_)
  obtain ⟨mt_151, kfo_152, cfo_153, wfo_154, lfo_155, tfo_156, if0o_157, ufo_158, yfo_159, zfo_160, z_161, z_162, z_163, z_164, z_165, z_166, z_167, z_168, z_169, z_170, z_171, z_172, z_173, z_174, z_175, z_176, z_177, z_178, z_179, z_180, z_181, z_182, z_183, z_184, z_185, z_186, z_187, z_188, z_189, z_190, hP1, hK1, hD1⟩ := hB
  rw [ht] at hP1
  obtain ⟨hP, hD⟩ := va_join (wr := [(q_1, .inl (cA_2, 1620, .inl (fun _ => 0))), (q_29, .inl (cA_30, 2, .inl (fun _ => 0))), (q_141, .inl (cA_142, 4, .inl (fun _ => 0)))]) (w1 := [(h0, .inr (8, mt_151)), (q_8, .inl (cA_9, 2, .inl kfo_152)), (q_11, .inl (cA_12, 2, .inl cfo_153)), (q_14, .inl (cA_15, 2, .inl wfo_154)), (q_17, .inl (cA_18, 2, .inl lfo_155)), (q_20, .inl (cA_21, 2, .inl tfo_156)), (q_23, .inl (cA_24, 2, .inl if0o_157)), (q_26, .inl (cA_27, 2, .inl ufo_158)), (q_32, .inl (cA_33, 2, .inl yfo_159)), (q_35, .inl (cA_36, 2, .inl zfo_160))]) hP hD [0, 2, 3, 4, 5, 6, 7, 8, 10, 11] [1, 9, 12] rfl rfl (by decide) (by decide) hk1 hFc hP1 hD1
  generalize H1 = H at hP hS ⊢
  have hP : va_P (dC, dI) vwCl [(q_1, .inl (cA_2, 1620, .inl (fun _ => 0))), (q_29, .inl (cA_30, 2, .inl (fun _ => 0))), (q_141, .inl (cA_142, 4, .inl (fun _ => 0))), (h0, .inr (8, mt_151)), (q_8, .inl (cA_9, 2, .inl kfo_152)), (q_11, .inl (cA_12, 2, .inl cfo_153)), (q_14, .inl (cA_15, 2, .inl wfo_154)), (q_17, .inl (cA_18, 2, .inl lfo_155)), (q_20, .inl (cA_21, 2, .inl tfo_156)), (q_23, .inl (cA_24, 2, .inl if0o_157)), (q_26, .inl (cA_27, 2, .inl ufo_158)), (q_32, .inl (cA_33, 2, .inl yfo_159)), (q_35, .inl (cA_36, 2, .inl zfo_160))] H := hP
  have hD : va_D A [(q_1, .inl (cA_2, 1620, .inl (fun _ => 0))), (q_29, .inl (cA_30, 2, .inl (fun _ => 0))), (q_141, .inl (cA_142, 4, .inl (fun _ => 0))), (h0, .inr (8, mt_151)), (q_8, .inl (cA_9, 2, .inl kfo_152)), (q_11, .inl (cA_12, 2, .inl cfo_153)), (q_14, .inl (cA_15, 2, .inl wfo_154)), (q_17, .inl (cA_18, 2, .inl lfo_155)), (q_20, .inl (cA_21, 2, .inl tfo_156)), (q_23, .inl (cA_24, 2, .inl if0o_157)), (q_26, .inl (cA_27, 2, .inl ufo_158)), (q_32, .inl (cA_33, 2, .inl yfo_159)), (q_35, .inl (cA_36, 2, .inl zfo_160))] := hD
  try dsimp only at hw
  refine lv_iconst (v := 0) hx hb dX9_init_402 (by decide) ?_
  refine lv_istore_n (lv' := [(1, .int 0), (0, .ref h0)]) hx hb dX9_init_403 rfl hl (by decide) rfl (fun ls hl => ?_)
  refine lv_iload_n hx hb dX9_init_404 rfl (lv_at hl 0 rfl) ?_
  refine lv_iconst (v := 4) hx hb dX9_init_405 (by decide) ?_
  refine lv_icmp_ge (tgt := 422) hx hb dX9_init_406 (by decide) (fun c9 => absurd c9 (by decide)) (fun _ => ?_)
  refine lv_aload_n hx hb dX9_init_409 rfl (lv_at hl 1 rfl) ?_
  refine va_get (D := (dC, dI)) (ci := 8) (v := .ref q_141) (C := RX9) (T := TX9) (N := 81) hx hb hts i_X9 hown hK hP 3 rfl rfl 78 (by decide) k_55 (fun _ h9 => h9) z_174 dX9_init_410 ?_
  refine lv_iload_n hx hb dX9_init_413 rfl (lv_at hl 0 rfl) ?_
  refine lv_iconst (v := (-1)) hx hb dX9_init_414 (by decide) ?_
  refine va_iast hx hb hK hP hD hS 2 11 rfl rfl (p1_in (i := 0) (n := 4) (by decide)) dX9_init_415 (fun H locs hP hD hS => ?_)
  have hP : va_P (dC, dI) vwCl [(q_1, .inl (cA_2, 1620, .inl (fun _ => 0))), (q_29, .inl (cA_30, 2, .inl (fun _ => 0))), (q_141, .inl (cA_142, 4, .inl (upd (fun _ => 0) (0 : Int32).toNatClampNeg (-1)))), (h0, .inr (8, mt_151)), (q_8, .inl (cA_9, 2, .inl kfo_152)), (q_11, .inl (cA_12, 2, .inl cfo_153)), (q_14, .inl (cA_15, 2, .inl wfo_154)), (q_17, .inl (cA_18, 2, .inl lfo_155)), (q_20, .inl (cA_21, 2, .inl tfo_156)), (q_23, .inl (cA_24, 2, .inl if0o_157)), (q_26, .inl (cA_27, 2, .inl ufo_158)), (q_32, .inl (cA_33, 2, .inl yfo_159)), (q_35, .inl (cA_36, 2, .inl zfo_160))] H := hP
  have hD : va_D A [(q_1, .inl (cA_2, 1620, .inl (fun _ => 0))), (q_29, .inl (cA_30, 2, .inl (fun _ => 0))), (q_141, .inl (cA_142, 4, .inl (upd (fun _ => 0) (0 : Int32).toNatClampNeg (-1)))), (h0, .inr (8, mt_151)), (q_8, .inl (cA_9, 2, .inl kfo_152)), (q_11, .inl (cA_12, 2, .inl cfo_153)), (q_14, .inl (cA_15, 2, .inl wfo_154)), (q_17, .inl (cA_18, 2, .inl lfo_155)), (q_20, .inl (cA_21, 2, .inl tfo_156)), (q_23, .inl (cA_24, 2, .inl if0o_157)), (q_26, .inl (cA_27, 2, .inl ufo_158)), (q_32, .inl (cA_33, 2, .inl yfo_159)), (q_35, .inl (cA_36, 2, .inl zfo_160))] := hD
  generalize eg_192 : (upd (fun _ => 0) (0 : Int32).toNatClampNeg (-1)) = g_192 at hP hD
  have hg_192_0 : g_192 0 = (-1) := by rw [← eg_192]; exact p1_us
  have hg_192_1 : g_192 1 = 0 := by rw [← eg_192]; exact p1_un (by decide) rfl
  have hg_192_2 : g_192 2 = 0 := by rw [← eg_192]; exact p1_un (by decide) rfl
  have hg_192_3 : g_192 3 = 0 := by rw [← eg_192]; exact p1_un (by decide) rfl
  refine lv_iinc (v := 1) (lv' := [(1, .int 1), (0, .ref h0)]) hx hb dX9_init_416 hl (k := 0) rfl (by decide) (by decide) rfl (fun ls hl => ?_)
  refine lv_goto (tgt := 404) hx hb dX9_init_419 (by decide) ?_
  refine lv_iload_n hx hb dX9_init_404 rfl (lv_at hl 0 rfl) ?_
  refine lv_iconst (v := 4) hx hb dX9_init_405 (by decide) ?_
  refine lv_icmp_ge (tgt := 422) hx hb dX9_init_406 (by decide) (fun c9 => absurd c9 (by decide)) (fun _ => ?_)
  refine lv_aload_n hx hb dX9_init_409 rfl (lv_at hl 1 rfl) ?_
  refine va_get (D := (dC, dI)) (ci := 8) (v := .ref q_141) (C := RX9) (T := TX9) (N := 81) hx hb hts i_X9 hown hK hP 3 rfl rfl 78 (by decide) k_55 (fun _ h9 => h9) z_174 dX9_init_410 ?_
  refine lv_iload_n hx hb dX9_init_413 rfl (lv_at hl 0 rfl) ?_
  refine lv_iconst (v := (-1)) hx hb dX9_init_414 (by decide) ?_
  refine va_iast hx hb hK hP hD hS 2 11 rfl rfl (p1_in (i := 1) (n := 4) (by decide)) dX9_init_415 (fun H locs hP hD hS => ?_)
  have hP : va_P (dC, dI) vwCl [(q_1, .inl (cA_2, 1620, .inl (fun _ => 0))), (q_29, .inl (cA_30, 2, .inl (fun _ => 0))), (q_141, .inl (cA_142, 4, .inl (upd g_192 (1 : Int32).toNatClampNeg (-1)))), (h0, .inr (8, mt_151)), (q_8, .inl (cA_9, 2, .inl kfo_152)), (q_11, .inl (cA_12, 2, .inl cfo_153)), (q_14, .inl (cA_15, 2, .inl wfo_154)), (q_17, .inl (cA_18, 2, .inl lfo_155)), (q_20, .inl (cA_21, 2, .inl tfo_156)), (q_23, .inl (cA_24, 2, .inl if0o_157)), (q_26, .inl (cA_27, 2, .inl ufo_158)), (q_32, .inl (cA_33, 2, .inl yfo_159)), (q_35, .inl (cA_36, 2, .inl zfo_160))] H := hP
  have hD : va_D A [(q_1, .inl (cA_2, 1620, .inl (fun _ => 0))), (q_29, .inl (cA_30, 2, .inl (fun _ => 0))), (q_141, .inl (cA_142, 4, .inl (upd g_192 (1 : Int32).toNatClampNeg (-1)))), (h0, .inr (8, mt_151)), (q_8, .inl (cA_9, 2, .inl kfo_152)), (q_11, .inl (cA_12, 2, .inl cfo_153)), (q_14, .inl (cA_15, 2, .inl wfo_154)), (q_17, .inl (cA_18, 2, .inl lfo_155)), (q_20, .inl (cA_21, 2, .inl tfo_156)), (q_23, .inl (cA_24, 2, .inl if0o_157)), (q_26, .inl (cA_27, 2, .inl ufo_158)), (q_32, .inl (cA_33, 2, .inl yfo_159)), (q_35, .inl (cA_36, 2, .inl zfo_160))] := hD
  generalize eg_194 : (upd g_192 (1 : Int32).toNatClampNeg (-1)) = g_194 at hP hD
  have hg_194_0 : g_194 0 = (-1) := by rw [← eg_194]; exact p1_un (by decide) hg_192_0
  have hg_194_1 : g_194 1 = (-1) := by rw [← eg_194]; exact p1_us
  have hg_194_2 : g_194 2 = 0 := by rw [← eg_194]; exact p1_un (by decide) hg_192_2
  have hg_194_3 : g_194 3 = 0 := by rw [← eg_194]; exact p1_un (by decide) hg_192_3
  refine lv_iinc (v := 2) (lv' := [(1, .int 2), (0, .ref h0)]) hx hb dX9_init_416 hl (k := 0) rfl (by decide) (by decide) rfl (fun ls hl => ?_)
  refine lv_goto (tgt := 404) hx hb dX9_init_419 (by decide) ?_
  refine lv_iload_n hx hb dX9_init_404 rfl (lv_at hl 0 rfl) ?_
  refine lv_iconst (v := 4) hx hb dX9_init_405 (by decide) ?_
  refine lv_icmp_ge (tgt := 422) hx hb dX9_init_406 (by decide) (fun c9 => absurd c9 (by decide)) (fun _ => ?_)
  refine lv_aload_n hx hb dX9_init_409 rfl (lv_at hl 1 rfl) ?_
  refine va_get (D := (dC, dI)) (ci := 8) (v := .ref q_141) (C := RX9) (T := TX9) (N := 81) hx hb hts i_X9 hown hK hP 3 rfl rfl 78 (by decide) k_55 (fun _ h9 => h9) z_174 dX9_init_410 ?_
  refine lv_iload_n hx hb dX9_init_413 rfl (lv_at hl 0 rfl) ?_
  refine lv_iconst (v := (-1)) hx hb dX9_init_414 (by decide) ?_
  refine va_iast hx hb hK hP hD hS 2 11 rfl rfl (p1_in (i := 2) (n := 4) (by decide)) dX9_init_415 (fun H locs hP hD hS => ?_)
  have hP : va_P (dC, dI) vwCl [(q_1, .inl (cA_2, 1620, .inl (fun _ => 0))), (q_29, .inl (cA_30, 2, .inl (fun _ => 0))), (q_141, .inl (cA_142, 4, .inl (upd g_194 (2 : Int32).toNatClampNeg (-1)))), (h0, .inr (8, mt_151)), (q_8, .inl (cA_9, 2, .inl kfo_152)), (q_11, .inl (cA_12, 2, .inl cfo_153)), (q_14, .inl (cA_15, 2, .inl wfo_154)), (q_17, .inl (cA_18, 2, .inl lfo_155)), (q_20, .inl (cA_21, 2, .inl tfo_156)), (q_23, .inl (cA_24, 2, .inl if0o_157)), (q_26, .inl (cA_27, 2, .inl ufo_158)), (q_32, .inl (cA_33, 2, .inl yfo_159)), (q_35, .inl (cA_36, 2, .inl zfo_160))] H := hP
  have hD : va_D A [(q_1, .inl (cA_2, 1620, .inl (fun _ => 0))), (q_29, .inl (cA_30, 2, .inl (fun _ => 0))), (q_141, .inl (cA_142, 4, .inl (upd g_194 (2 : Int32).toNatClampNeg (-1)))), (h0, .inr (8, mt_151)), (q_8, .inl (cA_9, 2, .inl kfo_152)), (q_11, .inl (cA_12, 2, .inl cfo_153)), (q_14, .inl (cA_15, 2, .inl wfo_154)), (q_17, .inl (cA_18, 2, .inl lfo_155)), (q_20, .inl (cA_21, 2, .inl tfo_156)), (q_23, .inl (cA_24, 2, .inl if0o_157)), (q_26, .inl (cA_27, 2, .inl ufo_158)), (q_32, .inl (cA_33, 2, .inl yfo_159)), (q_35, .inl (cA_36, 2, .inl zfo_160))] := hD
  generalize eg_196 : (upd g_194 (2 : Int32).toNatClampNeg (-1)) = g_196 at hP hD
  have hg_196_0 : g_196 0 = (-1) := by rw [← eg_196]; exact p1_un (by decide) hg_194_0
  have hg_196_1 : g_196 1 = (-1) := by rw [← eg_196]; exact p1_un (by decide) hg_194_1
  have hg_196_2 : g_196 2 = (-1) := by rw [← eg_196]; exact p1_us
  have hg_196_3 : g_196 3 = 0 := by rw [← eg_196]; exact p1_un (by decide) hg_194_3
  refine lv_iinc (v := 3) (lv' := [(1, .int 3), (0, .ref h0)]) hx hb dX9_init_416 hl (k := 0) rfl (by decide) (by decide) rfl (fun ls hl => ?_)
  refine lv_goto (tgt := 404) hx hb dX9_init_419 (by decide) ?_
  refine lv_iload_n hx hb dX9_init_404 rfl (lv_at hl 0 rfl) ?_
  refine lv_iconst (v := 4) hx hb dX9_init_405 (by decide) ?_
  refine lv_icmp_ge (tgt := 422) hx hb dX9_init_406 (by decide) (fun c9 => absurd c9 (by decide)) (fun _ => ?_)
  refine lv_aload_n hx hb dX9_init_409 rfl (lv_at hl 1 rfl) ?_
  refine va_get (D := (dC, dI)) (ci := 8) (v := .ref q_141) (C := RX9) (T := TX9) (N := 81) hx hb hts i_X9 hown hK hP 3 rfl rfl 78 (by decide) k_55 (fun _ h9 => h9) z_174 dX9_init_410 ?_
  refine lv_iload_n hx hb dX9_init_413 rfl (lv_at hl 0 rfl) ?_
  refine lv_iconst (v := (-1)) hx hb dX9_init_414 (by decide) ?_
  refine va_iast hx hb hK hP hD hS 2 11 rfl rfl (p1_in (i := 3) (n := 4) (by decide)) dX9_init_415 (fun H locs hP hD hS => ?_)
  have hP : va_P (dC, dI) vwCl [(q_1, .inl (cA_2, 1620, .inl (fun _ => 0))), (q_29, .inl (cA_30, 2, .inl (fun _ => 0))), (q_141, .inl (cA_142, 4, .inl (upd g_196 (3 : Int32).toNatClampNeg (-1)))), (h0, .inr (8, mt_151)), (q_8, .inl (cA_9, 2, .inl kfo_152)), (q_11, .inl (cA_12, 2, .inl cfo_153)), (q_14, .inl (cA_15, 2, .inl wfo_154)), (q_17, .inl (cA_18, 2, .inl lfo_155)), (q_20, .inl (cA_21, 2, .inl tfo_156)), (q_23, .inl (cA_24, 2, .inl if0o_157)), (q_26, .inl (cA_27, 2, .inl ufo_158)), (q_32, .inl (cA_33, 2, .inl yfo_159)), (q_35, .inl (cA_36, 2, .inl zfo_160))] H := hP
  have hD : va_D A [(q_1, .inl (cA_2, 1620, .inl (fun _ => 0))), (q_29, .inl (cA_30, 2, .inl (fun _ => 0))), (q_141, .inl (cA_142, 4, .inl (upd g_196 (3 : Int32).toNatClampNeg (-1)))), (h0, .inr (8, mt_151)), (q_8, .inl (cA_9, 2, .inl kfo_152)), (q_11, .inl (cA_12, 2, .inl cfo_153)), (q_14, .inl (cA_15, 2, .inl wfo_154)), (q_17, .inl (cA_18, 2, .inl lfo_155)), (q_20, .inl (cA_21, 2, .inl tfo_156)), (q_23, .inl (cA_24, 2, .inl if0o_157)), (q_26, .inl (cA_27, 2, .inl ufo_158)), (q_32, .inl (cA_33, 2, .inl yfo_159)), (q_35, .inl (cA_36, 2, .inl zfo_160))] := hD
  generalize eg_198 : (upd g_196 (3 : Int32).toNatClampNeg (-1)) = g_198 at hP hD
  have hg_198_0 : g_198 0 = (-1) := by rw [← eg_198]; exact p1_un (by decide) hg_196_0
  have hg_198_1 : g_198 1 = (-1) := by rw [← eg_198]; exact p1_un (by decide) hg_196_1
  have hg_198_2 : g_198 2 = (-1) := by rw [← eg_198]; exact p1_un (by decide) hg_196_2
  have hg_198_3 : g_198 3 = (-1) := by rw [← eg_198]; exact p1_us
  refine lv_iinc (v := 4) (lv' := [(1, .int 4), (0, .ref h0)]) hx hb dX9_init_416 hl (k := 0) rfl (by decide) (by decide) rfl (fun ls hl => ?_)
  refine lv_goto (tgt := 404) hx hb dX9_init_419 (by decide) ?_
  refine lv_iload_n hx hb dX9_init_404 rfl (lv_at hl 0 rfl) ?_
  refine lv_iconst (v := 4) hx hb dX9_init_405 (by decide) ?_
  refine lv_icmp_ge (tgt := 422) hx hb dX9_init_406 (by decide) (fun _ => ?_) (fun c9 => absurd c9 (by decide))
  have hP9 := hP.sub (ws' := [(h0, .inr (8, mt_151)), (q_1, .inl (cA_2, 1620, .inl (fun _ => 0))), (q_8, .inl (cA_9, 2, .inl kfo_152)), (q_11, .inl (cA_12, 2, .inl cfo_153)), (q_14, .inl (cA_15, 2, .inl wfo_154)), (q_17, .inl (cA_18, 2, .inl lfo_155)), (q_20, .inl (cA_21, 2, .inl tfo_156)), (q_23, .inl (cA_24, 2, .inl if0o_157)), (q_26, .inl (cA_27, 2, .inl ufo_158)), (q_32, .inl (cA_33, 2, .inl yfo_159)), (q_35, .inl (cA_36, 2, .inl zfo_160)), (q_29, .inl (cA_30, 2, .inl (fun _ => 0))), (q_141, .inl (cA_142, 4, .inl g_198))]) [3, 0, 4, 5, 6, 7, 8, 9, 10, 11, 12, 1, 2] rfl
  have hD9 := hD.sub (ws' := [(h0, .inr (8, mt_151)), (q_1, .inl (cA_2, 1620, .inl (fun _ => 0))), (q_8, .inl (cA_9, 2, .inl kfo_152)), (q_11, .inl (cA_12, 2, .inl cfo_153)), (q_14, .inl (cA_15, 2, .inl wfo_154)), (q_17, .inl (cA_18, 2, .inl lfo_155)), (q_20, .inl (cA_21, 2, .inl tfo_156)), (q_23, .inl (cA_24, 2, .inl if0o_157)), (q_26, .inl (cA_27, 2, .inl ufo_158)), (q_32, .inl (cA_33, 2, .inl yfo_159)), (q_35, .inl (cA_36, 2, .inl zfo_160)), (q_29, .inl (cA_30, 2, .inl (fun _ => 0))), (q_141, .inl (cA_142, 4, .inl g_198))]) [3, 0, 4, 5, 6, 7, 8, 9, 10, 11, 12, 1, 2] (by decide) rfl
  have hK9 := hK.sub (tys' := [(cA_2, .byte), (cA_9, .int), (cA_12, .int), (cA_15, .int), (cA_18, .int), (cA_21, .int), (cA_24, .int), (cA_27, .int), (cA_33, .boolean), (cA_36, .boolean), (cA_30, .int), (cA_142, .int)]) [0, 1, 2, 3, 4, 5, 6, 7, 9, 10, 8, 11] rfl
  exact W.vret hx hb hr (fun t ht hW => ⟨⟨(), rfl, trivial, mt_151, q_29, q_141, q_1, q_8, q_11, q_14, q_17, q_20, q_23, q_26, q_32, q_35, cA_2, cA_9, kfo_152, cA_12, cfo_153, cA_15, wfo_154, cA_18, lfo_155, cA_21, tfo_156, cA_24, if0o_157, cA_27, ufo_158, cA_33, yfo_159, cA_36, zfo_160, cA_30, cA_142, g_198, z_161, z_162, z_163, z_164, z_171, z_165, z_166, z_167, z_172, z_174, z_168, z_170, z_173, z_169, z_175, z_176, z_177, z_178, z_179, z_180, z_181, z_182, z_183, z_186, z_187, z_188, z_189, z_190, hg_198_0, hg_198_1, hg_198_2, hg_198_3, by rw [ht]; exact hP9, va_K.moved hW.alike hK9, hD9⟩, hS.F ht⟩) hS.2.2 dX9_init_422
