def zo_r_readLaw : List Cond := [.code yX9_readLaw cX9_readLaw 2 none, .fieldLink RX9 279 "BowWalkModel" "rb" "I", .fieldLink RX9 30 "BowWalkModel" "laws" "[I", .fieldLink RX9 62 "BowWalkModel" "lName" "[J", .methodLink RX9 325 yX9_fresh, .instanceMethod yX9_fresh, .selects RX9 yX9_fresh yX9_fresh, .initialized RX9, .constantLong RX9 198 (7501154), .methodLink RX9 268 yX9_isWord, .instanceMethod yX9_isWord, .selects RX9 yX9_isWord yX9_isWord, .methodLink RX9 271 yX9_must, .instanceMethod yX9_must, .selects RX9 yX9_must yX9_must, .fieldLink RX9 98 "BowWalkModel" "rFrom" "[I", .fieldLink RX9 282 "BowWalkModel" "codes" "I", .methodLink RX9 258 yX9_isGood, .instanceMethod yX9_isGood, .selects RX9 yX9_isGood yX9_isGood, .methodLink RX9 336 yX9_e, .instanceMethod yX9_e, .selects RX9 yX9_e yX9_e, .fieldLink RX9 101 "BowWalkModel" "rTo" "[I", .constantLong RX9 200 (1886743660)]
def zw_r_readLaw : List Cond := zo_r_readLaw ++ (zw_r_fresh ++ (zw_r_isWord ++ (zw_r_must ++ (zw_r_isGood ++ (zw_r_e ++ (wsX90 ++ []))))))
theorem gz_r_readLaw : zw_r_readLaw.all goodWord = true := p1_ga (by decide +kernel) (p1_ga gz_r_fresh (p1_ga gz_r_isWord (p1_ga gz_r_must (p1_ga gz_r_isGood (p1_ga gz_r_e (p1_ga gk_X9 p1_g0))))))
theorem iz_r_readLaw : ∀ w ∈ zw_r_readLaw, w ∈ lw_tbl := p1_ia (p1_all [1386, 1081, 1051, 1061, 1355, 1357, 53, 116, 1310, 1339, 1341, 49, 1371, 1373, 57, 1073, 1082, 1327, 1329, 46, 1387, 1389, 61, 1074, 1311] (by decide +kernel)) (p1_ia iz_r_fresh (p1_ia iz_r_isWord (p1_ia iz_r_must (p1_ia iz_r_isGood (p1_ia iz_r_e (p1_ia ik_X9 p1_i0))))))
def zW_r_readLaw (p0 : Nat) (f_p0 : List Value) (p0_code : Nat) (c_p0_code : ClassId) (b_p0_code : Nat → Int32) (p0_codeNumber : Nat) (c_p0_codeNumber : ClassId) (b_p0_codeNumber : Nat → Int32) (p0_eSign : Nat) (c_p0_eSign : ClassId) (b_p0_eSign : Nat → Int32) (p0_eWhat : Nat) (c_p0_eWhat : ClassId) (b_p0_eWhat : Nat → Int32) (p0_lName : Nat) (c_p0_lName : ClassId) (b_p0_lName : Nat → Int64) (p0_laws : Nat) (c_p0_laws : ClassId) (b_p0_laws : Nat → Int32) (p0_rFrom : Nat) (c_p0_rFrom : ClassId) (b_p0_rFrom : Nat → Int32) (p0_rTo : Nat) (c_p0_rTo : ClassId) (b_p0_rTo : Nat → Int32) (p0_text : Nat) (c_p0_text : ClassId) (b_p0_text : Nat → Int32) : va_W := [(p0, .inr (8, f_p0)), (p0_code, .inl (c_p0_code, 1800, .inl b_p0_code)), (p0_codeNumber, .inl (c_p0_codeNumber, 1800, .inl b_p0_codeNumber)), (p0_eSign, .inl (c_p0_eSign, 120, .inl b_p0_eSign)), (p0_eWhat, .inl (c_p0_eWhat, 120, .inl b_p0_eWhat)), (p0_lName, .inl (c_p0_lName, 6, .inr (.inl b_p0_lName))), (p0_laws, .inl (c_p0_laws, 2, .inl b_p0_laws)), (p0_rFrom, .inl (c_p0_rFrom, 12, .inl b_p0_rFrom)), (p0_rTo, .inl (c_p0_rTo, 12, .inl b_p0_rTo)), (p0_text, .inl (c_p0_text, 1600, .inl b_p0_text))]
def zT_r_readLaw (c_p0_code : ClassId) (c_p0_codeNumber : ClassId) (c_p0_eSign : ClassId) (c_p0_eWhat : ClassId) (c_p0_lName : ClassId) (c_p0_laws : ClassId) (c_p0_rFrom : ClassId) (c_p0_rTo : ClassId) (c_p0_text : ClassId) : List (ClassId × FieldType) := [(c_p0_code, .int), (c_p0_codeNumber, .int), (c_p0_eSign, .int), (c_p0_eWhat, .int), (c_p0_lName, .long), (c_p0_laws, .int), (c_p0_rFrom, .int), (c_p0_rTo, .int), (c_p0_text, .byte)]
def zA_r_readLaw (p0 : Nat) (p0_code : Nat) (p0_codeNumber : Nat) (p0_eSign : Nat) (p0_eWhat : Nat) (p0_lName : Nat) (p0_laws : Nat) (p0_rFrom : Nat) (p0_rTo : Nat) (p0_text : Nat) : List Nat := [p0, p0_code, p0_codeNumber, p0_eSign, p0_eWhat, p0_lName, p0_laws, p0_rFrom, p0_rTo, p0_text]
theorem za_r_readLaw {p0 : Nat} {f_p0 : List Value} {p0_code : Nat} {c_p0_code : ClassId} {b_p0_code : Nat → Int32} {p0_codeNumber : Nat} {c_p0_codeNumber : ClassId} {b_p0_codeNumber : Nat → Int32} {p0_eSign : Nat} {c_p0_eSign : ClassId} {b_p0_eSign : Nat → Int32} {p0_eWhat : Nat} {c_p0_eWhat : ClassId} {b_p0_eWhat : Nat → Int32} {p0_lName : Nat} {c_p0_lName : ClassId} {b_p0_lName : Nat → Int64} {p0_laws : Nat} {c_p0_laws : ClassId} {b_p0_laws : Nat → Int32} {p0_rFrom : Nat} {c_p0_rFrom : ClassId} {b_p0_rFrom : Nat → Int32} {p0_rTo : Nat} {c_p0_rTo : ClassId} {b_p0_rTo : Nat → Int32} {p0_text : Nat} {c_p0_text : ClassId} {b_p0_text : Nat → Int32} : (zW_r_readLaw p0 f_p0 p0_code c_p0_code b_p0_code p0_codeNumber c_p0_codeNumber b_p0_codeNumber p0_eSign c_p0_eSign b_p0_eSign p0_eWhat c_p0_eWhat b_p0_eWhat p0_lName c_p0_lName b_p0_lName p0_laws c_p0_laws b_p0_laws p0_rFrom c_p0_rFrom b_p0_rFrom p0_rTo c_p0_rTo b_p0_rTo p0_text c_p0_text b_p0_text).map Prod.fst = (zA_r_readLaw p0 p0_code p0_codeNumber p0_eSign p0_eWhat p0_lName p0_laws p0_rFrom p0_rTo p0_text) := rfl
def zG_r_readLaw (p0 : Nat) (f_p0 : List Value) (p0_code : Nat) (c_p0_code : ClassId) (b_p0_code : Nat → Int32) (p0_codeNumber : Nat) (c_p0_codeNumber : ClassId) (b_p0_codeNumber : Nat → Int32) (p0_eSign : Nat) (c_p0_eSign : ClassId) (b_p0_eSign : Nat → Int32) (p0_eWhat : Nat) (c_p0_eWhat : ClassId) (b_p0_eWhat : Nat → Int32) (p0_lName : Nat) (c_p0_lName : ClassId) (b_p0_lName : Nat → Int64) (p0_laws : Nat) (c_p0_laws : ClassId) (b_p0_laws : Nat → Int32) (p0_rFrom : Nat) (c_p0_rFrom : ClassId) (b_p0_rFrom : Nat → Int32) (p0_rTo : Nat) (c_p0_rTo : ClassId) (b_p0_rTo : Nat → Int32) (p0_text : Nat) (c_p0_text : ClassId) (b_p0_text : Nat → Int32) (at0 : Int32) (en : Int32) (tk : Int32) (siz : Int32) (fk : Int32) (rb : Int32) (co : Int32) (un : Int32) (X : va_W → Prop) : Prop := ∃ (y_p0 : List Value) (y_p0_code : Nat → Int32) (y_p0_codeNumber : Nat → Int32) (y_p0_eSign : Nat → Int32) (y_p0_eWhat : Nat → Int32) (y_p0_lName : Nat → Int64) (y_p0_laws : Nat → Int32) (y_p0_rFrom : Nat → Int32) (y_p0_rTo : Nat → Int32) (at1 : Int32) (en1 : Int32) (tk1 : Int32) (fk1 : Int32) (co1 : Int32) (un1 : Int32), OKX9 y_p0 ∧ q_fr [4, 5, 6, 7, 8, 9, 10, 45, 46, 47, 48] f_p0 y_p0 ∧ (q_rg 2 (0) 3 y_p0_laws) ∧ (q_rg 12 (0) 1800 y_p0_rFrom) ∧ (q_rg 12 (0) 1800 y_p0_rTo) ∧ q_if y_p0 6 at1 ∧ q_if y_p0 7 en1 ∧ q_if y_p0 8 tk1 ∧ q_if y_p0 4 fk1 ∧ q_if y_p0 45 co1 ∧ q_if y_p0 46 un1 ∧ (en1.toInt ≤ siz.toInt ∧ at0.toInt ≤ at1.toInt ∧ at1.toInt ≤ en1.toInt ∧ (tk1.toInt ≠ 3 ∨ at1.toInt < en1.toInt)) ∧ (fk.toInt = 0 ∨ 1 ≤ fk1.toInt) ∧ (900 * rb.toInt ≤ co1.toInt ∧ co1.toInt ≤ 900 * rb.toInt + 900 ∧ 0 ≤ un1.toInt ∧ un1.toInt ≤ 60) ∧ (q_offd rb.toInt b_p0_laws y_p0_laws) ∧ (q_offb (2 * (3 * rb.toInt + (b_p0_laws rb.toNatClampNeg).toInt)) b_p0_rFrom y_p0_rFrom) ∧ (q_offb (2 * (3 * rb.toInt + (b_p0_laws rb.toNatClampNeg).toInt)) b_p0_rTo y_p0_rTo) ∧ (q_offc co.toInt rb b_p0_code y_p0_code) ∧ (1 ≤ fk1.toInt ∨ ((y_p0_laws rb.toNatClampNeg).toInt = (b_p0_laws rb.toNatClampNeg).toInt + 1 ∧ co.toInt ≤ co1.toInt ∧ co1.toInt - 900 * rb.toInt ≤ 9 * un1.toInt ∧ ∀ j : Nat, ((j : Int) = (2 * (3 * rb.toInt + (b_p0_laws rb.toNatClampNeg).toInt)) ∨ (j : Int) = (2 * (3 * rb.toInt + (b_p0_laws rb.toNatClampNeg).toInt)) + 1) → q_good j y_p0_rFrom y_p0_rTo y_p0_code ∧ co.toInt ≤ (y_p0_rFrom j).toInt ∧ (y_p0_rTo j).toInt ≤ co1.toInt)) ∧ X (zW_r_readLaw p0 y_p0 p0_code c_p0_code y_p0_code p0_codeNumber c_p0_codeNumber y_p0_codeNumber p0_eSign c_p0_eSign y_p0_eSign p0_eWhat c_p0_eWhat y_p0_eWhat p0_lName c_p0_lName y_p0_lName p0_laws c_p0_laws y_p0_laws p0_rFrom c_p0_rFrom y_p0_rFrom p0_rTo c_p0_rTo y_p0_rTo p0_text c_p0_text b_p0_text)
theorem zm_r_readLaw {p0 : Nat} {f_p0 : List Value} {p0_code : Nat} {c_p0_code : ClassId} {b_p0_code : Nat → Int32} {p0_codeNumber : Nat} {c_p0_codeNumber : ClassId} {b_p0_codeNumber : Nat → Int32} {p0_eSign : Nat} {c_p0_eSign : ClassId} {b_p0_eSign : Nat → Int32} {p0_eWhat : Nat} {c_p0_eWhat : ClassId} {b_p0_eWhat : Nat → Int32} {p0_lName : Nat} {c_p0_lName : ClassId} {b_p0_lName : Nat → Int64} {p0_laws : Nat} {c_p0_laws : ClassId} {b_p0_laws : Nat → Int32} {p0_rFrom : Nat} {c_p0_rFrom : ClassId} {b_p0_rFrom : Nat → Int32} {p0_rTo : Nat} {c_p0_rTo : ClassId} {b_p0_rTo : Nat → Int32} {p0_text : Nat} {c_p0_text : ClassId} {b_p0_text : Nat → Int32} {at0 : Int32} {en : Int32} {tk : Int32} {siz : Int32} {fk : Int32} {rb : Int32} {co : Int32} {un : Int32} : ∀ X Y : va_W → Prop, (∀ w, X w → Y w) → zG_r_readLaw p0 f_p0 p0_code c_p0_code b_p0_code p0_codeNumber c_p0_codeNumber b_p0_codeNumber p0_eSign c_p0_eSign b_p0_eSign p0_eWhat c_p0_eWhat b_p0_eWhat p0_lName c_p0_lName b_p0_lName p0_laws c_p0_laws b_p0_laws p0_rFrom c_p0_rFrom b_p0_rFrom p0_rTo c_p0_rTo b_p0_rTo p0_text c_p0_text b_p0_text at0 en tk siz fk rb co un X → zG_r_readLaw p0 f_p0 p0_code c_p0_code b_p0_code p0_codeNumber c_p0_codeNumber b_p0_codeNumber p0_eSign c_p0_eSign b_p0_eSign p0_eWhat c_p0_eWhat b_p0_eWhat p0_lName c_p0_lName b_p0_lName p0_laws c_p0_laws b_p0_laws p0_rFrom c_p0_rFrom b_p0_rFrom p0_rTo c_p0_rTo b_p0_rTo p0_text c_p0_text b_p0_text at0 en tk siz fk rb co un Y := fun X Y h h1 => by obtain ⟨x0, x1, x2, x3, x4, x5, x6, x7, x8, x9, x10, x11, x12, x13, x14, x15, x16, x17, x18, x19, x20, x21, x22, x23, x24, x25, x26, x27, x28, x29, x30, x31, x32, x33, hx⟩ := h1; exact ⟨x0, x1, x2, x3, x4, x5, x6, x7, x8, x9, x10, x11, x12, x13, x14, x15, x16, x17, x18, x19, x20, x21, x22, x23, x24, x25, x26, x27, x28, x29, x30, x31, x32, x33, h _ hx⟩
set_option maxHeartbeats 4000000 in
set_option maxRecDepth 100000 in
theorem r_readLaw (l : Launch) (dC : Nat → ClassId) (dI : Nat → Nat → Nat) (sz : Nat) (p0 : Nat) (f_p0 : List Value) (p0_code : Nat) (c_p0_code : ClassId) (b_p0_code : Nat → Int32) (p0_codeNumber : Nat) (c_p0_codeNumber : ClassId) (b_p0_codeNumber : Nat → Int32) (p0_eSign : Nat) (c_p0_eSign : ClassId) (b_p0_eSign : Nat → Int32) (p0_eWhat : Nat) (c_p0_eWhat : ClassId) (b_p0_eWhat : Nat → Int32) (p0_lName : Nat) (c_p0_lName : ClassId) (b_p0_lName : Nat → Int64) (p0_laws : Nat) (c_p0_laws : ClassId) (b_p0_laws : Nat → Int32) (p0_rFrom : Nat) (c_p0_rFrom : ClassId) (b_p0_rFrom : Nat → Int32) (p0_rTo : Nat) (c_p0_rTo : ClassId) (b_p0_rTo : Nat → Int32) (p0_text : Nat) (c_p0_text : ClassId) (b_p0_text : Nat → Int32) (at0 : Int32) (en : Int32) (tk : Int32) (siz : Int32) (fk : Int32) (rb : Int32) (co : Int32) (un : Int32) (ho_p0 : OKX9 f_p0) (fr_p0_1 : q_rf f_p0 1 p0_text) (fr_p0_14 : q_rf f_p0 14 p0_laws) (fr_p0_24 : q_rf f_p0 24 p0_lName) (fr_p0_36 : q_rf f_p0 36 p0_rFrom) (fr_p0_37 : q_rf f_p0 37 p0_rTo) (fr_p0_38 : q_rf f_p0 38 p0_code) (fr_p0_39 : q_rf f_p0 39 p0_codeNumber) (fr_p0_40 : q_rf f_p0 40 p0_eWhat) (fr_p0_41 : q_rf f_p0 41 p0_eSign) (hr_p0_laws : q_rg 2 (0) 3 b_p0_laws) (hr_p0_rFrom : q_rg 12 (0) 1800 b_p0_rFrom) (hr_p0_rTo : q_rg 12 (0) 1800 b_p0_rTo) (pf_at0 : q_if f_p0 6 at0) (pf_en : q_if f_p0 7 en) (pf_tk : q_if f_p0 8 tk) (pf_siz : q_if f_p0 3 siz) (pf_fk : q_if f_p0 4 fk) (pf_rb : q_if f_p0 44 rb) (pf_co : q_if f_p0 45 co) (pf_un : q_if f_p0 46 un) (hR : en.toInt ≤ siz.toInt ∧ at0.toInt ≤ en.toInt ∧ (tk.toInt ≠ 3 ∨ at0.toInt < en.toInt)) (hk : (b_p0_laws rb.toNatClampNeg).toInt ≤ 2) (hc : 900 * rb.toInt ≤ co.toInt ∧ co.toInt - 900 * rb.toInt ≤ 9 * un.toInt ∧ 0 ≤ un.toInt ∧ un.toInt ≤ 60) : Met l yX9_readLaw zw_r_readLaw ({ frames := 5, cells := 0, slots := 0, locals := 107 }) (va_Pc [.ref p0] (q_pre (dC, dI) (zW_r_readLaw p0 f_p0 p0_code c_p0_code b_p0_code p0_codeNumber c_p0_codeNumber b_p0_codeNumber p0_eSign c_p0_eSign b_p0_eSign p0_eWhat c_p0_eWhat b_p0_eWhat p0_lName c_p0_lName b_p0_lName p0_laws c_p0_laws b_p0_laws p0_rFrom c_p0_rFrom b_p0_rFrom p0_rTo c_p0_rTo b_p0_rTo p0_text c_p0_text b_p0_text) (zT_r_readLaw c_p0_code c_p0_codeNumber c_p0_eSign c_p0_eWhat c_p0_lName c_p0_laws c_p0_rFrom c_p0_rTo c_p0_text) q_E0 sz)) (q_Qv (dC, dI) (zG_r_readLaw p0 f_p0 p0_code c_p0_code b_p0_code p0_codeNumber c_p0_codeNumber b_p0_codeNumber p0_eSign c_p0_eSign b_p0_eSign p0_eWhat c_p0_eWhat b_p0_eWhat p0_lName c_p0_lName b_p0_lName p0_laws c_p0_laws b_p0_laws p0_rFrom c_p0_rFrom b_p0_rFrom p0_rTo c_p0_rTo b_p0_rTo p0_text c_p0_text b_p0_text at0 en tk siz fk rb co un) (zA_r_readLaw p0 p0_code p0_codeNumber p0_eSign p0_eWhat p0_lName p0_laws p0_rFrom p0_rTo p0_text) (va_A (zW_r_readLaw p0 f_p0 p0_code c_p0_code b_p0_code p0_codeNumber c_p0_codeNumber b_p0_codeNumber p0_eSign c_p0_eSign b_p0_eSign p0_eWhat c_p0_eWhat b_p0_eWhat p0_lName c_p0_lName b_p0_lName p0_laws c_p0_laws b_p0_laws p0_rFrom c_p0_rFrom b_p0_rFrom p0_rTo c_p0_rTo b_p0_rTo p0_text c_p0_text b_p0_text) sz)) 0 0 (va_A (zW_r_readLaw p0 f_p0 p0_code c_p0_code b_p0_code p0_codeNumber c_p0_codeNumber b_p0_codeNumber p0_eSign c_p0_eSign b_p0_eSign p0_eWhat c_p0_eWhat b_p0_eWhat p0_lName c_p0_lName b_p0_lName p0_laws c_p0_laws b_p0_laws p0_rFrom c_p0_rFrom b_p0_rFrom p0_rTo c_p0_rTo b_p0_rTo p0_text c_p0_text b_p0_text) sz) := by
  refine Met.ofW (cc := cX9_readLaw) (maxL := 2) (ret := none) (by decide) rfl ?_
  intro p e s m args below meth c s₁ B hml hv
  obtain ⟨rfl, hsz, hP, hK, hD0, hE⟩ := hv
  have hx := B.exec
  have hb := B.bytes
  have hr := B.returns
  have hts := atoms_spec (ws := zw_r_readLaw) B.pre
  have hown : s.vm.findClass RX9 = some m.cls := findClass_of_methodNamed B.named
  have hlocks := B.notSynchronized
  subst hsz
  have hD := hD0.self (sz := s.heap.size)
  generalize hAe : va_A (zW_r_readLaw p0 f_p0 p0_code c_p0_code b_p0_code p0_codeNumber c_p0_codeNumber b_p0_codeNumber p0_eSign c_p0_eSign b_p0_eSign p0_eWhat c_p0_eWhat b_p0_eWhat p0_lName c_p0_lName b_p0_lName p0_laws c_p0_laws b_p0_laws p0_rFrom c_p0_rFrom b_p0_rFrom p0_rTo c_p0_rTo b_p0_rTo p0_text c_p0_text b_p0_text) s.heap.size = A at hD hE ⊢
  have hA : ∀ q : Nat, s.heap.size ≤ q → A q := fun q h => by rw [← hAe]; exact Or.inr h
  have hDa : q_DA A (zA_r_readLaw p0 p0_code p0_codeNumber p0_eSign p0_eWhat p0_lName p0_laws p0_rFrom p0_rTo p0_text) := q_DA.mk hD za_r_readLaw
  clear hAe hD0 hD
  have hS : va_S A s.heap s.heap [] := va_S.rf
  have m_0 : (.fieldLink RX9 279 "BowWalkModel" "rb" "I" : Cond) ∈ zw_r_readLaw := List.mem_append_left _ (List.mem_of_getElem? (i := 1) rfl)
  have k_0 := hts _ m_0
  have m_1 : (.fieldLink RX9 30 "BowWalkModel" "laws" "[I" : Cond) ∈ zw_r_readLaw := List.mem_append_left _ (List.mem_of_getElem? (i := 2) rfl)
  have k_1 := hts _ m_1
  have m_2 : (.fieldLink RX9 62 "BowWalkModel" "lName" "[J" : Cond) ∈ zw_r_readLaw := List.mem_append_left _ (List.mem_of_getElem? (i := 3) rfl)
  have k_2 := hts _ m_2
  have m_3 : (.methodLink RX9 325 yX9_fresh : Cond) ∈ zw_r_readLaw := List.mem_append_left _ (List.mem_of_getElem? (i := 4) rfl)
  have k_3 := hts _ m_3
  have m_4 : (.instanceMethod yX9_fresh : Cond) ∈ zw_r_readLaw := List.mem_append_left _ (List.mem_of_getElem? (i := 5) rfl)
  have k_4 := hts _ m_4
  have m_5 : (.selects RX9 yX9_fresh yX9_fresh : Cond) ∈ zw_r_readLaw := List.mem_append_left _ (List.mem_of_getElem? (i := 6) rfl)
  have k_5 := hts _ m_5
  have m_6 : (.initialized RX9 : Cond) ∈ zw_r_readLaw := List.mem_append_left _ (List.mem_of_getElem? (i := 7) rfl)
  have k_6 := hts _ m_6
  have m_7 : (.constantLong RX9 198 (7501154) : Cond) ∈ zw_r_readLaw := List.mem_append_left _ (List.mem_of_getElem? (i := 8) rfl)
  have k_7 := hts _ m_7
  have m_8 : (.methodLink RX9 268 yX9_isWord : Cond) ∈ zw_r_readLaw := List.mem_append_left _ (List.mem_of_getElem? (i := 9) rfl)
  have k_8 := hts _ m_8
  have m_9 : (.instanceMethod yX9_isWord : Cond) ∈ zw_r_readLaw := List.mem_append_left _ (List.mem_of_getElem? (i := 10) rfl)
  have k_9 := hts _ m_9
  have m_10 : (.selects RX9 yX9_isWord yX9_isWord : Cond) ∈ zw_r_readLaw := List.mem_append_left _ (List.mem_of_getElem? (i := 11) rfl)
  have k_10 := hts _ m_10
  have m_11 : (.methodLink RX9 271 yX9_must : Cond) ∈ zw_r_readLaw := List.mem_append_left _ (List.mem_of_getElem? (i := 12) rfl)
  have k_11 := hts _ m_11
  have m_12 : (.instanceMethod yX9_must : Cond) ∈ zw_r_readLaw := List.mem_append_left _ (List.mem_of_getElem? (i := 13) rfl)
  have k_12 := hts _ m_12
  have m_13 : (.selects RX9 yX9_must yX9_must : Cond) ∈ zw_r_readLaw := List.mem_append_left _ (List.mem_of_getElem? (i := 14) rfl)
  have k_13 := hts _ m_13
  have m_14 : (.fieldLink RX9 98 "BowWalkModel" "rFrom" "[I" : Cond) ∈ zw_r_readLaw := List.mem_append_left _ (List.mem_of_getElem? (i := 15) rfl)
  have k_14 := hts _ m_14
  have m_15 : (.fieldLink RX9 282 "BowWalkModel" "codes" "I" : Cond) ∈ zw_r_readLaw := List.mem_append_left _ (List.mem_of_getElem? (i := 16) rfl)
  have k_15 := hts _ m_15
  have m_16 : (.methodLink RX9 258 yX9_isGood : Cond) ∈ zw_r_readLaw := List.mem_append_left _ (List.mem_of_getElem? (i := 17) rfl)
  have k_16 := hts _ m_16
  have m_17 : (.instanceMethod yX9_isGood : Cond) ∈ zw_r_readLaw := List.mem_append_left _ (List.mem_of_getElem? (i := 18) rfl)
  have k_17 := hts _ m_17
  have m_18 : (.selects RX9 yX9_isGood yX9_isGood : Cond) ∈ zw_r_readLaw := List.mem_append_left _ (List.mem_of_getElem? (i := 19) rfl)
  have k_18 := hts _ m_18
  have m_19 : (.methodLink RX9 336 yX9_e : Cond) ∈ zw_r_readLaw := List.mem_append_left _ (List.mem_of_getElem? (i := 20) rfl)
  have k_19 := hts _ m_19
  have m_20 : (.instanceMethod yX9_e : Cond) ∈ zw_r_readLaw := List.mem_append_left _ (List.mem_of_getElem? (i := 21) rfl)
  have k_20 := hts _ m_20
  have m_21 : (.selects RX9 yX9_e yX9_e : Cond) ∈ zw_r_readLaw := List.mem_append_left _ (List.mem_of_getElem? (i := 22) rfl)
  have k_21 := hts _ m_21
  have m_22 : (.fieldLink RX9 101 "BowWalkModel" "rTo" "[I" : Cond) ∈ zw_r_readLaw := List.mem_append_left _ (List.mem_of_getElem? (i := 23) rfl)
  have k_22 := hts _ m_22
  have m_23 : (.constantLong RX9 200 (1886743660) : Cond) ∈ zw_r_readLaw := List.mem_append_left _ (List.mem_of_getElem? (i := 24) rfl)
  have k_23 := hts _ m_23
  have g_r_fresh : ∀ w ∈ zw_r_fresh, w ∈ zw_r_readLaw := fun w h => List.mem_append_right _ (List.mem_append_left _ h)
  have g_r_isWord : ∀ w ∈ zw_r_isWord, w ∈ zw_r_readLaw := fun w h => List.mem_append_right _ (List.mem_append_right _ (List.mem_append_left _ h))
  have g_r_must : ∀ w ∈ zw_r_must, w ∈ zw_r_readLaw := fun w h => List.mem_append_right _ (List.mem_append_right _ (List.mem_append_right _ (List.mem_append_left _ h)))
  have g_r_isGood : ∀ w ∈ zw_r_isGood, w ∈ zw_r_readLaw := fun w h => List.mem_append_right _ (List.mem_append_right _ (List.mem_append_right _ (List.mem_append_right _ (List.mem_append_left _ h))))
  have g_r_e : ∀ w ∈ zw_r_e, w ∈ zw_r_readLaw := fun w h => List.mem_append_right _ (List.mem_append_right _ (List.mem_append_right _ (List.mem_append_right _ (List.mem_append_right _ (List.mem_append_left _ h)))))
  have i_X9 : ∀ w ∈ u_ws RX9 TX9 81, w ∈ zw_r_readLaw := fun w h => List.mem_append_right _ (List.mem_append_right _ (List.mem_append_right _ (List.mem_append_right _ (List.mem_append_right _ (List.mem_append_right _ (List.mem_append_left _ h))))))
  have lt_0 : (0 : Int32).toInt = 0 := by decide
  have lt_1 : (1 : Int32).toInt = 1 := by decide
  have lt_2 : (2 : Int32).toInt = 2 := by decide
  have lt_3 : (3 : Int32).toInt = 3 := by decide
  have hl := lv_entry ([.ref p0]) (n := 2) (Nat.le_of_ble_eq_true rfl)
  rw [lg_entry_eq]
  generalize (lg_sl ([.ref p0]) ++ List.replicate (2 - (lg_sl ([.ref p0])).length) Slot.unset).toArray = ls at hl ⊢
  have hl : lv_has ls 2 [(0, .ref p0)] := hl
  have tat0 := (OKX9_g6 ho_p0).use pf_at0
  have ten := (OKX9_g7 ho_p0).use pf_en
  have ttk := (OKX9_g8 ho_p0).use pf_tk
  have tsiz := (OKX9_g3 ho_p0).use pf_siz
  have tfk := (OKX9_g4 ho_p0).use pf_fk
  have trb := (OKX9_g44 ho_p0).use pf_rb
  refine lv_iconst (v := 3) hx hb dX9_readLaw_0 (by decide) (lv_aload_n hx hb dX9_readLaw_1 rfl (lv_at hl 0 rfl) (qg_X9_44 hx hb hts i_X9 hown hK hP 0 rfl k_0 pf_rb dX9_readLaw_2 (lv_imul hx hb dX9_readLaw_5 (lv_topi fun v_1 ev_1 => ?_))))
  have tv_1 := q_mulc (c := 3) ev_1 (by decide) (by omega) (by omega)
  refine lv_aload_n hx hb dX9_readLaw_6 rfl (lv_at hl 0 rfl) (qg_X9_14 hx hb hts i_X9 hown hK hP 0 rfl k_1 fr_p0_14 dX9_readLaw_7 (lv_aload_n hx hb dX9_readLaw_10 rfl (lv_at hl 0 rfl) (qg_X9_44 hx hb hts i_X9 hown hK hP 0 rfl k_0 pf_rb dX9_readLaw_11 (q_ild hx hb hK hP 6 5 rfl rfl (q_in (by omega) (by omega)) dX9_readLaw_14 (fun v_2 ev_2 => ?_)))))
  have uv_2 : v_2.toInt = (b_p0_laws rb.toNatClampNeg).toInt := by rw [ev_2]
  have tv_2 := q_rd' hr_p0_laws (q_in (by omega) (by omega)) ev_2
  refine lv_iadd hx hb dX9_readLaw_15 (lv_topi fun v_3 ev_3 => ?_)
  have tv_3 := q_add ev_3 (by omega) (by omega)
  refine lv_istore_n (lv' := [(1, .int v_3), (0, .ref p0)]) hx hb dX9_readLaw_16 rfl hl (by decide) rfl (fun ls hl => ?_)
  refine lv_aload_n hx hb dX9_readLaw_17 rfl (lv_at hl 1 rfl) (qg_X9_24 hx hb hts i_X9 hown hK hP 0 rfl k_2 fr_p0_24 dX9_readLaw_18 (lv_iload_n hx hb dX9_readLaw_21 rfl (lv_at hl 0 rfl) (lv_aload_n hx hb dX9_readLaw_22 rfl (lv_at hl 1 rfl) (lv_aload_n hx hb dX9_readLaw_23 rfl (lv_at hl 1 rfl) (qg_X9_24 hx hb hts i_X9 hown hK hP 0 rfl k_2 fr_p0_24 dX9_readLaw_24 (lv_iconst (v := 3) hx hb dX9_readLaw_27 (by decide) (lv_aload_n hx hb dX9_readLaw_28 rfl (lv_at hl 1 rfl) ?_)))))))
  refine qg_X9_44 hx hb hts i_X9 hown hK hP 0 rfl k_0 pf_rb dX9_readLaw_29 (lv_imul hx hb dX9_readLaw_32 (lv_topi fun v_4 ev_4 => ?_))
  have tv_4 := q_mulc (c := 3) ev_4 (by decide) (by omega) (by omega)
  refine lv_aload_n hx hb dX9_readLaw_33 rfl (lv_at hl 1 rfl) (qg_X9_14 hx hb hts i_X9 hown hK hP 0 rfl k_1 fr_p0_14 dX9_readLaw_34 (lv_aload_n hx hb dX9_readLaw_37 rfl (lv_at hl 1 rfl) (qg_X9_44 hx hb hts i_X9 hown hK hP 0 rfl k_0 pf_rb dX9_readLaw_38 (q_ild hx hb hK hP 6 5 rfl rfl (q_in (by omega) (by omega)) dX9_readLaw_41 (fun v_5 ev_5 => ?_)))))
  have uv_5 : v_5.toInt = (b_p0_laws rb.toNatClampNeg).toInt := by rw [ev_5]
  have tv_5 := q_rd' hr_p0_laws (q_in (by omega) (by omega)) ev_5
  refine q_cVl (As := [.ref p0_lName, .int v_4, .int v_5]) (rest := [.int v_3, .ref p0_lName]) q_w0 trivial hK hP hDa za_r_readLaw hS hA [0, 9, 5] [8, 4] (by decide +kernel) ⟨hx, hb, hml, hown, hts⟩ (r_fresh l dC dI s.heap.size p0 f_p0 p0_text c_p0_text b_p0_text p0_lName c_p0_lName b_p0_lName 6 v_4 v_5 at0 en tk siz fk ho_p0 fr_p0_1 pf_at0 pf_en pf_tk pf_siz pf_fk ((by omega)) ((by omega)) ((by omega)) ((by omega))) rfl rfl (cwV 3 hts (p1_gV m_3 m_4 m_5 m_6 g_r_fresh gz_r_fresh) rfl rfl rfl (by decide +kernel) ⟨by decide, by decide⟩) (va_recv hK hP (ci := 8) (q0 := 0) rfl rfl) zm_r_fresh rfl hl.1 rfl (Nat.le_of_ble_eq_true rfl) dX9_readLaw_42 ⟨by decide, by decide⟩ (fun r_6 H7 lo7 hG7 hS7 => ?_)
  obtain ⟨o_8, o_9, o_10, o_11, o_12, ho_13, hf_14, z_15, z_16, z_17, z_18, z_19, z_20, hQ7⟩ := hG7
  have to_9 := (OKX9_g6 ho_13).use z_15
  have to_10 := (OKX9_g7 ho_13).use z_16
  have to_11 := (OKX9_g8 ho_13).use z_17
  have to_12 := (OKX9_g4 ho_13).use z_18
  have hP7 : va_P (dC, dI) vwCl (zW_r_readLaw p0 o_8 p0_code c_p0_code b_p0_code p0_codeNumber c_p0_codeNumber b_p0_codeNumber p0_eSign c_p0_eSign b_p0_eSign p0_eWhat c_p0_eWhat b_p0_eWhat p0_lName c_p0_lName b_p0_lName p0_laws c_p0_laws b_p0_laws p0_rFrom c_p0_rFrom b_p0_rFrom p0_rTo c_p0_rTo b_p0_rTo p0_text c_p0_text b_p0_text) H7 := hQ7
  clear hQ7 hP hS
  refine q_lst hx hb hK hP7 hDa za_r_readLaw hS7 5 4 rfl rfl (q_in (by omega) (by omega)) dX9_readLaw_45 (fun H21 lo21 g21 eg21 (hP21 : va_P (dC, dI) vwCl (zW_r_readLaw p0 o_8 p0_code c_p0_code b_p0_code p0_codeNumber c_p0_codeNumber b_p0_codeNumber p0_eSign c_p0_eSign b_p0_eSign p0_eWhat c_p0_eWhat b_p0_eWhat p0_lName c_p0_lName g21 p0_laws c_p0_laws b_p0_laws p0_rFrom c_p0_rFrom b_p0_rFrom p0_rTo c_p0_rTo b_p0_rTo p0_text c_p0_text b_p0_text) H21) hS21 => ?_)
  clear hP7 hS7
  refine lv_aload_n hx hb dX9_readLaw_46 rfl (lv_at hl 1 rfl) (lv_aload_n hx hb dX9_readLaw_47 rfl (lv_at hl 1 rfl) (lv_ldc2 (v := 7501154) hx hb hown k_7 dX9_readLaw_48 ?_))
  obtain ⟨v_22, fv_22⟩ := OKX9_g10 ho_13
  refine q_cVi (As := [.long 7501154]) (rest := [.ref p0]) q_w0 trivial hK hP21 hDa za_r_readLaw hS21 hA [0] [] (by decide +kernel) ⟨hx, hb, hml, hown, hts⟩ (r_isWord l dC dI H21.size p0 o_8 7501154 o_11 v_22 ho_13 z_17 fv_22) rfl rfl (cwV 1 hts (p1_gV m_8 m_9 m_10 m_6 g_r_isWord gz_r_isWord) rfl rfl rfl (by decide +kernel) ⟨by decide, by decide⟩) (va_recv hK hP21 (ci := 8) (q0 := 0) rfl rfl) zm_r_isWord rfl hl.1 rfl (Nat.le_of_ble_eq_true rfl) dX9_readLaw_51 ⟨by decide, by decide⟩ (fun r_23 H24 lo24 hG24 hS24 => ?_)
  obtain ⟨z_25, hQ24⟩ := hG24
  have hP24 : va_P (dC, dI) vwCl (zW_r_readLaw p0 o_8 p0_code c_p0_code b_p0_code p0_codeNumber c_p0_codeNumber b_p0_codeNumber p0_eSign c_p0_eSign b_p0_eSign p0_eWhat c_p0_eWhat b_p0_eWhat p0_lName c_p0_lName g21 p0_laws c_p0_laws b_p0_laws p0_rFrom c_p0_rFrom b_p0_rFrom p0_rTo c_p0_rTo b_p0_rTo p0_text c_p0_text b_p0_text) H24 := hQ24
  clear hQ24 hP21 hS21
  rcases z_25 with ⟨rfl, z_25⟩ | ⟨rfl, z_25⟩
  · refine q_cVv (As := [.int 1]) (rest := []) q_w0 trivial hK hP24 hDa za_r_readLaw hS24 hA [0, 9] [8] (by decide +kernel) ⟨hx, hb, hml, hown, hts⟩ (r_must l dC dI H24.size p0 o_8 p0_text c_p0_text b_p0_text 1 o_9 o_10 o_11 siz o_12 ho_13 ((hf_14.u (by decide) fr_p0_1)) z_15 z_16 z_17 ((hf_14.u (by decide) pf_siz)) z_18 ((by omega))) rfl rfl (cwV 1 hts (p1_gV m_11 m_12 m_13 m_6 g_r_must gz_r_must) rfl rfl rfl (by decide +kernel) ⟨by decide, by decide⟩) (va_recv hK hP24 (ci := 8) (q0 := 0) rfl rfl) zm_r_must rfl hl.1 rfl (Nat.le_of_ble_eq_true rfl) dX9_readLaw_54 ⟨by decide, by decide⟩ (fun H27 lo27 hG27 hS27 => ?_)
    obtain ⟨o_28, o_29, o_30, o_31, o_32, ho_33, hf_34, z_35, z_36, z_37, z_38, z_39, z_40, hQ27⟩ := hG27
    have to_29 := (OKX9_g6 ho_33).use z_35
    have to_30 := (OKX9_g7 ho_33).use z_36
    have to_31 := (OKX9_g8 ho_33).use z_37
    have to_32 := (OKX9_g4 ho_33).use z_38
    have hP27 : va_P (dC, dI) vwCl (zW_r_readLaw p0 o_28 p0_code c_p0_code b_p0_code p0_codeNumber c_p0_codeNumber b_p0_codeNumber p0_eSign c_p0_eSign b_p0_eSign p0_eWhat c_p0_eWhat b_p0_eWhat p0_lName c_p0_lName g21 p0_laws c_p0_laws b_p0_laws p0_rFrom c_p0_rFrom b_p0_rFrom p0_rTo c_p0_rTo b_p0_rTo p0_text c_p0_text b_p0_text) H27 := hQ27
    clear hQ27 hP24 hS24
    refine lv_aload_n hx hb dX9_readLaw_57 rfl (lv_at hl 1 rfl) (qg_X9_36 hx hb hts i_X9 hown hK hP27 0 rfl k_14 (hf_34.u (by decide) (hf_14.u (by decide) fr_p0_36)) dX9_readLaw_58 (lv_iconst (v := 2) hx hb dX9_readLaw_61 (by decide) (lv_iload_n hx hb dX9_readLaw_62 rfl (lv_at hl 0 rfl) (lv_imul hx hb dX9_readLaw_63 (lv_topi fun v_41 ev_41 => ?_)))))
    have tv_41 := q_mulc (c := 2) ev_41 (by decide) (by omega) (by omega)
    refine lv_aload_n hx hb dX9_readLaw_64 rfl (lv_at hl 1 rfl) (qg_X9_45 hx hb hts i_X9 hown hK hP27 0 rfl k_15 (hf_34.u (by decide) (hf_14.u (by decide) pf_co)) dX9_readLaw_65 (q_ist hx hb hK hP27 hDa za_r_readLaw hS27 7 6 rfl rfl (q_in (by omega) (by omega)) dX9_readLaw_68 (fun H42 lo42 g42 eg42 (hP42 : va_P (dC, dI) vwCl (zW_r_readLaw p0 o_28 p0_code c_p0_code b_p0_code p0_codeNumber c_p0_codeNumber b_p0_codeNumber p0_eSign c_p0_eSign b_p0_eSign p0_eWhat c_p0_eWhat b_p0_eWhat p0_lName c_p0_lName g21 p0_laws c_p0_laws b_p0_laws p0_rFrom c_p0_rFrom g42 p0_rTo c_p0_rTo b_p0_rTo p0_text c_p0_text b_p0_text) H42) hS42 => ?_)))
    clear hP27 hS27
    have hr_g42 := q_up' hr_p0_rFrom eg42 ⟨by omega, by omega⟩
    have ejg42 : g42 = upd b_p0_rFrom ((2 * (3 * rb.toInt + (b_p0_laws rb.toNatClampNeg).toInt)).toNat) co := by rw [eg42, q_ixn (n := (2 * (3 * rb.toInt + (b_p0_laws rb.toNatClampNeg).toInt)).toNat) (by omega) (by omega)]
    have obg42 := (q_offb.rf : q_offb (2 * (3 * rb.toInt + (b_p0_laws rb.toNatClampNeg).toInt)) b_p0_rFrom b_p0_rFrom).up eg42 (by omega) (by omega)
    refine lv_aload_n hx hb dX9_readLaw_69 rfl (lv_at hl 1 rfl) ?_
    refine q_cVi (As := []) (rest := []) q_w0 trivial hK hP42 hDa za_r_readLaw hS42 hA [0] [] (by decide +kernel) ⟨hx, hb, hml, hown, hts⟩ (r_isGood l dC dI H42.size p0 o_28 o_32 ho_33 z_38) rfl rfl (cwV 0 hts (p1_gV m_16 m_17 m_18 m_6 g_r_isGood gz_r_isGood) rfl rfl rfl (by decide +kernel) ⟨by decide, by decide⟩) (va_recv hK hP42 (ci := 8) (q0 := 0) rfl rfl) zm_r_isGood rfl hl.1 rfl (Nat.le_of_ble_eq_true rfl) dX9_readLaw_70 ⟨by decide, by decide⟩ (fun r_43 H44 lo44 hG44 hS44 => ?_)
    obtain ⟨z_45, hQ44⟩ := hG44
    have hP44 : va_P (dC, dI) vwCl (zW_r_readLaw p0 o_28 p0_code c_p0_code b_p0_code p0_codeNumber c_p0_codeNumber b_p0_codeNumber p0_eSign c_p0_eSign b_p0_eSign p0_eWhat c_p0_eWhat b_p0_eWhat p0_lName c_p0_lName g21 p0_laws c_p0_laws b_p0_laws p0_rFrom c_p0_rFrom g42 p0_rTo c_p0_rTo b_p0_rTo p0_text c_p0_text b_p0_text) H44 := hQ44
    clear hQ44 hP42 hS42
    rcases z_45 with ⟨rfl, z_45⟩ | ⟨rfl, z_45⟩
    · refine lv_if_eq (tgt := 80) hx hb dX9_readLaw_73 (by decide) (fun c_46 => absurd c_46 (by decide)) (fun c_46 => ?_)
      refine lv_aload_n hx hb dX9_readLaw_76 rfl (lv_at hl 1 rfl) ?_
      refine q_cVv (As := []) (rest := []) q_w0 trivial hK hP44 hDa za_r_readLaw hS44 hA [0, 1, 2, 3, 4, 9] [0, 1, 2, 3, 8] (by decide +kernel) ⟨hx, hb, hml, hown, hts⟩ (r_e l dC dI H44.size p0 o_28 p0_code c_p0_code b_p0_code p0_codeNumber c_p0_codeNumber b_p0_codeNumber p0_eSign c_p0_eSign b_p0_eSign p0_eWhat c_p0_eWhat b_p0_eWhat p0_text c_p0_text b_p0_text o_29 o_30 o_31 siz o_32 co un rb ho_33 ((hf_34.u (by decide) (hf_14.u (by decide) fr_p0_1))) ((hf_34.u (by decide) (hf_14.u (by decide) fr_p0_38))) ((hf_34.u (by decide) (hf_14.u (by decide) fr_p0_39))) ((hf_34.u (by decide) (hf_14.u (by decide) fr_p0_40))) ((hf_34.u (by decide) (hf_14.u (by decide) fr_p0_41))) z_35 z_36 z_37 ((hf_34.u (by decide) (hf_14.u (by decide) pf_siz))) z_38 ((hf_34.u (by decide) (hf_14.u (by decide) pf_co))) ((hf_34.u (by decide) (hf_14.u (by decide) pf_un))) ((hf_34.u (by decide) (hf_14.u (by decide) pf_rb))) ((by omega)) ((by omega))) rfl rfl (cwV 0 hts (p1_gV m_19 m_20 m_21 m_6 g_r_e gz_r_e) rfl rfl rfl (by decide +kernel) ⟨by decide, by decide⟩) (va_recv hK hP44 (ci := 8) (q0 := 0) rfl rfl) zm_r_e rfl hl.1 rfl (Nat.le_of_ble_eq_true rfl) dX9_readLaw_77 ⟨by decide, by decide⟩ (fun H48 lo48 hG48 hS48 => ?_)
      obtain ⟨o_49, o_50, o_51, o_52, o_53, o_54, o_55, o_56, o_57, o_58, o_59, ho_60, hf_61, z_62, z_63, z_64, z_65, z_66, z_67, z_68, z_69, z_70, z_71, z_72, hQ48⟩ := hG48
      have to_54 := (OKX9_g6 ho_60).use z_62
      have to_55 := (OKX9_g7 ho_60).use z_63
      have to_56 := (OKX9_g8 ho_60).use z_64
      have to_57 := (OKX9_g4 ho_60).use z_65
      have hP48 : va_P (dC, dI) vwCl (zW_r_readLaw p0 o_49 p0_code c_p0_code o_50 p0_codeNumber c_p0_codeNumber o_51 p0_eSign c_p0_eSign o_52 p0_eWhat c_p0_eWhat o_53 p0_lName c_p0_lName g21 p0_laws c_p0_laws b_p0_laws p0_rFrom c_p0_rFrom g42 p0_rTo c_p0_rTo b_p0_rTo p0_text c_p0_text b_p0_text) H48 := hQ48
      clear hQ48 hP44 hS44
      have oc72 := (q_offc.rf : q_offc co.toInt rb b_p0_code b_p0_code).tr z_71 (by omega)
      refine lv_aload_n hx hb dX9_readLaw_80 rfl (lv_at hl 1 rfl) (qg_X9_37 hx hb hts i_X9 hown hK hP48 0 rfl k_22 (hf_61.u (by decide) (hf_34.u (by decide) (hf_14.u (by decide) fr_p0_37))) dX9_readLaw_81 (lv_iconst (v := 2) hx hb dX9_readLaw_84 (by decide) (lv_iload_n hx hb dX9_readLaw_85 rfl (lv_at hl 0 rfl) (lv_imul hx hb dX9_readLaw_86 (lv_topi fun v_73 ev_73 => ?_)))))
      have tv_73 := q_mulc (c := 2) ev_73 (by decide) (by omega) (by omega)
      refine lv_aload_n hx hb dX9_readLaw_87 rfl (lv_at hl 1 rfl) (qg_X9_45 hx hb hts i_X9 hown hK hP48 0 rfl k_15 z_66 dX9_readLaw_88 (q_ist hx hb hK hP48 hDa za_r_readLaw hS48 8 7 rfl rfl (q_in (by omega) (by omega)) dX9_readLaw_91 (fun H74 lo74 g74 eg74 (hP74 : va_P (dC, dI) vwCl (zW_r_readLaw p0 o_49 p0_code c_p0_code o_50 p0_codeNumber c_p0_codeNumber o_51 p0_eSign c_p0_eSign o_52 p0_eWhat c_p0_eWhat o_53 p0_lName c_p0_lName g21 p0_laws c_p0_laws b_p0_laws p0_rFrom c_p0_rFrom g42 p0_rTo c_p0_rTo g74 p0_text c_p0_text b_p0_text) H74) hS74 => ?_)))
      clear hP48 hS48
      have hr_g74 := q_up' hr_p0_rTo eg74 ⟨by omega, by omega⟩
      have ejg74 : g74 = upd b_p0_rTo ((2 * (3 * rb.toInt + (b_p0_laws rb.toNatClampNeg).toInt)).toNat) o_58 := by rw [eg74, q_ixn (n := (2 * (3 * rb.toInt + (b_p0_laws rb.toNatClampNeg).toInt)).toNat) (by omega) (by omega)]
      have obg74 := (q_offb.rf : q_offb (2 * (3 * rb.toInt + (b_p0_laws rb.toNatClampNeg).toInt)) b_p0_rTo b_p0_rTo).up eg74 (by omega) (by omega)
      refine lv_aload_n hx hb dX9_readLaw_92 rfl (lv_at hl 1 rfl) (lv_aload_n hx hb dX9_readLaw_93 rfl (lv_at hl 1 rfl) (lv_ldc2 (v := 1886743660) hx hb hown k_23 dX9_readLaw_94 ?_))
      obtain ⟨v_75, fv_75⟩ := OKX9_g10 ho_60
      refine q_cVi (As := [.long 1886743660]) (rest := [.ref p0]) q_w0 trivial hK hP74 hDa za_r_readLaw hS74 hA [0] [] (by decide +kernel) ⟨hx, hb, hml, hown, hts⟩ (r_isWord l dC dI H74.size p0 o_49 1886743660 o_56 v_75 ho_60 z_64 fv_75) rfl rfl (cwV 1 hts (p1_gV m_8 m_9 m_10 m_6 g_r_isWord gz_r_isWord) rfl rfl rfl (by decide +kernel) ⟨by decide, by decide⟩) (va_recv hK hP74 (ci := 8) (q0 := 0) rfl rfl) zm_r_isWord rfl hl.1 rfl (Nat.le_of_ble_eq_true rfl) dX9_readLaw_97 ⟨by decide, by decide⟩ (fun r_76 H77 lo77 hG77 hS77 => ?_)
      obtain ⟨z_78, hQ77⟩ := hG77
      have hP77 : va_P (dC, dI) vwCl (zW_r_readLaw p0 o_49 p0_code c_p0_code o_50 p0_codeNumber c_p0_codeNumber o_51 p0_eSign c_p0_eSign o_52 p0_eWhat c_p0_eWhat o_53 p0_lName c_p0_lName g21 p0_laws c_p0_laws b_p0_laws p0_rFrom c_p0_rFrom g42 p0_rTo c_p0_rTo g74 p0_text c_p0_text b_p0_text) H77 := hQ77
      clear hQ77 hP74 hS74
      rcases z_78 with ⟨rfl, z_78⟩ | ⟨rfl, z_78⟩
      · refine q_cVv (As := [.int 1]) (rest := []) q_w0 trivial hK hP77 hDa za_r_readLaw hS77 hA [0, 9] [8] (by decide +kernel) ⟨hx, hb, hml, hown, hts⟩ (r_must l dC dI H77.size p0 o_49 p0_text c_p0_text b_p0_text 1 o_54 o_55 o_56 siz o_57 ho_60 ((hf_61.u (by decide) (hf_34.u (by decide) (hf_14.u (by decide) fr_p0_1)))) z_62 z_63 z_64 ((hf_61.u (by decide) (hf_34.u (by decide) (hf_14.u (by decide) pf_siz)))) z_65 ((by omega))) rfl rfl (cwV 1 hts (p1_gV m_11 m_12 m_13 m_6 g_r_must gz_r_must) rfl rfl rfl (by decide +kernel) ⟨by decide, by decide⟩) (va_recv hK hP77 (ci := 8) (q0 := 0) rfl rfl) zm_r_must rfl hl.1 rfl (Nat.le_of_ble_eq_true rfl) dX9_readLaw_100 ⟨by decide, by decide⟩ (fun H80 lo80 hG80 hS80 => ?_)
        obtain ⟨o_81, o_82, o_83, o_84, o_85, ho_86, hf_87, z_88, z_89, z_90, z_91, z_92, z_93, hQ80⟩ := hG80
        have to_82 := (OKX9_g6 ho_86).use z_88
        have to_83 := (OKX9_g7 ho_86).use z_89
        have to_84 := (OKX9_g8 ho_86).use z_90
        have to_85 := (OKX9_g4 ho_86).use z_91
        have hP80 : va_P (dC, dI) vwCl (zW_r_readLaw p0 o_81 p0_code c_p0_code o_50 p0_codeNumber c_p0_codeNumber o_51 p0_eSign c_p0_eSign o_52 p0_eWhat c_p0_eWhat o_53 p0_lName c_p0_lName g21 p0_laws c_p0_laws b_p0_laws p0_rFrom c_p0_rFrom g42 p0_rTo c_p0_rTo g74 p0_text c_p0_text b_p0_text) H80 := hQ80
        clear hQ80 hP77 hS77
        refine lv_aload_n hx hb dX9_readLaw_103 rfl (lv_at hl 1 rfl) (qg_X9_36 hx hb hts i_X9 hown hK hP80 0 rfl k_14 (hf_87.u (by decide) (hf_61.u (by decide) (hf_34.u (by decide) (hf_14.u (by decide) fr_p0_36)))) dX9_readLaw_104 (lv_iconst (v := 2) hx hb dX9_readLaw_107 (by decide) (lv_iload_n hx hb dX9_readLaw_108 rfl (lv_at hl 0 rfl) (lv_imul hx hb dX9_readLaw_109 (lv_topi fun v_94 ev_94 => ?_)))))
        have tv_94 := q_mulc (c := 2) ev_94 (by decide) (by omega) (by omega)
        refine lv_iconst (v := 1) hx hb dX9_readLaw_110 (by decide) (lv_iadd hx hb dX9_readLaw_111 (lv_topi fun v_95 ev_95 => ?_))
        have tv_95 := q_add ev_95 (by omega) (by omega)
        refine lv_aload_n hx hb dX9_readLaw_112 rfl (lv_at hl 1 rfl) (qg_X9_45 hx hb hts i_X9 hown hK hP80 0 rfl k_15 (hf_87.u (by decide) z_66) dX9_readLaw_113 (q_ist hx hb hK hP80 hDa za_r_readLaw hS80 7 6 rfl rfl (q_in (by omega) (by omega)) dX9_readLaw_116 (fun H96 lo96 g96 eg96 (hP96 : va_P (dC, dI) vwCl (zW_r_readLaw p0 o_81 p0_code c_p0_code o_50 p0_codeNumber c_p0_codeNumber o_51 p0_eSign c_p0_eSign o_52 p0_eWhat c_p0_eWhat o_53 p0_lName c_p0_lName g21 p0_laws c_p0_laws b_p0_laws p0_rFrom c_p0_rFrom g96 p0_rTo c_p0_rTo g74 p0_text c_p0_text b_p0_text) H96) hS96 => ?_)))
        clear hP80 hS80
        have hr_g96 := q_up' hr_g42 eg96 ⟨by omega, by omega⟩
        have ejg96 : g96 = upd g42 ((2 * (3 * rb.toInt + (b_p0_laws rb.toNatClampNeg).toInt)).toNat + 1) o_58 := by rw [eg96, q_ixn (n := (2 * (3 * rb.toInt + (b_p0_laws rb.toNatClampNeg).toInt)).toNat + 1) (by omega) (by omega)]
        have obg96 := (obg42 : q_offb (2 * (3 * rb.toInt + (b_p0_laws rb.toNatClampNeg).toInt)) b_p0_rFrom g42).up eg96 (by omega) (by omega)
        refine lv_aload_n hx hb dX9_readLaw_117 rfl (lv_at hl 1 rfl) ?_
        refine q_cVi (As := []) (rest := []) q_w0 trivial hK hP96 hDa za_r_readLaw hS96 hA [0] [] (by decide +kernel) ⟨hx, hb, hml, hown, hts⟩ (r_isGood l dC dI H96.size p0 o_81 o_85 ho_86 z_91) rfl rfl (cwV 0 hts (p1_gV m_16 m_17 m_18 m_6 g_r_isGood gz_r_isGood) rfl rfl rfl (by decide +kernel) ⟨by decide, by decide⟩) (va_recv hK hP96 (ci := 8) (q0 := 0) rfl rfl) zm_r_isGood rfl hl.1 rfl (Nat.le_of_ble_eq_true rfl) dX9_readLaw_118 ⟨by decide, by decide⟩ (fun r_97 H98 lo98 hG98 hS98 => ?_)
        obtain ⟨z_99, hQ98⟩ := hG98
        have hP98 : va_P (dC, dI) vwCl (zW_r_readLaw p0 o_81 p0_code c_p0_code o_50 p0_codeNumber c_p0_codeNumber o_51 p0_eSign c_p0_eSign o_52 p0_eWhat c_p0_eWhat o_53 p0_lName c_p0_lName g21 p0_laws c_p0_laws b_p0_laws p0_rFrom c_p0_rFrom g96 p0_rTo c_p0_rTo g74 p0_text c_p0_text b_p0_text) H98 := hQ98
        clear hQ98 hP96 hS96
        rcases z_99 with ⟨rfl, z_99⟩ | ⟨rfl, z_99⟩
        · refine lv_if_eq (tgt := 128) hx hb dX9_readLaw_121 (by decide) (fun c_100 => absurd c_100 (by decide)) (fun c_100 => ?_)
          refine lv_aload_n hx hb dX9_readLaw_124 rfl (lv_at hl 1 rfl) ?_
          refine q_cVv (As := []) (rest := []) q_w0 trivial hK hP98 hDa za_r_readLaw hS98 hA [0, 1, 2, 3, 4, 9] [0, 1, 2, 3, 8] (by decide +kernel) ⟨hx, hb, hml, hown, hts⟩ (r_e l dC dI H98.size p0 o_81 p0_code c_p0_code o_50 p0_codeNumber c_p0_codeNumber o_51 p0_eSign c_p0_eSign o_52 p0_eWhat c_p0_eWhat o_53 p0_text c_p0_text b_p0_text o_82 o_83 o_84 siz o_85 o_58 o_59 rb ho_86 ((hf_87.u (by decide) (hf_61.u (by decide) (hf_34.u (by decide) (hf_14.u (by decide) fr_p0_1))))) ((hf_87.u (by decide) (hf_61.u (by decide) (hf_34.u (by decide) (hf_14.u (by decide) fr_p0_38))))) ((hf_87.u (by decide) (hf_61.u (by decide) (hf_34.u (by decide) (hf_14.u (by decide) fr_p0_39))))) ((hf_87.u (by decide) (hf_61.u (by decide) (hf_34.u (by decide) (hf_14.u (by decide) fr_p0_40))))) ((hf_87.u (by decide) (hf_61.u (by decide) (hf_34.u (by decide) (hf_14.u (by decide) fr_p0_41))))) z_88 z_89 z_90 ((hf_87.u (by decide) (hf_61.u (by decide) (hf_34.u (by decide) (hf_14.u (by decide) pf_siz))))) z_91 ((hf_87.u (by decide) z_66)) ((hf_87.u (by decide) z_67)) ((hf_87.u (by decide) (hf_61.u (by decide) (hf_34.u (by decide) (hf_14.u (by decide) pf_rb))))) ((by omega)) ((by omega))) rfl rfl (cwV 0 hts (p1_gV m_19 m_20 m_21 m_6 g_r_e gz_r_e) rfl rfl rfl (by decide +kernel) ⟨by decide, by decide⟩) (va_recv hK hP98 (ci := 8) (q0 := 0) rfl rfl) zm_r_e rfl hl.1 rfl (Nat.le_of_ble_eq_true rfl) dX9_readLaw_125 ⟨by decide, by decide⟩ (fun H102 lo102 hG102 hS102 => ?_)
          obtain ⟨o_103, o_104, o_105, o_106, o_107, o_108, o_109, o_110, o_111, o_112, o_113, ho_114, hf_115, z_116, z_117, z_118, z_119, z_120, z_121, z_122, z_123, z_124, z_125, z_126, hQ102⟩ := hG102
          have to_108 := (OKX9_g6 ho_114).use z_116
          have to_109 := (OKX9_g7 ho_114).use z_117
          have to_110 := (OKX9_g8 ho_114).use z_118
          have to_111 := (OKX9_g4 ho_114).use z_119
          have hP102 : va_P (dC, dI) vwCl (zW_r_readLaw p0 o_103 p0_code c_p0_code o_104 p0_codeNumber c_p0_codeNumber o_105 p0_eSign c_p0_eSign o_106 p0_eWhat c_p0_eWhat o_107 p0_lName c_p0_lName g21 p0_laws c_p0_laws b_p0_laws p0_rFrom c_p0_rFrom g96 p0_rTo c_p0_rTo g74 p0_text c_p0_text b_p0_text) H102 := hQ102
          clear hQ102 hP98 hS98
          have oc126 := (oc72 : q_offc co.toInt rb b_p0_code o_50).tr z_125 (by omega)
          refine lv_aload_n hx hb dX9_readLaw_128 rfl (lv_at hl 1 rfl) (qg_X9_37 hx hb hts i_X9 hown hK hP102 0 rfl k_22 (hf_115.u (by decide) (hf_87.u (by decide) (hf_61.u (by decide) (hf_34.u (by decide) (hf_14.u (by decide) fr_p0_37))))) dX9_readLaw_129 (lv_iconst (v := 2) hx hb dX9_readLaw_132 (by decide) (lv_iload_n hx hb dX9_readLaw_133 rfl (lv_at hl 0 rfl) (lv_imul hx hb dX9_readLaw_134 (lv_topi fun v_127 ev_127 => ?_)))))
          have tv_127 := q_mulc (c := 2) ev_127 (by decide) (by omega) (by omega)
          refine lv_iconst (v := 1) hx hb dX9_readLaw_135 (by decide) (lv_iadd hx hb dX9_readLaw_136 (lv_topi fun v_128 ev_128 => ?_))
          have tv_128 := q_add ev_128 (by omega) (by omega)
          refine lv_aload_n hx hb dX9_readLaw_137 rfl (lv_at hl 1 rfl) (qg_X9_45 hx hb hts i_X9 hown hK hP102 0 rfl k_15 z_120 dX9_readLaw_138 (q_ist hx hb hK hP102 hDa za_r_readLaw hS102 8 7 rfl rfl (q_in (by omega) (by omega)) dX9_readLaw_141 (fun H129 lo129 g129 eg129 (hP129 : va_P (dC, dI) vwCl (zW_r_readLaw p0 o_103 p0_code c_p0_code o_104 p0_codeNumber c_p0_codeNumber o_105 p0_eSign c_p0_eSign o_106 p0_eWhat c_p0_eWhat o_107 p0_lName c_p0_lName g21 p0_laws c_p0_laws b_p0_laws p0_rFrom c_p0_rFrom g96 p0_rTo c_p0_rTo g129 p0_text c_p0_text b_p0_text) H129) hS129 => ?_)))
          clear hP102 hS102
          have hr_g129 := q_up' hr_g74 eg129 ⟨by omega, by omega⟩
          have ejg129 : g129 = upd g74 ((2 * (3 * rb.toInt + (b_p0_laws rb.toNatClampNeg).toInt)).toNat + 1) o_112 := by rw [eg129, q_ixn (n := (2 * (3 * rb.toInt + (b_p0_laws rb.toNatClampNeg).toInt)).toNat + 1) (by omega) (by omega)]
          have obg129 := (obg74 : q_offb (2 * (3 * rb.toInt + (b_p0_laws rb.toNatClampNeg).toInt)) b_p0_rTo g74).up eg129 (by omega) (by omega)
          refine lv_aload_n hx hb dX9_readLaw_142 rfl (lv_at hl 1 rfl) (qg_X9_14 hx hb hts i_X9 hown hK hP129 0 rfl k_1 (hf_115.u (by decide) (hf_87.u (by decide) (hf_61.u (by decide) (hf_34.u (by decide) (hf_14.u (by decide) fr_p0_14))))) dX9_readLaw_143 (lv_aload_n hx hb dX9_readLaw_146 rfl (lv_at hl 1 rfl) (qg_X9_44 hx hb hts i_X9 hown hK hP129 0 rfl k_0 (hf_115.u (by decide) (hf_87.u (by decide) (hf_61.u (by decide) (hf_34.u (by decide) (hf_14.u (by decide) pf_rb))))) dX9_readLaw_147 (lv_dup2_11 hx hb dX9_readLaw_150 rfl rfl (q_ild hx hb hK hP129 6 5 rfl rfl (q_in (by omega) (by omega)) dX9_readLaw_151 (fun v_130 ev_130 => ?_))))))
          have uv_130 : v_130.toInt = (b_p0_laws rb.toNatClampNeg).toInt := by rw [ev_130]
          have tv_130 := q_rd' hr_p0_laws (q_in (by omega) (by omega)) ev_130
          refine lv_iconst (v := 1) hx hb dX9_readLaw_152 (by decide) (lv_iadd hx hb dX9_readLaw_153 (lv_topi fun v_131 ev_131 => ?_))
          have tv_131 := q_add ev_131 (by omega) (by omega)
          refine q_ist hx hb hK hP129 hDa za_r_readLaw hS129 6 5 rfl rfl (q_in (by omega) (by omega)) dX9_readLaw_154 (fun H132 lo132 g132 eg132 (hP132 : va_P (dC, dI) vwCl (zW_r_readLaw p0 o_103 p0_code c_p0_code o_104 p0_codeNumber c_p0_codeNumber o_105 p0_eSign c_p0_eSign o_106 p0_eWhat c_p0_eWhat o_107 p0_lName c_p0_lName g21 p0_laws c_p0_laws g132 p0_rFrom c_p0_rFrom g96 p0_rTo c_p0_rTo g129 p0_text c_p0_text b_p0_text) H132) hS132 => ?_)
          clear hP129 hS129
          have hr_g132 := q_up' hr_p0_laws eg132 ⟨by omega, by omega⟩
          have usg132 : (g132 rb.toNatClampNeg).toInt = v_131.toInt := by rw [eg132, pk_us]
          have olg132 := (q_offd.rf : q_offd rb.toInt b_p0_laws b_p0_laws).up eg132 (by omega) rfl
          exact q_vret hx hb hr hlocks hS132 dX9_readLaw_155 ⟨o_103, o_104, o_105, o_106, o_107, g21, g132, g96, g129, o_108, o_109, o_110, o_111, o_112, o_113, ho_114, (((((q_fr.rf.tr hf_14 (by decide)).tr hf_34 (by decide)).tr hf_61 (by decide)).tr hf_87 (by decide)).tr hf_115 (by decide)), hr_g132, hr_g96, hr_g129, z_116, z_117, z_118, z_119, z_120, z_121, (by omega), (by omega), (by omega), olg132, obg96, obg129, oc126, (by rcases z_72 with h1 | h1; exact Or.inl (by omega); rcases z_126 with h2 | h2; exact Or.inl (by omega); exact Or.inr ⟨by omega, by omega, by omega, fun j hj => q_law2 ejg42 ejg96 ejg74 ejg129 h1.2.1 h2.2.1 z_125 (by omega) (by omega) (by omega) (by omega) (by omega) j (by omega)⟩), hP132, za_r_readLaw⟩
        · refine lv_if_eq (tgt := 128) hx hb dX9_readLaw_121 (by decide) (fun c_133 => ?_) (fun c_133 => absurd c_133 (by decide))
          refine lv_aload_n hx hb dX9_readLaw_128 rfl (lv_at hl 1 rfl) (qg_X9_37 hx hb hts i_X9 hown hK hP98 0 rfl k_22 (hf_87.u (by decide) (hf_61.u (by decide) (hf_34.u (by decide) (hf_14.u (by decide) fr_p0_37)))) dX9_readLaw_129 (lv_iconst (v := 2) hx hb dX9_readLaw_132 (by decide) (lv_iload_n hx hb dX9_readLaw_133 rfl (lv_at hl 0 rfl) (lv_imul hx hb dX9_readLaw_134 (lv_topi fun v_134 ev_134 => ?_)))))
          have tv_134 := q_mulc (c := 2) ev_134 (by decide) (by omega) (by omega)
          refine lv_iconst (v := 1) hx hb dX9_readLaw_135 (by decide) (lv_iadd hx hb dX9_readLaw_136 (lv_topi fun v_135 ev_135 => ?_))
          have tv_135 := q_add ev_135 (by omega) (by omega)
          refine lv_aload_n hx hb dX9_readLaw_137 rfl (lv_at hl 1 rfl) (qg_X9_45 hx hb hts i_X9 hown hK hP98 0 rfl k_15 (hf_87.u (by decide) z_66) dX9_readLaw_138 (q_ist hx hb hK hP98 hDa za_r_readLaw hS98 8 7 rfl rfl (q_in (by omega) (by omega)) dX9_readLaw_141 (fun H136 lo136 g136 eg136 (hP136 : va_P (dC, dI) vwCl (zW_r_readLaw p0 o_81 p0_code c_p0_code o_50 p0_codeNumber c_p0_codeNumber o_51 p0_eSign c_p0_eSign o_52 p0_eWhat c_p0_eWhat o_53 p0_lName c_p0_lName g21 p0_laws c_p0_laws b_p0_laws p0_rFrom c_p0_rFrom g96 p0_rTo c_p0_rTo g136 p0_text c_p0_text b_p0_text) H136) hS136 => ?_)))
          clear hP98 hS98
          have hr_g136 := q_up' hr_g74 eg136 ⟨by omega, by omega⟩
          have ejg136 : g136 = upd g74 ((2 * (3 * rb.toInt + (b_p0_laws rb.toNatClampNeg).toInt)).toNat + 1) o_58 := by rw [eg136, q_ixn (n := (2 * (3 * rb.toInt + (b_p0_laws rb.toNatClampNeg).toInt)).toNat + 1) (by omega) (by omega)]
          have obg136 := (obg74 : q_offb (2 * (3 * rb.toInt + (b_p0_laws rb.toNatClampNeg).toInt)) b_p0_rTo g74).up eg136 (by omega) (by omega)
          refine lv_aload_n hx hb dX9_readLaw_142 rfl (lv_at hl 1 rfl) (qg_X9_14 hx hb hts i_X9 hown hK hP136 0 rfl k_1 (hf_87.u (by decide) (hf_61.u (by decide) (hf_34.u (by decide) (hf_14.u (by decide) fr_p0_14)))) dX9_readLaw_143 (lv_aload_n hx hb dX9_readLaw_146 rfl (lv_at hl 1 rfl) (qg_X9_44 hx hb hts i_X9 hown hK hP136 0 rfl k_0 (hf_87.u (by decide) (hf_61.u (by decide) (hf_34.u (by decide) (hf_14.u (by decide) pf_rb)))) dX9_readLaw_147 (lv_dup2_11 hx hb dX9_readLaw_150 rfl rfl (q_ild hx hb hK hP136 6 5 rfl rfl (q_in (by omega) (by omega)) dX9_readLaw_151 (fun v_137 ev_137 => ?_))))))
          have uv_137 : v_137.toInt = (b_p0_laws rb.toNatClampNeg).toInt := by rw [ev_137]
          have tv_137 := q_rd' hr_p0_laws (q_in (by omega) (by omega)) ev_137
          refine lv_iconst (v := 1) hx hb dX9_readLaw_152 (by decide) (lv_iadd hx hb dX9_readLaw_153 (lv_topi fun v_138 ev_138 => ?_))
          have tv_138 := q_add ev_138 (by omega) (by omega)
          refine q_ist hx hb hK hP136 hDa za_r_readLaw hS136 6 5 rfl rfl (q_in (by omega) (by omega)) dX9_readLaw_154 (fun H139 lo139 g139 eg139 (hP139 : va_P (dC, dI) vwCl (zW_r_readLaw p0 o_81 p0_code c_p0_code o_50 p0_codeNumber c_p0_codeNumber o_51 p0_eSign c_p0_eSign o_52 p0_eWhat c_p0_eWhat o_53 p0_lName c_p0_lName g21 p0_laws c_p0_laws g139 p0_rFrom c_p0_rFrom g96 p0_rTo c_p0_rTo g136 p0_text c_p0_text b_p0_text) H139) hS139 => ?_)
          clear hP136 hS136
          have hr_g139 := q_up' hr_p0_laws eg139 ⟨by omega, by omega⟩
          have usg139 : (g139 rb.toNatClampNeg).toInt = v_138.toInt := by rw [eg139, pk_us]
          have olg139 := (q_offd.rf : q_offd rb.toInt b_p0_laws b_p0_laws).up eg139 (by omega) rfl
          exact q_vret hx hb hr hlocks hS139 dX9_readLaw_155 ⟨o_81, o_50, o_51, o_52, o_53, g21, g139, g96, g136, o_82, o_83, o_84, o_85, o_58, o_59, ho_86, ((((q_fr.rf.tr hf_14 (by decide)).tr hf_34 (by decide)).tr hf_61 (by decide)).tr hf_87 (by decide)), hr_g139, hr_g96, hr_g136, z_88, z_89, z_90, z_91, (hf_87.u (by decide) z_66), (hf_87.u (by decide) z_67), (by omega), (by omega), (by omega), olg139, obg96, obg136, oc72, (Or.inl (by omega)), hP139, za_r_readLaw⟩
      · refine q_cVv (As := [.int 0]) (rest := []) q_w0 trivial hK hP77 hDa za_r_readLaw hS77 hA [0, 9] [8] (by decide +kernel) ⟨hx, hb, hml, hown, hts⟩ (r_must l dC dI H77.size p0 o_49 p0_text c_p0_text b_p0_text 0 o_54 o_55 o_56 siz o_57 ho_60 ((hf_61.u (by decide) (hf_34.u (by decide) (hf_14.u (by decide) fr_p0_1)))) z_62 z_63 z_64 ((hf_61.u (by decide) (hf_34.u (by decide) (hf_14.u (by decide) pf_siz)))) z_65 ((by omega))) rfl rfl (cwV 1 hts (p1_gV m_11 m_12 m_13 m_6 g_r_must gz_r_must) rfl rfl rfl (by decide +kernel) ⟨by decide, by decide⟩) (va_recv hK hP77 (ci := 8) (q0 := 0) rfl rfl) zm_r_must rfl hl.1 rfl (Nat.le_of_ble_eq_true rfl) dX9_readLaw_100 ⟨by decide, by decide⟩ (fun H141 lo141 hG141 hS141 => ?_)
        obtain ⟨o_142, o_143, o_144, o_145, o_146, ho_147, hf_148, z_149, z_150, z_151, z_152, z_153, z_154, hQ141⟩ := hG141
        have to_143 := (OKX9_g6 ho_147).use z_149
        have to_144 := (OKX9_g7 ho_147).use z_150
        have to_145 := (OKX9_g8 ho_147).use z_151
        have to_146 := (OKX9_g4 ho_147).use z_152
        have hP141 : va_P (dC, dI) vwCl (zW_r_readLaw p0 o_142 p0_code c_p0_code o_50 p0_codeNumber c_p0_codeNumber o_51 p0_eSign c_p0_eSign o_52 p0_eWhat c_p0_eWhat o_53 p0_lName c_p0_lName g21 p0_laws c_p0_laws b_p0_laws p0_rFrom c_p0_rFrom g42 p0_rTo c_p0_rTo g74 p0_text c_p0_text b_p0_text) H141 := hQ141
        clear hQ141 hP77 hS77
        refine lv_aload_n hx hb dX9_readLaw_103 rfl (lv_at hl 1 rfl) (qg_X9_36 hx hb hts i_X9 hown hK hP141 0 rfl k_14 (hf_148.u (by decide) (hf_61.u (by decide) (hf_34.u (by decide) (hf_14.u (by decide) fr_p0_36)))) dX9_readLaw_104 (lv_iconst (v := 2) hx hb dX9_readLaw_107 (by decide) (lv_iload_n hx hb dX9_readLaw_108 rfl (lv_at hl 0 rfl) (lv_imul hx hb dX9_readLaw_109 (lv_topi fun v_155 ev_155 => ?_)))))
        have tv_155 := q_mulc (c := 2) ev_155 (by decide) (by omega) (by omega)
        refine lv_iconst (v := 1) hx hb dX9_readLaw_110 (by decide) (lv_iadd hx hb dX9_readLaw_111 (lv_topi fun v_156 ev_156 => ?_))
        have tv_156 := q_add ev_156 (by omega) (by omega)
        refine lv_aload_n hx hb dX9_readLaw_112 rfl (lv_at hl 1 rfl) (qg_X9_45 hx hb hts i_X9 hown hK hP141 0 rfl k_15 (hf_148.u (by decide) z_66) dX9_readLaw_113 (q_ist hx hb hK hP141 hDa za_r_readLaw hS141 7 6 rfl rfl (q_in (by omega) (by omega)) dX9_readLaw_116 (fun H157 lo157 g157 eg157 (hP157 : va_P (dC, dI) vwCl (zW_r_readLaw p0 o_142 p0_code c_p0_code o_50 p0_codeNumber c_p0_codeNumber o_51 p0_eSign c_p0_eSign o_52 p0_eWhat c_p0_eWhat o_53 p0_lName c_p0_lName g21 p0_laws c_p0_laws b_p0_laws p0_rFrom c_p0_rFrom g157 p0_rTo c_p0_rTo g74 p0_text c_p0_text b_p0_text) H157) hS157 => ?_)))
        clear hP141 hS141
        have hr_g157 := q_up' hr_g42 eg157 ⟨by omega, by omega⟩
        have ejg157 : g157 = upd g42 ((2 * (3 * rb.toInt + (b_p0_laws rb.toNatClampNeg).toInt)).toNat + 1) o_58 := by rw [eg157, q_ixn (n := (2 * (3 * rb.toInt + (b_p0_laws rb.toNatClampNeg).toInt)).toNat + 1) (by omega) (by omega)]
        have obg157 := (obg42 : q_offb (2 * (3 * rb.toInt + (b_p0_laws rb.toNatClampNeg).toInt)) b_p0_rFrom g42).up eg157 (by omega) (by omega)
        refine lv_aload_n hx hb dX9_readLaw_117 rfl (lv_at hl 1 rfl) ?_
        refine q_cVi (As := []) (rest := []) q_w0 trivial hK hP157 hDa za_r_readLaw hS157 hA [0] [] (by decide +kernel) ⟨hx, hb, hml, hown, hts⟩ (r_isGood l dC dI H157.size p0 o_142 o_146 ho_147 z_152) rfl rfl (cwV 0 hts (p1_gV m_16 m_17 m_18 m_6 g_r_isGood gz_r_isGood) rfl rfl rfl (by decide +kernel) ⟨by decide, by decide⟩) (va_recv hK hP157 (ci := 8) (q0 := 0) rfl rfl) zm_r_isGood rfl hl.1 rfl (Nat.le_of_ble_eq_true rfl) dX9_readLaw_118 ⟨by decide, by decide⟩ (fun r_158 H159 lo159 hG159 hS159 => ?_)
        obtain ⟨z_160, hQ159⟩ := hG159
        have hP159 : va_P (dC, dI) vwCl (zW_r_readLaw p0 o_142 p0_code c_p0_code o_50 p0_codeNumber c_p0_codeNumber o_51 p0_eSign c_p0_eSign o_52 p0_eWhat c_p0_eWhat o_53 p0_lName c_p0_lName g21 p0_laws c_p0_laws b_p0_laws p0_rFrom c_p0_rFrom g157 p0_rTo c_p0_rTo g74 p0_text c_p0_text b_p0_text) H159 := hQ159
        clear hQ159 hP157 hS157
        rcases z_160 with ⟨rfl, z_160⟩ | ⟨rfl, z_160⟩
        · refine lv_if_eq (tgt := 128) hx hb dX9_readLaw_121 (by decide) (fun c_161 => absurd c_161 (by decide)) (fun c_161 => ?_)
          refine lv_aload_n hx hb dX9_readLaw_124 rfl (lv_at hl 1 rfl) ?_
          refine q_cVv (As := []) (rest := []) q_w0 trivial hK hP159 hDa za_r_readLaw hS159 hA [0, 1, 2, 3, 4, 9] [0, 1, 2, 3, 8] (by decide +kernel) ⟨hx, hb, hml, hown, hts⟩ (r_e l dC dI H159.size p0 o_142 p0_code c_p0_code o_50 p0_codeNumber c_p0_codeNumber o_51 p0_eSign c_p0_eSign o_52 p0_eWhat c_p0_eWhat o_53 p0_text c_p0_text b_p0_text o_143 o_144 o_145 siz o_146 o_58 o_59 rb ho_147 ((hf_148.u (by decide) (hf_61.u (by decide) (hf_34.u (by decide) (hf_14.u (by decide) fr_p0_1))))) ((hf_148.u (by decide) (hf_61.u (by decide) (hf_34.u (by decide) (hf_14.u (by decide) fr_p0_38))))) ((hf_148.u (by decide) (hf_61.u (by decide) (hf_34.u (by decide) (hf_14.u (by decide) fr_p0_39))))) ((hf_148.u (by decide) (hf_61.u (by decide) (hf_34.u (by decide) (hf_14.u (by decide) fr_p0_40))))) ((hf_148.u (by decide) (hf_61.u (by decide) (hf_34.u (by decide) (hf_14.u (by decide) fr_p0_41))))) z_149 z_150 z_151 ((hf_148.u (by decide) (hf_61.u (by decide) (hf_34.u (by decide) (hf_14.u (by decide) pf_siz))))) z_152 ((hf_148.u (by decide) z_66)) ((hf_148.u (by decide) z_67)) ((hf_148.u (by decide) (hf_61.u (by decide) (hf_34.u (by decide) (hf_14.u (by decide) pf_rb))))) ((by omega)) ((by omega))) rfl rfl (cwV 0 hts (p1_gV m_19 m_20 m_21 m_6 g_r_e gz_r_e) rfl rfl rfl (by decide +kernel) ⟨by decide, by decide⟩) (va_recv hK hP159 (ci := 8) (q0 := 0) rfl rfl) zm_r_e rfl hl.1 rfl (Nat.le_of_ble_eq_true rfl) dX9_readLaw_125 ⟨by decide, by decide⟩ (fun H163 lo163 hG163 hS163 => ?_)
          obtain ⟨o_164, o_165, o_166, o_167, o_168, o_169, o_170, o_171, o_172, o_173, o_174, ho_175, hf_176, z_177, z_178, z_179, z_180, z_181, z_182, z_183, z_184, z_185, z_186, z_187, hQ163⟩ := hG163
          have to_169 := (OKX9_g6 ho_175).use z_177
          have to_170 := (OKX9_g7 ho_175).use z_178
          have to_171 := (OKX9_g8 ho_175).use z_179
          have to_172 := (OKX9_g4 ho_175).use z_180
          have hP163 : va_P (dC, dI) vwCl (zW_r_readLaw p0 o_164 p0_code c_p0_code o_165 p0_codeNumber c_p0_codeNumber o_166 p0_eSign c_p0_eSign o_167 p0_eWhat c_p0_eWhat o_168 p0_lName c_p0_lName g21 p0_laws c_p0_laws b_p0_laws p0_rFrom c_p0_rFrom g157 p0_rTo c_p0_rTo g74 p0_text c_p0_text b_p0_text) H163 := hQ163
          clear hQ163 hP159 hS159
          have oc187 := (oc72 : q_offc co.toInt rb b_p0_code o_50).tr z_186 (by omega)
          refine lv_aload_n hx hb dX9_readLaw_128 rfl (lv_at hl 1 rfl) (qg_X9_37 hx hb hts i_X9 hown hK hP163 0 rfl k_22 (hf_176.u (by decide) (hf_148.u (by decide) (hf_61.u (by decide) (hf_34.u (by decide) (hf_14.u (by decide) fr_p0_37))))) dX9_readLaw_129 (lv_iconst (v := 2) hx hb dX9_readLaw_132 (by decide) (lv_iload_n hx hb dX9_readLaw_133 rfl (lv_at hl 0 rfl) (lv_imul hx hb dX9_readLaw_134 (lv_topi fun v_188 ev_188 => ?_)))))
          have tv_188 := q_mulc (c := 2) ev_188 (by decide) (by omega) (by omega)
          refine lv_iconst (v := 1) hx hb dX9_readLaw_135 (by decide) (lv_iadd hx hb dX9_readLaw_136 (lv_topi fun v_189 ev_189 => ?_))
          have tv_189 := q_add ev_189 (by omega) (by omega)
          refine lv_aload_n hx hb dX9_readLaw_137 rfl (lv_at hl 1 rfl) (qg_X9_45 hx hb hts i_X9 hown hK hP163 0 rfl k_15 z_181 dX9_readLaw_138 (q_ist hx hb hK hP163 hDa za_r_readLaw hS163 8 7 rfl rfl (q_in (by omega) (by omega)) dX9_readLaw_141 (fun H190 lo190 g190 eg190 (hP190 : va_P (dC, dI) vwCl (zW_r_readLaw p0 o_164 p0_code c_p0_code o_165 p0_codeNumber c_p0_codeNumber o_166 p0_eSign c_p0_eSign o_167 p0_eWhat c_p0_eWhat o_168 p0_lName c_p0_lName g21 p0_laws c_p0_laws b_p0_laws p0_rFrom c_p0_rFrom g157 p0_rTo c_p0_rTo g190 p0_text c_p0_text b_p0_text) H190) hS190 => ?_)))
          clear hP163 hS163
          have hr_g190 := q_up' hr_g74 eg190 ⟨by omega, by omega⟩
          have ejg190 : g190 = upd g74 ((2 * (3 * rb.toInt + (b_p0_laws rb.toNatClampNeg).toInt)).toNat + 1) o_173 := by rw [eg190, q_ixn (n := (2 * (3 * rb.toInt + (b_p0_laws rb.toNatClampNeg).toInt)).toNat + 1) (by omega) (by omega)]
          have obg190 := (obg74 : q_offb (2 * (3 * rb.toInt + (b_p0_laws rb.toNatClampNeg).toInt)) b_p0_rTo g74).up eg190 (by omega) (by omega)
          refine lv_aload_n hx hb dX9_readLaw_142 rfl (lv_at hl 1 rfl) (qg_X9_14 hx hb hts i_X9 hown hK hP190 0 rfl k_1 (hf_176.u (by decide) (hf_148.u (by decide) (hf_61.u (by decide) (hf_34.u (by decide) (hf_14.u (by decide) fr_p0_14))))) dX9_readLaw_143 (lv_aload_n hx hb dX9_readLaw_146 rfl (lv_at hl 1 rfl) (qg_X9_44 hx hb hts i_X9 hown hK hP190 0 rfl k_0 (hf_176.u (by decide) (hf_148.u (by decide) (hf_61.u (by decide) (hf_34.u (by decide) (hf_14.u (by decide) pf_rb))))) dX9_readLaw_147 (lv_dup2_11 hx hb dX9_readLaw_150 rfl rfl (q_ild hx hb hK hP190 6 5 rfl rfl (q_in (by omega) (by omega)) dX9_readLaw_151 (fun v_191 ev_191 => ?_))))))
          have uv_191 : v_191.toInt = (b_p0_laws rb.toNatClampNeg).toInt := by rw [ev_191]
          have tv_191 := q_rd' hr_p0_laws (q_in (by omega) (by omega)) ev_191
          refine lv_iconst (v := 1) hx hb dX9_readLaw_152 (by decide) (lv_iadd hx hb dX9_readLaw_153 (lv_topi fun v_192 ev_192 => ?_))
          have tv_192 := q_add ev_192 (by omega) (by omega)
          refine q_ist hx hb hK hP190 hDa za_r_readLaw hS190 6 5 rfl rfl (q_in (by omega) (by omega)) dX9_readLaw_154 (fun H193 lo193 g193 eg193 (hP193 : va_P (dC, dI) vwCl (zW_r_readLaw p0 o_164 p0_code c_p0_code o_165 p0_codeNumber c_p0_codeNumber o_166 p0_eSign c_p0_eSign o_167 p0_eWhat c_p0_eWhat o_168 p0_lName c_p0_lName g21 p0_laws c_p0_laws g193 p0_rFrom c_p0_rFrom g157 p0_rTo c_p0_rTo g190 p0_text c_p0_text b_p0_text) H193) hS193 => ?_)
          clear hP190 hS190
          have hr_g193 := q_up' hr_p0_laws eg193 ⟨by omega, by omega⟩
          have usg193 : (g193 rb.toNatClampNeg).toInt = v_192.toInt := by rw [eg193, pk_us]
          have olg193 := (q_offd.rf : q_offd rb.toInt b_p0_laws b_p0_laws).up eg193 (by omega) rfl
          exact q_vret hx hb hr hlocks hS193 dX9_readLaw_155 ⟨o_164, o_165, o_166, o_167, o_168, g21, g193, g157, g190, o_169, o_170, o_171, o_172, o_173, o_174, ho_175, (((((q_fr.rf.tr hf_14 (by decide)).tr hf_34 (by decide)).tr hf_61 (by decide)).tr hf_148 (by decide)).tr hf_176 (by decide)), hr_g193, hr_g157, hr_g190, z_177, z_178, z_179, z_180, z_181, z_182, (by omega), (by omega), (by omega), olg193, obg157, obg190, oc187, (by rcases z_72 with h1 | h1; exact Or.inl (by omega); rcases z_187 with h2 | h2; exact Or.inl (by omega); exact Or.inr ⟨by omega, by omega, by omega, fun j hj => q_law2 ejg42 ejg157 ejg74 ejg190 h1.2.1 h2.2.1 z_186 (by omega) (by omega) (by omega) (by omega) (by omega) j (by omega)⟩), hP193, za_r_readLaw⟩
        · refine lv_if_eq (tgt := 128) hx hb dX9_readLaw_121 (by decide) (fun c_194 => ?_) (fun c_194 => absurd c_194 (by decide))
          refine lv_aload_n hx hb dX9_readLaw_128 rfl (lv_at hl 1 rfl) (qg_X9_37 hx hb hts i_X9 hown hK hP159 0 rfl k_22 (hf_148.u (by decide) (hf_61.u (by decide) (hf_34.u (by decide) (hf_14.u (by decide) fr_p0_37)))) dX9_readLaw_129 (lv_iconst (v := 2) hx hb dX9_readLaw_132 (by decide) (lv_iload_n hx hb dX9_readLaw_133 rfl (lv_at hl 0 rfl) (lv_imul hx hb dX9_readLaw_134 (lv_topi fun v_195 ev_195 => ?_)))))
          have tv_195 := q_mulc (c := 2) ev_195 (by decide) (by omega) (by omega)
          refine lv_iconst (v := 1) hx hb dX9_readLaw_135 (by decide) (lv_iadd hx hb dX9_readLaw_136 (lv_topi fun v_196 ev_196 => ?_))
          have tv_196 := q_add ev_196 (by omega) (by omega)
          refine lv_aload_n hx hb dX9_readLaw_137 rfl (lv_at hl 1 rfl) (qg_X9_45 hx hb hts i_X9 hown hK hP159 0 rfl k_15 (hf_148.u (by decide) z_66) dX9_readLaw_138 (q_ist hx hb hK hP159 hDa za_r_readLaw hS159 8 7 rfl rfl (q_in (by omega) (by omega)) dX9_readLaw_141 (fun H197 lo197 g197 eg197 (hP197 : va_P (dC, dI) vwCl (zW_r_readLaw p0 o_142 p0_code c_p0_code o_50 p0_codeNumber c_p0_codeNumber o_51 p0_eSign c_p0_eSign o_52 p0_eWhat c_p0_eWhat o_53 p0_lName c_p0_lName g21 p0_laws c_p0_laws b_p0_laws p0_rFrom c_p0_rFrom g157 p0_rTo c_p0_rTo g197 p0_text c_p0_text b_p0_text) H197) hS197 => ?_)))
          clear hP159 hS159
          have hr_g197 := q_up' hr_g74 eg197 ⟨by omega, by omega⟩
          have ejg197 : g197 = upd g74 ((2 * (3 * rb.toInt + (b_p0_laws rb.toNatClampNeg).toInt)).toNat + 1) o_58 := by rw [eg197, q_ixn (n := (2 * (3 * rb.toInt + (b_p0_laws rb.toNatClampNeg).toInt)).toNat + 1) (by omega) (by omega)]
          have obg197 := (obg74 : q_offb (2 * (3 * rb.toInt + (b_p0_laws rb.toNatClampNeg).toInt)) b_p0_rTo g74).up eg197 (by omega) (by omega)
          refine lv_aload_n hx hb dX9_readLaw_142 rfl (lv_at hl 1 rfl) (qg_X9_14 hx hb hts i_X9 hown hK hP197 0 rfl k_1 (hf_148.u (by decide) (hf_61.u (by decide) (hf_34.u (by decide) (hf_14.u (by decide) fr_p0_14)))) dX9_readLaw_143 (lv_aload_n hx hb dX9_readLaw_146 rfl (lv_at hl 1 rfl) (qg_X9_44 hx hb hts i_X9 hown hK hP197 0 rfl k_0 (hf_148.u (by decide) (hf_61.u (by decide) (hf_34.u (by decide) (hf_14.u (by decide) pf_rb)))) dX9_readLaw_147 (lv_dup2_11 hx hb dX9_readLaw_150 rfl rfl (q_ild hx hb hK hP197 6 5 rfl rfl (q_in (by omega) (by omega)) dX9_readLaw_151 (fun v_198 ev_198 => ?_))))))
          have uv_198 : v_198.toInt = (b_p0_laws rb.toNatClampNeg).toInt := by rw [ev_198]
          have tv_198 := q_rd' hr_p0_laws (q_in (by omega) (by omega)) ev_198
          refine lv_iconst (v := 1) hx hb dX9_readLaw_152 (by decide) (lv_iadd hx hb dX9_readLaw_153 (lv_topi fun v_199 ev_199 => ?_))
          have tv_199 := q_add ev_199 (by omega) (by omega)
          refine q_ist hx hb hK hP197 hDa za_r_readLaw hS197 6 5 rfl rfl (q_in (by omega) (by omega)) dX9_readLaw_154 (fun H200 lo200 g200 eg200 (hP200 : va_P (dC, dI) vwCl (zW_r_readLaw p0 o_142 p0_code c_p0_code o_50 p0_codeNumber c_p0_codeNumber o_51 p0_eSign c_p0_eSign o_52 p0_eWhat c_p0_eWhat o_53 p0_lName c_p0_lName g21 p0_laws c_p0_laws g200 p0_rFrom c_p0_rFrom g157 p0_rTo c_p0_rTo g197 p0_text c_p0_text b_p0_text) H200) hS200 => ?_)
          clear hP197 hS197
          have hr_g200 := q_up' hr_p0_laws eg200 ⟨by omega, by omega⟩
          have usg200 : (g200 rb.toNatClampNeg).toInt = v_199.toInt := by rw [eg200, pk_us]
          have olg200 := (q_offd.rf : q_offd rb.toInt b_p0_laws b_p0_laws).up eg200 (by omega) rfl
          exact q_vret hx hb hr hlocks hS200 dX9_readLaw_155 ⟨o_142, o_50, o_51, o_52, o_53, g21, g200, g157, g197, o_143, o_144, o_145, o_146, o_58, o_59, ho_147, ((((q_fr.rf.tr hf_14 (by decide)).tr hf_34 (by decide)).tr hf_61 (by decide)).tr hf_148 (by decide)), hr_g200, hr_g157, hr_g197, z_149, z_150, z_151, z_152, (hf_148.u (by decide) z_66), (hf_148.u (by decide) z_67), (by omega), (by omega), (by omega), olg200, obg157, obg197, oc72, (Or.inl (by omega)), hP200, za_r_readLaw⟩
    · refine lv_if_eq (tgt := 80) hx hb dX9_readLaw_73 (by decide) (fun c_201 => ?_) (fun c_201 => absurd c_201 (by decide))
      refine lv_aload_n hx hb dX9_readLaw_80 rfl (lv_at hl 1 rfl) (qg_X9_37 hx hb hts i_X9 hown hK hP44 0 rfl k_22 (hf_34.u (by decide) (hf_14.u (by decide) fr_p0_37)) dX9_readLaw_81 (lv_iconst (v := 2) hx hb dX9_readLaw_84 (by decide) (lv_iload_n hx hb dX9_readLaw_85 rfl (lv_at hl 0 rfl) (lv_imul hx hb dX9_readLaw_86 (lv_topi fun v_202 ev_202 => ?_)))))
      have tv_202 := q_mulc (c := 2) ev_202 (by decide) (by omega) (by omega)
      refine lv_aload_n hx hb dX9_readLaw_87 rfl (lv_at hl 1 rfl) (qg_X9_45 hx hb hts i_X9 hown hK hP44 0 rfl k_15 (hf_34.u (by decide) (hf_14.u (by decide) pf_co)) dX9_readLaw_88 (q_ist hx hb hK hP44 hDa za_r_readLaw hS44 8 7 rfl rfl (q_in (by omega) (by omega)) dX9_readLaw_91 (fun H203 lo203 g203 eg203 (hP203 : va_P (dC, dI) vwCl (zW_r_readLaw p0 o_28 p0_code c_p0_code b_p0_code p0_codeNumber c_p0_codeNumber b_p0_codeNumber p0_eSign c_p0_eSign b_p0_eSign p0_eWhat c_p0_eWhat b_p0_eWhat p0_lName c_p0_lName g21 p0_laws c_p0_laws b_p0_laws p0_rFrom c_p0_rFrom g42 p0_rTo c_p0_rTo g203 p0_text c_p0_text b_p0_text) H203) hS203 => ?_)))
      clear hP44 hS44
      have hr_g203 := q_up' hr_p0_rTo eg203 ⟨by omega, by omega⟩
      have ejg203 : g203 = upd b_p0_rTo ((2 * (3 * rb.toInt + (b_p0_laws rb.toNatClampNeg).toInt)).toNat) co := by rw [eg203, q_ixn (n := (2 * (3 * rb.toInt + (b_p0_laws rb.toNatClampNeg).toInt)).toNat) (by omega) (by omega)]
      have obg203 := (q_offb.rf : q_offb (2 * (3 * rb.toInt + (b_p0_laws rb.toNatClampNeg).toInt)) b_p0_rTo b_p0_rTo).up eg203 (by omega) (by omega)
      refine lv_aload_n hx hb dX9_readLaw_92 rfl (lv_at hl 1 rfl) (lv_aload_n hx hb dX9_readLaw_93 rfl (lv_at hl 1 rfl) (lv_ldc2 (v := 1886743660) hx hb hown k_23 dX9_readLaw_94 ?_))
      obtain ⟨v_204, fv_204⟩ := OKX9_g10 ho_33
      refine q_cVi (As := [.long 1886743660]) (rest := [.ref p0]) q_w0 trivial hK hP203 hDa za_r_readLaw hS203 hA [0] [] (by decide +kernel) ⟨hx, hb, hml, hown, hts⟩ (r_isWord l dC dI H203.size p0 o_28 1886743660 o_31 v_204 ho_33 z_37 fv_204) rfl rfl (cwV 1 hts (p1_gV m_8 m_9 m_10 m_6 g_r_isWord gz_r_isWord) rfl rfl rfl (by decide +kernel) ⟨by decide, by decide⟩) (va_recv hK hP203 (ci := 8) (q0 := 0) rfl rfl) zm_r_isWord rfl hl.1 rfl (Nat.le_of_ble_eq_true rfl) dX9_readLaw_97 ⟨by decide, by decide⟩ (fun r_205 H206 lo206 hG206 hS206 => ?_)
      obtain ⟨z_207, hQ206⟩ := hG206
      have hP206 : va_P (dC, dI) vwCl (zW_r_readLaw p0 o_28 p0_code c_p0_code b_p0_code p0_codeNumber c_p0_codeNumber b_p0_codeNumber p0_eSign c_p0_eSign b_p0_eSign p0_eWhat c_p0_eWhat b_p0_eWhat p0_lName c_p0_lName g21 p0_laws c_p0_laws b_p0_laws p0_rFrom c_p0_rFrom g42 p0_rTo c_p0_rTo g203 p0_text c_p0_text b_p0_text) H206 := hQ206
      clear hQ206 hP203 hS203
      rcases z_207 with ⟨rfl, z_207⟩ | ⟨rfl, z_207⟩
      · refine q_cVv (As := [.int 1]) (rest := []) q_w0 trivial hK hP206 hDa za_r_readLaw hS206 hA [0, 9] [8] (by decide +kernel) ⟨hx, hb, hml, hown, hts⟩ (r_must l dC dI H206.size p0 o_28 p0_text c_p0_text b_p0_text 1 o_29 o_30 o_31 siz o_32 ho_33 ((hf_34.u (by decide) (hf_14.u (by decide) fr_p0_1))) z_35 z_36 z_37 ((hf_34.u (by decide) (hf_14.u (by decide) pf_siz))) z_38 ((by omega))) rfl rfl (cwV 1 hts (p1_gV m_11 m_12 m_13 m_6 g_r_must gz_r_must) rfl rfl rfl (by decide +kernel) ⟨by decide, by decide⟩) (va_recv hK hP206 (ci := 8) (q0 := 0) rfl rfl) zm_r_must rfl hl.1 rfl (Nat.le_of_ble_eq_true rfl) dX9_readLaw_100 ⟨by decide, by decide⟩ (fun H209 lo209 hG209 hS209 => ?_)
        obtain ⟨o_210, o_211, o_212, o_213, o_214, ho_215, hf_216, z_217, z_218, z_219, z_220, z_221, z_222, hQ209⟩ := hG209
        have to_211 := (OKX9_g6 ho_215).use z_217
        have to_212 := (OKX9_g7 ho_215).use z_218
        have to_213 := (OKX9_g8 ho_215).use z_219
        have to_214 := (OKX9_g4 ho_215).use z_220
        have hP209 : va_P (dC, dI) vwCl (zW_r_readLaw p0 o_210 p0_code c_p0_code b_p0_code p0_codeNumber c_p0_codeNumber b_p0_codeNumber p0_eSign c_p0_eSign b_p0_eSign p0_eWhat c_p0_eWhat b_p0_eWhat p0_lName c_p0_lName g21 p0_laws c_p0_laws b_p0_laws p0_rFrom c_p0_rFrom g42 p0_rTo c_p0_rTo g203 p0_text c_p0_text b_p0_text) H209 := hQ209
        clear hQ209 hP206 hS206
        refine lv_aload_n hx hb dX9_readLaw_103 rfl (lv_at hl 1 rfl) (qg_X9_36 hx hb hts i_X9 hown hK hP209 0 rfl k_14 (hf_216.u (by decide) (hf_34.u (by decide) (hf_14.u (by decide) fr_p0_36))) dX9_readLaw_104 (lv_iconst (v := 2) hx hb dX9_readLaw_107 (by decide) (lv_iload_n hx hb dX9_readLaw_108 rfl (lv_at hl 0 rfl) (lv_imul hx hb dX9_readLaw_109 (lv_topi fun v_223 ev_223 => ?_)))))
        have tv_223 := q_mulc (c := 2) ev_223 (by decide) (by omega) (by omega)
        refine lv_iconst (v := 1) hx hb dX9_readLaw_110 (by decide) (lv_iadd hx hb dX9_readLaw_111 (lv_topi fun v_224 ev_224 => ?_))
        have tv_224 := q_add ev_224 (by omega) (by omega)
        refine lv_aload_n hx hb dX9_readLaw_112 rfl (lv_at hl 1 rfl) (qg_X9_45 hx hb hts i_X9 hown hK hP209 0 rfl k_15 (hf_216.u (by decide) (hf_34.u (by decide) (hf_14.u (by decide) pf_co))) dX9_readLaw_113 (q_ist hx hb hK hP209 hDa za_r_readLaw hS209 7 6 rfl rfl (q_in (by omega) (by omega)) dX9_readLaw_116 (fun H225 lo225 g225 eg225 (hP225 : va_P (dC, dI) vwCl (zW_r_readLaw p0 o_210 p0_code c_p0_code b_p0_code p0_codeNumber c_p0_codeNumber b_p0_codeNumber p0_eSign c_p0_eSign b_p0_eSign p0_eWhat c_p0_eWhat b_p0_eWhat p0_lName c_p0_lName g21 p0_laws c_p0_laws b_p0_laws p0_rFrom c_p0_rFrom g225 p0_rTo c_p0_rTo g203 p0_text c_p0_text b_p0_text) H225) hS225 => ?_)))
        clear hP209 hS209
        have hr_g225 := q_up' hr_g42 eg225 ⟨by omega, by omega⟩
        have ejg225 : g225 = upd g42 ((2 * (3 * rb.toInt + (b_p0_laws rb.toNatClampNeg).toInt)).toNat + 1) co := by rw [eg225, q_ixn (n := (2 * (3 * rb.toInt + (b_p0_laws rb.toNatClampNeg).toInt)).toNat + 1) (by omega) (by omega)]
        have obg225 := (obg42 : q_offb (2 * (3 * rb.toInt + (b_p0_laws rb.toNatClampNeg).toInt)) b_p0_rFrom g42).up eg225 (by omega) (by omega)
        refine lv_aload_n hx hb dX9_readLaw_117 rfl (lv_at hl 1 rfl) ?_
        refine q_cVi (As := []) (rest := []) q_w0 trivial hK hP225 hDa za_r_readLaw hS225 hA [0] [] (by decide +kernel) ⟨hx, hb, hml, hown, hts⟩ (r_isGood l dC dI H225.size p0 o_210 o_214 ho_215 z_220) rfl rfl (cwV 0 hts (p1_gV m_16 m_17 m_18 m_6 g_r_isGood gz_r_isGood) rfl rfl rfl (by decide +kernel) ⟨by decide, by decide⟩) (va_recv hK hP225 (ci := 8) (q0 := 0) rfl rfl) zm_r_isGood rfl hl.1 rfl (Nat.le_of_ble_eq_true rfl) dX9_readLaw_118 ⟨by decide, by decide⟩ (fun r_226 H227 lo227 hG227 hS227 => ?_)
        obtain ⟨z_228, hQ227⟩ := hG227
        have hP227 : va_P (dC, dI) vwCl (zW_r_readLaw p0 o_210 p0_code c_p0_code b_p0_code p0_codeNumber c_p0_codeNumber b_p0_codeNumber p0_eSign c_p0_eSign b_p0_eSign p0_eWhat c_p0_eWhat b_p0_eWhat p0_lName c_p0_lName g21 p0_laws c_p0_laws b_p0_laws p0_rFrom c_p0_rFrom g225 p0_rTo c_p0_rTo g203 p0_text c_p0_text b_p0_text) H227 := hQ227
        clear hQ227 hP225 hS225
        rcases z_228 with ⟨rfl, z_228⟩ | ⟨rfl, z_228⟩
        · refine lv_if_eq (tgt := 128) hx hb dX9_readLaw_121 (by decide) (fun c_229 => absurd c_229 (by decide)) (fun c_229 => ?_)
          refine lv_aload_n hx hb dX9_readLaw_124 rfl (lv_at hl 1 rfl) ?_
          refine q_cVv (As := []) (rest := []) q_w0 trivial hK hP227 hDa za_r_readLaw hS227 hA [0, 1, 2, 3, 4, 9] [0, 1, 2, 3, 8] (by decide +kernel) ⟨hx, hb, hml, hown, hts⟩ (r_e l dC dI H227.size p0 o_210 p0_code c_p0_code b_p0_code p0_codeNumber c_p0_codeNumber b_p0_codeNumber p0_eSign c_p0_eSign b_p0_eSign p0_eWhat c_p0_eWhat b_p0_eWhat p0_text c_p0_text b_p0_text o_211 o_212 o_213 siz o_214 co un rb ho_215 ((hf_216.u (by decide) (hf_34.u (by decide) (hf_14.u (by decide) fr_p0_1)))) ((hf_216.u (by decide) (hf_34.u (by decide) (hf_14.u (by decide) fr_p0_38)))) ((hf_216.u (by decide) (hf_34.u (by decide) (hf_14.u (by decide) fr_p0_39)))) ((hf_216.u (by decide) (hf_34.u (by decide) (hf_14.u (by decide) fr_p0_40)))) ((hf_216.u (by decide) (hf_34.u (by decide) (hf_14.u (by decide) fr_p0_41)))) z_217 z_218 z_219 ((hf_216.u (by decide) (hf_34.u (by decide) (hf_14.u (by decide) pf_siz)))) z_220 ((hf_216.u (by decide) (hf_34.u (by decide) (hf_14.u (by decide) pf_co)))) ((hf_216.u (by decide) (hf_34.u (by decide) (hf_14.u (by decide) pf_un)))) ((hf_216.u (by decide) (hf_34.u (by decide) (hf_14.u (by decide) pf_rb)))) ((by omega)) ((by omega))) rfl rfl (cwV 0 hts (p1_gV m_19 m_20 m_21 m_6 g_r_e gz_r_e) rfl rfl rfl (by decide +kernel) ⟨by decide, by decide⟩) (va_recv hK hP227 (ci := 8) (q0 := 0) rfl rfl) zm_r_e rfl hl.1 rfl (Nat.le_of_ble_eq_true rfl) dX9_readLaw_125 ⟨by decide, by decide⟩ (fun H231 lo231 hG231 hS231 => ?_)
          obtain ⟨o_232, o_233, o_234, o_235, o_236, o_237, o_238, o_239, o_240, o_241, o_242, ho_243, hf_244, z_245, z_246, z_247, z_248, z_249, z_250, z_251, z_252, z_253, z_254, z_255, hQ231⟩ := hG231
          have to_237 := (OKX9_g6 ho_243).use z_245
          have to_238 := (OKX9_g7 ho_243).use z_246
          have to_239 := (OKX9_g8 ho_243).use z_247
          have to_240 := (OKX9_g4 ho_243).use z_248
          have hP231 : va_P (dC, dI) vwCl (zW_r_readLaw p0 o_232 p0_code c_p0_code o_233 p0_codeNumber c_p0_codeNumber o_234 p0_eSign c_p0_eSign o_235 p0_eWhat c_p0_eWhat o_236 p0_lName c_p0_lName g21 p0_laws c_p0_laws b_p0_laws p0_rFrom c_p0_rFrom g225 p0_rTo c_p0_rTo g203 p0_text c_p0_text b_p0_text) H231 := hQ231
          clear hQ231 hP227 hS227
          have oc255 := (q_offc.rf : q_offc co.toInt rb b_p0_code b_p0_code).tr z_254 (by omega)
          refine lv_aload_n hx hb dX9_readLaw_128 rfl (lv_at hl 1 rfl) (qg_X9_37 hx hb hts i_X9 hown hK hP231 0 rfl k_22 (hf_244.u (by decide) (hf_216.u (by decide) (hf_34.u (by decide) (hf_14.u (by decide) fr_p0_37)))) dX9_readLaw_129 (lv_iconst (v := 2) hx hb dX9_readLaw_132 (by decide) (lv_iload_n hx hb dX9_readLaw_133 rfl (lv_at hl 0 rfl) (lv_imul hx hb dX9_readLaw_134 (lv_topi fun v_256 ev_256 => ?_)))))
          have tv_256 := q_mulc (c := 2) ev_256 (by decide) (by omega) (by omega)
          refine lv_iconst (v := 1) hx hb dX9_readLaw_135 (by decide) (lv_iadd hx hb dX9_readLaw_136 (lv_topi fun v_257 ev_257 => ?_))
          have tv_257 := q_add ev_257 (by omega) (by omega)
          refine lv_aload_n hx hb dX9_readLaw_137 rfl (lv_at hl 1 rfl) (qg_X9_45 hx hb hts i_X9 hown hK hP231 0 rfl k_15 z_249 dX9_readLaw_138 (q_ist hx hb hK hP231 hDa za_r_readLaw hS231 8 7 rfl rfl (q_in (by omega) (by omega)) dX9_readLaw_141 (fun H258 lo258 g258 eg258 (hP258 : va_P (dC, dI) vwCl (zW_r_readLaw p0 o_232 p0_code c_p0_code o_233 p0_codeNumber c_p0_codeNumber o_234 p0_eSign c_p0_eSign o_235 p0_eWhat c_p0_eWhat o_236 p0_lName c_p0_lName g21 p0_laws c_p0_laws b_p0_laws p0_rFrom c_p0_rFrom g225 p0_rTo c_p0_rTo g258 p0_text c_p0_text b_p0_text) H258) hS258 => ?_)))
          clear hP231 hS231
          have hr_g258 := q_up' hr_g203 eg258 ⟨by omega, by omega⟩
          have ejg258 : g258 = upd g203 ((2 * (3 * rb.toInt + (b_p0_laws rb.toNatClampNeg).toInt)).toNat + 1) o_241 := by rw [eg258, q_ixn (n := (2 * (3 * rb.toInt + (b_p0_laws rb.toNatClampNeg).toInt)).toNat + 1) (by omega) (by omega)]
          have obg258 := (obg203 : q_offb (2 * (3 * rb.toInt + (b_p0_laws rb.toNatClampNeg).toInt)) b_p0_rTo g203).up eg258 (by omega) (by omega)
          refine lv_aload_n hx hb dX9_readLaw_142 rfl (lv_at hl 1 rfl) (qg_X9_14 hx hb hts i_X9 hown hK hP258 0 rfl k_1 (hf_244.u (by decide) (hf_216.u (by decide) (hf_34.u (by decide) (hf_14.u (by decide) fr_p0_14)))) dX9_readLaw_143 (lv_aload_n hx hb dX9_readLaw_146 rfl (lv_at hl 1 rfl) (qg_X9_44 hx hb hts i_X9 hown hK hP258 0 rfl k_0 (hf_244.u (by decide) (hf_216.u (by decide) (hf_34.u (by decide) (hf_14.u (by decide) pf_rb)))) dX9_readLaw_147 (lv_dup2_11 hx hb dX9_readLaw_150 rfl rfl (q_ild hx hb hK hP258 6 5 rfl rfl (q_in (by omega) (by omega)) dX9_readLaw_151 (fun v_259 ev_259 => ?_))))))
          have uv_259 : v_259.toInt = (b_p0_laws rb.toNatClampNeg).toInt := by rw [ev_259]
          have tv_259 := q_rd' hr_p0_laws (q_in (by omega) (by omega)) ev_259
          refine lv_iconst (v := 1) hx hb dX9_readLaw_152 (by decide) (lv_iadd hx hb dX9_readLaw_153 (lv_topi fun v_260 ev_260 => ?_))
          have tv_260 := q_add ev_260 (by omega) (by omega)
          refine q_ist hx hb hK hP258 hDa za_r_readLaw hS258 6 5 rfl rfl (q_in (by omega) (by omega)) dX9_readLaw_154 (fun H261 lo261 g261 eg261 (hP261 : va_P (dC, dI) vwCl (zW_r_readLaw p0 o_232 p0_code c_p0_code o_233 p0_codeNumber c_p0_codeNumber o_234 p0_eSign c_p0_eSign o_235 p0_eWhat c_p0_eWhat o_236 p0_lName c_p0_lName g21 p0_laws c_p0_laws g261 p0_rFrom c_p0_rFrom g225 p0_rTo c_p0_rTo g258 p0_text c_p0_text b_p0_text) H261) hS261 => ?_)
          clear hP258 hS258
          have hr_g261 := q_up' hr_p0_laws eg261 ⟨by omega, by omega⟩
          have usg261 : (g261 rb.toNatClampNeg).toInt = v_260.toInt := by rw [eg261, pk_us]
          have olg261 := (q_offd.rf : q_offd rb.toInt b_p0_laws b_p0_laws).up eg261 (by omega) rfl
          exact q_vret hx hb hr hlocks hS261 dX9_readLaw_155 ⟨o_232, o_233, o_234, o_235, o_236, g21, g261, g225, g258, o_237, o_238, o_239, o_240, o_241, o_242, ho_243, ((((q_fr.rf.tr hf_14 (by decide)).tr hf_34 (by decide)).tr hf_216 (by decide)).tr hf_244 (by decide)), hr_g261, hr_g225, hr_g258, z_245, z_246, z_247, z_248, z_249, z_250, (by omega), (by omega), (by omega), olg261, obg225, obg258, oc255, (Or.inl (by omega)), hP261, za_r_readLaw⟩
        · refine lv_if_eq (tgt := 128) hx hb dX9_readLaw_121 (by decide) (fun c_262 => ?_) (fun c_262 => absurd c_262 (by decide))
          refine lv_aload_n hx hb dX9_readLaw_128 rfl (lv_at hl 1 rfl) (qg_X9_37 hx hb hts i_X9 hown hK hP227 0 rfl k_22 (hf_216.u (by decide) (hf_34.u (by decide) (hf_14.u (by decide) fr_p0_37))) dX9_readLaw_129 (lv_iconst (v := 2) hx hb dX9_readLaw_132 (by decide) (lv_iload_n hx hb dX9_readLaw_133 rfl (lv_at hl 0 rfl) (lv_imul hx hb dX9_readLaw_134 (lv_topi fun v_263 ev_263 => ?_)))))
          have tv_263 := q_mulc (c := 2) ev_263 (by decide) (by omega) (by omega)
          refine lv_iconst (v := 1) hx hb dX9_readLaw_135 (by decide) (lv_iadd hx hb dX9_readLaw_136 (lv_topi fun v_264 ev_264 => ?_))
          have tv_264 := q_add ev_264 (by omega) (by omega)
          refine lv_aload_n hx hb dX9_readLaw_137 rfl (lv_at hl 1 rfl) (qg_X9_45 hx hb hts i_X9 hown hK hP227 0 rfl k_15 (hf_216.u (by decide) (hf_34.u (by decide) (hf_14.u (by decide) pf_co))) dX9_readLaw_138 (q_ist hx hb hK hP227 hDa za_r_readLaw hS227 8 7 rfl rfl (q_in (by omega) (by omega)) dX9_readLaw_141 (fun H265 lo265 g265 eg265 (hP265 : va_P (dC, dI) vwCl (zW_r_readLaw p0 o_210 p0_code c_p0_code b_p0_code p0_codeNumber c_p0_codeNumber b_p0_codeNumber p0_eSign c_p0_eSign b_p0_eSign p0_eWhat c_p0_eWhat b_p0_eWhat p0_lName c_p0_lName g21 p0_laws c_p0_laws b_p0_laws p0_rFrom c_p0_rFrom g225 p0_rTo c_p0_rTo g265 p0_text c_p0_text b_p0_text) H265) hS265 => ?_)))
          clear hP227 hS227
          have hr_g265 := q_up' hr_g203 eg265 ⟨by omega, by omega⟩
          have ejg265 : g265 = upd g203 ((2 * (3 * rb.toInt + (b_p0_laws rb.toNatClampNeg).toInt)).toNat + 1) co := by rw [eg265, q_ixn (n := (2 * (3 * rb.toInt + (b_p0_laws rb.toNatClampNeg).toInt)).toNat + 1) (by omega) (by omega)]
          have obg265 := (obg203 : q_offb (2 * (3 * rb.toInt + (b_p0_laws rb.toNatClampNeg).toInt)) b_p0_rTo g203).up eg265 (by omega) (by omega)
          refine lv_aload_n hx hb dX9_readLaw_142 rfl (lv_at hl 1 rfl) (qg_X9_14 hx hb hts i_X9 hown hK hP265 0 rfl k_1 (hf_216.u (by decide) (hf_34.u (by decide) (hf_14.u (by decide) fr_p0_14))) dX9_readLaw_143 (lv_aload_n hx hb dX9_readLaw_146 rfl (lv_at hl 1 rfl) (qg_X9_44 hx hb hts i_X9 hown hK hP265 0 rfl k_0 (hf_216.u (by decide) (hf_34.u (by decide) (hf_14.u (by decide) pf_rb))) dX9_readLaw_147 (lv_dup2_11 hx hb dX9_readLaw_150 rfl rfl (q_ild hx hb hK hP265 6 5 rfl rfl (q_in (by omega) (by omega)) dX9_readLaw_151 (fun v_266 ev_266 => ?_))))))
          have uv_266 : v_266.toInt = (b_p0_laws rb.toNatClampNeg).toInt := by rw [ev_266]
          have tv_266 := q_rd' hr_p0_laws (q_in (by omega) (by omega)) ev_266
          refine lv_iconst (v := 1) hx hb dX9_readLaw_152 (by decide) (lv_iadd hx hb dX9_readLaw_153 (lv_topi fun v_267 ev_267 => ?_))
          have tv_267 := q_add ev_267 (by omega) (by omega)
          refine q_ist hx hb hK hP265 hDa za_r_readLaw hS265 6 5 rfl rfl (q_in (by omega) (by omega)) dX9_readLaw_154 (fun H268 lo268 g268 eg268 (hP268 : va_P (dC, dI) vwCl (zW_r_readLaw p0 o_210 p0_code c_p0_code b_p0_code p0_codeNumber c_p0_codeNumber b_p0_codeNumber p0_eSign c_p0_eSign b_p0_eSign p0_eWhat c_p0_eWhat b_p0_eWhat p0_lName c_p0_lName g21 p0_laws c_p0_laws g268 p0_rFrom c_p0_rFrom g225 p0_rTo c_p0_rTo g265 p0_text c_p0_text b_p0_text) H268) hS268 => ?_)
          clear hP265 hS265
          have hr_g268 := q_up' hr_p0_laws eg268 ⟨by omega, by omega⟩
          have usg268 : (g268 rb.toNatClampNeg).toInt = v_267.toInt := by rw [eg268, pk_us]
          have olg268 := (q_offd.rf : q_offd rb.toInt b_p0_laws b_p0_laws).up eg268 (by omega) rfl
          exact q_vret hx hb hr hlocks hS268 dX9_readLaw_155 ⟨o_210, b_p0_code, b_p0_codeNumber, b_p0_eSign, b_p0_eWhat, g21, g268, g225, g265, o_211, o_212, o_213, o_214, co, un, ho_215, (((q_fr.rf.tr hf_14 (by decide)).tr hf_34 (by decide)).tr hf_216 (by decide)), hr_g268, hr_g225, hr_g265, z_217, z_218, z_219, z_220, (hf_216.u (by decide) (hf_34.u (by decide) (hf_14.u (by decide) pf_co))), (hf_216.u (by decide) (hf_34.u (by decide) (hf_14.u (by decide) pf_un))), (by omega), (by omega), (by omega), olg268, obg225, obg265, q_offc.rf, (Or.inl (by omega)), hP268, za_r_readLaw⟩
      · refine q_cVv (As := [.int 0]) (rest := []) q_w0 trivial hK hP206 hDa za_r_readLaw hS206 hA [0, 9] [8] (by decide +kernel) ⟨hx, hb, hml, hown, hts⟩ (r_must l dC dI H206.size p0 o_28 p0_text c_p0_text b_p0_text 0 o_29 o_30 o_31 siz o_32 ho_33 ((hf_34.u (by decide) (hf_14.u (by decide) fr_p0_1))) z_35 z_36 z_37 ((hf_34.u (by decide) (hf_14.u (by decide) pf_siz))) z_38 ((by omega))) rfl rfl (cwV 1 hts (p1_gV m_11 m_12 m_13 m_6 g_r_must gz_r_must) rfl rfl rfl (by decide +kernel) ⟨by decide, by decide⟩) (va_recv hK hP206 (ci := 8) (q0 := 0) rfl rfl) zm_r_must rfl hl.1 rfl (Nat.le_of_ble_eq_true rfl) dX9_readLaw_100 ⟨by decide, by decide⟩ (fun H270 lo270 hG270 hS270 => ?_)
        obtain ⟨o_271, o_272, o_273, o_274, o_275, ho_276, hf_277, z_278, z_279, z_280, z_281, z_282, z_283, hQ270⟩ := hG270
        have to_272 := (OKX9_g6 ho_276).use z_278
        have to_273 := (OKX9_g7 ho_276).use z_279
        have to_274 := (OKX9_g8 ho_276).use z_280
        have to_275 := (OKX9_g4 ho_276).use z_281
        have hP270 : va_P (dC, dI) vwCl (zW_r_readLaw p0 o_271 p0_code c_p0_code b_p0_code p0_codeNumber c_p0_codeNumber b_p0_codeNumber p0_eSign c_p0_eSign b_p0_eSign p0_eWhat c_p0_eWhat b_p0_eWhat p0_lName c_p0_lName g21 p0_laws c_p0_laws b_p0_laws p0_rFrom c_p0_rFrom g42 p0_rTo c_p0_rTo g203 p0_text c_p0_text b_p0_text) H270 := hQ270
        clear hQ270 hP206 hS206
        refine lv_aload_n hx hb dX9_readLaw_103 rfl (lv_at hl 1 rfl) (qg_X9_36 hx hb hts i_X9 hown hK hP270 0 rfl k_14 (hf_277.u (by decide) (hf_34.u (by decide) (hf_14.u (by decide) fr_p0_36))) dX9_readLaw_104 (lv_iconst (v := 2) hx hb dX9_readLaw_107 (by decide) (lv_iload_n hx hb dX9_readLaw_108 rfl (lv_at hl 0 rfl) (lv_imul hx hb dX9_readLaw_109 (lv_topi fun v_284 ev_284 => ?_)))))
        have tv_284 := q_mulc (c := 2) ev_284 (by decide) (by omega) (by omega)
        refine lv_iconst (v := 1) hx hb dX9_readLaw_110 (by decide) (lv_iadd hx hb dX9_readLaw_111 (lv_topi fun v_285 ev_285 => ?_))
        have tv_285 := q_add ev_285 (by omega) (by omega)
        refine lv_aload_n hx hb dX9_readLaw_112 rfl (lv_at hl 1 rfl) (qg_X9_45 hx hb hts i_X9 hown hK hP270 0 rfl k_15 (hf_277.u (by decide) (hf_34.u (by decide) (hf_14.u (by decide) pf_co))) dX9_readLaw_113 (q_ist hx hb hK hP270 hDa za_r_readLaw hS270 7 6 rfl rfl (q_in (by omega) (by omega)) dX9_readLaw_116 (fun H286 lo286 g286 eg286 (hP286 : va_P (dC, dI) vwCl (zW_r_readLaw p0 o_271 p0_code c_p0_code b_p0_code p0_codeNumber c_p0_codeNumber b_p0_codeNumber p0_eSign c_p0_eSign b_p0_eSign p0_eWhat c_p0_eWhat b_p0_eWhat p0_lName c_p0_lName g21 p0_laws c_p0_laws b_p0_laws p0_rFrom c_p0_rFrom g286 p0_rTo c_p0_rTo g203 p0_text c_p0_text b_p0_text) H286) hS286 => ?_)))
        clear hP270 hS270
        have hr_g286 := q_up' hr_g42 eg286 ⟨by omega, by omega⟩
        have ejg286 : g286 = upd g42 ((2 * (3 * rb.toInt + (b_p0_laws rb.toNatClampNeg).toInt)).toNat + 1) co := by rw [eg286, q_ixn (n := (2 * (3 * rb.toInt + (b_p0_laws rb.toNatClampNeg).toInt)).toNat + 1) (by omega) (by omega)]
        have obg286 := (obg42 : q_offb (2 * (3 * rb.toInt + (b_p0_laws rb.toNatClampNeg).toInt)) b_p0_rFrom g42).up eg286 (by omega) (by omega)
        refine lv_aload_n hx hb dX9_readLaw_117 rfl (lv_at hl 1 rfl) ?_
        refine q_cVi (As := []) (rest := []) q_w0 trivial hK hP286 hDa za_r_readLaw hS286 hA [0] [] (by decide +kernel) ⟨hx, hb, hml, hown, hts⟩ (r_isGood l dC dI H286.size p0 o_271 o_275 ho_276 z_281) rfl rfl (cwV 0 hts (p1_gV m_16 m_17 m_18 m_6 g_r_isGood gz_r_isGood) rfl rfl rfl (by decide +kernel) ⟨by decide, by decide⟩) (va_recv hK hP286 (ci := 8) (q0 := 0) rfl rfl) zm_r_isGood rfl hl.1 rfl (Nat.le_of_ble_eq_true rfl) dX9_readLaw_118 ⟨by decide, by decide⟩ (fun r_287 H288 lo288 hG288 hS288 => ?_)
        obtain ⟨z_289, hQ288⟩ := hG288
        have hP288 : va_P (dC, dI) vwCl (zW_r_readLaw p0 o_271 p0_code c_p0_code b_p0_code p0_codeNumber c_p0_codeNumber b_p0_codeNumber p0_eSign c_p0_eSign b_p0_eSign p0_eWhat c_p0_eWhat b_p0_eWhat p0_lName c_p0_lName g21 p0_laws c_p0_laws b_p0_laws p0_rFrom c_p0_rFrom g286 p0_rTo c_p0_rTo g203 p0_text c_p0_text b_p0_text) H288 := hQ288
        clear hQ288 hP286 hS286
        rcases z_289 with ⟨rfl, z_289⟩ | ⟨rfl, z_289⟩
        · refine lv_if_eq (tgt := 128) hx hb dX9_readLaw_121 (by decide) (fun c_290 => absurd c_290 (by decide)) (fun c_290 => ?_)
          refine lv_aload_n hx hb dX9_readLaw_124 rfl (lv_at hl 1 rfl) ?_
          refine q_cVv (As := []) (rest := []) q_w0 trivial hK hP288 hDa za_r_readLaw hS288 hA [0, 1, 2, 3, 4, 9] [0, 1, 2, 3, 8] (by decide +kernel) ⟨hx, hb, hml, hown, hts⟩ (r_e l dC dI H288.size p0 o_271 p0_code c_p0_code b_p0_code p0_codeNumber c_p0_codeNumber b_p0_codeNumber p0_eSign c_p0_eSign b_p0_eSign p0_eWhat c_p0_eWhat b_p0_eWhat p0_text c_p0_text b_p0_text o_272 o_273 o_274 siz o_275 co un rb ho_276 ((hf_277.u (by decide) (hf_34.u (by decide) (hf_14.u (by decide) fr_p0_1)))) ((hf_277.u (by decide) (hf_34.u (by decide) (hf_14.u (by decide) fr_p0_38)))) ((hf_277.u (by decide) (hf_34.u (by decide) (hf_14.u (by decide) fr_p0_39)))) ((hf_277.u (by decide) (hf_34.u (by decide) (hf_14.u (by decide) fr_p0_40)))) ((hf_277.u (by decide) (hf_34.u (by decide) (hf_14.u (by decide) fr_p0_41)))) z_278 z_279 z_280 ((hf_277.u (by decide) (hf_34.u (by decide) (hf_14.u (by decide) pf_siz)))) z_281 ((hf_277.u (by decide) (hf_34.u (by decide) (hf_14.u (by decide) pf_co)))) ((hf_277.u (by decide) (hf_34.u (by decide) (hf_14.u (by decide) pf_un)))) ((hf_277.u (by decide) (hf_34.u (by decide) (hf_14.u (by decide) pf_rb)))) ((by omega)) ((by omega))) rfl rfl (cwV 0 hts (p1_gV m_19 m_20 m_21 m_6 g_r_e gz_r_e) rfl rfl rfl (by decide +kernel) ⟨by decide, by decide⟩) (va_recv hK hP288 (ci := 8) (q0 := 0) rfl rfl) zm_r_e rfl hl.1 rfl (Nat.le_of_ble_eq_true rfl) dX9_readLaw_125 ⟨by decide, by decide⟩ (fun H292 lo292 hG292 hS292 => ?_)
          obtain ⟨o_293, o_294, o_295, o_296, o_297, o_298, o_299, o_300, o_301, o_302, o_303, ho_304, hf_305, z_306, z_307, z_308, z_309, z_310, z_311, z_312, z_313, z_314, z_315, z_316, hQ292⟩ := hG292
          have to_298 := (OKX9_g6 ho_304).use z_306
          have to_299 := (OKX9_g7 ho_304).use z_307
          have to_300 := (OKX9_g8 ho_304).use z_308
          have to_301 := (OKX9_g4 ho_304).use z_309
          have hP292 : va_P (dC, dI) vwCl (zW_r_readLaw p0 o_293 p0_code c_p0_code o_294 p0_codeNumber c_p0_codeNumber o_295 p0_eSign c_p0_eSign o_296 p0_eWhat c_p0_eWhat o_297 p0_lName c_p0_lName g21 p0_laws c_p0_laws b_p0_laws p0_rFrom c_p0_rFrom g286 p0_rTo c_p0_rTo g203 p0_text c_p0_text b_p0_text) H292 := hQ292
          clear hQ292 hP288 hS288
          have oc316 := (q_offc.rf : q_offc co.toInt rb b_p0_code b_p0_code).tr z_315 (by omega)
          refine lv_aload_n hx hb dX9_readLaw_128 rfl (lv_at hl 1 rfl) (qg_X9_37 hx hb hts i_X9 hown hK hP292 0 rfl k_22 (hf_305.u (by decide) (hf_277.u (by decide) (hf_34.u (by decide) (hf_14.u (by decide) fr_p0_37)))) dX9_readLaw_129 (lv_iconst (v := 2) hx hb dX9_readLaw_132 (by decide) (lv_iload_n hx hb dX9_readLaw_133 rfl (lv_at hl 0 rfl) (lv_imul hx hb dX9_readLaw_134 (lv_topi fun v_317 ev_317 => ?_)))))
          have tv_317 := q_mulc (c := 2) ev_317 (by decide) (by omega) (by omega)
          refine lv_iconst (v := 1) hx hb dX9_readLaw_135 (by decide) (lv_iadd hx hb dX9_readLaw_136 (lv_topi fun v_318 ev_318 => ?_))
          have tv_318 := q_add ev_318 (by omega) (by omega)
          refine lv_aload_n hx hb dX9_readLaw_137 rfl (lv_at hl 1 rfl) (qg_X9_45 hx hb hts i_X9 hown hK hP292 0 rfl k_15 z_310 dX9_readLaw_138 (q_ist hx hb hK hP292 hDa za_r_readLaw hS292 8 7 rfl rfl (q_in (by omega) (by omega)) dX9_readLaw_141 (fun H319 lo319 g319 eg319 (hP319 : va_P (dC, dI) vwCl (zW_r_readLaw p0 o_293 p0_code c_p0_code o_294 p0_codeNumber c_p0_codeNumber o_295 p0_eSign c_p0_eSign o_296 p0_eWhat c_p0_eWhat o_297 p0_lName c_p0_lName g21 p0_laws c_p0_laws b_p0_laws p0_rFrom c_p0_rFrom g286 p0_rTo c_p0_rTo g319 p0_text c_p0_text b_p0_text) H319) hS319 => ?_)))
          clear hP292 hS292
          have hr_g319 := q_up' hr_g203 eg319 ⟨by omega, by omega⟩
          have ejg319 : g319 = upd g203 ((2 * (3 * rb.toInt + (b_p0_laws rb.toNatClampNeg).toInt)).toNat + 1) o_302 := by rw [eg319, q_ixn (n := (2 * (3 * rb.toInt + (b_p0_laws rb.toNatClampNeg).toInt)).toNat + 1) (by omega) (by omega)]
          have obg319 := (obg203 : q_offb (2 * (3 * rb.toInt + (b_p0_laws rb.toNatClampNeg).toInt)) b_p0_rTo g203).up eg319 (by omega) (by omega)
          refine lv_aload_n hx hb dX9_readLaw_142 rfl (lv_at hl 1 rfl) (qg_X9_14 hx hb hts i_X9 hown hK hP319 0 rfl k_1 (hf_305.u (by decide) (hf_277.u (by decide) (hf_34.u (by decide) (hf_14.u (by decide) fr_p0_14)))) dX9_readLaw_143 (lv_aload_n hx hb dX9_readLaw_146 rfl (lv_at hl 1 rfl) (qg_X9_44 hx hb hts i_X9 hown hK hP319 0 rfl k_0 (hf_305.u (by decide) (hf_277.u (by decide) (hf_34.u (by decide) (hf_14.u (by decide) pf_rb)))) dX9_readLaw_147 (lv_dup2_11 hx hb dX9_readLaw_150 rfl rfl (q_ild hx hb hK hP319 6 5 rfl rfl (q_in (by omega) (by omega)) dX9_readLaw_151 (fun v_320 ev_320 => ?_))))))
          have uv_320 : v_320.toInt = (b_p0_laws rb.toNatClampNeg).toInt := by rw [ev_320]
          have tv_320 := q_rd' hr_p0_laws (q_in (by omega) (by omega)) ev_320
          refine lv_iconst (v := 1) hx hb dX9_readLaw_152 (by decide) (lv_iadd hx hb dX9_readLaw_153 (lv_topi fun v_321 ev_321 => ?_))
          have tv_321 := q_add ev_321 (by omega) (by omega)
          refine q_ist hx hb hK hP319 hDa za_r_readLaw hS319 6 5 rfl rfl (q_in (by omega) (by omega)) dX9_readLaw_154 (fun H322 lo322 g322 eg322 (hP322 : va_P (dC, dI) vwCl (zW_r_readLaw p0 o_293 p0_code c_p0_code o_294 p0_codeNumber c_p0_codeNumber o_295 p0_eSign c_p0_eSign o_296 p0_eWhat c_p0_eWhat o_297 p0_lName c_p0_lName g21 p0_laws c_p0_laws g322 p0_rFrom c_p0_rFrom g286 p0_rTo c_p0_rTo g319 p0_text c_p0_text b_p0_text) H322) hS322 => ?_)
          clear hP319 hS319
          have hr_g322 := q_up' hr_p0_laws eg322 ⟨by omega, by omega⟩
          have usg322 : (g322 rb.toNatClampNeg).toInt = v_321.toInt := by rw [eg322, pk_us]
          have olg322 := (q_offd.rf : q_offd rb.toInt b_p0_laws b_p0_laws).up eg322 (by omega) rfl
          exact q_vret hx hb hr hlocks hS322 dX9_readLaw_155 ⟨o_293, o_294, o_295, o_296, o_297, g21, g322, g286, g319, o_298, o_299, o_300, o_301, o_302, o_303, ho_304, ((((q_fr.rf.tr hf_14 (by decide)).tr hf_34 (by decide)).tr hf_277 (by decide)).tr hf_305 (by decide)), hr_g322, hr_g286, hr_g319, z_306, z_307, z_308, z_309, z_310, z_311, (by omega), (by omega), (by omega), olg322, obg286, obg319, oc316, (Or.inl (by omega)), hP322, za_r_readLaw⟩
        · refine lv_if_eq (tgt := 128) hx hb dX9_readLaw_121 (by decide) (fun c_323 => ?_) (fun c_323 => absurd c_323 (by decide))
          refine lv_aload_n hx hb dX9_readLaw_128 rfl (lv_at hl 1 rfl) (qg_X9_37 hx hb hts i_X9 hown hK hP288 0 rfl k_22 (hf_277.u (by decide) (hf_34.u (by decide) (hf_14.u (by decide) fr_p0_37))) dX9_readLaw_129 (lv_iconst (v := 2) hx hb dX9_readLaw_132 (by decide) (lv_iload_n hx hb dX9_readLaw_133 rfl (lv_at hl 0 rfl) (lv_imul hx hb dX9_readLaw_134 (lv_topi fun v_324 ev_324 => ?_)))))
          have tv_324 := q_mulc (c := 2) ev_324 (by decide) (by omega) (by omega)
          refine lv_iconst (v := 1) hx hb dX9_readLaw_135 (by decide) (lv_iadd hx hb dX9_readLaw_136 (lv_topi fun v_325 ev_325 => ?_))
          have tv_325 := q_add ev_325 (by omega) (by omega)
          refine lv_aload_n hx hb dX9_readLaw_137 rfl (lv_at hl 1 rfl) (qg_X9_45 hx hb hts i_X9 hown hK hP288 0 rfl k_15 (hf_277.u (by decide) (hf_34.u (by decide) (hf_14.u (by decide) pf_co))) dX9_readLaw_138 (q_ist hx hb hK hP288 hDa za_r_readLaw hS288 8 7 rfl rfl (q_in (by omega) (by omega)) dX9_readLaw_141 (fun H326 lo326 g326 eg326 (hP326 : va_P (dC, dI) vwCl (zW_r_readLaw p0 o_271 p0_code c_p0_code b_p0_code p0_codeNumber c_p0_codeNumber b_p0_codeNumber p0_eSign c_p0_eSign b_p0_eSign p0_eWhat c_p0_eWhat b_p0_eWhat p0_lName c_p0_lName g21 p0_laws c_p0_laws b_p0_laws p0_rFrom c_p0_rFrom g286 p0_rTo c_p0_rTo g326 p0_text c_p0_text b_p0_text) H326) hS326 => ?_)))
          clear hP288 hS288
          have hr_g326 := q_up' hr_g203 eg326 ⟨by omega, by omega⟩
          have ejg326 : g326 = upd g203 ((2 * (3 * rb.toInt + (b_p0_laws rb.toNatClampNeg).toInt)).toNat + 1) co := by rw [eg326, q_ixn (n := (2 * (3 * rb.toInt + (b_p0_laws rb.toNatClampNeg).toInt)).toNat + 1) (by omega) (by omega)]
          have obg326 := (obg203 : q_offb (2 * (3 * rb.toInt + (b_p0_laws rb.toNatClampNeg).toInt)) b_p0_rTo g203).up eg326 (by omega) (by omega)
          refine lv_aload_n hx hb dX9_readLaw_142 rfl (lv_at hl 1 rfl) (qg_X9_14 hx hb hts i_X9 hown hK hP326 0 rfl k_1 (hf_277.u (by decide) (hf_34.u (by decide) (hf_14.u (by decide) fr_p0_14))) dX9_readLaw_143 (lv_aload_n hx hb dX9_readLaw_146 rfl (lv_at hl 1 rfl) (qg_X9_44 hx hb hts i_X9 hown hK hP326 0 rfl k_0 (hf_277.u (by decide) (hf_34.u (by decide) (hf_14.u (by decide) pf_rb))) dX9_readLaw_147 (lv_dup2_11 hx hb dX9_readLaw_150 rfl rfl (q_ild hx hb hK hP326 6 5 rfl rfl (q_in (by omega) (by omega)) dX9_readLaw_151 (fun v_327 ev_327 => ?_))))))
          have uv_327 : v_327.toInt = (b_p0_laws rb.toNatClampNeg).toInt := by rw [ev_327]
          have tv_327 := q_rd' hr_p0_laws (q_in (by omega) (by omega)) ev_327
          refine lv_iconst (v := 1) hx hb dX9_readLaw_152 (by decide) (lv_iadd hx hb dX9_readLaw_153 (lv_topi fun v_328 ev_328 => ?_))
          have tv_328 := q_add ev_328 (by omega) (by omega)
          refine q_ist hx hb hK hP326 hDa za_r_readLaw hS326 6 5 rfl rfl (q_in (by omega) (by omega)) dX9_readLaw_154 (fun H329 lo329 g329 eg329 (hP329 : va_P (dC, dI) vwCl (zW_r_readLaw p0 o_271 p0_code c_p0_code b_p0_code p0_codeNumber c_p0_codeNumber b_p0_codeNumber p0_eSign c_p0_eSign b_p0_eSign p0_eWhat c_p0_eWhat b_p0_eWhat p0_lName c_p0_lName g21 p0_laws c_p0_laws g329 p0_rFrom c_p0_rFrom g286 p0_rTo c_p0_rTo g326 p0_text c_p0_text b_p0_text) H329) hS329 => ?_)
          clear hP326 hS326
          have hr_g329 := q_up' hr_p0_laws eg329 ⟨by omega, by omega⟩
          have usg329 : (g329 rb.toNatClampNeg).toInt = v_328.toInt := by rw [eg329, pk_us]
          have olg329 := (q_offd.rf : q_offd rb.toInt b_p0_laws b_p0_laws).up eg329 (by omega) rfl
          exact q_vret hx hb hr hlocks hS329 dX9_readLaw_155 ⟨o_271, b_p0_code, b_p0_codeNumber, b_p0_eSign, b_p0_eWhat, g21, g329, g286, g326, o_272, o_273, o_274, o_275, co, un, ho_276, (((q_fr.rf.tr hf_14 (by decide)).tr hf_34 (by decide)).tr hf_277 (by decide)), hr_g329, hr_g286, hr_g326, z_278, z_279, z_280, z_281, (hf_277.u (by decide) (hf_34.u (by decide) (hf_14.u (by decide) pf_co))), (hf_277.u (by decide) (hf_34.u (by decide) (hf_14.u (by decide) pf_un))), (by omega), (by omega), (by omega), olg329, obg286, obg326, q_offc.rf, (Or.inl (by omega)), hP329, za_r_readLaw⟩
  · refine q_cVv (As := [.int 0]) (rest := []) q_w0 trivial hK hP24 hDa za_r_readLaw hS24 hA [0, 9] [8] (by decide +kernel) ⟨hx, hb, hml, hown, hts⟩ (r_must l dC dI H24.size p0 o_8 p0_text c_p0_text b_p0_text 0 o_9 o_10 o_11 siz o_12 ho_13 ((hf_14.u (by decide) fr_p0_1)) z_15 z_16 z_17 ((hf_14.u (by decide) pf_siz)) z_18 ((by omega))) rfl rfl (cwV 1 hts (p1_gV m_11 m_12 m_13 m_6 g_r_must gz_r_must) rfl rfl rfl (by decide +kernel) ⟨by decide, by decide⟩) (va_recv hK hP24 (ci := 8) (q0 := 0) rfl rfl) zm_r_must rfl hl.1 rfl (Nat.le_of_ble_eq_true rfl) dX9_readLaw_54 ⟨by decide, by decide⟩ (fun H331 lo331 hG331 hS331 => ?_)
    obtain ⟨o_332, o_333, o_334, o_335, o_336, ho_337, hf_338, z_339, z_340, z_341, z_342, z_343, z_344, hQ331⟩ := hG331
    have to_333 := (OKX9_g6 ho_337).use z_339
    have to_334 := (OKX9_g7 ho_337).use z_340
    have to_335 := (OKX9_g8 ho_337).use z_341
    have to_336 := (OKX9_g4 ho_337).use z_342
    have hP331 : va_P (dC, dI) vwCl (zW_r_readLaw p0 o_332 p0_code c_p0_code b_p0_code p0_codeNumber c_p0_codeNumber b_p0_codeNumber p0_eSign c_p0_eSign b_p0_eSign p0_eWhat c_p0_eWhat b_p0_eWhat p0_lName c_p0_lName g21 p0_laws c_p0_laws b_p0_laws p0_rFrom c_p0_rFrom b_p0_rFrom p0_rTo c_p0_rTo b_p0_rTo p0_text c_p0_text b_p0_text) H331 := hQ331
    clear hQ331 hP24 hS24
    refine lv_aload_n hx hb dX9_readLaw_57 rfl (lv_at hl 1 rfl) (qg_X9_36 hx hb hts i_X9 hown hK hP331 0 rfl k_14 (hf_338.u (by decide) (hf_14.u (by decide) fr_p0_36)) dX9_readLaw_58 (lv_iconst (v := 2) hx hb dX9_readLaw_61 (by decide) (lv_iload_n hx hb dX9_readLaw_62 rfl (lv_at hl 0 rfl) (lv_imul hx hb dX9_readLaw_63 (lv_topi fun v_345 ev_345 => ?_)))))
    have tv_345 := q_mulc (c := 2) ev_345 (by decide) (by omega) (by omega)
    refine lv_aload_n hx hb dX9_readLaw_64 rfl (lv_at hl 1 rfl) (qg_X9_45 hx hb hts i_X9 hown hK hP331 0 rfl k_15 (hf_338.u (by decide) (hf_14.u (by decide) pf_co)) dX9_readLaw_65 (q_ist hx hb hK hP331 hDa za_r_readLaw hS331 7 6 rfl rfl (q_in (by omega) (by omega)) dX9_readLaw_68 (fun H346 lo346 g346 eg346 (hP346 : va_P (dC, dI) vwCl (zW_r_readLaw p0 o_332 p0_code c_p0_code b_p0_code p0_codeNumber c_p0_codeNumber b_p0_codeNumber p0_eSign c_p0_eSign b_p0_eSign p0_eWhat c_p0_eWhat b_p0_eWhat p0_lName c_p0_lName g21 p0_laws c_p0_laws b_p0_laws p0_rFrom c_p0_rFrom g346 p0_rTo c_p0_rTo b_p0_rTo p0_text c_p0_text b_p0_text) H346) hS346 => ?_)))
    clear hP331 hS331
    have hr_g346 := q_up' hr_p0_rFrom eg346 ⟨by omega, by omega⟩
    have ejg346 : g346 = upd b_p0_rFrom ((2 * (3 * rb.toInt + (b_p0_laws rb.toNatClampNeg).toInt)).toNat) co := by rw [eg346, q_ixn (n := (2 * (3 * rb.toInt + (b_p0_laws rb.toNatClampNeg).toInt)).toNat) (by omega) (by omega)]
    have obg346 := (q_offb.rf : q_offb (2 * (3 * rb.toInt + (b_p0_laws rb.toNatClampNeg).toInt)) b_p0_rFrom b_p0_rFrom).up eg346 (by omega) (by omega)
    refine lv_aload_n hx hb dX9_readLaw_69 rfl (lv_at hl 1 rfl) ?_
    refine q_cVi (As := []) (rest := []) q_w0 trivial hK hP346 hDa za_r_readLaw hS346 hA [0] [] (by decide +kernel) ⟨hx, hb, hml, hown, hts⟩ (r_isGood l dC dI H346.size p0 o_332 o_336 ho_337 z_342) rfl rfl (cwV 0 hts (p1_gV m_16 m_17 m_18 m_6 g_r_isGood gz_r_isGood) rfl rfl rfl (by decide +kernel) ⟨by decide, by decide⟩) (va_recv hK hP346 (ci := 8) (q0 := 0) rfl rfl) zm_r_isGood rfl hl.1 rfl (Nat.le_of_ble_eq_true rfl) dX9_readLaw_70 ⟨by decide, by decide⟩ (fun r_347 H348 lo348 hG348 hS348 => ?_)
    obtain ⟨z_349, hQ348⟩ := hG348
    have hP348 : va_P (dC, dI) vwCl (zW_r_readLaw p0 o_332 p0_code c_p0_code b_p0_code p0_codeNumber c_p0_codeNumber b_p0_codeNumber p0_eSign c_p0_eSign b_p0_eSign p0_eWhat c_p0_eWhat b_p0_eWhat p0_lName c_p0_lName g21 p0_laws c_p0_laws b_p0_laws p0_rFrom c_p0_rFrom g346 p0_rTo c_p0_rTo b_p0_rTo p0_text c_p0_text b_p0_text) H348 := hQ348
    clear hQ348 hP346 hS346
    rcases z_349 with ⟨rfl, z_349⟩ | ⟨rfl, z_349⟩
    · refine lv_if_eq (tgt := 80) hx hb dX9_readLaw_73 (by decide) (fun c_350 => absurd c_350 (by decide)) (fun c_350 => ?_)
      refine lv_aload_n hx hb dX9_readLaw_76 rfl (lv_at hl 1 rfl) ?_
      refine q_cVv (As := []) (rest := []) q_w0 trivial hK hP348 hDa za_r_readLaw hS348 hA [0, 1, 2, 3, 4, 9] [0, 1, 2, 3, 8] (by decide +kernel) ⟨hx, hb, hml, hown, hts⟩ (r_e l dC dI H348.size p0 o_332 p0_code c_p0_code b_p0_code p0_codeNumber c_p0_codeNumber b_p0_codeNumber p0_eSign c_p0_eSign b_p0_eSign p0_eWhat c_p0_eWhat b_p0_eWhat p0_text c_p0_text b_p0_text o_333 o_334 o_335 siz o_336 co un rb ho_337 ((hf_338.u (by decide) (hf_14.u (by decide) fr_p0_1))) ((hf_338.u (by decide) (hf_14.u (by decide) fr_p0_38))) ((hf_338.u (by decide) (hf_14.u (by decide) fr_p0_39))) ((hf_338.u (by decide) (hf_14.u (by decide) fr_p0_40))) ((hf_338.u (by decide) (hf_14.u (by decide) fr_p0_41))) z_339 z_340 z_341 ((hf_338.u (by decide) (hf_14.u (by decide) pf_siz))) z_342 ((hf_338.u (by decide) (hf_14.u (by decide) pf_co))) ((hf_338.u (by decide) (hf_14.u (by decide) pf_un))) ((hf_338.u (by decide) (hf_14.u (by decide) pf_rb))) ((by omega)) ((by omega))) rfl rfl (cwV 0 hts (p1_gV m_19 m_20 m_21 m_6 g_r_e gz_r_e) rfl rfl rfl (by decide +kernel) ⟨by decide, by decide⟩) (va_recv hK hP348 (ci := 8) (q0 := 0) rfl rfl) zm_r_e rfl hl.1 rfl (Nat.le_of_ble_eq_true rfl) dX9_readLaw_77 ⟨by decide, by decide⟩ (fun H352 lo352 hG352 hS352 => ?_)
      obtain ⟨o_353, o_354, o_355, o_356, o_357, o_358, o_359, o_360, o_361, o_362, o_363, ho_364, hf_365, z_366, z_367, z_368, z_369, z_370, z_371, z_372, z_373, z_374, z_375, z_376, hQ352⟩ := hG352
      have to_358 := (OKX9_g6 ho_364).use z_366
      have to_359 := (OKX9_g7 ho_364).use z_367
      have to_360 := (OKX9_g8 ho_364).use z_368
      have to_361 := (OKX9_g4 ho_364).use z_369
      have hP352 : va_P (dC, dI) vwCl (zW_r_readLaw p0 o_353 p0_code c_p0_code o_354 p0_codeNumber c_p0_codeNumber o_355 p0_eSign c_p0_eSign o_356 p0_eWhat c_p0_eWhat o_357 p0_lName c_p0_lName g21 p0_laws c_p0_laws b_p0_laws p0_rFrom c_p0_rFrom g346 p0_rTo c_p0_rTo b_p0_rTo p0_text c_p0_text b_p0_text) H352 := hQ352
      clear hQ352 hP348 hS348
      have oc376 := (q_offc.rf : q_offc co.toInt rb b_p0_code b_p0_code).tr z_375 (by omega)
      refine lv_aload_n hx hb dX9_readLaw_80 rfl (lv_at hl 1 rfl) (qg_X9_37 hx hb hts i_X9 hown hK hP352 0 rfl k_22 (hf_365.u (by decide) (hf_338.u (by decide) (hf_14.u (by decide) fr_p0_37))) dX9_readLaw_81 (lv_iconst (v := 2) hx hb dX9_readLaw_84 (by decide) (lv_iload_n hx hb dX9_readLaw_85 rfl (lv_at hl 0 rfl) (lv_imul hx hb dX9_readLaw_86 (lv_topi fun v_377 ev_377 => ?_)))))
      have tv_377 := q_mulc (c := 2) ev_377 (by decide) (by omega) (by omega)
      refine lv_aload_n hx hb dX9_readLaw_87 rfl (lv_at hl 1 rfl) (qg_X9_45 hx hb hts i_X9 hown hK hP352 0 rfl k_15 z_370 dX9_readLaw_88 (q_ist hx hb hK hP352 hDa za_r_readLaw hS352 8 7 rfl rfl (q_in (by omega) (by omega)) dX9_readLaw_91 (fun H378 lo378 g378 eg378 (hP378 : va_P (dC, dI) vwCl (zW_r_readLaw p0 o_353 p0_code c_p0_code o_354 p0_codeNumber c_p0_codeNumber o_355 p0_eSign c_p0_eSign o_356 p0_eWhat c_p0_eWhat o_357 p0_lName c_p0_lName g21 p0_laws c_p0_laws b_p0_laws p0_rFrom c_p0_rFrom g346 p0_rTo c_p0_rTo g378 p0_text c_p0_text b_p0_text) H378) hS378 => ?_)))
      clear hP352 hS352
      have hr_g378 := q_up' hr_p0_rTo eg378 ⟨by omega, by omega⟩
      have ejg378 : g378 = upd b_p0_rTo ((2 * (3 * rb.toInt + (b_p0_laws rb.toNatClampNeg).toInt)).toNat) o_362 := by rw [eg378, q_ixn (n := (2 * (3 * rb.toInt + (b_p0_laws rb.toNatClampNeg).toInt)).toNat) (by omega) (by omega)]
      have obg378 := (q_offb.rf : q_offb (2 * (3 * rb.toInt + (b_p0_laws rb.toNatClampNeg).toInt)) b_p0_rTo b_p0_rTo).up eg378 (by omega) (by omega)
      refine lv_aload_n hx hb dX9_readLaw_92 rfl (lv_at hl 1 rfl) (lv_aload_n hx hb dX9_readLaw_93 rfl (lv_at hl 1 rfl) (lv_ldc2 (v := 1886743660) hx hb hown k_23 dX9_readLaw_94 ?_))
      obtain ⟨v_379, fv_379⟩ := OKX9_g10 ho_364
      refine q_cVi (As := [.long 1886743660]) (rest := [.ref p0]) q_w0 trivial hK hP378 hDa za_r_readLaw hS378 hA [0] [] (by decide +kernel) ⟨hx, hb, hml, hown, hts⟩ (r_isWord l dC dI H378.size p0 o_353 1886743660 o_360 v_379 ho_364 z_368 fv_379) rfl rfl (cwV 1 hts (p1_gV m_8 m_9 m_10 m_6 g_r_isWord gz_r_isWord) rfl rfl rfl (by decide +kernel) ⟨by decide, by decide⟩) (va_recv hK hP378 (ci := 8) (q0 := 0) rfl rfl) zm_r_isWord rfl hl.1 rfl (Nat.le_of_ble_eq_true rfl) dX9_readLaw_97 ⟨by decide, by decide⟩ (fun r_380 H381 lo381 hG381 hS381 => ?_)
      obtain ⟨z_382, hQ381⟩ := hG381
      have hP381 : va_P (dC, dI) vwCl (zW_r_readLaw p0 o_353 p0_code c_p0_code o_354 p0_codeNumber c_p0_codeNumber o_355 p0_eSign c_p0_eSign o_356 p0_eWhat c_p0_eWhat o_357 p0_lName c_p0_lName g21 p0_laws c_p0_laws b_p0_laws p0_rFrom c_p0_rFrom g346 p0_rTo c_p0_rTo g378 p0_text c_p0_text b_p0_text) H381 := hQ381
      clear hQ381 hP378 hS378
      rcases z_382 with ⟨rfl, z_382⟩ | ⟨rfl, z_382⟩
      · refine q_cVv (As := [.int 1]) (rest := []) q_w0 trivial hK hP381 hDa za_r_readLaw hS381 hA [0, 9] [8] (by decide +kernel) ⟨hx, hb, hml, hown, hts⟩ (r_must l dC dI H381.size p0 o_353 p0_text c_p0_text b_p0_text 1 o_358 o_359 o_360 siz o_361 ho_364 ((hf_365.u (by decide) (hf_338.u (by decide) (hf_14.u (by decide) fr_p0_1)))) z_366 z_367 z_368 ((hf_365.u (by decide) (hf_338.u (by decide) (hf_14.u (by decide) pf_siz)))) z_369 ((by omega))) rfl rfl (cwV 1 hts (p1_gV m_11 m_12 m_13 m_6 g_r_must gz_r_must) rfl rfl rfl (by decide +kernel) ⟨by decide, by decide⟩) (va_recv hK hP381 (ci := 8) (q0 := 0) rfl rfl) zm_r_must rfl hl.1 rfl (Nat.le_of_ble_eq_true rfl) dX9_readLaw_100 ⟨by decide, by decide⟩ (fun H384 lo384 hG384 hS384 => ?_)
        obtain ⟨o_385, o_386, o_387, o_388, o_389, ho_390, hf_391, z_392, z_393, z_394, z_395, z_396, z_397, hQ384⟩ := hG384
        have to_386 := (OKX9_g6 ho_390).use z_392
        have to_387 := (OKX9_g7 ho_390).use z_393
        have to_388 := (OKX9_g8 ho_390).use z_394
        have to_389 := (OKX9_g4 ho_390).use z_395
        have hP384 : va_P (dC, dI) vwCl (zW_r_readLaw p0 o_385 p0_code c_p0_code o_354 p0_codeNumber c_p0_codeNumber o_355 p0_eSign c_p0_eSign o_356 p0_eWhat c_p0_eWhat o_357 p0_lName c_p0_lName g21 p0_laws c_p0_laws b_p0_laws p0_rFrom c_p0_rFrom g346 p0_rTo c_p0_rTo g378 p0_text c_p0_text b_p0_text) H384 := hQ384
        clear hQ384 hP381 hS381
        refine lv_aload_n hx hb dX9_readLaw_103 rfl (lv_at hl 1 rfl) (qg_X9_36 hx hb hts i_X9 hown hK hP384 0 rfl k_14 (hf_391.u (by decide) (hf_365.u (by decide) (hf_338.u (by decide) (hf_14.u (by decide) fr_p0_36)))) dX9_readLaw_104 (lv_iconst (v := 2) hx hb dX9_readLaw_107 (by decide) (lv_iload_n hx hb dX9_readLaw_108 rfl (lv_at hl 0 rfl) (lv_imul hx hb dX9_readLaw_109 (lv_topi fun v_398 ev_398 => ?_)))))
        have tv_398 := q_mulc (c := 2) ev_398 (by decide) (by omega) (by omega)
        refine lv_iconst (v := 1) hx hb dX9_readLaw_110 (by decide) (lv_iadd hx hb dX9_readLaw_111 (lv_topi fun v_399 ev_399 => ?_))
        have tv_399 := q_add ev_399 (by omega) (by omega)
        refine lv_aload_n hx hb dX9_readLaw_112 rfl (lv_at hl 1 rfl) (qg_X9_45 hx hb hts i_X9 hown hK hP384 0 rfl k_15 (hf_391.u (by decide) z_370) dX9_readLaw_113 (q_ist hx hb hK hP384 hDa za_r_readLaw hS384 7 6 rfl rfl (q_in (by omega) (by omega)) dX9_readLaw_116 (fun H400 lo400 g400 eg400 (hP400 : va_P (dC, dI) vwCl (zW_r_readLaw p0 o_385 p0_code c_p0_code o_354 p0_codeNumber c_p0_codeNumber o_355 p0_eSign c_p0_eSign o_356 p0_eWhat c_p0_eWhat o_357 p0_lName c_p0_lName g21 p0_laws c_p0_laws b_p0_laws p0_rFrom c_p0_rFrom g400 p0_rTo c_p0_rTo g378 p0_text c_p0_text b_p0_text) H400) hS400 => ?_)))
        clear hP384 hS384
        have hr_g400 := q_up' hr_g346 eg400 ⟨by omega, by omega⟩
        have ejg400 : g400 = upd g346 ((2 * (3 * rb.toInt + (b_p0_laws rb.toNatClampNeg).toInt)).toNat + 1) o_362 := by rw [eg400, q_ixn (n := (2 * (3 * rb.toInt + (b_p0_laws rb.toNatClampNeg).toInt)).toNat + 1) (by omega) (by omega)]
        have obg400 := (obg346 : q_offb (2 * (3 * rb.toInt + (b_p0_laws rb.toNatClampNeg).toInt)) b_p0_rFrom g346).up eg400 (by omega) (by omega)
        refine lv_aload_n hx hb dX9_readLaw_117 rfl (lv_at hl 1 rfl) ?_
        refine q_cVi (As := []) (rest := []) q_w0 trivial hK hP400 hDa za_r_readLaw hS400 hA [0] [] (by decide +kernel) ⟨hx, hb, hml, hown, hts⟩ (r_isGood l dC dI H400.size p0 o_385 o_389 ho_390 z_395) rfl rfl (cwV 0 hts (p1_gV m_16 m_17 m_18 m_6 g_r_isGood gz_r_isGood) rfl rfl rfl (by decide +kernel) ⟨by decide, by decide⟩) (va_recv hK hP400 (ci := 8) (q0 := 0) rfl rfl) zm_r_isGood rfl hl.1 rfl (Nat.le_of_ble_eq_true rfl) dX9_readLaw_118 ⟨by decide, by decide⟩ (fun r_401 H402 lo402 hG402 hS402 => ?_)
        obtain ⟨z_403, hQ402⟩ := hG402
        have hP402 : va_P (dC, dI) vwCl (zW_r_readLaw p0 o_385 p0_code c_p0_code o_354 p0_codeNumber c_p0_codeNumber o_355 p0_eSign c_p0_eSign o_356 p0_eWhat c_p0_eWhat o_357 p0_lName c_p0_lName g21 p0_laws c_p0_laws b_p0_laws p0_rFrom c_p0_rFrom g400 p0_rTo c_p0_rTo g378 p0_text c_p0_text b_p0_text) H402 := hQ402
        clear hQ402 hP400 hS400
        rcases z_403 with ⟨rfl, z_403⟩ | ⟨rfl, z_403⟩
        · refine lv_if_eq (tgt := 128) hx hb dX9_readLaw_121 (by decide) (fun c_404 => absurd c_404 (by decide)) (fun c_404 => ?_)
          refine lv_aload_n hx hb dX9_readLaw_124 rfl (lv_at hl 1 rfl) ?_
          refine q_cVv (As := []) (rest := []) q_w0 trivial hK hP402 hDa za_r_readLaw hS402 hA [0, 1, 2, 3, 4, 9] [0, 1, 2, 3, 8] (by decide +kernel) ⟨hx, hb, hml, hown, hts⟩ (r_e l dC dI H402.size p0 o_385 p0_code c_p0_code o_354 p0_codeNumber c_p0_codeNumber o_355 p0_eSign c_p0_eSign o_356 p0_eWhat c_p0_eWhat o_357 p0_text c_p0_text b_p0_text o_386 o_387 o_388 siz o_389 o_362 o_363 rb ho_390 ((hf_391.u (by decide) (hf_365.u (by decide) (hf_338.u (by decide) (hf_14.u (by decide) fr_p0_1))))) ((hf_391.u (by decide) (hf_365.u (by decide) (hf_338.u (by decide) (hf_14.u (by decide) fr_p0_38))))) ((hf_391.u (by decide) (hf_365.u (by decide) (hf_338.u (by decide) (hf_14.u (by decide) fr_p0_39))))) ((hf_391.u (by decide) (hf_365.u (by decide) (hf_338.u (by decide) (hf_14.u (by decide) fr_p0_40))))) ((hf_391.u (by decide) (hf_365.u (by decide) (hf_338.u (by decide) (hf_14.u (by decide) fr_p0_41))))) z_392 z_393 z_394 ((hf_391.u (by decide) (hf_365.u (by decide) (hf_338.u (by decide) (hf_14.u (by decide) pf_siz))))) z_395 ((hf_391.u (by decide) z_370)) ((hf_391.u (by decide) z_371)) ((hf_391.u (by decide) (hf_365.u (by decide) (hf_338.u (by decide) (hf_14.u (by decide) pf_rb))))) ((by omega)) ((by omega))) rfl rfl (cwV 0 hts (p1_gV m_19 m_20 m_21 m_6 g_r_e gz_r_e) rfl rfl rfl (by decide +kernel) ⟨by decide, by decide⟩) (va_recv hK hP402 (ci := 8) (q0 := 0) rfl rfl) zm_r_e rfl hl.1 rfl (Nat.le_of_ble_eq_true rfl) dX9_readLaw_125 ⟨by decide, by decide⟩ (fun H406 lo406 hG406 hS406 => ?_)
          obtain ⟨o_407, o_408, o_409, o_410, o_411, o_412, o_413, o_414, o_415, o_416, o_417, ho_418, hf_419, z_420, z_421, z_422, z_423, z_424, z_425, z_426, z_427, z_428, z_429, z_430, hQ406⟩ := hG406
          have to_412 := (OKX9_g6 ho_418).use z_420
          have to_413 := (OKX9_g7 ho_418).use z_421
          have to_414 := (OKX9_g8 ho_418).use z_422
          have to_415 := (OKX9_g4 ho_418).use z_423
          have hP406 : va_P (dC, dI) vwCl (zW_r_readLaw p0 o_407 p0_code c_p0_code o_408 p0_codeNumber c_p0_codeNumber o_409 p0_eSign c_p0_eSign o_410 p0_eWhat c_p0_eWhat o_411 p0_lName c_p0_lName g21 p0_laws c_p0_laws b_p0_laws p0_rFrom c_p0_rFrom g400 p0_rTo c_p0_rTo g378 p0_text c_p0_text b_p0_text) H406 := hQ406
          clear hQ406 hP402 hS402
          have oc430 := (oc376 : q_offc co.toInt rb b_p0_code o_354).tr z_429 (by omega)
          refine lv_aload_n hx hb dX9_readLaw_128 rfl (lv_at hl 1 rfl) (qg_X9_37 hx hb hts i_X9 hown hK hP406 0 rfl k_22 (hf_419.u (by decide) (hf_391.u (by decide) (hf_365.u (by decide) (hf_338.u (by decide) (hf_14.u (by decide) fr_p0_37))))) dX9_readLaw_129 (lv_iconst (v := 2) hx hb dX9_readLaw_132 (by decide) (lv_iload_n hx hb dX9_readLaw_133 rfl (lv_at hl 0 rfl) (lv_imul hx hb dX9_readLaw_134 (lv_topi fun v_431 ev_431 => ?_)))))
          have tv_431 := q_mulc (c := 2) ev_431 (by decide) (by omega) (by omega)
          refine lv_iconst (v := 1) hx hb dX9_readLaw_135 (by decide) (lv_iadd hx hb dX9_readLaw_136 (lv_topi fun v_432 ev_432 => ?_))
          have tv_432 := q_add ev_432 (by omega) (by omega)
          refine lv_aload_n hx hb dX9_readLaw_137 rfl (lv_at hl 1 rfl) (qg_X9_45 hx hb hts i_X9 hown hK hP406 0 rfl k_15 z_424 dX9_readLaw_138 (q_ist hx hb hK hP406 hDa za_r_readLaw hS406 8 7 rfl rfl (q_in (by omega) (by omega)) dX9_readLaw_141 (fun H433 lo433 g433 eg433 (hP433 : va_P (dC, dI) vwCl (zW_r_readLaw p0 o_407 p0_code c_p0_code o_408 p0_codeNumber c_p0_codeNumber o_409 p0_eSign c_p0_eSign o_410 p0_eWhat c_p0_eWhat o_411 p0_lName c_p0_lName g21 p0_laws c_p0_laws b_p0_laws p0_rFrom c_p0_rFrom g400 p0_rTo c_p0_rTo g433 p0_text c_p0_text b_p0_text) H433) hS433 => ?_)))
          clear hP406 hS406
          have hr_g433 := q_up' hr_g378 eg433 ⟨by omega, by omega⟩
          have ejg433 : g433 = upd g378 ((2 * (3 * rb.toInt + (b_p0_laws rb.toNatClampNeg).toInt)).toNat + 1) o_416 := by rw [eg433, q_ixn (n := (2 * (3 * rb.toInt + (b_p0_laws rb.toNatClampNeg).toInt)).toNat + 1) (by omega) (by omega)]
          have obg433 := (obg378 : q_offb (2 * (3 * rb.toInt + (b_p0_laws rb.toNatClampNeg).toInt)) b_p0_rTo g378).up eg433 (by omega) (by omega)
          refine lv_aload_n hx hb dX9_readLaw_142 rfl (lv_at hl 1 rfl) (qg_X9_14 hx hb hts i_X9 hown hK hP433 0 rfl k_1 (hf_419.u (by decide) (hf_391.u (by decide) (hf_365.u (by decide) (hf_338.u (by decide) (hf_14.u (by decide) fr_p0_14))))) dX9_readLaw_143 (lv_aload_n hx hb dX9_readLaw_146 rfl (lv_at hl 1 rfl) (qg_X9_44 hx hb hts i_X9 hown hK hP433 0 rfl k_0 (hf_419.u (by decide) (hf_391.u (by decide) (hf_365.u (by decide) (hf_338.u (by decide) (hf_14.u (by decide) pf_rb))))) dX9_readLaw_147 (lv_dup2_11 hx hb dX9_readLaw_150 rfl rfl (q_ild hx hb hK hP433 6 5 rfl rfl (q_in (by omega) (by omega)) dX9_readLaw_151 (fun v_434 ev_434 => ?_))))))
          have uv_434 : v_434.toInt = (b_p0_laws rb.toNatClampNeg).toInt := by rw [ev_434]
          have tv_434 := q_rd' hr_p0_laws (q_in (by omega) (by omega)) ev_434
          refine lv_iconst (v := 1) hx hb dX9_readLaw_152 (by decide) (lv_iadd hx hb dX9_readLaw_153 (lv_topi fun v_435 ev_435 => ?_))
          have tv_435 := q_add ev_435 (by omega) (by omega)
          refine q_ist hx hb hK hP433 hDa za_r_readLaw hS433 6 5 rfl rfl (q_in (by omega) (by omega)) dX9_readLaw_154 (fun H436 lo436 g436 eg436 (hP436 : va_P (dC, dI) vwCl (zW_r_readLaw p0 o_407 p0_code c_p0_code o_408 p0_codeNumber c_p0_codeNumber o_409 p0_eSign c_p0_eSign o_410 p0_eWhat c_p0_eWhat o_411 p0_lName c_p0_lName g21 p0_laws c_p0_laws g436 p0_rFrom c_p0_rFrom g400 p0_rTo c_p0_rTo g433 p0_text c_p0_text b_p0_text) H436) hS436 => ?_)
          clear hP433 hS433
          have hr_g436 := q_up' hr_p0_laws eg436 ⟨by omega, by omega⟩
          have usg436 : (g436 rb.toNatClampNeg).toInt = v_435.toInt := by rw [eg436, pk_us]
          have olg436 := (q_offd.rf : q_offd rb.toInt b_p0_laws b_p0_laws).up eg436 (by omega) rfl
          exact q_vret hx hb hr hlocks hS436 dX9_readLaw_155 ⟨o_407, o_408, o_409, o_410, o_411, g21, g436, g400, g433, o_412, o_413, o_414, o_415, o_416, o_417, ho_418, (((((q_fr.rf.tr hf_14 (by decide)).tr hf_338 (by decide)).tr hf_365 (by decide)).tr hf_391 (by decide)).tr hf_419 (by decide)), hr_g436, hr_g400, hr_g433, z_420, z_421, z_422, z_423, z_424, z_425, (by omega), (by omega), (by omega), olg436, obg400, obg433, oc430, (by rcases z_376 with h1 | h1; exact Or.inl (by omega); rcases z_430 with h2 | h2; exact Or.inl (by omega); exact Or.inr ⟨by omega, by omega, by omega, fun j hj => q_law2 ejg346 ejg400 ejg378 ejg433 h1.2.1 h2.2.1 z_429 (by omega) (by omega) (by omega) (by omega) (by omega) j (by omega)⟩), hP436, za_r_readLaw⟩
        · refine lv_if_eq (tgt := 128) hx hb dX9_readLaw_121 (by decide) (fun c_437 => ?_) (fun c_437 => absurd c_437 (by decide))
          refine lv_aload_n hx hb dX9_readLaw_128 rfl (lv_at hl 1 rfl) (qg_X9_37 hx hb hts i_X9 hown hK hP402 0 rfl k_22 (hf_391.u (by decide) (hf_365.u (by decide) (hf_338.u (by decide) (hf_14.u (by decide) fr_p0_37)))) dX9_readLaw_129 (lv_iconst (v := 2) hx hb dX9_readLaw_132 (by decide) (lv_iload_n hx hb dX9_readLaw_133 rfl (lv_at hl 0 rfl) (lv_imul hx hb dX9_readLaw_134 (lv_topi fun v_438 ev_438 => ?_)))))
          have tv_438 := q_mulc (c := 2) ev_438 (by decide) (by omega) (by omega)
          refine lv_iconst (v := 1) hx hb dX9_readLaw_135 (by decide) (lv_iadd hx hb dX9_readLaw_136 (lv_topi fun v_439 ev_439 => ?_))
          have tv_439 := q_add ev_439 (by omega) (by omega)
          refine lv_aload_n hx hb dX9_readLaw_137 rfl (lv_at hl 1 rfl) (qg_X9_45 hx hb hts i_X9 hown hK hP402 0 rfl k_15 (hf_391.u (by decide) z_370) dX9_readLaw_138 (q_ist hx hb hK hP402 hDa za_r_readLaw hS402 8 7 rfl rfl (q_in (by omega) (by omega)) dX9_readLaw_141 (fun H440 lo440 g440 eg440 (hP440 : va_P (dC, dI) vwCl (zW_r_readLaw p0 o_385 p0_code c_p0_code o_354 p0_codeNumber c_p0_codeNumber o_355 p0_eSign c_p0_eSign o_356 p0_eWhat c_p0_eWhat o_357 p0_lName c_p0_lName g21 p0_laws c_p0_laws b_p0_laws p0_rFrom c_p0_rFrom g400 p0_rTo c_p0_rTo g440 p0_text c_p0_text b_p0_text) H440) hS440 => ?_)))
          clear hP402 hS402
          have hr_g440 := q_up' hr_g378 eg440 ⟨by omega, by omega⟩
          have ejg440 : g440 = upd g378 ((2 * (3 * rb.toInt + (b_p0_laws rb.toNatClampNeg).toInt)).toNat + 1) o_362 := by rw [eg440, q_ixn (n := (2 * (3 * rb.toInt + (b_p0_laws rb.toNatClampNeg).toInt)).toNat + 1) (by omega) (by omega)]
          have obg440 := (obg378 : q_offb (2 * (3 * rb.toInt + (b_p0_laws rb.toNatClampNeg).toInt)) b_p0_rTo g378).up eg440 (by omega) (by omega)
          refine lv_aload_n hx hb dX9_readLaw_142 rfl (lv_at hl 1 rfl) (qg_X9_14 hx hb hts i_X9 hown hK hP440 0 rfl k_1 (hf_391.u (by decide) (hf_365.u (by decide) (hf_338.u (by decide) (hf_14.u (by decide) fr_p0_14)))) dX9_readLaw_143 (lv_aload_n hx hb dX9_readLaw_146 rfl (lv_at hl 1 rfl) (qg_X9_44 hx hb hts i_X9 hown hK hP440 0 rfl k_0 (hf_391.u (by decide) (hf_365.u (by decide) (hf_338.u (by decide) (hf_14.u (by decide) pf_rb)))) dX9_readLaw_147 (lv_dup2_11 hx hb dX9_readLaw_150 rfl rfl (q_ild hx hb hK hP440 6 5 rfl rfl (q_in (by omega) (by omega)) dX9_readLaw_151 (fun v_441 ev_441 => ?_))))))
          have uv_441 : v_441.toInt = (b_p0_laws rb.toNatClampNeg).toInt := by rw [ev_441]
          have tv_441 := q_rd' hr_p0_laws (q_in (by omega) (by omega)) ev_441
          refine lv_iconst (v := 1) hx hb dX9_readLaw_152 (by decide) (lv_iadd hx hb dX9_readLaw_153 (lv_topi fun v_442 ev_442 => ?_))
          have tv_442 := q_add ev_442 (by omega) (by omega)
          refine q_ist hx hb hK hP440 hDa za_r_readLaw hS440 6 5 rfl rfl (q_in (by omega) (by omega)) dX9_readLaw_154 (fun H443 lo443 g443 eg443 (hP443 : va_P (dC, dI) vwCl (zW_r_readLaw p0 o_385 p0_code c_p0_code o_354 p0_codeNumber c_p0_codeNumber o_355 p0_eSign c_p0_eSign o_356 p0_eWhat c_p0_eWhat o_357 p0_lName c_p0_lName g21 p0_laws c_p0_laws g443 p0_rFrom c_p0_rFrom g400 p0_rTo c_p0_rTo g440 p0_text c_p0_text b_p0_text) H443) hS443 => ?_)
          clear hP440 hS440
          have hr_g443 := q_up' hr_p0_laws eg443 ⟨by omega, by omega⟩
          have usg443 : (g443 rb.toNatClampNeg).toInt = v_442.toInt := by rw [eg443, pk_us]
          have olg443 := (q_offd.rf : q_offd rb.toInt b_p0_laws b_p0_laws).up eg443 (by omega) rfl
          exact q_vret hx hb hr hlocks hS443 dX9_readLaw_155 ⟨o_385, o_354, o_355, o_356, o_357, g21, g443, g400, g440, o_386, o_387, o_388, o_389, o_362, o_363, ho_390, ((((q_fr.rf.tr hf_14 (by decide)).tr hf_338 (by decide)).tr hf_365 (by decide)).tr hf_391 (by decide)), hr_g443, hr_g400, hr_g440, z_392, z_393, z_394, z_395, (hf_391.u (by decide) z_370), (hf_391.u (by decide) z_371), (by omega), (by omega), (by omega), olg443, obg400, obg440, oc376, (Or.inl (by omega)), hP443, za_r_readLaw⟩
      · refine q_cVv (As := [.int 0]) (rest := []) q_w0 trivial hK hP381 hDa za_r_readLaw hS381 hA [0, 9] [8] (by decide +kernel) ⟨hx, hb, hml, hown, hts⟩ (r_must l dC dI H381.size p0 o_353 p0_text c_p0_text b_p0_text 0 o_358 o_359 o_360 siz o_361 ho_364 ((hf_365.u (by decide) (hf_338.u (by decide) (hf_14.u (by decide) fr_p0_1)))) z_366 z_367 z_368 ((hf_365.u (by decide) (hf_338.u (by decide) (hf_14.u (by decide) pf_siz)))) z_369 ((by omega))) rfl rfl (cwV 1 hts (p1_gV m_11 m_12 m_13 m_6 g_r_must gz_r_must) rfl rfl rfl (by decide +kernel) ⟨by decide, by decide⟩) (va_recv hK hP381 (ci := 8) (q0 := 0) rfl rfl) zm_r_must rfl hl.1 rfl (Nat.le_of_ble_eq_true rfl) dX9_readLaw_100 ⟨by decide, by decide⟩ (fun H445 lo445 hG445 hS445 => ?_)
        obtain ⟨o_446, o_447, o_448, o_449, o_450, ho_451, hf_452, z_453, z_454, z_455, z_456, z_457, z_458, hQ445⟩ := hG445
        have to_447 := (OKX9_g6 ho_451).use z_453
        have to_448 := (OKX9_g7 ho_451).use z_454
        have to_449 := (OKX9_g8 ho_451).use z_455
        have to_450 := (OKX9_g4 ho_451).use z_456
        have hP445 : va_P (dC, dI) vwCl (zW_r_readLaw p0 o_446 p0_code c_p0_code o_354 p0_codeNumber c_p0_codeNumber o_355 p0_eSign c_p0_eSign o_356 p0_eWhat c_p0_eWhat o_357 p0_lName c_p0_lName g21 p0_laws c_p0_laws b_p0_laws p0_rFrom c_p0_rFrom g346 p0_rTo c_p0_rTo g378 p0_text c_p0_text b_p0_text) H445 := hQ445
        clear hQ445 hP381 hS381
        refine lv_aload_n hx hb dX9_readLaw_103 rfl (lv_at hl 1 rfl) (qg_X9_36 hx hb hts i_X9 hown hK hP445 0 rfl k_14 (hf_452.u (by decide) (hf_365.u (by decide) (hf_338.u (by decide) (hf_14.u (by decide) fr_p0_36)))) dX9_readLaw_104 (lv_iconst (v := 2) hx hb dX9_readLaw_107 (by decide) (lv_iload_n hx hb dX9_readLaw_108 rfl (lv_at hl 0 rfl) (lv_imul hx hb dX9_readLaw_109 (lv_topi fun v_459 ev_459 => ?_)))))
        have tv_459 := q_mulc (c := 2) ev_459 (by decide) (by omega) (by omega)
        refine lv_iconst (v := 1) hx hb dX9_readLaw_110 (by decide) (lv_iadd hx hb dX9_readLaw_111 (lv_topi fun v_460 ev_460 => ?_))
        have tv_460 := q_add ev_460 (by omega) (by omega)
        refine lv_aload_n hx hb dX9_readLaw_112 rfl (lv_at hl 1 rfl) (qg_X9_45 hx hb hts i_X9 hown hK hP445 0 rfl k_15 (hf_452.u (by decide) z_370) dX9_readLaw_113 (q_ist hx hb hK hP445 hDa za_r_readLaw hS445 7 6 rfl rfl (q_in (by omega) (by omega)) dX9_readLaw_116 (fun H461 lo461 g461 eg461 (hP461 : va_P (dC, dI) vwCl (zW_r_readLaw p0 o_446 p0_code c_p0_code o_354 p0_codeNumber c_p0_codeNumber o_355 p0_eSign c_p0_eSign o_356 p0_eWhat c_p0_eWhat o_357 p0_lName c_p0_lName g21 p0_laws c_p0_laws b_p0_laws p0_rFrom c_p0_rFrom g461 p0_rTo c_p0_rTo g378 p0_text c_p0_text b_p0_text) H461) hS461 => ?_)))
        clear hP445 hS445
        have hr_g461 := q_up' hr_g346 eg461 ⟨by omega, by omega⟩
        have ejg461 : g461 = upd g346 ((2 * (3 * rb.toInt + (b_p0_laws rb.toNatClampNeg).toInt)).toNat + 1) o_362 := by rw [eg461, q_ixn (n := (2 * (3 * rb.toInt + (b_p0_laws rb.toNatClampNeg).toInt)).toNat + 1) (by omega) (by omega)]
        have obg461 := (obg346 : q_offb (2 * (3 * rb.toInt + (b_p0_laws rb.toNatClampNeg).toInt)) b_p0_rFrom g346).up eg461 (by omega) (by omega)
        refine lv_aload_n hx hb dX9_readLaw_117 rfl (lv_at hl 1 rfl) ?_
        refine q_cVi (As := []) (rest := []) q_w0 trivial hK hP461 hDa za_r_readLaw hS461 hA [0] [] (by decide +kernel) ⟨hx, hb, hml, hown, hts⟩ (r_isGood l dC dI H461.size p0 o_446 o_450 ho_451 z_456) rfl rfl (cwV 0 hts (p1_gV m_16 m_17 m_18 m_6 g_r_isGood gz_r_isGood) rfl rfl rfl (by decide +kernel) ⟨by decide, by decide⟩) (va_recv hK hP461 (ci := 8) (q0 := 0) rfl rfl) zm_r_isGood rfl hl.1 rfl (Nat.le_of_ble_eq_true rfl) dX9_readLaw_118 ⟨by decide, by decide⟩ (fun r_462 H463 lo463 hG463 hS463 => ?_)
        obtain ⟨z_464, hQ463⟩ := hG463
        have hP463 : va_P (dC, dI) vwCl (zW_r_readLaw p0 o_446 p0_code c_p0_code o_354 p0_codeNumber c_p0_codeNumber o_355 p0_eSign c_p0_eSign o_356 p0_eWhat c_p0_eWhat o_357 p0_lName c_p0_lName g21 p0_laws c_p0_laws b_p0_laws p0_rFrom c_p0_rFrom g461 p0_rTo c_p0_rTo g378 p0_text c_p0_text b_p0_text) H463 := hQ463
        clear hQ463 hP461 hS461
        rcases z_464 with ⟨rfl, z_464⟩ | ⟨rfl, z_464⟩
        · refine lv_if_eq (tgt := 128) hx hb dX9_readLaw_121 (by decide) (fun c_465 => absurd c_465 (by decide)) (fun c_465 => ?_)
          refine lv_aload_n hx hb dX9_readLaw_124 rfl (lv_at hl 1 rfl) ?_
          refine q_cVv (As := []) (rest := []) q_w0 trivial hK hP463 hDa za_r_readLaw hS463 hA [0, 1, 2, 3, 4, 9] [0, 1, 2, 3, 8] (by decide +kernel) ⟨hx, hb, hml, hown, hts⟩ (r_e l dC dI H463.size p0 o_446 p0_code c_p0_code o_354 p0_codeNumber c_p0_codeNumber o_355 p0_eSign c_p0_eSign o_356 p0_eWhat c_p0_eWhat o_357 p0_text c_p0_text b_p0_text o_447 o_448 o_449 siz o_450 o_362 o_363 rb ho_451 ((hf_452.u (by decide) (hf_365.u (by decide) (hf_338.u (by decide) (hf_14.u (by decide) fr_p0_1))))) ((hf_452.u (by decide) (hf_365.u (by decide) (hf_338.u (by decide) (hf_14.u (by decide) fr_p0_38))))) ((hf_452.u (by decide) (hf_365.u (by decide) (hf_338.u (by decide) (hf_14.u (by decide) fr_p0_39))))) ((hf_452.u (by decide) (hf_365.u (by decide) (hf_338.u (by decide) (hf_14.u (by decide) fr_p0_40))))) ((hf_452.u (by decide) (hf_365.u (by decide) (hf_338.u (by decide) (hf_14.u (by decide) fr_p0_41))))) z_453 z_454 z_455 ((hf_452.u (by decide) (hf_365.u (by decide) (hf_338.u (by decide) (hf_14.u (by decide) pf_siz))))) z_456 ((hf_452.u (by decide) z_370)) ((hf_452.u (by decide) z_371)) ((hf_452.u (by decide) (hf_365.u (by decide) (hf_338.u (by decide) (hf_14.u (by decide) pf_rb))))) ((by omega)) ((by omega))) rfl rfl (cwV 0 hts (p1_gV m_19 m_20 m_21 m_6 g_r_e gz_r_e) rfl rfl rfl (by decide +kernel) ⟨by decide, by decide⟩) (va_recv hK hP463 (ci := 8) (q0 := 0) rfl rfl) zm_r_e rfl hl.1 rfl (Nat.le_of_ble_eq_true rfl) dX9_readLaw_125 ⟨by decide, by decide⟩ (fun H467 lo467 hG467 hS467 => ?_)
          obtain ⟨o_468, o_469, o_470, o_471, o_472, o_473, o_474, o_475, o_476, o_477, o_478, ho_479, hf_480, z_481, z_482, z_483, z_484, z_485, z_486, z_487, z_488, z_489, z_490, z_491, hQ467⟩ := hG467
          have to_473 := (OKX9_g6 ho_479).use z_481
          have to_474 := (OKX9_g7 ho_479).use z_482
          have to_475 := (OKX9_g8 ho_479).use z_483
          have to_476 := (OKX9_g4 ho_479).use z_484
          have hP467 : va_P (dC, dI) vwCl (zW_r_readLaw p0 o_468 p0_code c_p0_code o_469 p0_codeNumber c_p0_codeNumber o_470 p0_eSign c_p0_eSign o_471 p0_eWhat c_p0_eWhat o_472 p0_lName c_p0_lName g21 p0_laws c_p0_laws b_p0_laws p0_rFrom c_p0_rFrom g461 p0_rTo c_p0_rTo g378 p0_text c_p0_text b_p0_text) H467 := hQ467
          clear hQ467 hP463 hS463
          have oc491 := (oc376 : q_offc co.toInt rb b_p0_code o_354).tr z_490 (by omega)
          refine lv_aload_n hx hb dX9_readLaw_128 rfl (lv_at hl 1 rfl) (qg_X9_37 hx hb hts i_X9 hown hK hP467 0 rfl k_22 (hf_480.u (by decide) (hf_452.u (by decide) (hf_365.u (by decide) (hf_338.u (by decide) (hf_14.u (by decide) fr_p0_37))))) dX9_readLaw_129 (lv_iconst (v := 2) hx hb dX9_readLaw_132 (by decide) (lv_iload_n hx hb dX9_readLaw_133 rfl (lv_at hl 0 rfl) (lv_imul hx hb dX9_readLaw_134 (lv_topi fun v_492 ev_492 => ?_)))))
          have tv_492 := q_mulc (c := 2) ev_492 (by decide) (by omega) (by omega)
          refine lv_iconst (v := 1) hx hb dX9_readLaw_135 (by decide) (lv_iadd hx hb dX9_readLaw_136 (lv_topi fun v_493 ev_493 => ?_))
          have tv_493 := q_add ev_493 (by omega) (by omega)
          refine lv_aload_n hx hb dX9_readLaw_137 rfl (lv_at hl 1 rfl) (qg_X9_45 hx hb hts i_X9 hown hK hP467 0 rfl k_15 z_485 dX9_readLaw_138 (q_ist hx hb hK hP467 hDa za_r_readLaw hS467 8 7 rfl rfl (q_in (by omega) (by omega)) dX9_readLaw_141 (fun H494 lo494 g494 eg494 (hP494 : va_P (dC, dI) vwCl (zW_r_readLaw p0 o_468 p0_code c_p0_code o_469 p0_codeNumber c_p0_codeNumber o_470 p0_eSign c_p0_eSign o_471 p0_eWhat c_p0_eWhat o_472 p0_lName c_p0_lName g21 p0_laws c_p0_laws b_p0_laws p0_rFrom c_p0_rFrom g461 p0_rTo c_p0_rTo g494 p0_text c_p0_text b_p0_text) H494) hS494 => ?_)))
          clear hP467 hS467
          have hr_g494 := q_up' hr_g378 eg494 ⟨by omega, by omega⟩
          have ejg494 : g494 = upd g378 ((2 * (3 * rb.toInt + (b_p0_laws rb.toNatClampNeg).toInt)).toNat + 1) o_477 := by rw [eg494, q_ixn (n := (2 * (3 * rb.toInt + (b_p0_laws rb.toNatClampNeg).toInt)).toNat + 1) (by omega) (by omega)]
          have obg494 := (obg378 : q_offb (2 * (3 * rb.toInt + (b_p0_laws rb.toNatClampNeg).toInt)) b_p0_rTo g378).up eg494 (by omega) (by omega)
          refine lv_aload_n hx hb dX9_readLaw_142 rfl (lv_at hl 1 rfl) (qg_X9_14 hx hb hts i_X9 hown hK hP494 0 rfl k_1 (hf_480.u (by decide) (hf_452.u (by decide) (hf_365.u (by decide) (hf_338.u (by decide) (hf_14.u (by decide) fr_p0_14))))) dX9_readLaw_143 (lv_aload_n hx hb dX9_readLaw_146 rfl (lv_at hl 1 rfl) (qg_X9_44 hx hb hts i_X9 hown hK hP494 0 rfl k_0 (hf_480.u (by decide) (hf_452.u (by decide) (hf_365.u (by decide) (hf_338.u (by decide) (hf_14.u (by decide) pf_rb))))) dX9_readLaw_147 (lv_dup2_11 hx hb dX9_readLaw_150 rfl rfl (q_ild hx hb hK hP494 6 5 rfl rfl (q_in (by omega) (by omega)) dX9_readLaw_151 (fun v_495 ev_495 => ?_))))))
          have uv_495 : v_495.toInt = (b_p0_laws rb.toNatClampNeg).toInt := by rw [ev_495]
          have tv_495 := q_rd' hr_p0_laws (q_in (by omega) (by omega)) ev_495
          refine lv_iconst (v := 1) hx hb dX9_readLaw_152 (by decide) (lv_iadd hx hb dX9_readLaw_153 (lv_topi fun v_496 ev_496 => ?_))
          have tv_496 := q_add ev_496 (by omega) (by omega)
          refine q_ist hx hb hK hP494 hDa za_r_readLaw hS494 6 5 rfl rfl (q_in (by omega) (by omega)) dX9_readLaw_154 (fun H497 lo497 g497 eg497 (hP497 : va_P (dC, dI) vwCl (zW_r_readLaw p0 o_468 p0_code c_p0_code o_469 p0_codeNumber c_p0_codeNumber o_470 p0_eSign c_p0_eSign o_471 p0_eWhat c_p0_eWhat o_472 p0_lName c_p0_lName g21 p0_laws c_p0_laws g497 p0_rFrom c_p0_rFrom g461 p0_rTo c_p0_rTo g494 p0_text c_p0_text b_p0_text) H497) hS497 => ?_)
          clear hP494 hS494
          have hr_g497 := q_up' hr_p0_laws eg497 ⟨by omega, by omega⟩
          have usg497 : (g497 rb.toNatClampNeg).toInt = v_496.toInt := by rw [eg497, pk_us]
          have olg497 := (q_offd.rf : q_offd rb.toInt b_p0_laws b_p0_laws).up eg497 (by omega) rfl
          exact q_vret hx hb hr hlocks hS497 dX9_readLaw_155 ⟨o_468, o_469, o_470, o_471, o_472, g21, g497, g461, g494, o_473, o_474, o_475, o_476, o_477, o_478, ho_479, (((((q_fr.rf.tr hf_14 (by decide)).tr hf_338 (by decide)).tr hf_365 (by decide)).tr hf_452 (by decide)).tr hf_480 (by decide)), hr_g497, hr_g461, hr_g494, z_481, z_482, z_483, z_484, z_485, z_486, (by omega), (by omega), (by omega), olg497, obg461, obg494, oc491, (by rcases z_376 with h1 | h1; exact Or.inl (by omega); rcases z_491 with h2 | h2; exact Or.inl (by omega); exact Or.inr ⟨by omega, by omega, by omega, fun j hj => q_law2 ejg346 ejg461 ejg378 ejg494 h1.2.1 h2.2.1 z_490 (by omega) (by omega) (by omega) (by omega) (by omega) j (by omega)⟩), hP497, za_r_readLaw⟩
        · refine lv_if_eq (tgt := 128) hx hb dX9_readLaw_121 (by decide) (fun c_498 => ?_) (fun c_498 => absurd c_498 (by decide))
          refine lv_aload_n hx hb dX9_readLaw_128 rfl (lv_at hl 1 rfl) (qg_X9_37 hx hb hts i_X9 hown hK hP463 0 rfl k_22 (hf_452.u (by decide) (hf_365.u (by decide) (hf_338.u (by decide) (hf_14.u (by decide) fr_p0_37)))) dX9_readLaw_129 (lv_iconst (v := 2) hx hb dX9_readLaw_132 (by decide) (lv_iload_n hx hb dX9_readLaw_133 rfl (lv_at hl 0 rfl) (lv_imul hx hb dX9_readLaw_134 (lv_topi fun v_499 ev_499 => ?_)))))
          have tv_499 := q_mulc (c := 2) ev_499 (by decide) (by omega) (by omega)
          refine lv_iconst (v := 1) hx hb dX9_readLaw_135 (by decide) (lv_iadd hx hb dX9_readLaw_136 (lv_topi fun v_500 ev_500 => ?_))
          have tv_500 := q_add ev_500 (by omega) (by omega)
          refine lv_aload_n hx hb dX9_readLaw_137 rfl (lv_at hl 1 rfl) (qg_X9_45 hx hb hts i_X9 hown hK hP463 0 rfl k_15 (hf_452.u (by decide) z_370) dX9_readLaw_138 (q_ist hx hb hK hP463 hDa za_r_readLaw hS463 8 7 rfl rfl (q_in (by omega) (by omega)) dX9_readLaw_141 (fun H501 lo501 g501 eg501 (hP501 : va_P (dC, dI) vwCl (zW_r_readLaw p0 o_446 p0_code c_p0_code o_354 p0_codeNumber c_p0_codeNumber o_355 p0_eSign c_p0_eSign o_356 p0_eWhat c_p0_eWhat o_357 p0_lName c_p0_lName g21 p0_laws c_p0_laws b_p0_laws p0_rFrom c_p0_rFrom g461 p0_rTo c_p0_rTo g501 p0_text c_p0_text b_p0_text) H501) hS501 => ?_)))
          clear hP463 hS463
          have hr_g501 := q_up' hr_g378 eg501 ⟨by omega, by omega⟩
          have ejg501 : g501 = upd g378 ((2 * (3 * rb.toInt + (b_p0_laws rb.toNatClampNeg).toInt)).toNat + 1) o_362 := by rw [eg501, q_ixn (n := (2 * (3 * rb.toInt + (b_p0_laws rb.toNatClampNeg).toInt)).toNat + 1) (by omega) (by omega)]
          have obg501 := (obg378 : q_offb (2 * (3 * rb.toInt + (b_p0_laws rb.toNatClampNeg).toInt)) b_p0_rTo g378).up eg501 (by omega) (by omega)
          refine lv_aload_n hx hb dX9_readLaw_142 rfl (lv_at hl 1 rfl) (qg_X9_14 hx hb hts i_X9 hown hK hP501 0 rfl k_1 (hf_452.u (by decide) (hf_365.u (by decide) (hf_338.u (by decide) (hf_14.u (by decide) fr_p0_14)))) dX9_readLaw_143 (lv_aload_n hx hb dX9_readLaw_146 rfl (lv_at hl 1 rfl) (qg_X9_44 hx hb hts i_X9 hown hK hP501 0 rfl k_0 (hf_452.u (by decide) (hf_365.u (by decide) (hf_338.u (by decide) (hf_14.u (by decide) pf_rb)))) dX9_readLaw_147 (lv_dup2_11 hx hb dX9_readLaw_150 rfl rfl (q_ild hx hb hK hP501 6 5 rfl rfl (q_in (by omega) (by omega)) dX9_readLaw_151 (fun v_502 ev_502 => ?_))))))
          have uv_502 : v_502.toInt = (b_p0_laws rb.toNatClampNeg).toInt := by rw [ev_502]
          have tv_502 := q_rd' hr_p0_laws (q_in (by omega) (by omega)) ev_502
          refine lv_iconst (v := 1) hx hb dX9_readLaw_152 (by decide) (lv_iadd hx hb dX9_readLaw_153 (lv_topi fun v_503 ev_503 => ?_))
          have tv_503 := q_add ev_503 (by omega) (by omega)
          refine q_ist hx hb hK hP501 hDa za_r_readLaw hS501 6 5 rfl rfl (q_in (by omega) (by omega)) dX9_readLaw_154 (fun H504 lo504 g504 eg504 (hP504 : va_P (dC, dI) vwCl (zW_r_readLaw p0 o_446 p0_code c_p0_code o_354 p0_codeNumber c_p0_codeNumber o_355 p0_eSign c_p0_eSign o_356 p0_eWhat c_p0_eWhat o_357 p0_lName c_p0_lName g21 p0_laws c_p0_laws g504 p0_rFrom c_p0_rFrom g461 p0_rTo c_p0_rTo g501 p0_text c_p0_text b_p0_text) H504) hS504 => ?_)
          clear hP501 hS501
          have hr_g504 := q_up' hr_p0_laws eg504 ⟨by omega, by omega⟩
          have usg504 : (g504 rb.toNatClampNeg).toInt = v_503.toInt := by rw [eg504, pk_us]
          have olg504 := (q_offd.rf : q_offd rb.toInt b_p0_laws b_p0_laws).up eg504 (by omega) rfl
          exact q_vret hx hb hr hlocks hS504 dX9_readLaw_155 ⟨o_446, o_354, o_355, o_356, o_357, g21, g504, g461, g501, o_447, o_448, o_449, o_450, o_362, o_363, ho_451, ((((q_fr.rf.tr hf_14 (by decide)).tr hf_338 (by decide)).tr hf_365 (by decide)).tr hf_452 (by decide)), hr_g504, hr_g461, hr_g501, z_453, z_454, z_455, z_456, (hf_452.u (by decide) z_370), (hf_452.u (by decide) z_371), (by omega), (by omega), (by omega), olg504, obg461, obg501, oc376, (Or.inl (by omega)), hP504, za_r_readLaw⟩
    · refine lv_if_eq (tgt := 80) hx hb dX9_readLaw_73 (by decide) (fun c_505 => ?_) (fun c_505 => absurd c_505 (by decide))
      refine lv_aload_n hx hb dX9_readLaw_80 rfl (lv_at hl 1 rfl) (qg_X9_37 hx hb hts i_X9 hown hK hP348 0 rfl k_22 (hf_338.u (by decide) (hf_14.u (by decide) fr_p0_37)) dX9_readLaw_81 (lv_iconst (v := 2) hx hb dX9_readLaw_84 (by decide) (lv_iload_n hx hb dX9_readLaw_85 rfl (lv_at hl 0 rfl) (lv_imul hx hb dX9_readLaw_86 (lv_topi fun v_506 ev_506 => ?_)))))
      have tv_506 := q_mulc (c := 2) ev_506 (by decide) (by omega) (by omega)
      refine lv_aload_n hx hb dX9_readLaw_87 rfl (lv_at hl 1 rfl) (qg_X9_45 hx hb hts i_X9 hown hK hP348 0 rfl k_15 (hf_338.u (by decide) (hf_14.u (by decide) pf_co)) dX9_readLaw_88 (q_ist hx hb hK hP348 hDa za_r_readLaw hS348 8 7 rfl rfl (q_in (by omega) (by omega)) dX9_readLaw_91 (fun H507 lo507 g507 eg507 (hP507 : va_P (dC, dI) vwCl (zW_r_readLaw p0 o_332 p0_code c_p0_code b_p0_code p0_codeNumber c_p0_codeNumber b_p0_codeNumber p0_eSign c_p0_eSign b_p0_eSign p0_eWhat c_p0_eWhat b_p0_eWhat p0_lName c_p0_lName g21 p0_laws c_p0_laws b_p0_laws p0_rFrom c_p0_rFrom g346 p0_rTo c_p0_rTo g507 p0_text c_p0_text b_p0_text) H507) hS507 => ?_)))
      clear hP348 hS348
      have hr_g507 := q_up' hr_p0_rTo eg507 ⟨by omega, by omega⟩
      have ejg507 : g507 = upd b_p0_rTo ((2 * (3 * rb.toInt + (b_p0_laws rb.toNatClampNeg).toInt)).toNat) co := by rw [eg507, q_ixn (n := (2 * (3 * rb.toInt + (b_p0_laws rb.toNatClampNeg).toInt)).toNat) (by omega) (by omega)]
      have obg507 := (q_offb.rf : q_offb (2 * (3 * rb.toInt + (b_p0_laws rb.toNatClampNeg).toInt)) b_p0_rTo b_p0_rTo).up eg507 (by omega) (by omega)
      refine lv_aload_n hx hb dX9_readLaw_92 rfl (lv_at hl 1 rfl) (lv_aload_n hx hb dX9_readLaw_93 rfl (lv_at hl 1 rfl) (lv_ldc2 (v := 1886743660) hx hb hown k_23 dX9_readLaw_94 ?_))
      obtain ⟨v_508, fv_508⟩ := OKX9_g10 ho_337
      refine q_cVi (As := [.long 1886743660]) (rest := [.ref p0]) q_w0 trivial hK hP507 hDa za_r_readLaw hS507 hA [0] [] (by decide +kernel) ⟨hx, hb, hml, hown, hts⟩ (r_isWord l dC dI H507.size p0 o_332 1886743660 o_335 v_508 ho_337 z_341 fv_508) rfl rfl (cwV 1 hts (p1_gV m_8 m_9 m_10 m_6 g_r_isWord gz_r_isWord) rfl rfl rfl (by decide +kernel) ⟨by decide, by decide⟩) (va_recv hK hP507 (ci := 8) (q0 := 0) rfl rfl) zm_r_isWord rfl hl.1 rfl (Nat.le_of_ble_eq_true rfl) dX9_readLaw_97 ⟨by decide, by decide⟩ (fun r_509 H510 lo510 hG510 hS510 => ?_)
      obtain ⟨z_511, hQ510⟩ := hG510
      have hP510 : va_P (dC, dI) vwCl (zW_r_readLaw p0 o_332 p0_code c_p0_code b_p0_code p0_codeNumber c_p0_codeNumber b_p0_codeNumber p0_eSign c_p0_eSign b_p0_eSign p0_eWhat c_p0_eWhat b_p0_eWhat p0_lName c_p0_lName g21 p0_laws c_p0_laws b_p0_laws p0_rFrom c_p0_rFrom g346 p0_rTo c_p0_rTo g507 p0_text c_p0_text b_p0_text) H510 := hQ510
      clear hQ510 hP507 hS507
      rcases z_511 with ⟨rfl, z_511⟩ | ⟨rfl, z_511⟩
      · refine q_cVv (As := [.int 1]) (rest := []) q_w0 trivial hK hP510 hDa za_r_readLaw hS510 hA [0, 9] [8] (by decide +kernel) ⟨hx, hb, hml, hown, hts⟩ (r_must l dC dI H510.size p0 o_332 p0_text c_p0_text b_p0_text 1 o_333 o_334 o_335 siz o_336 ho_337 ((hf_338.u (by decide) (hf_14.u (by decide) fr_p0_1))) z_339 z_340 z_341 ((hf_338.u (by decide) (hf_14.u (by decide) pf_siz))) z_342 ((by omega))) rfl rfl (cwV 1 hts (p1_gV m_11 m_12 m_13 m_6 g_r_must gz_r_must) rfl rfl rfl (by decide +kernel) ⟨by decide, by decide⟩) (va_recv hK hP510 (ci := 8) (q0 := 0) rfl rfl) zm_r_must rfl hl.1 rfl (Nat.le_of_ble_eq_true rfl) dX9_readLaw_100 ⟨by decide, by decide⟩ (fun H513 lo513 hG513 hS513 => ?_)
        obtain ⟨o_514, o_515, o_516, o_517, o_518, ho_519, hf_520, z_521, z_522, z_523, z_524, z_525, z_526, hQ513⟩ := hG513
        have to_515 := (OKX9_g6 ho_519).use z_521
        have to_516 := (OKX9_g7 ho_519).use z_522
        have to_517 := (OKX9_g8 ho_519).use z_523
        have to_518 := (OKX9_g4 ho_519).use z_524
        have hP513 : va_P (dC, dI) vwCl (zW_r_readLaw p0 o_514 p0_code c_p0_code b_p0_code p0_codeNumber c_p0_codeNumber b_p0_codeNumber p0_eSign c_p0_eSign b_p0_eSign p0_eWhat c_p0_eWhat b_p0_eWhat p0_lName c_p0_lName g21 p0_laws c_p0_laws b_p0_laws p0_rFrom c_p0_rFrom g346 p0_rTo c_p0_rTo g507 p0_text c_p0_text b_p0_text) H513 := hQ513
        clear hQ513 hP510 hS510
        refine lv_aload_n hx hb dX9_readLaw_103 rfl (lv_at hl 1 rfl) (qg_X9_36 hx hb hts i_X9 hown hK hP513 0 rfl k_14 (hf_520.u (by decide) (hf_338.u (by decide) (hf_14.u (by decide) fr_p0_36))) dX9_readLaw_104 (lv_iconst (v := 2) hx hb dX9_readLaw_107 (by decide) (lv_iload_n hx hb dX9_readLaw_108 rfl (lv_at hl 0 rfl) (lv_imul hx hb dX9_readLaw_109 (lv_topi fun v_527 ev_527 => ?_)))))
        have tv_527 := q_mulc (c := 2) ev_527 (by decide) (by omega) (by omega)
        refine lv_iconst (v := 1) hx hb dX9_readLaw_110 (by decide) (lv_iadd hx hb dX9_readLaw_111 (lv_topi fun v_528 ev_528 => ?_))
        have tv_528 := q_add ev_528 (by omega) (by omega)
        refine lv_aload_n hx hb dX9_readLaw_112 rfl (lv_at hl 1 rfl) (qg_X9_45 hx hb hts i_X9 hown hK hP513 0 rfl k_15 (hf_520.u (by decide) (hf_338.u (by decide) (hf_14.u (by decide) pf_co))) dX9_readLaw_113 (q_ist hx hb hK hP513 hDa za_r_readLaw hS513 7 6 rfl rfl (q_in (by omega) (by omega)) dX9_readLaw_116 (fun H529 lo529 g529 eg529 (hP529 : va_P (dC, dI) vwCl (zW_r_readLaw p0 o_514 p0_code c_p0_code b_p0_code p0_codeNumber c_p0_codeNumber b_p0_codeNumber p0_eSign c_p0_eSign b_p0_eSign p0_eWhat c_p0_eWhat b_p0_eWhat p0_lName c_p0_lName g21 p0_laws c_p0_laws b_p0_laws p0_rFrom c_p0_rFrom g529 p0_rTo c_p0_rTo g507 p0_text c_p0_text b_p0_text) H529) hS529 => ?_)))
        clear hP513 hS513
        have hr_g529 := q_up' hr_g346 eg529 ⟨by omega, by omega⟩
        have ejg529 : g529 = upd g346 ((2 * (3 * rb.toInt + (b_p0_laws rb.toNatClampNeg).toInt)).toNat + 1) co := by rw [eg529, q_ixn (n := (2 * (3 * rb.toInt + (b_p0_laws rb.toNatClampNeg).toInt)).toNat + 1) (by omega) (by omega)]
        have obg529 := (obg346 : q_offb (2 * (3 * rb.toInt + (b_p0_laws rb.toNatClampNeg).toInt)) b_p0_rFrom g346).up eg529 (by omega) (by omega)
        refine lv_aload_n hx hb dX9_readLaw_117 rfl (lv_at hl 1 rfl) ?_
        refine q_cVi (As := []) (rest := []) q_w0 trivial hK hP529 hDa za_r_readLaw hS529 hA [0] [] (by decide +kernel) ⟨hx, hb, hml, hown, hts⟩ (r_isGood l dC dI H529.size p0 o_514 o_518 ho_519 z_524) rfl rfl (cwV 0 hts (p1_gV m_16 m_17 m_18 m_6 g_r_isGood gz_r_isGood) rfl rfl rfl (by decide +kernel) ⟨by decide, by decide⟩) (va_recv hK hP529 (ci := 8) (q0 := 0) rfl rfl) zm_r_isGood rfl hl.1 rfl (Nat.le_of_ble_eq_true rfl) dX9_readLaw_118 ⟨by decide, by decide⟩ (fun r_530 H531 lo531 hG531 hS531 => ?_)
        obtain ⟨z_532, hQ531⟩ := hG531
        have hP531 : va_P (dC, dI) vwCl (zW_r_readLaw p0 o_514 p0_code c_p0_code b_p0_code p0_codeNumber c_p0_codeNumber b_p0_codeNumber p0_eSign c_p0_eSign b_p0_eSign p0_eWhat c_p0_eWhat b_p0_eWhat p0_lName c_p0_lName g21 p0_laws c_p0_laws b_p0_laws p0_rFrom c_p0_rFrom g529 p0_rTo c_p0_rTo g507 p0_text c_p0_text b_p0_text) H531 := hQ531
        clear hQ531 hP529 hS529
        rcases z_532 with ⟨rfl, z_532⟩ | ⟨rfl, z_532⟩
        · refine lv_if_eq (tgt := 128) hx hb dX9_readLaw_121 (by decide) (fun c_533 => absurd c_533 (by decide)) (fun c_533 => ?_)
          refine lv_aload_n hx hb dX9_readLaw_124 rfl (lv_at hl 1 rfl) ?_
          refine q_cVv (As := []) (rest := []) q_w0 trivial hK hP531 hDa za_r_readLaw hS531 hA [0, 1, 2, 3, 4, 9] [0, 1, 2, 3, 8] (by decide +kernel) ⟨hx, hb, hml, hown, hts⟩ (r_e l dC dI H531.size p0 o_514 p0_code c_p0_code b_p0_code p0_codeNumber c_p0_codeNumber b_p0_codeNumber p0_eSign c_p0_eSign b_p0_eSign p0_eWhat c_p0_eWhat b_p0_eWhat p0_text c_p0_text b_p0_text o_515 o_516 o_517 siz o_518 co un rb ho_519 ((hf_520.u (by decide) (hf_338.u (by decide) (hf_14.u (by decide) fr_p0_1)))) ((hf_520.u (by decide) (hf_338.u (by decide) (hf_14.u (by decide) fr_p0_38)))) ((hf_520.u (by decide) (hf_338.u (by decide) (hf_14.u (by decide) fr_p0_39)))) ((hf_520.u (by decide) (hf_338.u (by decide) (hf_14.u (by decide) fr_p0_40)))) ((hf_520.u (by decide) (hf_338.u (by decide) (hf_14.u (by decide) fr_p0_41)))) z_521 z_522 z_523 ((hf_520.u (by decide) (hf_338.u (by decide) (hf_14.u (by decide) pf_siz)))) z_524 ((hf_520.u (by decide) (hf_338.u (by decide) (hf_14.u (by decide) pf_co)))) ((hf_520.u (by decide) (hf_338.u (by decide) (hf_14.u (by decide) pf_un)))) ((hf_520.u (by decide) (hf_338.u (by decide) (hf_14.u (by decide) pf_rb)))) ((by omega)) ((by omega))) rfl rfl (cwV 0 hts (p1_gV m_19 m_20 m_21 m_6 g_r_e gz_r_e) rfl rfl rfl (by decide +kernel) ⟨by decide, by decide⟩) (va_recv hK hP531 (ci := 8) (q0 := 0) rfl rfl) zm_r_e rfl hl.1 rfl (Nat.le_of_ble_eq_true rfl) dX9_readLaw_125 ⟨by decide, by decide⟩ (fun H535 lo535 hG535 hS535 => ?_)
          obtain ⟨o_536, o_537, o_538, o_539, o_540, o_541, o_542, o_543, o_544, o_545, o_546, ho_547, hf_548, z_549, z_550, z_551, z_552, z_553, z_554, z_555, z_556, z_557, z_558, z_559, hQ535⟩ := hG535
          have to_541 := (OKX9_g6 ho_547).use z_549
          have to_542 := (OKX9_g7 ho_547).use z_550
          have to_543 := (OKX9_g8 ho_547).use z_551
          have to_544 := (OKX9_g4 ho_547).use z_552
          have hP535 : va_P (dC, dI) vwCl (zW_r_readLaw p0 o_536 p0_code c_p0_code o_537 p0_codeNumber c_p0_codeNumber o_538 p0_eSign c_p0_eSign o_539 p0_eWhat c_p0_eWhat o_540 p0_lName c_p0_lName g21 p0_laws c_p0_laws b_p0_laws p0_rFrom c_p0_rFrom g529 p0_rTo c_p0_rTo g507 p0_text c_p0_text b_p0_text) H535 := hQ535
          clear hQ535 hP531 hS531
          have oc559 := (q_offc.rf : q_offc co.toInt rb b_p0_code b_p0_code).tr z_558 (by omega)
          refine lv_aload_n hx hb dX9_readLaw_128 rfl (lv_at hl 1 rfl) (qg_X9_37 hx hb hts i_X9 hown hK hP535 0 rfl k_22 (hf_548.u (by decide) (hf_520.u (by decide) (hf_338.u (by decide) (hf_14.u (by decide) fr_p0_37)))) dX9_readLaw_129 (lv_iconst (v := 2) hx hb dX9_readLaw_132 (by decide) (lv_iload_n hx hb dX9_readLaw_133 rfl (lv_at hl 0 rfl) (lv_imul hx hb dX9_readLaw_134 (lv_topi fun v_560 ev_560 => ?_)))))
          have tv_560 := q_mulc (c := 2) ev_560 (by decide) (by omega) (by omega)
          refine lv_iconst (v := 1) hx hb dX9_readLaw_135 (by decide) (lv_iadd hx hb dX9_readLaw_136 (lv_topi fun v_561 ev_561 => ?_))
          have tv_561 := q_add ev_561 (by omega) (by omega)
          refine lv_aload_n hx hb dX9_readLaw_137 rfl (lv_at hl 1 rfl) (qg_X9_45 hx hb hts i_X9 hown hK hP535 0 rfl k_15 z_553 dX9_readLaw_138 (q_ist hx hb hK hP535 hDa za_r_readLaw hS535 8 7 rfl rfl (q_in (by omega) (by omega)) dX9_readLaw_141 (fun H562 lo562 g562 eg562 (hP562 : va_P (dC, dI) vwCl (zW_r_readLaw p0 o_536 p0_code c_p0_code o_537 p0_codeNumber c_p0_codeNumber o_538 p0_eSign c_p0_eSign o_539 p0_eWhat c_p0_eWhat o_540 p0_lName c_p0_lName g21 p0_laws c_p0_laws b_p0_laws p0_rFrom c_p0_rFrom g529 p0_rTo c_p0_rTo g562 p0_text c_p0_text b_p0_text) H562) hS562 => ?_)))
          clear hP535 hS535
          have hr_g562 := q_up' hr_g507 eg562 ⟨by omega, by omega⟩
          have ejg562 : g562 = upd g507 ((2 * (3 * rb.toInt + (b_p0_laws rb.toNatClampNeg).toInt)).toNat + 1) o_545 := by rw [eg562, q_ixn (n := (2 * (3 * rb.toInt + (b_p0_laws rb.toNatClampNeg).toInt)).toNat + 1) (by omega) (by omega)]
          have obg562 := (obg507 : q_offb (2 * (3 * rb.toInt + (b_p0_laws rb.toNatClampNeg).toInt)) b_p0_rTo g507).up eg562 (by omega) (by omega)
          refine lv_aload_n hx hb dX9_readLaw_142 rfl (lv_at hl 1 rfl) (qg_X9_14 hx hb hts i_X9 hown hK hP562 0 rfl k_1 (hf_548.u (by decide) (hf_520.u (by decide) (hf_338.u (by decide) (hf_14.u (by decide) fr_p0_14)))) dX9_readLaw_143 (lv_aload_n hx hb dX9_readLaw_146 rfl (lv_at hl 1 rfl) (qg_X9_44 hx hb hts i_X9 hown hK hP562 0 rfl k_0 (hf_548.u (by decide) (hf_520.u (by decide) (hf_338.u (by decide) (hf_14.u (by decide) pf_rb)))) dX9_readLaw_147 (lv_dup2_11 hx hb dX9_readLaw_150 rfl rfl (q_ild hx hb hK hP562 6 5 rfl rfl (q_in (by omega) (by omega)) dX9_readLaw_151 (fun v_563 ev_563 => ?_))))))
          have uv_563 : v_563.toInt = (b_p0_laws rb.toNatClampNeg).toInt := by rw [ev_563]
          have tv_563 := q_rd' hr_p0_laws (q_in (by omega) (by omega)) ev_563
          refine lv_iconst (v := 1) hx hb dX9_readLaw_152 (by decide) (lv_iadd hx hb dX9_readLaw_153 (lv_topi fun v_564 ev_564 => ?_))
          have tv_564 := q_add ev_564 (by omega) (by omega)
          refine q_ist hx hb hK hP562 hDa za_r_readLaw hS562 6 5 rfl rfl (q_in (by omega) (by omega)) dX9_readLaw_154 (fun H565 lo565 g565 eg565 (hP565 : va_P (dC, dI) vwCl (zW_r_readLaw p0 o_536 p0_code c_p0_code o_537 p0_codeNumber c_p0_codeNumber o_538 p0_eSign c_p0_eSign o_539 p0_eWhat c_p0_eWhat o_540 p0_lName c_p0_lName g21 p0_laws c_p0_laws g565 p0_rFrom c_p0_rFrom g529 p0_rTo c_p0_rTo g562 p0_text c_p0_text b_p0_text) H565) hS565 => ?_)
          clear hP562 hS562
          have hr_g565 := q_up' hr_p0_laws eg565 ⟨by omega, by omega⟩
          have usg565 : (g565 rb.toNatClampNeg).toInt = v_564.toInt := by rw [eg565, pk_us]
          have olg565 := (q_offd.rf : q_offd rb.toInt b_p0_laws b_p0_laws).up eg565 (by omega) rfl
          exact q_vret hx hb hr hlocks hS565 dX9_readLaw_155 ⟨o_536, o_537, o_538, o_539, o_540, g21, g565, g529, g562, o_541, o_542, o_543, o_544, o_545, o_546, ho_547, ((((q_fr.rf.tr hf_14 (by decide)).tr hf_338 (by decide)).tr hf_520 (by decide)).tr hf_548 (by decide)), hr_g565, hr_g529, hr_g562, z_549, z_550, z_551, z_552, z_553, z_554, (by omega), (by omega), (by omega), olg565, obg529, obg562, oc559, (Or.inl (by omega)), hP565, za_r_readLaw⟩
        · refine lv_if_eq (tgt := 128) hx hb dX9_readLaw_121 (by decide) (fun c_566 => ?_) (fun c_566 => absurd c_566 (by decide))
          refine lv_aload_n hx hb dX9_readLaw_128 rfl (lv_at hl 1 rfl) (qg_X9_37 hx hb hts i_X9 hown hK hP531 0 rfl k_22 (hf_520.u (by decide) (hf_338.u (by decide) (hf_14.u (by decide) fr_p0_37))) dX9_readLaw_129 (lv_iconst (v := 2) hx hb dX9_readLaw_132 (by decide) (lv_iload_n hx hb dX9_readLaw_133 rfl (lv_at hl 0 rfl) (lv_imul hx hb dX9_readLaw_134 (lv_topi fun v_567 ev_567 => ?_)))))
          have tv_567 := q_mulc (c := 2) ev_567 (by decide) (by omega) (by omega)
          refine lv_iconst (v := 1) hx hb dX9_readLaw_135 (by decide) (lv_iadd hx hb dX9_readLaw_136 (lv_topi fun v_568 ev_568 => ?_))
          have tv_568 := q_add ev_568 (by omega) (by omega)
          refine lv_aload_n hx hb dX9_readLaw_137 rfl (lv_at hl 1 rfl) (qg_X9_45 hx hb hts i_X9 hown hK hP531 0 rfl k_15 (hf_520.u (by decide) (hf_338.u (by decide) (hf_14.u (by decide) pf_co))) dX9_readLaw_138 (q_ist hx hb hK hP531 hDa za_r_readLaw hS531 8 7 rfl rfl (q_in (by omega) (by omega)) dX9_readLaw_141 (fun H569 lo569 g569 eg569 (hP569 : va_P (dC, dI) vwCl (zW_r_readLaw p0 o_514 p0_code c_p0_code b_p0_code p0_codeNumber c_p0_codeNumber b_p0_codeNumber p0_eSign c_p0_eSign b_p0_eSign p0_eWhat c_p0_eWhat b_p0_eWhat p0_lName c_p0_lName g21 p0_laws c_p0_laws b_p0_laws p0_rFrom c_p0_rFrom g529 p0_rTo c_p0_rTo g569 p0_text c_p0_text b_p0_text) H569) hS569 => ?_)))
          clear hP531 hS531
          have hr_g569 := q_up' hr_g507 eg569 ⟨by omega, by omega⟩
          have ejg569 : g569 = upd g507 ((2 * (3 * rb.toInt + (b_p0_laws rb.toNatClampNeg).toInt)).toNat + 1) co := by rw [eg569, q_ixn (n := (2 * (3 * rb.toInt + (b_p0_laws rb.toNatClampNeg).toInt)).toNat + 1) (by omega) (by omega)]
          have obg569 := (obg507 : q_offb (2 * (3 * rb.toInt + (b_p0_laws rb.toNatClampNeg).toInt)) b_p0_rTo g507).up eg569 (by omega) (by omega)
          refine lv_aload_n hx hb dX9_readLaw_142 rfl (lv_at hl 1 rfl) (qg_X9_14 hx hb hts i_X9 hown hK hP569 0 rfl k_1 (hf_520.u (by decide) (hf_338.u (by decide) (hf_14.u (by decide) fr_p0_14))) dX9_readLaw_143 (lv_aload_n hx hb dX9_readLaw_146 rfl (lv_at hl 1 rfl) (qg_X9_44 hx hb hts i_X9 hown hK hP569 0 rfl k_0 (hf_520.u (by decide) (hf_338.u (by decide) (hf_14.u (by decide) pf_rb))) dX9_readLaw_147 (lv_dup2_11 hx hb dX9_readLaw_150 rfl rfl (q_ild hx hb hK hP569 6 5 rfl rfl (q_in (by omega) (by omega)) dX9_readLaw_151 (fun v_570 ev_570 => ?_))))))
          have uv_570 : v_570.toInt = (b_p0_laws rb.toNatClampNeg).toInt := by rw [ev_570]
          have tv_570 := q_rd' hr_p0_laws (q_in (by omega) (by omega)) ev_570
          refine lv_iconst (v := 1) hx hb dX9_readLaw_152 (by decide) (lv_iadd hx hb dX9_readLaw_153 (lv_topi fun v_571 ev_571 => ?_))
          have tv_571 := q_add ev_571 (by omega) (by omega)
          refine q_ist hx hb hK hP569 hDa za_r_readLaw hS569 6 5 rfl rfl (q_in (by omega) (by omega)) dX9_readLaw_154 (fun H572 lo572 g572 eg572 (hP572 : va_P (dC, dI) vwCl (zW_r_readLaw p0 o_514 p0_code c_p0_code b_p0_code p0_codeNumber c_p0_codeNumber b_p0_codeNumber p0_eSign c_p0_eSign b_p0_eSign p0_eWhat c_p0_eWhat b_p0_eWhat p0_lName c_p0_lName g21 p0_laws c_p0_laws g572 p0_rFrom c_p0_rFrom g529 p0_rTo c_p0_rTo g569 p0_text c_p0_text b_p0_text) H572) hS572 => ?_)
          clear hP569 hS569
          have hr_g572 := q_up' hr_p0_laws eg572 ⟨by omega, by omega⟩
          have usg572 : (g572 rb.toNatClampNeg).toInt = v_571.toInt := by rw [eg572, pk_us]
          have olg572 := (q_offd.rf : q_offd rb.toInt b_p0_laws b_p0_laws).up eg572 (by omega) rfl
          exact q_vret hx hb hr hlocks hS572 dX9_readLaw_155 ⟨o_514, b_p0_code, b_p0_codeNumber, b_p0_eSign, b_p0_eWhat, g21, g572, g529, g569, o_515, o_516, o_517, o_518, co, un, ho_519, (((q_fr.rf.tr hf_14 (by decide)).tr hf_338 (by decide)).tr hf_520 (by decide)), hr_g572, hr_g529, hr_g569, z_521, z_522, z_523, z_524, (hf_520.u (by decide) (hf_338.u (by decide) (hf_14.u (by decide) pf_co))), (hf_520.u (by decide) (hf_338.u (by decide) (hf_14.u (by decide) pf_un))), (by omega), (by omega), (by omega), olg572, obg529, obg569, q_offc.rf, (Or.inl (by omega)), hP572, za_r_readLaw⟩
      · refine q_cVv (As := [.int 0]) (rest := []) q_w0 trivial hK hP510 hDa za_r_readLaw hS510 hA [0, 9] [8] (by decide +kernel) ⟨hx, hb, hml, hown, hts⟩ (r_must l dC dI H510.size p0 o_332 p0_text c_p0_text b_p0_text 0 o_333 o_334 o_335 siz o_336 ho_337 ((hf_338.u (by decide) (hf_14.u (by decide) fr_p0_1))) z_339 z_340 z_341 ((hf_338.u (by decide) (hf_14.u (by decide) pf_siz))) z_342 ((by omega))) rfl rfl (cwV 1 hts (p1_gV m_11 m_12 m_13 m_6 g_r_must gz_r_must) rfl rfl rfl (by decide +kernel) ⟨by decide, by decide⟩) (va_recv hK hP510 (ci := 8) (q0 := 0) rfl rfl) zm_r_must rfl hl.1 rfl (Nat.le_of_ble_eq_true rfl) dX9_readLaw_100 ⟨by decide, by decide⟩ (fun H574 lo574 hG574 hS574 => ?_)
        obtain ⟨o_575, o_576, o_577, o_578, o_579, ho_580, hf_581, z_582, z_583, z_584, z_585, z_586, z_587, hQ574⟩ := hG574
        have to_576 := (OKX9_g6 ho_580).use z_582
        have to_577 := (OKX9_g7 ho_580).use z_583
        have to_578 := (OKX9_g8 ho_580).use z_584
        have to_579 := (OKX9_g4 ho_580).use z_585
        have hP574 : va_P (dC, dI) vwCl (zW_r_readLaw p0 o_575 p0_code c_p0_code b_p0_code p0_codeNumber c_p0_codeNumber b_p0_codeNumber p0_eSign c_p0_eSign b_p0_eSign p0_eWhat c_p0_eWhat b_p0_eWhat p0_lName c_p0_lName g21 p0_laws c_p0_laws b_p0_laws p0_rFrom c_p0_rFrom g346 p0_rTo c_p0_rTo g507 p0_text c_p0_text b_p0_text) H574 := hQ574
        clear hQ574 hP510 hS510
        refine lv_aload_n hx hb dX9_readLaw_103 rfl (lv_at hl 1 rfl) (qg_X9_36 hx hb hts i_X9 hown hK hP574 0 rfl k_14 (hf_581.u (by decide) (hf_338.u (by decide) (hf_14.u (by decide) fr_p0_36))) dX9_readLaw_104 (lv_iconst (v := 2) hx hb dX9_readLaw_107 (by decide) (lv_iload_n hx hb dX9_readLaw_108 rfl (lv_at hl 0 rfl) (lv_imul hx hb dX9_readLaw_109 (lv_topi fun v_588 ev_588 => ?_)))))
        have tv_588 := q_mulc (c := 2) ev_588 (by decide) (by omega) (by omega)
        refine lv_iconst (v := 1) hx hb dX9_readLaw_110 (by decide) (lv_iadd hx hb dX9_readLaw_111 (lv_topi fun v_589 ev_589 => ?_))
        have tv_589 := q_add ev_589 (by omega) (by omega)
        refine lv_aload_n hx hb dX9_readLaw_112 rfl (lv_at hl 1 rfl) (qg_X9_45 hx hb hts i_X9 hown hK hP574 0 rfl k_15 (hf_581.u (by decide) (hf_338.u (by decide) (hf_14.u (by decide) pf_co))) dX9_readLaw_113 (q_ist hx hb hK hP574 hDa za_r_readLaw hS574 7 6 rfl rfl (q_in (by omega) (by omega)) dX9_readLaw_116 (fun H590 lo590 g590 eg590 (hP590 : va_P (dC, dI) vwCl (zW_r_readLaw p0 o_575 p0_code c_p0_code b_p0_code p0_codeNumber c_p0_codeNumber b_p0_codeNumber p0_eSign c_p0_eSign b_p0_eSign p0_eWhat c_p0_eWhat b_p0_eWhat p0_lName c_p0_lName g21 p0_laws c_p0_laws b_p0_laws p0_rFrom c_p0_rFrom g590 p0_rTo c_p0_rTo g507 p0_text c_p0_text b_p0_text) H590) hS590 => ?_)))
        clear hP574 hS574
        have hr_g590 := q_up' hr_g346 eg590 ⟨by omega, by omega⟩
        have ejg590 : g590 = upd g346 ((2 * (3 * rb.toInt + (b_p0_laws rb.toNatClampNeg).toInt)).toNat + 1) co := by rw [eg590, q_ixn (n := (2 * (3 * rb.toInt + (b_p0_laws rb.toNatClampNeg).toInt)).toNat + 1) (by omega) (by omega)]
        have obg590 := (obg346 : q_offb (2 * (3 * rb.toInt + (b_p0_laws rb.toNatClampNeg).toInt)) b_p0_rFrom g346).up eg590 (by omega) (by omega)
        refine lv_aload_n hx hb dX9_readLaw_117 rfl (lv_at hl 1 rfl) ?_
        refine q_cVi (As := []) (rest := []) q_w0 trivial hK hP590 hDa za_r_readLaw hS590 hA [0] [] (by decide +kernel) ⟨hx, hb, hml, hown, hts⟩ (r_isGood l dC dI H590.size p0 o_575 o_579 ho_580 z_585) rfl rfl (cwV 0 hts (p1_gV m_16 m_17 m_18 m_6 g_r_isGood gz_r_isGood) rfl rfl rfl (by decide +kernel) ⟨by decide, by decide⟩) (va_recv hK hP590 (ci := 8) (q0 := 0) rfl rfl) zm_r_isGood rfl hl.1 rfl (Nat.le_of_ble_eq_true rfl) dX9_readLaw_118 ⟨by decide, by decide⟩ (fun r_591 H592 lo592 hG592 hS592 => ?_)
        obtain ⟨z_593, hQ592⟩ := hG592
        have hP592 : va_P (dC, dI) vwCl (zW_r_readLaw p0 o_575 p0_code c_p0_code b_p0_code p0_codeNumber c_p0_codeNumber b_p0_codeNumber p0_eSign c_p0_eSign b_p0_eSign p0_eWhat c_p0_eWhat b_p0_eWhat p0_lName c_p0_lName g21 p0_laws c_p0_laws b_p0_laws p0_rFrom c_p0_rFrom g590 p0_rTo c_p0_rTo g507 p0_text c_p0_text b_p0_text) H592 := hQ592
        clear hQ592 hP590 hS590
        rcases z_593 with ⟨rfl, z_593⟩ | ⟨rfl, z_593⟩
        · refine lv_if_eq (tgt := 128) hx hb dX9_readLaw_121 (by decide) (fun c_594 => absurd c_594 (by decide)) (fun c_594 => ?_)
          refine lv_aload_n hx hb dX9_readLaw_124 rfl (lv_at hl 1 rfl) ?_
          refine q_cVv (As := []) (rest := []) q_w0 trivial hK hP592 hDa za_r_readLaw hS592 hA [0, 1, 2, 3, 4, 9] [0, 1, 2, 3, 8] (by decide +kernel) ⟨hx, hb, hml, hown, hts⟩ (r_e l dC dI H592.size p0 o_575 p0_code c_p0_code b_p0_code p0_codeNumber c_p0_codeNumber b_p0_codeNumber p0_eSign c_p0_eSign b_p0_eSign p0_eWhat c_p0_eWhat b_p0_eWhat p0_text c_p0_text b_p0_text o_576 o_577 o_578 siz o_579 co un rb ho_580 ((hf_581.u (by decide) (hf_338.u (by decide) (hf_14.u (by decide) fr_p0_1)))) ((hf_581.u (by decide) (hf_338.u (by decide) (hf_14.u (by decide) fr_p0_38)))) ((hf_581.u (by decide) (hf_338.u (by decide) (hf_14.u (by decide) fr_p0_39)))) ((hf_581.u (by decide) (hf_338.u (by decide) (hf_14.u (by decide) fr_p0_40)))) ((hf_581.u (by decide) (hf_338.u (by decide) (hf_14.u (by decide) fr_p0_41)))) z_582 z_583 z_584 ((hf_581.u (by decide) (hf_338.u (by decide) (hf_14.u (by decide) pf_siz)))) z_585 ((hf_581.u (by decide) (hf_338.u (by decide) (hf_14.u (by decide) pf_co)))) ((hf_581.u (by decide) (hf_338.u (by decide) (hf_14.u (by decide) pf_un)))) ((hf_581.u (by decide) (hf_338.u (by decide) (hf_14.u (by decide) pf_rb)))) ((by omega)) ((by omega))) rfl rfl (cwV 0 hts (p1_gV m_19 m_20 m_21 m_6 g_r_e gz_r_e) rfl rfl rfl (by decide +kernel) ⟨by decide, by decide⟩) (va_recv hK hP592 (ci := 8) (q0 := 0) rfl rfl) zm_r_e rfl hl.1 rfl (Nat.le_of_ble_eq_true rfl) dX9_readLaw_125 ⟨by decide, by decide⟩ (fun H596 lo596 hG596 hS596 => ?_)
          obtain ⟨o_597, o_598, o_599, o_600, o_601, o_602, o_603, o_604, o_605, o_606, o_607, ho_608, hf_609, z_610, z_611, z_612, z_613, z_614, z_615, z_616, z_617, z_618, z_619, z_620, hQ596⟩ := hG596
          have to_602 := (OKX9_g6 ho_608).use z_610
          have to_603 := (OKX9_g7 ho_608).use z_611
          have to_604 := (OKX9_g8 ho_608).use z_612
          have to_605 := (OKX9_g4 ho_608).use z_613
          have hP596 : va_P (dC, dI) vwCl (zW_r_readLaw p0 o_597 p0_code c_p0_code o_598 p0_codeNumber c_p0_codeNumber o_599 p0_eSign c_p0_eSign o_600 p0_eWhat c_p0_eWhat o_601 p0_lName c_p0_lName g21 p0_laws c_p0_laws b_p0_laws p0_rFrom c_p0_rFrom g590 p0_rTo c_p0_rTo g507 p0_text c_p0_text b_p0_text) H596 := hQ596
          clear hQ596 hP592 hS592
          have oc620 := (q_offc.rf : q_offc co.toInt rb b_p0_code b_p0_code).tr z_619 (by omega)
          refine lv_aload_n hx hb dX9_readLaw_128 rfl (lv_at hl 1 rfl) (qg_X9_37 hx hb hts i_X9 hown hK hP596 0 rfl k_22 (hf_609.u (by decide) (hf_581.u (by decide) (hf_338.u (by decide) (hf_14.u (by decide) fr_p0_37)))) dX9_readLaw_129 (lv_iconst (v := 2) hx hb dX9_readLaw_132 (by decide) (lv_iload_n hx hb dX9_readLaw_133 rfl (lv_at hl 0 rfl) (lv_imul hx hb dX9_readLaw_134 (lv_topi fun v_621 ev_621 => ?_)))))
          have tv_621 := q_mulc (c := 2) ev_621 (by decide) (by omega) (by omega)
          refine lv_iconst (v := 1) hx hb dX9_readLaw_135 (by decide) (lv_iadd hx hb dX9_readLaw_136 (lv_topi fun v_622 ev_622 => ?_))
          have tv_622 := q_add ev_622 (by omega) (by omega)
          refine lv_aload_n hx hb dX9_readLaw_137 rfl (lv_at hl 1 rfl) (qg_X9_45 hx hb hts i_X9 hown hK hP596 0 rfl k_15 z_614 dX9_readLaw_138 (q_ist hx hb hK hP596 hDa za_r_readLaw hS596 8 7 rfl rfl (q_in (by omega) (by omega)) dX9_readLaw_141 (fun H623 lo623 g623 eg623 (hP623 : va_P (dC, dI) vwCl (zW_r_readLaw p0 o_597 p0_code c_p0_code o_598 p0_codeNumber c_p0_codeNumber o_599 p0_eSign c_p0_eSign o_600 p0_eWhat c_p0_eWhat o_601 p0_lName c_p0_lName g21 p0_laws c_p0_laws b_p0_laws p0_rFrom c_p0_rFrom g590 p0_rTo c_p0_rTo g623 p0_text c_p0_text b_p0_text) H623) hS623 => ?_)))
          clear hP596 hS596
          have hr_g623 := q_up' hr_g507 eg623 ⟨by omega, by omega⟩
          have ejg623 : g623 = upd g507 ((2 * (3 * rb.toInt + (b_p0_laws rb.toNatClampNeg).toInt)).toNat + 1) o_606 := by rw [eg623, q_ixn (n := (2 * (3 * rb.toInt + (b_p0_laws rb.toNatClampNeg).toInt)).toNat + 1) (by omega) (by omega)]
          have obg623 := (obg507 : q_offb (2 * (3 * rb.toInt + (b_p0_laws rb.toNatClampNeg).toInt)) b_p0_rTo g507).up eg623 (by omega) (by omega)
          refine lv_aload_n hx hb dX9_readLaw_142 rfl (lv_at hl 1 rfl) (qg_X9_14 hx hb hts i_X9 hown hK hP623 0 rfl k_1 (hf_609.u (by decide) (hf_581.u (by decide) (hf_338.u (by decide) (hf_14.u (by decide) fr_p0_14)))) dX9_readLaw_143 (lv_aload_n hx hb dX9_readLaw_146 rfl (lv_at hl 1 rfl) (qg_X9_44 hx hb hts i_X9 hown hK hP623 0 rfl k_0 (hf_609.u (by decide) (hf_581.u (by decide) (hf_338.u (by decide) (hf_14.u (by decide) pf_rb)))) dX9_readLaw_147 (lv_dup2_11 hx hb dX9_readLaw_150 rfl rfl (q_ild hx hb hK hP623 6 5 rfl rfl (q_in (by omega) (by omega)) dX9_readLaw_151 (fun v_624 ev_624 => ?_))))))
          have uv_624 : v_624.toInt = (b_p0_laws rb.toNatClampNeg).toInt := by rw [ev_624]
          have tv_624 := q_rd' hr_p0_laws (q_in (by omega) (by omega)) ev_624
          refine lv_iconst (v := 1) hx hb dX9_readLaw_152 (by decide) (lv_iadd hx hb dX9_readLaw_153 (lv_topi fun v_625 ev_625 => ?_))
          have tv_625 := q_add ev_625 (by omega) (by omega)
          refine q_ist hx hb hK hP623 hDa za_r_readLaw hS623 6 5 rfl rfl (q_in (by omega) (by omega)) dX9_readLaw_154 (fun H626 lo626 g626 eg626 (hP626 : va_P (dC, dI) vwCl (zW_r_readLaw p0 o_597 p0_code c_p0_code o_598 p0_codeNumber c_p0_codeNumber o_599 p0_eSign c_p0_eSign o_600 p0_eWhat c_p0_eWhat o_601 p0_lName c_p0_lName g21 p0_laws c_p0_laws g626 p0_rFrom c_p0_rFrom g590 p0_rTo c_p0_rTo g623 p0_text c_p0_text b_p0_text) H626) hS626 => ?_)
          clear hP623 hS623
          have hr_g626 := q_up' hr_p0_laws eg626 ⟨by omega, by omega⟩
          have usg626 : (g626 rb.toNatClampNeg).toInt = v_625.toInt := by rw [eg626, pk_us]
          have olg626 := (q_offd.rf : q_offd rb.toInt b_p0_laws b_p0_laws).up eg626 (by omega) rfl
          exact q_vret hx hb hr hlocks hS626 dX9_readLaw_155 ⟨o_597, o_598, o_599, o_600, o_601, g21, g626, g590, g623, o_602, o_603, o_604, o_605, o_606, o_607, ho_608, ((((q_fr.rf.tr hf_14 (by decide)).tr hf_338 (by decide)).tr hf_581 (by decide)).tr hf_609 (by decide)), hr_g626, hr_g590, hr_g623, z_610, z_611, z_612, z_613, z_614, z_615, (by omega), (by omega), (by omega), olg626, obg590, obg623, oc620, (Or.inl (by omega)), hP626, za_r_readLaw⟩
        · refine lv_if_eq (tgt := 128) hx hb dX9_readLaw_121 (by decide) (fun c_627 => ?_) (fun c_627 => absurd c_627 (by decide))
          refine lv_aload_n hx hb dX9_readLaw_128 rfl (lv_at hl 1 rfl) (qg_X9_37 hx hb hts i_X9 hown hK hP592 0 rfl k_22 (hf_581.u (by decide) (hf_338.u (by decide) (hf_14.u (by decide) fr_p0_37))) dX9_readLaw_129 (lv_iconst (v := 2) hx hb dX9_readLaw_132 (by decide) (lv_iload_n hx hb dX9_readLaw_133 rfl (lv_at hl 0 rfl) (lv_imul hx hb dX9_readLaw_134 (lv_topi fun v_628 ev_628 => ?_)))))
          have tv_628 := q_mulc (c := 2) ev_628 (by decide) (by omega) (by omega)
          refine lv_iconst (v := 1) hx hb dX9_readLaw_135 (by decide) (lv_iadd hx hb dX9_readLaw_136 (lv_topi fun v_629 ev_629 => ?_))
          have tv_629 := q_add ev_629 (by omega) (by omega)
          refine lv_aload_n hx hb dX9_readLaw_137 rfl (lv_at hl 1 rfl) (qg_X9_45 hx hb hts i_X9 hown hK hP592 0 rfl k_15 (hf_581.u (by decide) (hf_338.u (by decide) (hf_14.u (by decide) pf_co))) dX9_readLaw_138 (q_ist hx hb hK hP592 hDa za_r_readLaw hS592 8 7 rfl rfl (q_in (by omega) (by omega)) dX9_readLaw_141 (fun H630 lo630 g630 eg630 (hP630 : va_P (dC, dI) vwCl (zW_r_readLaw p0 o_575 p0_code c_p0_code b_p0_code p0_codeNumber c_p0_codeNumber b_p0_codeNumber p0_eSign c_p0_eSign b_p0_eSign p0_eWhat c_p0_eWhat b_p0_eWhat p0_lName c_p0_lName g21 p0_laws c_p0_laws b_p0_laws p0_rFrom c_p0_rFrom g590 p0_rTo c_p0_rTo g630 p0_text c_p0_text b_p0_text) H630) hS630 => ?_)))
          clear hP592 hS592
          have hr_g630 := q_up' hr_g507 eg630 ⟨by omega, by omega⟩
          have ejg630 : g630 = upd g507 ((2 * (3 * rb.toInt + (b_p0_laws rb.toNatClampNeg).toInt)).toNat + 1) co := by rw [eg630, q_ixn (n := (2 * (3 * rb.toInt + (b_p0_laws rb.toNatClampNeg).toInt)).toNat + 1) (by omega) (by omega)]
          have obg630 := (obg507 : q_offb (2 * (3 * rb.toInt + (b_p0_laws rb.toNatClampNeg).toInt)) b_p0_rTo g507).up eg630 (by omega) (by omega)
          refine lv_aload_n hx hb dX9_readLaw_142 rfl (lv_at hl 1 rfl) (qg_X9_14 hx hb hts i_X9 hown hK hP630 0 rfl k_1 (hf_581.u (by decide) (hf_338.u (by decide) (hf_14.u (by decide) fr_p0_14))) dX9_readLaw_143 (lv_aload_n hx hb dX9_readLaw_146 rfl (lv_at hl 1 rfl) (qg_X9_44 hx hb hts i_X9 hown hK hP630 0 rfl k_0 (hf_581.u (by decide) (hf_338.u (by decide) (hf_14.u (by decide) pf_rb))) dX9_readLaw_147 (lv_dup2_11 hx hb dX9_readLaw_150 rfl rfl (q_ild hx hb hK hP630 6 5 rfl rfl (q_in (by omega) (by omega)) dX9_readLaw_151 (fun v_631 ev_631 => ?_))))))
          have uv_631 : v_631.toInt = (b_p0_laws rb.toNatClampNeg).toInt := by rw [ev_631]
          have tv_631 := q_rd' hr_p0_laws (q_in (by omega) (by omega)) ev_631
          refine lv_iconst (v := 1) hx hb dX9_readLaw_152 (by decide) (lv_iadd hx hb dX9_readLaw_153 (lv_topi fun v_632 ev_632 => ?_))
          have tv_632 := q_add ev_632 (by omega) (by omega)
          refine q_ist hx hb hK hP630 hDa za_r_readLaw hS630 6 5 rfl rfl (q_in (by omega) (by omega)) dX9_readLaw_154 (fun H633 lo633 g633 eg633 (hP633 : va_P (dC, dI) vwCl (zW_r_readLaw p0 o_575 p0_code c_p0_code b_p0_code p0_codeNumber c_p0_codeNumber b_p0_codeNumber p0_eSign c_p0_eSign b_p0_eSign p0_eWhat c_p0_eWhat b_p0_eWhat p0_lName c_p0_lName g21 p0_laws c_p0_laws g633 p0_rFrom c_p0_rFrom g590 p0_rTo c_p0_rTo g630 p0_text c_p0_text b_p0_text) H633) hS633 => ?_)
          clear hP630 hS630
          have hr_g633 := q_up' hr_p0_laws eg633 ⟨by omega, by omega⟩
          have usg633 : (g633 rb.toNatClampNeg).toInt = v_632.toInt := by rw [eg633, pk_us]
          have olg633 := (q_offd.rf : q_offd rb.toInt b_p0_laws b_p0_laws).up eg633 (by omega) rfl
          exact q_vret hx hb hr hlocks hS633 dX9_readLaw_155 ⟨o_575, b_p0_code, b_p0_codeNumber, b_p0_eSign, b_p0_eWhat, g21, g633, g590, g630, o_576, o_577, o_578, o_579, co, un, ho_580, (((q_fr.rf.tr hf_14 (by decide)).tr hf_338 (by decide)).tr hf_581 (by decide)), hr_g633, hr_g590, hr_g630, z_582, z_583, z_584, z_585, (hf_581.u (by decide) (hf_338.u (by decide) (hf_14.u (by decide) pf_co))), (hf_581.u (by decide) (hf_338.u (by decide) (hf_14.u (by decide) pf_un))), (by omega), (by omega), (by omega), olg633, obg590, obg630, q_offc.rf, (Or.inl (by omega)), hP633, za_r_readLaw⟩
