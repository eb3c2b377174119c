/-! fields by types, calls in one row -/
def q_i (fs : List Value) (k : Nat) (lo hi : Int) : Prop := ∃ v : Int32, fs[k]? = some (.int v) ∧ lo ≤ v.toInt ∧ v.toInt ≤ hi
def q_a (fs : List Value) (k : Nat) : Prop := ∃ v : Int32, fs[k]? = some (.int v)
def q_j (fs : List Value) (k : Nat) : Prop := ∃ v : Int64, fs[k]? = some (.long v)
theorem q_sn {fs fs' : List Value} {k j : Nat} {v w : Value} (e : fs' = fs.set k v) (h : k ≠ j) (f : fs[j]? = some w) : fs'[j]? = some w := by
  rw [e, List.getElem?_set_ne h]; exact f
theorem q_sa {fs fs' : List Value} {k n : Nat} {v : Value} (e : fs' = fs.set k v) (h : fs.length = n) (hk : k < n) : fs'[k]? = some v := by
  rw [e, List.getElem?_set_self (by omega)]
theorem q_i.n {fs fs' : List Value} {k j : Nat} {v : Value} {lo hi : Int} (e : fs' = fs.set k v) (h : k ≠ j) (f : q_i fs j lo hi) : q_i fs' j lo hi := by
  obtain ⟨x, hx, h2⟩ := f
  exact ⟨x, q_sn e h hx, h2⟩
theorem q_a.n {fs fs' : List Value} {k j : Nat} {v : Value} (e : fs' = fs.set k v) (h : k ≠ j) (f : q_a fs j) : q_a fs' j := by
  obtain ⟨x, hx⟩ := f
  exact ⟨x, q_sn e h hx⟩
theorem q_j.n {fs fs' : List Value} {k j : Nat} {v : Value} (e : fs' = fs.set k v) (h : k ≠ j) (f : q_j fs j) : q_j fs' j := by
  obtain ⟨x, hx⟩ := f
  exact ⟨x, q_sn e h hx⟩
theorem q_i.s {fs fs' : List Value} {k n : Nat} {v : Int32} {lo hi : Int} (e : fs' = fs.set k (.int v)) (h : fs.length = n) (hk : k < n) (hv : lo ≤ v.toInt ∧ v.toInt ≤ hi) : q_i fs' k lo hi := ⟨v, q_sa e h hk, hv⟩
theorem q_a.s {fs fs' : List Value} {k n : Nat} {v : Int32} (e : fs' = fs.set k (.int v)) (h : fs.length = n) (hk : k < n) : q_a fs' k := ⟨v, q_sa e h hk⟩
theorem q_j.s {fs fs' : List Value} {k n : Nat} {v : Int64} (e : fs' = fs.set k (.long v)) (h : fs.length = n) (hk : k < n) : q_j fs' k := ⟨v, q_sa e h hk⟩
/-- all fields but those of K are as before -/
def q_fr (K : List Nat) (fs fs' : List Value) : Prop := ∀ j, j ∉ K → fs'[j]? = fs[j]?
theorem q_fr.rf {K : List Nat} {fs : List Value} : q_fr K fs fs := fun _ _ => rfl
theorem q_fr.st {K : List Nat} {f0 fs fs' : List Value} {k : Nat} {v : Value} (h : q_fr K f0 fs) (e : fs' = fs.set k v) (hk : k ∈ K) : q_fr K f0 fs' := by
  intro j hj
  have hne : k ≠ j := fun q => hj (by rw [← q]; exact hk)
  rw [e, List.getElem?_set_ne hne]; exact h j hj
theorem q_fr.tr {K K' : List Nat} {f0 fs fs' : List Value} (h : q_fr K f0 fs) (h2 : q_fr K' fs fs') (hk : ∀ j ∈ K', j ∈ K) : q_fr K f0 fs' := by
  intro j hj
  rw [h2 j (fun q => hj (hk j q))]; exact h j hj
theorem q_fr.u {K : List Nat} {fs fs' : List Value} {j : Nat} {w : Value} (h : q_fr K fs fs') (hj : j ∉ K) (f : fs[j]? = some w) : fs'[j]? = some w := (h j hj).trans f
/-- addresses alone say that cells are apart -/
def q_DA (A : Nat → Prop) (ads : List Nat) : Prop := ∀ ws : va_W, ws.map Prod.fst = ads → va_D A ws
theorem q_DA.mk {A : Nat → Prop} {ws0 : va_W} {ads : List Nat} (h : va_D A ws0) (ha : ws0.map Prod.fst = ads) : q_DA A ads := by
  intro ws hw
  have key : ∀ (k : Nat) (q : Nat × va_E), ws[k]? = some q → ∃ q0 : Nat × va_E, ws0[k]? = some q0 ∧ q0.1 = q.1 := by
    intro k q hk
    have h1 : (ws.map Prod.fst)[k]? = some q.1 := by rw [List.getElem?_map, hk]; rfl
    rw [hw, ← ha, List.getElem?_map] at h1
    cases h2 : ws0[k]? with
    | none => rw [h2] at h1; cases h1
    | some q0 => rw [h2] at h1; exact ⟨q0, rfl, Option.some.inj h1⟩
  refine ⟨fun a b x y hx hy hxy => ?_, fun k q hk => ?_⟩
  · obtain ⟨x0, e1, e2⟩ := key a x hx
    obtain ⟨y0, e3, e4⟩ := key b y hy
    exact h.1 a b x0 y0 e1 e3 (by rw [e2, e4, hxy])
  · obtain ⟨q0, e1, e2⟩ := key k q hk
    rw [← e2]; exact h.2 k q0 e1
def q_lk (k : Nat) : List Nat → va_W → Nat × va_E → Nat × va_E
  | i :: is, x :: xs, c => cond (Nat.beq i k) x (q_lk k is xs c)
  | _, _, c => c
def q_mrg (is : List Nat) (w : va_W) : Nat → va_W → va_W
  | _, [] => []
  | k, c :: cs => q_lk k is w c :: q_mrg is w (k + 1) cs
def q_setl (ws : va_W) (is : List Nat) (w : va_W) : va_W := q_mrg is w 0 ws
theorem q_lk_at {k : Nat} : ∀ (is : List Nat) (w : va_W) (c q : Nat × va_E), is.length = w.length → q_lk k is w c = q → (∃ j : Nat, w[j]? = some q) ∨ (q = c ∧ k ∉ is) := by
  intro is
  induction is with
  | nil => intro w c q hl h; exact Or.inr ⟨by cases w <;> exact h.symm, List.not_mem_nil⟩
  | cons i is ih =>
    intro w c q hl h
    cases w with
    | nil => cases hl
    | cons x xs =>
      have h' : cond (Nat.beq i k) x (q_lk k is xs c) = q := h
      cases hb : Nat.beq i k with
      | true => rw [hb] at h'; exact Or.inl ⟨0, congrArg some h'⟩
      | false =>
        rw [hb] at h'
        have hne : i ≠ k := fun e => by rw [e, Nat.beq_refl] at hb; cases hb
        rcases ih xs c q (Nat.succ.inj hl) h' with ⟨j, hj⟩ | ⟨h1, h2⟩
        · exact Or.inl ⟨j + 1, hj⟩
        · refine Or.inr ⟨h1, fun hm => ?_⟩
          rcases List.mem_cons.mp hm with e | e
          · exact hne e.symm
          · exact h2 e
theorem q_mrg_at {is : List Nat} {w : va_W} (hl : is.length = w.length) : ∀ (ws : va_W) (k0 k : Nat) (q : Nat × va_E), (q_mrg is w k0 ws)[k]? = some q → (∃ j : Nat, w[j]? = some q) ∨ (ws[k]? = some q ∧ k0 + k ∉ is) := by
  intro ws
  induction ws with
  | nil => intro k0 k q h; cases h
  | cons c cs ih =>
    intro k0 k q h
    cases k with
    | zero =>
      have h' : some (q_lk k0 is w c) = some q := h
      rcases q_lk_at is w c q hl (Option.some.inj h') with h1 | ⟨h1, h2⟩
      · exact Or.inl h1
      · exact Or.inr ⟨by rw [h1]; rfl, h2⟩
    | succ k =>
      have h' : (q_mrg is w (k0 + 1) cs)[k]? = some q := h
      rcases ih (k0 + 1) k q h' with h1 | ⟨h1, h2⟩
      · exact Or.inl h1
      · exact Or.inr ⟨h1, by rw [show k0 + (k + 1) = k0 + 1 + k by omega]; exact h2⟩
theorem q_setl_at : ∀ (is : List Nat) (w ws : va_W) (k : Nat) (q : Nat × va_E), is.length = w.length → (q_setl ws is w)[k]? = some q → (∃ j : Nat, w[j]? = some q) ∨ (ws[k]? = some q ∧ k ∉ is) := by
  intro is w ws k q hl h
  rcases q_mrg_at hl ws 0 k q h with h1 | ⟨h1, h2⟩
  · exact Or.inl h1
  · exact Or.inr ⟨h1, by rw [Nat.zero_add] at h2; exact h2⟩
theorem q_joinS {A0 : Nat → Prop} {D : va_G} {cl : List vw_C} {ws wc w : va_W} {H H1 : Heap} (hP : va_P D cl ws H) (hD : va_D A0 ws) (isC : List Nat) (hC : isC.map (fun i => ws[i]?) = wc.map some)
    (hk : ∀ q : Nat, q < H.size → ¬ va_A wc H.size q → H1[q]? = H[q]?) (hP1 : va_P D cl w H1) (ha : w.map Prod.fst = wc.map Prod.fst) : va_P D cl (q_setl ws isC w) H1 := by
  have hl1 : isC.length = wc.length := by have := congrArg List.length hC; simpa using this
  have hl2 : w.length = wc.length := by have := congrArg List.length ha; simpa using this
  have at' : ∀ (k : Nat) (q : Nat × va_E), wc[k]? = some q → ∃ i, isC[k]? = some i ∧ ws[i]? = some q := by
    intro k q hq
    have h1 : (isC.map (fun i => ws[i]?))[k]? = some (some q) := by rw [hC, List.getElem?_map, hq]; rfl
    rw [List.getElem?_map] at h1
    cases hi : isC[k]? with
    | none => rw [hi] at h1; cases h1
    | some i => rw [hi] at h1; exact ⟨i, rfl, Option.some.inj h1⟩
  intro k q hq
  rcases q_setl_at isC w ws k q (by omega) hq with ⟨j, hj⟩ | ⟨h1, h2⟩
  · exact hP1 j q hj
  · have hlt := (hP k q h1).lt
    refine (hP k q h1).kept (hk q.1 hlt (fun h => ?_))
    rcases h with ⟨k2, e, h⟩ | h
    · obtain ⟨j, h3, h4⟩ := at' k2 (q.1, e) h
      have hij := hD.1 k j q (q.1, e) h1 h4 rfl
      subst hij
      exact h2 (List.mem_of_getElem? h3)
    · omega
def q_pre (D : va_G) (wc : va_W) (tc : List (ClassId × FieldType)) (E : (Nat → Prop) → State → Heap → Prop) (sz : Nat) (U : State) : Prop := U.heap.size = sz ∧ va_P D vwCl wc U.heap ∧ va_K D vwCl tc U ∧ va_D (fun _ => True) wc ∧ E (va_A wc sz) U U.heap
def q_E0 : (Nat → Prop) → State → Heap → Prop := fun _ _ _ => True
/-- what a call leaves of the outside: it holds wherever the heap is the same outside of A -/
def q_warm (E : (Nat → Prop) → State → Heap → Prop) : Prop := (∀ (A : Nat → Prop) (U : State) (g : JFrame) (mk : MethodId) (a : Array Value), E A U U.heap → E A (U.calling g mk a) (U.calling g mk a).heap) ∧ ∀ (A B : Nat → Prop) (s U : State) (H : Heap) (locs : List Loc), E A s s.heap → s.WarmedH U.vm → va_S A s.heap H locs → (∀ q, B q → A q) → E B U H
theorem q_w0 : q_warm q_E0 := ⟨fun _ _ _ _ _ _ => trivial, fun _ _ _ _ _ _ _ _ _ _ => trivial⟩
def q_Qi (D : va_G) (G : Int32 → (va_W → Prop) → Prop) (ads : List Nat) (A : Nat → Prop) : Array Value → State → Outcome → State → Prop := va_Qi (S := Int32) (fun r u => u = r) (fun u t => G u (fun w => va_P D vwCl w t.heap ∧ w.map Prod.fst = ads)) A
def q_Ql (D : va_G) (G : Int64 → (va_W → Prop) → Prop) (ads : List Nat) (A : Nat → Prop) : Array Value → State → Outcome → State → Prop := va_Ql (S := Int64) (fun r u => u = r) (fun u t => G u (fun w => va_P D vwCl w t.heap ∧ w.map Prod.fst = ads)) A
def q_Qv (D : va_G) (G : (va_W → Prop) → Prop) (ads : List Nat) (A : Nat → Prop) : Array Value → State → Outcome → State → Prop := va_Qv (S := Unit) (fun _ => True) (fun _ t => G (fun w => va_P D vwCl w t.heap ∧ w.map Prod.fst = ads)) A
theorem q_blind {D : va_G} {wc : va_W} {tc : List (ClassId × FieldType)} {E : (Nat → Prop) → State → Heap → Prop} {sz : Nat} {av : List Value} (hE : q_warm E) : FrameBlind (va_Pc av (q_pre D wc tc E sz)) := by
  intro a U g mk q
  obtain ⟨q0, q1, qP, qK, qD, qE⟩ := q
  exact ⟨q0, q1, qP, va_K.moved (u := U) (U := U.calling g mk a) (Vm.Alike.refl U.vm) qK, qD, hE.1 _ _ _ _ _ qE⟩
section QC
variable {p : Program} {l : Launch} {e : Env} {R : Room} {s : State} {m : MethodId} {args : Array Value} {below : List Frame} {meth : Method} {c : Code} {H : Heap} {locs : List Loc} {cells slots : Nat} {Q : State → Prop}
variable {cc : ByteArray} {pc : Nat} {ls : Array Slot} {rest st0 : List Value} {D : va_G} {tys tc : List (ClassId × FieldType)} {ws wc : va_W} {ads : List Nat} {A : Nat → Prop} {a : Nat} {av As : List Value} {E : (Nat → Prop) → State → Heap → Prop}
theorem q_prE (hE : q_warm E) (hx : E A s s.heap) (hK : va_K D vwCl tys s) (hP : va_P D vwCl ws H) (hD : va_D A ws) (hS : va_S A s.heap H locs) (hA : ∀ q, s.heap.size ≤ q → A q) (isC isT : List Nat) (hn : va_nd isC = true) (hC : isC.map (fun i => ws[i]?) = wc.map some) (hT : isT.filterMap (fun i => tys[i]?) = tc) : ∀ U : State, U.heap = H → s.WarmedH U.vm → va_Pc av (q_pre D wc tc E H.size) av.toArray U := by
  intro U hU hW
  have h1 : ∀ q : Nat × va_E, q ∈ wc → q ∈ ws := by
    intro q hq
    obtain ⟨k, hk⟩ := List.getElem?_of_mem hq
    have h2 : (isC.map (fun i => ws[i]?))[k]? = some (some q) := by rw [hC, List.getElem?_map, hk]; rfl
    rw [List.getElem?_map] at h2
    cases hi : isC[k]? with
    | none => rw [hi] at h2; cases h2
    | some i => rw [hi] at h2; exact List.mem_of_getElem? (Option.some.inj h2)
  have hPc : va_P D vwCl wc H := by
    intro k q hk
    obtain ⟨i, hi⟩ := List.getElem?_of_mem (h1 q (List.mem_of_getElem? hk))
    exact hP i q hi
  refine ⟨rfl, by rw [hU], by rw [hU]; exact hPc, va_K.moved hW.alike (hK.sub isT hT), (hD.sub isC hn hC).weaken (fun _ _ _ _ => trivial), ?_⟩
  rw [hU]
  exact hE.2 A _ s U H locs hx hW hS (va_free hD hS hA isC hC)
variable {y : MethodName} {bytes : ByteArray} {maxL nL n index : Nat} {ret : Option FieldType} {zw : List Cond} {rm : Room} {Ts : List Cond} {own C : String} {b : Addr}
theorem q_cVi {mc ms : Nat} {G : Int32 → (va_W → Prop) → Prop} (hE : q_warm E) (hxE : E A s s.heap) (hK : va_K D vwCl tys s) (hP : va_P D vwCl ws H) (hDa : q_DA A ads) (hw : ws.map Prod.fst = ads) (hS : va_S A s.heap H locs) (hA : ∀ q, s.heap.size ≤ q → A q) (isC isT : List Nat) (hn : va_nd isC = true) (S : CallFix p m c cc nL s args Ts own)
    (hM : Met l y zw rm (va_Pc (.ref b :: As) (q_pre D wc tc E H.size)) (q_Qi D G (wc.map Prod.fst) (va_A wc H.size)) mc ms (va_A wc H.size)) (hC : isC.map (fun i => ws[i]?) = wc.map some) (hT : isT.filterMap (fun i => tys[i]?) = tc) (cw : CallW R s args own C index y bytes maxL ret zw rm mc ms n) (hrc : ∃ cellB : Cell, H[b]? = some cellB ∧ cellB.vm.isStatics = false ∧ s.vm.findClass C = some cellB.cls) (hm : ∀ (r : Int32) (X Y : va_W → Prop), (∀ w, X w → Y w) → G r X → G r Y)
    (hln : As.length = n) (hsize : ls.size = nL) (hst : st0 = As.reverse ++ .ref b :: rest) (hW : (rest.map fun v => v.category).sum ≤ 8) (hdg : decode cc pc = .ok (.invokevirtual index, 3)) (hf : cells + mc ≤ R.cells ∧ slots + ms ≤ R.slots)
    (kk : ∀ (r : Int32) (H1 : Heap) (locs1 : List Loc), G r (fun w => va_P D vwCl (q_setl ws isC w) H1) → va_S A s.heap H1 locs1 → W p l e R s m args below meth c H1 locs1 (cells + mc) (slots + ms) Q (F0 m (pc + 3) ls (.int r :: rest))) : W p l e R s m args below meth c H locs cells slots Q (F0 m pc ls st0) := by
  have hD := hDa ws hw
  have hF := va_free hD hS hA isC hC
  have hr : va_Run p l e R s m args below meth c H locs cells slots mc ms (F0 m pc ls st0) rest (q_Qi D G (wc.map Prod.fst) (va_A wc H.size) (.ref b :: As).toArray) (va_A wc H.size) := va_runV S hM cw ⟨q_blind hE, hrc, q_prE hE hxE hK hP (hDa ws hw) hS hA isC isT hn hC hT⟩ rfl hln hsize hst (lv_room hW) hdg hf
  refine va_calli hr hS (fun q _ h => hF q h) hF (fun r u t H1 locs1 ht hvm hw1 hB hz1 hk1 hS1 => ?_)
  subst hw1
  refine kk u H1 locs1 (hm u _ _ (fun w h1 => ?_) hB) hS1
  rw [ht] at h1
  exact q_joinS hP hD isC hC hk1 h1.1 h1.2
theorem q_cVl {mc ms : Nat} {G : Int64 → (va_W → Prop) → Prop} (hE : q_warm E) (hxE : E A s s.heap) (hK : va_K D vwCl tys s) (hP : va_P D vwCl ws H) (hDa : q_DA A ads) (hw : ws.map Prod.fst = ads) (hS : va_S A s.heap H locs) (hA : ∀ q, s.heap.size ≤ q → A q) (isC isT : List Nat) (hn : va_nd isC = true) (S : CallFix p m c cc nL s args Ts own)
    (hM : Met l y zw rm (va_Pc (.ref b :: As) (q_pre D wc tc E H.size)) (q_Ql D G (wc.map Prod.fst) (va_A wc H.size)) mc ms (va_A wc H.size)) (hC : isC.map (fun i => ws[i]?) = wc.map some) (hT : isT.filterMap (fun i => tys[i]?) = tc) (cw : CallW R s args own C index y bytes maxL ret zw rm mc ms n) (hrc : ∃ cellB : Cell, H[b]? = some cellB ∧ cellB.vm.isStatics = false ∧ s.vm.findClass C = some cellB.cls) (hm : ∀ (r : Int64) (X Y : va_W → Prop), (∀ w, X w → Y w) → G r X → G r Y)
    (hln : As.length = n) (hsize : ls.size = nL) (hst : st0 = As.reverse ++ .ref b :: rest) (hW : (rest.map fun v => v.category).sum ≤ 8) (hdg : decode cc pc = .ok (.invokevirtual index, 3)) (hf : cells + mc ≤ R.cells ∧ slots + ms ≤ R.slots)
    (kk : ∀ (r : Int64) (H1 : Heap) (locs1 : List Loc), G r (fun w => va_P D vwCl (q_setl ws isC w) H1) → va_S A s.heap H1 locs1 → W p l e R s m args below meth c H1 locs1 (cells + mc) (slots + ms) Q (F0 m (pc + 3) ls (.long r :: rest))) : W p l e R s m args below meth c H locs cells slots Q (F0 m pc ls st0) := by
  have hD := hDa ws hw
  have hF := va_free hD hS hA isC hC
  have hr : va_Run p l e R s m args below meth c H locs cells slots mc ms (F0 m pc ls st0) rest (q_Ql D G (wc.map Prod.fst) (va_A wc H.size) (.ref b :: As).toArray) (va_A wc H.size) := va_runV S hM cw ⟨q_blind hE, hrc, q_prE hE hxE hK hP (hDa ws hw) hS hA isC isT hn hC hT⟩ rfl hln hsize hst (lv_room hW) hdg hf
  refine va_calll hr hS (fun q _ h => hF q h) hF (fun r u t H1 locs1 ht hvm hw1 hB hz1 hk1 hS1 => ?_)
  subst hw1
  refine kk u H1 locs1 (hm u _ _ (fun w h1 => ?_) hB) hS1
  rw [ht] at h1
  exact q_joinS hP hD isC hC hk1 h1.1 h1.2
theorem q_cVv {mc ms : Nat} {G : (va_W → Prop) → Prop} (hE : q_warm E) (hxE : E A s s.heap) (hK : va_K D vwCl tys s) (hP : va_P D vwCl ws H) (hDa : q_DA A ads) (hw : ws.map Prod.fst = ads) (hS : va_S A s.heap H locs) (hA : ∀ q, s.heap.size ≤ q → A q) (isC isT : List Nat) (hn : va_nd isC = true) (S : CallFix p m c cc nL s args Ts own)
    (hM : Met l y zw rm (va_Pc (.ref b :: As) (q_pre D wc tc E H.size)) (q_Qv D G (wc.map Prod.fst) (va_A wc H.size)) mc ms (va_A wc H.size)) (hC : isC.map (fun i => ws[i]?) = wc.map some) (hT : isT.filterMap (fun i => tys[i]?) = tc) (cw : CallW R s args own C index y bytes maxL ret zw rm mc ms n) (hrc : ∃ cellB : Cell, H[b]? = some cellB ∧ cellB.vm.isStatics = false ∧ s.vm.findClass C = some cellB.cls) (hm : ∀ (X Y : va_W → Prop), (∀ w, X w → Y w) → G X → G Y)
    (hln : As.length = n) (hsize : ls.size = nL) (hst : st0 = As.reverse ++ .ref b :: rest) (hW : (rest.map fun v => v.category).sum ≤ 8) (hdg : decode cc pc = .ok (.invokevirtual index, 3)) (hf : cells + mc ≤ R.cells ∧ slots + ms ≤ R.slots)
    (kk : ∀ (H1 : Heap) (locs1 : List Loc), G (fun w => va_P D vwCl (q_setl ws isC w) H1) → va_S A s.heap H1 locs1 → W p l e R s m args below meth c H1 locs1 (cells + mc) (slots + ms) Q (F0 m (pc + 3) ls (rest))) : W p l e R s m args below meth c H locs cells slots Q (F0 m pc ls st0) := by
  have hD := hDa ws hw
  have hF := va_free hD hS hA isC hC
  have hr : va_Run p l e R s m args below meth c H locs cells slots mc ms (F0 m pc ls st0) rest (q_Qv D G (wc.map Prod.fst) (va_A wc H.size) (.ref b :: As).toArray) (va_A wc H.size) := va_runV S hM cw ⟨q_blind hE, hrc, q_prE hE hxE hK hP (hDa ws hw) hS hA isC isT hn hC hT⟩ rfl hln hsize hst (lv_room hW) hdg hf
  refine va_callv hr hS (fun q _ h => hF q h) hF (fun u t H1 locs1 ht hvm hw1 hB hz1 hk1 hS1 => ?_)
  refine kk H1 locs1 (hm _ _ (fun w h1 => ?_) hB) hS1
  rw [ht] at h1
  exact q_joinS hP hD isC hC hk1 h1.1 h1.2
theorem q_cSi {mc ms : Nat} {G : Int32 → (va_W → Prop) → Prop} (hE : q_warm E) (hxE : E A s s.heap) (hK : va_K D vwCl tys s) (hP : va_P D vwCl ws H) (hDa : q_DA A ads) (hw : ws.map Prod.fst = ads) (hS : va_S A s.heap H locs) (hA : ∀ q, s.heap.size ≤ q → A q) (isC isT : List Nat) (hn : va_nd isC = true) (S : CallFix p m c cc nL s args Ts own)
    (hM : Met l y zw rm (va_Pc As (q_pre D wc tc E H.size)) (q_Qi D G (wc.map Prod.fst) (va_A wc H.size)) mc ms (va_A wc H.size)) (hC : isC.map (fun i => ws[i]?) = wc.map some) (hT : isT.filterMap (fun i => tys[i]?) = tc) (cw : CallB R s args own index y bytes maxL ret zw rm mc ms n ∧ (Cond.static y).before args s = true) (hm : ∀ (r : Int32) (X Y : va_W → Prop), (∀ w, X w → Y w) → G r X → G r Y)
    (hln : As.length = n) (hsize : ls.size = nL) (hst : st0 = As.reverse ++ rest) (hW : (rest.map fun v => v.category).sum ≤ 8) (hdg : decode cc pc = .ok (.invokestatic index, 3)) (hf : cells + mc ≤ R.cells ∧ slots + ms ≤ R.slots)
    (kk : ∀ (r : Int32) (H1 : Heap) (locs1 : List Loc), G r (fun w => va_P D vwCl (q_setl ws isC w) H1) → va_S A s.heap H1 locs1 → W p l e R s m args below meth c H1 locs1 (cells + mc) (slots + ms) Q (F0 m (pc + 3) ls (.int r :: rest))) : W p l e R s m args below meth c H locs cells slots Q (F0 m pc ls st0) := by
  have hD := hDa ws hw
  have hF := va_free hD hS hA isC hC
  have hr : va_Run p l e R s m args below meth c H locs cells slots mc ms (F0 m pc ls st0) rest (q_Qi D G (wc.map Prod.fst) (va_A wc H.size) As.toArray) (va_A wc H.size) := va_runS S hM cw ⟨q_blind hE, q_prE hE hxE hK hP (hDa ws hw) hS hA isC isT hn hC hT⟩ rfl hln hsize hst (lv_room hW) hdg hf
  refine va_calli hr hS (fun q _ h => hF q h) hF (fun r u t H1 locs1 ht hvm hw1 hB hz1 hk1 hS1 => ?_)
  subst hw1
  refine kk u H1 locs1 (hm u _ _ (fun w h1 => ?_) hB) hS1
  rw [ht] at h1
  exact q_joinS hP hD isC hC hk1 h1.1 h1.2
theorem q_cSl {mc ms : Nat} {G : Int64 → (va_W → Prop) → Prop} (hE : q_warm E) (hxE : E A s s.heap) (hK : va_K D vwCl tys s) (hP : va_P D vwCl ws H) (hDa : q_DA A ads) (hw : ws.map Prod.fst = ads) (hS : va_S A s.heap H locs) (hA : ∀ q, s.heap.size ≤ q → A q) (isC isT : List Nat) (hn : va_nd isC = true) (S : CallFix p m c cc nL s args Ts own)
    (hM : Met l y zw rm (va_Pc As (q_pre D wc tc E H.size)) (q_Ql D G (wc.map Prod.fst) (va_A wc H.size)) mc ms (va_A wc H.size)) (hC : isC.map (fun i => ws[i]?) = wc.map some) (hT : isT.filterMap (fun i => tys[i]?) = tc) (cw : CallB R s args own index y bytes maxL ret zw rm mc ms n ∧ (Cond.static y).before args s = true) (hm : ∀ (r : Int64) (X Y : va_W → Prop), (∀ w, X w → Y w) → G r X → G r Y)
    (hln : As.length = n) (hsize : ls.size = nL) (hst : st0 = As.reverse ++ rest) (hW : (rest.map fun v => v.category).sum ≤ 8) (hdg : decode cc pc = .ok (.invokestatic index, 3)) (hf : cells + mc ≤ R.cells ∧ slots + ms ≤ R.slots)
    (kk : ∀ (r : Int64) (H1 : Heap) (locs1 : List Loc), G r (fun w => va_P D vwCl (q_setl ws isC w) H1) → va_S A s.heap H1 locs1 → W p l e R s m args below meth c H1 locs1 (cells + mc) (slots + ms) Q (F0 m (pc + 3) ls (.long r :: rest))) : W p l e R s m args below meth c H locs cells slots Q (F0 m pc ls st0) := by
  have hD := hDa ws hw
  have hF := va_free hD hS hA isC hC
  have hr : va_Run p l e R s m args below meth c H locs cells slots mc ms (F0 m pc ls st0) rest (q_Ql D G (wc.map Prod.fst) (va_A wc H.size) As.toArray) (va_A wc H.size) := va_runS S hM cw ⟨q_blind hE, q_prE hE hxE hK hP (hDa ws hw) hS hA isC isT hn hC hT⟩ rfl hln hsize hst (lv_room hW) hdg hf
  refine va_calll hr hS (fun q _ h => hF q h) hF (fun r u t H1 locs1 ht hvm hw1 hB hz1 hk1 hS1 => ?_)
  subst hw1
  refine kk u H1 locs1 (hm u _ _ (fun w h1 => ?_) hB) hS1
  rw [ht] at h1
  exact q_joinS hP hD isC hC hk1 h1.1 h1.2
theorem q_cSv {mc ms : Nat} {G : (va_W → Prop) → Prop} (hE : q_warm E) (hxE : E A s s.heap) (hK : va_K D vwCl tys s) (hP : va_P D vwCl ws H) (hDa : q_DA A ads) (hw : ws.map Prod.fst = ads) (hS : va_S A s.heap H locs) (hA : ∀ q, s.heap.size ≤ q → A q) (isC isT : List Nat) (hn : va_nd isC = true) (S : CallFix p m c cc nL s args Ts own)
    (hM : Met l y zw rm (va_Pc As (q_pre D wc tc E H.size)) (q_Qv D G (wc.map Prod.fst) (va_A wc H.size)) mc ms (va_A wc H.size)) (hC : isC.map (fun i => ws[i]?) = wc.map some) (hT : isT.filterMap (fun i => tys[i]?) = tc) (cw : CallB R s args own index y bytes maxL ret zw rm mc ms n ∧ (Cond.static y).before args s = true) (hm : ∀ (X Y : va_W → Prop), (∀ w, X w → Y w) → G X → G Y)
    (hln : As.length = n) (hsize : ls.size = nL) (hst : st0 = As.reverse ++ rest) (hW : (rest.map fun v => v.category).sum ≤ 8) (hdg : decode cc pc = .ok (.invokestatic index, 3)) (hf : cells + mc ≤ R.cells ∧ slots + ms ≤ R.slots)
    (kk : ∀ (H1 : Heap) (locs1 : List Loc), G (fun w => va_P D vwCl (q_setl ws isC w) H1) → va_S A s.heap H1 locs1 → W p l e R s m args below meth c H1 locs1 (cells + mc) (slots + ms) Q (F0 m (pc + 3) ls (rest))) : W p l e R s m args below meth c H locs cells slots Q (F0 m pc ls st0) := by
  have hD := hDa ws hw
  have hF := va_free hD hS hA isC hC
  have hr : va_Run p l e R s m args below meth c H locs cells slots mc ms (F0 m pc ls st0) rest (q_Qv D G (wc.map Prod.fst) (va_A wc H.size) As.toArray) (va_A wc H.size) := va_runS S hM cw ⟨q_blind hE, q_prE hE hxE hK hP (hDa ws hw) hS hA isC isT hn hC hT⟩ rfl hln hsize hst (lv_room hW) hdg hf
  refine va_callv hr hS (fun q _ h => hF q h) hF (fun u t H1 locs1 ht hvm hw1 hB hz1 hk1 hS1 => ?_)
  refine kk H1 locs1 (hm _ _ (fun w h1 => ?_) hB) hS1
  rw [ht] at h1
  exact q_joinS hP hD isC hC hk1 h1.1 h1.2
theorem q_iret {G : Int32 → (va_W → Prop) → Prop} {v : Int32} (hexec : p.tables.exec = Jvm.exec) (hb : c.code = cc) (hr : meth.sig.returnType = some .int) (hlocks : meth.locks = false) (hS : va_S A s.heap H locs) (hdg : decode cc pc = .ok (.ireturn, 1)) (hG : G v (fun w => va_P D vwCl w H ∧ w.map Prod.fst = ads)) : W p l e R s m args below meth c H locs cells slots (MQ below (q_Qi D G ads A) args s cells slots A) (F0 m pc ls [.int v]) :=
  W.iret hexec hb hr (fun t ht hW => ⟨⟨v, v, rfl, rfl, by dsimp only; rw [ht]; exact hG⟩, hS.F ht⟩) hS.2.2 hdg hlocks
theorem q_zret {G : Int32 → (va_W → Prop) → Prop} {v : Int32} (hexec : p.tables.exec = Jvm.exec) (hb : c.code = cc) (hr : meth.sig.returnType = some .boolean) (hlocks : meth.locks = false) (hv : narrow .boolean (.int v) = .int v) (hS : va_S A s.heap H locs) (hdg : decode cc pc = .ok (.ireturn, 1)) (hG : G v (fun w => va_P D vwCl w H ∧ w.map Prod.fst = ads)) : W p l e R s m args below meth c H locs cells slots (MQ below (q_Qi D G ads A) args s cells slots A) (F0 m pc ls [.int v]) :=
  W.zret hexec hb hr hv (fun t ht hW => ⟨⟨v, v, rfl, rfl, by dsimp only; rw [ht]; exact hG⟩, hS.F ht⟩) hS.2.2 hdg hlocks
theorem q_lret {G : Int64 → (va_W → Prop) → Prop} {v : Int64} (hexec : p.tables.exec = Jvm.exec) (hb : c.code = cc) (hr : meth.sig.returnType = some .long) (hlocks : meth.locks = false) (hS : va_S A s.heap H locs) (hdg : decode cc pc = .ok (.lreturn, 1)) (hG : G v (fun w => va_P D vwCl w H ∧ w.map Prod.fst = ads)) : W p l e R s m args below meth c H locs cells slots (MQ below (q_Ql D G ads A) args s cells slots A) (F0 m pc ls [.long v]) :=
  W.lret hexec hb hr (fun t ht hW => ⟨⟨v, v, rfl, rfl, by dsimp only; rw [ht]; exact hG⟩, hS.F ht⟩) hS.2.2 hdg hlocks
theorem q_vret {G : (va_W → Prop) → Prop} (hexec : p.tables.exec = Jvm.exec) (hb : c.code = cc) (hr : meth.sig.returnType = none) (hlocks : meth.locks = false) (hS : va_S A s.heap H locs) (hdg : decode cc pc = .ok (.return_, 1)) (hG : G (fun w => va_P D vwCl w H ∧ w.map Prod.fst = ads)) : W p l e R s m args below meth c H locs cells slots (MQ below (q_Qv D G ads A) args s cells slots A) (F0 m pc ls []) :=
  W.vret hexec hb hr (fun t ht hW => ⟨⟨(), rfl, trivial, by dsimp only; rw [ht]; exact hG⟩, hS.F ht⟩) hS.2.2 hdg hlocks
theorem q_ild (hexec : p.tables.exec = Jvm.exec) (hb : c.code = cc) (hK : va_K D vwCl tys s) (hP : va_P D vwCl ws H) (q0 t0 : Nat) {cA : ClassId} {n : Nat} {f : Nat → Int32} (ha : ws[q0]? = some (a, .inl (cA, n, .inl f))) (ht : tys[t0]? = some (cA, .int)) {i : Int32} (hin : vp_in i n) (hdg : decode cc pc = .ok (.iaload, 1))
    (kk : ∀ v : Int32, v = f i.toNatClampNeg → W p l e R s m args below meth c H locs cells slots Q (F0 m (pc + 1) ls (.int v :: rest))) : W p l e R s m args below meth c H locs cells slots Q (F0 m pc ls (.int i :: .ref a :: rest)) := va_iald hexec hb hK hP q0 t0 ha ht hin hdg (kk _ rfl)
theorem q_bld (hexec : p.tables.exec = Jvm.exec) (hb : c.code = cc) (hK : va_K D vwCl tys s) (hP : va_P D vwCl ws H) (q0 t0 : Nat) {cA : ClassId} {n : Nat} {f : Nat → Int32} (ha : ws[q0]? = some (a, .inl (cA, n, .inl f))) (ht : tys[t0]? = some (cA, .byte)) {i : Int32} (hin : vp_in i n) (hdg : decode cc pc = .ok (.baload, 1))
    (kk : ∀ v : Int32, v = f i.toNatClampNeg → W p l e R s m args below meth c H locs cells slots Q (F0 m (pc + 1) ls (.int v :: rest))) : W p l e R s m args below meth c H locs cells slots Q (F0 m pc ls (.int i :: .ref a :: rest)) := va_bald hexec hb hK hP q0 t0 ha ht hin hdg (kk _ rfl)
theorem q_zld (hexec : p.tables.exec = Jvm.exec) (hb : c.code = cc) (hK : va_K D vwCl tys s) (hP : va_P D vwCl ws H) (q0 t0 : Nat) {cA : ClassId} {n : Nat} {f : Nat → Int32} (ha : ws[q0]? = some (a, .inl (cA, n, .inl f))) (ht : tys[t0]? = some (cA, .boolean)) {i : Int32} (hin : vp_in i n) (hdg : decode cc pc = .ok (.baload, 1))
    (kk : ∀ v : Int32, v = f i.toNatClampNeg → W p l e R s m args below meth c H locs cells slots Q (F0 m (pc + 1) ls (.int v :: rest))) : W p l e R s m args below meth c H locs cells slots Q (F0 m pc ls (.int i :: .ref a :: rest)) := va_zald hexec hb hK hP q0 t0 ha ht hin hdg (kk _ rfl)
theorem q_lld (hexec : p.tables.exec = Jvm.exec) (hb : c.code = cc) (hK : va_K D vwCl tys s) (hP : va_P D vwCl ws H) (q0 t0 : Nat) {cA : ClassId} {n : Nat} {f : Nat → Int64} (ha : ws[q0]? = some (a, .inl (cA, n, .inr (.inl f)))) (ht : tys[t0]? = some (cA, .long)) {i : Int32} (hin : vp_in i n) (hdg : decode cc pc = .ok (.laload, 1))
    (kk : ∀ v : Int64, v = f i.toNatClampNeg → W p l e R s m args below meth c H locs cells slots Q (F0 m (pc + 1) ls (.long v :: rest))) : W p l e R s m args below meth c H locs cells slots Q (F0 m pc ls (.int i :: .ref a :: rest)) := va_lald hexec hb hK hP q0 t0 ha ht hin hdg (kk _ rfl)
theorem q_ist (hexec : p.tables.exec = Jvm.exec) (hb : c.code = cc) (hK : va_K D vwCl tys s) (hP : va_P D vwCl ws H) (hDa : q_DA A ads) (hw : ws.map Prod.fst = ads) (hS : va_S A s.heap H locs) (q0 t0 : Nat) {cA : ClassId} {n : Nat} {f : Nat → Int32} (ha : ws[q0]? = some (a, .inl (cA, n, .inl f))) (ht : tys[t0]? = some (cA, .int)) {i : Int32} {x : Int32} (hin : vp_in i n) (hdg : decode cc pc = .ok (.iastore, 1))
    (kk : ∀ (H1 : Heap) (locs1 : List Loc) (g : Nat → Int32), g = upd f i.toNatClampNeg x → va_P D vwCl (ws.set q0 (a, .inl (cA, n, .inl g))) H1 → va_S A s.heap H1 locs1 → W p l e R s m args below meth c H1 locs1 cells slots Q (F0 m (pc + 1) ls rest)) : W p l e R s m args below meth c H locs cells slots Q (F0 m pc ls (.int x :: .int i :: .ref a :: rest)) := va_iast hexec hb hK hP (hDa ws hw) hS q0 t0 ha ht hin hdg (fun H1 l1 hP _ hS => kk H1 l1 _ rfl hP hS)
theorem q_bst (hexec : p.tables.exec = Jvm.exec) (hb : c.code = cc) (hK : va_K D vwCl tys s) (hP : va_P D vwCl ws H) (hDa : q_DA A ads) (hw : ws.map Prod.fst = ads) (hS : va_S A s.heap H locs) (q0 t0 : Nat) {cA : ClassId} {n : Nat} {f : Nat → Int32} (ha : ws[q0]? = some (a, .inl (cA, n, .inl f))) (ht : tys[t0]? = some (cA, .byte)) {i : Int32} {x : Int32} (hin : vp_in i n) (hdg : decode cc pc = .ok (.bastore, 1))
    (kk : ∀ (H1 : Heap) (locs1 : List Loc) (g : Nat → Int32), g = upd f i.toNatClampNeg (vp_nar .byte x) → va_P D vwCl (ws.set q0 (a, .inl (cA, n, .inl g))) H1 → va_S A s.heap H1 locs1 → W p l e R s m args below meth c H1 locs1 cells slots Q (F0 m (pc + 1) ls rest)) : W p l e R s m args below meth c H locs cells slots Q (F0 m pc ls (.int x :: .int i :: .ref a :: rest)) := va_bast hexec hb hK hP (hDa ws hw) hS q0 t0 ha ht hin hdg (fun H1 l1 hP _ hS => kk H1 l1 _ rfl hP hS)
theorem q_zst (hexec : p.tables.exec = Jvm.exec) (hb : c.code = cc) (hK : va_K D vwCl tys s) (hP : va_P D vwCl ws H) (hDa : q_DA A ads) (hw : ws.map Prod.fst = ads) (hS : va_S A s.heap H locs) (q0 t0 : Nat) {cA : ClassId} {n : Nat} {f : Nat → Int32} (ha : ws[q0]? = some (a, .inl (cA, n, .inl f))) (ht : tys[t0]? = some (cA, .boolean)) {i : Int32} {x : Int32} (hin : vp_in i n) (hdg : decode cc pc = .ok (.bastore, 1))
    (kk : ∀ (H1 : Heap) (locs1 : List Loc) (g : Nat → Int32), g = upd f i.toNatClampNeg (vp_nar .boolean x) → va_P D vwCl (ws.set q0 (a, .inl (cA, n, .inl g))) H1 → va_S A s.heap H1 locs1 → W p l e R s m args below meth c H1 locs1 cells slots Q (F0 m (pc + 1) ls rest)) : W p l e R s m args below meth c H locs cells slots Q (F0 m pc ls (.int x :: .int i :: .ref a :: rest)) := va_zast hexec hb hK hP (hDa ws hw) hS q0 t0 ha ht hin hdg (fun H1 l1 hP _ hS => kk H1 l1 _ rfl hP hS)
theorem q_lst (hexec : p.tables.exec = Jvm.exec) (hb : c.code = cc) (hK : va_K D vwCl tys s) (hP : va_P D vwCl ws H) (hDa : q_DA A ads) (hw : ws.map Prod.fst = ads) (hS : va_S A s.heap H locs) (q0 t0 : Nat) {cA : ClassId} {n : Nat} {f : Nat → Int64} (ha : ws[q0]? = some (a, .inl (cA, n, .inr (.inl f)))) (ht : tys[t0]? = some (cA, .long)) {i : Int32} {x : Int64} (hin : vp_in i n) (hdg : decode cc pc = .ok (.lastore, 1))
    (kk : ∀ (H1 : Heap) (locs1 : List Loc) (g : Nat → Int64), g = vp_updL f i.toNatClampNeg x → va_P D vwCl (ws.set q0 (a, .inl (cA, n, .inr (.inl g)))) H1 → va_S A s.heap H1 locs1 → W p l e R s m args below meth c H1 locs1 cells slots Q (F0 m (pc + 1) ls rest)) : W p l e R s m args below meth c H locs cells slots Q (F0 m pc ls (.long x :: .int i :: .ref a :: rest)) := va_last hexec hb hK hP (hDa ws hw) hS q0 t0 ha ht hin hdg (fun H1 l1 hP _ hS => kk H1 l1 _ rfl hP hS)
end QC
theorem q_rd' {f : Nat → Int32} {n : Nat} {lo hi : Int} {i v : Int32} (h : ∀ k, k < n → lo ≤ (f k).toInt ∧ (f k).toInt ≤ hi) (hi' : vp_in i n) (e : v = f i.toNatClampNeg) : lo ≤ v.toInt ∧ v.toInt ≤ hi := by
  rw [e]; exact h _ (q_cl hi')
theorem q_up' {f g : Nat → Int32} {n j : Nat} {lo hi : Int} {x : Int32} (h : ∀ k, k < n → lo ≤ (f k).toInt ∧ (f k).toInt ≤ hi) (e : g = upd f j x) (hx : lo ≤ x.toInt ∧ x.toInt ≤ hi) : ∀ k, k < n → lo ≤ (g k).toInt ∧ (g k).toInt ≤ hi := by
  intro k hk
  rw [e]
  by_cases q : k = j
  · rw [q, pk_us]; exact hx
  · rw [pk_un q]; exact h k hk
theorem q_div {x v : Int32} {c : Nat} {y : Int32} (e : v = x / y) (hc : y.toInt = c) (h0 : 0 < c) (h : 0 ≤ x.toInt) : v.toInt = x.toInt / c := by
  rw [e, Int32.toInt_div, hc, Int.tdiv_eq_ediv_of_nonneg h]
  have hr := q_rng x
  have h1 : x.toInt / (c : Int) ≤ x.toInt := Int.ediv_le_self _ h
  have h2 : 0 ≤ x.toInt / (c : Int) := Int.ediv_nonneg h (by omega)
  exact q_bmod (by omega) (by omega)
theorem q_remv {x v y : Int32} (e : v = x - x / y * y) (h0 : 0 < y.toInt) (h : 0 ≤ x.toInt) : v.toInt = x.toInt % y.toInt ∧ 0 ≤ v.toInt ∧ v.toInt < y.toInt := by
  have hr := q_rng x
  obtain ⟨d, ed⟩ : ∃ d : Int32, d = x / y := ⟨_, rfl⟩
  obtain ⟨c, hc⟩ : ∃ c : Nat, y.toInt = c := ⟨y.toInt.toNat, by omega⟩
  have td := q_div (c := c) ed hc (by omega) h
  obtain ⟨z, ez⟩ : ∃ z : Int32, z = d * y := ⟨_, rfl⟩
  have h1 : x.toInt / (c : Int) * (c : Int) ≤ x.toInt := Int.ediv_mul_le _ (by omega)
  have h2 : 0 ≤ x.toInt / (c : Int) := Int.ediv_nonneg h (by omega)
  have h3 : 0 ≤ x.toInt / (c : Int) * (c : Int) := Int.mul_nonneg h2 (by omega)
  have tz := q_mul ez (by rw [td, hc]; omega) (by rw [td, hc]; omega)
  rw [← ed, ← ez] at e
  rw [td, hc] at tz
  have tv := q_sub e (by rw [tz]; omega) (by rw [tz]; omega)
  have hm := Int.emod_def x.toInt (c : Int)
  have hcm := Int.mul_comm (c : Int) (x.toInt / (c : Int))
  have h4 := Int.emod_nonneg x.toInt (b := (c : Int)) (by omega)
  have h5 := Int.emod_lt_of_pos x.toInt (b := (c : Int)) (by omega)
  rw [hc]
  omega
theorem q_rem {x v : Int32} {c : Nat} {y : Int32} (e : v = x - x / y * y) (hc : y.toInt = c) (h0 : 0 < c) (h : 0 ≤ x.toInt) : 0 ≤ v.toInt ∧ v.toInt < c ∧ v.toInt = x.toInt % c := by
  have := q_remv e (by omega) h
  rw [hc] at this
  omega
theorem q_neg {x v : Int32} (e : v = -x) (h : -2147483648 < x.toInt) : v.toInt = - x.toInt := by
  have := q_rng x
  rw [e, Int32.toInt_neg, q_bmod (by omega) (by omega)]
theorem q_of {i c : Int32} (h : i.toInt = c.toInt) : i = c := Int32.toInt_inj.mp h
theorem q_c3 {i : Int32} (h1 : 0 ≤ i.toInt) (h2 : i.toInt ≤ 2) : i = 0 ∨ i = 1 ∨ i = 2 := by
  have : i.toInt = 0 ∨ i.toInt = 1 ∨ i.toInt = 2 := by omega
  rcases this with q | q | q
  · exact Or.inl (q_of (by rw [q]; decide))
  · exact Or.inr (Or.inl (q_of (by rw [q]; decide)))
  · exact Or.inr (Or.inr (q_of (by rw [q]; decide)))
theorem q_c4 {i : Int32} (h1 : 0 ≤ i.toInt) (h2 : i.toInt ≤ 3) : i = 0 ∨ i = 1 ∨ i = 2 ∨ i = 3 := by
  have : i.toInt = 0 ∨ i.toInt = 1 ∨ i.toInt = 2 ∨ i.toInt = 3 := by omega
  rcases this with q | q | q | q
  · exact Or.inl (q_of (by rw [q]; decide))
  · exact Or.inr (Or.inl (q_of (by rw [q]; decide)))
  · exact Or.inr (Or.inr (Or.inl (q_of (by rw [q]; decide))))
  · exact Or.inr (Or.inr (Or.inr (q_of (by rw [q]; decide))))
theorem q_c5 {i : Int32} (h1 : 0 ≤ i.toInt) (h2 : i.toInt ≤ 4) : i = 0 ∨ i = 1 ∨ i = 2 ∨ i = 3 ∨ i = 4 := by
  have : i.toInt = 0 ∨ i.toInt = 1 ∨ i.toInt = 2 ∨ i.toInt = 3 ∨ i.toInt = 4 := by omega
  rcases this with q | q | q | q | q
  · exact Or.inl (q_of (by rw [q]; decide))
  · exact Or.inr (Or.inl (q_of (by rw [q]; decide)))
  · exact Or.inr (Or.inr (Or.inl (q_of (by rw [q]; decide))))
  · exact Or.inr (Or.inr (Or.inr (Or.inl (q_of (by rw [q]; decide)))))
  · exact Or.inr (Or.inr (Or.inr (Or.inr (q_of (by rw [q]; decide)))))
theorem q_mulc {x y v : Int32} {c : Int} (e : v = x * y) (hc : x.toInt = c) (h1 : -2147483648 ≤ c * y.toInt) (h2 : c * y.toInt < 2147483648) : v.toInt = c * y.toInt := by
  rw [← hc] at h1 h2 ⊢; exact q_mul e h1 h2
theorem q_mulk {x y v : Int32} {c : Int} (e : v = x * y) (hc : y.toInt = c) (h1 : -2147483648 ≤ x.toInt * c) (h2 : x.toInt * c < 2147483648) : v.toInt = x.toInt * c := by
  rw [← hc] at h1 h2 ⊢; exact q_mul e h1 h2
