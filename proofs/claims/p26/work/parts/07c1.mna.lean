theorem vr_outer (c : ClassId) (N h0 : Nat) : ∀ i : Nat, Jvm.Free.Multi.outerC c N h0 i = arrV c N (fun j => va_rf (if j < i then some (h0 + 1 + j) else none))
  | 0 => by
    show ({ cls := c, slots := Array.replicate N .null, vm := .none } : Cell) = _
    rw [arrV_new]
    refine congrArg (arrV c N) (funext fun j => ?_)
    simp [va_rf]
  | i + 1 => by
    show (Jvm.Free.Multi.outerC c N h0 i).setSlot i (.ref (h0 + 1 + i)) = _
    rw [vr_outer c N h0 i, arrV_store]
    refine congrArg (arrV c N) (funext fun j => ?_)
    by_cases e : j = i
    · subst e
      simp [updV, va_rf]
    · by_cases h : j < i
      · simp [updV, e, h, Nat.lt_succ_of_lt h]
      · simp [updV, e, h, show ¬ j < i + 1 by omega]
/-! new T[n][k], its rows kept: the outer row, and the rows behind it -/
section QMNA
variable {p : Program} {l : Launch} {e : Env} {R : Room} {s : State} {m : MethodId} {args : Array Value} {below : List Frame} {meth : Method} {c : Code} {H : Heap} {locs : List Loc} {cells slots : Nat} {Q : State → Prop}
variable {cc : ByteArray} {pc : Nat} {ls : Array Slot} {rest : List Value} {D : va_G} {cl : List vw_C} {A : Nat → Prop} {ws : va_W} {tys : List (ClassId × FieldType)} {H0 : Heap}
def q_inn (q : Nat) (cB : ClassId) (z : vp_A) : Nat → va_W
  | 0 => []
  | n + 1 => q_inn q cB z n ++ [(q + 1 + n, .inl (cB, z))]
theorem q_inn_at {q : Nat} {cB : ClassId} {z : vp_A} : ∀ (n k : Nat) (x : Nat × va_E), (q_inn q cB z n)[k]? = some x → k < n ∧ x = (q + 1 + k, .inl (cB, z)) := by
  intro n
  induction n with
  | zero => intro k x h; cases h
  | succ n ih =>
    intro k x h
    have hl : ∀ n, (q_inn q cB z n).length = n := by
      intro n
      induction n with
      | zero => rfl
      | succ n ih => show (q_inn q cB z n ++ [_]).length = n + 1; rw [List.length_append, ih]; rfl
    have h' : (q_inn q cB z n ++ [(q + 1 + n, .inl (cB, z))])[k]? = some x := h
    by_cases hk : k < n
    · rw [List.getElem?_append_left (by rw [hl]; exact hk)] at h'
      have := ih k x h'
      exact ⟨by omega, this.2⟩
    · rw [List.getElem?_append_right (by rw [hl]; omega), hl] at h'
      have hz : k - n < 1 := (List.getElem?_eq_some_iff.mp h').1
      have e : k = n := by omega
      subst e
      rw [Nat.sub_self] at h'
      cases h'
      exact ⟨by omega, rfl⟩
theorem q_mna (hexec : p.tables.exec = Jvm.exec) (hb : c.code = cc) {own nm : String} {index : Nat} {ty : FieldType} (hown : s.vm.findClass own = some m.cls) (hnm : "[" ++ (FieldType.array ty).toString = nm) (hclink : (Cond.classLink own index nm).before args s = true) (hover : p1_AO (.array ty) s) (harr : (Cond.arrayClass ty).before args s = true)
    (hK : va_K D cl tys s) (hP : va_P D cl ws H) (hD : va_D A ws) (hS : va_S A H0 H locs) (hA : ∀ q, H0.size ≤ q → A q) {n k : Int32} {N' K' : Nat} {z : vp_A} (hn : ¬ n < 0) (hk : ¬ k < 0) (hN : n.toNatClampNeg = N') (hM : k.toNatClampNeg = K')
    (hb1 : N' * 4 ≤ 536870912) (hb2 : K' * componentBytes ty ≤ 536870912) (hb3 : K' ≤ 536870912) (hdf : fits ty (defaultValue ty) = true) (hdd : (defaultValue ty).isDefault = true) (hcells : cells + (1 + N') ≤ R.cells) (hslots : slots + (N' + N' * K') ≤ R.slots) (hz : ∀ c : ClassId, Jvm.Free.Multi.innerC c K' (defaultValue ty) = vp_cell c z) (hRa : ∀ (cB : ClassId), s.vm.findClass (FieldType.array ty).toString = some cB → (∀ M dv, s.isArrayOf (Jvm.Free.Multi.innerC cB M dv) ty ∧ (Jvm.Free.Multi.innerC cB M dv).vm ≠ .unknown) → ArrOfT s cB ty ∧ va_RA s cB ty) (hRo : ∀ (cA : ClassId), s.vm.findClass ("[" ++ (FieldType.array ty).toString) = some cA → (∀ N h0 i, s.isArrayOf (Jvm.Free.Multi.outerC cA N h0 i) (.array ty) ∧ (Jvm.Free.Multi.outerC cA N h0 i).vm ≠ .unknown) → ArrOfT s cA (.array ty) ∧ va_RA s cA (.array ty)) (hdg : decode cc pc = .ok (.multianewarray index 2, 4))
    (kk : ∀ (q : Nat) (cA cB : ClassId) (H1 : Heap), va_K D cl (tys ++ [(cA, .array ty), (cB, ty)]) s → va_P D cl (ws ++ ((q, .inl (cA, N', .inr (.inr (.inr (.inr (fun i => if i < N' then some (q + 1 + i) else none)))))) :: q_inn q cB z N')) H1 → va_D A (ws ++ ((q, .inl (cA, N', .inr (.inr (.inr (.inr (fun i => if i < N' then some (q + 1 + i) else none)))))) :: q_inn q cB z N')) → va_S A H0 H1 locs →
      W p l e R s m args below meth c H1 locs (cells + 1 + N') (slots + N' + N' * K') Q (F0 m (pc + 4) ls (.ref q :: rest))) : W p l e R s m args below meth c H locs cells slots Q (F0 m pc ls (.int k :: .int n :: rest)) := by
  subst hN
  subst hM
  subst hnm
  intro T hT Xs
  obtain ⟨vm₁, cA, comp, -, fA, fC, hO, hI, X', step⟩ := Xs.multianewarray2F hexec hown hclink (p1_AO.use hover) harr (g := F0 m pc ls (.int k :: .int n :: rest)) rfl (by rw [hb]; exact hdg) rfl hn hk hb1 hb2 hb3 hdf hdd hcells hslots
  generalize hF : Jvm.Free.Multi.fill (T.setVm vm₁) cA comp n.toNatClampNeg k.toNatClampNeg (defaultValue ty) n.toNatClampNeg = F at X' step
  have hTh : (T.setVm vm₁).heap = H := hT
  obtain ⟨f1, f2, -, -⟩ := Jvm.Free.Multi.fill_facts (T.setVm vm₁) cA comp n.toNatClampNeg k.toNatClampNeg (defaultValue ty) n.toNatClampNeg
  rw [hF, hTh] at f1 f2
  have hold : ∀ x : Nat, x < H.size → F.heap[x]? = H[x]? := fun x hx => by
    have := Jvm.Free.Multi.fill_old (T.setVm vm₁) cA comp n.toNatClampNeg k.toNatClampNeg (defaultValue ty) (a := x) (by rw [hTh]; exact hx) n.toNatClampNeg
    rw [hF, hTh] at this
    exact this
  have hrow : ∀ j : Nat, j < n.toNatClampNeg → F.heap[H.size + 1 + j]? = some (vp_cell comp z) := fun j hj => by
    have := Jvm.Free.Multi.fill_inner (T.setVm vm₁) cA comp n.toNatClampNeg k.toNatClampNeg (defaultValue ty) n.toNatClampNeg j hj
    rw [hF, hTh, hz] at this
    exact this
  rw [vr_outer] at f2
  have hnew : ∀ (k9 : Nat) (x : Nat × va_E), (((H.size, .inl (cA, n.toNatClampNeg, .inr (.inr (.inr (.inr (fun i => if i < n.toNatClampNeg then some (H.size + 1 + i) else none)))))) :: q_inn H.size comp z n.toNatClampNeg) : va_W)[k9]? = some x → x.1 = H.size + k9 ∧ k9 < n.toNatClampNeg + 1 ∧ va_at D cl x F.heap := by
    intro k9 x hx
    cases k9 with
    | zero => cases hx; exact ⟨rfl, by omega, by show F.heap[H.size]? = some (vp_cell _ _); rw [vp_cell_q]; exact f2⟩
    | succ k9 =>
      obtain ⟨h1, h2⟩ := q_inn_at _ _ _ (show (q_inn H.size comp z n.toNatClampNeg)[k9]? = some x from hx)
      subst h2
      exact ⟨by show H.size + 1 + k9 = _; omega, by omega, hrow k9 h1⟩
  have gK : va_K D cl (tys ++ [(cA, .array ty), (comp, ty)]) s := ⟨hK.1, fun k9 x hx => by
    rcases List.mem_append.mp (List.mem_of_getElem? hx) with h | h
    · obtain ⟨i, hi⟩ := List.getElem?_of_mem h
      exact hK.2 i x hi
    · rcases List.mem_cons.mp h with h | h
      · subst h; exact hRo cA fA hO
      · rcases List.mem_cons.mp h with h | h
        · subst h; exact hRa comp fC hI
        · cases h⟩
  have gD0 : va_D A (((H.size, .inl (cA, n.toNatClampNeg, .inr (.inr (.inr (.inr (fun i => if i < n.toNatClampNeg then some (H.size + 1 + i) else none)))))) :: q_inn H.size comp z n.toNatClampNeg) : va_W) := ⟨fun i j x y hx hy hxy => by
    have h1 := (hnew i x hx).1
    have h2 := (hnew j y hy).1
    omega, fun k9 x hx => by
    have h1 := (hnew k9 x hx).1
    exact hA _ (by have := hS.1; omega)⟩
  have gD : va_D A (ws ++ ((H.size, .inl (cA, n.toNatClampNeg, .inr (.inr (.inr (.inr (fun i => if i < n.toNatClampNeg then some (H.size + 1 + i) else none)))))) :: q_inn H.size comp z n.toNatClampNeg)) := va_D.app hD gD0 (fun i j x y hx hy hxy => by
    have h1 := (hP i x hx).lt
    have h2 := (hnew j y hy).1
    omega)
  have gP := (hP.kept (fun k9 x hx => hold x.1 ((hP k9 x hx).lt))).app (fun k9 x hx => (hnew k9 x hx).2.2)
  have gS : va_S A H0 F.heap locs := ⟨by rw [f1]; have := hS.1; omega, fun x h1 h2 => (hold x (Nat.lt_of_lt_of_le h1 hS.1)).trans (hS.2.1 x h1 h2), hS.2.2⟩
  obtain ⟨t, a1, b1⟩ := kk H.size cA comp F.heap gK gP gD gS F rfl X'
  refine ⟨t, step t ?_, b1⟩
  have e : T.heap.size = H.size := by rw [hT]
  rw [e]
  exact a1
end QMNA
theorem q_hzI {k : Nat} : ∀ c : ClassId, Jvm.Free.Multi.innerC c k (defaultValue .int) = vp_cell c (k, .inl (fun _ => 0)) := fun c => by
  rw [vp_cell_i]
  exact arrV_new _ _ _
theorem q_hzJ {k : Nat} : ∀ c : ClassId, Jvm.Free.Multi.innerC c k (defaultValue .long) = vp_cell c (k, .inr (.inl (fun _ => 0))) := fun c => by
  rw [vp_cell_l]
  exact arrV_new _ _ _
theorem q_cnt0 : q_cnt (fun _ => 0) := ⟨⟨by decide, by decide⟩, ⟨by decide, by decide⟩, ⟨by decide, by decide⟩, ⟨by decide, by decide⟩, ⟨by decide, by decide⟩⟩
theorem q_fn {α : Type} {P : α → Prop} : ∀ t ∈ ([] : List α), P t := fun _ h => by cases h
theorem q_fa {α : Type} {P : α → Prop} {a : α} {l : List α} (h : P a) (hl : ∀ t ∈ l, P t) : ∀ t ∈ a :: l, P t := fun t ht => by
  rcases List.mem_cons.mp ht with e | e
  · rw [e]; exact h
  · exact hl t e
theorem q_z0 {lo hi : Int} (h1 : lo ≤ (0 : Int32).toInt) (h2 : (0 : Int32).toInt ≤ hi) : lo ≤ (0 : Int32).toInt ∧ (0 : Int32).toInt ≤ hi := ⟨h1, h2⟩
theorem q_rg2 {f : Nat → Int32} {a b : Int32} {lo hi : Int} (h0 : f 0 = a) (h1 : f 1 = b) (ha : lo ≤ a.toInt ∧ a.toInt ≤ hi) (hb : lo ≤ b.toInt ∧ b.toInt ≤ hi) : ∀ k, k < 2 → lo ≤ (f k).toInt ∧ (f k).toInt ≤ hi := by
  intro k hk
  have : k = 0 ∨ k = 1 := by omega
  rcases this with rfl | rfl
  · rw [h0]; exact ha
  · rw [h1]; exact hb
theorem q_rg4 {f : Nat → Int32} {a b c d : Int32} {lo hi : Int} (h0 : f 0 = a) (h1 : f 1 = b) (h2 : f 2 = c) (h3 : f 3 = d) (ha : lo ≤ a.toInt ∧ a.toInt ≤ hi) (hb : lo ≤ b.toInt ∧ b.toInt ≤ hi) (hc : lo ≤ c.toInt ∧ c.toInt ≤ hi) (hd : lo ≤ d.toInt ∧ d.toInt ≤ hi) : ∀ k, k < 4 → lo ≤ (f k).toInt ∧ (f k).toInt ≤ hi := by
  intro k hk
  have : k = 0 ∨ k = 1 ∨ k = 2 ∨ k = 3 := by omega
  rcases this with rfl | rfl | rfl | rfl
  · rw [h0]; exact ha
  · rw [h1]; exact hb
  · rw [h2]; exact hc
  · rw [h3]; exact hd
theorem q_box0 : q_box (fun _ => 0) := fun b _ => ⟨⟨show (0 : Int) ≤ (0 : Int32).toInt by decide, show (0 : Int32).toInt ≤ 12 by decide⟩, show (0 : Int) ≤ (0 : Int32).toInt by decide, show (0 : Int32).toInt ≤ (0 : Int32).toInt by decide, show (0 : Int32).toInt ≤ 100000 by decide⟩
