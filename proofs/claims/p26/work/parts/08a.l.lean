/-! two worlds side by side: a call moves in one of them -/
section QL
variable {p : Program} {l : Launch} {e : Env} {R : Room} {s : State} {m : MethodId} {args : Array Value} {below : List Frame} {meth : Method} {c : Code} {H : Heap} {locs : List Loc} {cells slots : Nat} {Q : State → Prop}
variable {cc : ByteArray} {pc : Nat} {ls : Array Slot} {rest st0 : List Value} {D : va_G} {t1 : List (ClassId × FieldType)} {w1 w2 : va_W} {a1 a2 : List Nat} {A : Nat → Prop} {As : List Value} {E : (Nat → Prop) → State → Heap → Prop}
variable {y : MethodName} {bytes : ByteArray} {maxL nL n index : Nat} {ret : Option FieldType} {zw : List Cond} {rm : Room} {Ts : List Cond} {own C : String} {b : Addr}
theorem q_cL {G : Int32 → (va_W → Prop) → Prop} (hE : q_warm E) (hxE : E A s s.heap) (hK : va_K D vwCl t1 s) (hP : va_P D vwCl w1 H) (e1 : w1.map Prod.fst = a1) (hP2 : va_P D vwCl w2 H) (e2 : w2.map Prod.fst = a2) (hDa : q_DA A a1) (hdis : ∀ x ∈ a1, x ∉ a2) (hS : va_S A s.heap H locs) (hA : ∀ q, s.heap.size ≤ q → A q) (S : CallFix p m c cc nL s args Ts own)
    (hM : Met l y zw rm (va_Pc (.ref b :: As) (q_pre D w1 t1 E H.size)) (q_Qi D G (w1.map Prod.fst) (va_A w1 H.size)) 0 0 (va_A w1 H.size)) (cw : CallW R s args own C index y bytes maxL ret zw rm 0 0 n) (hrc : ∃ cellB : Cell, H[b]? = some cellB ∧ cellB.vm.isStatics = false ∧ s.vm.findClass C = some cellB.cls)
    (hln : As.length = n) (hsize : ls.size = nL) (hst : st0 = As.reverse ++ .ref b :: rest) (hW : (rest.map fun v => v.category).sum ≤ 8) (hdg : decode cc pc = .ok (.invokevirtual index, 3)) (hf : cells + 0 ≤ R.cells ∧ slots + 0 ≤ R.slots)
    (kk : ∀ (r : Int32) (H1 : Heap) (locs1 : List Loc) (t : State), t.heap = H1 → G r (fun w => va_P D vwCl w t.heap ∧ w.map Prod.fst = w1.map Prod.fst) → va_P D vwCl w2 H1 → va_S A s.heap H1 locs1 → W p l e R s m args below meth c H1 locs1 cells slots Q (F0 m (pc + 3) ls (.int r :: rest))) : W p l e R s m args below meth c H locs cells slots Q (F0 m pc ls st0) := by
  have hD := hDa w1 e1
  have hF : ∀ q, va_A w1 H.size q → A q := by
    intro q h
    rcases h with ⟨k, e, h⟩ | h
    · exact hD.2 k (q, e) h
    · exact hA q (Nat.le_trans hS.1 h)
  have hr : va_Run p l e R s m args below meth c H locs cells slots 0 0 (F0 m pc ls st0) rest (q_Qi D G (w1.map Prod.fst) (va_A w1 H.size) (Value.ref b :: As).toArray) (va_A w1 H.size) :=
    va_runV S hM cw ⟨q_blind hE, hrc, fun U hU hWm => ⟨rfl, by rw [hU], by rw [hU]; exact hP, va_K.moved hWm.alike hK, hD.weaken (fun _ _ _ _ => trivial), by rw [hU]; exact hE.2 A _ s U H locs hxE hWm hS hF⟩⟩ rfl hln hsize hst (lv_room hW) hdg hf
  refine va_calli hr hS (fun q _ h => hF q h) hF (fun r u t H1 locs1 ht hvm hw1 hB hz1 hk1 hS1 => ?_)
  subst hw1
  refine kk u H1 locs1 t ht hB (fun k q hq => ?_) hS1
  have hlt := (hP2 k q hq).lt
  refine (hP2 k q hq).kept (hk1 q.1 hlt (fun h => ?_))
  have h2 : q.1 ∈ a2 := by rw [← e2]; exact List.mem_map_of_mem (List.mem_of_getElem? hq)
  rcases h with ⟨k2, e9, h⟩ | h
  · exact hdis q.1 (by rw [← e1]; exact List.mem_map.mpr ⟨(q.1, e9), List.mem_of_getElem? h, rfl⟩) h2
  · omega
end QL
theorem IX.recv {q : Nat} {tm : Int32} {wx : va_W} {tx : List (ClassId × FieldType)} {D : va_G} {s : State} {H : Heap} (h : IX q tm wx tx) (hK : va_K D vwCl tx s) (hP : va_P D vwCl wx H) : ∃ cell : Cell, H[q]? = some cell ∧ cell.vm.isStatics = false ∧ s.vm.findClass RX8 = some cell.cls := by
  obtain ⟨ad, ca, fs, bd, bl, bo, rfl, rfl, rfl, -⟩ := h
  exact va_recv hK hP (ci := 7) (q0 := 0) rfl rfl
theorem IM.recv {q : Nat} {tm : Int32} {wx : va_W} {tx : List (ClassId × FieldType)} {D : va_G} {s : State} {H : Heap} (h : IM q tm wx tx) (hK : va_K D vwCl tx s) (hP : va_P D vwCl wx H) : ∃ cell : Cell, H[q]? = some cell ∧ cell.vm.isStatics = false ∧ s.vm.findClass RX9 = some cell.cls := by
  obtain ⟨ad, ca, fs, bd, bl, bo, rfl, rfl, rfl, -⟩ := h
  exact va_recv hK hP (ci := 8) (q0 := 0) rfl rfl
theorem q_w {n : Nat} {c : Cond} (h : lw_tbl[n]? = some c) : c ∈ lw_tbl := List.mem_of_getElem? h
