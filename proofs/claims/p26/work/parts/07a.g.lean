/-! contracts over larger worlds -/
theorem Met.conseq {l : Launch} {y : MethodName} {ws : List Cond} {rm : Room} {Pc Pc' : Array Value → State → Prop} {Qc Qc' : Array Value → State → Outcome → State → Prop} {mc ms : Nat} {free free' : Addr → Prop} (h : Met l y ws rm Pc Qc mc ms free) (hp : ∀ a s, Pc' a s → Pc a s) (hq : ∀ a st o t, Pc' a st → Qc a st o t → Qc' a st o t) (hf : ∀ q, free q → free' q) : Met l y ws rm Pc' Qc' mc ms free' := by
  intro p e h1 h2 h3 s m args below h4 h5 h6 h7
  obtain ⟨n, o, a1, a2, a3, a4, L, a5, a6⟩ := h p e h1 h2 h3 s m args below h4 h5 (hp _ _ h6) h7
  exact ⟨n, o, a1, a2, a3, hq _ _ _ _ h6 a4, L, a5, fun q hq9 => hf _ (a6 q hq9)⟩
/-- what holds outside of A holds outside of less -/
def q_nar (E : (Nat → Prop) → State → Heap → Prop) : Prop := ∀ (A B : Nat → Prop) (U : State) (H : Heap), E A U H → (∀ q, B q → A q) → E B U H
theorem q_nar0 : q_nar q_E0 := fun _ _ _ _ _ _ => trivial
theorem q_narx : q_nar q_ex := by
  intro A B U H h hAB
  obtain ⟨sK, sV, ru, pu, gK, gV, sf, rf, pf, gf, n, o, r1, ⟨t1, t2, t3, t4⟩, z1, z2, ⟨y1, y2⟩, ⟨w1, w2⟩, r2, ⟨g1, g2, g3, g4⟩⟩ := h
  exact ⟨sK, sV, ru, pu, gK, gV, sf, rf, pf, gf, n, o, r1, ⟨t1.narrow hAB, t2.narrow hAB, t3.narrow hAB, t4.narrow hAB⟩, z1.narrow hAB, z2.narrow hAB, ⟨y1.narrow hAB, y2.narrow hAB⟩, ⟨w1.narrow hAB, w2.narrow hAB⟩, r2, ⟨g1.narrow hAB, g2.narrow hAB, g3.narrow hAB, g4.narrow hAB⟩⟩
section QG
variable {l : Launch} {y : MethodName} {zw : List Cond} {rm : Room} {D : va_G} {ws wc : va_W} {ts tc : List (ClassId × FieldType)} {E E' : (Nat → Prop) → State → Heap → Prop} {sz mc ms : Nat} {av : List Value}
theorem q_gpre (hE : ∀ (A B : Nat → Prop) (U : State) (H : Heap), E' A U H → (∀ q, B q → A q) → E B U H) (isC isT : List Nat) (hn : va_nd isC = true) (hC : isC.map (fun i => ws[i]?) = wc.map some) (hT : isT.filterMap (fun i => ts[i]?) = tc) : ∀ a s, va_Pc av (q_pre D ws ts E' sz) a s → va_Pc av (q_pre D wc tc E sz) a s := by
  intro a s h
  obtain ⟨h0, h1, hP, hK, hD, hx⟩ := h
  have hm : ∀ q : Nat × va_E, q ∈ wc → q ∈ ws := by
    intro q hq
    obtain ⟨k, hk⟩ := List.getElem?_of_mem hq
    have h2 : (isC.map (fun i => ws[i]?))[k]? = some (some q) := by rw [hC, List.getElem?_map, hk]; rfl
    rw [List.getElem?_map] at h2
    cases hi : isC[k]? with
    | none => rw [hi] at h2; cases h2
    | some i => rw [hi] at h2; exact List.mem_of_getElem? (Option.some.inj h2)
  refine ⟨h0, h1, fun k q hk => ?_, hK.sub isT hT, hD.sub isC hn hC, hE _ _ _ _ hx (fun q hq => ?_)⟩
  · obtain ⟨i, hi⟩ := List.getElem?_of_mem (hm q (List.mem_of_getElem? hk))
    exact hP i q hi
  · rcases hq with ⟨k, e, hk⟩ | hq
    · obtain ⟨i, hi⟩ := List.getElem?_of_mem (hm (q, e) (List.mem_of_getElem? hk))
      exact Or.inl ⟨i, e, hi⟩
    · exact Or.inr hq
theorem q_gA (isC : List Nat) (hC : isC.map (fun i => ws[i]?) = wc.map some) : ∀ q, va_A wc sz q → va_A ws sz q := by
  intro q hq
  rcases hq with ⟨k, e, hk⟩ | hq
  · have h2 : (isC.map (fun i => ws[i]?))[k]? = some (some (q, e)) := by rw [hC, List.getElem?_map, hk]; rfl
    rw [List.getElem?_map] at h2
    cases hi : isC[k]? with
    | none => rw [hi] at h2; cases h2
    | some i => rw [hi] at h2; exact Or.inl ⟨i, e, Option.some.inj h2⟩
  · exact Or.inr hq
theorem q_growi {G : Int32 → (va_W → Prop) → Prop} {G' : Int32 → (va_W → Prop) → Prop} (hM : Met l y zw rm (va_Pc av (q_pre D wc tc E sz)) (q_Qi D G (wc.map Prod.fst) (va_A wc sz)) mc ms (va_A wc sz)) (hE : ∀ (A B : Nat → Prop) (U : State) (H : Heap), E' A U H → (∀ q, B q → A q) → E B U H) (isC isT : List Nat) (hn : va_nd isC = true) (hC : isC.map (fun i => ws[i]?) = wc.map some) (hT : isT.filterMap (fun i => ts[i]?) = tc) (hm : ∀ (r : Int32) (X Y : va_W → Prop), (∀ w, X w → Y w) → G r X → G r Y)
    (hk : ∀ (r : Int32) (H : Heap), G r (fun w => va_P D vwCl (q_setl ws isC w) H) → G' r (fun w => va_P D vwCl w H ∧ w.map Prod.fst = ws.map Prod.fst)) : Met l y zw rm (va_Pc av (q_pre D ws ts E' sz)) (q_Qi D G' (ws.map Prod.fst) (va_A ws sz)) mc ms (va_A ws sz) := by
  refine hM.conseq (q_gpre hE isC isT hn hC hT) (fun a st o t hp hq => ?_) (q_gA isC hC)
  obtain ⟨⟨r, u, e1, e2, hg⟩, hz, hf⟩ := hq
  obtain ⟨-, hs, hP, -, hD, -⟩ := hp
  refine ⟨⟨r, u, e1, e2, hk u t.heap (hm u _ _ (fun w h1 => ?_) hg)⟩, hz, fun q h1 h2 => hf q h1 (fun h3 => h2 (q_gA isC hC q h3))⟩
  exact q_joinS hP hD isC hC (fun q h3 h4 => hf q h3 (by rw [hs] at h4; exact h4)) h1.1 h1.2
end QG
def q_u {α : Type} (f : Nat → α) (j : Nat) (y : α) : Nat → α := fun k => if k = j then y else f k
theorem q_u_all {α : Type} {ok : Nat → α → Prop} {f : Nat → α} {j : Nat} {y : α} (h : ∀ k, ok k (f k)) (hy : ok j y) : ∀ k, ok k (q_u f j y k) := by
  intro k
  unfold q_u
  by_cases e : k = j
  · rw [if_pos e, e]; exact hy
  · rw [if_neg e]; exact h k
theorem q_u_refs {ad : Nat → Nat} {fs : Nat → List Value} {refs : List (Nat × Nat × Nat)} {j : Nat} {y : List Value} {K : List Nat} (h : ∀ t ∈ refs, (fs t.1)[t.2.1]? = some (.ref (ad t.2.2))) (hf : q_fr K (fs j) y) (hk : ∀ t ∈ refs, t.1 = j → t.2.1 ∉ K) : ∀ t ∈ refs, (q_u fs j y t.1)[t.2.1]? = some (.ref (ad t.2.2)) := by
  intro t ht
  unfold q_u
  by_cases e : t.1 = j
  · rw [if_pos e, hf _ (hk t ht e), ← e]; exact h t ht
  · rw [if_neg e]; exact h t ht
theorem q_u_rng {bd : Nat → Nat → Int32} {rn : List (Nat × Nat × Int × Int)} {j n : Nat} {lo hi : Int} {y : Nat → Int32} (h : ∀ t ∈ rn, ∀ k, k < t.2.1 → t.2.2.1 ≤ (bd t.1 k).toInt ∧ (bd t.1 k).toInt ≤ t.2.2.2) (hd : ∀ t ∈ rn, t.1 = j → t = (j, n, lo, hi)) (hy : ∀ k, k < n → lo ≤ (y k).toInt ∧ (y k).toInt ≤ hi) : ∀ t ∈ rn, ∀ k, k < t.2.1 → t.2.2.1 ≤ (q_u bd j y t.1 k).toInt ∧ (q_u bd j y t.1 k).toInt ≤ t.2.2.2 := by
  intro t ht k hk
  unfold q_u
  by_cases e : t.1 = j
  · rw [if_pos e]
    have := hd t ht e
    subst this
    exact hy k hk
  · rw [if_neg e]; exact h t ht k hk
theorem q_u_rn0 {bd : Nat → Nat → Int32} {rn : List (Nat × Nat × Int × Int)} {j : Nat} {y : Nat → Int32} (h : ∀ t ∈ rn, ∀ k, k < t.2.1 → t.2.2.1 ≤ (bd t.1 k).toInt ∧ (bd t.1 k).toInt ≤ t.2.2.2) (hd : ∀ t ∈ rn, t.1 ≠ j) : ∀ t ∈ rn, ∀ k, k < t.2.1 → t.2.2.1 ≤ (q_u bd j y t.1 k).toInt ∧ (q_u bd j y t.1 k).toInt ≤ t.2.2.2 := by
  intro t ht k hk
  unfold q_u
  rw [if_neg (hd t ht)]; exact h t ht k hk
def zWX (ad : Nat → Nat) (ca : Nat → ClassId) (fs : Nat → List Value) (bd : Nat → Nat → Int32) (bl : Nat → Nat → Int64) (bo : Nat → Nat → Option Nat) : va_W := [(ad 0, .inr (7, fs 0)), (ad 1, .inl (ca 1, 1600, .inl (bd 1))), (ad 2, .inr (4, fs 2)), (ad 3, .inl (ca 3, 22, .inr (.inl (bl 3)))), (ad 4, .inr (0, fs 4)), (ad 5, .inl (ca 5, 12, .inl (bd 5))), (ad 6, .inl (ca 6, 2, .inl (bd 6))), (ad 7, .inr (6, fs 7)), (ad 8, .inr (0, fs 8)), (ad 9, .inl (ca 9, 12, .inl (bd 9))), (ad 10, .inl (ca 10, 2, .inl (bd 10))), (ad 11, .inl (ca 11, 8, .inl (bd 11))), (ad 12, .inl (ca 12, 8, .inl (bd 12))), (ad 13, .inr (2, fs 13)), (ad 14, .inl (ca 14, 40, .inl (bd 14))), (ad 15, .inl (ca 15, 40, .inl (bd 15))), (ad 16, .inl (ca 16, 40, .inl (bd 16))), (ad 17, .inl (ca 17, 40, .inl (bd 17))), (ad 18, .inl (ca 18, 40, .inl (bd 18))), (ad 19, .inl (ca 19, 40, .inl (bd 19))), (ad 20, .inl (ca 20, 40, .inl (bd 20))), (ad 21, .inl (ca 21, 3, .inr (.inr (.inr (.inr (bo 21)))))), (ad 22, .inr (1, fs 22)), (ad 23, .inr (0, fs 23)), (ad 24, .inl (ca 24, 12, .inl (bd 24))), (ad 25, .inl (ca 25, 2, .inl (bd 25))), (ad 26, .inr (1, fs 26)), (ad 27, .inr (0, fs 27)), (ad 28, .inl (ca 28, 12, .inl (bd 28))), (ad 29, .inl (ca 29, 2, .inl (bd 29))), (ad 30, .inr (1, fs 30)), (ad 31, .inr (0, fs 31)), (ad 32, .inl (ca 32, 12, .inl (bd 32))), (ad 33, .inl (ca 33, 2, .inl (bd 33))), (ad 34, .inl (ca 34, 12, .inl (bd 34))), (ad 35, .inl (ca 35, 6, .inl (bd 35))), (ad 36, .inl (ca 36, 6, .inl (bd 36))), (ad 37, .inr (5, fs 37)), (ad 38, .inl (ca 38, 5, .inl (bd 38))), (ad 39, .inl (ca 39, 5, .inr (.inr (.inr (.inr (bo 39)))))), (ad 40, .inl (ca 40, 6, .inr (.inl (bl 40)))), (ad 41, .inl (ca 41, 6, .inr (.inl (bl 41)))), (ad 42, .inl (ca 42, 6, .inr (.inl (bl 42)))), (ad 43, .inl (ca 43, 6, .inr (.inl (bl 43)))), (ad 44, .inl (ca 44, 6, .inr (.inl (bl 44)))), (ad 45, .inl (ca 45, 6, .inl (bd 45))), (ad 46, .inl (ca 46, 6, .inl (bd 46))), (ad 47, .inl (ca 47, 4, .inl (bd 47))), (ad 48, .inl (ca 48, 4, .inl (bd 48))), (ad 49, .inl (ca 49, 4, .inl (bd 49))), (ad 50, .inl (ca 50, 4, .inl (bd 50))), (ad 51, .inl (ca 51, 4, .inr (.inr (.inr (.inr (bo 51)))))), (ad 52, .inl (ca 52, 8, .inl (bd 52))), (ad 53, .inl (ca 53, 8, .inl (bd 53))), (ad 54, .inl (ca 54, 8, .inl (bd 54))), (ad 55, .inl (ca 55, 8, .inl (bd 55))), (ad 56, .inl (ca 56, 4, .inr (.inr (.inr (.inr (bo 56)))))), (ad 57, .inl (ca 57, 8, .inl (bd 57))), (ad 58, .inl (ca 58, 8, .inl (bd 58))), (ad 59, .inl (ca 59, 8, .inl (bd 59))), (ad 60, .inl (ca 60, 8, .inl (bd 60))), (ad 61, .inl (ca 61, 4, .inl (bd 61))), (ad 62, .inl (ca 62, 4, .inl (bd 62))), (ad 63, .inr (3, fs 63)), (ad 64, .inl (ca 64, 600, .inl (bd 64))), (ad 65, .inl (ca 65, 6, .inl (bd 65))), (ad 66, .inl (ca 66, 60, .inl (bd 66))), (ad 67, .inl (ca 67, 2, .inl (bd 67))), (ad 68, .inl (ca 68, 2, .inl (bd 68))), (ad 69, .inr (5, fs 69)), (ad 70, .inl (ca 70, 5, .inl (bd 70))), (ad 71, .inl (ca 71, 5, .inr (.inr (.inr (.inr (bo 71)))))), (ad 72, .inl (ca 72, 6, .inr (.inl (bl 72)))), (ad 73, .inl (ca 73, 6, .inr (.inl (bl 73)))), (ad 74, .inl (ca 74, 6, .inr (.inl (bl 74)))), (ad 75, .inl (ca 75, 6, .inr (.inl (bl 75)))), (ad 76, .inl (ca 76, 6, .inr (.inl (bl 76)))), (ad 77, .inl (ca 77, 6, .inl (bd 77))), (ad 78, .inl (ca 78, 6, .inl (bd 78))), (ad 79, .inl (ca 79, 4, .inl (bd 79))), (ad 80, .inl (ca 80, 4, .inl (bd 80))), (ad 81, .inl (ca 81, 4, .inl (bd 81))), (ad 82, .inl (ca 82, 4, .inl (bd 82))), (ad 83, .inl (ca 83, 4, .inr (.inr (.inr (.inr (bo 83)))))), (ad 84, .inl (ca 84, 8, .inl (bd 84))), (ad 85, .inl (ca 85, 8, .inl (bd 85))), (ad 86, .inl (ca 86, 8, .inl (bd 86))), (ad 87, .inl (ca 87, 8, .inl (bd 87))), (ad 88, .inl (ca 88, 4, .inr (.inr (.inr (.inr (bo 88)))))), (ad 89, .inl (ca 89, 8, .inl (bd 89))), (ad 90, .inl (ca 90, 8, .inl (bd 90))), (ad 91, .inl (ca 91, 8, .inl (bd 91))), (ad 92, .inl (ca 92, 8, .inl (bd 92))), (ad 93, .inl (ca 93, 4, .inl (bd 93))), (ad 94, .inl (ca 94, 4, .inl (bd 94))), (ad 95, .inr (3, fs 95)), (ad 96, .inl (ca 96, 600, .inl (bd 96))), (ad 97, .inl (ca 97, 6, .inl (bd 97))), (ad 98, .inl (ca 98, 60, .inl (bd 98))), (ad 99, .inl (ca 99, 2, .inl (bd 99))), (ad 100, .inl (ca 100, 2, .inl (bd 100)))]
def zTX (ca : Nat → ClassId) : List (ClassId × FieldType) := [(ca 1, .byte), (ca 3, .long), (ca 5, .int), (ca 6, .int), (ca 9, .int), (ca 10, .int), (ca 11, .int), (ca 12, .int), (ca 14, .int), (ca 15, .int), (ca 16, .int), (ca 17, .int), (ca 18, .boolean), (ca 19, .int), (ca 20, .int), (ca 21, .object RX1), (ca 24, .int), (ca 25, .int), (ca 28, .int), (ca 29, .int), (ca 32, .int), (ca 33, .int), (ca 34, .int), (ca 35, .int), (ca 36, .int), (ca 38, .int), (ca 39, .array .long), (ca 40, .long), (ca 41, .long), (ca 42, .long), (ca 43, .long), (ca 44, .long), (ca 45, .int), (ca 46, .int), (ca 47, .int), (ca 48, .int), (ca 49, .int), (ca 50, .int), (ca 51, .array .int), (ca 52, .int), (ca 53, .int), (ca 54, .int), (ca 55, .int), (ca 56, .array .int), (ca 57, .int), (ca 58, .int), (ca 59, .int), (ca 60, .int), (ca 61, .int), (ca 62, .int), (ca 64, .int), (ca 65, .int), (ca 66, .int), (ca 67, .int), (ca 68, .boolean), (ca 70, .int), (ca 71, .array .long), (ca 72, .long), (ca 73, .long), (ca 74, .long), (ca 75, .long), (ca 76, .long), (ca 77, .int), (ca 78, .int), (ca 79, .int), (ca 80, .int), (ca 81, .int), (ca 82, .int), (ca 83, .array .int), (ca 84, .int), (ca 85, .int), (ca 86, .int), (ca 87, .int), (ca 88, .array .int), (ca 89, .int), (ca 90, .int), (ca 91, .int), (ca 92, .int), (ca 93, .int), (ca 94, .int), (ca 96, .int), (ca 97, .int), (ca 98, .int), (ca 99, .int), (ca 100, .boolean)]
def okX (k : Nat) (f : List Value) : Prop := match k with
  | 0 => OKX8 f
  | 2 => OKX4 f
  | 4 => OKX0 f
  | 7 => OKX7 f
  | 8 => OKX0 f
  | 13 => OKX2 f
  | 22 => OKX1 f
  | 23 => OKX0 f
  | 26 => OKX1 f
  | 27 => OKX0 f
  | 30 => OKX1 f
  | 31 => OKX0 f
  | 37 => OKX5 f
  | 63 => OKX3 f
  | 69 => OKX5 f
  | 95 => OKX3 f
  | _ => True
def refsX : List (Nat × Nat × Nat) := [(0, 0, 1), (2, 0, 3), (0, 1, 2), (4, 0, 5), (4, 1, 6), (0, 2, 4), (8, 0, 9), (8, 1, 10), (7, 0, 8), (7, 1, 11), (7, 2, 12), (0, 3, 7), (13, 0, 14), (13, 1, 15), (13, 2, 16), (13, 3, 17), (13, 4, 18), (13, 5, 19), (13, 6, 20), (0, 4, 13), (23, 0, 24), (23, 1, 25), (22, 0, 23), (27, 0, 28), (27, 1, 29), (26, 0, 27), (31, 0, 32), (31, 1, 33), (30, 0, 31), (0, 5, 21), (0, 6, 34), (0, 7, 35), (0, 8, 36), (37, 0, 38), (37, 1, 39), (37, 2, 45), (37, 3, 46), (37, 4, 47), (37, 5, 48), (37, 6, 49), (37, 7, 50), (37, 8, 51), (37, 9, 56), (37, 10, 61), (37, 11, 62), (63, 0, 64), (63, 1, 65), (63, 2, 66), (37, 12, 63), (37, 13, 67), (37, 14, 68), (69, 0, 70), (69, 1, 71), (69, 2, 77), (69, 3, 78), (69, 4, 79), (69, 5, 80), (69, 6, 81), (69, 7, 82), (69, 8, 83), (69, 9, 88), (69, 10, 93), (69, 11, 94), (95, 0, 96), (95, 1, 97), (95, 2, 98), (69, 12, 95), (69, 13, 99), (69, 14, 100)]
def hnX : List (Nat × Nat × Nat) := [(21, 0, 22), (21, 1, 26), (21, 2, 30), (39, 0, 40), (39, 1, 41), (39, 2, 42), (39, 3, 43), (39, 4, 44), (51, 0, 52), (51, 1, 53), (51, 2, 54), (51, 3, 55), (56, 0, 57), (56, 1, 58), (56, 2, 59), (56, 3, 60), (71, 0, 72), (71, 1, 73), (71, 2, 74), (71, 3, 75), (71, 4, 76), (83, 0, 84), (83, 1, 85), (83, 2, 86), (83, 3, 87), (88, 0, 89), (88, 1, 90), (88, 2, 91), (88, 3, 92)]
def rnX : List (Nat × Nat × Int × Int) := [(11, 8, 0, 99), (12, 8, 0, 99), (14, 40, 0, 5), (15, 40, 0, 3), (16, 40, 0, 500), (45, 6, 0, 12), (47, 4, 0, 99), (48, 4, 0, 99), (49, 4, 0, 999), (50, 4, 0, 8), (52, 8, 0, 99), (53, 8, 0, 99), (54, 8, 0, 99), (55, 8, 0, 99), (57, 8, 0, 99), (58, 8, 0, 99), (59, 8, 0, 99), (60, 8, 0, 99), (61, 4, 0, 2000), (62, 4, 0, 999), (65, 6, 0, 600), (67, 2, 0, 999), (77, 6, 0, 12), (79, 4, 0, 99), (80, 4, 0, 99), (81, 4, 0, 999), (82, 4, 0, 8), (84, 8, 0, 99), (85, 8, 0, 99), (86, 8, 0, 99), (87, 8, 0, 99), (89, 8, 0, 99), (90, 8, 0, 99), (91, 8, 0, 99), (92, 8, 0, 99), (93, 4, 0, 2000), (94, 4, 0, 999), (97, 6, 0, 600), (99, 2, 0, 999)]
def IX (q : Nat) (tm : Int32) (wx : va_W) (tx : List (ClassId × FieldType)) : Prop := ∃ (ad : Nat → Nat) (ca : Nat → ClassId) (fs : Nat → List Value) (bd : Nat → Nat → Int32) (bl : Nat → Nat → Int64) (bo : Nat → Nat → Option Nat), wx = zWX ad ca fs bd bl bo ∧ tx = zTX ca ∧ q = ad 0 ∧ (fs 0)[13]? = some (.int tm) ∧ (∀ k, okX k (fs k)) ∧ (∀ t ∈ refsX, (fs t.1)[t.2.1]? = some (.ref (ad t.2.2))) ∧ (∀ t ∈ hnX, bo t.1 t.2.1 = some (ad t.2.2)) ∧ (∀ t ∈ rnX, ∀ k, k < t.2.1 → t.2.2.1 ≤ (bd t.1 k).toInt ∧ (bd t.1 k).toInt ≤ t.2.2.2) ∧ q_cnt (bd 38) ∧ q_cnt (bd 70) ∧ (((fs 0)[9]? = some (.ref (ad 37)) ∧ (fs 2)[8]? = some (.ref (ad 69))) ∨ ((fs 0)[9]? = some (.ref (ad 69)) ∧ (fs 2)[8]? = some (.ref (ad 37))))
def zWM (ad : Nat → Nat) (ca : Nat → ClassId) (fs : Nat → List Value) (bd : Nat → Nat → Int32) (bl : Nat → Nat → Int64) (bo : Nat → Nat → Option Nat) : va_W := [(ad 0, .inr (8, fs 0)), (ad 1, .inl (ca 1, 1620, .inl (bd 1))), (ad 2, .inl (ca 2, 1600, .inl (bd 2))), (ad 3, .inl (ca 3, 2, .inl (bd 3))), (ad 4, .inl (ca 4, 2, .inl (bd 4))), (ad 5, .inl (ca 5, 2, .inl (bd 5))), (ad 6, .inl (ca 6, 2, .inl (bd 6))), (ad 7, .inl (ca 7, 2, .inl (bd 7))), (ad 8, .inl (ca 8, 2, .inl (bd 8))), (ad 9, .inl (ca 9, 2, .inl (bd 9))), (ad 10, .inl (ca 10, 2, .inl (bd 10))), (ad 11, .inl (ca 11, 2, .inl (bd 11))), (ad 12, .inl (ca 12, 2, .inl (bd 12))), (ad 13, .inl (ca 13, 12, .inr (.inl (bl 13)))), (ad 14, .inl (ca 14, 8, .inr (.inl (bl 14)))), (ad 15, .inl (ca 15, 8, .inr (.inl (bl 15)))), (ad 16, .inl (ca 16, 6, .inr (.inl (bl 16)))), (ad 17, .inl (ca 17, 8, .inr (.inl (bl 17)))), (ad 18, .inl (ca 18, 12, .inl (bd 18))), (ad 19, .inl (ca 19, 12, .inl (bd 19))), (ad 20, .inl (ca 20, 8, .inl (bd 20))), (ad 21, .inl (ca 21, 8, .inl (bd 21))), (ad 22, .inl (ca 22, 8, .inl (bd 22))), (ad 23, .inl (ca 23, 8, .inl (bd 23))), (ad 24, .inl (ca 24, 64, .inl (bd 24))), (ad 25, .inl (ca 25, 64, .inl (bd 25))), (ad 26, .inl (ca 26, 8, .inl (bd 26))), (ad 27, .inl (ca 27, 8, .inl (bd 27))), (ad 28, .inl (ca 28, 12, .inl (bd 28))), (ad 29, .inl (ca 29, 12, .inl (bd 29))), (ad 30, .inl (ca 30, 1800, .inl (bd 30))), (ad 31, .inl (ca 31, 1800, .inl (bd 31))), (ad 32, .inl (ca 32, 120, .inl (bd 32))), (ad 33, .inl (ca 33, 120, .inl (bd 33))), (ad 34, .inl (ca 34, 90, .inl (bd 34))), (ad 35, .inl (ca 35, 12, .inl (bd 35))), (ad 36, .inl (ca 36, 2, .inl (bd 36))), (ad 37, .inl (ca 37, 6, .inl (bd 37))), (ad 38, .inl (ca 38, 6, .inl (bd 38))), (ad 39, .inl (ca 39, 40, .inl (bd 39))), (ad 40, .inl (ca 40, 40, .inl (bd 40))), (ad 41, .inl (ca 41, 40, .inl (bd 41))), (ad 42, .inl (ca 42, 40, .inl (bd 42))), (ad 43, .inl (ca 43, 40, .inl (bd 43))), (ad 44, .inl (ca 44, 40, .inl (bd 44))), (ad 45, .inl (ca 45, 40, .inl (bd 45))), (ad 46, .inl (ca 46, 12, .inl (bd 46))), (ad 47, .inl (ca 47, 4, .inl (bd 47))), (ad 48, .inl (ca 48, 48, .inl (bd 48))), (ad 49, .inl (ca 49, 48, .inl (bd 49)))]
def zTM (ca : Nat → ClassId) : List (ClassId × FieldType) := [(ca 1, .byte), (ca 2, .byte), (ca 3, .int), (ca 4, .int), (ca 5, .int), (ca 6, .int), (ca 7, .int), (ca 8, .int), (ca 9, .int), (ca 10, .int), (ca 11, .boolean), (ca 12, .boolean), (ca 13, .long), (ca 14, .long), (ca 15, .long), (ca 16, .long), (ca 17, .long), (ca 18, .int), (ca 19, .int), (ca 20, .int), (ca 21, .int), (ca 22, .int), (ca 23, .int), (ca 24, .int), (ca 25, .int), (ca 26, .int), (ca 27, .int), (ca 28, .int), (ca 29, .int), (ca 30, .int), (ca 31, .int), (ca 32, .int), (ca 33, .int), (ca 34, .int), (ca 35, .int), (ca 36, .int), (ca 37, .int), (ca 38, .int), (ca 39, .int), (ca 40, .int), (ca 41, .int), (ca 42, .int), (ca 43, .int), (ca 44, .int), (ca 45, .int), (ca 46, .int), (ca 47, .int), (ca 48, .int), (ca 49, .int)]
def okM (k : Nat) (f : List Value) : Prop := match k with
  | 0 => OKX9 f
  | _ => True
def refsM : List (Nat × Nat × Nat) := [(0, 0, 1), (0, 1, 2), (0, 11, 3), (0, 12, 4), (0, 13, 5), (0, 14, 6), (0, 15, 7), (0, 16, 8), (0, 17, 9), (0, 18, 10), (0, 19, 11), (0, 20, 12), (0, 21, 13), (0, 22, 14), (0, 23, 15), (0, 24, 16), (0, 25, 17), (0, 26, 18), (0, 27, 19), (0, 28, 20), (0, 29, 21), (0, 30, 22), (0, 31, 23), (0, 32, 24), (0, 33, 25), (0, 34, 26), (0, 35, 27), (0, 36, 28), (0, 37, 29), (0, 38, 30), (0, 39, 31), (0, 40, 32), (0, 41, 33), (0, 42, 34), (0, 49, 35), (0, 50, 36), (0, 66, 37), (0, 67, 38), (0, 68, 39), (0, 69, 40), (0, 70, 41), (0, 71, 42), (0, 72, 43), (0, 73, 44), (0, 74, 45), (0, 77, 46), (0, 78, 47), (0, 79, 48), (0, 80, 49)]
def hnM : List (Nat × Nat × Nat) := []
def rnM : List (Nat × Nat × Int × Int) := [(3, 2, 0, 6), (4, 2, 0, 4), (5, 2, 0, 4), (6, 2, 0, 3), (7, 2, 0, 4), (9, 2, 0, 49), (11, 2, 0, 1), (12, 2, 0, 1), (19, 12, 0, 12), (23, 8, 0, 8), (28, 12, 0, 1800), (29, 12, 0, 1800), (39, 40, 0, 5), (40, 40, 0, 3), (41, 40, 0, 500), (47, 4, -1, 12)]
def IM (q : Nat) (tm : Int32) (wx : va_W) (tx : List (ClassId × FieldType)) : Prop := ∃ (ad : Nat → Nat) (ca : Nat → ClassId) (fs : Nat → List Value) (bd : Nat → Nat → Int32) (bl : Nat → Nat → Int64) (bo : Nat → Nat → Option Nat), wx = zWM ad ca fs bd bl bo ∧ tx = zTM ca ∧ q = ad 0 ∧ (fs 0)[76]? = some (.int tm) ∧ (∀ k, okM k (fs k)) ∧ (∀ t ∈ refsM, (fs t.1)[t.2.1]? = some (.ref (ad t.2.2))) ∧ (∀ t ∈ hnM, bo t.1 t.2.1 = some (ad t.2.2)) ∧ (∀ t ∈ rnM, ∀ k, k < t.2.1 → t.2.2.1 ≤ (bd t.1 k).toInt ∧ (bd t.1 k).toInt ≤ t.2.2.2) ∧ q_box (bd 48) ∧ ∃ bk fi : Int32, (fs 0)[43]? = some (.int bk) ∧ (fs 0)[75]? = some (.int fi) ∧ q_WB bk (bd 5) (bd 23) ∧ q_LB bk (bd 6) (bd 28) (bd 29) (bd 30) ∧ q_FW bk fi (bd 5) (bd 40)
