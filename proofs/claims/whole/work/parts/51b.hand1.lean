/-! a contract over more cells than the method looks at -/
theorem k_frameV {l : Launch} {y : MethodName} {ws : List Cond} {rm : Room} {D : va_G} {q : Nat → ClassId} {av : List Value} {gs gs8 gc g1 gr : List va_W} {sz : Nat} (h : Met l y ws rm (PC D q av (fl gc) sz) (QV D (va_A (fl gc) sz) (fl g1)) 0 0 (va_A (fl gc) sz)) (isC isR : List Nat) (N : Nat) (hn : isC.Nodup) (hC : isC.map (fun i => gs[i]?) = gc.map some) (hC8 : isC.map (fun i => gs8[i]?) = g1.map some) (h9 : isR.map (fun i => gs[i]?) = gr.map some) (h8 : isR.map (fun i => gs8[i]?) = gr.map some) (hl8 : gs8.length = N) (hc : (List.range N).all (fun k => isC.contains k || (isR.contains k && !isC.contains k)) = true) (hf : gs8.map (fun g => g.map (fun x => x.1)) = gs.map (fun g => g.map (fun x => x.1))) :
    Met l y ws rm (PC D q av (fl gs) sz) (QV D (va_A (fl gs) sz) (fl gs8)) 0 0 (va_A (fl gs) sz) := by
  have hsub : ∀ x, va_A (fl gc) sz x → va_A (fl gs) sz x := by
    intro x hx
    rcases hx with ⟨k, e, hx⟩ | hx
    · obtain ⟨g, hg, hy⟩ := List.mem_flatten.mp (List.mem_of_getElem? hx)
      obtain ⟨i, -, hi⟩ := fl_at hC hg
      obtain ⟨k2, hk2⟩ := List.getElem?_of_mem (List.mem_flatten.mpr ⟨g, List.mem_of_getElem? hi, hy⟩ : (x, e) ∈ fl gs)
      exact Or.inl ⟨k2, e, hk2⟩
    · exact Or.inr hx
  refine MetFree.mono h (fun a s hp => ?_) (fun _ _ _ _ _ h => h) (fun a s o t hp hq => ?_)
  · obtain ⟨h0, h1, h2, h3, h4, h5⟩ := hp
    obtain ⟨v1, v2, v3, v4⟩ := h5
    exact ⟨h0, h1, flP h2 isC hC, h3, flD h4 isC hn hC, v1, v2.narrow hsub, v3.narrow hsub, v4.narrow hsub⟩
  · obtain ⟨h0, h1, h2, h3, h4, h5⟩ := hp
    obtain ⟨⟨⟨u, q1, q2, q3⟩, q4, q5⟩, L, q6, q7⟩ := hq
    have hk : ∀ x : Nat, x < s.heap.size → ¬ va_A (fl gc) s.heap.size x → t.heap[x]? = s.heap[x]? := fun x hx hy => q5 x hx (by rw [← h1]; exact hy)
    obtain ⟨hP1, -⟩ := kw_grp (gs8 := gs8) h2 h4 isC isR N hC hC8 h9 h8 hl8 hc hf hk q3
    exact ⟨⟨⟨u, q1, q2, hP1⟩, q4, fun x hx hy => q5 x hx (fun z => hy (hsub x z))⟩, L, q6, fun x hx => hsub _ (q7 x hx)⟩
/-! copies: what comes is what was there -/
def F_X8_copyN (_S0 S1 : St) : Option St := some S1
def F_X7_copyN (_S0 S1 : St) : Option St := some S1
abbrev rm_X8_copyN : Room := rm_X8_copyFrom
abbrev rm_X7_copyN : Room := rm_X7_copyFrom
theorem c_X8_copyN (l : Launch) (D : va_G) (q : Nat → ClassId) (o0 : Nat) (a0 : Nat → Nat) (S0 : St) (o1 : Nat) (a1 : Nat → Nat) (S1 : St) (sz : Nat) {T0 : St} (hF : F_X8_copyN S0 S1 = some (T0)) : Met l yX8_copyFrom (Cond.code yX8_copyFrom cX8_copyFrom 2 none :: TB) rm_X8_copyN (PC D q [.ref o0, .ref o1] (fl [g8 q o0 a0 S0, g8 q o1 a1 S1]) sz) (QV D (va_A (fl [g8 q o0 a0 S0, g8 q o1 a1 S1]) sz) (fl [g8 q o0 a0 T0, g8 q o1 a1 S1])) 0 0 (va_A (fl [g8 q o0 a0 S0, g8 q o1 a1 S1]) sz) := by
  cases hF
  obtain ⟨T, hT⟩ : ∃ T, F_X8_copyFrom S0 S1 = some T := ⟨_, rfl⟩
  refine k_monoV (c_X8_copyFrom l D q o0 a0 S0 o1 a1 S1 sz hT) (fun H hP => ?_)
  have e : g8 q o0 a0 T = g8 q o0 a0 S1 := by
    cases hT
    simp [g8, sI, sF, sG, va_up]
  rw [← e]
  exact hP
theorem c_X7_copyN (l : Launch) (D : va_G) (q : Nat → ClassId) (o0 : Nat) (a0 : Nat → Nat) (S0 : St) (o1 : Nat) (a1 : Nat → Nat) (S1 : St) (sz : Nat) {T0 : St} (hF : F_X7_copyN S0 S1 = some (T0)) : Met l yX7_copyFrom (Cond.code yX7_copyFrom cX7_copyFrom 2 none :: TB) rm_X7_copyN (PC D q [.ref o0, .ref o1] (fl [g7 q o0 a0 S0, g7 q o1 a1 S1]) sz) (QV D (va_A (fl [g7 q o0 a0 S0, g7 q o1 a1 S1]) sz) (fl [g7 q o0 a0 T0, g7 q o1 a1 S1])) 0 0 (va_A (fl [g7 q o0 a0 S0, g7 q o1 a1 S1]) sz) := by
  cases hF
  obtain ⟨T, hT⟩ : ∃ T, F_X7_copyFrom S0 S1 = some T := ⟨_, rfl⟩
  refine k_monoV (c_X7_copyFrom l D q o0 a0 S0 o1 a1 S1 sz hT) (fun H hP => ?_)
  have e : g7 q o0 a0 T = g7 q o0 a0 S1 := by
    cases hT
    simp [g7, sI, sF, sG, va_up]
  rw [← e]
  exact hP
/-! the row of kept Suburbs -/
abbrev KSt : Type := Nat → St
abbrev row20 (q : Nat → ClassId) (o : Nat) (a : Nat → Nat) : Nat × va_E := (o, .inl (q 5, 9, .inr (.inr (.inr (.inr (fun i => some (a i)))))))
def g20 (q : Nat → ClassId) (o : Nat) (a : Nat → Nat) (b : Nat → Nat → Nat) (K : KSt) : va_W := row20 q o a :: fl [g8 q (a 0) (b 0) (K 0), g8 q (a 1) (b 1) (K 1), g8 q (a 2) (b 2) (K 2), g8 q (a 3) (b 3) (K 3), g8 q (a 4) (b 4) (K 4), g8 q (a 5) (b 5) (K 5), g8 q (a 6) (b 6) (K 6), g8 q (a 7) (b 7) (K 7), g8 q (a 8) (b 8) (K 8)]
def ad20 (o : Nat) (a : Nat → Nat) (b : Nat → Nat → Nat) : List Nat := [o, a 0, b 0 2, b 0 3, b 0 4, b 0 5, b 0 9, b 0 10, b 0 11, b 0 12, b 0 13, b 0 14, a 1, b 1 2, b 1 3, b 1 4, b 1 5, b 1 9, b 1 10, b 1 11, b 1 12, b 1 13, b 1 14, a 2, b 2 2, b 2 3, b 2 4, b 2 5, b 2 9, b 2 10, b 2 11, b 2 12, b 2 13, b 2 14, a 3, b 3 2, b 3 3, b 3 4, b 3 5, b 3 9, b 3 10, b 3 11, b 3 12, b 3 13, b 3 14, a 4, b 4 2, b 4 3, b 4 4, b 4 5, b 4 9, b 4 10, b 4 11, b 4 12, b 4 13, b 4 14, a 5, b 5 2, b 5 3, b 5 4, b 5 5, b 5 9, b 5 10, b 5 11, b 5 12, b 5 13, b 5 14, a 6, b 6 2, b 6 3, b 6 4, b 6 5, b 6 9, b 6 10, b 6 11, b 6 12, b 6 13, b 6 14, a 7, b 7 2, b 7 3, b 7 4, b 7 5, b 7 9, b 7 10, b 7 11, b 7 12, b 7 13, b 7 14, a 8, b 8 2, b 8 3, b 8 4, b 8 5, b 8 9, b 8 10, b 8 11, b 8 12, b 8 13, b 8 14]
theorem gad20 (q : Nat → ClassId) (o : Nat) (a : Nat → Nat) (b : Nat → Nat → Nat) (K : KSt) : (g20 q o a b K).map (fun x => x.1) = ad20 o a b := rfl
theorem oob_lt {i : Int32} {n : Nat} (h : ¬ oob i n) : i.toNatClampNeg < n := Nat.lt_of_not_le (fun z => h (Or.inr z))
theorem g20wr (q : Nat → ClassId) (o1 : Nat) (a : Nat → Nat) (b : Nat → Nat → Nat) (K : KSt) (o2 : Nat) (a2 : Nat → Nat) (S2 : St) : fl [g20 q o1 a b K, g8 q o2 a2 S2] = fl [[row20 q o1 a], g8 q (a 0) (b 0) (K 0), g8 q (a 1) (b 1) (K 1), g8 q (a 2) (b 2) (K 2), g8 q (a 3) (b 3) (K 3), g8 q (a 4) (b 4) (K 4), g8 q (a 5) (b 5) (K 5), g8 q (a 6) (b 6) (K 6), g8 q (a 7) (b 7) (K 7), g8 q (a 8) (b 8) (K 8), g8 q o2 a2 S2] := by
  simp only [fl, g20, List.flatten_cons, List.flatten_nil, List.append_assoc, List.cons_append, List.nil_append, List.append_nil]
set_option maxRecDepth 100000 in
set_option maxHeartbeats 4000000 in
/-- kept[j].copyFrom(suburb) -/
theorem c_X8_copyR (l : Launch) (D : va_G) (q : Nat → ClassId) (o1 : Nat) (a : Nat → Nat) (b : Nat → Nat → Nat) (K : KSt) (o2 : Nat) (a2 : Nat → Nat) (S2 : St) (sz j : Nat) (hj : j < 9) {U : KSt} (hU : U = va_up K j S2) : Met l yX8_copyFrom (Cond.code yX8_copyFrom cX8_copyFrom 2 none :: TB) rm_X8_copyN (PC D q [.ref (a j), .ref o2] (fl [g20 q o1 a b K, g8 q o2 a2 S2]) sz) (QV D (va_A (fl [g20 q o1 a b K, g8 q o2 a2 S2]) sz) (fl [g20 q o1 a b U, g8 q o2 a2 S2])) 0 0 (va_A (fl [g20 q o1 a b K, g8 q o2 a2 S2]) sz) := by
  subst hU
  rw [g20wr q o1 a b K, g20wr q o1 a b (va_up K j S2)]
  match j, hj with
  | 0, _ => exact k_frameV (gr := [[row20 q o1 a], g8 q (a 1) (b 1) (K 1), g8 q (a 2) (b 2) (K 2), g8 q (a 3) (b 3) (K 3), g8 q (a 4) (b 4) (K 4), g8 q (a 5) (b 5) (K 5), g8 q (a 6) (b 6) (K 6), g8 q (a 7) (b 7) (K 7), g8 q (a 8) (b 8) (K 8)]) (c_X8_copyN l D q (a 0) (b 0) (K 0) o2 a2 S2 sz rfl) [1, 10] [0, 2, 3, 4, 5, 6, 7, 8, 9] 11 (by decide) rfl rfl rfl rfl rfl rfl (by simp only [List.map_cons, List.map_nil, gad8])
  | 1, _ => exact k_frameV (gr := [[row20 q o1 a], g8 q (a 0) (b 0) (K 0), g8 q (a 2) (b 2) (K 2), g8 q (a 3) (b 3) (K 3), g8 q (a 4) (b 4) (K 4), g8 q (a 5) (b 5) (K 5), g8 q (a 6) (b 6) (K 6), g8 q (a 7) (b 7) (K 7), g8 q (a 8) (b 8) (K 8)]) (c_X8_copyN l D q (a 1) (b 1) (K 1) o2 a2 S2 sz rfl) [2, 10] [0, 1, 3, 4, 5, 6, 7, 8, 9] 11 (by decide) rfl rfl rfl rfl rfl rfl (by simp only [List.map_cons, List.map_nil, gad8])
  | 2, _ => exact k_frameV (gr := [[row20 q o1 a], g8 q (a 0) (b 0) (K 0), g8 q (a 1) (b 1) (K 1), g8 q (a 3) (b 3) (K 3), g8 q (a 4) (b 4) (K 4), g8 q (a 5) (b 5) (K 5), g8 q (a 6) (b 6) (K 6), g8 q (a 7) (b 7) (K 7), g8 q (a 8) (b 8) (K 8)]) (c_X8_copyN l D q (a 2) (b 2) (K 2) o2 a2 S2 sz rfl) [3, 10] [0, 1, 2, 4, 5, 6, 7, 8, 9] 11 (by decide) rfl rfl rfl rfl rfl rfl (by simp only [List.map_cons, List.map_nil, gad8])
  | 3, _ => exact k_frameV (gr := [[row20 q o1 a], g8 q (a 0) (b 0) (K 0), g8 q (a 1) (b 1) (K 1), g8 q (a 2) (b 2) (K 2), g8 q (a 4) (b 4) (K 4), g8 q (a 5) (b 5) (K 5), g8 q (a 6) (b 6) (K 6), g8 q (a 7) (b 7) (K 7), g8 q (a 8) (b 8) (K 8)]) (c_X8_copyN l D q (a 3) (b 3) (K 3) o2 a2 S2 sz rfl) [4, 10] [0, 1, 2, 3, 5, 6, 7, 8, 9] 11 (by decide) rfl rfl rfl rfl rfl rfl (by simp only [List.map_cons, List.map_nil, gad8])
  | 4, _ => exact k_frameV (gr := [[row20 q o1 a], g8 q (a 0) (b 0) (K 0), g8 q (a 1) (b 1) (K 1), g8 q (a 2) (b 2) (K 2), g8 q (a 3) (b 3) (K 3), g8 q (a 5) (b 5) (K 5), g8 q (a 6) (b 6) (K 6), g8 q (a 7) (b 7) (K 7), g8 q (a 8) (b 8) (K 8)]) (c_X8_copyN l D q (a 4) (b 4) (K 4) o2 a2 S2 sz rfl) [5, 10] [0, 1, 2, 3, 4, 6, 7, 8, 9] 11 (by decide) rfl rfl rfl rfl rfl rfl (by simp only [List.map_cons, List.map_nil, gad8])
  | 5, _ => exact k_frameV (gr := [[row20 q o1 a], g8 q (a 0) (b 0) (K 0), g8 q (a 1) (b 1) (K 1), g8 q (a 2) (b 2) (K 2), g8 q (a 3) (b 3) (K 3), g8 q (a 4) (b 4) (K 4), g8 q (a 6) (b 6) (K 6), g8 q (a 7) (b 7) (K 7), g8 q (a 8) (b 8) (K 8)]) (c_X8_copyN l D q (a 5) (b 5) (K 5) o2 a2 S2 sz rfl) [6, 10] [0, 1, 2, 3, 4, 5, 7, 8, 9] 11 (by decide) rfl rfl rfl rfl rfl rfl (by simp only [List.map_cons, List.map_nil, gad8])
  | 6, _ => exact k_frameV (gr := [[row20 q o1 a], g8 q (a 0) (b 0) (K 0), g8 q (a 1) (b 1) (K 1), g8 q (a 2) (b 2) (K 2), g8 q (a 3) (b 3) (K 3), g8 q (a 4) (b 4) (K 4), g8 q (a 5) (b 5) (K 5), g8 q (a 7) (b 7) (K 7), g8 q (a 8) (b 8) (K 8)]) (c_X8_copyN l D q (a 6) (b 6) (K 6) o2 a2 S2 sz rfl) [7, 10] [0, 1, 2, 3, 4, 5, 6, 8, 9] 11 (by decide) rfl rfl rfl rfl rfl rfl (by simp only [List.map_cons, List.map_nil, gad8])
  | 7, _ => exact k_frameV (gr := [[row20 q o1 a], g8 q (a 0) (b 0) (K 0), g8 q (a 1) (b 1) (K 1), g8 q (a 2) (b 2) (K 2), g8 q (a 3) (b 3) (K 3), g8 q (a 4) (b 4) (K 4), g8 q (a 5) (b 5) (K 5), g8 q (a 6) (b 6) (K 6), g8 q (a 8) (b 8) (K 8)]) (c_X8_copyN l D q (a 7) (b 7) (K 7) o2 a2 S2 sz rfl) [8, 10] [0, 1, 2, 3, 4, 5, 6, 7, 9] 11 (by decide) rfl rfl rfl rfl rfl rfl (by simp only [List.map_cons, List.map_nil, gad8])
  | 8, _ => exact k_frameV (gr := [[row20 q o1 a], g8 q (a 0) (b 0) (K 0), g8 q (a 1) (b 1) (K 1), g8 q (a 2) (b 2) (K 2), g8 q (a 3) (b 3) (K 3), g8 q (a 4) (b 4) (K 4), g8 q (a 5) (b 5) (K 5), g8 q (a 6) (b 6) (K 6), g8 q (a 7) (b 7) (K 7)]) (c_X8_copyN l D q (a 8) (b 8) (K 8) o2 a2 S2 sz rfl) [9, 10] [0, 1, 2, 3, 4, 5, 6, 7, 8] 11 (by decide) rfl rfl rfl rfl rfl rfl (by simp only [List.map_cons, List.map_nil, gad8])
theorem g20we (q : Nat → ClassId) (o1 : Nat) (a : Nat → Nat) (b : Nat → Nat → Nat) (K : KSt) (o2 : Nat) (a2 : Nat → Nat) (S2 : St) : fl [g8 q o2 a2 S2, g20 q o1 a b K] = fl [g8 q o2 a2 S2, [row20 q o1 a], g8 q (a 0) (b 0) (K 0), g8 q (a 1) (b 1) (K 1), g8 q (a 2) (b 2) (K 2), g8 q (a 3) (b 3) (K 3), g8 q (a 4) (b 4) (K 4), g8 q (a 5) (b 5) (K 5), g8 q (a 6) (b 6) (K 6), g8 q (a 7) (b 7) (K 7), g8 q (a 8) (b 8) (K 8)] := by
  simp only [fl, g20, List.flatten_cons, List.flatten_nil, List.append_assoc, List.cons_append, List.nil_append, List.append_nil]
set_option maxRecDepth 100000 in
set_option maxHeartbeats 4000000 in
/-- suburb.copyFrom(kept[j]) -/
theorem c_X8_copyE (l : Launch) (D : va_G) (q : Nat → ClassId) (o2 : Nat) (a2 : Nat → Nat) (S2 : St) (o1 : Nat) (a : Nat → Nat) (b : Nat → Nat → Nat) (K : KSt) (sz j : Nat) (hj : j < 9) {U : St} (hU : U = K j) : Met l yX8_copyFrom (Cond.code yX8_copyFrom cX8_copyFrom 2 none :: TB) rm_X8_copyN (PC D q [.ref o2, .ref (a j)] (fl [g8 q o2 a2 S2, g20 q o1 a b K]) sz) (QV D (va_A (fl [g8 q o2 a2 S2, g20 q o1 a b K]) sz) (fl [g8 q o2 a2 U, g20 q o1 a b K])) 0 0 (va_A (fl [g8 q o2 a2 S2, g20 q o1 a b K]) sz) := by
  subst hU
  rw [g20we q o1 a b K o2 a2 S2, g20we q o1 a b K o2 a2 (K j)]
  match j, hj with
  | 0, _ => exact k_frameV (gr := [[row20 q o1 a], g8 q (a 1) (b 1) (K 1), g8 q (a 2) (b 2) (K 2), g8 q (a 3) (b 3) (K 3), g8 q (a 4) (b 4) (K 4), g8 q (a 5) (b 5) (K 5), g8 q (a 6) (b 6) (K 6), g8 q (a 7) (b 7) (K 7), g8 q (a 8) (b 8) (K 8)]) (c_X8_copyN l D q o2 a2 S2 (a 0) (b 0) (K 0) sz rfl) [0, 2] [1, 3, 4, 5, 6, 7, 8, 9, 10] 11 (by decide) rfl rfl rfl rfl rfl rfl (by simp only [List.map_cons, List.map_nil, gad8])
  | 1, _ => exact k_frameV (gr := [[row20 q o1 a], g8 q (a 0) (b 0) (K 0), g8 q (a 2) (b 2) (K 2), g8 q (a 3) (b 3) (K 3), g8 q (a 4) (b 4) (K 4), g8 q (a 5) (b 5) (K 5), g8 q (a 6) (b 6) (K 6), g8 q (a 7) (b 7) (K 7), g8 q (a 8) (b 8) (K 8)]) (c_X8_copyN l D q o2 a2 S2 (a 1) (b 1) (K 1) sz rfl) [0, 3] [1, 2, 4, 5, 6, 7, 8, 9, 10] 11 (by decide) rfl rfl rfl rfl rfl rfl (by simp only [List.map_cons, List.map_nil, gad8])
  | 2, _ => exact k_frameV (gr := [[row20 q o1 a], g8 q (a 0) (b 0) (K 0), g8 q (a 1) (b 1) (K 1), g8 q (a 3) (b 3) (K 3), g8 q (a 4) (b 4) (K 4), g8 q (a 5) (b 5) (K 5), g8 q (a 6) (b 6) (K 6), g8 q (a 7) (b 7) (K 7), g8 q (a 8) (b 8) (K 8)]) (c_X8_copyN l D q o2 a2 S2 (a 2) (b 2) (K 2) sz rfl) [0, 4] [1, 2, 3, 5, 6, 7, 8, 9, 10] 11 (by decide) rfl rfl rfl rfl rfl rfl (by simp only [List.map_cons, List.map_nil, gad8])
  | 3, _ => exact k_frameV (gr := [[row20 q o1 a], g8 q (a 0) (b 0) (K 0), g8 q (a 1) (b 1) (K 1), g8 q (a 2) (b 2) (K 2), g8 q (a 4) (b 4) (K 4), g8 q (a 5) (b 5) (K 5), g8 q (a 6) (b 6) (K 6), g8 q (a 7) (b 7) (K 7), g8 q (a 8) (b 8) (K 8)]) (c_X8_copyN l D q o2 a2 S2 (a 3) (b 3) (K 3) sz rfl) [0, 5] [1, 2, 3, 4, 6, 7, 8, 9, 10] 11 (by decide) rfl rfl rfl rfl rfl rfl (by simp only [List.map_cons, List.map_nil, gad8])
  | 4, _ => exact k_frameV (gr := [[row20 q o1 a], g8 q (a 0) (b 0) (K 0), g8 q (a 1) (b 1) (K 1), g8 q (a 2) (b 2) (K 2), g8 q (a 3) (b 3) (K 3), g8 q (a 5) (b 5) (K 5), g8 q (a 6) (b 6) (K 6), g8 q (a 7) (b 7) (K 7), g8 q (a 8) (b 8) (K 8)]) (c_X8_copyN l D q o2 a2 S2 (a 4) (b 4) (K 4) sz rfl) [0, 6] [1, 2, 3, 4, 5, 7, 8, 9, 10] 11 (by decide) rfl rfl rfl rfl rfl rfl (by simp only [List.map_cons, List.map_nil, gad8])
  | 5, _ => exact k_frameV (gr := [[row20 q o1 a], g8 q (a 0) (b 0) (K 0), g8 q (a 1) (b 1) (K 1), g8 q (a 2) (b 2) (K 2), g8 q (a 3) (b 3) (K 3), g8 q (a 4) (b 4) (K 4), g8 q (a 6) (b 6) (K 6), g8 q (a 7) (b 7) (K 7), g8 q (a 8) (b 8) (K 8)]) (c_X8_copyN l D q o2 a2 S2 (a 5) (b 5) (K 5) sz rfl) [0, 7] [1, 2, 3, 4, 5, 6, 8, 9, 10] 11 (by decide) rfl rfl rfl rfl rfl rfl (by simp only [List.map_cons, List.map_nil, gad8])
  | 6, _ => exact k_frameV (gr := [[row20 q o1 a], g8 q (a 0) (b 0) (K 0), g8 q (a 1) (b 1) (K 1), g8 q (a 2) (b 2) (K 2), g8 q (a 3) (b 3) (K 3), g8 q (a 4) (b 4) (K 4), g8 q (a 5) (b 5) (K 5), g8 q (a 7) (b 7) (K 7), g8 q (a 8) (b 8) (K 8)]) (c_X8_copyN l D q o2 a2 S2 (a 6) (b 6) (K 6) sz rfl) [0, 8] [1, 2, 3, 4, 5, 6, 7, 9, 10] 11 (by decide) rfl rfl rfl rfl rfl rfl (by simp only [List.map_cons, List.map_nil, gad8])
  | 7, _ => exact k_frameV (gr := [[row20 q o1 a], g8 q (a 0) (b 0) (K 0), g8 q (a 1) (b 1) (K 1), g8 q (a 2) (b 2) (K 2), g8 q (a 3) (b 3) (K 3), g8 q (a 4) (b 4) (K 4), g8 q (a 5) (b 5) (K 5), g8 q (a 6) (b 6) (K 6), g8 q (a 8) (b 8) (K 8)]) (c_X8_copyN l D q o2 a2 S2 (a 7) (b 7) (K 7) sz rfl) [0, 9] [1, 2, 3, 4, 5, 6, 7, 8, 10] 11 (by decide) rfl rfl rfl rfl rfl rfl (by simp only [List.map_cons, List.map_nil, gad8])
  | 8, _ => exact k_frameV (gr := [[row20 q o1 a], g8 q (a 0) (b 0) (K 0), g8 q (a 1) (b 1) (K 1), g8 q (a 2) (b 2) (K 2), g8 q (a 3) (b 3) (K 3), g8 q (a 4) (b 4) (K 4), g8 q (a 5) (b 5) (K 5), g8 q (a 6) (b 6) (K 6), g8 q (a 7) (b 7) (K 7)]) (c_X8_copyN l D q o2 a2 S2 (a 8) (b 8) (K 8) sz rfl) [0, 10] [1, 2, 3, 4, 5, 6, 7, 8, 9] 11 (by decide) rfl rfl rfl rfl rfl rfl (by simp only [List.map_cons, List.map_nil, gad8])
theorem rec20 {s : State} {H : Heap} {D : va_G} {q : Nat → ClassId} {o : Nat} {a : Nat → Nat} {b : Nat → Nat → Nat} {K : KSt} (hK : va_K D vwCl (tyL q) s) (hP : va_P D vwCl (fl [g20 q o a b K]) H) {j : Nat} (hj : j < 9) : ∃ cell : Cell, H[a j]? = some cell ∧ cell.vm.isStatics = false ∧ s.vm.findClass RX8 = some cell.cls := by
  match j, hj with
  | 0, _ => exact va_recv hK hP (ci := 8) (q0 := 1) rfl rfl
  | 1, _ => exact va_recv hK hP (ci := 8) (q0 := 12) rfl rfl
  | 2, _ => exact va_recv hK hP (ci := 8) (q0 := 23) rfl rfl
  | 3, _ => exact va_recv hK hP (ci := 8) (q0 := 34) rfl rfl
  | 4, _ => exact va_recv hK hP (ci := 8) (q0 := 45) rfl rfl
  | 5, _ => exact va_recv hK hP (ci := 8) (q0 := 56) rfl rfl
  | 6, _ => exact va_recv hK hP (ci := 8) (q0 := 67) rfl rfl
  | 7, _ => exact va_recv hK hP (ci := 8) (q0 := 78) rfl rfl
  | 8, _ => exact va_recv hK hP (ci := 8) (q0 := 89) rfl rfl
section K20
variable {p : Program} {l : Launch} {e : Env} {R : Room} {s : State} {m : MethodId} {args : Array Value} {below : List Frame} {meth : Method} {c : Code} {H : Heap} {locs : List Loc} {cells slots : Nat} {cc : ByteArray} {nL : Nat} {ret : Option FieldType} {own : String} {D : va_G} {q : Nat → ClassId} {A : Nat → Prop} {Q : State → Prop}
variable {pc : Nat} {ls : Array Slot} {rest st0 : List Value} {W9 W8 : va_W} {aa : Array Value} {gs gs8 gc g1 gr : List va_W}
theorem k_rld {o n t0 : Nat} {Cn : String} {a : Nat → Nat} {i : Int32} (C : cx p s m args meth c cc nL ret own D q A) (hP : va_P D vwCl W9 H) (q0 : Nat) (ha : W9[q0]? = some (o, .inl (q t0, n, .inr (.inr (.inr (.inr (fun i => some (a i)))))))) (ht : (tyL q)[t0]? = some (q t0, .object Cn)) (hin : ¬ oob i n) (hdg : decode cc pc = .ok (.aaload, 1))
    (kk : W p l e R s m args below meth c H locs cells slots Q (F0 m (pc + 1) ls (.ref (a i.toNatClampNeg) :: rest))) : W p l e R s m args below meth c H locs cells slots Q (F0 m pc ls (.int i :: .ref o :: rest)) := by
  obtain ⟨hx, hb, hr, hml, hown, hts, hlk, hA, hK, hN, hV⟩ := C
  exact va_aldq hx hb hK hP q0 t0 ha ht hin hdg kk
/-- an answer that is a thing of a row -/
def QE (D : va_G) (A : Nat → Prop) (a0 : Nat) (w1 : va_W) : Array Value → State → Outcome → State → Prop := va_Qr (fun (_ : Unit) => True) (fun _ ra t => ra = a0 ∧ va_P D vwCl w1 t.heap) A
theorem k_eret {a0 : Nat} {nm : String} {w1 : va_W} (C : cx p s m args meth c cc nL (some (.object nm)) own D q A) (hP : va_P D vwCl w1 H) (hS : va_S A s.heap H locs) (hdg : decode cc pc = .ok (.areturn, 1)) : W p l e R s m args below meth c H locs 0 0 (MQ below (QE D A a0 w1) args s 0 0 A) (F0 m pc ls [.ref a0]) := by
  obtain ⟨hx, hb, hr, hml, hown, hts, hlk, hA, hK, hN, hV⟩ := C
  exact W.aret hx hb hr (Or.inl ⟨_, rfl⟩) (Or.inr ⟨_, rfl⟩) (fun t ht hW => ⟨⟨(), a0, rfl, trivial, rfl, by show va_P D vwCl w1 t.heap; rw [ht]; exact hP⟩, hS.F ht⟩) hS.2.2 hdg hlk
theorem k_egrp {a0 : Nat} (C : cx p s m args meth c cc nL ret own D q A) (hr : va_Run p l e R s m args below meth c H locs 0 0 0 0 (F0 m pc ls st0) rest (QE D (va_A (fl gc) H.size) a0 (fl g1) aa) (va_A (fl gc) H.size)) (hP : va_P D vwCl (fl gs) H) (hD : va_D A (fl gs)) (hS : va_S A s.heap H locs) (isC isR : List Nat) (gr : List va_W) (N : Nat) (hn : isC.Nodup) (hC : isC.map (fun i => gs[i]?) = gc.map some) (hC8 : isC.map (fun i => gs8[i]?) = g1.map some) (h9 : isR.map (fun i => gs[i]?) = gr.map some) (h8 : isR.map (fun i => gs8[i]?) = gr.map some) (hl8 : gs8.length = N) (hc : (List.range N).all (fun k => isC.contains k || (isR.contains k && !isC.contains k)) = true) (hf : gs8.map (fun g => g.map (fun x => x.1)) = gs.map (fun g => g.map (fun x => x.1)))
    (kk : ∀ (H1 : Heap) (locs1 : List Loc), va_P D vwCl (fl gs8) H1 → va_D A (fl gs8) → va_S A s.heap H1 locs1 → W p l e R s m args below meth c H1 locs1 0 0 Q (F0 m (pc + 3) ls (.ref a0 :: rest))) : W p l e R s m args below meth c H locs 0 0 Q (F0 m pc ls st0) := by
  obtain ⟨hx, hb, hr0, hml, hown, hts, hlk, hA, hK, hN, hV⟩ := C
  have hF := ke_Aall (flD hD isC hn hC) hS hA
  refine va_callr hr hS (fun q _ h => hF q h) (hF) (fun u ra t H1 locs1 ht hvm hw hB hz1 hk1 hS1 => ?_)
  obtain ⟨hra, hB⟩ := hB
  subst hra
  rw [ht] at hB
  obtain ⟨hP1, hD1⟩ := kw_grp (gs8 := gs8) hP hD isC isR N hC hC8 h9 h8 hl8 hc hf hk1 hB
  exact kk H1 locs1 hP1 hD1 hS1
end K20
