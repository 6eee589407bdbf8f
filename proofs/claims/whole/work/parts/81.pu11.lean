/-! tea -/
theorem nr {p : Prop} (h : p) : p := (Classical.em True).elim (fun _ => h) (fun _ => h)
theorem pu_ob1N {α β : Type} (a : α) (k : α → Option β) : ob1 (some a) k = k a := nr rfl
theorem pu_ob2N {α γ β : Type} (a : α) (c : γ) (k : α → γ → Option β) : ob2 (some (a, c)) k = k a c := nr rfl
theorem pu_ob3N {α γ δ β : Type} (a : α) (c : γ) (d : δ) (k : α → γ → δ → Option β) : ob3 (some (a, c, d)) k = k a c d := nr rfl
theorem pu_ob4N {α γ δ ε β : Type} (a : α) (c : γ) (d : δ) (e : ε) (k : α → γ → δ → ε → Option β) : ob4 (some (a, c, d, e)) k = k a c d e := nr rfl
theorem pu_nwN {α β : Type} (a : α) (k : α → β) : nw a k = k a := nr rfl
theorem lp_twoE {α β α' β' : Type} {b1 : (α → Option β) → α → Option β} {b2 : (α' → Option β') → α' → Option β'} (J : Nat → α → α' → Prop) (n : Nat) (Q : β → β' → Prop) (hs : ∀ i, i ≤ n → ∀ x y, J i x y → (∃ o o', Q o o' ∧ (∀ k, b1 k x = some o) ∧ (∀ k, b2 k y = some o')) ∨ (i < n ∧ ∃ x' y', J (i + 1) x' y' ∧ (∀ k, b1 k x = k x') ∧ (∀ k, b2 k y = k y'))) {x0 : α} {y0 : α'} (h0 : J 0 x0 y0) {N : Nat} (hN : n < N) : ∃ o o', Q o o' ∧ lp b1 N x0 = some o ∧ lp b2 N y0 = some o' := by
  have h : ∀ d i x y, i + d = n → J i x y → ∀ N, d < N → ∃ o o', Q o o' ∧ lp b1 N x = some o ∧ lp b2 N y = some o' := by
    intro d
    induction d with
    | zero =>
      intro i x y hi hx N hN
      obtain ⟨N, rfl⟩ : ∃ k, N = k + 1 := ⟨N - 1, by omega⟩
      rcases hs i (by omega) x y hx with ⟨o, o', h1, h2, h3⟩ | ⟨h, -⟩
      · exact ⟨o, o', h1, h2 _, h3 _⟩
      · omega
    | succ d ih =>
      intro i x y hi hx N hN
      obtain ⟨N, rfl⟩ : ∃ k, N = k + 1 := ⟨N - 1, by omega⟩
      rcases hs i (by omega) x y hx with ⟨o, o', h1, h2, h3⟩ | ⟨-, x', y', h1, h2, h3⟩
      · exact ⟨o, o', h1, h2 _, h3 _⟩
      · obtain ⟨o, o', h4, h5, h6⟩ := ih (i + 1) x' y' (by omega) h1 N (by omega)
        refine ⟨o, o', h4, ?_, ?_⟩
        · show b1 (lp b1 N) x = some o
          rw [h2]; exact h5
        · show b2 (lp b2 N) y = some o'
          rw [h3]; exact h6
  exact h n 0 x0 y0 (by omega) h0 N hN
/-- places that are read by number: so many, or none yet -/
theorem at_two (x m : Int32) (n : Nat) (hn : n < 100000) (hm : m = nI n ∨ (n = 0 ∧ m = nO)) : (∃ j, j < n ∧ x = nI j ∧ F_X12_isIn x (nI 0) (m - nI 1) = some (nI 1)) ∨ (x < nI 0 ∧ F_X12_isIn x (nI 0) (m - nI 1) = some (nI 0)) ∨ (¬ x < nI 0 ∧ ¬ x < nI n ∧ F_X12_isIn x (nI 0) (m - nI 1) = some (nI 0)) := by
  rcases hm with rfl | ⟨rfl, rfl⟩
  · rcases x12_isIn x n (by omega) with ⟨j, hj, e, h⟩ | ⟨hn2, h⟩
    · exact Or.inl ⟨j, hj, e, h⟩
    · by_cases h0 : x < nI 0
      · exact Or.inr (Or.inl ⟨h0, h⟩)
      · refine Or.inr (Or.inr ⟨h0, fun h1 => ?_, h⟩)
        rcases pk_ix x (n := n) (by omega) with h2 | h2 | h2
        · exact h0 h2
        · rw [Int32.le_iff_toInt_le] at h2; rw [Int32.lt_iff_toInt_lt] at h1; omega
        · obtain ⟨j, hj, e⟩ := h2; exact hn2 ⟨j, hj, e⟩
  · by_cases h0 : x < nI 0
    · exact Or.inr (Or.inl ⟨h0, by unfold F_X12_isIn; rw [if_pos h0]; rfl⟩)
    · refine Or.inr (Or.inr ⟨h0, h0, ?_⟩)
      unfold F_X12_isIn
      rw [if_neg h0, if_pos]
      · rfl
      · rw [Int32.lt_iff_toInt_lt] at h0 ⊢
        have h1 : (nO - nI 1).toInt = -2 := by decide
        have h2 : (nI 0).toInt = 0 := by decide
        omega
def lnA (V X : Vt) (p v : Nat) : Nat → Int32
  | 0 => nI 0
  | q + 1 => if q = p ∨ V (65 + q) ≠ 0 then lnA V X p v q else lnA V X p v q + (nI (X q / 2 ^ v % 2) - nI (X q / 2 ^ (v + 4) % 2))
def lsN (V X : Vt) (p v : Nat) : Nat := if lnA V X p v (V 1) = nI 0 then X p else if lnA V X p v (V 1) ≤ nI 0 then hav (X p) (v + 4) else hav (X p) v
def lsA (V X : Vt) (p : Nat) : Nat → Vt
  | 0 => X
  | v + 1 => up (lsA V X p v) p (lsN V (lsA V X p v) p v)
def BX (V X : Vt) : Prop := ∀ q, q < V 1 → X q < 256
def TE (E : St) (V X : Vt) : Prop := E.1 1 = nI (V 1) ∧ (∃ d, d < 2147483648 ∧ E.1 2 = nI d ∧ ∀ q, q < V 1 → d / 2 ^ q % 2 = if V (65 + q) = 0 then 1 else 0) ∧ ∀ q, q < V 1 → E.2.2.1 0 q = nI (X q)
def TM (M : St) (V X : Vt) : Prop := RM M V ∧ ∀ q, q < V 1 → M.2.2.1 33 q = nI (X q)
theorem lsN_lt {V X : Vt} {p v : Nat} (hX : X p < 256) (hv : v < 4) : lsN V X p v < 256 := by
  unfold lsN
  split
  · exact hX
  · split
    · exact hav_lt hX (by omega)
    · exact hav_lt hX (by omega)
theorem lsA_BX {V X : Vt} {p : Nat} (hp : p < V 1) (hX : BX V X) : ∀ v, v ≤ 4 → BX V (lsA V X p v) := by
  intro v
  induction v with
  | zero => intro _; exact hX
  | succ v ih =>
    intro hv q hq
    simp only [lsA]
    by_cases e : q = p
    · rw [e, pu_upe]; exact lsN_lt (ih (by omega) p hp) (by omega)
    · rw [pu_upn e]; exact ih (by omega) q hq
section P11
variable {T B E M : St} {V X : Vt}
theorem TE.up (h : TE E V X) (w1 : V 1 ≤ 6) {p x : Nat} (hp : p < V 1) : TE (sA E 0 (nI p) (nI x)) V (up X p x) := by
  refine ⟨h.1, h.2.1, fun q hq => ?_⟩
  rw [pu_sAe (by omega)]
  by_cases e : q = p
  · rw [if_pos e, e, pu_upe]
  · rw [if_neg e, pu_upn e]; exact h.2.2 q hq
theorem TM.up (h : TM M V X) (w1 : V 1 ≤ 6) {p x : Nat} (hp : p < V 1) : TM (sA M 33 (nI p) (nI x)) V (up X p x) := by
  refine ⟨fun k hk => by rw [pu_sAn (by omega)]; exact h.1 k hk, fun q hq => ?_⟩
  rw [pu_sAe (by omega)]
  by_cases e : q = p
  · rw [if_pos e, e, pu_upe]
  · rw [if_neg e, pu_upn e]; exact h.2 q hq
theorem x10_listen (h : TE E V X) (hw : WF V) (hX : BX V X) {p v : Nat} (hp : p < V 1) (hv : v < 4) : ∃ E', F_X10_listen E (nI p) (nI v) = some E' ∧ TE E' V (up X p (lsN V X p v)) := by
  have w1 := hw.2.1
  have h' := h
  obtain ⟨e1, ⟨d, hd, e2, hb⟩, e0⟩ := h
  have hXp := hX p hp
  have key : F_X10_listen E (nI p) (nI v) = some (if lnA V X p v (V 1) = nI 0 then E else sA E 0 (nI p) (nI (lsN V X p v))) := by
    unfold F_X10_listen L_X10_listen_5
    refine lp_up (fun i => (nI p, nI v, lnA V X p v i, nI i, E)) (V 1) (fun i hi k => ?_) (fun k => ?_) (pu_FU (by omega))
    · have hXi := hX i hi
      have hbi := hb i hi
      show F_X10_listen_5 k (nI p) (nI v) (lnA V X p v i) (nI i) E = k (nI p, nI v, lnA V X p v (i + 1), nI (i + 1), E)
      unfold F_X10_listen_5 F_X10_listen_62 F_X11_opposite
      simp only [lnA]
      by_cases hip : i = p
      · rw [if_pos (Or.inl hip)]
        simp (disch := omega) only [↓pu_m1, pu_lit, ↓reduceIte, pu_leT, pu_leF, pu_ltT, pu_ltF, pu_eqT, pu_eqF, pu_eqO, pu_eqO2, pu_ltO, pu_leO, pu_subO, pu_subOF, pu_subT, pu_subF, pu_oobF, pu_clamp, pu_add, pu_sub, pu_mul, pu_and, pu_or, pu_xor, pu_xorO, pu_shl, pu_shr, pu_ushr, pu_nb0, pu_nb1, pu_ob1N, pu_ob2N, pu_ob3N, pu_ob4N, pu_nwN, pu_n1, pu_n7, pu_n31, pu_n255, pu_md, pu_one, pu_sI1, pu_sI2, pu_sA1, pu_sA21, pu_sA222, pu_sAe, pu_sAn, pu_sJ1, pu_sJ21, pu_sJ221, pu_sF1, pu_sF21, pu_sF222, pu_sFe, pu_sFn, pu_upe, pu_upn, Nat.reduceAdd, Nat.reduceSub, Nat.reduceMul, Nat.reduceMod, Nat.reduceAnd, Nat.reducePow, Nat.reduceEqDiff, Nat.add_zero, Nat.zero_add, Bool.false_eq_true, Nat.add_sub_cancel, e1, hip]
      · by_cases hu : V (65 + i) = 0
        · rw [if_pos hu] at hbi
          have hn : ¬ (i = p ∨ V (65 + i) ≠ 0) := fun h => h.elim hip (fun h2 => h2 hu)
          rw [if_neg hn]
          simp (disch := omega) only [↓pu_m1, pu_lit, ↓reduceIte, pu_leT, pu_leF, pu_ltT, pu_ltF, pu_eqT, pu_eqF, pu_eqO, pu_eqO2, pu_ltO, pu_leO, pu_subO, pu_subOF, pu_subT, pu_subF, pu_oobF, pu_clamp, pu_add, pu_sub, pu_mul, pu_and, pu_or, pu_xor, pu_xorO, pu_shl, pu_shr, pu_ushr, pu_nb0, pu_nb1, pu_ob1N, pu_ob2N, pu_ob3N, pu_ob4N, pu_nwN, pu_n1, pu_n7, pu_n31, pu_n255, pu_md, pu_one, pu_sI1, pu_sI2, pu_sA1, pu_sA21, pu_sA222, pu_sAe, pu_sAn, pu_sJ1, pu_sJ21, pu_sJ221, pu_sF1, pu_sF21, pu_sF222, pu_sFe, pu_sFn, pu_upe, pu_upn, Nat.reduceAdd, Nat.reduceSub, Nat.reduceMul, Nat.reduceMod, Nat.reduceAnd, Nat.reducePow, Nat.reduceEqDiff, Nat.add_zero, Nat.zero_add, Bool.false_eq_true, Nat.add_sub_cancel, e1, e2, hbi, e0]
        · rw [if_neg hu] at hbi
          rw [if_pos (Or.inr hu)]
          simp (disch := omega) only [↓pu_m1, pu_lit, ↓reduceIte, pu_leT, pu_leF, pu_ltT, pu_ltF, pu_eqT, pu_eqF, pu_eqO, pu_eqO2, pu_ltO, pu_leO, pu_subO, pu_subOF, pu_subT, pu_subF, pu_oobF, pu_clamp, pu_add, pu_sub, pu_mul, pu_and, pu_or, pu_xor, pu_xorO, pu_shl, pu_shr, pu_ushr, pu_nb0, pu_nb1, pu_ob1N, pu_ob2N, pu_ob3N, pu_ob4N, pu_nwN, pu_n1, pu_n7, pu_n31, pu_n255, pu_md, pu_one, pu_sI1, pu_sI2, pu_sA1, pu_sA21, pu_sA222, pu_sAe, pu_sAn, pu_sJ1, pu_sJ21, pu_sJ221, pu_sF1, pu_sF21, pu_sF222, pu_sFe, pu_sFn, pu_upe, pu_upn, Nat.reduceAdd, Nat.reduceSub, Nat.reduceMul, Nat.reduceMod, Nat.reduceAnd, Nat.reducePow, Nat.reduceEqDiff, Nat.add_zero, Nat.zero_add, Bool.false_eq_true, Nat.add_sub_cancel, e1, e2, hbi]
    · show F_X10_listen_5 k (nI p) (nI v) (lnA V X p v (V 1)) (nI (V 1)) E = _
      unfold F_X10_listen_5 F_X11_opposite lsN
      by_cases hl : lnA V X p v (V 1) = nI 0
      · rw [if_pos hl, hl]
        simp (disch := omega) only [↓pu_m1, pu_lit, ↓reduceIte, pu_leT, pu_leF, pu_ltT, pu_ltF, pu_eqT, pu_eqF, pu_eqO, pu_eqO2, pu_ltO, pu_leO, pu_subO, pu_subOF, pu_subT, pu_subF, pu_oobF, pu_clamp, pu_add, pu_sub, pu_mul, pu_and, pu_or, pu_xor, pu_xorO, pu_shl, pu_shr, pu_ushr, pu_nb0, pu_nb1, pu_ob1N, pu_ob2N, pu_ob3N, pu_ob4N, pu_nwN, pu_n1, pu_n7, pu_n31, pu_n255, pu_md, pu_one, pu_sI1, pu_sI2, pu_sA1, pu_sA21, pu_sA222, pu_sAe, pu_sAn, pu_sJ1, pu_sJ21, pu_sJ221, pu_sF1, pu_sF21, pu_sF222, pu_sFe, pu_sFn, pu_upe, pu_upn, Nat.reduceAdd, Nat.reduceSub, Nat.reduceMul, Nat.reduceMod, Nat.reduceAnd, Nat.reducePow, Nat.reduceEqDiff, Nat.add_zero, Nat.zero_add, Bool.false_eq_true, Nat.add_sub_cancel, e1]
      · rw [if_neg hl, if_neg hl]
        have a1 := x11_hav hXp (by omega : v < 8)
        have a2 := x11_hav hXp (by omega : v + 4 < 8)
        generalize lnA V X p v (V 1) = l at *
        by_cases hle : l ≤ nI 0
        · have hge : ¬ nI 0 ≤ l := fun hge => hl (Int32.le_antisymm hle hge)
          rw [if_pos hle]
          simp (disch := omega) only [↓pu_m1, pu_lit, ↓reduceIte, pu_leT, pu_leF, pu_ltT, pu_ltF, pu_eqT, pu_eqF, pu_eqO, pu_eqO2, pu_ltO, pu_leO, pu_subO, pu_subOF, pu_subT, pu_subF, pu_oobF, pu_clamp, pu_add, pu_sub, pu_mul, pu_and, pu_or, pu_xor, pu_xorO, pu_shl, pu_shr, pu_ushr, pu_nb0, pu_nb1, pu_ob1N, pu_ob2N, pu_ob3N, pu_ob4N, pu_nwN, pu_n1, pu_n7, pu_n31, pu_n255, pu_md, pu_one, pu_sI1, pu_sI2, pu_sA1, pu_sA21, pu_sA222, pu_sAe, pu_sAn, pu_sJ1, pu_sJ21, pu_sJ221, pu_sF1, pu_sF21, pu_sF222, pu_sFe, pu_sFn, pu_upe, pu_upn, Nat.reduceAdd, Nat.reduceSub, Nat.reduceMul, Nat.reduceMod, Nat.reduceAnd, Nat.reducePow, Nat.reduceEqDiff, Nat.add_zero, Nat.zero_add, Bool.false_eq_true, Nat.add_sub_cancel, e1, hle, hge, e0, a2]
        · rw [if_neg hle]
          simp (disch := omega) only [↓pu_m1, pu_lit, ↓reduceIte, pu_leT, pu_leF, pu_ltT, pu_ltF, pu_eqT, pu_eqF, pu_eqO, pu_eqO2, pu_ltO, pu_leO, pu_subO, pu_subOF, pu_subT, pu_subF, pu_oobF, pu_clamp, pu_add, pu_sub, pu_mul, pu_and, pu_or, pu_xor, pu_xorO, pu_shl, pu_shr, pu_ushr, pu_nb0, pu_nb1, pu_ob1N, pu_ob2N, pu_ob3N, pu_ob4N, pu_nwN, pu_n1, pu_n7, pu_n31, pu_n255, pu_md, pu_one, pu_sI1, pu_sI2, pu_sA1, pu_sA21, pu_sA222, pu_sAe, pu_sAn, pu_sJ1, pu_sJ21, pu_sJ221, pu_sF1, pu_sF21, pu_sF222, pu_sFe, pu_sFn, pu_upe, pu_upn, Nat.reduceAdd, Nat.reduceSub, Nat.reduceMul, Nat.reduceMod, Nat.reduceAnd, Nat.reducePow, Nat.reduceEqDiff, Nat.add_zero, Nat.zero_add, Bool.false_eq_true, Nat.add_sub_cancel, e1, hle, e0, a1]
  rw [key]
  by_cases hl : lnA V X p v (V 1) = nI 0
  · refine ⟨E, by rw [if_pos hl], ?_⟩
    unfold lsN
    rw [if_pos hl, up_same]
    exact h'
  · exact ⟨_, by rw [if_neg hl], h'.up w1 hp⟩
theorem x12_agIn (h : TM M V X) (hw : WF V) (hX : BX V X) {p v : Nat} (hp : p < V 1) (hv : v < 4) (z : Int32) : ∃ M', TM M' V (up X p (lsN V X p v)) ∧ FR [] [33] [] M M' ∧ ∀ K, L_X12_agrees_20 K (nI p) z (nI v) 0 0 M = K (nI p, z, nI (v + 1), M') := by
  have w1 := hw.2.1
  have h' := h
  obtain ⟨hM, e0⟩ := h
  have hXp := hX p hp
  have g1 := hM 1 (by omega)
  have key : ∀ K, L_X12_agrees_20 K (nI p) z (nI v) 0 0 M = K (nI p, z, nI (v + 1), if lnA V X p v (V 1) = nI 0 then M else sA M 33 (nI p) (nI (lsN V X p v))) := by
    intro K
    unfold L_X12_agrees_20
    refine lp_upO (fun i => (nI p, z, nI v, lnA V X p v i, nI i, M)) (V 1) (fun i hi k => ?_) (fun k => ?_) (pu_FU (by omega))
    · have hXi := hX i hi
      have hu1 := x12_up hM hw hi
      show F_X12_agrees_20 K k (nI p) z (nI v) (lnA V X p v i) (nI i) M = k (nI p, z, nI v, lnA V X p v (i + 1), nI (i + 1), M)
      unfold F_X12_agrees_20 F_X12_agrees_79
      simp only [lnA]
      by_cases hip : i = p
      · rw [if_pos (Or.inl hip)]
        simp (disch := omega) only [↓pu_m1, pu_lit, ↓reduceIte, pu_leT, pu_leF, pu_ltT, pu_ltF, pu_eqT, pu_eqF, pu_eqO, pu_eqO2, pu_ltO, pu_leO, pu_subO, pu_subOF, pu_subT, pu_subF, pu_oobF, pu_clamp, pu_add, pu_sub, pu_mul, pu_and, pu_or, pu_xor, pu_xorO, pu_shl, pu_shr, pu_ushr, pu_nb0, pu_nb1, pu_ob1N, pu_ob2N, pu_ob3N, pu_ob4N, pu_nwN, pu_n1, pu_n7, pu_n31, pu_n255, pu_md, pu_one, pu_sI1, pu_sI2, pu_sA1, pu_sA21, pu_sA222, pu_sAe, pu_sAn, pu_sJ1, pu_sJ21, pu_sJ221, pu_sF1, pu_sF21, pu_sF222, pu_sFe, pu_sFn, pu_upe, pu_upn, Nat.reduceAdd, Nat.reduceSub, Nat.reduceMul, Nat.reduceMod, Nat.reduceAnd, Nat.reducePow, Nat.reduceEqDiff, Nat.add_zero, Nat.zero_add, Bool.false_eq_true, Nat.add_sub_cancel, g1, hip]
      · by_cases hu : V (65 + i) = 0
        · rw [if_pos hu] at hu1
          have hn : ¬ (i = p ∨ V (65 + i) ≠ 0) := fun h => h.elim hip (fun h2 => h2 hu)
          rw [if_neg hn]
          simp (disch := omega) only [↓pu_m1, pu_lit, ↓reduceIte, pu_leT, pu_leF, pu_ltT, pu_ltF, pu_eqT, pu_eqF, pu_eqO, pu_eqO2, pu_ltO, pu_leO, pu_subO, pu_subOF, pu_subT, pu_subF, pu_oobF, pu_clamp, pu_add, pu_sub, pu_mul, pu_and, pu_or, pu_xor, pu_xorO, pu_shl, pu_shr, pu_ushr, pu_nb0, pu_nb1, pu_ob1N, pu_ob2N, pu_ob3N, pu_ob4N, pu_nwN, pu_n1, pu_n7, pu_n31, pu_n255, pu_md, pu_one, pu_sI1, pu_sI2, pu_sA1, pu_sA21, pu_sA222, pu_sAe, pu_sAn, pu_sJ1, pu_sJ21, pu_sJ221, pu_sF1, pu_sF21, pu_sF222, pu_sFe, pu_sFn, pu_upe, pu_upn, Nat.reduceAdd, Nat.reduceSub, Nat.reduceMul, Nat.reduceMod, Nat.reduceAnd, Nat.reducePow, Nat.reduceEqDiff, Nat.add_zero, Nat.zero_add, Bool.false_eq_true, Nat.add_sub_cancel, g1, hu1, e0]
        · rw [if_neg hu] at hu1
          rw [if_pos (Or.inr hu)]
          simp (disch := omega) only [↓pu_m1, pu_lit, ↓reduceIte, pu_leT, pu_leF, pu_ltT, pu_ltF, pu_eqT, pu_eqF, pu_eqO, pu_eqO2, pu_ltO, pu_leO, pu_subO, pu_subOF, pu_subT, pu_subF, pu_oobF, pu_clamp, pu_add, pu_sub, pu_mul, pu_and, pu_or, pu_xor, pu_xorO, pu_shl, pu_shr, pu_ushr, pu_nb0, pu_nb1, pu_ob1N, pu_ob2N, pu_ob3N, pu_ob4N, pu_nwN, pu_n1, pu_n7, pu_n31, pu_n255, pu_md, pu_one, pu_sI1, pu_sI2, pu_sA1, pu_sA21, pu_sA222, pu_sAe, pu_sAn, pu_sJ1, pu_sJ21, pu_sJ221, pu_sF1, pu_sF21, pu_sF222, pu_sFe, pu_sFn, pu_upe, pu_upn, Nat.reduceAdd, Nat.reduceSub, Nat.reduceMul, Nat.reduceMod, Nat.reduceAnd, Nat.reducePow, Nat.reduceEqDiff, Nat.add_zero, Nat.zero_add, Bool.false_eq_true, Nat.add_sub_cancel, g1, hu1]
    · show F_X12_agrees_20 K k (nI p) z (nI v) (lnA V X p v (V 1)) (nI (V 1)) M = _
      unfold F_X12_agrees_20 F_X12_agrees_117 F_X12_agrees_113 F_X12_agrees_117 lsN
      by_cases hl : lnA V X p v (V 1) = nI 0
      · rw [if_pos hl, hl]
        simp (disch := omega) only [↓pu_m1, pu_lit, ↓reduceIte, pu_leT, pu_leF, pu_ltT, pu_ltF, pu_eqT, pu_eqF, pu_eqO, pu_eqO2, pu_ltO, pu_leO, pu_subO, pu_subOF, pu_subT, pu_subF, pu_oobF, pu_clamp, pu_add, pu_sub, pu_mul, pu_and, pu_or, pu_xor, pu_xorO, pu_shl, pu_shr, pu_ushr, pu_nb0, pu_nb1, pu_ob1N, pu_ob2N, pu_ob3N, pu_ob4N, pu_nwN, pu_n1, pu_n7, pu_n31, pu_n255, pu_md, pu_one, pu_sI1, pu_sI2, pu_sA1, pu_sA21, pu_sA222, pu_sAe, pu_sAn, pu_sJ1, pu_sJ21, pu_sJ221, pu_sF1, pu_sF21, pu_sF222, pu_sFe, pu_sFn, pu_upe, pu_upn, Nat.reduceAdd, Nat.reduceSub, Nat.reduceMul, Nat.reduceMod, Nat.reduceAnd, Nat.reducePow, Nat.reduceEqDiff, Nat.add_zero, Nat.zero_add, Bool.false_eq_true, Nat.add_sub_cancel, g1]
      · rw [if_neg hl, if_neg hl]
        have a1 := x12_hav hXp (by omega : v < 8)
        have a2 := x12_hav hXp (by omega : v + 4 < 8)
        generalize lnA V X p v (V 1) = l at *
        by_cases hle : l ≤ nI 0
        · rw [if_pos hle]
          simp (disch := omega) only [↓pu_m1, pu_lit, ↓reduceIte, pu_leT, pu_leF, pu_ltT, pu_ltF, pu_eqT, pu_eqF, pu_eqO, pu_eqO2, pu_ltO, pu_leO, pu_subO, pu_subOF, pu_subT, pu_subF, pu_oobF, pu_clamp, pu_add, pu_sub, pu_mul, pu_and, pu_or, pu_xor, pu_xorO, pu_shl, pu_shr, pu_ushr, pu_nb0, pu_nb1, pu_ob1N, pu_ob2N, pu_ob3N, pu_ob4N, pu_nwN, pu_n1, pu_n7, pu_n31, pu_n255, pu_md, pu_one, pu_sI1, pu_sI2, pu_sA1, pu_sA21, pu_sA222, pu_sAe, pu_sAn, pu_sJ1, pu_sJ21, pu_sJ221, pu_sF1, pu_sF21, pu_sF222, pu_sFe, pu_sFn, pu_upe, pu_upn, Nat.reduceAdd, Nat.reduceSub, Nat.reduceMul, Nat.reduceMod, Nat.reduceAnd, Nat.reducePow, Nat.reduceEqDiff, Nat.add_zero, Nat.zero_add, Bool.false_eq_true, Nat.add_sub_cancel, g1, hl, hle, e0, a2]
        · rw [if_neg hle]
          simp (disch := omega) only [↓pu_m1, pu_lit, ↓reduceIte, pu_leT, pu_leF, pu_ltT, pu_ltF, pu_eqT, pu_eqF, pu_eqO, pu_eqO2, pu_ltO, pu_leO, pu_subO, pu_subOF, pu_subT, pu_subF, pu_oobF, pu_clamp, pu_add, pu_sub, pu_mul, pu_and, pu_or, pu_xor, pu_xorO, pu_shl, pu_shr, pu_ushr, pu_nb0, pu_nb1, pu_ob1N, pu_ob2N, pu_ob3N, pu_ob4N, pu_nwN, pu_n1, pu_n7, pu_n31, pu_n255, pu_md, pu_one, pu_sI1, pu_sI2, pu_sA1, pu_sA21, pu_sA222, pu_sAe, pu_sAn, pu_sJ1, pu_sJ21, pu_sJ221, pu_sF1, pu_sF21, pu_sF222, pu_sFe, pu_sFn, pu_upe, pu_upn, Nat.reduceAdd, Nat.reduceSub, Nat.reduceMul, Nat.reduceMod, Nat.reduceAnd, Nat.reducePow, Nat.reduceEqDiff, Nat.add_zero, Nat.zero_add, Bool.false_eq_true, Nat.add_sub_cancel, g1, hl, hle, e0, a1]
  by_cases hl : lnA V X p v (V 1) = nI 0
  · refine ⟨M, ?_, FR.rf, fun K => by rw [key K, if_pos hl]⟩
    unfold lsN
    rw [if_pos hl, up_same]
    exact h'
  · exact ⟨_, h'.up w1 hp, FR.sA (by decide), fun K => by rw [key K, if_neg hl]⟩
theorem x12_agrees (h : TM M V X) (hw : WF V) (hX : BX V X) {p : Nat} (hp : p < V 1) : ∃ M', F_X12_agrees M (nI p) = some (nI (if lsA V X p 4 p = X p then 1 else 0), M') ∧ TM M' V (lsA V X p 4) ∧ FR [] [33] [] M M' := by
  have w1 := hw.2.1
  have hXp := hX p hp
  have e0 := h.2 p hp
  have hX4 := lsA_BX hp hX 4 (by omega) p hp
  have key := lp_inv (body := fun kz z => F_X12_agrees_9 kz z.1 z.2.1 z.2.2.1 z.2.2.2) (fun i z => ∃ M', z = (nI p, nI (X p), nI i, M') ∧ TM M' V (lsA V X p i) ∧ FR [] [33] [] M M') 4 (fun o => o.1 = nI (if lsA V X p 4 p = X p then 1 else 0) ∧ TM o.2 V (lsA V X p 4) ∧ FR [] [33] [] M o.2) (fun i hi z hz => ?_) (fun z hz => ?_) (x0 := (nI p, nI (X p), nI 0, M)) ⟨M, rfl, h, FR.rf⟩ (pu_FU (by omega : 4 < 1000000))
  · obtain ⟨o, ⟨h1, h2, h3⟩, h4⟩ := key
    refine ⟨o.2, ?_, h2, h3⟩
    unfold F_X12_agrees L_X12_agrees_9
    rw [if_neg (by rw [pu_oobF (by omega) (by omega)]; exact id), pu_clamp (by omega), e0]
    exact h4.trans (by rw [← h1])
  · obtain ⟨M', rfl, a1, a2⟩ := hz
    obtain ⟨M2, b1, b2, b3⟩ := x12_agIn a1 hw (lsA_BX hp hX i (by omega)) hp hi (nI (X p))
    refine ⟨(nI p, nI (X p), nI (i + 1), M2), ⟨M2, rfl, b1, a2.tr b2⟩, fun k => ?_⟩
    show F_X12_agrees_9 k (nI p) (nI (X p)) (nI i) M' = _
    unfold F_X12_agrees_9
    rw [if_neg (show ¬ (4 : Int32) ≤ nI i from nI_ge (a := i) (b := 4) hi (by omega)), b3]
  · obtain ⟨M', rfl, a1, a2⟩ := hz
    have f0 := a1.2 p hp
    refine ⟨(nI (if lsA V X p 4 p = X p then 1 else 0), M'), ⟨rfl, a1, a2⟩, fun k => ?_⟩
    show F_X12_agrees_9 k (nI p) (nI (X p)) (nI 4) M' = _
    unfold F_X12_agrees_9
    by_cases hc : lsA V X p 4 p = X p
    · simp (disch := omega) only [↓pu_m1, pu_lit, ↓reduceIte, pu_leT, pu_leF, pu_ltT, pu_ltF, pu_eqT, pu_eqF, pu_eqO, pu_eqO2, pu_ltO, pu_leO, pu_subO, pu_subOF, pu_subT, pu_subF, pu_oobF, pu_clamp, pu_add, pu_sub, pu_mul, pu_and, pu_or, pu_xor, pu_xorO, pu_shl, pu_shr, pu_ushr, pu_nb0, pu_nb1, pu_ob1N, pu_ob2N, pu_ob3N, pu_ob4N, pu_nwN, pu_n1, pu_n7, pu_n31, pu_n255, pu_md, pu_one, pu_sI1, pu_sI2, pu_sA1, pu_sA21, pu_sA222, pu_sAe, pu_sAn, pu_sJ1, pu_sJ21, pu_sJ221, pu_sF1, pu_sF21, pu_sF222, pu_sFe, pu_sFn, pu_upe, pu_upn, Nat.reduceAdd, Nat.reduceSub, Nat.reduceMul, Nat.reduceMod, Nat.reduceAnd, Nat.reducePow, Nat.reduceEqDiff, Nat.add_zero, Nat.zero_add, Bool.false_eq_true, Nat.add_sub_cancel, f0, hc]
    · simp (disch := omega) only [↓pu_m1, pu_lit, ↓reduceIte, pu_leT, pu_leF, pu_ltT, pu_ltF, pu_eqT, pu_eqF, pu_eqO, pu_eqO2, pu_ltO, pu_leO, pu_subO, pu_subOF, pu_subT, pu_subF, pu_oobF, pu_clamp, pu_add, pu_sub, pu_mul, pu_and, pu_or, pu_xor, pu_xorO, pu_shl, pu_shr, pu_ushr, pu_nb0, pu_nb1, pu_ob1N, pu_ob2N, pu_ob3N, pu_ob4N, pu_nwN, pu_n1, pu_n7, pu_n31, pu_n255, pu_md, pu_one, pu_sI1, pu_sI2, pu_sA1, pu_sA21, pu_sA222, pu_sAe, pu_sAn, pu_sJ1, pu_sJ21, pu_sJ221, pu_sF1, pu_sF21, pu_sF222, pu_sFe, pu_sFn, pu_upe, pu_upn, Nat.reduceAdd, Nat.reduceSub, Nat.reduceMul, Nat.reduceMod, Nat.reduceAnd, Nat.reducePow, Nat.reduceEqDiff, Nat.add_zero, Nat.zero_add, Bool.false_eq_true, Nat.add_sub_cancel, f0, hc]
def rdX (V X : Vt) : Nat → Vt
  | 0 => X
  | p + 1 => if V (65 + p) = 0 then lsA V (rdX V X p) p 4 else rdX V X p
def rdC (V X : Vt) : Nat → Nat
  | 0 => 0
  | p + 1 => if V (65 + p) = 0 then (if lsA V (rdX V X p) p 4 p = rdX V X p p then rdC V X p else 1) else rdC V X p
theorem rdC_01 (V X : Vt) : ∀ p, rdC V X p = 0 ∨ rdC V X p = 1 := by
  intro p
  induction p with
  | zero => exact Or.inl rfl
  | succ p ih =>
    simp only [rdC]
    split
    · split
      · exact ih
      · exact Or.inr rfl
    · exact ih
theorem rdX_BX (hX : BX V X) : ∀ p, p ≤ V 1 → BX V (rdX V X p) := by
  intro p
  induction p with
  | zero => intro _; exact hX
  | succ p ih =>
    intro hp
    simp only [rdX]
    split
    · exact lsA_BX (by omega) (ih (by omega)) 4 (by omega)
    · exact ih (by omega)
theorem x10_view (h : TE E V X) (hw : WF V) (hX : BX V X) {p c : Nat} (hp : p < V 1) (hc : c = 0 ∨ c = 1) : ∃ E', TE E' V (lsA V X p 4) ∧ ∀ K, L_X10_goRound_34 K (nI c) (nI p) (nI (X p)) 0 E = K (nI (if lsA V X p 4 p = X p then c else 1), nI (p + 1), E') := by
  have w1 := hw.2.1
  have hXp := hX p hp
  have hX4 := lsA_BX hp hX 4 (by omega) p hp
  have key := lp_invK (body := fun K kz z => F_X10_goRound_34 K kz z.1 z.2.1 z.2.2.1 z.2.2.2.1 z.2.2.2.2) (fun i z => ∃ E', z = (nI c, nI p, nI (X p), nI i, E') ∧ TE E' V (lsA V X p i)) 4 (fun o => ∃ E', o = (nI (if lsA V X p 4 p = X p then c else 1), nI (p + 1), E') ∧ TE E' V (lsA V X p 4)) (fun i hi z hz => ?_) (fun z hz => ?_) (x0 := (nI c, nI p, nI (X p), nI 0, E)) ⟨E, rfl, h⟩ (pu_FU (by omega : 4 < 1000000))
  · obtain ⟨o, ⟨E', rfl, h1⟩, h2⟩ := key
    exact ⟨E', h1, h2⟩
  · obtain ⟨E', rfl, a1⟩ := hz
    obtain ⟨E2, b1, b2⟩ := x10_listen a1 hw (lsA_BX hp hX i (by omega)) hp hi
    refine ⟨(nI c, nI p, nI (X p), nI (i + 1), E2), ⟨E2, rfl, b2⟩, fun K k => ?_⟩
    show F_X10_goRound_34 K k (nI c) (nI p) (nI (X p)) (nI i) E' = _
    unfold F_X10_goRound_34
    simp (disch := omega) only [↓pu_m1, pu_lit, ↓reduceIte, pu_leT, pu_leF, pu_ltT, pu_ltF, pu_eqT, pu_eqF, pu_eqO, pu_eqO2, pu_ltO, pu_leO, pu_subO, pu_subOF, pu_subT, pu_subF, pu_oobF, pu_clamp, pu_add, pu_sub, pu_mul, pu_and, pu_or, pu_xor, pu_xorO, pu_shl, pu_shr, pu_ushr, pu_nb0, pu_nb1, pu_ob1N, pu_ob2N, pu_ob3N, pu_ob4N, pu_nwN, pu_n1, pu_n7, pu_n31, pu_n255, pu_md, pu_one, pu_sI1, pu_sI2, pu_sA1, pu_sA21, pu_sA222, pu_sAe, pu_sAn, pu_sJ1, pu_sJ21, pu_sJ221, pu_sF1, pu_sF21, pu_sF222, pu_sFe, pu_sFn, pu_upe, pu_upn, Nat.reduceAdd, Nat.reduceSub, Nat.reduceMul, Nat.reduceMod, Nat.reduceAnd, Nat.reducePow, Nat.reduceEqDiff, Nat.add_zero, Nat.zero_add, Bool.false_eq_true, Nat.add_sub_cancel, b1]
  · obtain ⟨E', rfl, a1⟩ := hz
    have f0 := a1.2.2 p hp
    refine ⟨_, ⟨E', rfl, a1⟩, fun K k => ?_⟩
    show F_X10_goRound_34 K k (nI c) (nI p) (nI (X p)) (nI 4) E' = _
    unfold F_X10_goRound_34 F_X10_goRound_69 F_X10_goRound_71
    by_cases hc2 : lsA V X p 4 p = X p
    · simp (disch := omega) only [↓pu_m1, pu_lit, ↓reduceIte, pu_leT, pu_leF, pu_ltT, pu_ltF, pu_eqT, pu_eqF, pu_eqO, pu_eqO2, pu_ltO, pu_leO, pu_subO, pu_subOF, pu_subT, pu_subF, pu_oobF, pu_clamp, pu_add, pu_sub, pu_mul, pu_and, pu_or, pu_xor, pu_xorO, pu_shl, pu_shr, pu_ushr, pu_nb0, pu_nb1, pu_ob1N, pu_ob2N, pu_ob3N, pu_ob4N, pu_nwN, pu_n1, pu_n7, pu_n31, pu_n255, pu_md, pu_one, pu_sI1, pu_sI2, pu_sA1, pu_sA21, pu_sA222, pu_sAe, pu_sAn, pu_sJ1, pu_sJ21, pu_sJ221, pu_sF1, pu_sF21, pu_sF222, pu_sFe, pu_sFn, pu_upe, pu_upn, Nat.reduceAdd, Nat.reduceSub, Nat.reduceMul, Nat.reduceMod, Nat.reduceAnd, Nat.reducePow, Nat.reduceEqDiff, Nat.add_zero, Nat.zero_add, Bool.false_eq_true, Nat.add_sub_cancel, f0, hc2, or0]
    · have : c ||| 1 = 1 := by rcases hc with rfl | rfl <;> rfl
      simp (disch := omega) only [↓pu_m1, pu_lit, ↓reduceIte, pu_leT, pu_leF, pu_ltT, pu_ltF, pu_eqT, pu_eqF, pu_eqO, pu_eqO2, pu_ltO, pu_leO, pu_subO, pu_subOF, pu_subT, pu_subF, pu_oobF, pu_clamp, pu_add, pu_sub, pu_mul, pu_and, pu_or, pu_xor, pu_xorO, pu_shl, pu_shr, pu_ushr, pu_nb0, pu_nb1, pu_ob1N, pu_ob2N, pu_ob3N, pu_ob4N, pu_nwN, pu_n1, pu_n7, pu_n31, pu_n255, pu_md, pu_one, pu_sI1, pu_sI2, pu_sA1, pu_sA21, pu_sA222, pu_sAe, pu_sAn, pu_sJ1, pu_sJ21, pu_sJ221, pu_sF1, pu_sF21, pu_sF222, pu_sFe, pu_sFn, pu_upe, pu_upn, Nat.reduceAdd, Nat.reduceSub, Nat.reduceMul, Nat.reduceMod, Nat.reduceAnd, Nat.reducePow, Nat.reduceEqDiff, Nat.add_zero, Nat.zero_add, Bool.false_eq_true, Nat.add_sub_cancel, f0, hc2, this]
theorem x10_round (h : TE E V X) (hw : WF V) (hX : BX V X) : ∃ E', F_X10_goRound E = some (nI (rdC V X (V 1)), E') ∧ TE E' V (rdX V X (V 1)) := by
  have w1 := hw.2.1
  have key := lp_inv (body := fun kz z => F_X10_goRound_4 kz z.1 z.2.1 z.2.2) (fun i z => ∃ E', z = (nI (rdC V X i), nI i, E') ∧ TE E' V (rdX V X i)) (V 1) (fun o => o.1 = nI (rdC V X (V 1)) ∧ TE o.2 V (rdX V X (V 1))) (fun i hi z hz => ?_) (fun z hz => ?_) (x0 := (nI 0, nI 0, E)) ⟨E, rfl, h⟩ (pu_FU (by omega : V 1 < 1000000))
  · obtain ⟨o, ⟨h1, h2⟩, h3⟩ := key
    refine ⟨o.2, ?_, h2⟩
    rw [← h1]
    exact h3
  · obtain ⟨E', rfl, a1⟩ := hz
    have a1' := a1
    obtain ⟨e1, ⟨d, hd, e2, hb⟩, e0⟩ := a1
    have hbi := hb i hi
    by_cases hu : V (65 + i) = 0
    · rw [if_pos hu] at hbi
      obtain ⟨E2, b1, b2⟩ := x10_view a1' hw (rdX_BX hX i (by omega)) hi (rdC_01 V X i)
      refine ⟨(nI (rdC V X (i + 1)), nI (i + 1), E2), ⟨E2, rfl, ?_⟩, fun k => ?_⟩
      · simp only [rdX]; rw [if_pos hu]; exact b1
      · show F_X10_goRound_4 k (nI (rdC V X i)) (nI i) E' = _
        unfold F_X10_goRound_4
        simp only [rdC]
        rw [if_pos hu]
        simp (disch := omega) only [↓pu_m1, pu_lit, ↓reduceIte, pu_leT, pu_leF, pu_ltT, pu_ltF, pu_eqT, pu_eqF, pu_eqO, pu_eqO2, pu_ltO, pu_leO, pu_subO, pu_subOF, pu_subT, pu_subF, pu_oobF, pu_clamp, pu_add, pu_sub, pu_mul, pu_and, pu_or, pu_xor, pu_xorO, pu_shl, pu_shr, pu_ushr, pu_nb0, pu_nb1, pu_ob1N, pu_ob2N, pu_ob3N, pu_ob4N, pu_nwN, pu_n1, pu_n7, pu_n31, pu_n255, pu_md, pu_one, pu_sI1, pu_sI2, pu_sA1, pu_sA21, pu_sA222, pu_sAe, pu_sAn, pu_sJ1, pu_sJ21, pu_sJ221, pu_sF1, pu_sF21, pu_sF222, pu_sFe, pu_sFn, pu_upe, pu_upn, Nat.reduceAdd, Nat.reduceSub, Nat.reduceMul, Nat.reduceMod, Nat.reduceAnd, Nat.reducePow, Nat.reduceEqDiff, Nat.add_zero, Nat.zero_add, Bool.false_eq_true, Nat.add_sub_cancel, e1, e2, hbi, e0 i hi]
        exact b2 k
    · rw [if_neg hu] at hbi
      refine ⟨(nI (rdC V X (i + 1)), nI (i + 1), E'), ⟨E', rfl, ?_⟩, fun k => ?_⟩
      · simp only [rdX]; rw [if_neg hu]; exact a1'
      · show F_X10_goRound_4 k (nI (rdC V X i)) (nI i) E' = _
        unfold F_X10_goRound_4 F_X10_goRound_71
        simp only [rdC]
        rw [if_neg hu]
        simp (disch := omega) only [↓pu_m1, pu_lit, ↓reduceIte, pu_leT, pu_leF, pu_ltT, pu_ltF, pu_eqT, pu_eqF, pu_eqO, pu_eqO2, pu_ltO, pu_leO, pu_subO, pu_subOF, pu_subT, pu_subF, pu_oobF, pu_clamp, pu_add, pu_sub, pu_mul, pu_and, pu_or, pu_xor, pu_xorO, pu_shl, pu_shr, pu_ushr, pu_nb0, pu_nb1, pu_ob1N, pu_ob2N, pu_ob3N, pu_ob4N, pu_nwN, pu_n1, pu_n7, pu_n31, pu_n255, pu_md, pu_one, pu_sI1, pu_sI2, pu_sA1, pu_sA21, pu_sA222, pu_sAe, pu_sAn, pu_sJ1, pu_sJ21, pu_sJ221, pu_sF1, pu_sF21, pu_sF222, pu_sFe, pu_sFn, pu_upe, pu_upn, Nat.reduceAdd, Nat.reduceSub, Nat.reduceMul, Nat.reduceMod, Nat.reduceAnd, Nat.reducePow, Nat.reduceEqDiff, Nat.add_zero, Nat.zero_add, Bool.false_eq_true, Nat.add_sub_cancel, e1, e2, hbi]
  · obtain ⟨E', rfl, a1⟩ := hz
    have e1 := a1.1
    refine ⟨(nI (rdC V X (V 1)), E'), ⟨rfl, a1⟩, fun k => ?_⟩
    show F_X10_goRound_4 k (nI (rdC V X (V 1))) (nI (V 1)) E' = _
    unfold F_X10_goRound_4
    rcases rdC_01 V X (V 1) with hc | hc
    · simp (disch := omega) only [↓pu_m1, pu_lit, ↓reduceIte, pu_leT, pu_leF, pu_ltT, pu_ltF, pu_eqT, pu_eqF, pu_eqO, pu_eqO2, pu_ltO, pu_leO, pu_subO, pu_subOF, pu_subT, pu_subF, pu_oobF, pu_clamp, pu_add, pu_sub, pu_mul, pu_and, pu_or, pu_xor, pu_xorO, pu_shl, pu_shr, pu_ushr, pu_nb0, pu_nb1, pu_ob1N, pu_ob2N, pu_ob3N, pu_ob4N, pu_nwN, pu_n1, pu_n7, pu_n31, pu_n255, pu_md, pu_one, pu_sI1, pu_sI2, pu_sA1, pu_sA21, pu_sA222, pu_sAe, pu_sAn, pu_sJ1, pu_sJ21, pu_sJ221, pu_sF1, pu_sF21, pu_sF222, pu_sFe, pu_sFn, pu_upe, pu_upn, Nat.reduceAdd, Nat.reduceSub, Nat.reduceMul, Nat.reduceMod, Nat.reduceAnd, Nat.reducePow, Nat.reduceEqDiff, Nat.add_zero, Nat.zero_add, Bool.false_eq_true, Nat.add_sub_cancel, e1, hc]
    · simp (disch := omega) only [↓pu_m1, pu_lit, ↓reduceIte, pu_leT, pu_leF, pu_ltT, pu_ltF, pu_eqT, pu_eqF, pu_eqO, pu_eqO2, pu_ltO, pu_leO, pu_subO, pu_subOF, pu_subT, pu_subF, pu_oobF, pu_clamp, pu_add, pu_sub, pu_mul, pu_and, pu_or, pu_xor, pu_xorO, pu_shl, pu_shr, pu_ushr, pu_nb0, pu_nb1, pu_ob1N, pu_ob2N, pu_ob3N, pu_ob4N, pu_nwN, pu_n1, pu_n7, pu_n31, pu_n255, pu_md, pu_one, pu_sI1, pu_sI2, pu_sA1, pu_sA21, pu_sA222, pu_sAe, pu_sAn, pu_sJ1, pu_sJ21, pu_sJ221, pu_sF1, pu_sF21, pu_sF222, pu_sFe, pu_sFn, pu_upe, pu_upn, Nat.reduceAdd, Nat.reduceSub, Nat.reduceMul, Nat.reduceMod, Nat.reduceAnd, Nat.reducePow, Nat.reduceEqDiff, Nat.add_zero, Nat.zero_add, Bool.false_eq_true, Nat.add_sub_cancel, e1, hc]
theorem x12_round (h : TM M V X) (hw : WF V) (hX : BX V X) (n : Nat) : ∃ M', TM M' V (rdX V X (V 1)) ∧ FR [] [33] [] M M' ∧ ∀ K, L_X12_tea_62 K 0 (nI n) 0 M = K (nI (rdC V X (V 1)), nI (n + 1), M') := by
  have w1 := hw.2.1
  have key := lp_invK (body := fun K kz z => F_X12_tea_62 K kz z.1 z.2.1 z.2.2.1 z.2.2.2) (fun i z => ∃ M', z = (nI (rdC V X i), nI n, nI i, M') ∧ TM M' V (rdX V X i) ∧ FR [] [33] [] M M') (V 1) (fun o => ∃ M', o = (nI (rdC V X (V 1)), nI (n + 1), M') ∧ TM M' V (rdX V X (V 1)) ∧ FR [] [33] [] M M') (fun i hi z hz => ?_) (fun z hz => ?_) (x0 := (nI 0, nI n, nI 0, M)) ⟨M, rfl, h, FR.rf⟩ (pu_FU (by omega : V 1 < 1000000))
  · obtain ⟨o, ⟨M', rfl, h1, h2⟩, h3⟩ := key
    exact ⟨M', h1, h2, h3⟩
  · obtain ⟨M', rfl, a1, a2⟩ := hz
    have g1 := a1.1 1 (by omega)
    have hu1 := x12_up a1.1 hw hi
    by_cases hu : V (65 + i) = 0
    · rw [if_pos hu] at hu1
      obtain ⟨M2, b1, b2, b3⟩ := x12_agrees a1 hw (rdX_BX hX i (by omega)) hi
      refine ⟨(nI (rdC V X (i + 1)), nI n, nI (i + 1), M2), ⟨M2, rfl, ?_, a2.tr b3⟩, fun K k => ?_⟩
      · simp only [rdX]; rw [if_pos hu]; exact b2
      · show F_X12_tea_62 K k (nI (rdC V X i)) (nI n) (nI i) M' = _
        unfold F_X12_tea_62 F_X12_tea_99 F_X12_tea_104 F_X12_tea_105
        simp only [rdC]
        rw [if_pos hu]
        by_cases hs : lsA V (rdX V X i) i 4 i = rdX V X i i
        · rw [if_pos hs] at b1
          rw [if_pos hs]
          rcases rdC_01 V X i with hc | hc
          · simp (disch := omega) only [↓pu_m1, pu_lit, ↓reduceIte, pu_leT, pu_leF, pu_ltT, pu_ltF, pu_eqT, pu_eqF, pu_eqO, pu_eqO2, pu_ltO, pu_leO, pu_subO, pu_subOF, pu_subT, pu_subF, pu_oobF, pu_clamp, pu_add, pu_sub, pu_mul, pu_and, pu_or, pu_xor, pu_xorO, pu_shl, pu_shr, pu_ushr, pu_nb0, pu_nb1, pu_ob1N, pu_ob2N, pu_ob3N, pu_ob4N, pu_nwN, pu_n1, pu_n7, pu_n31, pu_n255, pu_md, pu_one, pu_sI1, pu_sI2, pu_sA1, pu_sA21, pu_sA222, pu_sAe, pu_sAn, pu_sJ1, pu_sJ21, pu_sJ221, pu_sF1, pu_sF21, pu_sF222, pu_sFe, pu_sFn, pu_upe, pu_upn, Nat.reduceAdd, Nat.reduceSub, Nat.reduceMul, Nat.reduceMod, Nat.reduceAnd, Nat.reducePow, Nat.reduceEqDiff, Nat.add_zero, Nat.zero_add, Bool.false_eq_true, Nat.add_sub_cancel, g1, hu1, b1, hc]
          · simp (disch := omega) only [↓pu_m1, pu_lit, ↓reduceIte, pu_leT, pu_leF, pu_ltT, pu_ltF, pu_eqT, pu_eqF, pu_eqO, pu_eqO2, pu_ltO, pu_leO, pu_subO, pu_subOF, pu_subT, pu_subF, pu_oobF, pu_clamp, pu_add, pu_sub, pu_mul, pu_and, pu_or, pu_xor, pu_xorO, pu_shl, pu_shr, pu_ushr, pu_nb0, pu_nb1, pu_ob1N, pu_ob2N, pu_ob3N, pu_ob4N, pu_nwN, pu_n1, pu_n7, pu_n31, pu_n255, pu_md, pu_one, pu_sI1, pu_sI2, pu_sA1, pu_sA21, pu_sA222, pu_sAe, pu_sAn, pu_sJ1, pu_sJ21, pu_sJ221, pu_sF1, pu_sF21, pu_sF222, pu_sFe, pu_sFn, pu_upe, pu_upn, Nat.reduceAdd, Nat.reduceSub, Nat.reduceMul, Nat.reduceMod, Nat.reduceAnd, Nat.reducePow, Nat.reduceEqDiff, Nat.add_zero, Nat.zero_add, Bool.false_eq_true, Nat.add_sub_cancel, g1, hu1, b1, hc]
        · rw [if_neg hs] at b1
          rw [if_neg hs]
          rcases rdC_01 V X i with hc | hc
          · simp (disch := omega) only [↓pu_m1, pu_lit, ↓reduceIte, pu_leT, pu_leF, pu_ltT, pu_ltF, pu_eqT, pu_eqF, pu_eqO, pu_eqO2, pu_ltO, pu_leO, pu_subO, pu_subOF, pu_subT, pu_subF, pu_oobF, pu_clamp, pu_add, pu_sub, pu_mul, pu_and, pu_or, pu_xor, pu_xorO, pu_shl, pu_shr, pu_ushr, pu_nb0, pu_nb1, pu_ob1N, pu_ob2N, pu_ob3N, pu_ob4N, pu_nwN, pu_n1, pu_n7, pu_n31, pu_n255, pu_md, pu_one, pu_sI1, pu_sI2, pu_sA1, pu_sA21, pu_sA222, pu_sAe, pu_sAn, pu_sJ1, pu_sJ21, pu_sJ221, pu_sF1, pu_sF21, pu_sF222, pu_sFe, pu_sFn, pu_upe, pu_upn, Nat.reduceAdd, Nat.reduceSub, Nat.reduceMul, Nat.reduceMod, Nat.reduceAnd, Nat.reducePow, Nat.reduceEqDiff, Nat.add_zero, Nat.zero_add, Bool.false_eq_true, Nat.add_sub_cancel, g1, hu1, b1, hc]
          · simp (disch := omega) only [↓pu_m1, pu_lit, ↓reduceIte, pu_leT, pu_leF, pu_ltT, pu_ltF, pu_eqT, pu_eqF, pu_eqO, pu_eqO2, pu_ltO, pu_leO, pu_subO, pu_subOF, pu_subT, pu_subF, pu_oobF, pu_clamp, pu_add, pu_sub, pu_mul, pu_and, pu_or, pu_xor, pu_xorO, pu_shl, pu_shr, pu_ushr, pu_nb0, pu_nb1, pu_ob1N, pu_ob2N, pu_ob3N, pu_ob4N, pu_nwN, pu_n1, pu_n7, pu_n31, pu_n255, pu_md, pu_one, pu_sI1, pu_sI2, pu_sA1, pu_sA21, pu_sA222, pu_sAe, pu_sAn, pu_sJ1, pu_sJ21, pu_sJ221, pu_sF1, pu_sF21, pu_sF222, pu_sFe, pu_sFn, pu_upe, pu_upn, Nat.reduceAdd, Nat.reduceSub, Nat.reduceMul, Nat.reduceMod, Nat.reduceAnd, Nat.reducePow, Nat.reduceEqDiff, Nat.add_zero, Nat.zero_add, Bool.false_eq_true, Nat.add_sub_cancel, g1, hu1, b1, hc]
    · rw [if_neg hu] at hu1
      refine ⟨(nI (rdC V X (i + 1)), nI n, nI (i + 1), M'), ⟨M', rfl, ?_, a2⟩, fun K k => ?_⟩
      · simp only [rdX]; rw [if_neg hu]; exact a1
      · show F_X12_tea_62 K k (nI (rdC V X i)) (nI n) (nI i) M' = _
        unfold F_X12_tea_62 F_X12_tea_105
        simp only [rdC]
        rw [if_neg hu]
        simp (disch := omega) only [↓pu_m1, pu_lit, ↓reduceIte, pu_leT, pu_leF, pu_ltT, pu_ltF, pu_eqT, pu_eqF, pu_eqO, pu_eqO2, pu_ltO, pu_leO, pu_subO, pu_subOF, pu_subT, pu_subF, pu_oobF, pu_clamp, pu_add, pu_sub, pu_mul, pu_and, pu_or, pu_xor, pu_xorO, pu_shl, pu_shr, pu_ushr, pu_nb0, pu_nb1, pu_ob1N, pu_ob2N, pu_ob3N, pu_ob4N, pu_nwN, pu_n1, pu_n7, pu_n31, pu_n255, pu_md, pu_one, pu_sI1, pu_sI2, pu_sA1, pu_sA21, pu_sA222, pu_sAe, pu_sAn, pu_sJ1, pu_sJ21, pu_sJ221, pu_sF1, pu_sF21, pu_sF222, pu_sFe, pu_sFn, pu_upe, pu_upn, Nat.reduceAdd, Nat.reduceSub, Nat.reduceMul, Nat.reduceMod, Nat.reduceAnd, Nat.reducePow, Nat.reduceEqDiff, Nat.add_zero, Nat.zero_add, Bool.false_eq_true, Nat.add_sub_cancel, g1, hu1]
  · obtain ⟨M', rfl, a1, a2⟩ := hz
    have g1 := a1.1 1 (by omega)
    refine ⟨_, ⟨M', rfl, a1, a2⟩, fun K k => ?_⟩
    show F_X12_tea_62 K k (nI (rdC V X (V 1))) (nI n) (nI (V 1)) M' = _
    unfold F_X12_tea_62
    simp (disch := omega) only [↓pu_m1, pu_lit, ↓reduceIte, pu_leT, pu_leF, pu_ltT, pu_ltF, pu_eqT, pu_eqF, pu_eqO, pu_eqO2, pu_ltO, pu_leO, pu_subO, pu_subOF, pu_subT, pu_subF, pu_oobF, pu_clamp, pu_add, pu_sub, pu_mul, pu_and, pu_or, pu_xor, pu_xorO, pu_shl, pu_shr, pu_ushr, pu_nb0, pu_nb1, pu_ob1N, pu_ob2N, pu_ob3N, pu_ob4N, pu_nwN, pu_n1, pu_n7, pu_n31, pu_n255, pu_md, pu_one, pu_sI1, pu_sI2, pu_sA1, pu_sA21, pu_sA222, pu_sAe, pu_sAn, pu_sJ1, pu_sJ21, pu_sJ221, pu_sF1, pu_sF21, pu_sF222, pu_sFe, pu_sFn, pu_upe, pu_upn, Nat.reduceAdd, Nat.reduceSub, Nat.reduceMul, Nat.reduceMod, Nat.reduceAnd, Nat.reducePow, Nat.reduceEqDiff, Nat.add_zero, Nat.zero_add, Bool.false_eq_true, Nat.add_sub_cancel, g1]
def RTe (E M : St) : Prop := ∃ n, n ≤ 6 ∧ E.1 1 = nI n ∧ (M.1 34 = nI n ∨ (n = 0 ∧ M.1 34 = nO)) ∧ ∀ q, q < n → E.2.2.1 0 q = M.2.2.1 33 q
theorem p_tea (hS : RS B V) (hM : RM M V) (hw : WF V) : ∃ r E' M', F_X11_tea T B E = some (r, E') ∧ F_X12_tea M = some (r, M') ∧ RTe E' M' ∧ FR [0, 34] [33] [] M M' := by
  have w1 := hw.2.1
  have w59 := hw.2.2.2.2.2.2.2.2.1
  have g1 := hM 1 (by omega)
  have e7 := hS.2.1
  have f9 := hS.2.2.2.2.2.2.2.2.1
  have hu := x8_upV hS hw
  have hul : upV V < 2 ^ V 1 := bA_lt _ _
  have hpw : 2 ^ V 1 ≤ 64 := Nat.pow_le_pow_right (by omega) w1
  have hp1 : 1 ≤ 2 ^ V 1 := Nat.one_le_two_pow
  have hdl : (2 ^ V 1 - 1) &&& (upV V ^^^ 4294967295) < 2147483648 := Nat.lt_of_le_of_lt Nat.and_le_left (by omega)
  have hdb : ∀ q, q < V 1 → ((2 ^ V 1 - 1) &&& (upV V ^^^ 4294967295)) / 2 ^ q % 2 = if V (65 + q) = 0 then 1 else 0 := by
    intro q hq
    have hb := bit_tb ((2 ^ V 1 - 1) &&& (upV V ^^^ 4294967295)) q
    have hv : ((2 ^ V 1 - 1) &&& (upV V ^^^ 4294967295)).testBit q = (V (65 + q) == 0) := by
      rw [Nat.testBit_and, Nat.testBit_two_pow_sub_one, Nat.testBit_xor, show 4294967295 = 2 ^ 32 - 1 from rfl, Nat.testBit_two_pow_sub_one]
      unfold upV
      rw [bA_bit]
      have h1 : decide (q < V 1) = true := decide_eq_true hq
      have h2 : decide (q < 32) = true := decide_eq_true (by omega)
      rw [h1, h2]
      cases (V (65 + q) == 0) <;> rfl
    rw [hv] at hb
    rcases Nat.mod_two_eq_zero_or_one (((2 ^ V 1 - 1) &&& (upV V ^^^ 4294967295)) / 2 ^ q) with h | h
    · rw [h, if_neg]
      intro h0
      have := hb.mpr (by simp [h0])
      omega
    · rw [h, if_pos]
      have := hb.mp h
      simpa using this
  have hTE : TE (sF (sI (sI E 1 (nI (V 1))) 2 (nI ((2 ^ V 1 - 1) &&& (upV V ^^^ 4294967295)))) 0 (B.2.2.1 9)) V (fun q => V (59 + q)) :=
    ⟨rfl, ⟨_, hdl, rfl, hdb⟩, fun q hq => by rw [pu_sFe]; exact f9 q hq⟩
  have hX0 : BX V (fun q => V (59 + q)) := fun q hq => w59 q hq
  have htm : ∃ M1, (∀ K : Int32 × St → Option (Int32 × St), True) ∧ F_X12_tea M = L_X12_tea_48 1 0 M1 ∧ TM M1 V (fun q => V (59 + q)) ∧ FR [0, 34] [33] [] M M1 ∧ M1.1 34 = nI (V 1) := by
    refine ⟨sF (sI (sI M 0 (nI 0)) 34 (nI (V 1))) 33 (cpR (M.2.2.1 33) 0 (fun j => M.2.2.1 6 (59 + j)) 6), fun _ => trivial, ?_, ⟨fun k hk => by rw [pu_sFn (by omega)]; exact hM k hk, fun q hq => ?_⟩, ((FR.sI (by decide)).tr (FR.sI (by decide))).tr (FR.sF (by decide)), rfl⟩
    · unfold F_X12_tea
      have key := lp_upO (body := fun kz z => F_X12_tea_17 kz z.1 z.2) (fun i => (nI i, sF (sI (sI M 0 (nI 0)) 34 (nI (V 1))) 33 (cpR (M.2.2.1 33) 0 (fun j => M.2.2.1 6 (59 + j)) i))) 6 (o := L_X12_tea_48 1 0 (sF (sI (sI M 0 (nI 0)) 34 (nI (V 1))) 33 (cpR (M.2.2.1 33) 0 (fun j => M.2.2.1 6 (59 + j)) 6))) (fun i hi k => ?_) (fun k => ?_) (pu_FU (by omega : 6 < 1000000))
      · rw [cpR0] at key
        have e : sF (sI (sI M 0 (nI 0)) 34 (nI (V 1))) 33 (M.2.2.1 33) = sI (sI M 0 (nI 0)) 34 (nI (V 1)) := pu_sFsame (S := sI (sI M 0 (nI 0)) 34 (nI (V 1))) (f := 33)
        rw [e] at key
        simp (disch := omega) only [pu_lit, pu_nwN, pu_sI2, pu_clamp, pu_oobF, g1, ↓reduceIte]
        exact key
      · show F_X12_tea_17 k (nI i) _ = _
        unfold F_X12_tea_17
        have e := cpRs (M.2.2.1 33) 0 (fun j => M.2.2.1 6 (59 + j)) i
        rw [Nat.zero_add] at e
        simp (disch := omega) only [↓pu_m1, pu_lit, ↓reduceIte, pu_leT, pu_leF, pu_ltT, pu_ltF, pu_eqT, pu_eqF, pu_eqO, pu_eqO2, pu_ltO, pu_leO, pu_subO, pu_subOF, pu_subT, pu_subF, pu_oobF, pu_clamp, pu_add, pu_sub, pu_mul, pu_and, pu_or, pu_xor, pu_xorO, pu_shl, pu_shr, pu_ushr, pu_nb0, pu_nb1, pu_ob1N, pu_ob2N, pu_ob3N, pu_ob4N, pu_nwN, pu_n1, pu_n7, pu_n31, pu_n255, pu_md, pu_one, pu_sI1, pu_sI2, pu_sA1, pu_sA21, pu_sA222, pu_sAe, pu_sAn, pu_sJ1, pu_sJ21, pu_sJ221, pu_sF1, pu_sF21, pu_sF222, pu_sFe, pu_sFn, pu_upe, pu_upn, Nat.reduceAdd, Nat.reduceSub, Nat.reduceMul, Nat.reduceMod, Nat.reduceAnd, Nat.reducePow, Nat.reduceEqDiff, Nat.add_zero, Nat.zero_add, Bool.false_eq_true, Nat.add_sub_cancel, sA_sF, e]
      · show F_X12_tea_17 k (nI 6) _ = _
        unfold F_X12_tea_17
        rw [if_pos (by decide)]
    · rw [pu_sFe, cpR_in (by omega) (by omega)]
      show M.2.2.1 6 (59 + (q - 0)) = nI (V (59 + q))
      rw [Nat.sub_zero]
      exact hM (59 + q) (by omega)
  obtain ⟨M1, -, t1, t2, t3, t4⟩ := htm
  have key := lp_twoE (b1 := fun kz z => F_X10_sit_46 kz z.1 z.2.1 z.2.2.1 z.2.2.2) (b2 := fun kz z => F_X12_tea_48 kz z.1 z.2.1 z.2.2) (fun i a b => ∃ c E' M' X, a = (nI i, nI c, E', B) ∧ b = (nI c, nI i, M') ∧ (c = 0 ∨ c = 1) ∧ TE E' V X ∧ TM M' V X ∧ BX V X ∧ FR [] [33] [] M1 M') 10 (fun o o' => o.1 = o'.1 ∧ ∃ X, TE o.2 V X ∧ TM o'.2 V X ∧ FR [] [33] [] M1 o'.2) (fun i hi a b hab => ?_) (x0 := (nI 0, nI 1, sF (sI (sI E 1 (nI (V 1))) 2 (nI ((2 ^ V 1 - 1) &&& (upV V ^^^ 4294967295)))) 0 (B.2.2.1 9), B)) (y0 := (nI 1, nI 0, M1)) ⟨1, _, M1, _, rfl, rfl, Or.inr rfl, hTE, t2, hX0, FR.rf⟩ (pu_FU (by omega : 10 < 1000000))
  · obtain ⟨o, o', ⟨h1, X, h2, h3, h4⟩, h5, h6⟩ := key
    refine ⟨o.1, o.2, o'.2, ?_, ?_, ⟨V 1, w1, h2.1, Or.inl ?_, fun q hq => (h2.2.2 q hq).trans (h3.2 q hq).symm⟩, t3.tr (h4.mono (by decide) (by decide) (by decide))⟩
    · unfold F_X11_tea F_X10_sit L_X10_sit_46
      simp (disch := omega) only [↓pu_m1, pu_lit, ↓reduceIte, pu_leT, pu_leF, pu_ltT, pu_ltF, pu_eqT, pu_eqF, pu_eqO, pu_eqO2, pu_ltO, pu_leO, pu_subO, pu_subOF, pu_subT, pu_subF, pu_oobF, pu_clamp, pu_add, pu_sub, pu_mul, pu_and, pu_or, pu_xor, pu_xorO, pu_shl, pu_shr, pu_ushr, pu_nb0, pu_nb1, pu_ob1N, pu_ob2N, pu_ob3N, pu_ob4N, pu_nwN, pu_n1, pu_n7, pu_n31, pu_n255, pu_md, pu_one, pu_sI1, pu_sI2, pu_sA1, pu_sA21, pu_sA222, pu_sAe, pu_sAn, pu_sJ1, pu_sJ21, pu_sJ221, pu_sF1, pu_sF21, pu_sF222, pu_sFe, pu_sFn, pu_upe, pu_upn, Nat.reduceAdd, Nat.reduceSub, Nat.reduceMul, Nat.reduceMod, Nat.reduceAnd, Nat.reducePow, Nat.reduceEqDiff, Nat.add_zero, Nat.zero_add, Bool.false_eq_true, Nat.add_sub_cancel, e7, hu]
      rw [h5]
      rfl
    · rw [t1]
      unfold L_X12_tea_48
      rw [h1]
      exact h6
    · rw [h4.1 34 (by decide)]; exact t4
  · obtain ⟨c, E', M', X, rfl, rfl, hc, a1, a2, a3, a4⟩ := hab
    by_cases hcz : c = 0
    · left
      refine ⟨(nI i, E'), (nI i, M'), ⟨rfl, X, a1, a2, a4⟩, fun k => ?_, fun k => ?_⟩
      · show F_X10_sit_46 k (nI i) (nI c) E' B = _
        unfold F_X10_sit_46
        simp (disch := omega) only [↓pu_m1, pu_lit, ↓reduceIte, pu_leT, pu_leF, pu_ltT, pu_ltF, pu_eqT, pu_eqF, pu_eqO, pu_eqO2, pu_ltO, pu_leO, pu_subO, pu_subOF, pu_subT, pu_subF, pu_oobF, pu_clamp, pu_add, pu_sub, pu_mul, pu_and, pu_or, pu_xor, pu_xorO, pu_shl, pu_shr, pu_ushr, pu_nb0, pu_nb1, pu_ob1N, pu_ob2N, pu_ob3N, pu_ob4N, pu_nwN, pu_n1, pu_n7, pu_n31, pu_n255, pu_md, pu_one, pu_sI1, pu_sI2, pu_sA1, pu_sA21, pu_sA222, pu_sAe, pu_sAn, pu_sJ1, pu_sJ21, pu_sJ221, pu_sF1, pu_sF21, pu_sF222, pu_sFe, pu_sFn, pu_upe, pu_upn, Nat.reduceAdd, Nat.reduceSub, Nat.reduceMul, Nat.reduceMod, Nat.reduceAnd, Nat.reducePow, Nat.reduceEqDiff, Nat.add_zero, Nat.zero_add, Bool.false_eq_true, Nat.add_sub_cancel, hcz]
      · show F_X12_tea_48 k (nI c) (nI i) M' = _
        unfold F_X12_tea_48
        simp (disch := omega) only [↓pu_m1, pu_lit, ↓reduceIte, pu_leT, pu_leF, pu_ltT, pu_ltF, pu_eqT, pu_eqF, pu_eqO, pu_eqO2, pu_ltO, pu_leO, pu_subO, pu_subOF, pu_subT, pu_subF, pu_oobF, pu_clamp, pu_add, pu_sub, pu_mul, pu_and, pu_or, pu_xor, pu_xorO, pu_shl, pu_shr, pu_ushr, pu_nb0, pu_nb1, pu_ob1N, pu_ob2N, pu_ob3N, pu_ob4N, pu_nwN, pu_n1, pu_n7, pu_n31, pu_n255, pu_md, pu_one, pu_sI1, pu_sI2, pu_sA1, pu_sA21, pu_sA222, pu_sAe, pu_sAn, pu_sJ1, pu_sJ21, pu_sJ221, pu_sF1, pu_sF21, pu_sF222, pu_sFe, pu_sFn, pu_upe, pu_upn, Nat.reduceAdd, Nat.reduceSub, Nat.reduceMul, Nat.reduceMod, Nat.reduceAnd, Nat.reducePow, Nat.reduceEqDiff, Nat.add_zero, Nat.zero_add, Bool.false_eq_true, Nat.add_sub_cancel, hcz]
    · have hc1 : c = 1 := by omega
      subst hc1
      by_cases h10 : i = 10
      · left
        refine ⟨(nI i, E'), (nI i, M'), ⟨rfl, X, a1, a2, a4⟩, fun k => ?_, fun k => ?_⟩
        · show F_X10_sit_46 k (nI i) (nI 1) E' B = _
          unfold F_X10_sit_46
          simp (disch := omega) only [↓pu_m1, pu_lit, ↓reduceIte, pu_leT, pu_leF, pu_ltT, pu_ltF, pu_eqT, pu_eqF, pu_eqO, pu_eqO2, pu_ltO, pu_leO, pu_subO, pu_subOF, pu_subT, pu_subF, pu_oobF, pu_clamp, pu_add, pu_sub, pu_mul, pu_and, pu_or, pu_xor, pu_xorO, pu_shl, pu_shr, pu_ushr, pu_nb0, pu_nb1, pu_ob1N, pu_ob2N, pu_ob3N, pu_ob4N, pu_nwN, pu_n1, pu_n7, pu_n31, pu_n255, pu_md, pu_one, pu_sI1, pu_sI2, pu_sA1, pu_sA21, pu_sA222, pu_sAe, pu_sAn, pu_sJ1, pu_sJ21, pu_sJ221, pu_sF1, pu_sF21, pu_sF222, pu_sFe, pu_sFn, pu_upe, pu_upn, Nat.reduceAdd, Nat.reduceSub, Nat.reduceMul, Nat.reduceMod, Nat.reduceAnd, Nat.reducePow, Nat.reduceEqDiff, Nat.add_zero, Nat.zero_add, Bool.false_eq_true, Nat.add_sub_cancel, h10]
        · show F_X12_tea_48 k (nI 1) (nI i) M' = _
          unfold F_X12_tea_48
          simp (disch := omega) only [↓pu_m1, pu_lit, ↓reduceIte, pu_leT, pu_leF, pu_ltT, pu_ltF, pu_eqT, pu_eqF, pu_eqO, pu_eqO2, pu_ltO, pu_leO, pu_subO, pu_subOF, pu_subT, pu_subF, pu_oobF, pu_clamp, pu_add, pu_sub, pu_mul, pu_and, pu_or, pu_xor, pu_xorO, pu_shl, pu_shr, pu_ushr, pu_nb0, pu_nb1, pu_ob1N, pu_ob2N, pu_ob3N, pu_ob4N, pu_nwN, pu_n1, pu_n7, pu_n31, pu_n255, pu_md, pu_one, pu_sI1, pu_sI2, pu_sA1, pu_sA21, pu_sA222, pu_sAe, pu_sAn, pu_sJ1, pu_sJ21, pu_sJ221, pu_sF1, pu_sF21, pu_sF222, pu_sFe, pu_sFn, pu_upe, pu_upn, Nat.reduceAdd, Nat.reduceSub, Nat.reduceMul, Nat.reduceMod, Nat.reduceAnd, Nat.reducePow, Nat.reduceEqDiff, Nat.add_zero, Nat.zero_add, Bool.false_eq_true, Nat.add_sub_cancel, h10]
      · right
        obtain ⟨E2, b1, b2⟩ := x10_round a1 hw a3
        obtain ⟨M2, c1, c2, c3⟩ := x12_round a2 hw a3 i
        refine ⟨by omega, (nI (i + 1), nI (rdC V X (V 1)), E2, B), (nI (rdC V X (V 1)), nI (i + 1), M2), ⟨_, E2, M2, _, rfl, rfl, rdC_01 V X _, b2, c1, rdX_BX a3 _ (Nat.le_refl _), a4.tr c2⟩, fun k => ?_, fun k => ?_⟩
        · show F_X10_sit_46 k (nI i) (nI 1) E' B = _
          unfold F_X10_sit_46
          simp (disch := omega) only [↓pu_m1, pu_lit, ↓reduceIte, pu_leT, pu_leF, pu_ltT, pu_ltF, pu_eqT, pu_eqF, pu_eqO, pu_eqO2, pu_ltO, pu_leO, pu_subO, pu_subOF, pu_subT, pu_subF, pu_oobF, pu_clamp, pu_add, pu_sub, pu_mul, pu_and, pu_or, pu_xor, pu_xorO, pu_shl, pu_shr, pu_ushr, pu_nb0, pu_nb1, pu_ob1N, pu_ob2N, pu_ob3N, pu_ob4N, pu_nwN, pu_n1, pu_n7, pu_n31, pu_n255, pu_md, pu_one, pu_sI1, pu_sI2, pu_sA1, pu_sA21, pu_sA222, pu_sAe, pu_sAn, pu_sJ1, pu_sJ21, pu_sJ221, pu_sF1, pu_sF21, pu_sF222, pu_sFe, pu_sFn, pu_upe, pu_upn, Nat.reduceAdd, Nat.reduceSub, Nat.reduceMul, Nat.reduceMod, Nat.reduceAnd, Nat.reducePow, Nat.reduceEqDiff, Nat.add_zero, Nat.zero_add, Bool.false_eq_true, Nat.add_sub_cancel, b1]
        · show F_X12_tea_48 k (nI 1) (nI i) M' = _
          unfold F_X12_tea_48
          rw [if_neg (show ¬ nI 1 = 0 from by decide), if_neg (show ¬ (10 : Int32) ≤ nI i from nI_ge (a := i) (b := 10) (by omega) (by omega))]
          exact c3 k
theorem p_teaOf (h : RTe E M) (x : Int32) : ∃ r, F_X11_teaOf T E x = some r ∧ F_X12_teaOf M x = some (r, sI M 0 (nI 0)) := by
  obtain ⟨n, h0, h1, h2, h3⟩ := h
  unfold F_X11_teaOf F_X12_teaOf F_X11_teaOf_15
  rcases at_two x (M.1 34) n (by omega) h2 with ⟨j, hj, rfl, i1⟩ | ⟨i1, i2⟩ | ⟨i1, i2, i3⟩
  · have h3j := h3 j hj
    exact ⟨E.2.2.1 0 j, by simp (disch := omega) only [↓pu_m1, pu_lit, ↓reduceIte, pu_leT, pu_leF, pu_ltT, pu_ltF, pu_eqT, pu_eqF, pu_eqO, pu_eqO2, pu_ltO, pu_leO, pu_subO, pu_subOF, pu_subT, pu_subF, pu_oobF, pu_clamp, pu_add, pu_sub, pu_mul, pu_and, pu_or, pu_xor, pu_xorO, pu_shl, pu_shr, pu_ushr, pu_nb0, pu_nb1, pu_ob1N, pu_ob2N, pu_ob3N, pu_ob4N, pu_nwN, pu_n1, pu_n7, pu_n31, pu_n255, pu_md, pu_one, pu_sI1, pu_sI2, pu_sA1, pu_sA21, pu_sA222, pu_sAe, pu_sAn, pu_sJ1, pu_sJ21, pu_sJ221, pu_sF1, pu_sF21, pu_sF222, pu_sFe, pu_sFn, pu_upe, pu_upn, Nat.reduceAdd, Nat.reduceSub, Nat.reduceMul, Nat.reduceMod, Nat.reduceAnd, Nat.reducePow, Nat.reduceEqDiff, Nat.add_zero, Nat.zero_add, Bool.false_eq_true, Nat.add_sub_cancel, h1], by simp (disch := omega) only [↓pu_m1, pu_lit, ↓reduceIte, pu_leT, pu_leF, pu_ltT, pu_ltF, pu_eqT, pu_eqF, pu_eqO, pu_eqO2, pu_ltO, pu_leO, pu_subO, pu_subOF, pu_subT, pu_subF, pu_oobF, pu_clamp, pu_add, pu_sub, pu_mul, pu_and, pu_or, pu_xor, pu_xorO, pu_shl, pu_shr, pu_ushr, pu_nb0, pu_nb1, pu_ob1N, pu_ob2N, pu_ob3N, pu_ob4N, pu_nwN, pu_n1, pu_n7, pu_n31, pu_n255, pu_md, pu_one, pu_sI1, pu_sI2, pu_sA1, pu_sA21, pu_sA222, pu_sAe, pu_sAn, pu_sJ1, pu_sJ21, pu_sJ221, pu_sF1, pu_sF21, pu_sF222, pu_sFe, pu_sFn, pu_upe, pu_upn, Nat.reduceAdd, Nat.reduceSub, Nat.reduceMul, Nat.reduceMod, Nat.reduceAnd, Nat.reducePow, Nat.reduceEqDiff, Nat.add_zero, Nat.zero_add, Bool.false_eq_true, Nat.add_sub_cancel, i1, h3j]⟩
  · exact ⟨nO, by simp (disch := omega) only [↓pu_m1, pu_lit, ↓reduceIte, pu_leT, pu_leF, pu_ltT, pu_ltF, pu_eqT, pu_eqF, pu_eqO, pu_eqO2, pu_ltO, pu_leO, pu_subO, pu_subOF, pu_subT, pu_subF, pu_oobF, pu_clamp, pu_add, pu_sub, pu_mul, pu_and, pu_or, pu_xor, pu_xorO, pu_shl, pu_shr, pu_ushr, pu_nb0, pu_nb1, pu_ob1N, pu_ob2N, pu_ob3N, pu_ob4N, pu_nwN, pu_n1, pu_n7, pu_n31, pu_n255, pu_md, pu_one, pu_sI1, pu_sI2, pu_sA1, pu_sA21, pu_sA222, pu_sAe, pu_sAn, pu_sJ1, pu_sJ21, pu_sJ221, pu_sF1, pu_sF21, pu_sF222, pu_sFe, pu_sFn, pu_upe, pu_upn, Nat.reduceAdd, Nat.reduceSub, Nat.reduceMul, Nat.reduceMod, Nat.reduceAnd, Nat.reducePow, Nat.reduceEqDiff, Nat.add_zero, Nat.zero_add, Bool.false_eq_true, Nat.add_sub_cancel, i1], by simp (disch := omega) only [↓pu_m1, pu_lit, ↓reduceIte, pu_leT, pu_leF, pu_ltT, pu_ltF, pu_eqT, pu_eqF, pu_eqO, pu_eqO2, pu_ltO, pu_leO, pu_subO, pu_subOF, pu_subT, pu_subF, pu_oobF, pu_clamp, pu_add, pu_sub, pu_mul, pu_and, pu_or, pu_xor, pu_xorO, pu_shl, pu_shr, pu_ushr, pu_nb0, pu_nb1, pu_ob1N, pu_ob2N, pu_ob3N, pu_ob4N, pu_nwN, pu_n1, pu_n7, pu_n31, pu_n255, pu_md, pu_one, pu_sI1, pu_sI2, pu_sA1, pu_sA21, pu_sA222, pu_sAe, pu_sAn, pu_sJ1, pu_sJ21, pu_sJ221, pu_sF1, pu_sF21, pu_sF222, pu_sFe, pu_sFn, pu_upe, pu_upn, Nat.reduceAdd, Nat.reduceSub, Nat.reduceMul, Nat.reduceMod, Nat.reduceAnd, Nat.reducePow, Nat.reduceEqDiff, Nat.add_zero, Nat.zero_add, Bool.false_eq_true, Nat.add_sub_cancel, i2]⟩
  · exact ⟨nO, by simp (disch := omega) only [↓pu_m1, pu_lit, ↓reduceIte, pu_leT, pu_leF, pu_ltT, pu_ltF, pu_eqT, pu_eqF, pu_eqO, pu_eqO2, pu_ltO, pu_leO, pu_subO, pu_subOF, pu_subT, pu_subF, pu_oobF, pu_clamp, pu_add, pu_sub, pu_mul, pu_and, pu_or, pu_xor, pu_xorO, pu_shl, pu_shr, pu_ushr, pu_nb0, pu_nb1, pu_ob1N, pu_ob2N, pu_ob3N, pu_ob4N, pu_nwN, pu_n1, pu_n7, pu_n31, pu_n255, pu_md, pu_one, pu_sI1, pu_sI2, pu_sA1, pu_sA21, pu_sA222, pu_sAe, pu_sAn, pu_sJ1, pu_sJ21, pu_sJ221, pu_sF1, pu_sF21, pu_sF222, pu_sFe, pu_sFn, pu_upe, pu_upn, Nat.reduceAdd, Nat.reduceSub, Nat.reduceMul, Nat.reduceMod, Nat.reduceAnd, Nat.reducePow, Nat.reduceEqDiff, Nat.add_zero, Nat.zero_add, Bool.false_eq_true, Nat.add_sub_cancel, i1, h1, i2], by simp (disch := omega) only [↓pu_m1, pu_lit, ↓reduceIte, pu_leT, pu_leF, pu_ltT, pu_ltF, pu_eqT, pu_eqF, pu_eqO, pu_eqO2, pu_ltO, pu_leO, pu_subO, pu_subOF, pu_subT, pu_subF, pu_oobF, pu_clamp, pu_add, pu_sub, pu_mul, pu_and, pu_or, pu_xor, pu_xorO, pu_shl, pu_shr, pu_ushr, pu_nb0, pu_nb1, pu_ob1N, pu_ob2N, pu_ob3N, pu_ob4N, pu_nwN, pu_n1, pu_n7, pu_n31, pu_n255, pu_md, pu_one, pu_sI1, pu_sI2, pu_sA1, pu_sA21, pu_sA222, pu_sAe, pu_sAn, pu_sJ1, pu_sJ21, pu_sJ221, pu_sF1, pu_sF21, pu_sF222, pu_sFe, pu_sFn, pu_upe, pu_upn, Nat.reduceAdd, Nat.reduceSub, Nat.reduceMul, Nat.reduceMod, Nat.reduceAnd, Nat.reducePow, Nat.reduceEqDiff, Nat.add_zero, Nat.zero_add, Bool.false_eq_true, Nat.add_sub_cancel, i3]⟩
end P11
