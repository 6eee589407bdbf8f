/-! acts of both sides -/
theorem lp_inv {α β : Type} {body : (α → Option β) → α → Option β} (I : Nat → α → Prop) (n : Nat) (Q : β → Prop) (hs : ∀ i, i < n → ∀ x, I i x → ∃ y, I (i + 1) y ∧ ∀ k, body k x = k y) (he : ∀ x, I n x → ∃ o, Q o ∧ ∀ k, body k x = some o) {x0 : α} (h0 : I 0 x0) {N : Nat} (hN : n < N) : ∃ o, Q o ∧ lp body N x0 = some o := by
  have h : ∀ d i x, i + d = n → I i x → ∀ N, d < N → ∃ o, Q o ∧ lp body N x = some o := by
    intro d
    induction d with
    | zero =>
      intro i x hi hx N hN
      obtain ⟨N, rfl⟩ : ∃ k, N = k + 1 := ⟨N - 1, by omega⟩
      have e : i = n := by omega
      subst e
      obtain ⟨o, h1, h2⟩ := he x hx
      exact ⟨o, h1, h2 _⟩
    | succ d ih =>
      intro i x hi hx N hN
      obtain ⟨N, rfl⟩ : ∃ k, N = k + 1 := ⟨N - 1, by omega⟩
      obtain ⟨y, h1, h2⟩ := hs i (by omega) x hx
      obtain ⟨o, h3, h4⟩ := ih (i + 1) y (by omega) h1 N (by omega)
      exact ⟨o, h3, by show body (lp body N) x = some o; rw [h2]; exact h4⟩
  exact h n 0 x0 (by omega) h0 N hN
/-- a loop that may end early -/
theorem lp_inv2 {α β : Type} {body : (α → Option β) → α → Option β} (I : Nat → α → Prop) (n : Nat) (Q : β → Prop) (hs : ∀ i, i ≤ n → ∀ x, I i x → (∃ o, Q o ∧ ∀ k, body k x = some o) ∨ (i < n ∧ ∃ y, I (i + 1) y ∧ ∀ k, body k x = k y)) {x0 : α} (h0 : I 0 x0) {N : Nat} (hN : n < N) : ∃ o, Q o ∧ lp body N x0 = some o := by
  have h : ∀ d i x, i + d = n → I i x → ∀ N, d < N → ∃ o, Q o ∧ lp body N x = some o := by
    intro d
    induction d with
    | zero =>
      intro i x hi hx N hN
      obtain ⟨N, rfl⟩ : ∃ k, N = k + 1 := ⟨N - 1, by omega⟩
      rcases hs i (by omega) x hx with ⟨o, h1, h2⟩ | ⟨h, -⟩
      · exact ⟨o, h1, h2 _⟩
      · omega
    | succ d ih =>
      intro i x hi hx N hN
      obtain ⟨N, rfl⟩ : ∃ k, N = k + 1 := ⟨N - 1, by omega⟩
      rcases hs i (by omega) x hx with ⟨o, h1, h2⟩ | ⟨-, y, h1, h2⟩
      · exact ⟨o, h1, h2 _⟩
      · obtain ⟨o, h3, h4⟩ := ih (i + 1) y (by omega) h1 N (by omega)
        exact ⟨o, h3, by show body (lp body N) x = some o; rw [h2]; exact h4⟩
  exact h n 0 x0 (by omega) h0 N hN
def whyC (V : Vt) (p t : Nat) : Nat := if V (65 + p) ≠ 0 then 1 else if who V t < V 1 then 2 else if V 44 / 2 ^ t % 2 = 1 then 3 else if V (24 + p) < V (52 + t) then 4 else 0
def clV (V : Vt) (p t : Nat) : Vt := up (up (up (up V (65 + p) (t + 1)) (59 + p) (beh V t (V (59 + p)))) (71 + p) (V (71 + p) + 1)) 43 (V 43 + 1)
def whyT (V : Vt) (p q v : Nat) : Nat := if p = q ∨ V (65 + p) ≠ 0 ∨ V (65 + q) ≠ 0 then 1 else if V (59 + p) / 2 ^ v % 2 = 0 then 2 else if V (59 + q) / 2 ^ v % 2 = 1 then 3 else 0
def teV (V : Vt) (q v : Nat) : Vt := up V (59 + q) (hav (V (59 + q)) v)
def CS (S S' : St) (V' : Vt) : Prop := RS S' V' ∧ S'.2.2.2 = S.2.2.2
def MS (M M' : St) (V' : Vt) : Prop := (∃ f, M' = sF M 6 f) ∧ RM M' V' ∧ ∀ k, 77 ≤ k → M'.2.2.1 6 k = M.2.2.1 6 k
def SV (V V' : Vt) : Prop := ∀ k, k < 42 → V' k = V k
theorem SV.rf {V : Vt} : SV V V := fun _ _ => rfl
theorem SV.tr {V V1 V2 : Vt} (h : SV V V1) (h2 : SV V1 V2) : SV V V2 := fun k hk => (h2 k hk).trans (h k hk)
theorem SV.up {V V1 : Vt} {k v : Nat} (h : SV V V1) (hk : 42 ≤ k) : SV V (up V1 k v) := fun j hj => by rw [pu_upn (by omega)]; exact h j hj
theorem MS.rf {M : St} {V : Vt} (h : RM M V) : MS M M V := ⟨⟨M.2.2.1 6, pu_sFsame.symm⟩, h, fun _ _ => rfl⟩
theorem MS.tr {M M1 M2 : St} {V1 V2 : Vt} (h : MS M M1 V1) (h2 : MS M1 M2 V2) : MS M M2 V2 := by
  obtain ⟨⟨f, rfl⟩, h3, h4⟩ := h
  obtain ⟨⟨g, rfl⟩, h5, h6⟩ := h2
  exact ⟨⟨g, pu_sFF g⟩, h5, fun k hk => (h6 k hk).trans (h4 k hk)⟩
theorem MS.up {M : St} {V : Vt} (h : RM M V) {k v : Nat} (hk : k < 77) : MS M (sA M 6 (nI k) (nI v)) (up V k v) :=
  ⟨⟨_, pu_sAF (by omega)⟩, RM_up h hk, fun j hj => by rw [pu_sAe (by omega), if_neg (by omega)]⟩
theorem CS.rf {S : St} {V : Vt} (h : RS S V) : CS S S V := ⟨h, rfl⟩
theorem CS.tr {S S1 S2 : St} {V1 V2 : Vt} (h : CS S S1 V1) (h2 : CS S1 S2 V2) : CS S S2 V2 := ⟨h2.1, h2.2.trans h.2⟩
section P4
variable {S M : St} {V : Vt}
theorem clV_SV (p t : Nat) : SV V (clV V p t) := (((SV.rf.up (by omega)).up (by omega)).up (by omega)).up (by omega)
theorem clV_WF (hw : WF V) {p t : Nat} (hp : p < V 1) (ht : t < V 0) : WF (clV V p t) := by
  have h59 := hw.2.2.2.2.2.2.2.2.1 p hp
  have hop := hw.2.2.2.2.2.2.2.2.2.1 p hp
  have h1 := WF_65 hw hp (x := t + 1) (by omega)
  have h2 := WF_59 (V := up V (65 + p) (t + 1)) h1 (p := p) (x := beh V t (V (59 + p))) (by rw [pu_upn (by omega)]; exact hp) (beh_lt V t h59) (behA_opn V t h59 hop _)
  have h3 := WF_71 h2 (p := p) (by rw [pu_upn (by omega), pu_upn (by omega)]; exact hp)
  rw [pu_upn (by omega), pu_upn (by omega), pu_upn (by omega), pu_upn (by omega)] at h3
  exact h3
theorem x8_goUp (hS : RS S V) (hw : WF V) {p t : Nat} (hp : p < V 1) (ht : t < V 0) : ∃ S', F_X8_goUp S (nI p) (nI t) = some (nI (whyC V p t), S') ∧ CS S S' (if whyC V p t = 0 then clV V p t else V) := by
  have hS' := hS
  have hw' := hw
  obtain ⟨e0, e7, e5, e6, e14, f2, f3, f4, f9, f10, f11, f12, f13⟩ := hS
  obtain ⟨w0, w1, w23, w44, w42, w2, w45, w52, w59, wop, w36, w24, w65, wsm⟩ := hw
  have h65 := w65 p hp
  have h52 := w52 t ht
  have h24 := w24 p hp
  have hl := who_le V t
  unfold F_X8_goUp whyC
  by_cases h1 : V (65 + p) = 0
  · rcases wI_dec (V 1) (who V t) (by omega) hl with ⟨h4, e4⟩ | ⟨h4, e4⟩
    · refine ⟨S, ?_, ?_⟩
      · simp (disch := omega) only [↓pu_m1, pu_lit, ↓reduceIte, pu_leT, pu_leF, pu_ltT, pu_ltF, pu_eqT, pu_eqF, pu_eqO, pu_eqO2, pu_ltO, pu_leO, pu_subO, pu_subOF, pu_subT, pu_subF, pu_oobF, pu_clamp, pu_add, pu_sub, pu_mul, pu_and, pu_or, pu_xor, pu_xorO, pu_shl, pu_shr, pu_ushr, pu_nb0, pu_nb1, pu_ob1, pu_ob2, pu_ob3, pu_ob4, pu_nw, pu_n1, pu_n7, pu_n31, pu_n255, pu_md, pu_one, pu_sI1, pu_sI2, pu_sA1, pu_sA21, pu_sA222, pu_sAe, pu_sAn, pu_sJ1, pu_sJ21, pu_sJ221, pu_sF1, pu_sF21, pu_sF222, pu_sFe, pu_sFn, pu_upe, pu_upn, Nat.reduceAdd, Nat.reduceSub, Nat.reduceMul, Nat.reduceMod, Nat.reduceAnd, Nat.reducePow, Nat.reduceEqDiff, Nat.add_zero, Nat.zero_add, Bool.false_eq_true, f12, h1, pu_sub0, x8_who hS' hw' (by omega : t < 8), e4, h4, ne_eq, not_true]
      · simp (disch := omega) only [↓pu_m1, pu_lit, ↓reduceIte, pu_leT, pu_leF, pu_ltT, pu_ltF, pu_eqT, pu_eqF, pu_eqO, pu_eqO2, pu_ltO, pu_leO, pu_subO, pu_subOF, pu_subT, pu_subF, pu_oobF, pu_clamp, pu_add, pu_sub, pu_mul, pu_and, pu_or, pu_xor, pu_xorO, pu_shl, pu_shr, pu_ushr, pu_nb0, pu_nb1, pu_ob1, pu_ob2, pu_ob3, pu_ob4, pu_nw, pu_n1, pu_n7, pu_n31, pu_n255, pu_md, pu_one, pu_sI1, pu_sI2, pu_sA1, pu_sA21, pu_sA222, pu_sAe, pu_sAn, pu_sJ1, pu_sJ21, pu_sJ221, pu_sF1, pu_sF21, pu_sF222, pu_sFe, pu_sFn, pu_upe, pu_upn, Nat.reduceAdd, Nat.reduceSub, Nat.reduceMul, Nat.reduceMod, Nat.reduceAnd, Nat.reducePow, Nat.reduceEqDiff, Nat.add_zero, Nat.zero_add, Bool.false_eq_true, h1, h4, ne_eq, not_true]
        exact CS.rf hS'
    · have h4' : ¬ who V t < V 1 := by omega
      rcases Nat.mod_two_eq_zero_or_one (V 44 / 2 ^ t) with h2 | h2
      · by_cases h3 : V (24 + p) < V (52 + t)
        · refine ⟨S, ?_, ?_⟩
          · simp (disch := omega) only [↓pu_m1, pu_lit, ↓reduceIte, pu_leT, pu_leF, pu_ltT, pu_ltF, pu_eqT, pu_eqF, pu_eqO, pu_eqO2, pu_ltO, pu_leO, pu_subO, pu_subOF, pu_subT, pu_subF, pu_oobF, pu_clamp, pu_add, pu_sub, pu_mul, pu_and, pu_or, pu_xor, pu_xorO, pu_shl, pu_shr, pu_ushr, pu_nb0, pu_nb1, pu_ob1, pu_ob2, pu_ob3, pu_ob4, pu_nw, pu_n1, pu_n7, pu_n31, pu_n255, pu_md, pu_one, pu_sI1, pu_sI2, pu_sA1, pu_sA21, pu_sA222, pu_sAe, pu_sAn, pu_sJ1, pu_sJ21, pu_sJ221, pu_sF1, pu_sF21, pu_sF222, pu_sFe, pu_sFn, pu_upe, pu_upn, Nat.reduceAdd, Nat.reduceSub, Nat.reduceMul, Nat.reduceMod, Nat.reduceAnd, Nat.reducePow, Nat.reduceEqDiff, Nat.add_zero, Nat.zero_add, Bool.false_eq_true, e6, f4, f11, f12, h1, pu_sub0, x8_who hS' hw' (by omega : t < 8), e4, h4', h2, h3, ne_eq, not_true]
          · simp (disch := omega) only [↓pu_m1, pu_lit, ↓reduceIte, pu_leT, pu_leF, pu_ltT, pu_ltF, pu_eqT, pu_eqF, pu_eqO, pu_eqO2, pu_ltO, pu_leO, pu_subO, pu_subOF, pu_subT, pu_subF, pu_oobF, pu_clamp, pu_add, pu_sub, pu_mul, pu_and, pu_or, pu_xor, pu_xorO, pu_shl, pu_shr, pu_ushr, pu_nb0, pu_nb1, pu_ob1, pu_ob2, pu_ob3, pu_ob4, pu_nw, pu_n1, pu_n7, pu_n31, pu_n255, pu_md, pu_one, pu_sI1, pu_sI2, pu_sA1, pu_sA21, pu_sA222, pu_sAe, pu_sAn, pu_sJ1, pu_sJ21, pu_sJ221, pu_sF1, pu_sF21, pu_sF222, pu_sFe, pu_sFn, pu_upe, pu_upn, Nat.reduceAdd, Nat.reduceSub, Nat.reduceMul, Nat.reduceMod, Nat.reduceAnd, Nat.reducePow, Nat.reduceEqDiff, Nat.add_zero, Nat.zero_add, Bool.false_eq_true, h1, h4', h2, h3, ne_eq, not_true]
            exact CS.rf hS'
        · have k1 := RS_12 hS' w0 w1 (p := p) (x := t + 1) hp
          rw [show nI (t + 1) - nI 1 = nI t from by rw [pu_sub (by omega)]; rfl] at k1
          have k2 := RS_13 k1 (by rw [pu_upn (by omega)]; exact w0) (by rw [pu_upn (by omega)]; exact w1) (p := p) (x := V (71 + p) + 1) (by rw [pu_upn (by omega)]; exact hp)
          have hV2 : WF (up V (65 + p) (t + 1)) := WF_65 hw' hp (by omega)
          have k3 : beh (up (up V (65 + p) (t + 1)) (71 + p) (V (71 + p) + 1)) t (V (59 + p)) = beh V t (V (59 + p)) := beh_cong (by rw [pu_upn (by omega), pu_upn (by omega)]) (by rw [pu_upn (by omega), pu_upn (by omega)]) _
          have hWF2 : WF (up (up (up V (65 + p) (t + 1)) (71 + p) (V (71 + p) + 1)) 43 (V 43 + 1)) := by
            have := WF_71 hV2 (p := p) (by rw [pu_upn (by omega)]; exact hp)
            rw [pu_upn (by omega), pu_upn (by omega)] at this
            exact this
          have k2' := RS_43 k2 (by rw [pu_upn (by omega), pu_upn (by omega)]; exact w0) (by rw [pu_upn (by omega), pu_upn (by omega)]; exact w1) (x := V 43 + 1)
          have ka := x8_after k2' hWF2 (t := t) (x := V (59 + p)) (by rw [pu_upn (by omega), pu_upn (by omega), pu_upn (by omega)]; exact ht) (w59 p hp)
          rw [beh_cong (W := V) (by rw [pu_upn (by omega), pu_upn (by omega), pu_upn (by omega)]) (by rw [pu_upn (by omega), pu_upn (by omega), pu_upn (by omega)])] at ka
          have k4 := RS_9 k2' (by rw [pu_upn (by omega), pu_upn (by omega), pu_upn (by omega)]; exact w0) (by rw [pu_upn (by omega), pu_upn (by omega), pu_upn (by omega)]; exact w1) (p := p) (x := beh V t (V (59 + p))) (by rw [pu_upn (by omega), pu_upn (by omega), pu_upn (by omega)]; exact hp)
          refine ⟨sA (sA (sA S 12 (nI p) (nI t)) 13 (nI p) (nI (V (71 + p) + 1))) 9 (nI p) (nI (beh V t (V (59 + p)))), ?_, ?_⟩
          rotate_left
          · simp (disch := omega) only [↓pu_m1, pu_lit, ↓reduceIte, pu_leT, pu_leF, pu_ltT, pu_ltF, pu_eqT, pu_eqF, pu_eqO, pu_eqO2, pu_ltO, pu_leO, pu_subO, pu_subOF, pu_subT, pu_subF, pu_oobF, pu_clamp, pu_add, pu_sub, pu_mul, pu_and, pu_or, pu_xor, pu_xorO, pu_shl, pu_shr, pu_ushr, pu_nb0, pu_nb1, pu_ob1, pu_ob2, pu_ob3, pu_ob4, pu_nw, pu_n1, pu_n7, pu_n31, pu_n255, pu_md, pu_one, pu_sI1, pu_sI2, pu_sA1, pu_sA21, pu_sA222, pu_sAe, pu_sAn, pu_sJ1, pu_sJ21, pu_sJ221, pu_sF1, pu_sF21, pu_sF222, pu_sFe, pu_sFn, pu_upe, pu_upn, Nat.reduceAdd, Nat.reduceSub, Nat.reduceMul, Nat.reduceMod, Nat.reduceAnd, Nat.reducePow, Nat.reduceEqDiff, Nat.add_zero, Nat.zero_add, Bool.false_eq_true, h1, h4', h2, h3, ne_eq, not_true]
            refine ⟨?_, rfl⟩
            have ec : clV V p t = up (up (up (up V (65 + p) (t + 1)) (71 + p) (V (71 + p) + 1)) 43 (V 43 + 1)) (59 + p) (beh V t (V (59 + p))) := by
              funext j
              unfold clV up
              repeat' split
              all_goals first | rfl | omega
            rw [ec]
            exact k4
          · simp (disch := omega) only [↓pu_m1, pu_lit, ↓reduceIte, pu_leT, pu_leF, pu_ltT, pu_ltF, pu_eqT, pu_eqF, pu_eqO, pu_eqO2, pu_ltO, pu_leO, pu_subO, pu_subOF, pu_subT, pu_subF, pu_oobF, pu_clamp, pu_add, pu_sub, pu_mul, pu_and, pu_or, pu_xor, pu_xorO, pu_shl, pu_shr, pu_ushr, pu_nb0, pu_nb1, pu_ob1, pu_ob2, pu_ob3, pu_ob4, pu_nw, pu_n1, pu_n7, pu_n31, pu_n255, pu_md, pu_one, pu_sI1, pu_sI2, pu_sA1, pu_sA21, pu_sA222, pu_sAe, pu_sAn, pu_sJ1, pu_sJ21, pu_sJ221, pu_sF1, pu_sF21, pu_sF222, pu_sFe, pu_sFn, pu_upe, pu_upn, Nat.reduceAdd, Nat.reduceSub, Nat.reduceMul, Nat.reduceMod, Nat.reduceAnd, Nat.reducePow, Nat.reduceEqDiff, Nat.add_zero, Nat.zero_add, Bool.false_eq_true, e6, f4, f9, f11, f12, f13, h1, pu_sub0, x8_who hS' hw' (by omega : t < 8), e4, h4', h2, h3, ne_eq, not_true, ka]
      · refine ⟨S, ?_, ?_⟩
        · simp (disch := omega) only [↓pu_m1, pu_lit, ↓reduceIte, pu_leT, pu_leF, pu_ltT, pu_ltF, pu_eqT, pu_eqF, pu_eqO, pu_eqO2, pu_ltO, pu_leO, pu_subO, pu_subOF, pu_subT, pu_subF, pu_oobF, pu_clamp, pu_add, pu_sub, pu_mul, pu_and, pu_or, pu_xor, pu_xorO, pu_shl, pu_shr, pu_ushr, pu_nb0, pu_nb1, pu_ob1, pu_ob2, pu_ob3, pu_ob4, pu_nw, pu_n1, pu_n7, pu_n31, pu_n255, pu_md, pu_one, pu_sI1, pu_sI2, pu_sA1, pu_sA21, pu_sA222, pu_sAe, pu_sAn, pu_sJ1, pu_sJ21, pu_sJ221, pu_sF1, pu_sF21, pu_sF222, pu_sFe, pu_sFn, pu_upe, pu_upn, Nat.reduceAdd, Nat.reduceSub, Nat.reduceMul, Nat.reduceMod, Nat.reduceAnd, Nat.reducePow, Nat.reduceEqDiff, Nat.add_zero, Nat.zero_add, Bool.false_eq_true, e6, f12, h1, pu_sub0, x8_who hS' hw' (by omega : t < 8), e4, h4', h2, ne_eq, not_true]
        · simp (disch := omega) only [↓pu_m1, pu_lit, ↓reduceIte, pu_leT, pu_leF, pu_ltT, pu_ltF, pu_eqT, pu_eqF, pu_eqO, pu_eqO2, pu_ltO, pu_leO, pu_subO, pu_subOF, pu_subT, pu_subF, pu_oobF, pu_clamp, pu_add, pu_sub, pu_mul, pu_and, pu_or, pu_xor, pu_xorO, pu_shl, pu_shr, pu_ushr, pu_nb0, pu_nb1, pu_ob1, pu_ob2, pu_ob3, pu_ob4, pu_nw, pu_n1, pu_n7, pu_n31, pu_n255, pu_md, pu_one, pu_sI1, pu_sI2, pu_sA1, pu_sA21, pu_sA222, pu_sAe, pu_sAn, pu_sJ1, pu_sJ21, pu_sJ221, pu_sF1, pu_sF21, pu_sF222, pu_sFe, pu_sFn, pu_upe, pu_upn, Nat.reduceAdd, Nat.reduceSub, Nat.reduceMul, Nat.reduceMod, Nat.reduceAnd, Nat.reducePow, Nat.reduceEqDiff, Nat.add_zero, Nat.zero_add, Bool.false_eq_true, h1, h4', h2, ne_eq, not_true]
          exact CS.rf hS'
  · refine ⟨S, ?_, ?_⟩
    · simp (disch := omega) only [↓pu_m1, pu_lit, ↓reduceIte, pu_leT, pu_leF, pu_ltT, pu_ltF, pu_eqT, pu_eqF, pu_eqO, pu_eqO2, pu_ltO, pu_leO, pu_subO, pu_subOF, pu_subT, pu_subF, pu_oobF, pu_clamp, pu_add, pu_sub, pu_mul, pu_and, pu_or, pu_xor, pu_xorO, pu_shl, pu_shr, pu_ushr, pu_nb0, pu_nb1, pu_ob1, pu_ob2, pu_ob3, pu_ob4, pu_nw, pu_n1, pu_n7, pu_n31, pu_n255, pu_md, pu_one, pu_sI1, pu_sI2, pu_sA1, pu_sA21, pu_sA222, pu_sAe, pu_sAn, pu_sJ1, pu_sJ21, pu_sJ221, pu_sF1, pu_sF21, pu_sF222, pu_sFe, pu_sFn, pu_upe, pu_upn, Nat.reduceAdd, Nat.reduceSub, Nat.reduceMul, Nat.reduceMod, Nat.reduceAnd, Nat.reducePow, Nat.reduceEqDiff, Nat.add_zero, Nat.zero_add, Bool.false_eq_true, f12, h1, ne_eq, not_false_eq_true]
    · simp (disch := omega) only [↓pu_m1, pu_lit, ↓reduceIte, pu_leT, pu_leF, pu_ltT, pu_ltF, pu_eqT, pu_eqF, pu_eqO, pu_eqO2, pu_ltO, pu_leO, pu_subO, pu_subOF, pu_subT, pu_subF, pu_oobF, pu_clamp, pu_add, pu_sub, pu_mul, pu_and, pu_or, pu_xor, pu_xorO, pu_shl, pu_shr, pu_ushr, pu_nb0, pu_nb1, pu_ob1, pu_ob2, pu_ob3, pu_ob4, pu_nw, pu_n1, pu_n7, pu_n31, pu_n255, pu_md, pu_one, pu_sI1, pu_sI2, pu_sA1, pu_sA21, pu_sA222, pu_sAe, pu_sAn, pu_sJ1, pu_sJ21, pu_sJ221, pu_sF1, pu_sF21, pu_sF222, pu_sFe, pu_sFn, pu_upe, pu_upn, Nat.reduceAdd, Nat.reduceSub, Nat.reduceMul, Nat.reduceMod, Nat.reduceAnd, Nat.reducePow, Nat.reduceEqDiff, Nat.add_zero, Nat.zero_add, Bool.false_eq_true, h1, ne_eq, not_false_eq_true]
      exact CS.rf hS'
theorem x12_whyC (hM : RM M V) (hw : WF V) {p t : Nat} (hp : p < V 1) (ht : t < V 0) : F_X12_whyClimb M (nI p) (nI t) = some (nI (whyC V p t)) := by
  have hw' := hw
  obtain ⟨w0, w1, w23, w44, w42, w2, w45, w52, w59, wop, w36, w24, w65, wsm⟩ := hw
  have h65 := w65 p hp
  have h52 := w52 t ht
  have h24 := w24 p hp
  have hl := who_le V t
  have g52 := hM (52 + t) (by omega)
  have g24 := hM (24 + p) (by omega)
  unfold F_X12_whyClimb whyC
  rw [x12_up hM hw' hp, x12_who hM hw' (by omega), x12_walled hM hw' (by omega)]
  by_cases h1 : V (65 + p) = 0
  · rcases wI_dec (V 1) (who V t) (by omega) hl with ⟨h4, e4⟩ | ⟨h4, e4⟩
    · simp (disch := omega) only [↓pu_m1, pu_lit, ↓reduceIte, pu_leT, pu_leF, pu_ltT, pu_ltF, pu_eqT, pu_eqF, pu_eqO, pu_eqO2, pu_ltO, pu_leO, pu_subO, pu_subOF, pu_subT, pu_subF, pu_oobF, pu_clamp, pu_add, pu_sub, pu_mul, pu_and, pu_or, pu_xor, pu_xorO, pu_shl, pu_shr, pu_ushr, pu_nb0, pu_nb1, pu_ob1, pu_ob2, pu_ob3, pu_ob4, pu_nw, pu_n1, pu_n7, pu_n31, pu_n255, pu_md, pu_one, pu_sI1, pu_sI2, pu_sA1, pu_sA21, pu_sA222, pu_sAe, pu_sAn, pu_sJ1, pu_sJ21, pu_sJ221, pu_sF1, pu_sF21, pu_sF222, pu_sFe, pu_sFn, pu_upe, pu_upn, Nat.reduceAdd, Nat.reduceSub, Nat.reduceMul, Nat.reduceMod, Nat.reduceAnd, Nat.reducePow, Nat.reduceEqDiff, Nat.add_zero, Nat.zero_add, Bool.false_eq_true, h1, e4, h4, ne_eq, not_true]
    · have h4' : ¬ who V t < V 1 := by omega
      have h7 : nO < nI 0 := pu_nOneg
      rcases Nat.mod_two_eq_zero_or_one (V 44 / 2 ^ t) with h2 | h2
      · by_cases h3 : V (24 + p) < V (52 + t)
        · simp (disch := omega) only [↓pu_m1, pu_lit, ↓reduceIte, pu_leT, pu_leF, pu_ltT, pu_ltF, pu_eqT, pu_eqF, pu_eqO, pu_eqO2, pu_ltO, pu_leO, pu_subO, pu_subOF, pu_subT, pu_subF, pu_oobF, pu_clamp, pu_add, pu_sub, pu_mul, pu_and, pu_or, pu_xor, pu_xorO, pu_shl, pu_shr, pu_ushr, pu_nb0, pu_nb1, pu_ob1, pu_ob2, pu_ob3, pu_ob4, pu_nw, pu_n1, pu_n7, pu_n31, pu_n255, pu_md, pu_one, pu_sI1, pu_sI2, pu_sA1, pu_sA21, pu_sA222, pu_sAe, pu_sAn, pu_sJ1, pu_sJ21, pu_sJ221, pu_sF1, pu_sF21, pu_sF222, pu_sFe, pu_sFn, pu_upe, pu_upn, Nat.reduceAdd, Nat.reduceSub, Nat.reduceMul, Nat.reduceMod, Nat.reduceAnd, Nat.reducePow, Nat.reduceEqDiff, Nat.add_zero, Nat.zero_add, Bool.false_eq_true, h1, e4, h4', h7, h2, h3, g52, g24, ne_eq, not_true]
        · simp (disch := omega) only [↓pu_m1, pu_lit, ↓reduceIte, pu_leT, pu_leF, pu_ltT, pu_ltF, pu_eqT, pu_eqF, pu_eqO, pu_eqO2, pu_ltO, pu_leO, pu_subO, pu_subOF, pu_subT, pu_subF, pu_oobF, pu_clamp, pu_add, pu_sub, pu_mul, pu_and, pu_or, pu_xor, pu_xorO, pu_shl, pu_shr, pu_ushr, pu_nb0, pu_nb1, pu_ob1, pu_ob2, pu_ob3, pu_ob4, pu_nw, pu_n1, pu_n7, pu_n31, pu_n255, pu_md, pu_one, pu_sI1, pu_sI2, pu_sA1, pu_sA21, pu_sA222, pu_sAe, pu_sAn, pu_sJ1, pu_sJ21, pu_sJ221, pu_sF1, pu_sF21, pu_sF222, pu_sFe, pu_sFn, pu_upe, pu_upn, Nat.reduceAdd, Nat.reduceSub, Nat.reduceMul, Nat.reduceMod, Nat.reduceAnd, Nat.reducePow, Nat.reduceEqDiff, Nat.add_zero, Nat.zero_add, Bool.false_eq_true, h1, e4, h4', h7, h2, h3, g52, g24, ne_eq, not_true]
      · simp (disch := omega) only [↓pu_m1, pu_lit, ↓reduceIte, pu_leT, pu_leF, pu_ltT, pu_ltF, pu_eqT, pu_eqF, pu_eqO, pu_eqO2, pu_ltO, pu_leO, pu_subO, pu_subOF, pu_subT, pu_subF, pu_oobF, pu_clamp, pu_add, pu_sub, pu_mul, pu_and, pu_or, pu_xor, pu_xorO, pu_shl, pu_shr, pu_ushr, pu_nb0, pu_nb1, pu_ob1, pu_ob2, pu_ob3, pu_ob4, pu_nw, pu_n1, pu_n7, pu_n31, pu_n255, pu_md, pu_one, pu_sI1, pu_sI2, pu_sA1, pu_sA21, pu_sA222, pu_sAe, pu_sAn, pu_sJ1, pu_sJ21, pu_sJ221, pu_sF1, pu_sF21, pu_sF222, pu_sFe, pu_sFn, pu_upe, pu_upn, Nat.reduceAdd, Nat.reduceSub, Nat.reduceMul, Nat.reduceMod, Nat.reduceAnd, Nat.reducePow, Nat.reduceEqDiff, Nat.add_zero, Nat.zero_add, Bool.false_eq_true, h1, e4, h4', h7, h2, g52, g24, ne_eq, not_true]
  · simp (disch := omega) only [↓pu_m1, pu_lit, ↓reduceIte, pu_leT, pu_leF, pu_ltT, pu_ltF, pu_eqT, pu_eqF, pu_eqO, pu_eqO2, pu_ltO, pu_leO, pu_subO, pu_subOF, pu_subT, pu_subF, pu_oobF, pu_clamp, pu_add, pu_sub, pu_mul, pu_and, pu_or, pu_xor, pu_xorO, pu_shl, pu_shr, pu_ushr, pu_nb0, pu_nb1, pu_ob1, pu_ob2, pu_ob3, pu_ob4, pu_nw, pu_n1, pu_n7, pu_n31, pu_n255, pu_md, pu_one, pu_sI1, pu_sI2, pu_sA1, pu_sA21, pu_sA222, pu_sAe, pu_sAn, pu_sJ1, pu_sJ21, pu_sJ221, pu_sF1, pu_sF21, pu_sF222, pu_sFe, pu_sFn, pu_upe, pu_upn, Nat.reduceAdd, Nat.reduceSub, Nat.reduceMul, Nat.reduceMod, Nat.reduceAnd, Nat.reducePow, Nat.reduceEqDiff, Nat.add_zero, Nat.zero_add, Bool.false_eq_true, h1, ne_eq, not_false_eq_true]
theorem x12_climbs (hM : RM M V) (hw : WF V) {p t : Nat} (hp : p < V 1) (ht : t < V 0) : ∃ M', F_X12_climbs M (nI p) (nI t) = some M' ∧ MS M M' (clV V p t) := by
  have w0 := hw.1
  have w1 := hw.2.1
  have h59 := hw.2.2.2.2.2.2.2.2.1 p hp
  have m1 := MS.up hM (k := 65 + p) (v := t + 1) (by omega)
  have m2 := m1.tr (MS.up m1.2.1 (k := 59 + p) (v := beh V t (V (59 + p))) (by omega))
  have m3 := m2.tr (MS.up m2.2.1 (k := 71 + p) (v := V (71 + p) + 1) (by omega))
  have m4 := m3.tr (MS.up m3.2.1 (k := 43) (v := V 43 + 1) (by omega))
  have ka := x12_behind m1.2.1 (WF_65 hw hp (x := t + 1) (by omega)) (t := t) (x := V (59 + p)) (by rw [pu_upn (by omega)]; exact ht) h59
  rw [beh_cong (W := V) (by rw [pu_upn (by omega)]) (by rw [pu_upn (by omega)])] at ka
  refine ⟨_, ?_, m4⟩
  have g1 := m1.2.1 (59 + p) (by omega)
  rw [pu_upn (by omega)] at g1
  have g2 := m2.2.1 (71 + p) (by omega)
  rw [pu_upn (by omega), pu_upn (by omega)] at g2
  have g3 := m3.2.1 43 (by omega)
  rw [pu_upn (by omega), pu_upn (by omega), pu_upn (by omega)] at g3
  unfold F_X12_climbs
  simp (disch := omega) only [pu_lit, ↓reduceIte, pu_oobF, pu_clamp, pu_add, pu_nw, pu_ob1, g1, ka, g2, g3]
theorem x8_comeDown (hS : RS S V) (hw : WF V) {p : Nat} (hp : p < V 1) : ∃ S', F_X8_comeDown S (nI p) = some (nI (if V (65 + p) = 0 then 1 else 0), S') ∧ CS S S' (up V (65 + p) 0) := by
  have h65 := hw.2.2.2.2.2.2.2.2.2.2.2.2.1 p hp
  have w0 := hw.1
  have w1 := hw.2.1
  have f12 := hS.2.2.2.2.2.2.2.2.2.2.2.1
  unfold F_X8_comeDown
  by_cases h : V (65 + p) = 0
  · refine ⟨S, ?_, ?_⟩
    · simp (disch := omega) only [↓pu_m1, pu_lit, ↓reduceIte, pu_leT, pu_leF, pu_ltT, pu_ltF, pu_eqT, pu_eqF, pu_eqO, pu_eqO2, pu_ltO, pu_leO, pu_subO, pu_subOF, pu_subT, pu_subF, pu_oobF, pu_clamp, pu_add, pu_sub, pu_mul, pu_and, pu_or, pu_xor, pu_xorO, pu_shl, pu_shr, pu_ushr, pu_nb0, pu_nb1, pu_ob1, pu_ob2, pu_ob3, pu_ob4, pu_nw, pu_n1, pu_n7, pu_n31, pu_n255, pu_md, pu_one, pu_sI1, pu_sI2, pu_sA1, pu_sA21, pu_sA222, pu_sAe, pu_sAn, pu_sJ1, pu_sJ21, pu_sJ221, pu_sF1, pu_sF21, pu_sF222, pu_sFe, pu_sFn, pu_upe, pu_upn, Nat.reduceAdd, Nat.reduceSub, Nat.reduceMul, Nat.reduceMod, Nat.reduceAnd, Nat.reducePow, Nat.reduceEqDiff, Nat.add_zero, Nat.zero_add, Bool.false_eq_true, f12, h, pu_sub0]
    · have : up V (65 + p) 0 = V := by
        funext j
        by_cases e : j = 65 + p
        · subst e; rw [pu_upe, h]
        · rw [pu_upn e]
      rw [this]; exact CS.rf hS
  · refine ⟨sA S 12 (nI p) nO, ?_, ?_⟩
    rotate_left
    · have k := RS_12 hS w0 w1 (p := p) (x := 0) hp
      rw [pu_sub0] at k
      exact ⟨k, rfl⟩
    · simp (disch := omega) only [↓pu_m1, pu_lit, ↓reduceIte, pu_leT, pu_leF, pu_ltT, pu_ltF, pu_eqT, pu_eqF, pu_eqO, pu_eqO2, pu_ltO, pu_leO, pu_subO, pu_subOF, pu_subT, pu_subF, pu_oobF, pu_clamp, pu_add, pu_sub, pu_mul, pu_and, pu_or, pu_xor, pu_xorO, pu_shl, pu_shr, pu_ushr, pu_nb0, pu_nb1, pu_ob1, pu_ob2, pu_ob3, pu_ob4, pu_nw, pu_n1, pu_n7, pu_n31, pu_n255, pu_md, pu_one, pu_sI1, pu_sI2, pu_sA1, pu_sA21, pu_sA222, pu_sAe, pu_sAn, pu_sJ1, pu_sJ21, pu_sJ221, pu_sF1, pu_sF21, pu_sF222, pu_sFe, pu_sFn, pu_upe, pu_upn, Nat.reduceAdd, Nat.reduceSub, Nat.reduceMul, Nat.reduceMod, Nat.reduceAnd, Nat.reducePow, Nat.reduceEqDiff, Nat.add_zero, Nat.zero_add, Bool.false_eq_true, f12, h]
theorem x8_passOn (hS : RS S V) (hw : WF V) {p q v : Nat} (hp : p < V 1) (hq : q < V 1) (hv : v < 8) : ∃ S', F_X8_passOn S (nI p) (nI q) (nI v) = some (nI (whyT V p q v), S') ∧ CS S S' (if whyT V p q v = 0 then teV V q v else V) := by
  have hS' := hS
  have w0 := hw.1
  have w1 := hw.2.1
  have hpp := hw.2.2.2.2.2.2.2.2.2.2.2.2.1 p hp
  have hqq := hw.2.2.2.2.2.2.2.2.2.2.2.2.1 q hq
  have hp9 := hw.2.2.2.2.2.2.2.2.1 p hp
  have hq9 := hw.2.2.2.2.2.2.2.2.1 q hq
  obtain ⟨e0, e7, e5, e6, e14, f2, f3, f4, f9, f10, f11, f12, f13⟩ := hS
  unfold F_X8_passOn
  by_cases h1 : p = q
  · have hW : whyT V p q v = 1 := by unfold whyT; rw [if_pos (Or.inl h1)]
    rw [hW]
    exact ⟨S, by simp (disch := omega) only [↓pu_m1, pu_lit, ↓reduceIte, pu_leT, pu_leF, pu_ltT, pu_ltF, pu_eqT, pu_eqF, pu_eqO, pu_eqO2, pu_ltO, pu_leO, pu_subO, pu_subOF, pu_subT, pu_subF, pu_oobF, pu_clamp, pu_add, pu_sub, pu_mul, pu_and, pu_or, pu_xor, pu_xorO, pu_shl, pu_shr, pu_ushr, pu_nb0, pu_nb1, pu_ob1, pu_ob2, pu_ob3, pu_ob4, pu_nw, pu_n1, pu_n7, pu_n31, pu_n255, pu_md, pu_one, pu_sI1, pu_sI2, pu_sA1, pu_sA21, pu_sA222, pu_sAe, pu_sAn, pu_sJ1, pu_sJ21, pu_sJ221, pu_sF1, pu_sF21, pu_sF222, pu_sFe, pu_sFn, pu_upe, pu_upn, Nat.reduceAdd, Nat.reduceSub, Nat.reduceMul, Nat.reduceMod, Nat.reduceAnd, Nat.reducePow, Nat.reduceEqDiff, Nat.add_zero, Nat.zero_add, Bool.false_eq_true, h1], by simp (disch := omega) only [↓pu_m1, pu_lit, ↓reduceIte, pu_leT, pu_leF, pu_ltT, pu_ltF, pu_eqT, pu_eqF, pu_eqO, pu_eqO2, pu_ltO, pu_leO, pu_subO, pu_subOF, pu_subT, pu_subF, pu_oobF, pu_clamp, pu_add, pu_sub, pu_mul, pu_and, pu_or, pu_xor, pu_xorO, pu_shl, pu_shr, pu_ushr, pu_nb0, pu_nb1, pu_ob1, pu_ob2, pu_ob3, pu_ob4, pu_nw, pu_n1, pu_n7, pu_n31, pu_n255, pu_md, pu_one, pu_sI1, pu_sI2, pu_sA1, pu_sA21, pu_sA222, pu_sAe, pu_sAn, pu_sJ1, pu_sJ21, pu_sJ221, pu_sF1, pu_sF21, pu_sF222, pu_sFe, pu_sFn, pu_upe, pu_upn, Nat.reduceAdd, Nat.reduceSub, Nat.reduceMul, Nat.reduceMod, Nat.reduceAnd, Nat.reducePow, Nat.reduceEqDiff, Nat.add_zero, Nat.zero_add, Bool.false_eq_true]; exact CS.rf hS'⟩
  · by_cases h2 : V (65 + p) = 0
    · by_cases h3 : V (65 + q) = 0
      · have hc : ¬ (p = q ∨ V (65 + p) ≠ 0 ∨ V (65 + q) ≠ 0) := by omega
        rcases Nat.mod_two_eq_zero_or_one (V (59 + p) / 2 ^ v) with h4 | h4
        · have hW : whyT V p q v = 2 := by unfold whyT; rw [if_neg hc, if_pos h4]
          rw [hW]
          exact ⟨S, by simp (disch := omega) only [↓pu_m1, pu_lit, ↓reduceIte, pu_leT, pu_leF, pu_ltT, pu_ltF, pu_eqT, pu_eqF, pu_eqO, pu_eqO2, pu_ltO, pu_leO, pu_subO, pu_subOF, pu_subT, pu_subF, pu_oobF, pu_clamp, pu_add, pu_sub, pu_mul, pu_and, pu_or, pu_xor, pu_xorO, pu_shl, pu_shr, pu_ushr, pu_nb0, pu_nb1, pu_ob1, pu_ob2, pu_ob3, pu_ob4, pu_nw, pu_n1, pu_n7, pu_n31, pu_n255, pu_md, pu_one, pu_sI1, pu_sI2, pu_sA1, pu_sA21, pu_sA222, pu_sAe, pu_sAn, pu_sJ1, pu_sJ21, pu_sJ221, pu_sF1, pu_sF21, pu_sF222, pu_sFe, pu_sFn, pu_upe, pu_upn, Nat.reduceAdd, Nat.reduceSub, Nat.reduceMul, Nat.reduceMod, Nat.reduceAnd, Nat.reducePow, Nat.reduceEqDiff, Nat.add_zero, Nat.zero_add, Bool.false_eq_true, f9, f12, h1, h2, h3, pu_sub0, h4], by simp (disch := omega) only [↓pu_m1, pu_lit, ↓reduceIte, pu_leT, pu_leF, pu_ltT, pu_ltF, pu_eqT, pu_eqF, pu_eqO, pu_eqO2, pu_ltO, pu_leO, pu_subO, pu_subOF, pu_subT, pu_subF, pu_oobF, pu_clamp, pu_add, pu_sub, pu_mul, pu_and, pu_or, pu_xor, pu_xorO, pu_shl, pu_shr, pu_ushr, pu_nb0, pu_nb1, pu_ob1, pu_ob2, pu_ob3, pu_ob4, pu_nw, pu_n1, pu_n7, pu_n31, pu_n255, pu_md, pu_one, pu_sI1, pu_sI2, pu_sA1, pu_sA21, pu_sA222, pu_sAe, pu_sAn, pu_sJ1, pu_sJ21, pu_sJ221, pu_sF1, pu_sF21, pu_sF222, pu_sFe, pu_sFn, pu_upe, pu_upn, Nat.reduceAdd, Nat.reduceSub, Nat.reduceMul, Nat.reduceMod, Nat.reduceAnd, Nat.reducePow, Nat.reduceEqDiff, Nat.add_zero, Nat.zero_add, Bool.false_eq_true]; exact CS.rf hS'⟩
        · rcases Nat.mod_two_eq_zero_or_one (V (59 + q) / 2 ^ v) with h5 | h5
          · have hW : whyT V p q v = 0 := by unfold whyT; rw [if_neg hc, if_neg (by omega), if_neg (by omega)]
            rw [hW]
            refine ⟨sA S 9 (nI q) (nI (hav (V (59 + q)) v)), ?_, ?_⟩
            · simp (disch := omega) only [↓pu_m1, pu_lit, ↓reduceIte, pu_leT, pu_leF, pu_ltT, pu_ltF, pu_eqT, pu_eqF, pu_eqO, pu_eqO2, pu_ltO, pu_leO, pu_subO, pu_subOF, pu_subT, pu_subF, pu_oobF, pu_clamp, pu_add, pu_sub, pu_mul, pu_and, pu_or, pu_xor, pu_xorO, pu_shl, pu_shr, pu_ushr, pu_nb0, pu_nb1, pu_ob1, pu_ob2, pu_ob3, pu_ob4, pu_nw, pu_n1, pu_n7, pu_n31, pu_n255, pu_md, pu_one, pu_sI1, pu_sI2, pu_sA1, pu_sA21, pu_sA222, pu_sAe, pu_sAn, pu_sJ1, pu_sJ21, pu_sJ221, pu_sF1, pu_sF21, pu_sF222, pu_sFe, pu_sFn, pu_upe, pu_upn, Nat.reduceAdd, Nat.reduceSub, Nat.reduceMul, Nat.reduceMod, Nat.reduceAnd, Nat.reducePow, Nat.reduceEqDiff, Nat.add_zero, Nat.zero_add, Bool.false_eq_true, f9, f12, h1, h2, h3, pu_sub0, h4, h5, x11_hav hq9 hv]
            · rw [if_pos rfl]
              exact ⟨RS_9 hS' w0 w1 (p := q) (x := hav (V (59 + q)) v) hq, rfl⟩
          · have hW : whyT V p q v = 3 := by unfold whyT; rw [if_neg hc, if_neg (by omega), if_pos h5]
            rw [hW]
            exact ⟨S, by simp (disch := omega) only [↓pu_m1, pu_lit, ↓reduceIte, pu_leT, pu_leF, pu_ltT, pu_ltF, pu_eqT, pu_eqF, pu_eqO, pu_eqO2, pu_ltO, pu_leO, pu_subO, pu_subOF, pu_subT, pu_subF, pu_oobF, pu_clamp, pu_add, pu_sub, pu_mul, pu_and, pu_or, pu_xor, pu_xorO, pu_shl, pu_shr, pu_ushr, pu_nb0, pu_nb1, pu_ob1, pu_ob2, pu_ob3, pu_ob4, pu_nw, pu_n1, pu_n7, pu_n31, pu_n255, pu_md, pu_one, pu_sI1, pu_sI2, pu_sA1, pu_sA21, pu_sA222, pu_sAe, pu_sAn, pu_sJ1, pu_sJ21, pu_sJ221, pu_sF1, pu_sF21, pu_sF222, pu_sFe, pu_sFn, pu_upe, pu_upn, Nat.reduceAdd, Nat.reduceSub, Nat.reduceMul, Nat.reduceMod, Nat.reduceAnd, Nat.reducePow, Nat.reduceEqDiff, Nat.add_zero, Nat.zero_add, Bool.false_eq_true, f9, f12, h1, h2, h3, pu_sub0, h4, h5], by simp (disch := omega) only [↓pu_m1, pu_lit, ↓reduceIte, pu_leT, pu_leF, pu_ltT, pu_ltF, pu_eqT, pu_eqF, pu_eqO, pu_eqO2, pu_ltO, pu_leO, pu_subO, pu_subOF, pu_subT, pu_subF, pu_oobF, pu_clamp, pu_add, pu_sub, pu_mul, pu_and, pu_or, pu_xor, pu_xorO, pu_shl, pu_shr, pu_ushr, pu_nb0, pu_nb1, pu_ob1, pu_ob2, pu_ob3, pu_ob4, pu_nw, pu_n1, pu_n7, pu_n31, pu_n255, pu_md, pu_one, pu_sI1, pu_sI2, pu_sA1, pu_sA21, pu_sA222, pu_sAe, pu_sAn, pu_sJ1, pu_sJ21, pu_sJ221, pu_sF1, pu_sF21, pu_sF222, pu_sFe, pu_sFn, pu_upe, pu_upn, Nat.reduceAdd, Nat.reduceSub, Nat.reduceMul, Nat.reduceMod, Nat.reduceAnd, Nat.reducePow, Nat.reduceEqDiff, Nat.add_zero, Nat.zero_add, Bool.false_eq_true]; exact CS.rf hS'⟩
      · have hW : whyT V p q v = 1 := by unfold whyT; rw [if_pos (by omega)]
        rw [hW]
        exact ⟨S, by simp (disch := omega) only [↓pu_m1, pu_lit, ↓reduceIte, pu_leT, pu_leF, pu_ltT, pu_ltF, pu_eqT, pu_eqF, pu_eqO, pu_eqO2, pu_ltO, pu_leO, pu_subO, pu_subOF, pu_subT, pu_subF, pu_oobF, pu_clamp, pu_add, pu_sub, pu_mul, pu_and, pu_or, pu_xor, pu_xorO, pu_shl, pu_shr, pu_ushr, pu_nb0, pu_nb1, pu_ob1, pu_ob2, pu_ob3, pu_ob4, pu_nw, pu_n1, pu_n7, pu_n31, pu_n255, pu_md, pu_one, pu_sI1, pu_sI2, pu_sA1, pu_sA21, pu_sA222, pu_sAe, pu_sAn, pu_sJ1, pu_sJ21, pu_sJ221, pu_sF1, pu_sF21, pu_sF222, pu_sFe, pu_sFn, pu_upe, pu_upn, Nat.reduceAdd, Nat.reduceSub, Nat.reduceMul, Nat.reduceMod, Nat.reduceAnd, Nat.reducePow, Nat.reduceEqDiff, Nat.add_zero, Nat.zero_add, Bool.false_eq_true, f9, f12, h1, h2, h3, pu_sub0], by simp (disch := omega) only [↓pu_m1, pu_lit, ↓reduceIte, pu_leT, pu_leF, pu_ltT, pu_ltF, pu_eqT, pu_eqF, pu_eqO, pu_eqO2, pu_ltO, pu_leO, pu_subO, pu_subOF, pu_subT, pu_subF, pu_oobF, pu_clamp, pu_add, pu_sub, pu_mul, pu_and, pu_or, pu_xor, pu_xorO, pu_shl, pu_shr, pu_ushr, pu_nb0, pu_nb1, pu_ob1, pu_ob2, pu_ob3, pu_ob4, pu_nw, pu_n1, pu_n7, pu_n31, pu_n255, pu_md, pu_one, pu_sI1, pu_sI2, pu_sA1, pu_sA21, pu_sA222, pu_sAe, pu_sAn, pu_sJ1, pu_sJ21, pu_sJ221, pu_sF1, pu_sF21, pu_sF222, pu_sFe, pu_sFn, pu_upe, pu_upn, Nat.reduceAdd, Nat.reduceSub, Nat.reduceMul, Nat.reduceMod, Nat.reduceAnd, Nat.reducePow, Nat.reduceEqDiff, Nat.add_zero, Nat.zero_add, Bool.false_eq_true]; exact CS.rf hS'⟩
    · have hW : whyT V p q v = 1 := by unfold whyT; rw [if_pos (by omega)]
      rw [hW]
      exact ⟨S, by simp (disch := omega) only [↓pu_m1, pu_lit, ↓reduceIte, pu_leT, pu_leF, pu_ltT, pu_ltF, pu_eqT, pu_eqF, pu_eqO, pu_eqO2, pu_ltO, pu_leO, pu_subO, pu_subOF, pu_subT, pu_subF, pu_oobF, pu_clamp, pu_add, pu_sub, pu_mul, pu_and, pu_or, pu_xor, pu_xorO, pu_shl, pu_shr, pu_ushr, pu_nb0, pu_nb1, pu_ob1, pu_ob2, pu_ob3, pu_ob4, pu_nw, pu_n1, pu_n7, pu_n31, pu_n255, pu_md, pu_one, pu_sI1, pu_sI2, pu_sA1, pu_sA21, pu_sA222, pu_sAe, pu_sAn, pu_sJ1, pu_sJ21, pu_sJ221, pu_sF1, pu_sF21, pu_sF222, pu_sFe, pu_sFn, pu_upe, pu_upn, Nat.reduceAdd, Nat.reduceSub, Nat.reduceMul, Nat.reduceMod, Nat.reduceAnd, Nat.reducePow, Nat.reduceEqDiff, Nat.add_zero, Nat.zero_add, Bool.false_eq_true, f9, f12, h1, h2, pu_sub0], by simp (disch := omega) only [↓pu_m1, pu_lit, ↓reduceIte, pu_leT, pu_leF, pu_ltT, pu_ltF, pu_eqT, pu_eqF, pu_eqO, pu_eqO2, pu_ltO, pu_leO, pu_subO, pu_subOF, pu_subT, pu_subF, pu_oobF, pu_clamp, pu_add, pu_sub, pu_mul, pu_and, pu_or, pu_xor, pu_xorO, pu_shl, pu_shr, pu_ushr, pu_nb0, pu_nb1, pu_ob1, pu_ob2, pu_ob3, pu_ob4, pu_nw, pu_n1, pu_n7, pu_n31, pu_n255, pu_md, pu_one, pu_sI1, pu_sI2, pu_sA1, pu_sA21, pu_sA222, pu_sAe, pu_sAn, pu_sJ1, pu_sJ21, pu_sJ221, pu_sF1, pu_sF21, pu_sF222, pu_sFe, pu_sFn, pu_upe, pu_upn, Nat.reduceAdd, Nat.reduceSub, Nat.reduceMul, Nat.reduceMod, Nat.reduceAnd, Nat.reducePow, Nat.reduceEqDiff, Nat.add_zero, Nat.zero_add, Bool.false_eq_true]; exact CS.rf hS'⟩
theorem x12_whyT (hM : RM M V) (hw : WF V) {p q v : Nat} (hp : p < V 1) (hq : q < V 1) (hv : v < 8) : F_X12_whyTell M (nI p) (nI q) (nI v) = some (nI (whyT V p q v)) := by
  have w1 := hw.2.1
  have hp9 := hw.2.2.2.2.2.2.2.2.1 p hp
  have hq9 := hw.2.2.2.2.2.2.2.2.1 q hq
  have gp := hM (59 + p) (by omega)
  have gq := hM (59 + q) (by omega)
  have bp := x12_bit (x := V (59 + p)) (v := v) (by omega) (by omega)
  have bq := x12_bit (x := V (59 + q)) (v := v) (by omega) (by omega)
  unfold F_X12_whyTell F_X12_whyTell_21
  rw [x12_up hM hw hp, x12_up hM hw hq]
  by_cases h1 : p = q
  · have hW : whyT V p q v = 1 := by unfold whyT; rw [if_pos (Or.inl h1)]
    subst h1
    simp (disch := omega) only [↓pu_m1, pu_lit, ↓reduceIte, pu_leT, pu_leF, pu_ltT, pu_ltF, pu_eqT, pu_eqF, pu_eqO, pu_eqO2, pu_ltO, pu_leO, pu_subO, pu_subOF, pu_subT, pu_subF, pu_oobF, pu_clamp, pu_add, pu_sub, pu_mul, pu_and, pu_or, pu_xor, pu_xorO, pu_shl, pu_shr, pu_ushr, pu_nb0, pu_nb1, pu_ob1, pu_ob2, pu_ob3, pu_ob4, pu_nw, pu_n1, pu_n7, pu_n31, pu_n255, pu_md, pu_one, pu_sI1, pu_sI2, pu_sA1, pu_sA21, pu_sA222, pu_sAe, pu_sAn, pu_sJ1, pu_sJ21, pu_sJ221, pu_sF1, pu_sF21, pu_sF222, pu_sFe, pu_sFn, pu_upe, pu_upn, Nat.reduceAdd, Nat.reduceSub, Nat.reduceMul, Nat.reduceMod, Nat.reduceAnd, Nat.reducePow, Nat.reduceEqDiff, Nat.add_zero, Nat.zero_add, Bool.false_eq_true, hW]
  · by_cases h2 : V (65 + p) = 0
    · by_cases h3 : V (65 + q) = 0
      · have hc : ¬ (p = q ∨ V (65 + p) ≠ 0 ∨ V (65 + q) ≠ 0) := by omega
        rcases Nat.mod_two_eq_zero_or_one (V (59 + p) / 2 ^ v) with h4 | h4
        · have hW : whyT V p q v = 2 := by unfold whyT; rw [if_neg hc, if_pos h4]
          simp (disch := omega) only [↓pu_m1, pu_lit, ↓reduceIte, pu_leT, pu_leF, pu_ltT, pu_ltF, pu_eqT, pu_eqF, pu_eqO, pu_eqO2, pu_ltO, pu_leO, pu_subO, pu_subOF, pu_subT, pu_subF, pu_oobF, pu_clamp, pu_add, pu_sub, pu_mul, pu_and, pu_or, pu_xor, pu_xorO, pu_shl, pu_shr, pu_ushr, pu_nb0, pu_nb1, pu_ob1, pu_ob2, pu_ob3, pu_ob4, pu_nw, pu_n1, pu_n7, pu_n31, pu_n255, pu_md, pu_one, pu_sI1, pu_sI2, pu_sA1, pu_sA21, pu_sA222, pu_sAe, pu_sAn, pu_sJ1, pu_sJ21, pu_sJ221, pu_sF1, pu_sF21, pu_sF222, pu_sFe, pu_sFn, pu_upe, pu_upn, Nat.reduceAdd, Nat.reduceSub, Nat.reduceMul, Nat.reduceMod, Nat.reduceAnd, Nat.reducePow, Nat.reduceEqDiff, Nat.add_zero, Nat.zero_add, Bool.false_eq_true, h1, h2, h3, hW, gp, bp, h4]
        · rcases Nat.mod_two_eq_zero_or_one (V (59 + q) / 2 ^ v) with h5 | h5
          · have hW : whyT V p q v = 0 := by unfold whyT; rw [if_neg hc, if_neg (by omega), if_neg (by omega)]
            simp (disch := omega) only [↓pu_m1, pu_lit, ↓reduceIte, pu_leT, pu_leF, pu_ltT, pu_ltF, pu_eqT, pu_eqF, pu_eqO, pu_eqO2, pu_ltO, pu_leO, pu_subO, pu_subOF, pu_subT, pu_subF, pu_oobF, pu_clamp, pu_add, pu_sub, pu_mul, pu_and, pu_or, pu_xor, pu_xorO, pu_shl, pu_shr, pu_ushr, pu_nb0, pu_nb1, pu_ob1, pu_ob2, pu_ob3, pu_ob4, pu_nw, pu_n1, pu_n7, pu_n31, pu_n255, pu_md, pu_one, pu_sI1, pu_sI2, pu_sA1, pu_sA21, pu_sA222, pu_sAe, pu_sAn, pu_sJ1, pu_sJ21, pu_sJ221, pu_sF1, pu_sF21, pu_sF222, pu_sFe, pu_sFn, pu_upe, pu_upn, Nat.reduceAdd, Nat.reduceSub, Nat.reduceMul, Nat.reduceMod, Nat.reduceAnd, Nat.reducePow, Nat.reduceEqDiff, Nat.add_zero, Nat.zero_add, Bool.false_eq_true, h1, h2, h3, hW, gp, bp, h4, gq, bq, h5]
          · have hW : whyT V p q v = 3 := by unfold whyT; rw [if_neg hc, if_neg (by omega), if_pos h5]
            simp (disch := omega) only [↓pu_m1, pu_lit, ↓reduceIte, pu_leT, pu_leF, pu_ltT, pu_ltF, pu_eqT, pu_eqF, pu_eqO, pu_eqO2, pu_ltO, pu_leO, pu_subO, pu_subOF, pu_subT, pu_subF, pu_oobF, pu_clamp, pu_add, pu_sub, pu_mul, pu_and, pu_or, pu_xor, pu_xorO, pu_shl, pu_shr, pu_ushr, pu_nb0, pu_nb1, pu_ob1, pu_ob2, pu_ob3, pu_ob4, pu_nw, pu_n1, pu_n7, pu_n31, pu_n255, pu_md, pu_one, pu_sI1, pu_sI2, pu_sA1, pu_sA21, pu_sA222, pu_sAe, pu_sAn, pu_sJ1, pu_sJ21, pu_sJ221, pu_sF1, pu_sF21, pu_sF222, pu_sFe, pu_sFn, pu_upe, pu_upn, Nat.reduceAdd, Nat.reduceSub, Nat.reduceMul, Nat.reduceMod, Nat.reduceAnd, Nat.reducePow, Nat.reduceEqDiff, Nat.add_zero, Nat.zero_add, Bool.false_eq_true, h1, h2, h3, hW, gp, bp, h4, gq, bq, h5]
      · have hW : whyT V p q v = 1 := by unfold whyT; rw [if_pos (by omega)]
        simp (disch := omega) only [↓pu_m1, pu_lit, ↓reduceIte, pu_leT, pu_leF, pu_ltT, pu_ltF, pu_eqT, pu_eqF, pu_eqO, pu_eqO2, pu_ltO, pu_leO, pu_subO, pu_subOF, pu_subT, pu_subF, pu_oobF, pu_clamp, pu_add, pu_sub, pu_mul, pu_and, pu_or, pu_xor, pu_xorO, pu_shl, pu_shr, pu_ushr, pu_nb0, pu_nb1, pu_ob1, pu_ob2, pu_ob3, pu_ob4, pu_nw, pu_n1, pu_n7, pu_n31, pu_n255, pu_md, pu_one, pu_sI1, pu_sI2, pu_sA1, pu_sA21, pu_sA222, pu_sAe, pu_sAn, pu_sJ1, pu_sJ21, pu_sJ221, pu_sF1, pu_sF21, pu_sF222, pu_sFe, pu_sFn, pu_upe, pu_upn, Nat.reduceAdd, Nat.reduceSub, Nat.reduceMul, Nat.reduceMod, Nat.reduceAnd, Nat.reducePow, Nat.reduceEqDiff, Nat.add_zero, Nat.zero_add, Bool.false_eq_true, h1, h2, h3, hW]
    · have hW : whyT V p q v = 1 := by unfold whyT; rw [if_pos (by omega)]
      simp (disch := omega) only [↓pu_m1, pu_lit, ↓reduceIte, pu_leT, pu_leF, pu_ltT, pu_ltF, pu_eqT, pu_eqF, pu_eqO, pu_eqO2, pu_ltO, pu_leO, pu_subO, pu_subOF, pu_subT, pu_subF, pu_oobF, pu_clamp, pu_add, pu_sub, pu_mul, pu_and, pu_or, pu_xor, pu_xorO, pu_shl, pu_shr, pu_ushr, pu_nb0, pu_nb1, pu_ob1, pu_ob2, pu_ob3, pu_ob4, pu_nw, pu_n1, pu_n7, pu_n31, pu_n255, pu_md, pu_one, pu_sI1, pu_sI2, pu_sA1, pu_sA21, pu_sA222, pu_sAe, pu_sAn, pu_sJ1, pu_sJ21, pu_sJ221, pu_sF1, pu_sF21, pu_sF222, pu_sFe, pu_sFn, pu_upe, pu_upn, Nat.reduceAdd, Nat.reduceSub, Nat.reduceMul, Nat.reduceMod, Nat.reduceAnd, Nat.reducePow, Nat.reduceEqDiff, Nat.add_zero, Nat.zero_add, Bool.false_eq_true, h1, h2, hW]
theorem teV_WF (hw : WF V) {q v : Nat} (hq : q < V 1) (hv : v < 8) : WF (teV V q v) :=
  WF_59 hw hq (hav_lt (hw.2.2.2.2.2.2.2.2.1 q hq) hv) (hav_opn _ (hw.2.2.2.2.2.2.2.2.1 q hq) (hw.2.2.2.2.2.2.2.2.2.1 q hq) _ hv)
/-! storms -/
def stA (V : Vt) (n : Nat) : Nat → Vt
  | 0 => V
  | t + 1 => if V (52 + t) ≤ n then stA V n t else up (stA V n t) (52 + t) n
def stV (V : Vt) (n : Nat) : Vt := stA V n (V 0)
def whyS (V : Vt) (n : Nat) : Nat := if fs (fun t => decide (n < V (52 + t))) (V 0) 0 < V 0 then 0 else 1
theorem stA_out (V : Vt) (n : Nat) : ∀ t j, (j < 52 ∨ 52 + t ≤ j) → stA V n t j = V j := by
  intro t
  induction t with
  | zero => intro j _; rfl
  | succ t ih =>
    intro j hj
    simp only [stA]
    split
    · exact ih j (by omega)
    · rw [pu_upn (by omega)]; exact ih j (by omega)
theorem stA_WF (hw : WF V) {n : Nat} (hn : n ≤ 60) : ∀ t, t ≤ V 0 → WF (stA V n t) := by
  intro t
  induction t with
  | zero => intro _; exact hw
  | succ t ih =>
    intro ht
    have w0 := hw.1
    simp only [stA]
    split
    · exact ih (by omega)
    · exact WF_52 (ih (by omega)) (by rw [stA_out V n t 0 (by omega)]; omega) hn
theorem stA_SV (n : Nat) : ∀ t, SV V (stA V n t) := fun t j hj => stA_out V n t j (by omega)
theorem x8_blow (hS : RS S V) (hw : WF V) {n : Nat} (hn : n ≤ 60) : ∃ S', F_X8_blow S (nI n) = some (nI (whyS V n), S') ∧ CS S S' (stV V n) := by
  have w0 := hw.1
  have w1 := hw.2.1
  have w52 := hw.2.2.2.2.2.2.2.1
  unfold F_X8_blow L_X8_blow_4
  have key := lp_inv (body := fun kz z => F_X8_blow_4 kz z.1 z.2.1 z.2.2.1 z.2.2.2) (fun i z => ∃ S', z = (nI n, nI (if fs (fun t => decide (n < V (52 + t))) i 0 < i then 0 else 1), nI i, S') ∧ CS S S' (stA V n i)) (V 0) (fun o => o.1 = nI (whyS V n) ∧ CS S o.2 (stV V n)) (fun i hi z hz => ?_) (fun z hz => ?_) (x0 := (nI n, nI 1, nI 0, S)) ⟨S, rfl, CS.rf hS⟩ (pu_FU (by omega : V 0 < 1000000))
  · obtain ⟨o, ⟨h1, h2⟩, h3⟩ := key
    exact ⟨o.2, by rw [show (nI n, (1 : Int32), (0 : Int32), S) = (nI n, nI 1, nI 0, S) from rfl, h3, ← h1], h2⟩
  · obtain ⟨S', rfl, hC⟩ := hz
    have hR := hC.1
    have e0 := hR.1
    have f4 := hR.2.2.2.2.2.2.2.1
    rw [stA_out V n i 0 (by omega)] at e0 f4
    have g := f4 i hi
    rw [stA_out V n i (52 + i) (by omega)] at g
    have h52 := w52 i hi
    have hfs : fs (fun t => decide (n < V (52 + t))) (i + 1) 0 < i + 1 ↔ (fs (fun t => decide (n < V (52 + t))) i 0 < i ∨ n < V (52 + i)) := (fs_succ (fun t => decide (n < V (52 + t))) i).trans (by rw [decide_eq_true_eq])
    by_cases h : V (52 + i) ≤ n
    · refine ⟨(nI n, _, nI (i + 1), S'), ⟨S', rfl, by simp only [stA, h, if_true]; exact hC⟩, fun k => ?_⟩
      show F_X8_blow_4 k (nI n) _ (nI i) S' = _
      unfold F_X8_blow_4 F_X8_blow_31
      have : (fs (fun t => decide (n < V (52 + t))) (i + 1) 0 < i + 1) = (fs (fun t => decide (n < V (52 + t))) i 0 < i) := propext ⟨fun h1 => (hfs.mp h1).elim id (fun h2 => by omega), fun h1 => hfs.mpr (Or.inl h1)⟩
      simp (disch := omega) only [↓pu_m1, pu_lit, ↓reduceIte, pu_leT, pu_leF, pu_ltT, pu_ltF, pu_eqT, pu_eqF, pu_eqO, pu_eqO2, pu_ltO, pu_leO, pu_subO, pu_subOF, pu_subT, pu_subF, pu_oobF, pu_clamp, pu_add, pu_sub, pu_mul, pu_and, pu_or, pu_xor, pu_xorO, pu_shl, pu_shr, pu_ushr, pu_nb0, pu_nb1, pu_ob1, pu_ob2, pu_ob3, pu_ob4, pu_nw, pu_n1, pu_n7, pu_n31, pu_n255, pu_md, pu_one, pu_sI1, pu_sI2, pu_sA1, pu_sA21, pu_sA222, pu_sAe, pu_sAn, pu_sJ1, pu_sJ21, pu_sJ221, pu_sF1, pu_sF21, pu_sF222, pu_sFe, pu_sFn, pu_upe, pu_upn, Nat.reduceAdd, Nat.reduceSub, Nat.reduceMul, Nat.reduceMod, Nat.reduceAnd, Nat.reducePow, Nat.reduceEqDiff, Nat.add_zero, Nat.zero_add, Bool.false_eq_true, e0, g, this]
    · refine ⟨(nI n, _, nI (i + 1), sA S' 4 (nI i) (nI n)), ⟨_, rfl, ?_⟩, fun k => ?_⟩
      · simp only [stA, h, if_false]
        refine hC.tr ⟨RS_4 hR ?_ ?_ (p := i) (x := n) ?_, rfl⟩
        · rw [stA_out V n i 0 (by omega)]; exact w0
        · rw [stA_out V n i 1 (by omega)]; exact w1
        · rw [stA_out V n i 0 (by omega)]; exact hi
      · show F_X8_blow_4 k (nI n) _ (nI i) S' = _
        unfold F_X8_blow_4 F_X8_blow_31
        have : fs (fun t => decide (n < V (52 + t))) (i + 1) 0 < i + 1 := hfs.mpr (Or.inr (by omega))
        simp (disch := omega) only [↓pu_m1, pu_lit, ↓reduceIte, pu_leT, pu_leF, pu_ltT, pu_ltF, pu_eqT, pu_eqF, pu_eqO, pu_eqO2, pu_ltO, pu_leO, pu_subO, pu_subOF, pu_subT, pu_subF, pu_oobF, pu_clamp, pu_add, pu_sub, pu_mul, pu_and, pu_or, pu_xor, pu_xorO, pu_shl, pu_shr, pu_ushr, pu_nb0, pu_nb1, pu_ob1, pu_ob2, pu_ob3, pu_ob4, pu_nw, pu_n1, pu_n7, pu_n31, pu_n255, pu_md, pu_one, pu_sI1, pu_sI2, pu_sA1, pu_sA21, pu_sA222, pu_sAe, pu_sAn, pu_sJ1, pu_sJ21, pu_sJ221, pu_sF1, pu_sF21, pu_sF222, pu_sFe, pu_sFn, pu_upe, pu_upn, Nat.reduceAdd, Nat.reduceSub, Nat.reduceMul, Nat.reduceMod, Nat.reduceAnd, Nat.reducePow, Nat.reduceEqDiff, Nat.add_zero, Nat.zero_add, Bool.false_eq_true, e0, g, this, if_true]
  · obtain ⟨S', rfl, hC⟩ := hz
    have e0 := hC.1.1
    rw [stA_out V n (V 0) 0 (by omega)] at e0
    refine ⟨(nI (whyS V n), S'), ⟨rfl, hC⟩, fun k => ?_⟩
    show F_X8_blow_4 k (nI n) _ (nI (V 0)) S' = _
    unfold F_X8_blow_4 whyS
    simp (disch := omega) only [↓pu_m1, pu_lit, ↓reduceIte, pu_leT, pu_leF, pu_ltT, pu_ltF, pu_eqT, pu_eqF, pu_eqO, pu_eqO2, pu_ltO, pu_leO, pu_subO, pu_subOF, pu_subT, pu_subF, pu_oobF, pu_clamp, pu_add, pu_sub, pu_mul, pu_and, pu_or, pu_xor, pu_xorO, pu_shl, pu_shr, pu_ushr, pu_nb0, pu_nb1, pu_ob1, pu_ob2, pu_ob3, pu_ob4, pu_nw, pu_n1, pu_n7, pu_n31, pu_n255, pu_md, pu_one, pu_sI1, pu_sI2, pu_sA1, pu_sA21, pu_sA222, pu_sAe, pu_sAn, pu_sJ1, pu_sJ21, pu_sJ221, pu_sF1, pu_sF21, pu_sF222, pu_sFe, pu_sFn, pu_upe, pu_upn, Nat.reduceAdd, Nat.reduceSub, Nat.reduceMul, Nat.reduceMod, Nat.reduceAnd, Nat.reducePow, Nat.reduceEqDiff, Nat.add_zero, Nat.zero_add, Bool.false_eq_true, e0]
theorem x12_whyS (hM : RM M V) (hw : WF V) {n : Nat} (hn : n ≤ 60) : F_X12_whyStorm M (nI n) = some (nI (whyS V n)) := by
  have w0 := hw.1
  have w52 := hw.2.2.2.2.2.2.2.1
  have g0 := hM 0 (by omega)
  unfold F_X12_whyStorm L_X12_whyStorm_2 whyS
  have key := lp_fs (body := fun kz z => F_X12_whyStorm_2 kz z.1 z.2.1 z.2.2) (fun t => decide (n < V (52 + t))) (fun i => (nI n, nI i, M)) (V 0) (fun r => if r = nO then nI 1 else nI 0) (fun i hi hp k => ?_) (fun i hi hp k => ?_) (fun k => ?_) (pu_FU (by omega : V 0 < 1000000))
  · refine key.trans ?_
    have hl := (fs_le (fun t => decide (n < V (52 + t))) (V 0) 0).2
    rcases wI_dec (V 0) (fs (fun t => decide (n < V (52 + t))) (V 0) 0) (by omega) (by omega) with ⟨h1, h2⟩ | ⟨h1, h2⟩
    · simp (disch := omega) only [↓pu_m1, pu_lit, ↓reduceIte, pu_leT, pu_leF, pu_ltT, pu_ltF, pu_eqT, pu_eqF, pu_eqO, pu_eqO2, pu_ltO, pu_leO, pu_subO, pu_subOF, pu_subT, pu_subF, pu_oobF, pu_clamp, pu_add, pu_sub, pu_mul, pu_and, pu_or, pu_xor, pu_xorO, pu_shl, pu_shr, pu_ushr, pu_nb0, pu_nb1, pu_ob1, pu_ob2, pu_ob3, pu_ob4, pu_nw, pu_n1, pu_n7, pu_n31, pu_n255, pu_md, pu_one, pu_sI1, pu_sI2, pu_sA1, pu_sA21, pu_sA222, pu_sAe, pu_sAn, pu_sJ1, pu_sJ21, pu_sJ221, pu_sF1, pu_sF21, pu_sF222, pu_sFe, pu_sFn, pu_upe, pu_upn, Nat.reduceAdd, Nat.reduceSub, Nat.reduceMul, Nat.reduceMod, Nat.reduceAnd, Nat.reducePow, Nat.reduceEqDiff, Nat.add_zero, Nat.zero_add, Bool.false_eq_true, h2, h1]
    · have h3 : ¬ (fs (fun t => decide (n < V (52 + t))) (V 0) 0 < V 0) := by omega
      simp (disch := omega) only [↓pu_m1, pu_lit, ↓reduceIte, pu_leT, pu_leF, pu_ltT, pu_ltF, pu_eqT, pu_eqF, pu_eqO, pu_eqO2, pu_ltO, pu_leO, pu_subO, pu_subOF, pu_subT, pu_subF, pu_oobF, pu_clamp, pu_add, pu_sub, pu_mul, pu_and, pu_or, pu_xor, pu_xorO, pu_shl, pu_shr, pu_ushr, pu_nb0, pu_nb1, pu_ob1, pu_ob2, pu_ob3, pu_ob4, pu_nw, pu_n1, pu_n7, pu_n31, pu_n255, pu_md, pu_one, pu_sI1, pu_sI2, pu_sA1, pu_sA21, pu_sA222, pu_sAe, pu_sAn, pu_sJ1, pu_sJ21, pu_sJ221, pu_sF1, pu_sF21, pu_sF222, pu_sFe, pu_sFn, pu_upe, pu_upn, Nat.reduceAdd, Nat.reduceSub, Nat.reduceMul, Nat.reduceMod, Nat.reduceAnd, Nat.reducePow, Nat.reduceEqDiff, Nat.add_zero, Nat.zero_add, Bool.false_eq_true, h2, h3]
  · have h52 := w52 i hi
    have g := hM (52 + i) (by omega)
    have hp : n < V (52 + i) := by simpa using hp
    show F_X12_whyStorm_2 k (nI n) (nI i) M = _
    unfold F_X12_whyStorm_2
    simp (disch := omega) only [↓pu_m1, pu_lit, ↓reduceIte, pu_leT, pu_leF, pu_ltT, pu_ltF, pu_eqT, pu_eqF, pu_eqO, pu_eqO2, pu_ltO, pu_leO, pu_subO, pu_subOF, pu_subT, pu_subF, pu_oobF, pu_clamp, pu_add, pu_sub, pu_mul, pu_and, pu_or, pu_xor, pu_xorO, pu_shl, pu_shr, pu_ushr, pu_nb0, pu_nb1, pu_ob1, pu_ob2, pu_ob3, pu_ob4, pu_nw, pu_n1, pu_n7, pu_n31, pu_n255, pu_md, pu_one, pu_sI1, pu_sI2, pu_sA1, pu_sA21, pu_sA222, pu_sAe, pu_sAn, pu_sJ1, pu_sJ21, pu_sJ221, pu_sF1, pu_sF21, pu_sF222, pu_sFe, pu_sFn, pu_upe, pu_upn, Nat.reduceAdd, Nat.reduceSub, Nat.reduceMul, Nat.reduceMod, Nat.reduceAnd, Nat.reducePow, Nat.reduceEqDiff, Nat.add_zero, Nat.zero_add, Bool.false_eq_true, g0, g]
  · have h52 := w52 i hi
    have g := hM (52 + i) (by omega)
    have hp : V (52 + i) ≤ n := by simpa using hp
    show F_X12_whyStorm_2 k (nI n) (nI i) M = _
    unfold F_X12_whyStorm_2
    simp (disch := omega) only [↓pu_m1, pu_lit, ↓reduceIte, pu_leT, pu_leF, pu_ltT, pu_ltF, pu_eqT, pu_eqF, pu_eqO, pu_eqO2, pu_ltO, pu_leO, pu_subO, pu_subOF, pu_subT, pu_subF, pu_oobF, pu_clamp, pu_add, pu_sub, pu_mul, pu_and, pu_or, pu_xor, pu_xorO, pu_shl, pu_shr, pu_ushr, pu_nb0, pu_nb1, pu_ob1, pu_ob2, pu_ob3, pu_ob4, pu_nw, pu_n1, pu_n7, pu_n31, pu_n255, pu_md, pu_one, pu_sI1, pu_sI2, pu_sA1, pu_sA21, pu_sA222, pu_sAe, pu_sAn, pu_sJ1, pu_sJ21, pu_sJ221, pu_sF1, pu_sF21, pu_sF222, pu_sFe, pu_sFn, pu_upe, pu_upn, Nat.reduceAdd, Nat.reduceSub, Nat.reduceMul, Nat.reduceMod, Nat.reduceAnd, Nat.reducePow, Nat.reduceEqDiff, Nat.add_zero, Nat.zero_add, Bool.false_eq_true, g0, g]
  · show F_X12_whyStorm_2 k (nI n) (nI (V 0)) M = _
    unfold F_X12_whyStorm_2
    simp (disch := omega) only [↓pu_m1, pu_lit, ↓reduceIte, pu_leT, pu_leF, pu_ltT, pu_ltF, pu_eqT, pu_eqF, pu_eqO, pu_eqO2, pu_ltO, pu_leO, pu_subO, pu_subOF, pu_subT, pu_subF, pu_oobF, pu_clamp, pu_add, pu_sub, pu_mul, pu_and, pu_or, pu_xor, pu_xorO, pu_shl, pu_shr, pu_ushr, pu_nb0, pu_nb1, pu_ob1, pu_ob2, pu_ob3, pu_ob4, pu_nw, pu_n1, pu_n7, pu_n31, pu_n255, pu_md, pu_one, pu_sI1, pu_sI2, pu_sA1, pu_sA21, pu_sA222, pu_sAe, pu_sAn, pu_sJ1, pu_sJ21, pu_sJ221, pu_sF1, pu_sF21, pu_sF222, pu_sFe, pu_sFn, pu_upe, pu_upn, Nat.reduceAdd, Nat.reduceSub, Nat.reduceMul, Nat.reduceMod, Nat.reduceAnd, Nat.reducePow, Nat.reduceEqDiff, Nat.add_zero, Nat.zero_add, Bool.false_eq_true, g0]
theorem x12_storms (hM : RM M V) (hw : WF V) {n : Nat} (hn : n ≤ 60) : ∃ M', F_X12_storms M (nI n) = some M' ∧ MS M M' (stV V n) := by
  have w0 := hw.1
  have w52 := hw.2.2.2.2.2.2.2.1
  unfold F_X12_storms L_X12_storms_2
  have key := lp_inv (body := fun kz z => F_X12_storms_2 kz z.1 z.2.1 z.2.2) (fun i z => ∃ M', z = (nI n, nI i, M') ∧ MS M M' (stA V n i)) (V 0) (fun o => MS M o (stV V n)) (fun i hi z hz => ?_) (fun z hz => ?_) (x0 := (nI n, nI 0, M)) ⟨M, rfl, MS.rf hM⟩ (pu_FU (by omega : V 0 < 1000000))
  · obtain ⟨o, h1, h2⟩ := key
    exact ⟨o, h2, h1⟩
  · obtain ⟨M', rfl, hC⟩ := hz
    have g0 := hC.2.1 0 (by omega)
    have g := hC.2.1 (52 + i) (by omega)
    rw [stA_out V n i 0 (by omega)] at g0
    rw [stA_out V n i (52 + i) (by omega)] at g
    have h52 := w52 i hi
    by_cases h : V (52 + i) ≤ n
    · refine ⟨(nI n, nI (i + 1), M'), ⟨M', rfl, by simp only [stA, h, if_true]; exact hC⟩, fun k => ?_⟩
      show F_X12_storms_2 k (nI n) (nI i) M' = _
      unfold F_X12_storms_2 F_X12_storms_35
      simp (disch := omega) only [↓pu_m1, pu_lit, ↓reduceIte, pu_leT, pu_leF, pu_ltT, pu_ltF, pu_eqT, pu_eqF, pu_eqO, pu_eqO2, pu_ltO, pu_leO, pu_subO, pu_subOF, pu_subT, pu_subF, pu_oobF, pu_clamp, pu_add, pu_sub, pu_mul, pu_and, pu_or, pu_xor, pu_xorO, pu_shl, pu_shr, pu_ushr, pu_nb0, pu_nb1, pu_ob1, pu_ob2, pu_ob3, pu_ob4, pu_nw, pu_n1, pu_n7, pu_n31, pu_n255, pu_md, pu_one, pu_sI1, pu_sI2, pu_sA1, pu_sA21, pu_sA222, pu_sAe, pu_sAn, pu_sJ1, pu_sJ21, pu_sJ221, pu_sF1, pu_sF21, pu_sF222, pu_sFe, pu_sFn, pu_upe, pu_upn, Nat.reduceAdd, Nat.reduceSub, Nat.reduceMul, Nat.reduceMod, Nat.reduceAnd, Nat.reducePow, Nat.reduceEqDiff, Nat.add_zero, Nat.zero_add, Bool.false_eq_true, g0, g]
    · refine ⟨(nI n, nI (i + 1), sA M' 6 (nI (52 + i)) (nI n)), ⟨_, rfl, ?_⟩, fun k => ?_⟩
      · simp only [stA, h, if_false]
        exact hC.tr (MS.up hC.2.1 (by omega))
      · show F_X12_storms_2 k (nI n) (nI i) M' = _
        unfold F_X12_storms_2 F_X12_storms_35
        simp (disch := omega) only [↓pu_m1, pu_lit, ↓reduceIte, pu_leT, pu_leF, pu_ltT, pu_ltF, pu_eqT, pu_eqF, pu_eqO, pu_eqO2, pu_ltO, pu_leO, pu_subO, pu_subOF, pu_subT, pu_subF, pu_oobF, pu_clamp, pu_add, pu_sub, pu_mul, pu_and, pu_or, pu_xor, pu_xorO, pu_shl, pu_shr, pu_ushr, pu_nb0, pu_nb1, pu_ob1, pu_ob2, pu_ob3, pu_ob4, pu_nw, pu_n1, pu_n7, pu_n31, pu_n255, pu_md, pu_one, pu_sI1, pu_sI2, pu_sA1, pu_sA21, pu_sA222, pu_sAe, pu_sAn, pu_sJ1, pu_sJ21, pu_sJ221, pu_sF1, pu_sF21, pu_sF222, pu_sFe, pu_sFn, pu_upe, pu_upn, Nat.reduceAdd, Nat.reduceSub, Nat.reduceMul, Nat.reduceMod, Nat.reduceAnd, Nat.reducePow, Nat.reduceEqDiff, Nat.add_zero, Nat.zero_add, Bool.false_eq_true, g0, g]
  · obtain ⟨M', rfl, hC⟩ := hz
    have g0 := hC.2.1 0 (by omega)
    rw [stA_out V n (V 0) 0 (by omega)] at g0
    refine ⟨M', hC, fun k => ?_⟩
    show F_X12_storms_2 k (nI n) (nI (V 0)) M' = _
    unfold F_X12_storms_2
    simp (disch := omega) only [↓pu_m1, pu_lit, ↓reduceIte, pu_leT, pu_leF, pu_ltT, pu_ltF, pu_eqT, pu_eqF, pu_eqO, pu_eqO2, pu_ltO, pu_leO, pu_subO, pu_subOF, pu_subT, pu_subF, pu_oobF, pu_clamp, pu_add, pu_sub, pu_mul, pu_and, pu_or, pu_xor, pu_xorO, pu_shl, pu_shr, pu_ushr, pu_nb0, pu_nb1, pu_ob1, pu_ob2, pu_ob3, pu_ob4, pu_nw, pu_n1, pu_n7, pu_n31, pu_n255, pu_md, pu_one, pu_sI1, pu_sI2, pu_sA1, pu_sA21, pu_sA222, pu_sAe, pu_sAn, pu_sJ1, pu_sJ21, pu_sJ221, pu_sF1, pu_sF21, pu_sF222, pu_sFe, pu_sFn, pu_upe, pu_upn, Nat.reduceAdd, Nat.reduceSub, Nat.reduceMul, Nat.reduceMod, Nat.reduceAnd, Nat.reducePow, Nat.reduceEqDiff, Nat.add_zero, Nat.zero_add, Bool.false_eq_true, g0]
end P4
