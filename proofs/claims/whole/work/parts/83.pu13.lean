/-! party: who climbs which; what can have made a face -/
theorem lp_fsG {α β : Type} {body : (α → Option β) → α → Option β} (P : Nat → Bool) (f : Nat → α) (n : Nat) (G : Nat → Option β) (hf : ∀ i, i < n → P i = true → ∀ k, body k (f i) = G i) (hs : ∀ i, i < n → P i = false → ∀ k, body k (f i) = k (f (i + 1))) (he : ∀ k, body k (f n) = G n) {N : Nat} (hN : n < N) : lp body N (f 0) = G (fs P n 0) := by
  have h : ∀ d i, i + d = n → ∀ N, d < N → lp body N (f i) = G (fs P d i) := by
    intro d
    induction d with
    | zero =>
      intro i hi N hN
      obtain ⟨N, rfl⟩ : ∃ k, N = k + 1 := ⟨N - 1, by omega⟩
      have e : i = n := by omega
      subst e
      exact he _
    | succ d ih =>
      intro i hi N hN
      obtain ⟨N, rfl⟩ : ∃ k, N = k + 1 := ⟨N - 1, by omega⟩
      show body (lp body N) (f i) = G (fs P (d + 1) i)
      rw [fs]
      by_cases hp : P i = true
      · rw [hf i (by omega) hp, if_pos hp]
      · rw [hs i (by omega) (by simpa using hp), if_neg hp]
        exact ih (i + 1) (by omega) N (by omega)
  exact h n 0 (by omega) N hN
def chS (V : Vt) : Nat → Nat
  | 0 => 0
  | q + 1 => if fs (chP V q (chS V q)) (V 0) 0 < V 0 then chS V q ||| 2 ^ fs (chP V q (chS V q)) (V 0) 0 else chS V q
theorem chS_lt {V : Vt} (w0 : V 0 ≤ 7) : ∀ q, chS V q < 128 := by
  intro q
  induction q with
  | zero => exact (by decide : 0 < 128)
  | succ q ih =>
    simp only [chS]
    split
    · exact orp_lt ih (by omega)
    · exact ih
def RPa (Q M : St) : Prop := ∃ n, n ≤ 6 ∧ (M.1 32 = nI n ∨ (n = 0 ∧ M.1 32 = nO)) ∧ (∀ q, q < n → Q.2.2.1 4 q = M.2.2.1 31 q) ∧ ∀ q, n ≤ q → Q.2.2.1 4 q = nO
section P13
variable {T B Q M W P : St} {V : Vt}
theorem x4_choose (hw : WF V) (hQ : PQ Q V 0) : ∃ Q', L_X4_plan_83 (nI (V 1)) 0 0 Q B = some (nI (tb V (V 1) 0), Q') ∧ (∀ q, q < V 1 → Q'.2.2.1 4 q = wI (V 0) (fs (chP V q (chS V q)) (V 0) 0)) ∧ ∀ q, V 1 ≤ q → Q'.2.2.1 4 q = Q.2.2.1 4 q := by
  have w0 := hw.1
  have w1 := hw.2.1
  have key := lp_inv (body := fun kz z => F_X4_plan_83 kz z.1 z.2.1 z.2.2.1 z.2.2.2.1 z.2.2.2.2) (fun i z => ∃ Q', z = (nI (V 1), nI (chS V i), nI i, Q', B) ∧ (∀ k, k ≠ 4 → Q'.2.2.1 k = Q.2.2.1 k) ∧ (∀ q, q < i → Q'.2.2.1 4 q = wI (V 0) (fs (chP V q (chS V q)) (V 0) 0)) ∧ ∀ q, i ≤ q → Q'.2.2.1 4 q = Q.2.2.1 4 q) (V 1) (fun o => o.1 = nI (tb V (V 1) 0) ∧ (∀ q, q < V 1 → o.2.2.2.1 4 q = wI (V 0) (fs (chP V q (chS V q)) (V 0) 0)) ∧ ∀ q, V 1 ≤ q → o.2.2.2.1 4 q = Q.2.2.1 4 q) (fun i hi z hz => ?_) (fun z hz => ?_) (x0 := (nI (V 1), nI 0, nI 0, Q, B)) ⟨Q, rfl, fun _ _ => rfl, fun q hq => by omega, fun _ _ => rfl⟩ (pu_FU (by omega : V 1 < 1000000))
  · obtain ⟨o, ⟨h1, h2, h3⟩, h4⟩ := key
    refine ⟨o.2, ?_, h2, h3⟩
    rw [← h1]
    exact h4
  · obtain ⟨Q', rfl, a1, a2, a3⟩ := hz
    have hQ' : PQ Q' V 0 := ⟨fun r s b1 b2 b3 => by rw [a1 0 (by omega)]; exact hQ.1 r s b1 b2 b3, fun r b1 b2 => by rw [a1 1 (by omega), a1 2 (by omega), a1 3 (by omega)]; exact hQ.2 r b1 b2⟩
    have hf := x4_firstBest hw hQ' hi (chS_lt w0 i)
    have hl := (fs_le (chP V i (chS V i)) (V 0) 0).2
    refine ⟨(nI (V 1), nI (chS V (i + 1)), nI (i + 1), sA Q' 4 (nI i) (wI (V 0) (fs (chP V i (chS V i)) (V 0) 0)), B), ⟨_, rfl, fun k hk => by rw [pu_sAn hk]; exact a1 k hk, fun q hq => ?_, fun q hq => ?_⟩, fun k => ?_⟩
    · rw [pu_sAe (by omega)]
      by_cases e : q = i
      · rw [if_pos e, e]
      · rw [if_neg e]; exact a2 q (by omega)
    · rw [pu_sAe (by omega), if_neg (by omega)]; exact a3 q (by omega)
    · show F_X4_plan_83 k (nI (V 1)) (nI (chS V i)) (nI i) Q' B = _
      unfold F_X4_plan_83 F_X4_plan_128
      simp only [chS]
      by_cases hc : fs (chP V i (chS V i)) (V 0) 0 < V 0
      · rw [wI_lt hc] at hf ⊢
        rw [if_pos hc]
        simp (disch := omega) only [↓pu_m1, pu_lit, ↓reduceIte, pu_leT, pu_leF, pu_ltT, pu_ltF, pu_eqT, pu_eqF, pu_eqO, pu_eqO2, pu_ltO, pu_leO, pu_subO, pu_subOF, pu_subT, pu_subF, pu_oobF, pu_clamp, pu_add, pu_sub, pu_mul, pu_and, pu_or, pu_xor, pu_xorO, pu_shl, pu_shr, pu_ushr, pu_nb0, pu_nb1, pu_ob1N, pu_ob2N, pu_ob3N, pu_ob4N, pu_nwN, pu_n1, pu_n7, pu_n31, pu_n255, pu_md, pu_one, pu_sI1, pu_sI2, pu_sA1, pu_sA21, pu_sA222, pu_sAe, pu_sAn, pu_sJ1, pu_sJ21, pu_sJ221, pu_sF1, pu_sF21, pu_sF222, pu_sFe, pu_sFn, pu_upe, pu_upn, Nat.reduceAdd, Nat.reduceSub, Nat.reduceMul, Nat.reduceMod, Nat.reduceAnd, Nat.reducePow, Nat.reduceEqDiff, Nat.add_zero, Nat.zero_add, Bool.false_eq_true, Nat.add_sub_cancel, hf]
      · rw [wI_ge (by omega)] at hf ⊢
        rw [if_neg hc]
        simp (disch := omega) only [↓pu_m1, pu_lit, ↓reduceIte, pu_leT, pu_leF, pu_ltT, pu_ltF, pu_eqT, pu_eqF, pu_eqO, pu_eqO2, pu_ltO, pu_leO, pu_subO, pu_subOF, pu_subT, pu_subF, pu_oobF, pu_clamp, pu_add, pu_sub, pu_mul, pu_and, pu_or, pu_xor, pu_xorO, pu_shl, pu_shr, pu_ushr, pu_nb0, pu_nb1, pu_ob1N, pu_ob2N, pu_ob3N, pu_ob4N, pu_nwN, pu_n1, pu_n7, pu_n31, pu_n255, pu_md, pu_one, pu_sI1, pu_sI2, pu_sA1, pu_sA21, pu_sA222, pu_sAe, pu_sAn, pu_sJ1, pu_sJ21, pu_sJ221, pu_sF1, pu_sF21, pu_sF222, pu_sFe, pu_sFn, pu_upe, pu_upn, Nat.reduceAdd, Nat.reduceSub, Nat.reduceMul, Nat.reduceMod, Nat.reduceAnd, Nat.reducePow, Nat.reduceEqDiff, Nat.add_zero, Nat.zero_add, Bool.false_eq_true, Nat.add_sub_cancel, hf, or0]
  · obtain ⟨Q', rfl, a1, a2, a3⟩ := hz
    have g0 := hQ.1 0 0 (by omega) (by omega) (by omega)
    rw [← a1 0 (by omega)] at g0
    refine ⟨(nI (tb V (V 1) 0), Q'), ⟨rfl, a2, a3⟩, fun k => ?_⟩
    show F_X4_plan_83 k (nI (V 1)) (nI (chS V (V 1))) (nI (V 1)) Q' B = _
    unfold F_X4_plan_83
    simp only [Nat.mul_zero, Nat.add_zero, Nat.sub_zero] at g0
    simp (disch := omega) only [↓pu_m1, pu_lit, ↓reduceIte, pu_leT, pu_leF, pu_ltT, pu_ltF, pu_eqT, pu_eqF, pu_eqO, pu_eqO2, pu_ltO, pu_leO, pu_subO, pu_subOF, pu_subT, pu_subF, pu_oobF, pu_clamp, pu_add, pu_sub, pu_mul, pu_and, pu_or, pu_xor, pu_xorO, pu_shl, pu_shr, pu_ushr, pu_nb0, pu_nb1, pu_ob1N, pu_ob2N, pu_ob3N, pu_ob4N, pu_nwN, pu_n1, pu_n7, pu_n31, pu_n255, pu_md, pu_one, pu_sI1, pu_sI2, pu_sA1, pu_sA21, pu_sA222, pu_sAe, pu_sAn, pu_sJ1, pu_sJ21, pu_sJ221, pu_sF1, pu_sF21, pu_sF222, pu_sFe, pu_sFn, pu_upe, pu_upn, Nat.reduceAdd, Nat.reduceSub, Nat.reduceMul, Nat.reduceMod, Nat.reduceAnd, Nat.reducePow, Nat.reduceEqDiff, Nat.add_zero, Nat.zero_add, Bool.false_eq_true, Nat.add_sub_cancel, g0]
theorem x12_pick (hM : RM M V) (hw : WF V) (hQ : PM M V 0) {q s : Nat} (hq : q < V 1) (hs : s < 128) (K : Int32 × Int32 × Int32 × St → Option (Int32 × St)) (x : Int32) : L_X12_party_180 K x (nI s) (nI q) (nI (fre V q s)) 0 M = K (x, nI (if fs (chP V q s) (V 0) 0 < V 0 then s ||| 2 ^ fs (chP V q s) (V 0) 0 else s), nI (q + 1), sA M 31 (nI q) (wI (V 0) (fs (chP V q s) (V 0) 0))) := by
  have w0 := hw.1
  have w1 := hw.2.1
  have g0 := hM 0 (by omega)
  have hfl := fre_lt hw q s
  have gq := hQ q s (by omega) (by omega) hs
  have htl := tb_le V (V 1 - q) s
  have hend : ∀ r, r ≤ V 0 → F_X12_party_230 K x (nI s) (nI q) (nI r) M = K (x, nI (if r < V 0 then s ||| 2 ^ r else s), nI (q + 1), sA M 31 (nI q) (wI (V 0) r)) := by
    intro r hr
    unfold F_X12_party_230 F_X12_party_252 F_X12_party_273
    by_cases hc : r < V 0
    · rw [if_pos hc, wI_lt hc]
      simp (disch := omega) only [↓pu_m1, pu_lit, ↓reduceIte, pu_leT, pu_leF, pu_ltT, pu_ltF, pu_eqT, pu_eqF, pu_eqO, pu_eqO2, pu_ltO, pu_leO, pu_subO, pu_subOF, pu_subT, pu_subF, pu_oobF, pu_clamp, pu_add, pu_sub, pu_mul, pu_and, pu_or, pu_xor, pu_xorO, pu_shl, pu_shr, pu_ushr, pu_nb0, pu_nb1, pu_ob1N, pu_ob2N, pu_ob3N, pu_ob4N, pu_nwN, pu_n1, pu_n7, pu_n31, pu_n255, pu_md, pu_one, pu_sI1, pu_sI2, pu_sA1, pu_sA21, pu_sA222, pu_sAe, pu_sAn, pu_sJ1, pu_sJ21, pu_sJ221, pu_sF1, pu_sF21, pu_sF222, pu_sFe, pu_sFn, pu_upe, pu_upn, Nat.reduceAdd, Nat.reduceSub, Nat.reduceMul, Nat.reduceMod, Nat.reduceAnd, Nat.reducePow, Nat.reduceEqDiff, Nat.add_zero, Nat.zero_add, Bool.false_eq_true, Nat.add_sub_cancel, g0]
    · rw [if_neg hc, wI_ge (by omega)]
      simp (disch := omega) only [↓pu_m1, pu_lit, ↓reduceIte, pu_leT, pu_leF, pu_ltT, pu_ltF, pu_eqT, pu_eqF, pu_eqO, pu_eqO2, pu_ltO, pu_leO, pu_subO, pu_subOF, pu_subT, pu_subF, pu_oobF, pu_clamp, pu_add, pu_sub, pu_mul, pu_and, pu_or, pu_xor, pu_xorO, pu_shl, pu_shr, pu_ushr, pu_nb0, pu_nb1, pu_ob1N, pu_ob2N, pu_ob3N, pu_ob4N, pu_nwN, pu_n1, pu_n7, pu_n31, pu_n255, pu_md, pu_one, pu_sI1, pu_sI2, pu_sA1, pu_sA21, pu_sA222, pu_sAe, pu_sAn, pu_sJ1, pu_sJ21, pu_sJ221, pu_sF1, pu_sF21, pu_sF222, pu_sFe, pu_sFn, pu_upe, pu_upn, Nat.reduceAdd, Nat.reduceSub, Nat.reduceMul, Nat.reduceMod, Nat.reduceAnd, Nat.reducePow, Nat.reduceEqDiff, Nat.add_zero, Nat.zero_add, Bool.false_eq_true, Nat.add_sub_cancel, g0, or0]
  have k1 := lp_fsG (body := fun kz z => F_X12_party_180 K kz z.1 z.2.1 z.2.2.1 z.2.2.2.1 z.2.2.2.2.1 z.2.2.2.2.2) (chP V q s) (fun i => (x, nI s, nI q, nI (fre V q s), nI i, M)) (V 0) (fun r => F_X12_party_230 K x (nI s) (nI q) (nI r) M) (fun i hi hP k => ?_) (fun i hi hP k => ?_) (fun k => ?_) (pu_FU (by omega : V 0 < 1000000))
  · unfold L_X12_party_180
    rw [hend _ (by have := (fs_le (chP V q s) (V 0) 0).2; omega)] at k1
    exact k1
  · have hb := x12_bit (x := fre V q s) (v := i) (by omega) (by omega)
    have hbw := x12_mostBy hM hw hq hs hi (fun s hs => hQ (q + 1) s (by omega) (by omega) hs)
    show F_X12_party_180 K k x (nI s) (nI q) (nI (fre V q s)) (nI i) M = _
    unfold F_X12_party_180
    unfold chP at hP
    simp only [Bool.and_eq_true, beq_iff_eq] at hP
    rw [hP.1] at hb
    rw [hP.2] at hbw
    simp (disch := omega) only [↓pu_m1, pu_lit, ↓reduceIte, pu_leT, pu_leF, pu_ltT, pu_ltF, pu_eqT, pu_eqF, pu_eqO, pu_eqO2, pu_ltO, pu_leO, pu_subO, pu_subOF, pu_subT, pu_subF, pu_oobF, pu_clamp, pu_add, pu_sub, pu_mul, pu_and, pu_or, pu_xor, pu_xorO, pu_shl, pu_shr, pu_ushr, pu_nb0, pu_nb1, pu_ob1N, pu_ob2N, pu_ob3N, pu_ob4N, pu_nwN, pu_n1, pu_n7, pu_n31, pu_n255, pu_md, pu_one, pu_sI1, pu_sI2, pu_sA1, pu_sA21, pu_sA222, pu_sAe, pu_sAn, pu_sJ1, pu_sJ21, pu_sJ221, pu_sF1, pu_sF21, pu_sF222, pu_sFe, pu_sFn, pu_upe, pu_upn, Nat.reduceAdd, Nat.reduceSub, Nat.reduceMul, Nat.reduceMod, Nat.reduceAnd, Nat.reducePow, Nat.reduceEqDiff, Nat.add_zero, Nat.zero_add, Bool.false_eq_true, Nat.add_sub_cancel, g0, hb, hbw, gq]
  · have hb := x12_bit (x := fre V q s) (v := i) (by omega) (by omega)
    have hbw := x12_mostBy hM hw hq hs hi (fun s hs => hQ (q + 1) s (by omega) (by omega) hs)
    have hb1 := pT_le V q i
    have hb2 := tb_le V (V 1 - (q + 1)) (s ||| 2 ^ i)
    show F_X12_party_180 K k x (nI s) (nI q) (nI (fre V q s)) (nI i) M = _
    unfold F_X12_party_180 F_X12_party_224
    rcases Nat.mod_two_eq_zero_or_one (fre V q s / 2 ^ i) with h | h
    · rw [h] at hb
      simp (disch := omega) only [↓pu_m1, pu_lit, ↓reduceIte, pu_leT, pu_leF, pu_ltT, pu_ltF, pu_eqT, pu_eqF, pu_eqO, pu_eqO2, pu_ltO, pu_leO, pu_subO, pu_subOF, pu_subT, pu_subF, pu_oobF, pu_clamp, pu_add, pu_sub, pu_mul, pu_and, pu_or, pu_xor, pu_xorO, pu_shl, pu_shr, pu_ushr, pu_nb0, pu_nb1, pu_ob1N, pu_ob2N, pu_ob3N, pu_ob4N, pu_nwN, pu_n1, pu_n7, pu_n31, pu_n255, pu_md, pu_one, pu_sI1, pu_sI2, pu_sA1, pu_sA21, pu_sA222, pu_sAe, pu_sAn, pu_sJ1, pu_sJ21, pu_sJ221, pu_sF1, pu_sF21, pu_sF222, pu_sFe, pu_sFn, pu_upe, pu_upn, Nat.reduceAdd, Nat.reduceSub, Nat.reduceMul, Nat.reduceMod, Nat.reduceAnd, Nat.reducePow, Nat.reduceEqDiff, Nat.add_zero, Nat.zero_add, Bool.false_eq_true, Nat.add_sub_cancel, g0, hb]
    · rw [h] at hb
      have hne : pT V q i + tb V (V 1 - (q + 1)) (s ||| 2 ^ i) ≠ tb V (V 1 - q) s := by
        intro e
        unfold chP at hP
        rw [h, e] at hP
        simp at hP
      simp (disch := omega) only [↓pu_m1, pu_lit, ↓reduceIte, pu_leT, pu_leF, pu_ltT, pu_ltF, pu_eqT, pu_eqF, pu_eqO, pu_eqO2, pu_ltO, pu_leO, pu_subO, pu_subOF, pu_subT, pu_subF, pu_oobF, pu_clamp, pu_add, pu_sub, pu_mul, pu_and, pu_or, pu_xor, pu_xorO, pu_shl, pu_shr, pu_ushr, pu_nb0, pu_nb1, pu_ob1N, pu_ob2N, pu_ob3N, pu_ob4N, pu_nwN, pu_n1, pu_n7, pu_n31, pu_n255, pu_md, pu_one, pu_sI1, pu_sI2, pu_sA1, pu_sA21, pu_sA222, pu_sAe, pu_sAn, pu_sJ1, pu_sJ21, pu_sJ221, pu_sF1, pu_sF21, pu_sF222, pu_sFe, pu_sFn, pu_upe, pu_upn, Nat.reduceAdd, Nat.reduceSub, Nat.reduceMul, Nat.reduceMod, Nat.reduceAnd, Nat.reducePow, Nat.reduceEqDiff, Nat.add_zero, Nat.zero_add, Bool.false_eq_true, Nat.add_sub_cancel, g0, hb, hbw, gq]
  · show F_X12_party_180 K k x (nI s) (nI q) (nI (fre V q s)) (nI (V 0)) M = _
    unfold F_X12_party_180
    simp (disch := omega) only [↓pu_m1, pu_lit, ↓reduceIte, pu_leT, pu_leF, pu_ltT, pu_ltF, pu_eqT, pu_eqF, pu_eqO, pu_eqO2, pu_ltO, pu_leO, pu_subO, pu_subOF, pu_subT, pu_subF, pu_oobF, pu_clamp, pu_add, pu_sub, pu_mul, pu_and, pu_or, pu_xor, pu_xorO, pu_shl, pu_shr, pu_ushr, pu_nb0, pu_nb1, pu_ob1N, pu_ob2N, pu_ob3N, pu_ob4N, pu_nwN, pu_n1, pu_n7, pu_n31, pu_n255, pu_md, pu_one, pu_sI1, pu_sI2, pu_sA1, pu_sA21, pu_sA222, pu_sAe, pu_sAn, pu_sJ1, pu_sJ21, pu_sJ221, pu_sF1, pu_sF21, pu_sF222, pu_sFe, pu_sFn, pu_upe, pu_upn, Nat.reduceAdd, Nat.reduceSub, Nat.reduceMul, Nat.reduceMod, Nat.reduceAnd, Nat.reducePow, Nat.reduceEqDiff, Nat.add_zero, Nat.zero_add, Bool.false_eq_true, Nat.add_sub_cancel, g0]
theorem p_party (hS : RS B V) (hM : RM M V) (hw : WF V) : ∃ r Q' M', F_X11_party T Q B = some (r, Q') ∧ F_X12_party M = some (r, M') ∧ RPa Q' M' ∧ FR [0, 32] [30, 31] [] M M' := by
  have w0 := hw.1
  have w1 := hw.2.1
  obtain ⟨Q1, a1, a2, a3⟩ := x4_table (Q := Q) hS hw
  obtain ⟨Q2, b1, b2, b3⟩ := x4_choose (B := B) hw a2
  obtain ⟨M1, c1, c2, c3, c4, c5⟩ := x12_table hM hw
  have key := lp_inv (body := fun kz z => F_X12_party_161 kz z.1 z.2.1 z.2.2.1 z.2.2.2) (fun i z => ∃ M', z = (nI (V 1), nI (chS V i), nI i, M') ∧ RM M' V ∧ PM M' V 0 ∧ FR [] [31] [] M1 M' ∧ (∀ q, q < i → M'.2.2.1 31 q = wI (V 0) (fs (chP V q (chS V q)) (V 0) 0))) (V 1) (fun o => o.1 = nI (tb V (V 1) 0) ∧ FR [] [31] [] M1 o.2 ∧ (∀ q, q < V 1 → o.2.2.2.1 31 q = wI (V 0) (fs (chP V q (chS V q)) (V 0) 0))) (fun i hi z hz => ?_) (fun z hz => ?_) (x0 := (nI (V 1), nI 0, nI 0, M1)) ⟨M1, rfl, c3, c2, FR.rf, fun q hq => by omega⟩ (pu_FU (by omega : V 1 < 1000000))
  · obtain ⟨o, ⟨h1, h2, h3⟩, h4⟩ := key
    refine ⟨nI (tb V (V 1) 0), Q2, o.2, ?_, ?_, ⟨V 1, w1, Or.inl ?_, fun q hq => (b2 q hq).trans (h3 q hq).symm, fun q hq => ?_⟩, (c4.mono (by decide) (by decide) (by decide)).tr (h2.mono (by decide) (by decide) (by decide))⟩
    · unfold F_X11_party
      rw [a1, b1, pu_ob2]
    · rw [c1, ← h1]
      exact h4
    · rw [h2.1 32 (by decide)]; exact c5
    · rw [b3 q hq, a3]
  · obtain ⟨M', rfl, d1, d2, d3, d4⟩ := hz
    have hp := fun K => x12_pick d1 hw d2 hi (chS_lt w0 i) K (nI (V 1))
    refine ⟨(nI (V 1), nI (chS V (i + 1)), nI (i + 1), sA M' 31 (nI i) (wI (V 0) (fs (chP V i (chS V i)) (V 0) 0))), ⟨_, rfl, fun k hk => by rw [pu_sAn (by omega)]; exact d1 k hk, fun r s x1 x2 x3 => by rw [pu_sAn (by omega)]; exact d2 r s x1 x2 x3, d3.tr (FR.sA (by decide)), fun q hq => ?_⟩, fun k => ?_⟩
    · rw [pu_sAe (by omega)]
      by_cases e : q = i
      · rw [if_pos e, e]
      · rw [if_neg e]; exact d4 q (by omega)
    · show F_X12_party_161 k (nI (V 1)) (nI (chS V i)) (nI i) M' = _
      have hfe : canV V i &&& (chS V i ^^^ 4294967295) = fre V i (chS V i) := rfl
      unfold F_X12_party_161
      rw [if_neg (nI_ge hi (by omega)), x12_can d1 hw hi, pu_ob1, show (-1 : Int32) = nO from rfl, pu_xorO, pu_and, hfe]
      exact hp k
  · obtain ⟨M', rfl, d1, d2, d3, d4⟩ := hz
    have g0 := d2 0 0 (by omega) (by omega) (by omega)
    simp only [Nat.mul_zero, Nat.add_zero, Nat.sub_zero] at g0
    refine ⟨(nI (tb V (V 1) 0), M'), ⟨rfl, d3, d4⟩, fun k => ?_⟩
    show F_X12_party_161 k (nI (V 1)) (nI (chS V (V 1))) (nI (V 1)) M' = _
    unfold F_X12_party_161
    simp (disch := omega) only [↓pu_m1, pu_lit, ↓reduceIte, pu_leT, pu_leF, pu_ltT, pu_ltF, pu_eqT, pu_eqF, pu_eqO, pu_eqO2, pu_ltO, pu_leO, pu_subO, pu_subOF, pu_subT, pu_subF, pu_oobF, pu_clamp, pu_add, pu_sub, pu_mul, pu_and, pu_or, pu_xor, pu_xorO, pu_shl, pu_shr, pu_ushr, pu_nb0, pu_nb1, pu_ob1N, pu_ob2N, pu_ob3N, pu_ob4N, pu_nwN, pu_n1, pu_n7, pu_n31, pu_n255, pu_md, pu_one, pu_sI1, pu_sI2, pu_sA1, pu_sA21, pu_sA222, pu_sAe, pu_sAn, pu_sJ1, pu_sJ21, pu_sJ221, pu_sF1, pu_sF21, pu_sF222, pu_sFe, pu_sFn, pu_upe, pu_upn, Nat.reduceAdd, Nat.reduceSub, Nat.reduceMul, Nat.reduceMod, Nat.reduceAnd, Nat.reducePow, Nat.reduceEqDiff, Nat.add_zero, Nat.zero_add, Bool.false_eq_true, Nat.add_sub_cancel, g0]
theorem p_partyOf (h : RPa Q M) (x : Int32) : ∃ r, F_X11_partyOf T Q x = some r ∧ F_X12_partyOf M x = some (r, sI M 0 (nI 0)) := by
  obtain ⟨n, h0, h2, h3, h4⟩ := h
  unfold F_X11_partyOf F_X12_partyOf F_X11_partyOf_10
  rcases at_two x (M.1 32) n (by omega) h2 with ⟨j, hj, rfl, i1⟩ | ⟨i1, i2⟩ | ⟨i1, i2, i3⟩
  · have h3j := h3 j hj
    exact ⟨Q.2.2.1 4 j, by simp (disch := omega) only [↓pu_m1, pu_lit, ↓reduceIte, pu_leT, pu_leF, pu_ltT, pu_ltF, pu_eqT, pu_eqF, pu_eqO, pu_eqO2, pu_ltO, pu_leO, pu_subO, pu_subOF, pu_subT, pu_subF, pu_oobF, pu_clamp, pu_add, pu_sub, pu_mul, pu_and, pu_or, pu_xor, pu_xorO, pu_shl, pu_shr, pu_ushr, pu_nb0, pu_nb1, pu_ob1N, pu_ob2N, pu_ob3N, pu_ob4N, pu_nwN, pu_n1, pu_n7, pu_n31, pu_n255, pu_md, pu_one, pu_sI1, pu_sI2, pu_sA1, pu_sA21, pu_sA222, pu_sAe, pu_sAn, pu_sJ1, pu_sJ21, pu_sJ221, pu_sF1, pu_sF21, pu_sF222, pu_sFe, pu_sFn, pu_upe, pu_upn, Nat.reduceAdd, Nat.reduceSub, Nat.reduceMul, Nat.reduceMod, Nat.reduceAnd, Nat.reducePow, Nat.reduceEqDiff, Nat.add_zero, Nat.zero_add, Bool.false_eq_true, Nat.add_sub_cancel], by simp (disch := omega) only [↓pu_m1, pu_lit, ↓reduceIte, pu_leT, pu_leF, pu_ltT, pu_ltF, pu_eqT, pu_eqF, pu_eqO, pu_eqO2, pu_ltO, pu_leO, pu_subO, pu_subOF, pu_subT, pu_subF, pu_oobF, pu_clamp, pu_add, pu_sub, pu_mul, pu_and, pu_or, pu_xor, pu_xorO, pu_shl, pu_shr, pu_ushr, pu_nb0, pu_nb1, pu_ob1N, pu_ob2N, pu_ob3N, pu_ob4N, pu_nwN, pu_n1, pu_n7, pu_n31, pu_n255, pu_md, pu_one, pu_sI1, pu_sI2, pu_sA1, pu_sA21, pu_sA222, pu_sAe, pu_sAn, pu_sJ1, pu_sJ21, pu_sJ221, pu_sF1, pu_sF21, pu_sF222, pu_sFe, pu_sFn, pu_upe, pu_upn, Nat.reduceAdd, Nat.reduceSub, Nat.reduceMul, Nat.reduceMod, Nat.reduceAnd, Nat.reducePow, Nat.reduceEqDiff, Nat.add_zero, Nat.zero_add, Bool.false_eq_true, Nat.add_sub_cancel, i1, h3j]⟩
  · exact ⟨nO, by simp (disch := omega) only [↓pu_m1, pu_lit, ↓reduceIte, pu_leT, pu_leF, pu_ltT, pu_ltF, pu_eqT, pu_eqF, pu_eqO, pu_eqO2, pu_ltO, pu_leO, pu_subO, pu_subOF, pu_subT, pu_subF, pu_oobF, pu_clamp, pu_add, pu_sub, pu_mul, pu_and, pu_or, pu_xor, pu_xorO, pu_shl, pu_shr, pu_ushr, pu_nb0, pu_nb1, pu_ob1N, pu_ob2N, pu_ob3N, pu_ob4N, pu_nwN, pu_n1, pu_n7, pu_n31, pu_n255, pu_md, pu_one, pu_sI1, pu_sI2, pu_sA1, pu_sA21, pu_sA222, pu_sAe, pu_sAn, pu_sJ1, pu_sJ21, pu_sJ221, pu_sF1, pu_sF21, pu_sF222, pu_sFe, pu_sFn, pu_upe, pu_upn, Nat.reduceAdd, Nat.reduceSub, Nat.reduceMul, Nat.reduceMod, Nat.reduceAnd, Nat.reducePow, Nat.reduceEqDiff, Nat.add_zero, Nat.zero_add, Bool.false_eq_true, Nat.add_sub_cancel, i1], by simp (disch := omega) only [↓pu_m1, pu_lit, ↓reduceIte, pu_leT, pu_leF, pu_ltT, pu_ltF, pu_eqT, pu_eqF, pu_eqO, pu_eqO2, pu_ltO, pu_leO, pu_subO, pu_subOF, pu_subT, pu_subF, pu_oobF, pu_clamp, pu_add, pu_sub, pu_mul, pu_and, pu_or, pu_xor, pu_xorO, pu_shl, pu_shr, pu_ushr, pu_nb0, pu_nb1, pu_ob1N, pu_ob2N, pu_ob3N, pu_ob4N, pu_nwN, pu_n1, pu_n7, pu_n31, pu_n255, pu_md, pu_one, pu_sI1, pu_sI2, pu_sA1, pu_sA21, pu_sA222, pu_sAe, pu_sAn, pu_sJ1, pu_sJ21, pu_sJ221, pu_sF1, pu_sF21, pu_sF222, pu_sFe, pu_sFn, pu_upe, pu_upn, Nat.reduceAdd, Nat.reduceSub, Nat.reduceMul, Nat.reduceMod, Nat.reduceAnd, Nat.reducePow, Nat.reduceEqDiff, Nat.add_zero, Nat.zero_add, Bool.false_eq_true, Nat.add_sub_cancel, i2]⟩
  · refine ⟨nO, ?_, by simp (disch := omega) only [↓pu_m1, pu_lit, ↓reduceIte, pu_leT, pu_leF, pu_ltT, pu_ltF, pu_eqT, pu_eqF, pu_eqO, pu_eqO2, pu_ltO, pu_leO, pu_subO, pu_subOF, pu_subT, pu_subF, pu_oobF, pu_clamp, pu_add, pu_sub, pu_mul, pu_and, pu_or, pu_xor, pu_xorO, pu_shl, pu_shr, pu_ushr, pu_nb0, pu_nb1, pu_ob1N, pu_ob2N, pu_ob3N, pu_ob4N, pu_nwN, pu_n1, pu_n7, pu_n31, pu_n255, pu_md, pu_one, pu_sI1, pu_sI2, pu_sA1, pu_sA21, pu_sA222, pu_sAe, pu_sAn, pu_sJ1, pu_sJ21, pu_sJ221, pu_sF1, pu_sF21, pu_sF222, pu_sFe, pu_sFn, pu_upe, pu_upn, Nat.reduceAdd, Nat.reduceSub, Nat.reduceMul, Nat.reduceMod, Nat.reduceAnd, Nat.reducePow, Nat.reduceEqDiff, Nat.add_zero, Nat.zero_add, Bool.false_eq_true, Nat.add_sub_cancel, i3]⟩
    rcases pk_ix x (n := 6) (by omega) with h | h | ⟨j, hj, rfl⟩
    · exact absurd h i1
    · have h6 : ¬ x < nI 6 := fun h7 => by
        rw [Int32.le_iff_toInt_le] at h; rw [Int32.lt_iff_toInt_lt] at h7; omega
      simp (disch := omega) only [↓pu_m1, pu_lit, ↓reduceIte, pu_leT, pu_leF, pu_ltT, pu_ltF, pu_eqT, pu_eqF, pu_eqO, pu_eqO2, pu_ltO, pu_leO, pu_subO, pu_subOF, pu_subT, pu_subF, pu_oobF, pu_clamp, pu_add, pu_sub, pu_mul, pu_and, pu_or, pu_xor, pu_xorO, pu_shl, pu_shr, pu_ushr, pu_nb0, pu_nb1, pu_ob1N, pu_ob2N, pu_ob3N, pu_ob4N, pu_nwN, pu_n1, pu_n7, pu_n31, pu_n255, pu_md, pu_one, pu_sI1, pu_sI2, pu_sA1, pu_sA21, pu_sA222, pu_sAe, pu_sAn, pu_sJ1, pu_sJ21, pu_sJ221, pu_sF1, pu_sF21, pu_sF222, pu_sFe, pu_sFn, pu_upe, pu_upn, Nat.reduceAdd, Nat.reduceSub, Nat.reduceMul, Nat.reduceMod, Nat.reduceAnd, Nat.reducePow, Nat.reduceEqDiff, Nat.add_zero, Nat.zero_add, Bool.false_eq_true, Nat.add_sub_cancel, i1, h6]
    · have hjn : n ≤ j := Nat.le_of_not_lt (fun hlt => i2 (nI_lt hlt (by omega)))
      have g := h4 j hjn
      simp (disch := omega) only [↓pu_m1, pu_lit, ↓reduceIte, pu_leT, pu_leF, pu_ltT, pu_ltF, pu_eqT, pu_eqF, pu_eqO, pu_eqO2, pu_ltO, pu_leO, pu_subO, pu_subOF, pu_subT, pu_subF, pu_oobF, pu_clamp, pu_add, pu_sub, pu_mul, pu_and, pu_or, pu_xor, pu_xorO, pu_shl, pu_shr, pu_ushr, pu_nb0, pu_nb1, pu_ob1N, pu_ob2N, pu_ob3N, pu_ob4N, pu_nwN, pu_n1, pu_n7, pu_n31, pu_n255, pu_md, pu_one, pu_sI1, pu_sI2, pu_sA1, pu_sA21, pu_sA222, pu_sAe, pu_sAn, pu_sJ1, pu_sJ21, pu_sJ221, pu_sF1, pu_sF21, pu_sF222, pu_sFe, pu_sFn, pu_upe, pu_upn, Nat.reduceAdd, Nat.reduceSub, Nat.reduceMul, Nat.reduceMod, Nat.reduceAnd, Nat.reducePow, Nat.reduceEqDiff, Nat.add_zero, Nat.zero_add, Bool.false_eq_true, Nat.add_sub_cancel, g]
/-! made -/
def dg (n k c i : Nat) : Nat := c / n ^ (k - 1 - i) % n
def mvA (V : Vt) (k c a : Nat) : Nat → Nat
  | 0 => a
  | i + 1 => beh V (dg (V 0) k c i) (mvA V k c a i)
theorem mvA_lt (V : Vt) (k c : Nat) {a : Nat} (ha : a < 256) : ∀ i, mvA V k c a i < 256 := by
  intro i
  induction i with
  | zero => exact ha
  | succ i ih => exact beh_lt V _ ih
end P13
