/-! images; the lines of a book, lived -/
def RI (I IN IB M : St) (k : Nat) : Prop := (I.1 2 = nI 0 ∧ M.2.2.1 50 k = nI 0) ∨ (I.1 2 = nI 1 ∧ M.2.2.1 50 k = nI 1 ∧ ∃ V', RS IB V' ∧ WF V' ∧ (∀ j, j < 77 → M.2.2.1 48 (258 * k + j) = nI (V' j)) ∧ ((∀ t, t < V' 0 → NM (IB.2.2.2 1 t) (M.2.2.2 49 (13 * k + t))) ∧ ∀ p, p < V' 1 → NM (IB.2.2.2 8 p) (M.2.2.2 49 (13 * k + (7 + p)))) ∧ CR IN (fun j => M.2.2.1 48 (258 * k + j)))
theorem CR_cong {N : St} {f g : Nat → Int32} (h : CR N f) (hfg : ∀ j, 77 ≤ j → j < 258 → g j = f j) : CR N g := by
  obtain ⟨n, cs, cg, cu, h1, h2, h3, h4, h5, h6, h7⟩ := h
  refine ⟨n, cs, cg, cu, h1, h2, by rw [hfg 77 (by omega) (by omega)]; exact h3, h4, fun i hi => ?_, h6, h7⟩
  rw [hfg (78 + 3 * i) (by omega) (by omega), hfg (78 + 3 * i + 1) (by omega) (by omega), hfg (78 + 3 * i + 2) (by omega) (by omega)]
  exact h5 i hi
section P21
variable {T B H M N G S I0 I1 IN0 IN1 IB0 IB1 IR : St} {K : KSt} {V : Vt}
theorem x12_image {k : Nat} (hk : k < 2) : ∃ M', F_X12_image M (nI k) = some (nI 1, M') ∧ (∀ j, j < 258 → M'.2.2.1 48 (258 * k + j) = M.2.2.1 6 j) ∧ (∀ j, (j < 258 * k ∨ 258 * k + 258 ≤ j) → M'.2.2.1 48 j = M.2.2.1 48 j) ∧ (∀ j, j < 13 → M'.2.2.2 49 (13 * k + j) = M.2.2.2 9 j) ∧ (∀ j, (j < 13 * k ∨ 13 * k + 13 ≤ j) → M'.2.2.2 49 j = M.2.2.2 49 j) ∧ M'.2.2.1 50 k = nI 1 ∧ (∀ j, j ≠ k → M'.2.2.1 50 j = M.2.2.1 50 j) ∧ FR [0] [48, 50] [49] M M' := by
  have i4 := in_ok (Nat.zero_le k) (by omega : k ≤ 1) (by omega)
  have k1 : L_X12_image_18 (nI k) 0 (sI M 0 (nI 0)) = L_X12_image_51 (nI k) 0 (sF (sI M 0 (nI 0)) 48 (cpR (M.2.2.1 48) (258 * k) (fun j => M.2.2.1 6 j) 258)) := by
    unfold L_X12_image_18
    have key := lp_upO (body := fun kz z => F_X12_image_18 kz z.1 z.2.1 z.2.2) (fun i => (nI k, nI i, sF (sI M 0 (nI 0)) 48 (cpR (M.2.2.1 48) (258 * k) (fun j => M.2.2.1 6 j) i))) 258 (o := L_X12_image_51 (nI k) 0 (sF (sI M 0 (nI 0)) 48 (cpR (M.2.2.1 48) (258 * k) (fun j => M.2.2.1 6 j) 258))) (fun i hi kk => ?_) (fun kk => ?_) (pu_FU (by omega : 258 < 1000000))
    · rw [cpR0] at key
      have e : sF (sI M 0 (nI 0)) 48 (M.2.2.1 48) = sI M 0 (nI 0) := pu_sFsame (S := sI M 0 (nI 0)) (f := 48)
      rw [e] at key
      exact key
    · show F_X12_image_18 kk (nI k) (nI i) _ = _
      unfold F_X12_image_18
      have e := cpRs (M.2.2.1 48) (258 * k) (fun j => M.2.2.1 6 j) i
      simp (disch := omega) only [↓pu_m1, pu_lit, ↓reduceIte, pu_leT, pu_leF, pu_ltT, pu_ltF, pu_eqT, pu_eqF, pu_eqO, pu_eqO2, pu_ltO, pu_leO, pu_subO, pu_subOF, pu_subT, pu_subF, pu_oobF, pu_clamp, pu_add, pu_sub, pu_mul, pu_and, pu_or, pu_xor, pu_xorO, pu_shl, pu_shr, pu_ushr, pu_nb0, pu_nb1, pu_ob1N, pu_ob2N, pu_ob3N, pu_ob4N, pu_nwN, pu_n1, pu_n7, pu_n31, pu_n255, pu_md, pu_one, pu_sI1, pu_sI2, pu_sA1, pu_sA21, pu_sA222, pu_sAe, pu_sAn, pu_sJ1, pu_sJ21, pu_sJ221, pu_sF1, pu_sF21, pu_sF222, pu_sFe, pu_sFn, pu_upe, pu_upn, Nat.reduceAdd, Nat.reduceSub, Nat.reduceMul, Nat.reduceMod, Nat.reduceAnd, Nat.reducePow, Nat.reduceEqDiff, Nat.add_zero, Nat.zero_add, Bool.false_eq_true, Nat.add_sub_cancel, sA_sF, e]
    · show F_X12_image_18 kk (nI k) (nI 258) _ = _
      unfold F_X12_image_18
      rw [if_pos (by decide)]
  have key := lp_inv (body := fun kz z => F_X12_image_51 kz z.1 z.2.1 z.2.2) (fun i z => ∃ M', z = (nI k, nI i, M') ∧ (∀ j, j < i → M'.2.2.2 49 (13 * k + j) = M.2.2.2 9 j) ∧ (∀ j, (j < 13 * k ∨ 13 * k + i ≤ j) → M'.2.2.2 49 j = M.2.2.2 49 j) ∧ M'.2.2.1 = (sF (sI M 0 (nI 0)) 48 (cpR (M.2.2.1 48) (258 * k) (fun j => M.2.2.1 6 j) 258)).2.2.1 ∧ FR [0] [48, 50] [49] M M') 13 (fun o => o.1 = nI 1 ∧ (∀ j, j < 258 → o.2.2.2.1 48 (258 * k + j) = M.2.2.1 6 j) ∧ (∀ j, (j < 258 * k ∨ 258 * k + 258 ≤ j) → o.2.2.2.1 48 j = M.2.2.1 48 j) ∧ (∀ j, j < 13 → o.2.2.2.2 49 (13 * k + j) = M.2.2.2 9 j) ∧ (∀ j, (j < 13 * k ∨ 13 * k + 13 ≤ j) → o.2.2.2.2 49 j = M.2.2.2 49 j) ∧ o.2.2.2.1 50 k = nI 1 ∧ (∀ j, j ≠ k → o.2.2.2.1 50 j = M.2.2.1 50 j) ∧ FR [0] [48, 50] [49] M o.2) (fun i hi z hz => ?_) (fun z hz => ?_) (x0 := (nI k, nI 0, sF (sI M 0 (nI 0)) 48 (cpR (M.2.2.1 48) (258 * k) (fun j => M.2.2.1 6 j) 258))) ⟨_, rfl, fun j hj => by omega, fun j hj => rfl, rfl, (FR.sI (by decide)).tr (FR.sF (by decide))⟩ (pu_FU (by omega : 13 < 1000000))
  · obtain ⟨o, ⟨h1, h2⟩, h3⟩ := key
    refine ⟨o.2, ?_, h2⟩
    unfold F_X12_image
    have k2 : L_X12_image_18 (nI k) (nI 0) (sI M 0 (nI 0)) = some o := k1.trans h3
    simp (disch := omega) only [↓pu_m1, pu_lit, ↓reduceIte, pu_leT, pu_leF, pu_ltT, pu_ltF, pu_eqT, pu_eqF, pu_eqO, pu_eqO2, pu_ltO, pu_leO, pu_subO, pu_subOF, pu_subT, pu_subF, pu_oobF, pu_clamp, pu_add, pu_sub, pu_mul, pu_and, pu_or, pu_xor, pu_xorO, pu_shl, pu_shr, pu_ushr, pu_nb0, pu_nb1, pu_ob1N, pu_ob2N, pu_ob3N, pu_ob4N, pu_nwN, pu_n1, pu_n7, pu_n31, pu_n255, pu_md, pu_one, pu_sI1, pu_sI2, pu_sA1, pu_sA21, pu_sA222, pu_sAe, pu_sAn, pu_sJ1, pu_sJ21, pu_sJ221, pu_sF1, pu_sF21, pu_sF222, pu_sFe, pu_sFn, pu_upe, pu_upn, Nat.reduceAdd, Nat.reduceSub, Nat.reduceMul, Nat.reduceMod, Nat.reduceAnd, Nat.reducePow, Nat.reduceEqDiff, Nat.add_zero, Nat.zero_add, Bool.false_eq_true, Nat.add_sub_cancel, i4, k2]
    rw [← h1]
  · obtain ⟨M', rfl, a1, a2, a3, a4⟩ := hz
    have g9 : M'.2.2.2 9 i = M.2.2.2 9 i := by rw [a4.2.2 9 (by decide)]
    refine ⟨(nI k, nI (i + 1), sJ M' 49 (nI (13 * k + i)) (M.2.2.2 9 i)), ⟨_, rfl, fun j hj => ?_, fun j hj => ?_, a3, a4.tr (FR.sJ (by decide))⟩, fun kk => ?_⟩
    · rw [pu_sJe (by omega)]
      by_cases e : j = i
      · rw [if_pos (by omega), e]
      · rw [if_neg (by omega)]; exact a1 j (by omega)
    · rw [pu_sJe (by omega), if_neg (by omega)]; exact a2 j (by omega)
    · show F_X12_image_51 kk (nI k) (nI i) M' = _
      unfold F_X12_image_51
      simp (disch := omega) only [↓pu_m1, pu_lit, ↓reduceIte, pu_leT, pu_leF, pu_ltT, pu_ltF, pu_eqT, pu_eqF, pu_eqO, pu_eqO2, pu_ltO, pu_leO, pu_subO, pu_subOF, pu_subT, pu_subF, pu_oobF, pu_clamp, pu_add, pu_sub, pu_mul, pu_and, pu_or, pu_xor, pu_xorO, pu_shl, pu_shr, pu_ushr, pu_nb0, pu_nb1, pu_ob1N, pu_ob2N, pu_ob3N, pu_ob4N, pu_nwN, pu_n1, pu_n7, pu_n31, pu_n255, pu_md, pu_one, pu_sI1, pu_sI2, pu_sA1, pu_sA21, pu_sA222, pu_sAe, pu_sAn, pu_sJ1, pu_sJ21, pu_sJ221, pu_sF1, pu_sF21, pu_sF222, pu_sFe, pu_sFn, pu_upe, pu_upn, Nat.reduceAdd, Nat.reduceSub, Nat.reduceMul, Nat.reduceMod, Nat.reduceAnd, Nat.reducePow, Nat.reduceEqDiff, Nat.add_zero, Nat.zero_add, Bool.false_eq_true, Nat.add_sub_cancel, g9]
  · obtain ⟨M', rfl, a1, a2, a3, a4⟩ := hz
    refine ⟨(nI 1, sA M' 50 (nI k) (nI 1)), ⟨rfl, fun j hj => ?_, fun j hj => ?_, a1, a2, ?_, fun j hj => ?_, a4.tr (FR.sA (by decide))⟩, fun kk => ?_⟩
    · rw [pu_sAn (by omega), a3, pu_sFe, cpR_in (by omega) (by omega), Nat.add_sub_cancel_left]
    · rw [pu_sAn (by omega), a3, pu_sFe, cpR_out (by omega)]
    · rw [pu_sAe (by omega), if_pos rfl]
    · rw [pu_sAe (by omega), if_neg hj, a3, pu_sFn (by omega)]; rfl
    · show F_X12_image_51 kk (nI k) (nI 13) M' = _
      unfold F_X12_image_51
      simp (disch := omega) only [↓pu_m1, pu_lit, ↓reduceIte, pu_leT, pu_leF, pu_ltT, pu_ltF, pu_eqT, pu_eqF, pu_eqO, pu_eqO2, pu_ltO, pu_leO, pu_subO, pu_subOF, pu_subT, pu_subF, pu_oobF, pu_clamp, pu_add, pu_sub, pu_mul, pu_and, pu_or, pu_xor, pu_xorO, pu_shl, pu_shr, pu_ushr, pu_nb0, pu_nb1, pu_ob1N, pu_ob2N, pu_ob3N, pu_ob4N, pu_nwN, pu_n1, pu_n7, pu_n31, pu_n255, pu_md, pu_one, pu_sI1, pu_sI2, pu_sA1, pu_sA21, pu_sA222, pu_sAe, pu_sAn, pu_sJ1, pu_sJ21, pu_sJ221, pu_sF1, pu_sF21, pu_sF222, pu_sFe, pu_sFn, pu_upe, pu_upn, Nat.reduceAdd, Nat.reduceSub, Nat.reduceMul, Nat.reduceMod, Nat.reduceAnd, Nat.reducePow, Nat.reduceEqDiff, Nat.add_zero, Nat.zero_add, Bool.false_eq_true, Nat.add_sub_cancel, nar_1]
theorem RI_keep {I IN IB M' : St} {k j : Nat} (hk : k < 2) (hj : j < 2) (hkj : j ≠ k) (h : RI I IN IB M j) (h48 : ∀ i, (i < 258 * k ∨ 258 * k + 258 ≤ i) → M'.2.2.1 48 i = M.2.2.1 48 i) (h49 : ∀ i, (i < 13 * k ∨ 13 * k + 13 ≤ i) → M'.2.2.2 49 i = M.2.2.2 49 i) (h50 : ∀ i, i ≠ k → M'.2.2.1 50 i = M.2.2.1 50 i) : RI I IN IB M' j := by
  rcases h with ⟨h1, h2⟩ | ⟨h1, h2, V', h3, h4, h5, h6, h7⟩
  · exact Or.inl ⟨h1, by rw [h50 j hkj]; exact h2⟩
  · refine Or.inr ⟨h1, by rw [h50 j hkj]; exact h2, V', h3, h4, fun i hi => by rw [h48 _ (by omega)]; exact h5 i hi, ⟨fun t ht => ?_, fun p hp => ?_⟩, CR_cong h7 (fun i hi1 hi2 => ?_)⟩
    · have := h4.1
      rw [h49 _ (by omega)]; exact h6.1 t ht
    · have := h4.2.1
      rw [h49 _ (by omega)]; exact h6.2 p hp
    · exact h48 _ (by omega)
theorem RI_new {k : Nat} (hk : k < 2) {I M' : St} (hI : I.1 2 = nI 1) (hS : RS B V) (hM : RM M V) (hw : WF V) (hN : RNm B M V) (hC : CR N (M.2.2.1 6)) (h48 : ∀ j, j < 258 → M'.2.2.1 48 (258 * k + j) = M.2.2.1 6 j) (h49 : ∀ j, j < 13 → M'.2.2.2 49 (13 * k + j) = M.2.2.2 9 j) (h50 : M'.2.2.1 50 k = nI 1) : RI I N B M' k := by
  have w0 := hw.1
  have w1 := hw.2.1
  exact Or.inr ⟨hI, h50, V, hS, hw, fun j hj => by rw [h48 j (by omega)]; exact hM j hj, ⟨fun t ht => by rw [h49 t (by omega)]; exact hN.1 t ht, fun p hp => by rw [h49 (7 + p) (by omega)]; exact hN.2 p hp⟩, CR_cong hC (fun j h1 h2 => h48 j h2)⟩
theorem p_image (hS : RS B V) (hM : RM M V) (hw : WF V) (hN : RNm B M V) (hC : CR N (M.2.2.1 6)) (h0 : RI I0 IN0 IB0 M 0) (h1 : RI I1 IN1 IB1 M 1) (x : Int32) : ∃ r I0' IN0' IB0' I1' IN1' IB1' M', F_X11_image T IR I0 IN0 IB0 I1 IN1 IB1 N B x = some (r, I0', IN0', IB0', I1', IN1', IB1') ∧ F_X12_image M x = some (r, M') ∧ RI I0' IN0' IB0' M' 0 ∧ RI I1' IN1' IB1' M' 1 ∧ FR [0] [48, 50] [49] M M' := by
  rcases two_in x 0 1 (by omega) (by omega) with ⟨k, -, hk, rfl⟩ | ⟨i1, i2⟩ | ⟨i1, i2, i3, i4⟩
  · rcases (by omega : k = 0 ∨ k = 1) with rfl | rfl
    · obtain ⟨M', a1, a2, a3, a4, a5, a6, a7, a8⟩ := x12_image (M := M) (by omega : 0 < 2)
      refine ⟨nI 1, sI I0 2 (nI 1), N, B, I1, IN1, IB1, M', ?_, a1, RI_new (by omega) rfl hS hM hw hN hC a2 a4 a6, RI_keep (k := 0) (by omega) (by omega) (by omega) h1 a3 a5 a7, a8⟩
      unfold F_X11_image F_X8_copyN F_X7_copyN
      simp (disch := omega) only [↓pu_m1, pu_lit, ↓reduceIte, pu_leT, pu_leF, pu_ltT, pu_ltF, pu_eqT, pu_eqF, pu_eqO, pu_eqO2, pu_ltO, pu_leO, pu_subO, pu_subOF, pu_subT, pu_subF, pu_oobF, pu_clamp, pu_add, pu_sub, pu_mul, pu_and, pu_or, pu_xor, pu_xorO, pu_shl, pu_shr, pu_ushr, pu_nb0, pu_nb1, pu_ob1N, pu_ob2N, pu_ob3N, pu_ob4N, pu_nwN, pu_n1, pu_n7, pu_n31, pu_n255, pu_md, pu_one, pu_sI1, pu_sI2, pu_sA1, pu_sA21, pu_sA222, pu_sAe, pu_sAn, pu_sJ1, pu_sJ21, pu_sJ221, pu_sF1, pu_sF21, pu_sF222, pu_sFe, pu_sFn, pu_upe, pu_upn, Nat.reduceAdd, Nat.reduceSub, Nat.reduceMul, Nat.reduceMod, Nat.reduceAnd, Nat.reducePow, Nat.reduceEqDiff, Nat.add_zero, Nat.zero_add, Bool.false_eq_true, Nat.add_sub_cancel]
    · obtain ⟨M', a1, a2, a3, a4, a5, a6, a7, a8⟩ := x12_image (M := M) (by omega : 1 < 2)
      refine ⟨nI 1, I0, IN0, IB0, sI I1 2 (nI 1), N, B, M', ?_, a1, RI_keep (k := 1) (by omega) (by omega) (by omega) h0 a3 a5 a7, RI_new (by omega) rfl hS hM hw hN hC a2 a4 a6, a8⟩
      unfold F_X11_image F_X8_copyN F_X7_copyN
      simp (disch := omega) only [↓pu_m1, pu_lit, ↓reduceIte, pu_leT, pu_leF, pu_ltT, pu_ltF, pu_eqT, pu_eqF, pu_eqO, pu_eqO2, pu_ltO, pu_leO, pu_subO, pu_subOF, pu_subT, pu_subF, pu_oobF, pu_clamp, pu_add, pu_sub, pu_mul, pu_and, pu_or, pu_xor, pu_xorO, pu_shl, pu_shr, pu_ushr, pu_nb0, pu_nb1, pu_ob1N, pu_ob2N, pu_ob3N, pu_ob4N, pu_nwN, pu_n1, pu_n7, pu_n31, pu_n255, pu_md, pu_one, pu_sI1, pu_sI2, pu_sA1, pu_sA21, pu_sA222, pu_sAe, pu_sAn, pu_sJ1, pu_sJ21, pu_sJ221, pu_sF1, pu_sF21, pu_sF222, pu_sFe, pu_sFn, pu_upe, pu_upn, Nat.reduceAdd, Nat.reduceSub, Nat.reduceMul, Nat.reduceMod, Nat.reduceAnd, Nat.reducePow, Nat.reduceEqDiff, Nat.add_zero, Nat.zero_add, Bool.false_eq_true, Nat.add_sub_cancel]
  · refine ⟨nI 0, I0, IN0, IB0, I1, IN1, IB1, sI M 0 (nI 0), ?_, ?_, h0, h1, FR.sI (by decide)⟩
    · unfold F_X11_image
      simp (disch := omega) only [↓pu_m1, pu_lit, ↓reduceIte, pu_leT, pu_leF, pu_ltT, pu_ltF, pu_eqT, pu_eqF, pu_eqO, pu_eqO2, pu_ltO, pu_leO, pu_subO, pu_subOF, pu_subT, pu_subF, pu_oobF, pu_clamp, pu_add, pu_sub, pu_mul, pu_and, pu_or, pu_xor, pu_xorO, pu_shl, pu_shr, pu_ushr, pu_nb0, pu_nb1, pu_ob1N, pu_ob2N, pu_ob3N, pu_ob4N, pu_nwN, pu_n1, pu_n7, pu_n31, pu_n255, pu_md, pu_one, pu_sI1, pu_sI2, pu_sA1, pu_sA21, pu_sA222, pu_sAe, pu_sAn, pu_sJ1, pu_sJ21, pu_sJ221, pu_sF1, pu_sF21, pu_sF222, pu_sFe, pu_sFn, pu_upe, pu_upn, Nat.reduceAdd, Nat.reduceSub, Nat.reduceMul, Nat.reduceMod, Nat.reduceAnd, Nat.reducePow, Nat.reduceEqDiff, Nat.add_zero, Nat.zero_add, Bool.false_eq_true, Nat.add_sub_cancel, i1]
    · unfold F_X12_image
      simp (disch := omega) only [↓pu_m1, pu_lit, ↓reduceIte, pu_leT, pu_leF, pu_ltT, pu_ltF, pu_eqT, pu_eqF, pu_eqO, pu_eqO2, pu_ltO, pu_leO, pu_subO, pu_subOF, pu_subT, pu_subF, pu_oobF, pu_clamp, pu_add, pu_sub, pu_mul, pu_and, pu_or, pu_xor, pu_xorO, pu_shl, pu_shr, pu_ushr, pu_nb0, pu_nb1, pu_ob1N, pu_ob2N, pu_ob3N, pu_ob4N, pu_nwN, pu_n1, pu_n7, pu_n31, pu_n255, pu_md, pu_one, pu_sI1, pu_sI2, pu_sA1, pu_sA21, pu_sA222, pu_sAe, pu_sAn, pu_sJ1, pu_sJ21, pu_sJ221, pu_sF1, pu_sF21, pu_sF222, pu_sFe, pu_sFn, pu_upe, pu_upn, Nat.reduceAdd, Nat.reduceSub, Nat.reduceMul, Nat.reduceMod, Nat.reduceAnd, Nat.reducePow, Nat.reduceEqDiff, Nat.add_zero, Nat.zero_add, Bool.false_eq_true, Nat.add_sub_cancel, i2]
  · have i5 : ¬ x < nI 2 := by
      rw [Int32.lt_iff_toInt_lt, nI_toInt (by omega)] at i3 ⊢
      omega
    refine ⟨nI 0, I0, IN0, IB0, I1, IN1, IB1, sI M 0 (nI 0), ?_, ?_, h0, h1, FR.sI (by decide)⟩
    · unfold F_X11_image
      simp (disch := omega) only [↓pu_m1, pu_lit, ↓reduceIte, pu_leT, pu_leF, pu_ltT, pu_ltF, pu_eqT, pu_eqF, pu_eqO, pu_eqO2, pu_ltO, pu_leO, pu_subO, pu_subOF, pu_subT, pu_subF, pu_oobF, pu_clamp, pu_add, pu_sub, pu_mul, pu_and, pu_or, pu_xor, pu_xorO, pu_shl, pu_shr, pu_ushr, pu_nb0, pu_nb1, pu_ob1N, pu_ob2N, pu_ob3N, pu_ob4N, pu_nwN, pu_n1, pu_n7, pu_n31, pu_n255, pu_md, pu_one, pu_sI1, pu_sI2, pu_sA1, pu_sA21, pu_sA222, pu_sAe, pu_sAn, pu_sJ1, pu_sJ21, pu_sJ221, pu_sF1, pu_sF21, pu_sF222, pu_sFe, pu_sFn, pu_upe, pu_upn, Nat.reduceAdd, Nat.reduceSub, Nat.reduceMul, Nat.reduceMod, Nat.reduceAnd, Nat.reducePow, Nat.reduceEqDiff, Nat.add_zero, Nat.zero_add, Bool.false_eq_true, Nat.add_sub_cancel, i1, i5]
    · unfold F_X12_image
      simp (disch := omega) only [↓pu_m1, pu_lit, ↓reduceIte, pu_leT, pu_leF, pu_ltT, pu_ltF, pu_eqT, pu_eqF, pu_eqO, pu_eqO2, pu_ltO, pu_leO, pu_subO, pu_subOF, pu_subT, pu_subF, pu_oobF, pu_clamp, pu_add, pu_sub, pu_mul, pu_and, pu_or, pu_xor, pu_xorO, pu_shl, pu_shr, pu_ushr, pu_nb0, pu_nb1, pu_ob1N, pu_ob2N, pu_ob3N, pu_ob4N, pu_nwN, pu_n1, pu_n7, pu_n31, pu_n255, pu_md, pu_one, pu_sI1, pu_sI2, pu_sA1, pu_sA21, pu_sA222, pu_sAe, pu_sAn, pu_sJ1, pu_sJ21, pu_sJ221, pu_sF1, pu_sF21, pu_sF222, pu_sFe, pu_sFn, pu_upe, pu_upn, Nat.reduceAdd, Nat.reduceSub, Nat.reduceMul, Nat.reduceMod, Nat.reduceAnd, Nat.reducePow, Nat.reduceEqDiff, Nat.add_zero, Nat.zero_add, Bool.false_eq_true, Nat.add_sub_cancel, i4]
theorem x12_restore {k : Nat} (hk : k < 2) (h : M.2.2.1 50 k = nI 1) : ∃ M', F_X12_restore M (nI k) = some (nI 1, M') ∧ (∀ j, j < 258 → M'.2.2.1 6 j = M.2.2.1 48 (258 * k + j)) ∧ (∀ j, j < 13 → M'.2.2.2 9 j = M.2.2.2 49 (13 * k + j)) ∧ M'.1 22 = nI 0 ∧ FR [0, 22] [6] [9] M M' := by
  have i4 := in_ok (Nat.zero_le k) (by omega : k ≤ 1) (by omega)
  have k1 : L_X12_restore_27 (nI k) 0 (sI M 0 (nI 0)) = L_X12_restore_60 (nI k) 0 (sF (sI M 0 (nI 0)) 6 (cpR (M.2.2.1 6) 0 (fun j => M.2.2.1 48 (258 * k + j)) 258)) := by
    unfold L_X12_restore_27
    have key := lp_upO (body := fun kz z => F_X12_restore_27 kz z.1 z.2.1 z.2.2) (fun i => (nI k, nI i, sF (sI M 0 (nI 0)) 6 (cpR (M.2.2.1 6) 0 (fun j => M.2.2.1 48 (258 * k + j)) i))) 258 (o := L_X12_restore_60 (nI k) 0 (sF (sI M 0 (nI 0)) 6 (cpR (M.2.2.1 6) 0 (fun j => M.2.2.1 48 (258 * k + j)) 258))) (fun i hi kk => ?_) (fun kk => ?_) (pu_FU (by omega : 258 < 1000000))
    · rw [cpR0] at key
      have e : sF (sI M 0 (nI 0)) 6 (M.2.2.1 6) = sI M 0 (nI 0) := pu_sFsame (S := sI M 0 (nI 0)) (f := 6)
      rw [e] at key
      exact key
    · show F_X12_restore_27 kk (nI k) (nI i) _ = _
      unfold F_X12_restore_27
      have e := cpRs (M.2.2.1 6) 0 (fun j => M.2.2.1 48 (258 * k + j)) i
      rw [Nat.zero_add] at e
      simp (disch := omega) only [↓pu_m1, pu_lit, ↓reduceIte, pu_leT, pu_leF, pu_ltT, pu_ltF, pu_eqT, pu_eqF, pu_eqO, pu_eqO2, pu_ltO, pu_leO, pu_subO, pu_subOF, pu_subT, pu_subF, pu_oobF, pu_clamp, pu_add, pu_sub, pu_mul, pu_and, pu_or, pu_xor, pu_xorO, pu_shl, pu_shr, pu_ushr, pu_nb0, pu_nb1, pu_ob1N, pu_ob2N, pu_ob3N, pu_ob4N, pu_nwN, pu_n1, pu_n7, pu_n31, pu_n255, pu_md, pu_one, pu_sI1, pu_sI2, pu_sA1, pu_sA21, pu_sA222, pu_sAe, pu_sAn, pu_sJ1, pu_sJ21, pu_sJ221, pu_sF1, pu_sF21, pu_sF222, pu_sFe, pu_sFn, pu_upe, pu_upn, Nat.reduceAdd, Nat.reduceSub, Nat.reduceMul, Nat.reduceMod, Nat.reduceAnd, Nat.reducePow, Nat.reduceEqDiff, Nat.add_zero, Nat.zero_add, Bool.false_eq_true, Nat.add_sub_cancel, sA_sF, e]
    · show F_X12_restore_27 kk (nI k) (nI 258) _ = _
      unfold F_X12_restore_27
      rw [if_pos (by decide)]
  have key := lp_inv (body := fun kz z => F_X12_restore_60 kz z.1 z.2.1 z.2.2) (fun i z => ∃ M', z = (nI k, nI i, M') ∧ (∀ j, j < i → M'.2.2.2 9 j = M.2.2.2 49 (13 * k + j)) ∧ M'.2.2.1 = (sF (sI M 0 (nI 0)) 6 (cpR (M.2.2.1 6) 0 (fun j => M.2.2.1 48 (258 * k + j)) 258)).2.2.1 ∧ FR [0, 22] [6] [9] M M') 13 (fun o => o.1 = nI 1 ∧ (∀ j, j < 258 → o.2.2.2.1 6 j = M.2.2.1 48 (258 * k + j)) ∧ (∀ j, j < 13 → o.2.2.2.2 9 j = M.2.2.2 49 (13 * k + j)) ∧ o.2.1 22 = nI 0 ∧ FR [0, 22] [6] [9] M o.2) (fun i hi z hz => ?_) (fun z hz => ?_) (x0 := (nI k, nI 0, sF (sI M 0 (nI 0)) 6 (cpR (M.2.2.1 6) 0 (fun j => M.2.2.1 48 (258 * k + j)) 258))) ⟨_, rfl, fun j hj => by omega, rfl, (FR.sI (by decide)).tr (FR.sF (by decide))⟩ (pu_FU (by omega : 13 < 1000000))
  · obtain ⟨o, ⟨h1, h2⟩, h3⟩ := key
    refine ⟨o.2, ?_, h2⟩
    unfold F_X12_restore
    have k2 : L_X12_restore_27 (nI k) (nI 0) (sI M 0 (nI 0)) = some o := k1.trans h3
    simp (disch := omega) only [↓pu_m1, pu_lit, ↓reduceIte, pu_leT, pu_leF, pu_ltT, pu_ltF, pu_eqT, pu_eqF, pu_eqO, pu_eqO2, pu_ltO, pu_leO, pu_subO, pu_subOF, pu_subT, pu_subF, pu_oobF, pu_clamp, pu_add, pu_sub, pu_mul, pu_and, pu_or, pu_xor, pu_xorO, pu_shl, pu_shr, pu_ushr, pu_nb0, pu_nb1, pu_ob1N, pu_ob2N, pu_ob3N, pu_ob4N, pu_nwN, pu_n1, pu_n7, pu_n31, pu_n255, pu_md, pu_one, pu_sI1, pu_sI2, pu_sA1, pu_sA21, pu_sA222, pu_sAe, pu_sAn, pu_sJ1, pu_sJ21, pu_sJ221, pu_sF1, pu_sF21, pu_sF222, pu_sFe, pu_sFn, pu_upe, pu_upn, Nat.reduceAdd, Nat.reduceSub, Nat.reduceMul, Nat.reduceMod, Nat.reduceAnd, Nat.reducePow, Nat.reduceEqDiff, Nat.add_zero, Nat.zero_add, Bool.false_eq_true, Nat.add_sub_cancel, i4, h, k2]
    rw [← h1]
  · obtain ⟨M', rfl, a1, a3, a4⟩ := hz
    have g9 : M'.2.2.2 49 (13 * k + i) = M.2.2.2 49 (13 * k + i) := by rw [a4.2.2 49 (by decide)]
    refine ⟨(nI k, nI (i + 1), sJ M' 9 (nI i) (M.2.2.2 49 (13 * k + i))), ⟨_, rfl, fun j hj => ?_, a3, a4.tr (FR.sJ (by decide))⟩, fun kk => ?_⟩
    · rw [pu_sJe (by omega)]
      by_cases e : j = i
      · rw [if_pos e, e]
      · rw [if_neg e]; exact a1 j (by omega)
    · show F_X12_restore_60 kk (nI k) (nI i) M' = _
      unfold F_X12_restore_60
      simp (disch := omega) only [↓pu_m1, pu_lit, ↓reduceIte, pu_leT, pu_leF, pu_ltT, pu_ltF, pu_eqT, pu_eqF, pu_eqO, pu_eqO2, pu_ltO, pu_leO, pu_subO, pu_subOF, pu_subT, pu_subF, pu_oobF, pu_clamp, pu_add, pu_sub, pu_mul, pu_and, pu_or, pu_xor, pu_xorO, pu_shl, pu_shr, pu_ushr, pu_nb0, pu_nb1, pu_ob1N, pu_ob2N, pu_ob3N, pu_ob4N, pu_nwN, pu_n1, pu_n7, pu_n31, pu_n255, pu_md, pu_one, pu_sI1, pu_sI2, pu_sA1, pu_sA21, pu_sA222, pu_sAe, pu_sAn, pu_sJ1, pu_sJ21, pu_sJ221, pu_sF1, pu_sF21, pu_sF222, pu_sFe, pu_sFn, pu_upe, pu_upn, Nat.reduceAdd, Nat.reduceSub, Nat.reduceMul, Nat.reduceMod, Nat.reduceAnd, Nat.reducePow, Nat.reduceEqDiff, Nat.add_zero, Nat.zero_add, Bool.false_eq_true, Nat.add_sub_cancel, g9]
  · obtain ⟨M', rfl, a1, a3, a4⟩ := hz
    refine ⟨(nI 1, sI M' 22 (nI 0)), ⟨rfl, fun j hj => ?_, a1, rfl, a4.tr (FR.sI (by decide))⟩, fun kk => ?_⟩
    · show M'.2.2.1 6 j = _
      rw [a3, pu_sFe, cpR_in (by omega) (by omega), Nat.sub_zero]
    · show F_X12_restore_60 kk (nI k) (nI 13) M' = _
      unfold F_X12_restore_60
      simp (disch := omega) only [↓pu_m1, pu_lit, ↓reduceIte, pu_leT, pu_leF, pu_ltT, pu_ltF, pu_eqT, pu_eqF, pu_eqO, pu_eqO2, pu_ltO, pu_leO, pu_subO, pu_subOF, pu_subT, pu_subF, pu_oobF, pu_clamp, pu_add, pu_sub, pu_mul, pu_and, pu_or, pu_xor, pu_xorO, pu_shl, pu_shr, pu_ushr, pu_nb0, pu_nb1, pu_ob1N, pu_ob2N, pu_ob3N, pu_ob4N, pu_nwN, pu_n1, pu_n7, pu_n31, pu_n255, pu_md, pu_one, pu_sI1, pu_sI2, pu_sA1, pu_sA21, pu_sA222, pu_sAe, pu_sAn, pu_sJ1, pu_sJ21, pu_sJ221, pu_sF1, pu_sF21, pu_sF222, pu_sFe, pu_sFn, pu_upe, pu_upn, Nat.reduceAdd, Nat.reduceSub, Nat.reduceMul, Nat.reduceMod, Nat.reduceAnd, Nat.reducePow, Nat.reduceEqDiff, Nat.add_zero, Nat.zero_add, Bool.false_eq_true, Nat.add_sub_cancel]
theorem p_restore (hS : RS B V) (hM : RM M V) (hw : WF V) (hN : RNm B M V) (hC : CR N (M.2.2.1 6)) (hH : HR B H K M V) (h0 : RI I0 IN0 IB0 M 0) (h1 : RI I1 IN1 IB1 M 1) (x : Int32) : ∃ r H' N' B' M' V', F_X11_restore T H IR I0 IN0 IB0 I1 IN1 IB1 N B x = some (r, H', N', B') ∧ F_X12_restore M x = some (r, M') ∧ RS B' V' ∧ RM M' V' ∧ WF V' ∧ RNm B' M' V' ∧ CR N' (M'.2.2.1 6) ∧ HR B' H' K M' V' ∧ FR [0, 22] [6] [9] M M' := by
  have w0 := hw.1
  have hno : ∃ r, r = nI 0 ∧ RS B V ∧ RM (sI M 0 (nI 0)) V ∧ WF V ∧ RNm B (sI M 0 (nI 0)) V ∧ CR N ((sI M 0 (nI 0)).2.2.1 6) ∧ HR B H K (sI M 0 (nI 0)) V ∧ FR [0, 22] [6] [9] M (sI M 0 (nI 0)) := ⟨_, rfl, hS, RM_sI hM 0 _, hw, hN, hC, hH.fr (FR.sI (ni := [0]) (na := []) (nl := []) (by decide)) (by decide) (by decide), FR.sI (by decide)⟩
  obtain ⟨-, -, hno⟩ := hno
  have hyes : ∀ (k : Nat) (I IN IB : St), k < 2 → RI I IN IB M k → M.2.2.1 50 k = nI 1 → ∃ M' V', F_X12_restore M (nI k) = some (nI 1, M') ∧ RS IB V' ∧ RM M' V' ∧ WF V' ∧ RNm IB M' V' ∧ CR IN (M'.2.2.1 6) ∧ HR IB (sI H 2 0) K M' V' ∧ FR [0, 22] [6] [9] M M' ∧ I.1 2 = nI 1 := by
    intro k I IN IB hk hR h50
    obtain ⟨M', a1, a2, a3, a4, a5⟩ := x12_restore hk h50
    rcases hR with ⟨-, h2⟩ | ⟨hI, -, V', h3, h4, h5, h6, h7⟩
    · rw [h50] at h2; exact absurd h2 (by decide)
    · obtain ⟨H', b1, b2⟩ := x2_forget (S := IB) (H := H) (K := K) (M := M') (V := V') a4
      have b1 : sI H 2 0 = H' := by unfold F_X2_forget at b1; exact Option.some.inj b1
      have h40 := h4.1
      have h41 := h4.2.1
      refine ⟨M', V', a1, h3, fun j hj => by rw [a2 j (by omega)]; exact h5 j hj, h4, ⟨fun t ht => by rw [a3 t (by omega)]; exact h6.1 t ht, fun p hp => by rw [a3 (7 + p) (by omega)]; exact h6.2 p hp⟩, CR_cong h7 (fun j j1 j2 => a2 j j2), by rw [b1]; exact b2 hH.nx, a5, hI⟩
  rcases two_in x 0 1 (by omega) (by omega) with ⟨k, -, hk, rfl⟩ | ⟨i1, i2⟩ | ⟨i1, i2, i3, i4⟩
  · have i4 := in_ok (Nat.zero_le k) hk (by omega)
    rcases (by omega : k = 0 ∨ k = 1) with rfl | rfl
    · rcases h0 with ⟨c1, c2⟩ | hc
      · refine ⟨nI 0, H, N, B, sI M 0 (nI 0), V, ?_, ?_, hno⟩
        · unfold F_X11_restore
          simp (disch := omega) only [↓pu_m1, pu_lit, ↓reduceIte, pu_leT, pu_leF, pu_ltT, pu_ltF, pu_eqT, pu_eqF, pu_eqO, pu_eqO2, pu_ltO, pu_leO, pu_subO, pu_subOF, pu_subT, pu_subF, pu_oobF, pu_clamp, pu_add, pu_sub, pu_mul, pu_and, pu_or, pu_xor, pu_xorO, pu_shl, pu_shr, pu_ushr, pu_nb0, pu_nb1, pu_ob1N, pu_ob2N, pu_ob3N, pu_ob4N, pu_nwN, pu_n1, pu_n7, pu_n31, pu_n255, pu_md, pu_one, pu_sI1, pu_sI2, pu_sA1, pu_sA21, pu_sA222, pu_sAe, pu_sAn, pu_sJ1, pu_sJ21, pu_sJ221, pu_sF1, pu_sF21, pu_sF222, pu_sFe, pu_sFn, pu_upe, pu_upn, Nat.reduceAdd, Nat.reduceSub, Nat.reduceMul, Nat.reduceMod, Nat.reduceAnd, Nat.reducePow, Nat.reduceEqDiff, Nat.add_zero, Nat.zero_add, Bool.false_eq_true, Nat.add_sub_cancel, c1]
        · unfold F_X12_restore
          simp (disch := omega) only [↓pu_m1, pu_lit, ↓reduceIte, pu_leT, pu_leF, pu_ltT, pu_ltF, pu_eqT, pu_eqF, pu_eqO, pu_eqO2, pu_ltO, pu_leO, pu_subO, pu_subOF, pu_subT, pu_subF, pu_oobF, pu_clamp, pu_add, pu_sub, pu_mul, pu_and, pu_or, pu_xor, pu_xorO, pu_shl, pu_shr, pu_ushr, pu_nb0, pu_nb1, pu_ob1N, pu_ob2N, pu_ob3N, pu_ob4N, pu_nwN, pu_n1, pu_n7, pu_n31, pu_n255, pu_md, pu_one, pu_sI1, pu_sI2, pu_sA1, pu_sA21, pu_sA222, pu_sAe, pu_sAn, pu_sJ1, pu_sJ21, pu_sJ221, pu_sF1, pu_sF21, pu_sF222, pu_sFe, pu_sFn, pu_upe, pu_upn, Nat.reduceAdd, Nat.reduceSub, Nat.reduceMul, Nat.reduceMod, Nat.reduceAnd, Nat.reducePow, Nat.reduceEqDiff, Nat.add_zero, Nat.zero_add, Bool.false_eq_true, Nat.add_sub_cancel, i4, c2]
      · obtain ⟨M', V', a1, a2⟩ := hyes 0 I0 IN0 IB0 (by omega) (Or.inr hc) hc.2.1
        refine ⟨nI 1, sI H 2 0, IN0, IB0, M', V', ?_, a1, a2.1, a2.2.1, a2.2.2.1, a2.2.2.2.1, a2.2.2.2.2.1, a2.2.2.2.2.2.1, a2.2.2.2.2.2.2.1⟩
        have c1 := hc.1
        unfold F_X11_restore F_X8_copyN F_X7_copyN F_X2_forget
        simp (disch := omega) only [↓pu_m1, pu_lit, ↓reduceIte, pu_leT, pu_leF, pu_ltT, pu_ltF, pu_eqT, pu_eqF, pu_eqO, pu_eqO2, pu_ltO, pu_leO, pu_subO, pu_subOF, pu_subT, pu_subF, pu_oobF, pu_clamp, pu_add, pu_sub, pu_mul, pu_and, pu_or, pu_xor, pu_xorO, pu_shl, pu_shr, pu_ushr, pu_nb0, pu_nb1, pu_ob1N, pu_ob2N, pu_ob3N, pu_ob4N, pu_nwN, pu_n1, pu_n7, pu_n31, pu_n255, pu_md, pu_one, pu_sI1, pu_sI2, pu_sA1, pu_sA21, pu_sA222, pu_sAe, pu_sAn, pu_sJ1, pu_sJ21, pu_sJ221, pu_sF1, pu_sF21, pu_sF222, pu_sFe, pu_sFn, pu_upe, pu_upn, Nat.reduceAdd, Nat.reduceSub, Nat.reduceMul, Nat.reduceMod, Nat.reduceAnd, Nat.reducePow, Nat.reduceEqDiff, Nat.add_zero, Nat.zero_add, Bool.false_eq_true, Nat.add_sub_cancel, c1]
    · rcases h1 with ⟨c1, c2⟩ | hc
      · refine ⟨nI 0, H, N, B, sI M 0 (nI 0), V, ?_, ?_, hno⟩
        · unfold F_X11_restore
          simp (disch := omega) only [↓pu_m1, pu_lit, ↓reduceIte, pu_leT, pu_leF, pu_ltT, pu_ltF, pu_eqT, pu_eqF, pu_eqO, pu_eqO2, pu_ltO, pu_leO, pu_subO, pu_subOF, pu_subT, pu_subF, pu_oobF, pu_clamp, pu_add, pu_sub, pu_mul, pu_and, pu_or, pu_xor, pu_xorO, pu_shl, pu_shr, pu_ushr, pu_nb0, pu_nb1, pu_ob1N, pu_ob2N, pu_ob3N, pu_ob4N, pu_nwN, pu_n1, pu_n7, pu_n31, pu_n255, pu_md, pu_one, pu_sI1, pu_sI2, pu_sA1, pu_sA21, pu_sA222, pu_sAe, pu_sAn, pu_sJ1, pu_sJ21, pu_sJ221, pu_sF1, pu_sF21, pu_sF222, pu_sFe, pu_sFn, pu_upe, pu_upn, Nat.reduceAdd, Nat.reduceSub, Nat.reduceMul, Nat.reduceMod, Nat.reduceAnd, Nat.reducePow, Nat.reduceEqDiff, Nat.add_zero, Nat.zero_add, Bool.false_eq_true, Nat.add_sub_cancel, c1]
        · unfold F_X12_restore
          simp (disch := omega) only [↓pu_m1, pu_lit, ↓reduceIte, pu_leT, pu_leF, pu_ltT, pu_ltF, pu_eqT, pu_eqF, pu_eqO, pu_eqO2, pu_ltO, pu_leO, pu_subO, pu_subOF, pu_subT, pu_subF, pu_oobF, pu_clamp, pu_add, pu_sub, pu_mul, pu_and, pu_or, pu_xor, pu_xorO, pu_shl, pu_shr, pu_ushr, pu_nb0, pu_nb1, pu_ob1N, pu_ob2N, pu_ob3N, pu_ob4N, pu_nwN, pu_n1, pu_n7, pu_n31, pu_n255, pu_md, pu_one, pu_sI1, pu_sI2, pu_sA1, pu_sA21, pu_sA222, pu_sAe, pu_sAn, pu_sJ1, pu_sJ21, pu_sJ221, pu_sF1, pu_sF21, pu_sF222, pu_sFe, pu_sFn, pu_upe, pu_upn, Nat.reduceAdd, Nat.reduceSub, Nat.reduceMul, Nat.reduceMod, Nat.reduceAnd, Nat.reducePow, Nat.reduceEqDiff, Nat.add_zero, Nat.zero_add, Bool.false_eq_true, Nat.add_sub_cancel, i4, c2]
      · obtain ⟨M', V', a1, a2⟩ := hyes 1 I1 IN1 IB1 (by omega) (Or.inr hc) hc.2.1
        refine ⟨nI 1, sI H 2 0, IN1, IB1, M', V', ?_, a1, a2.1, a2.2.1, a2.2.2.1, a2.2.2.2.1, a2.2.2.2.2.1, a2.2.2.2.2.2.1, a2.2.2.2.2.2.2.1⟩
        have c1 := hc.1
        unfold F_X11_restore F_X8_copyN F_X7_copyN F_X2_forget
        simp (disch := omega) only [↓pu_m1, pu_lit, ↓reduceIte, pu_leT, pu_leF, pu_ltT, pu_ltF, pu_eqT, pu_eqF, pu_eqO, pu_eqO2, pu_ltO, pu_leO, pu_subO, pu_subOF, pu_subT, pu_subF, pu_oobF, pu_clamp, pu_add, pu_sub, pu_mul, pu_and, pu_or, pu_xor, pu_xorO, pu_shl, pu_shr, pu_ushr, pu_nb0, pu_nb1, pu_ob1N, pu_ob2N, pu_ob3N, pu_ob4N, pu_nwN, pu_n1, pu_n7, pu_n31, pu_n255, pu_md, pu_one, pu_sI1, pu_sI2, pu_sA1, pu_sA21, pu_sA222, pu_sAe, pu_sAn, pu_sJ1, pu_sJ21, pu_sJ221, pu_sF1, pu_sF21, pu_sF222, pu_sFe, pu_sFn, pu_upe, pu_upn, Nat.reduceAdd, Nat.reduceSub, Nat.reduceMul, Nat.reduceMod, Nat.reduceAnd, Nat.reducePow, Nat.reduceEqDiff, Nat.add_zero, Nat.zero_add, Bool.false_eq_true, Nat.add_sub_cancel, c1]
  · refine ⟨nI 0, H, N, B, sI M 0 (nI 0), V, ?_, ?_, hno⟩
    · unfold F_X11_restore
      simp (disch := omega) only [↓pu_m1, pu_lit, ↓reduceIte, pu_leT, pu_leF, pu_ltT, pu_ltF, pu_eqT, pu_eqF, pu_eqO, pu_eqO2, pu_ltO, pu_leO, pu_subO, pu_subOF, pu_subT, pu_subF, pu_oobF, pu_clamp, pu_add, pu_sub, pu_mul, pu_and, pu_or, pu_xor, pu_xorO, pu_shl, pu_shr, pu_ushr, pu_nb0, pu_nb1, pu_ob1N, pu_ob2N, pu_ob3N, pu_ob4N, pu_nwN, pu_n1, pu_n7, pu_n31, pu_n255, pu_md, pu_one, pu_sI1, pu_sI2, pu_sA1, pu_sA21, pu_sA222, pu_sAe, pu_sAn, pu_sJ1, pu_sJ21, pu_sJ221, pu_sF1, pu_sF21, pu_sF222, pu_sFe, pu_sFn, pu_upe, pu_upn, Nat.reduceAdd, Nat.reduceSub, Nat.reduceMul, Nat.reduceMod, Nat.reduceAnd, Nat.reducePow, Nat.reduceEqDiff, Nat.add_zero, Nat.zero_add, Bool.false_eq_true, Nat.add_sub_cancel, i1]
    · unfold F_X12_restore
      simp (disch := omega) only [↓pu_m1, pu_lit, ↓reduceIte, pu_leT, pu_leF, pu_ltT, pu_ltF, pu_eqT, pu_eqF, pu_eqO, pu_eqO2, pu_ltO, pu_leO, pu_subO, pu_subOF, pu_subT, pu_subF, pu_oobF, pu_clamp, pu_add, pu_sub, pu_mul, pu_and, pu_or, pu_xor, pu_xorO, pu_shl, pu_shr, pu_ushr, pu_nb0, pu_nb1, pu_ob1N, pu_ob2N, pu_ob3N, pu_ob4N, pu_nwN, pu_n1, pu_n7, pu_n31, pu_n255, pu_md, pu_one, pu_sI1, pu_sI2, pu_sA1, pu_sA21, pu_sA222, pu_sAe, pu_sAn, pu_sJ1, pu_sJ21, pu_sJ221, pu_sF1, pu_sF21, pu_sF222, pu_sFe, pu_sFn, pu_upe, pu_upn, Nat.reduceAdd, Nat.reduceSub, Nat.reduceMul, Nat.reduceMod, Nat.reduceAnd, Nat.reducePow, Nat.reduceEqDiff, Nat.add_zero, Nat.zero_add, Bool.false_eq_true, Nat.add_sub_cancel, i2]
  · have i5 : nI 2 ≤ x := by
      rw [Int32.lt_iff_toInt_lt, nI_toInt (by omega)] at i3
      rw [Int32.le_iff_toInt_le, nI_toInt (by omega)]
      omega
    refine ⟨nI 0, H, N, B, sI M 0 (nI 0), V, ?_, ?_, hno⟩
    · unfold F_X11_restore
      simp (disch := omega) only [↓pu_m1, pu_lit, ↓reduceIte, pu_leT, pu_leF, pu_ltT, pu_ltF, pu_eqT, pu_eqF, pu_eqO, pu_eqO2, pu_ltO, pu_leO, pu_subO, pu_subOF, pu_subT, pu_subF, pu_oobF, pu_clamp, pu_add, pu_sub, pu_mul, pu_and, pu_or, pu_xor, pu_xorO, pu_shl, pu_shr, pu_ushr, pu_nb0, pu_nb1, pu_ob1N, pu_ob2N, pu_ob3N, pu_ob4N, pu_nwN, pu_n1, pu_n7, pu_n31, pu_n255, pu_md, pu_one, pu_sI1, pu_sI2, pu_sA1, pu_sA21, pu_sA222, pu_sAe, pu_sAn, pu_sJ1, pu_sJ21, pu_sJ221, pu_sF1, pu_sF21, pu_sF222, pu_sFe, pu_sFn, pu_upe, pu_upn, Nat.reduceAdd, Nat.reduceSub, Nat.reduceMul, Nat.reduceMod, Nat.reduceAnd, Nat.reducePow, Nat.reduceEqDiff, Nat.add_zero, Nat.zero_add, Bool.false_eq_true, Nat.add_sub_cancel, i1, i5]
    · unfold F_X12_restore
      simp (disch := omega) only [↓pu_m1, pu_lit, ↓reduceIte, pu_leT, pu_leF, pu_ltT, pu_ltF, pu_eqT, pu_eqF, pu_eqO, pu_eqO2, pu_ltO, pu_leO, pu_subO, pu_subOF, pu_subT, pu_subF, pu_oobF, pu_clamp, pu_add, pu_sub, pu_mul, pu_and, pu_or, pu_xor, pu_xorO, pu_shl, pu_shr, pu_ushr, pu_nb0, pu_nb1, pu_ob1N, pu_ob2N, pu_ob3N, pu_ob4N, pu_nwN, pu_n1, pu_n7, pu_n31, pu_n255, pu_md, pu_one, pu_sI1, pu_sI2, pu_sA1, pu_sA21, pu_sA222, pu_sAe, pu_sAn, pu_sJ1, pu_sJ21, pu_sJ221, pu_sF1, pu_sF21, pu_sF222, pu_sFe, pu_sFn, pu_upe, pu_upn, Nat.reduceAdd, Nat.reduceSub, Nat.reduceMul, Nat.reduceMod, Nat.reduceAnd, Nat.reducePow, Nat.reduceEqDiff, Nat.add_zero, Nat.zero_add, Bool.false_eq_true, Nat.add_sub_cancel, i4]
end P21
