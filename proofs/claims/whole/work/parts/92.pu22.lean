/-! the lines of a book, lived -/
def LR (V : Vt) (G M : St) (i : Nat) : Prop := ∃ a f s v, 17 ≤ a ∧ a ≤ 23 ∧ G.2.2.1 0 i = nI a ∧ G.2.2.1 1 i = nI f ∧ M.2.2.1 8 (4 * i) = nI (a - 17) ∧ M.2.2.1 8 (4 * i + 1) = nI f ∧ (a = 17 → f < V 1 ∧ s < V 0 ∧ G.2.2.1 2 i = nI s ∧ M.2.2.1 8 (4 * i + 2) = nI s) ∧ (a = 18 → f < V 1) ∧ (a = 19 → f < V 1 ∧ s < V 1 ∧ v < 8 ∧ G.2.2.1 2 i = nI s ∧ M.2.2.1 8 (4 * i + 2) = nI s ∧ G.2.2.1 3 i = nI v ∧ M.2.2.1 8 (4 * i + 3) = nI v) ∧ (a = 20 → f ≤ 60) ∧ (a = 21 ∨ a = 22 → f < V 0) ∧ (a = 23 → f ≤ 60)
section P22
variable {T B H M N G S : St} {K : KSt} {V W : Vt}
theorem x12_does_end (a w : Nat) (hw : w < 10) (ha : a ≤ 6) (M' : St) : F_X12_does_244 (nI a) (nI w) M' = some (nI (if w = 0 then 0 else 10 * a + w), M') := by
  unfold F_X12_does_244
  by_cases h : w = 0
  · rw [if_pos h]
    simp (disch := omega) only [↓pu_m1, pu_lit, ↓reduceIte, pu_leT, pu_leF, pu_ltT, pu_ltF, pu_eqT, pu_eqF, pu_eqO, pu_eqO2, pu_ltO, pu_leO, pu_subO, pu_subOF, pu_subT, pu_subF, pu_oobF, pu_clamp, pu_add, pu_sub, pu_mul, pu_and, pu_or, pu_xor, pu_xorO, pu_shl, pu_shr, pu_ushr, pu_nb0, pu_nb1, pu_ob1N, pu_ob2N, pu_ob3N, pu_ob4N, pu_nwN, pu_n1, pu_n7, pu_n31, pu_n255, pu_md, pu_one, pu_sI1, pu_sI2, pu_sA1, pu_sA21, pu_sA222, pu_sAe, pu_sAn, pu_sJ1, pu_sJ21, pu_sJ221, pu_sF1, pu_sF21, pu_sF222, pu_sFe, pu_sFn, pu_upe, pu_upn, Nat.reduceAdd, Nat.reduceSub, Nat.reduceMul, Nat.reduceMod, Nat.reduceAnd, Nat.reducePow, Nat.reduceEqDiff, Nat.add_zero, Nat.zero_add, Bool.false_eq_true, Nat.add_sub_cancel, h]
  · rw [if_neg h]
    simp (disch := omega) only [↓pu_m1, pu_lit, ↓reduceIte, pu_leT, pu_leF, pu_ltT, pu_ltF, pu_eqT, pu_eqF, pu_eqO, pu_eqO2, pu_ltO, pu_leO, pu_subO, pu_subOF, pu_subT, pu_subF, pu_oobF, pu_clamp, pu_add, pu_sub, pu_mul, pu_and, pu_or, pu_xor, pu_xorO, pu_shl, pu_shr, pu_ushr, pu_nb0, pu_nb1, pu_ob1N, pu_ob2N, pu_ob3N, pu_ob4N, pu_nwN, pu_n1, pu_n7, pu_n31, pu_n255, pu_md, pu_one, pu_sI1, pu_sI2, pu_sA1, pu_sA21, pu_sA222, pu_sAe, pu_sAn, pu_sJ1, pu_sJ21, pu_sJ221, pu_sF1, pu_sF21, pu_sF222, pu_sFe, pu_sFn, pu_upe, pu_upn, Nat.reduceAdd, Nat.reduceSub, Nat.reduceMul, Nat.reduceMod, Nat.reduceAnd, Nat.reducePow, Nat.reduceEqDiff, Nat.add_zero, Nat.zero_add, Bool.false_eq_true, Nat.add_sub_cancel, h]
theorem x0_sort (a w : Nat) (hw : w < 10) (ha : a ≤ 6) : F_X0_ofSort (nI (10 * a)) (nI w) = some (nI (if w = 0 then 0 else 10 * a + w)) := by
  unfold F_X0_ofSort
  by_cases h : w = 0
  · rw [if_pos h]
    simp (disch := omega) only [↓pu_m1, pu_lit, ↓reduceIte, pu_leT, pu_leF, pu_ltT, pu_ltF, pu_eqT, pu_eqF, pu_eqO, pu_eqO2, pu_ltO, pu_leO, pu_subO, pu_subOF, pu_subT, pu_subF, pu_oobF, pu_clamp, pu_add, pu_sub, pu_mul, pu_and, pu_or, pu_xor, pu_xorO, pu_shl, pu_shr, pu_ushr, pu_nb0, pu_nb1, pu_ob1N, pu_ob2N, pu_ob3N, pu_ob4N, pu_nwN, pu_n1, pu_n7, pu_n31, pu_n255, pu_md, pu_one, pu_sI1, pu_sI2, pu_sA1, pu_sA21, pu_sA222, pu_sAe, pu_sAn, pu_sJ1, pu_sJ21, pu_sJ221, pu_sF1, pu_sF21, pu_sF222, pu_sFe, pu_sFn, pu_upe, pu_upn, Nat.reduceAdd, Nat.reduceSub, Nat.reduceMul, Nat.reduceMod, Nat.reduceAnd, Nat.reducePow, Nat.reduceEqDiff, Nat.add_zero, Nat.zero_add, Bool.false_eq_true, Nat.add_sub_cancel, h]
  · rw [if_neg h]
    simp (disch := omega) only [↓pu_m1, pu_lit, ↓reduceIte, pu_leT, pu_leF, pu_ltT, pu_ltF, pu_eqT, pu_eqF, pu_eqO, pu_eqO2, pu_ltO, pu_leO, pu_subO, pu_subOF, pu_subT, pu_subF, pu_oobF, pu_clamp, pu_add, pu_sub, pu_mul, pu_and, pu_or, pu_xor, pu_xorO, pu_shl, pu_shr, pu_ushr, pu_nb0, pu_nb1, pu_ob1N, pu_ob2N, pu_ob3N, pu_ob4N, pu_nwN, pu_n1, pu_n7, pu_n31, pu_n255, pu_md, pu_one, pu_sI1, pu_sI2, pu_sA1, pu_sA21, pu_sA222, pu_sAe, pu_sAn, pu_sJ1, pu_sJ21, pu_sJ221, pu_sF1, pu_sF21, pu_sF222, pu_sFe, pu_sFn, pu_upe, pu_upn, Nat.reduceAdd, Nat.reduceSub, Nat.reduceMul, Nat.reduceMod, Nat.reduceAnd, Nat.reducePow, Nat.reduceEqDiff, Nat.add_zero, Nat.zero_add, Bool.false_eq_true, Nat.add_sub_cancel, h]
/-- one line -/
theorem live1 {i : Nat} (hS : RS S W) (hM : RM M W) (hw : WF W) (hv : SV V W) (hi : i < 40) (h : LR V G M i) : ∃ w S' M' W', F_X0_liveLine G S (nI i) = some (nI w, S') ∧ F_X12_does M (M.2.2.1 8 (4 * i)) (M.2.2.1 8 (4 * i + 1)) (M.2.2.1 8 (4 * i + 2)) (M.2.2.1 8 (4 * i + 3)) = some (nI w, M') ∧ w < 100 ∧ CS S S' W' ∧ MS M M' W' ∧ WF W' ∧ SV W W' := by
  obtain ⟨a, f, s, v, a1, a2, a3, a4, a5, a6, a7, a8, a9, a10, a11, a12⟩ := h
  have w0 := hw.1
  have w1 := hw.2.1
  have w42 := hw.2.2.2.2.1
  rw [← hv 0 (by omega)] at a7 a11
  rw [← hv 1 (by omega)] at a7 a8 a9
  rw [a5, a6]
  unfold F_X0_liveLine F_X12_does
  rcases (by omega : a = 17 ∨ a = 18 ∨ a = 19 ∨ a = 20 ∨ a = 21 ∨ a = 22 ∨ a = 23) with e | e | e | e | e | e | e <;> subst e
  · obtain ⟨b1, b2, b3, b4⟩ := a7 rfl
    obtain ⟨S', c1, c2⟩ := x8_goUp hS hw b1 b2
    have c3 := x12_whyC hM hw b1 b2
    have hl := whyC_le W f s
    have hs := x0_sort 0 (whyC W f s) (by omega) (by omega)
    have he := fun M' => x12_does_end 0 (whyC W f s) (by omega) (by omega) M'
    rw [b4]
    by_cases hy : whyC W f s = 0
    · obtain ⟨M', d1, d2⟩ := x12_climbs hM hw b1 b2
      rw [if_pos hy] at c2
      rw [hy] at c1 c3 hs he
      refine ⟨0, S', M', clV W f s, ?_, ?_, by omega, c2, d2, clV_WF hw b1 b2, clV_SV f s⟩
      · simp (disch := omega) only [↓pu_m1, pu_lit, ↓reduceIte, pu_leT, pu_leF, pu_ltT, pu_ltF, pu_eqT, pu_eqF, pu_eqO, pu_eqO2, pu_ltO, pu_leO, pu_subO, pu_subOF, pu_subT, pu_subF, pu_oobF, pu_clamp, pu_add, pu_sub, pu_mul, pu_and, pu_or, pu_xor, pu_xorO, pu_shl, pu_shr, pu_ushr, pu_nb0, pu_nb1, pu_ob1N, pu_ob2N, pu_ob3N, pu_ob4N, pu_nwN, pu_n1, pu_n7, pu_n31, pu_n255, pu_md, pu_one, pu_sI1, pu_sI2, pu_sA1, pu_sA21, pu_sA222, pu_sAe, pu_sAn, pu_sJ1, pu_sJ21, pu_sJ221, pu_sF1, pu_sF21, pu_sF222, pu_sFe, pu_sFn, pu_upe, pu_upn, Nat.reduceAdd, Nat.reduceSub, Nat.reduceMul, Nat.reduceMod, Nat.reduceAnd, Nat.reducePow, Nat.reduceEqDiff, Nat.add_zero, Nat.zero_add, Bool.false_eq_true, Nat.add_sub_cancel, a3, a4, b3, c1, hs]
      · simp (disch := omega) only [↓pu_m1, pu_lit, ↓reduceIte, pu_leT, pu_leF, pu_ltT, pu_ltF, pu_eqT, pu_eqF, pu_eqO, pu_eqO2, pu_ltO, pu_leO, pu_subO, pu_subOF, pu_subT, pu_subF, pu_oobF, pu_clamp, pu_add, pu_sub, pu_mul, pu_and, pu_or, pu_xor, pu_xorO, pu_shl, pu_shr, pu_ushr, pu_nb0, pu_nb1, pu_ob1N, pu_ob2N, pu_ob3N, pu_ob4N, pu_nwN, pu_n1, pu_n7, pu_n31, pu_n255, pu_md, pu_one, pu_sI1, pu_sI2, pu_sA1, pu_sA21, pu_sA222, pu_sAe, pu_sAn, pu_sJ1, pu_sJ21, pu_sJ221, pu_sF1, pu_sF21, pu_sF222, pu_sFe, pu_sFn, pu_upe, pu_upn, Nat.reduceAdd, Nat.reduceSub, Nat.reduceMul, Nat.reduceMod, Nat.reduceAnd, Nat.reducePow, Nat.reduceEqDiff, Nat.add_zero, Nat.zero_add, Bool.false_eq_true, Nat.add_sub_cancel, c3, d1, he]
    · rw [if_neg hy] at c2
      rw [if_neg hy] at hs
      refine ⟨10 * 0 + whyC W f s, S', M, W, ?_, ?_, by omega, c2, MS.rf hM, hw, SV.rf⟩
      · simp (disch := omega) only [↓pu_m1, pu_lit, ↓reduceIte, pu_leT, pu_leF, pu_ltT, pu_ltF, pu_eqT, pu_eqF, pu_eqO, pu_eqO2, pu_ltO, pu_leO, pu_subO, pu_subOF, pu_subT, pu_subF, pu_oobF, pu_clamp, pu_add, pu_sub, pu_mul, pu_and, pu_or, pu_xor, pu_xorO, pu_shl, pu_shr, pu_ushr, pu_nb0, pu_nb1, pu_ob1N, pu_ob2N, pu_ob3N, pu_ob4N, pu_nwN, pu_n1, pu_n7, pu_n31, pu_n255, pu_md, pu_one, pu_sI1, pu_sI2, pu_sA1, pu_sA21, pu_sA222, pu_sAe, pu_sAn, pu_sJ1, pu_sJ21, pu_sJ221, pu_sF1, pu_sF21, pu_sF222, pu_sFe, pu_sFn, pu_upe, pu_upn, Nat.reduceAdd, Nat.reduceSub, Nat.reduceMul, Nat.reduceMod, Nat.reduceAnd, Nat.reducePow, Nat.reduceEqDiff, Nat.add_zero, Nat.zero_add, Bool.false_eq_true, Nat.add_sub_cancel, a3, a4, b3, c1, hs]
      · have he2 := he M
        rw [if_neg hy] at he2
        simp (disch := omega) only [↓pu_m1, pu_lit, ↓reduceIte, pu_leT, pu_leF, pu_ltT, pu_ltF, pu_eqT, pu_eqF, pu_eqO, pu_eqO2, pu_ltO, pu_leO, pu_subO, pu_subOF, pu_subT, pu_subF, pu_oobF, pu_clamp, pu_add, pu_sub, pu_mul, pu_and, pu_or, pu_xor, pu_xorO, pu_shl, pu_shr, pu_ushr, pu_nb0, pu_nb1, pu_ob1N, pu_ob2N, pu_ob3N, pu_ob4N, pu_nwN, pu_n1, pu_n7, pu_n31, pu_n255, pu_md, pu_one, pu_sI1, pu_sI2, pu_sA1, pu_sA21, pu_sA222, pu_sAe, pu_sAn, pu_sJ1, pu_sJ21, pu_sJ221, pu_sF1, pu_sF21, pu_sF222, pu_sFe, pu_sFn, pu_upe, pu_upn, Nat.reduceAdd, Nat.reduceSub, Nat.reduceMul, Nat.reduceMod, Nat.reduceAnd, Nat.reducePow, Nat.reduceEqDiff, Nat.add_zero, Nat.zero_add, Bool.false_eq_true, Nat.add_sub_cancel, c3, hy, he2]
  · have b1 := a8 rfl
    obtain ⟨S', c1, c2⟩ := x8_comeDown hS hw b1
    have c3 := x12_up hM hw b1
    have hM2 := MS.up hM (k := 65 + f) (v := 0) (by omega)
    by_cases hy : W (65 + f) = 0
    · rw [if_pos hy] at c1 c3
      have hs := x0_sort 1 1 (by omega) (by omega)
      have he := x12_does_end 1 1 (by omega) (by omega) (sA M 6 (nI (65 + f)) (nI 0))
      refine ⟨11, S', _, _, ?_, ?_, by omega, c2, hM2, WF_65 hw b1 (by omega), SV.rf.up (by omega)⟩
      · simp (disch := omega) only [↓pu_m1, pu_lit, ↓reduceIte, pu_leT, pu_leF, pu_ltT, pu_ltF, pu_eqT, pu_eqF, pu_eqO, pu_eqO2, pu_ltO, pu_leO, pu_subO, pu_subOF, pu_subT, pu_subF, pu_oobF, pu_clamp, pu_add, pu_sub, pu_mul, pu_and, pu_or, pu_xor, pu_xorO, pu_shl, pu_shr, pu_ushr, pu_nb0, pu_nb1, pu_ob1N, pu_ob2N, pu_ob3N, pu_ob4N, pu_nwN, pu_n1, pu_n7, pu_n31, pu_n255, pu_md, pu_one, pu_sI1, pu_sI2, pu_sA1, pu_sA21, pu_sA222, pu_sAe, pu_sAn, pu_sJ1, pu_sJ21, pu_sJ221, pu_sF1, pu_sF21, pu_sF222, pu_sFe, pu_sFn, pu_upe, pu_upn, Nat.reduceAdd, Nat.reduceSub, Nat.reduceMul, Nat.reduceMod, Nat.reduceAnd, Nat.reducePow, Nat.reduceEqDiff, Nat.add_zero, Nat.zero_add, Bool.false_eq_true, Nat.add_sub_cancel, a3, a4, c1, hs]
      · unfold F_X12_does_79
        simp (disch := omega) only [↓pu_m1, pu_lit, ↓reduceIte, pu_leT, pu_leF, pu_ltT, pu_ltF, pu_eqT, pu_eqF, pu_eqO, pu_eqO2, pu_ltO, pu_leO, pu_subO, pu_subOF, pu_subT, pu_subF, pu_oobF, pu_clamp, pu_add, pu_sub, pu_mul, pu_and, pu_or, pu_xor, pu_xorO, pu_shl, pu_shr, pu_ushr, pu_nb0, pu_nb1, pu_ob1N, pu_ob2N, pu_ob3N, pu_ob4N, pu_nwN, pu_n1, pu_n7, pu_n31, pu_n255, pu_md, pu_one, pu_sI1, pu_sI2, pu_sA1, pu_sA21, pu_sA222, pu_sAe, pu_sAn, pu_sJ1, pu_sJ21, pu_sJ221, pu_sF1, pu_sF21, pu_sF222, pu_sFe, pu_sFn, pu_upe, pu_upn, Nat.reduceAdd, Nat.reduceSub, Nat.reduceMul, Nat.reduceMod, Nat.reduceAnd, Nat.reducePow, Nat.reduceEqDiff, Nat.add_zero, Nat.zero_add, Bool.false_eq_true, Nat.add_sub_cancel, c3, he]
    · rw [if_neg hy] at c1 c3
      have hs := x0_sort 1 0 (by omega) (by omega)
      have he := x12_does_end 1 0 (by omega) (by omega) (sA M 6 (nI (65 + f)) (nI 0))
      refine ⟨0, S', _, _, ?_, ?_, by omega, c2, hM2, WF_65 hw b1 (by omega), SV.rf.up (by omega)⟩
      · simp (disch := omega) only [↓pu_m1, pu_lit, ↓reduceIte, pu_leT, pu_leF, pu_ltT, pu_ltF, pu_eqT, pu_eqF, pu_eqO, pu_eqO2, pu_ltO, pu_leO, pu_subO, pu_subOF, pu_subT, pu_subF, pu_oobF, pu_clamp, pu_add, pu_sub, pu_mul, pu_and, pu_or, pu_xor, pu_xorO, pu_shl, pu_shr, pu_ushr, pu_nb0, pu_nb1, pu_ob1N, pu_ob2N, pu_ob3N, pu_ob4N, pu_nwN, pu_n1, pu_n7, pu_n31, pu_n255, pu_md, pu_one, pu_sI1, pu_sI2, pu_sA1, pu_sA21, pu_sA222, pu_sAe, pu_sAn, pu_sJ1, pu_sJ21, pu_sJ221, pu_sF1, pu_sF21, pu_sF222, pu_sFe, pu_sFn, pu_upe, pu_upn, Nat.reduceAdd, Nat.reduceSub, Nat.reduceMul, Nat.reduceMod, Nat.reduceAnd, Nat.reducePow, Nat.reduceEqDiff, Nat.add_zero, Nat.zero_add, Bool.false_eq_true, Nat.add_sub_cancel, a3, a4, c1, hs]
      · unfold F_X12_does_79
        simp (disch := omega) only [↓pu_m1, pu_lit, ↓reduceIte, pu_leT, pu_leF, pu_ltT, pu_ltF, pu_eqT, pu_eqF, pu_eqO, pu_eqO2, pu_ltO, pu_leO, pu_subO, pu_subOF, pu_subT, pu_subF, pu_oobF, pu_clamp, pu_add, pu_sub, pu_mul, pu_and, pu_or, pu_xor, pu_xorO, pu_shl, pu_shr, pu_ushr, pu_nb0, pu_nb1, pu_ob1N, pu_ob2N, pu_ob3N, pu_ob4N, pu_nwN, pu_n1, pu_n7, pu_n31, pu_n255, pu_md, pu_one, pu_sI1, pu_sI2, pu_sA1, pu_sA21, pu_sA222, pu_sAe, pu_sAn, pu_sJ1, pu_sJ21, pu_sJ221, pu_sF1, pu_sF21, pu_sF222, pu_sFe, pu_sFn, pu_upe, pu_upn, Nat.reduceAdd, Nat.reduceSub, Nat.reduceMul, Nat.reduceMod, Nat.reduceAnd, Nat.reducePow, Nat.reduceEqDiff, Nat.add_zero, Nat.zero_add, Bool.false_eq_true, Nat.add_sub_cancel, c3, he]
  · obtain ⟨b1, b2, b3, b4, b5, b6, b7⟩ := a9 rfl
    obtain ⟨S', c1, c2⟩ := x8_passOn hS hw b1 b2 b3
    have c3 := x12_whyT hM hw b1 b2 b3
    have hl := whyT_le W f s v
    have hs := x0_sort 2 (whyT W f s v) (by omega) (by omega)
    have he := fun M' => x12_does_end 2 (whyT W f s v) (by omega) (by omega) M'
    have g59 := hM (59 + s) (by omega)
    have hh := x12_hav (hw.2.2.2.2.2.2.2.2.1 s b2) b3
    rw [b5, b7]
    by_cases hy : whyT W f s v = 0
    · rw [if_pos hy] at c2
      rw [hy] at c1 c3 hs he
      refine ⟨0, S', sA M 6 (nI (59 + s)) (nI (hav (W (59 + s)) v)), teV W s v, ?_, ?_, by omega, c2, MS.up hM (by omega), teV_WF hw b2 b3, SV.rf.up (by omega)⟩
      · simp (disch := omega) only [↓pu_m1, pu_lit, ↓reduceIte, pu_leT, pu_leF, pu_ltT, pu_ltF, pu_eqT, pu_eqF, pu_eqO, pu_eqO2, pu_ltO, pu_leO, pu_subO, pu_subOF, pu_subT, pu_subF, pu_oobF, pu_clamp, pu_add, pu_sub, pu_mul, pu_and, pu_or, pu_xor, pu_xorO, pu_shl, pu_shr, pu_ushr, pu_nb0, pu_nb1, pu_ob1N, pu_ob2N, pu_ob3N, pu_ob4N, pu_nwN, pu_n1, pu_n7, pu_n31, pu_n255, pu_md, pu_one, pu_sI1, pu_sI2, pu_sA1, pu_sA21, pu_sA222, pu_sAe, pu_sAn, pu_sJ1, pu_sJ21, pu_sJ221, pu_sF1, pu_sF21, pu_sF222, pu_sFe, pu_sFn, pu_upe, pu_upn, Nat.reduceAdd, Nat.reduceSub, Nat.reduceMul, Nat.reduceMod, Nat.reduceAnd, Nat.reducePow, Nat.reduceEqDiff, Nat.add_zero, Nat.zero_add, Bool.false_eq_true, Nat.add_sub_cancel, a3, a4, b4, b6, c1, hs]
      · simp (disch := omega) only [↓pu_m1, pu_lit, ↓reduceIte, pu_leT, pu_leF, pu_ltT, pu_ltF, pu_eqT, pu_eqF, pu_eqO, pu_eqO2, pu_ltO, pu_leO, pu_subO, pu_subOF, pu_subT, pu_subF, pu_oobF, pu_clamp, pu_add, pu_sub, pu_mul, pu_and, pu_or, pu_xor, pu_xorO, pu_shl, pu_shr, pu_ushr, pu_nb0, pu_nb1, pu_ob1N, pu_ob2N, pu_ob3N, pu_ob4N, pu_nwN, pu_n1, pu_n7, pu_n31, pu_n255, pu_md, pu_one, pu_sI1, pu_sI2, pu_sA1, pu_sA21, pu_sA222, pu_sAe, pu_sAn, pu_sJ1, pu_sJ21, pu_sJ221, pu_sF1, pu_sF21, pu_sF222, pu_sFe, pu_sFn, pu_upe, pu_upn, Nat.reduceAdd, Nat.reduceSub, Nat.reduceMul, Nat.reduceMod, Nat.reduceAnd, Nat.reducePow, Nat.reduceEqDiff, Nat.add_zero, Nat.zero_add, Bool.false_eq_true, Nat.add_sub_cancel, c3, g59, hh, he]
    · rw [if_neg hy] at c2
      rw [if_neg hy] at hs
      refine ⟨10 * 2 + whyT W f s v, S', M, W, ?_, ?_, by omega, c2, MS.rf hM, hw, SV.rf⟩
      · simp (disch := omega) only [↓pu_m1, pu_lit, ↓reduceIte, pu_leT, pu_leF, pu_ltT, pu_ltF, pu_eqT, pu_eqF, pu_eqO, pu_eqO2, pu_ltO, pu_leO, pu_subO, pu_subOF, pu_subT, pu_subF, pu_oobF, pu_clamp, pu_add, pu_sub, pu_mul, pu_and, pu_or, pu_xor, pu_xorO, pu_shl, pu_shr, pu_ushr, pu_nb0, pu_nb1, pu_ob1N, pu_ob2N, pu_ob3N, pu_ob4N, pu_nwN, pu_n1, pu_n7, pu_n31, pu_n255, pu_md, pu_one, pu_sI1, pu_sI2, pu_sA1, pu_sA21, pu_sA222, pu_sAe, pu_sAn, pu_sJ1, pu_sJ21, pu_sJ221, pu_sF1, pu_sF21, pu_sF222, pu_sFe, pu_sFn, pu_upe, pu_upn, Nat.reduceAdd, Nat.reduceSub, Nat.reduceMul, Nat.reduceMod, Nat.reduceAnd, Nat.reducePow, Nat.reduceEqDiff, Nat.add_zero, Nat.zero_add, Bool.false_eq_true, Nat.add_sub_cancel, a3, a4, b4, b6, c1, hs]
      · have he2 := he M
        rw [if_neg hy] at he2
        simp (disch := omega) only [↓pu_m1, pu_lit, ↓reduceIte, pu_leT, pu_leF, pu_ltT, pu_ltF, pu_eqT, pu_eqF, pu_eqO, pu_eqO2, pu_ltO, pu_leO, pu_subO, pu_subOF, pu_subT, pu_subF, pu_oobF, pu_clamp, pu_add, pu_sub, pu_mul, pu_and, pu_or, pu_xor, pu_xorO, pu_shl, pu_shr, pu_ushr, pu_nb0, pu_nb1, pu_ob1N, pu_ob2N, pu_ob3N, pu_ob4N, pu_nwN, pu_n1, pu_n7, pu_n31, pu_n255, pu_md, pu_one, pu_sI1, pu_sI2, pu_sA1, pu_sA21, pu_sA222, pu_sAe, pu_sAn, pu_sJ1, pu_sJ21, pu_sJ221, pu_sF1, pu_sF21, pu_sF222, pu_sFe, pu_sFn, pu_upe, pu_upn, Nat.reduceAdd, Nat.reduceSub, Nat.reduceMul, Nat.reduceMod, Nat.reduceAnd, Nat.reducePow, Nat.reduceEqDiff, Nat.add_zero, Nat.zero_add, Bool.false_eq_true, Nat.add_sub_cancel, c3, hy, he2]
  · have b1 := a10 rfl
    obtain ⟨S', c1, c2⟩ := x8_blow hS hw b1
    have c3 := x12_whyS hM hw b1
    obtain ⟨M', d1, d2⟩ := x12_storms hM hw b1
    have hl : whyS W f ≤ 1 := by rcases whyS_01 W f with h | h <;> omega
    have hs := x0_sort 3 (whyS W f) (by omega) (by omega)
    have he := x12_does_end 3 (whyS W f) (by omega) (by omega) M'
    refine ⟨if whyS W f = 0 then 0 else 10 * 3 + whyS W f, S', M', stV W f, ?_, ?_, ?_, c2, d2, stA_WF hw b1 _ (Nat.le_refl _), stA_SV f _⟩
    · simp (disch := omega) only [↓pu_m1, pu_lit, ↓reduceIte, pu_leT, pu_leF, pu_ltT, pu_ltF, pu_eqT, pu_eqF, pu_eqO, pu_eqO2, pu_ltO, pu_leO, pu_subO, pu_subOF, pu_subT, pu_subF, pu_oobF, pu_clamp, pu_add, pu_sub, pu_mul, pu_and, pu_or, pu_xor, pu_xorO, pu_shl, pu_shr, pu_ushr, pu_nb0, pu_nb1, pu_ob1N, pu_ob2N, pu_ob3N, pu_ob4N, pu_nwN, pu_n1, pu_n7, pu_n31, pu_n255, pu_md, pu_one, pu_sI1, pu_sI2, pu_sA1, pu_sA21, pu_sA222, pu_sAe, pu_sAn, pu_sJ1, pu_sJ21, pu_sJ221, pu_sF1, pu_sF21, pu_sF222, pu_sFe, pu_sFn, pu_upe, pu_upn, Nat.reduceAdd, Nat.reduceSub, Nat.reduceMul, Nat.reduceMod, Nat.reduceAnd, Nat.reducePow, Nat.reduceEqDiff, Nat.add_zero, Nat.zero_add, Bool.false_eq_true, Nat.add_sub_cancel, a3, a4, c1, hs]
    · simp (disch := omega) only [↓pu_m1, pu_lit, ↓reduceIte, pu_leT, pu_leF, pu_ltT, pu_ltF, pu_eqT, pu_eqF, pu_eqO, pu_eqO2, pu_ltO, pu_leO, pu_subO, pu_subOF, pu_subT, pu_subF, pu_oobF, pu_clamp, pu_add, pu_sub, pu_mul, pu_and, pu_or, pu_xor, pu_xorO, pu_shl, pu_shr, pu_ushr, pu_nb0, pu_nb1, pu_ob1N, pu_ob2N, pu_ob3N, pu_ob4N, pu_nwN, pu_n1, pu_n7, pu_n31, pu_n255, pu_md, pu_one, pu_sI1, pu_sI2, pu_sA1, pu_sA21, pu_sA222, pu_sAe, pu_sAn, pu_sJ1, pu_sJ21, pu_sJ221, pu_sF1, pu_sF21, pu_sF222, pu_sFe, pu_sFn, pu_upe, pu_upn, Nat.reduceAdd, Nat.reduceSub, Nat.reduceMul, Nat.reduceMod, Nat.reduceAnd, Nat.reducePow, Nat.reduceEqDiff, Nat.add_zero, Nat.zero_add, Bool.false_eq_true, Nat.add_sub_cancel, c3, d1, he]
    · split <;> omega
  · have b1 := a11 (Or.inl rfl)
    obtain ⟨S', c1, c2⟩ := x8_close hS hw b1
    have c3 := x12_whyW hM hw b1
    have hl := whyW_le W f
    have hs := x0_sort 4 (whyW W f) (by omega) (by omega)
    have he := fun M' => x12_does_end 4 (whyW W f) (by omega) (by omega) M'
    have g44 := hM 44 (by omega)
    by_cases hy : whyW W f = 0
    · rw [if_pos hy] at c2
      rw [hy] at c1 c3 hs he
      refine ⟨0, S', sA M 6 (nI 44) (nI (W 44 ||| 2 ^ f)), waV W f, ?_, ?_, by omega, c2, MS.up hM (by omega), waV_WF hw b1, SV.rf.up (by omega)⟩
      · simp (disch := omega) only [↓pu_m1, pu_lit, ↓reduceIte, pu_leT, pu_leF, pu_ltT, pu_ltF, pu_eqT, pu_eqF, pu_eqO, pu_eqO2, pu_ltO, pu_leO, pu_subO, pu_subOF, pu_subT, pu_subF, pu_oobF, pu_clamp, pu_add, pu_sub, pu_mul, pu_and, pu_or, pu_xor, pu_xorO, pu_shl, pu_shr, pu_ushr, pu_nb0, pu_nb1, pu_ob1N, pu_ob2N, pu_ob3N, pu_ob4N, pu_nwN, pu_n1, pu_n7, pu_n31, pu_n255, pu_md, pu_one, pu_sI1, pu_sI2, pu_sA1, pu_sA21, pu_sA222, pu_sAe, pu_sAn, pu_sJ1, pu_sJ21, pu_sJ221, pu_sF1, pu_sF21, pu_sF222, pu_sFe, pu_sFn, pu_upe, pu_upn, Nat.reduceAdd, Nat.reduceSub, Nat.reduceMul, Nat.reduceMod, Nat.reduceAnd, Nat.reducePow, Nat.reduceEqDiff, Nat.add_zero, Nat.zero_add, Bool.false_eq_true, Nat.add_sub_cancel, a3, a4, c1, hs]
      · simp (disch := omega) only [↓pu_m1, pu_lit, ↓reduceIte, pu_leT, pu_leF, pu_ltT, pu_ltF, pu_eqT, pu_eqF, pu_eqO, pu_eqO2, pu_ltO, pu_leO, pu_subO, pu_subOF, pu_subT, pu_subF, pu_oobF, pu_clamp, pu_add, pu_sub, pu_mul, pu_and, pu_or, pu_xor, pu_xorO, pu_shl, pu_shr, pu_ushr, pu_nb0, pu_nb1, pu_ob1N, pu_ob2N, pu_ob3N, pu_ob4N, pu_nwN, pu_n1, pu_n7, pu_n31, pu_n255, pu_md, pu_one, pu_sI1, pu_sI2, pu_sA1, pu_sA21, pu_sA222, pu_sAe, pu_sAn, pu_sJ1, pu_sJ21, pu_sJ221, pu_sF1, pu_sF21, pu_sF222, pu_sFe, pu_sFn, pu_upe, pu_upn, Nat.reduceAdd, Nat.reduceSub, Nat.reduceMul, Nat.reduceMod, Nat.reduceAnd, Nat.reducePow, Nat.reduceEqDiff, Nat.add_zero, Nat.zero_add, Bool.false_eq_true, Nat.add_sub_cancel, c3, g44, he]
    · rw [if_neg hy] at c2
      rw [if_neg hy] at hs
      refine ⟨10 * 4 + whyW W f, S', M, W, ?_, ?_, by omega, c2, MS.rf hM, hw, SV.rf⟩
      · simp (disch := omega) only [↓pu_m1, pu_lit, ↓reduceIte, pu_leT, pu_leF, pu_ltT, pu_ltF, pu_eqT, pu_eqF, pu_eqO, pu_eqO2, pu_ltO, pu_leO, pu_subO, pu_subOF, pu_subT, pu_subF, pu_oobF, pu_clamp, pu_add, pu_sub, pu_mul, pu_and, pu_or, pu_xor, pu_xorO, pu_shl, pu_shr, pu_ushr, pu_nb0, pu_nb1, pu_ob1N, pu_ob2N, pu_ob3N, pu_ob4N, pu_nwN, pu_n1, pu_n7, pu_n31, pu_n255, pu_md, pu_one, pu_sI1, pu_sI2, pu_sA1, pu_sA21, pu_sA222, pu_sAe, pu_sAn, pu_sJ1, pu_sJ21, pu_sJ221, pu_sF1, pu_sF21, pu_sF222, pu_sFe, pu_sFn, pu_upe, pu_upn, Nat.reduceAdd, Nat.reduceSub, Nat.reduceMul, Nat.reduceMod, Nat.reduceAnd, Nat.reducePow, Nat.reduceEqDiff, Nat.add_zero, Nat.zero_add, Bool.false_eq_true, Nat.add_sub_cancel, a3, a4, c1, hs]
      · have he2 := he M
        rw [if_neg hy] at he2
        simp (disch := omega) only [↓pu_m1, pu_lit, ↓reduceIte, pu_leT, pu_leF, pu_ltT, pu_ltF, pu_eqT, pu_eqF, pu_eqO, pu_eqO2, pu_ltO, pu_leO, pu_subO, pu_subOF, pu_subT, pu_subF, pu_oobF, pu_clamp, pu_add, pu_sub, pu_mul, pu_and, pu_or, pu_xor, pu_xorO, pu_shl, pu_shr, pu_ushr, pu_nb0, pu_nb1, pu_ob1N, pu_ob2N, pu_ob3N, pu_ob4N, pu_nwN, pu_n1, pu_n7, pu_n31, pu_n255, pu_md, pu_one, pu_sI1, pu_sI2, pu_sA1, pu_sA21, pu_sA222, pu_sAe, pu_sAn, pu_sJ1, pu_sJ21, pu_sJ221, pu_sF1, pu_sF21, pu_sF222, pu_sFe, pu_sFn, pu_upe, pu_upn, Nat.reduceAdd, Nat.reduceSub, Nat.reduceMul, Nat.reduceMod, Nat.reduceAnd, Nat.reducePow, Nat.reduceEqDiff, Nat.add_zero, Nat.zero_add, Bool.false_eq_true, Nat.add_sub_cancel, c3, hy, he2]
  · have b1 := a11 (Or.inr rfl)
    obtain ⟨S', c1, c2⟩ := x8_open hS hw b1
    have c3 := x12_walled hM hw (t := f) (by omega)
    have g44 := hM 44 (by omega)
    have hM2 : MS M (sA M 6 (nI 44) (nI (W 44 &&& (2 ^ f ^^^ 4294967295)))) (unV W f) := MS.up hM (by omega)
    rcases Nat.mod_two_eq_zero_or_one (W 44 / 2 ^ f) with hy | hy
    · rw [if_pos hy] at c1
      rw [hy] at c3
      have hs := x0_sort 5 1 (by omega) (by omega)
      have he := x12_does_end 5 1 (by omega) (by omega) (sA M 6 (nI 44) (nI (W 44 &&& (2 ^ f ^^^ 4294967295))))
      refine ⟨51, S', _, _, ?_, ?_, by omega, c2, hM2, unV_WF hw b1, SV.rf.up (by omega)⟩
      · simp (disch := omega) only [↓pu_m1, pu_lit, ↓reduceIte, pu_leT, pu_leF, pu_ltT, pu_ltF, pu_eqT, pu_eqF, pu_eqO, pu_eqO2, pu_ltO, pu_leO, pu_subO, pu_subOF, pu_subT, pu_subF, pu_oobF, pu_clamp, pu_add, pu_sub, pu_mul, pu_and, pu_or, pu_xor, pu_xorO, pu_shl, pu_shr, pu_ushr, pu_nb0, pu_nb1, pu_ob1N, pu_ob2N, pu_ob3N, pu_ob4N, pu_nwN, pu_n1, pu_n7, pu_n31, pu_n255, pu_md, pu_one, pu_sI1, pu_sI2, pu_sA1, pu_sA21, pu_sA222, pu_sAe, pu_sAn, pu_sJ1, pu_sJ21, pu_sJ221, pu_sF1, pu_sF21, pu_sF222, pu_sFe, pu_sFn, pu_upe, pu_upn, Nat.reduceAdd, Nat.reduceSub, Nat.reduceMul, Nat.reduceMod, Nat.reduceAnd, Nat.reducePow, Nat.reduceEqDiff, Nat.add_zero, Nat.zero_add, Bool.false_eq_true, Nat.add_sub_cancel, a3, a4, c1, hs]
      · unfold F_X12_does_191
        simp (disch := omega) only [↓pu_m1, pu_lit, ↓reduceIte, pu_leT, pu_leF, pu_ltT, pu_ltF, pu_eqT, pu_eqF, pu_eqO, pu_eqO2, pu_ltO, pu_leO, pu_subO, pu_subOF, pu_subT, pu_subF, pu_oobF, pu_clamp, pu_add, pu_sub, pu_mul, pu_and, pu_or, pu_xor, pu_xorO, pu_shl, pu_shr, pu_ushr, pu_nb0, pu_nb1, pu_ob1N, pu_ob2N, pu_ob3N, pu_ob4N, pu_nwN, pu_n1, pu_n7, pu_n31, pu_n255, pu_md, pu_one, pu_sI1, pu_sI2, pu_sA1, pu_sA21, pu_sA222, pu_sAe, pu_sAn, pu_sJ1, pu_sJ21, pu_sJ221, pu_sF1, pu_sF21, pu_sF222, pu_sFe, pu_sFn, pu_upe, pu_upn, Nat.reduceAdd, Nat.reduceSub, Nat.reduceMul, Nat.reduceMod, Nat.reduceAnd, Nat.reducePow, Nat.reduceEqDiff, Nat.add_zero, Nat.zero_add, Bool.false_eq_true, Nat.add_sub_cancel, c3, g44, he]
    · rw [if_neg (by omega)] at c1
      rw [hy] at c3
      have hs := x0_sort 5 0 (by omega) (by omega)
      have he := x12_does_end 5 0 (by omega) (by omega) (sA M 6 (nI 44) (nI (W 44 &&& (2 ^ f ^^^ 4294967295))))
      refine ⟨0, S', _, _, ?_, ?_, by omega, c2, hM2, unV_WF hw b1, SV.rf.up (by omega)⟩
      · simp (disch := omega) only [↓pu_m1, pu_lit, ↓reduceIte, pu_leT, pu_leF, pu_ltT, pu_ltF, pu_eqT, pu_eqF, pu_eqO, pu_eqO2, pu_ltO, pu_leO, pu_subO, pu_subOF, pu_subT, pu_subF, pu_oobF, pu_clamp, pu_add, pu_sub, pu_mul, pu_and, pu_or, pu_xor, pu_xorO, pu_shl, pu_shr, pu_ushr, pu_nb0, pu_nb1, pu_ob1N, pu_ob2N, pu_ob3N, pu_ob4N, pu_nwN, pu_n1, pu_n7, pu_n31, pu_n255, pu_md, pu_one, pu_sI1, pu_sI2, pu_sA1, pu_sA21, pu_sA222, pu_sAe, pu_sAn, pu_sJ1, pu_sJ21, pu_sJ221, pu_sF1, pu_sF21, pu_sF222, pu_sFe, pu_sFn, pu_upe, pu_upn, Nat.reduceAdd, Nat.reduceSub, Nat.reduceMul, Nat.reduceMod, Nat.reduceAnd, Nat.reducePow, Nat.reduceEqDiff, Nat.add_zero, Nat.zero_add, Bool.false_eq_true, Nat.add_sub_cancel, a3, a4, c1, hs]
      · unfold F_X12_does_191
        simp (disch := omega) only [↓pu_m1, pu_lit, ↓reduceIte, pu_leT, pu_leF, pu_ltT, pu_ltF, pu_eqT, pu_eqF, pu_eqO, pu_eqO2, pu_ltO, pu_leO, pu_subO, pu_subOF, pu_subT, pu_subF, pu_oobF, pu_clamp, pu_add, pu_sub, pu_mul, pu_and, pu_or, pu_xor, pu_xorO, pu_shl, pu_shr, pu_ushr, pu_nb0, pu_nb1, pu_ob1N, pu_ob2N, pu_ob3N, pu_ob4N, pu_nwN, pu_n1, pu_n7, pu_n31, pu_n255, pu_md, pu_one, pu_sI1, pu_sI2, pu_sA1, pu_sA21, pu_sA222, pu_sAe, pu_sAn, pu_sJ1, pu_sJ21, pu_sJ221, pu_sF1, pu_sF21, pu_sF222, pu_sFe, pu_sFn, pu_upe, pu_upn, Nat.reduceAdd, Nat.reduceSub, Nat.reduceMul, Nat.reduceMod, Nat.reduceAnd, Nat.reducePow, Nat.reduceEqDiff, Nat.add_zero, Nat.zero_add, Bool.false_eq_true, Nat.add_sub_cancel, c3, g44, he]
  · have b1 := a12 rfl
    have e14 := hS.2.2.2.2.1
    have g42 := hM 42 (by omega)
    by_cases hy : W 42 + f ≤ 400
    · obtain ⟨S', c1, c2⟩ := x8_passDays hS hw b1
      obtain ⟨M', d1, d2⟩ := x12_goesOn hM hw b1
      have hmn : min f (400 - W 42) = f := by omega
      rw [hmn] at c1 c2 d1 d2
      have hs := x0_sort 6 0 (by omega) (by omega)
      have he := x12_does_end 6 0 (by omega) (by omega) M'
      refine ⟨0, S', M', dysV W f, ?_, ?_, by omega, c2, d2, dys_WF hw f hy, dys_SV W f⟩
      · unfold F_X0_liveDays F_X8_daysLeft
        simp (disch := omega) only [↓pu_m1, pu_lit, ↓reduceIte, pu_leT, pu_leF, pu_ltT, pu_ltF, pu_eqT, pu_eqF, pu_eqO, pu_eqO2, pu_ltO, pu_leO, pu_subO, pu_subOF, pu_subT, pu_subF, pu_oobF, pu_clamp, pu_add, pu_sub, pu_mul, pu_and, pu_or, pu_xor, pu_xorO, pu_shl, pu_shr, pu_ushr, pu_nb0, pu_nb1, pu_ob1N, pu_ob2N, pu_ob3N, pu_ob4N, pu_nwN, pu_n1, pu_n7, pu_n31, pu_n255, pu_md, pu_one, pu_sI1, pu_sI2, pu_sA1, pu_sA21, pu_sA222, pu_sAe, pu_sAn, pu_sJ1, pu_sJ21, pu_sJ221, pu_sF1, pu_sF21, pu_sF222, pu_sFe, pu_sFn, pu_upe, pu_upn, Nat.reduceAdd, Nat.reduceSub, Nat.reduceMul, Nat.reduceMod, Nat.reduceAnd, Nat.reducePow, Nat.reduceEqDiff, Nat.add_zero, Nat.zero_add, Bool.false_eq_true, Nat.add_sub_cancel, a3, a4, e14, c1, hs]
      · unfold F_X12_does_231
        simp (disch := omega) only [↓pu_m1, pu_lit, ↓reduceIte, pu_leT, pu_leF, pu_ltT, pu_ltF, pu_eqT, pu_eqF, pu_eqO, pu_eqO2, pu_ltO, pu_leO, pu_subO, pu_subOF, pu_subT, pu_subF, pu_oobF, pu_clamp, pu_add, pu_sub, pu_mul, pu_and, pu_or, pu_xor, pu_xorO, pu_shl, pu_shr, pu_ushr, pu_nb0, pu_nb1, pu_ob1N, pu_ob2N, pu_ob3N, pu_ob4N, pu_nwN, pu_n1, pu_n7, pu_n31, pu_n255, pu_md, pu_one, pu_sI1, pu_sI2, pu_sA1, pu_sA21, pu_sA222, pu_sAe, pu_sAn, pu_sJ1, pu_sJ21, pu_sJ221, pu_sF1, pu_sF21, pu_sF222, pu_sFe, pu_sFn, pu_upe, pu_upn, Nat.reduceAdd, Nat.reduceSub, Nat.reduceMul, Nat.reduceMod, Nat.reduceAnd, Nat.reducePow, Nat.reduceEqDiff, Nat.add_zero, Nat.zero_add, Bool.false_eq_true, Nat.add_sub_cancel, g42, d1, he]
    · have hs := x0_sort 6 1 (by omega) (by omega)
      have he := x12_does_end 6 1 (by omega) (by omega) M
      refine ⟨61, S, M, W, ?_, ?_, by omega, CS.rf hS, MS.rf hM, hw, SV.rf⟩
      · unfold F_X0_liveDays F_X8_daysLeft
        simp (disch := omega) only [↓pu_m1, pu_lit, ↓reduceIte, pu_leT, pu_leF, pu_ltT, pu_ltF, pu_eqT, pu_eqF, pu_eqO, pu_eqO2, pu_ltO, pu_leO, pu_subO, pu_subOF, pu_subT, pu_subF, pu_oobF, pu_clamp, pu_add, pu_sub, pu_mul, pu_and, pu_or, pu_xor, pu_xorO, pu_shl, pu_shr, pu_ushr, pu_nb0, pu_nb1, pu_ob1N, pu_ob2N, pu_ob3N, pu_ob4N, pu_nwN, pu_n1, pu_n7, pu_n31, pu_n255, pu_md, pu_one, pu_sI1, pu_sI2, pu_sA1, pu_sA21, pu_sA222, pu_sAe, pu_sAn, pu_sJ1, pu_sJ21, pu_sJ221, pu_sF1, pu_sF21, pu_sF222, pu_sFe, pu_sFn, pu_upe, pu_upn, Nat.reduceAdd, Nat.reduceSub, Nat.reduceMul, Nat.reduceMod, Nat.reduceAnd, Nat.reducePow, Nat.reduceEqDiff, Nat.add_zero, Nat.zero_add, Bool.false_eq_true, Nat.add_sub_cancel, a3, a4, e14, hs]
      · unfold F_X12_does_231
        simp (disch := omega) only [↓pu_m1, pu_lit, ↓reduceIte, pu_leT, pu_leF, pu_ltT, pu_ltF, pu_eqT, pu_eqF, pu_eqO, pu_eqO2, pu_ltO, pu_leO, pu_subO, pu_subOF, pu_subT, pu_subF, pu_oobF, pu_clamp, pu_add, pu_sub, pu_mul, pu_and, pu_or, pu_xor, pu_xorO, pu_shl, pu_shr, pu_ushr, pu_nb0, pu_nb1, pu_ob1N, pu_ob2N, pu_ob3N, pu_ob4N, pu_nwN, pu_n1, pu_n7, pu_n31, pu_n255, pu_md, pu_one, pu_sI1, pu_sI2, pu_sA1, pu_sA21, pu_sA222, pu_sAe, pu_sAn, pu_sJ1, pu_sJ21, pu_sJ221, pu_sF1, pu_sF21, pu_sF222, pu_sFe, pu_sFn, pu_upe, pu_upn, Nat.reduceAdd, Nat.reduceSub, Nat.reduceMul, Nat.reduceMod, Nat.reduceAnd, Nat.reducePow, Nat.reduceEqDiff, Nat.add_zero, Nat.zero_add, Bool.false_eq_true, Nat.add_sub_cancel, g42, he]
/-- all of them -/
theorem live_all {n : Nat} (hn : n ≤ 40) (hG : G.1 4 = nI n) (x1 : Int32) : ∀ d i S M W, i + d = n → RS S W → RM M W → WF W → SV V W → M.1 38 = nI n → (∀ j, j < n → LR V G M j) → M.2.2.1 39 0 = nI 0 → M.2.2.1 39 1 = nI i → ∀ N1 N2, d < N1 → d + 1 < N2 → ∃ w l S' M' W', lp (fun kz z => F_X11_judge_4 kz z.1 z.2.1 z.2.2.1 z.2.2.2.1 z.2.2.2.2) N1 (nI 0, nI i, T, G, S) = F_X11_judge_38 (nI w) (nI l) T G S' ∧ lp (fun kz z => F_X12_book_111 kz z.1 z.2.1 z.2.2.1 z.2.2.2) N2 (x1, nO, nI i, M) = F_X12_book_201 x1 (if w = 0 then nO else nI l) M' ∧ w < 100 ∧ l ≤ n ∧ CS S S' W' ∧ RM M' W' ∧ WF W' ∧ SV W W' ∧ M'.2.2.1 39 0 = nI w ∧ M'.2.2.1 39 1 = nI l ∧ (∀ k, 77 ≤ k → M'.2.2.1 6 k = M.2.2.1 6 k) ∧ FR [] [6, 39] [] M M' := by
  intro d
  induction d with
  | zero =>
    intro i S M W hi hS hM hw hv h38 hL h0 h1 N1 N2 hN1 hN2
    obtain ⟨N1, rfl⟩ : ∃ k, N1 = k + 1 := ⟨N1 - 1, by omega⟩
    obtain ⟨N2, rfl⟩ : ∃ k, N2 = k + 1 := ⟨N2 - 1, by omega⟩
    have e : i = n := by omega
    subst e
    refine ⟨0, i, S, M, W, ?_, ?_, by omega, by omega, CS.rf hS, hM, hw, SV.rf, h0, h1, fun _ _ => rfl, FR.rf⟩
    · show F_X11_judge_4 _ (nI 0) (nI i) T G S = _
      unfold F_X11_judge_4
      rw [hG, if_pos (nI_le (Nat.le_refl _) (by omega))]
    · show F_X12_book_111 _ x1 nO (nI i) M = _
      unfold F_X12_book_111
      rw [h38, if_pos (nI_le (Nat.le_refl _) (by omega)), if_pos rfl]
  | succ d ih =>
    intro i S M W hi hS hM hw hv h38 hL h0 h1 N1 N2 hN1 hN2
    obtain ⟨N1, rfl⟩ : ∃ k, N1 = k + 1 := ⟨N1 - 1, by omega⟩
    obtain ⟨N2, rfl⟩ : ∃ k, N2 = k + 1 + 1 := ⟨N2 - 1 - 1, by omega⟩
    obtain ⟨w, S', M', W', a1, a2, a3, a4, a5, a6, a7⟩ := live1 hS hM hw hv (by omega : i < 40) (hL i (by omega))
    have f39 : M'.2.2.1 39 = M.2.2.1 39 := a5.fr.2.1 39 (by decide)
    have hst : ∀ k, F_X12_book_111 k x1 nO (nI i) M = if w = 0 then k (x1, nO, nI (i + 1), sA (sA M' 39 (nI 0) (nI 0)) 39 (nI 1) (nI (i + 1))) else k (x1, nI i, nI (i + 1), sA M' 39 (nI 0) (nI w)) := by
      intro k
      have n0 : ¬ nI 0 ≤ nO := by decide
      have r1 : (sA M' 39 (nI 0) (nI w)).2.2.1 39 1 = nI i := by rw [pu_sAe (by omega), if_neg (by omega), f39]; exact h1
      have r0 : (sA M' 39 (nI 0) (nI w)).2.2.1 39 0 = nI w := by rw [pu_sAe (by omega), if_pos rfl]
      unfold F_X12_book_111 F_X12_book_195
      by_cases hz : w = 0
      · rw [if_pos hz]
        subst hz
        simp (disch := omega) only [↓pu_m1, pu_lit, h38, pu_leF, n0, ↓reduceIte, pu_mul, pu_add, pu_oobF, pu_clamp, a2, pu_ob2N, pu_nwN, r0, r1, pu_leT]
      · rw [if_neg hz]
        simp (disch := omega) only [↓pu_m1, pu_lit, h38, pu_leF, n0, ↓reduceIte, pu_mul, pu_add, pu_oobF, pu_clamp, a2, pu_ob2N, pu_nwN, r0, r1, pu_leT]
    have hcl : ∀ k, F_X11_judge_4 k (nI 0) (nI i) T G S = if w = 0 then k (nI 0, nI (i + 1), T, G, S') else F_X11_judge_38 (nI w) (nI i) T G S' := by
      intro k
      unfold F_X11_judge_4
      by_cases hz : w = 0
      · rw [if_pos hz]
        rw [hz] at a1
        simp (disch := omega) only [↓pu_m1, pu_lit, ↓reduceIte, pu_leT, pu_leF, pu_ltT, pu_ltF, pu_eqT, pu_eqF, pu_eqO, pu_eqO2, pu_ltO, pu_leO, pu_subO, pu_subOF, pu_subT, pu_subF, pu_oobF, pu_clamp, pu_add, pu_sub, pu_mul, pu_and, pu_or, pu_xor, pu_xorO, pu_shl, pu_shr, pu_ushr, pu_nb0, pu_nb1, pu_ob1N, pu_ob2N, pu_ob3N, pu_ob4N, pu_nwN, pu_n1, pu_n7, pu_n31, pu_n255, pu_md, pu_one, pu_sI1, pu_sI2, pu_sA1, pu_sA21, pu_sA222, pu_sAe, pu_sAn, pu_sJ1, pu_sJ21, pu_sJ221, pu_sF1, pu_sF21, pu_sF222, pu_sFe, pu_sFn, pu_upe, pu_upn, Nat.reduceAdd, Nat.reduceSub, Nat.reduceMul, Nat.reduceMod, Nat.reduceAnd, Nat.reducePow, Nat.reduceEqDiff, Nat.add_zero, Nat.zero_add, Bool.false_eq_true, Nat.add_sub_cancel, hG, a1]
      · rw [if_neg hz]
        simp (disch := omega) only [↓pu_m1, pu_lit, ↓reduceIte, pu_leT, pu_leF, pu_ltT, pu_ltF, pu_eqT, pu_eqF, pu_eqO, pu_eqO2, pu_ltO, pu_leO, pu_subO, pu_subOF, pu_subT, pu_subF, pu_oobF, pu_clamp, pu_add, pu_sub, pu_mul, pu_and, pu_or, pu_xor, pu_xorO, pu_shl, pu_shr, pu_ushr, pu_nb0, pu_nb1, pu_ob1N, pu_ob2N, pu_ob3N, pu_ob4N, pu_nwN, pu_n1, pu_n7, pu_n31, pu_n255, pu_md, pu_one, pu_sI1, pu_sI2, pu_sA1, pu_sA21, pu_sA222, pu_sAe, pu_sAn, pu_sJ1, pu_sJ21, pu_sJ221, pu_sF1, pu_sF21, pu_sF222, pu_sFe, pu_sFn, pu_upe, pu_upn, Nat.reduceAdd, Nat.reduceSub, Nat.reduceMul, Nat.reduceMod, Nat.reduceAnd, Nat.reducePow, Nat.reduceEqDiff, Nat.add_zero, Nat.zero_add, Bool.false_eq_true, Nat.add_sub_cancel, hG, a1]
    by_cases hz : w = 0
    · subst hz
      obtain ⟨w2, l2, S2, M2, W2, b1, b2, b3, b4, b5, b6, b7, b8, b9, b10, b11, b12⟩ := ih (i + 1) S' (sA (sA M' 39 (nI 0) (nI 0)) 39 (nI 1) (nI (i + 1))) W' (by omega) a4.1 (fun k hk => by rw [pu_sAn (by omega), pu_sAn (by omega)]; exact a5.2.1 k hk) a6 (hv.tr a7) (by show M'.1 38 = _; rw [a5.fr.1 38 (by decide)]; exact h38) (fun j hj => by
        obtain ⟨a, f, s, v, x1, x2, x3, x4, x5, x6, x7, x8, x9, x10⟩ := hL j hj
        have f8 : (sA (sA M' 39 (nI 0) (nI 0)) 39 (nI 1) (nI (i + 1))).2.2.1 8 = M.2.2.1 8 := by rw [pu_sAn (by omega), pu_sAn (by omega), a5.fr.2.1 8 (by decide)]
        refine ⟨a, f, s, v, x1, x2, x3, x4, ?_⟩
        rw [f8]
        exact ⟨x5, x6, x7, x8, x9, x10⟩) (by rw [pu_sAe (by omega), if_neg (by omega), pu_sAe (by omega), if_pos rfl]) (by rw [pu_sAe (by omega), if_pos rfl]) N1 (N2 + 1) (by omega) (by omega)
      refine ⟨w2, l2, S2, M2, W2, ?_, ?_, b3, b4, a4.tr b5, b6, b7, a7.tr b8, b9, b10, fun k hk => ?_, ?_⟩
      · show F_X11_judge_4 (lp _ N1) (nI 0) (nI i) T G S = _
        rw [hcl, if_pos rfl]; exact b1
      · show F_X12_book_111 (lp _ (N2 + 1)) x1 nO (nI i) M = _
        rw [hst, if_pos rfl]; exact b2
      · rw [b11 k hk, pu_sAn (by omega), pu_sAn (by omega)]; exact a5.2.2 k hk
      · exact (((a5.fr.mono (by decide) (by decide) (by decide)).tr (FR.sA (by decide))).tr (FR.sA (by decide))).tr b12
    · refine ⟨w, i, S', sA M' 39 (nI 0) (nI w), W', ?_, ?_, a3, by omega, a4, fun k hk => by rw [pu_sAn (by omega)]; exact a5.2.1 k hk, a6, a7, by rw [pu_sAe (by omega), if_pos rfl], by rw [pu_sAe (by omega), if_neg (by omega), f39]; exact h1, fun k hk => by rw [pu_sAn (by omega)]; exact a5.2.2 k hk, (a5.fr.mono (by decide) (by decide) (by decide)).tr (FR.sA (by decide))⟩
      · show F_X11_judge_4 (lp _ N1) (nI 0) (nI i) T G S = _
        rw [hcl, if_neg hz]
      · show F_X12_book_111 (lp _ (N2 + 1)) x1 nO (nI i) M = _
        rw [hst, if_neg hz]
        show F_X12_book_111 (lp _ N2) x1 (nI i) (nI (i + 1)) (sA M' 39 (nI 0) (nI w)) = _
        unfold F_X12_book_111
        rw [if_neg hz]
        have h38' : (sA M' 39 (nI 0) (nI w)).1 38 = nI n := by show M'.1 38 = _; rw [a5.fr.1 38 (by decide)]; exact h38
        rw [h38']
        by_cases hl : n ≤ i + 1
        · rw [if_pos (nI_le hl (by omega))]
        · rw [if_neg (nI_ge (by omega) (by omega)), if_pos (nI_pos' (by omega))]
end P22
