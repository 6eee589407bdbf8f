/-! what both readers look for, in step -/
def OKs (R M : St) (k : Nat) : Prop := RDk R M k ∧ R.1 6 = nI k ∧ R.1 8 = nI 0
def FLc (R : St) : Prop := ∃ f k, 1 ≤ f ∧ f ≤ 4 ∧ R.1 8 = nI f ∧ R.1 6 = nI k ∧ k ≤ 900
def FLT (R M : St) : Prop := FLc R ∧ M.1 15 = R.1 8 ∧ M.1 16 = R.1 9
theorem wsort_wl : ∀ i, i < 36 → wsort (wl i) = i := by decide
theorem wsort_at {l : List Nat} {i : Nat} (h : wsort l = i) (hi : i < 36) : wl i = l := by
  have := fs_at (fun i => wl i == l) 36 0 (by unfold wsort at h; omega)
  have h2 : (wl (wsort l) == l) = true := this
  rw [h] at h2
  simpa using h2
theorem wl_inj {i j : Nat} (hi : i < 36) (hj : j < 36) (h : wl i = wl j) : i = j := by
  have h1 := wsort_wl i hi
  have h2 := wsort_wl j hj
  rw [h] at h1
  omega
theorem pm_onto : ∀ j, j < 36 → ∃ i, i < 36 ∧ pm i = j := by decide
section P26
variable {R M S : St} {k : Nat}
theorem ok_k (h : OKs R M k) : k ≤ 900 := (rd_tok h.1).1
theorem rd_isWord {i : Nat} (h : OKs R M k) (hi : i < 36) : ∃ t : Bool, F_X5_isWord R (nI i) = some (nI (tn t)) ∧ F_X12_isWord M (lN (r256 (wl i))) = some (nI (tn t)) ∧ (t = true → R.2.2.1 3 k ≠ nI 40 ∧ R.2.2.1 3 k = nI i) ∧ (R.2.2.1 3 k = nI i → t = true) := by
  obtain ⟨hr, h6, h8⟩ := h
  obtain ⟨k1, -, hc⟩ := rd_tok hr
  unfold F_X5_isWord F_X12_isWord
  rcases hc with ⟨l, a1, a2, a3, a4, a5⟩ | ⟨v, a1, a2, a3, a4, a5⟩ | ⟨c, a1, a2, a3, a4, a5⟩ | ⟨a2, a4⟩ | ⟨a2, a4⟩
  · have hsl := wsort_le l
    have e1 := OK_256 a1
    have e2 := OK_256 (wl_OK hi)
    have hlg : lg_cmp (M.2.1 17) (lN (r256 (wl i))) = 0 ↔ l = wl i := by
      rw [a5, lgc, pk_lEQ (by omega) (by omega)]
      exact ⟨fun e => r256_inj _ _ a1.2 (wl_OK hi).2 e, fun e => by rw [e]⟩
    by_cases e : l = wl i
    · have hs : wsort l = i := by rw [e]; exact wsort_wl i hi
      refine ⟨true, ?_, ?_, fun _ => ⟨?_, ?_⟩, fun _ => rfl⟩
      · rw [hs] at a2
        simp (disch := omega) only [↓pu_m1, pu_lit, ↓reduceIte, pu_leT, pu_leF, pu_ltT, pu_ltF, pu_eqT, pu_eqF, pu_eqO, pu_eqO2, pu_ltO, pu_leO, pu_subO, pu_subOF, pu_subT, pu_subF, pu_oobF, pu_clamp, pu_add, pu_sub, pu_mul, pu_and, pu_or, pu_xor, pu_xorO, pu_shl, pu_shr, pu_ushr, pu_nb0, pu_nb1, pu_ob1N, pu_ob2N, pu_ob3N, pu_ob4N, pu_nwN, pu_n1, pu_n7, pu_n31, pu_n255, pu_md, pu_one, pu_sI1, pu_sI2, pu_sA1, pu_sA21, pu_sA222, pu_sAe, pu_sAn, pu_sJ1, pu_sJ21, pu_sJ221, pu_sF1, pu_sF21, pu_sF222, pu_sFe, pu_sFn, pu_upe, pu_upn, Nat.reduceAdd, Nat.reduceSub, Nat.reduceMul, Nat.reduceMod, Nat.reduceAnd, Nat.reducePow, Nat.reduceEqDiff, Nat.add_zero, Nat.zero_add, Bool.false_eq_true, Nat.add_sub_cancel, h8, h6, a2]
        rfl
      · rw [a4, if_pos (by decide), if_pos (hlg.mpr e)]; rfl
      · rw [a2, hs]; intro e9; have := (nI_eq (by omega) (by omega)).mp e9; omega
      · rw [a2, hs]
    · have hs : wsort l ≠ i := fun h => e (wsort_at h hi).symm
      refine ⟨false, ?_, ?_, fun h => (by cases h), fun h => ?_⟩
      · simp (disch := omega) only [↓pu_m1, pu_lit, ↓reduceIte, pu_leT, pu_leF, pu_ltT, pu_ltF, pu_eqT, pu_eqF, pu_eqO, pu_eqO2, pu_ltO, pu_leO, pu_subO, pu_subOF, pu_subT, pu_subF, pu_oobF, pu_clamp, pu_add, pu_sub, pu_mul, pu_and, pu_or, pu_xor, pu_xorO, pu_shl, pu_shr, pu_ushr, pu_nb0, pu_nb1, pu_ob1N, pu_ob2N, pu_ob3N, pu_ob4N, pu_nwN, pu_n1, pu_n7, pu_n31, pu_n255, pu_md, pu_one, pu_sI1, pu_sI2, pu_sA1, pu_sA21, pu_sA222, pu_sAe, pu_sAn, pu_sJ1, pu_sJ21, pu_sJ221, pu_sF1, pu_sF21, pu_sF222, pu_sFe, pu_sFn, pu_upe, pu_upn, Nat.reduceAdd, Nat.reduceSub, Nat.reduceMul, Nat.reduceMod, Nat.reduceAnd, Nat.reducePow, Nat.reduceEqDiff, Nat.add_zero, Nat.zero_add, Bool.false_eq_true, Nat.add_sub_cancel, h8, h6, a2]
        rfl
      · rw [a4, if_pos (by decide), if_neg (fun h => e (hlg.mp h))]; rfl
      · rw [a2] at h; exact absurd ((nI_eq (by omega) (by omega)).mp h) hs
  · refine ⟨false, ?_, ?_, fun h => (by cases h), fun h => ?_⟩
    · simp (disch := omega) only [↓pu_m1, pu_lit, ↓reduceIte, pu_leT, pu_leF, pu_ltT, pu_ltF, pu_eqT, pu_eqF, pu_eqO, pu_eqO2, pu_ltO, pu_leO, pu_subO, pu_subOF, pu_subT, pu_subF, pu_oobF, pu_clamp, pu_add, pu_sub, pu_mul, pu_and, pu_or, pu_xor, pu_xorO, pu_shl, pu_shr, pu_ushr, pu_nb0, pu_nb1, pu_ob1N, pu_ob2N, pu_ob3N, pu_ob4N, pu_nwN, pu_n1, pu_n7, pu_n31, pu_n255, pu_md, pu_one, pu_sI1, pu_sI2, pu_sA1, pu_sA21, pu_sA222, pu_sAe, pu_sAn, pu_sJ1, pu_sJ21, pu_sJ221, pu_sF1, pu_sF21, pu_sF222, pu_sFe, pu_sFn, pu_upe, pu_upn, Nat.reduceAdd, Nat.reduceSub, Nat.reduceMul, Nat.reduceMod, Nat.reduceAnd, Nat.reducePow, Nat.reduceEqDiff, Nat.add_zero, Nat.zero_add, Bool.false_eq_true, Nat.add_sub_cancel, h8, h6, a2]
      rfl
    · simp (disch := omega) only [↓pu_m1, pu_lit, ↓reduceIte, pu_leT, pu_leF, pu_ltT, pu_ltF, pu_eqT, pu_eqF, pu_eqO, pu_eqO2, pu_ltO, pu_leO, pu_subO, pu_subOF, pu_subT, pu_subF, pu_oobF, pu_clamp, pu_add, pu_sub, pu_mul, pu_and, pu_or, pu_xor, pu_xorO, pu_shl, pu_shr, pu_ushr, pu_nb0, pu_nb1, pu_ob1N, pu_ob2N, pu_ob3N, pu_ob4N, pu_nwN, pu_n1, pu_n7, pu_n31, pu_n255, pu_md, pu_one, pu_sI1, pu_sI2, pu_sA1, pu_sA21, pu_sA222, pu_sAe, pu_sAn, pu_sJ1, pu_sJ21, pu_sJ221, pu_sF1, pu_sF21, pu_sF222, pu_sFe, pu_sFn, pu_upe, pu_upn, Nat.reduceAdd, Nat.reduceSub, Nat.reduceMul, Nat.reduceMod, Nat.reduceAnd, Nat.reducePow, Nat.reduceEqDiff, Nat.add_zero, Nat.zero_add, Bool.false_eq_true, Nat.add_sub_cancel, a4]
      rfl
    · rw [a2] at h; have := (nI_eq (by omega) (by omega)).mp h; omega
  · refine ⟨false, ?_, ?_, fun h => (by cases h), fun h => ?_⟩
    · simp (disch := omega) only [↓pu_m1, pu_lit, ↓reduceIte, pu_leT, pu_leF, pu_ltT, pu_ltF, pu_eqT, pu_eqF, pu_eqO, pu_eqO2, pu_ltO, pu_leO, pu_subO, pu_subOF, pu_subT, pu_subF, pu_oobF, pu_clamp, pu_add, pu_sub, pu_mul, pu_and, pu_or, pu_xor, pu_xorO, pu_shl, pu_shr, pu_ushr, pu_nb0, pu_nb1, pu_ob1N, pu_ob2N, pu_ob3N, pu_ob4N, pu_nwN, pu_n1, pu_n7, pu_n31, pu_n255, pu_md, pu_one, pu_sI1, pu_sI2, pu_sA1, pu_sA21, pu_sA222, pu_sAe, pu_sAn, pu_sJ1, pu_sJ21, pu_sJ221, pu_sF1, pu_sF21, pu_sF222, pu_sFe, pu_sFn, pu_upe, pu_upn, Nat.reduceAdd, Nat.reduceSub, Nat.reduceMul, Nat.reduceMod, Nat.reduceAnd, Nat.reducePow, Nat.reduceEqDiff, Nat.add_zero, Nat.zero_add, Bool.false_eq_true, Nat.add_sub_cancel, h8, h6, a2]
      rfl
    · simp (disch := omega) only [↓pu_m1, pu_lit, ↓reduceIte, pu_leT, pu_leF, pu_ltT, pu_ltF, pu_eqT, pu_eqF, pu_eqO, pu_eqO2, pu_ltO, pu_leO, pu_subO, pu_subOF, pu_subT, pu_subF, pu_oobF, pu_clamp, pu_add, pu_sub, pu_mul, pu_and, pu_or, pu_xor, pu_xorO, pu_shl, pu_shr, pu_ushr, pu_nb0, pu_nb1, pu_ob1N, pu_ob2N, pu_ob3N, pu_ob4N, pu_nwN, pu_n1, pu_n7, pu_n31, pu_n255, pu_md, pu_one, pu_sI1, pu_sI2, pu_sA1, pu_sA21, pu_sA222, pu_sAe, pu_sAn, pu_sJ1, pu_sJ21, pu_sJ221, pu_sF1, pu_sF21, pu_sF222, pu_sFe, pu_sFn, pu_upe, pu_upn, Nat.reduceAdd, Nat.reduceSub, Nat.reduceMul, Nat.reduceMod, Nat.reduceAnd, Nat.reducePow, Nat.reduceEqDiff, Nat.add_zero, Nat.zero_add, Bool.false_eq_true, Nat.add_sub_cancel, a4]
      rfl
    · rw [a2] at h; have := (nI_eq (by omega) (by omega)).mp h; omega
  · refine ⟨false, ?_, ?_, fun h => (by cases h), fun h => ?_⟩
    · simp (disch := omega) only [↓pu_m1, pu_lit, ↓reduceIte, pu_leT, pu_leF, pu_ltT, pu_ltF, pu_eqT, pu_eqF, pu_eqO, pu_eqO2, pu_ltO, pu_leO, pu_subO, pu_subOF, pu_subT, pu_subF, pu_oobF, pu_clamp, pu_add, pu_sub, pu_mul, pu_and, pu_or, pu_xor, pu_xorO, pu_shl, pu_shr, pu_ushr, pu_nb0, pu_nb1, pu_ob1N, pu_ob2N, pu_ob3N, pu_ob4N, pu_nwN, pu_n1, pu_n7, pu_n31, pu_n255, pu_md, pu_one, pu_sI1, pu_sI2, pu_sA1, pu_sA21, pu_sA222, pu_sAe, pu_sAn, pu_sJ1, pu_sJ21, pu_sJ221, pu_sF1, pu_sF21, pu_sF222, pu_sFe, pu_sFn, pu_upe, pu_upn, Nat.reduceAdd, Nat.reduceSub, Nat.reduceMul, Nat.reduceMod, Nat.reduceAnd, Nat.reducePow, Nat.reduceEqDiff, Nat.add_zero, Nat.zero_add, Bool.false_eq_true, Nat.add_sub_cancel, h8, h6, a2]
      rfl
    · simp (disch := omega) only [↓pu_m1, pu_lit, ↓reduceIte, pu_leT, pu_leF, pu_ltT, pu_ltF, pu_eqT, pu_eqF, pu_eqO, pu_eqO2, pu_ltO, pu_leO, pu_subO, pu_subOF, pu_subT, pu_subF, pu_oobF, pu_clamp, pu_add, pu_sub, pu_mul, pu_and, pu_or, pu_xor, pu_xorO, pu_shl, pu_shr, pu_ushr, pu_nb0, pu_nb1, pu_ob1N, pu_ob2N, pu_ob3N, pu_ob4N, pu_nwN, pu_n1, pu_n7, pu_n31, pu_n255, pu_md, pu_one, pu_sI1, pu_sI2, pu_sA1, pu_sA21, pu_sA222, pu_sAe, pu_sAn, pu_sJ1, pu_sJ21, pu_sJ221, pu_sF1, pu_sF21, pu_sF222, pu_sFe, pu_sFn, pu_upe, pu_upn, Nat.reduceAdd, Nat.reduceSub, Nat.reduceMul, Nat.reduceMod, Nat.reduceAnd, Nat.reducePow, Nat.reduceEqDiff, Nat.add_zero, Nat.zero_add, Bool.false_eq_true, Nat.add_sub_cancel, a4]
      rfl
    · rw [a2] at h; have := (nI_eq (by omega) (by omega)).mp h; omega
  · refine ⟨false, ?_, ?_, fun h => (by cases h), fun h => ?_⟩
    · simp (disch := omega) only [↓pu_m1, pu_lit, ↓reduceIte, pu_leT, pu_leF, pu_ltT, pu_ltF, pu_eqT, pu_eqF, pu_eqO, pu_eqO2, pu_ltO, pu_leO, pu_subO, pu_subOF, pu_subT, pu_subF, pu_oobF, pu_clamp, pu_add, pu_sub, pu_mul, pu_and, pu_or, pu_xor, pu_xorO, pu_shl, pu_shr, pu_ushr, pu_nb0, pu_nb1, pu_ob1N, pu_ob2N, pu_ob3N, pu_ob4N, pu_nwN, pu_n1, pu_n7, pu_n31, pu_n255, pu_md, pu_one, pu_sI1, pu_sI2, pu_sA1, pu_sA21, pu_sA222, pu_sAe, pu_sAn, pu_sJ1, pu_sJ21, pu_sJ221, pu_sF1, pu_sF21, pu_sF222, pu_sFe, pu_sFn, pu_upe, pu_upn, Nat.reduceAdd, Nat.reduceSub, Nat.reduceMul, Nat.reduceMod, Nat.reduceAnd, Nat.reducePow, Nat.reduceEqDiff, Nat.add_zero, Nat.zero_add, Bool.false_eq_true, Nat.add_sub_cancel, h8, h6, a2]
      rfl
    · rcases a4 with ⟨-, a4⟩ | ⟨-, a4⟩
      · simp (disch := omega) only [↓pu_m1, pu_lit, ↓reduceIte, pu_leT, pu_leF, pu_ltT, pu_ltF, pu_eqT, pu_eqF, pu_eqO, pu_eqO2, pu_ltO, pu_leO, pu_subO, pu_subOF, pu_subT, pu_subF, pu_oobF, pu_clamp, pu_add, pu_sub, pu_mul, pu_and, pu_or, pu_xor, pu_xorO, pu_shl, pu_shr, pu_ushr, pu_nb0, pu_nb1, pu_ob1N, pu_ob2N, pu_ob3N, pu_ob4N, pu_nwN, pu_n1, pu_n7, pu_n31, pu_n255, pu_md, pu_one, pu_sI1, pu_sI2, pu_sA1, pu_sA21, pu_sA222, pu_sAe, pu_sAn, pu_sJ1, pu_sJ21, pu_sJ221, pu_sF1, pu_sF21, pu_sF222, pu_sFe, pu_sFn, pu_upe, pu_upn, Nat.reduceAdd, Nat.reduceSub, Nat.reduceMul, Nat.reduceMod, Nat.reduceAnd, Nat.reducePow, Nat.reduceEqDiff, Nat.add_zero, Nat.zero_add, Bool.false_eq_true, Nat.add_sub_cancel, a4]
        rfl
      · simp (disch := omega) only [↓pu_m1, pu_lit, ↓reduceIte, pu_leT, pu_leF, pu_ltT, pu_ltF, pu_eqT, pu_eqF, pu_eqO, pu_eqO2, pu_ltO, pu_leO, pu_subO, pu_subOF, pu_subT, pu_subF, pu_oobF, pu_clamp, pu_add, pu_sub, pu_mul, pu_and, pu_or, pu_xor, pu_xorO, pu_shl, pu_shr, pu_ushr, pu_nb0, pu_nb1, pu_ob1N, pu_ob2N, pu_ob3N, pu_ob4N, pu_nwN, pu_n1, pu_n7, pu_n31, pu_n255, pu_md, pu_one, pu_sI1, pu_sI2, pu_sA1, pu_sA21, pu_sA222, pu_sAe, pu_sAn, pu_sJ1, pu_sJ21, pu_sJ221, pu_sF1, pu_sF21, pu_sF222, pu_sFe, pu_sFn, pu_upe, pu_upn, Nat.reduceAdd, Nat.reduceSub, Nat.reduceMul, Nat.reduceMod, Nat.reduceAnd, Nat.reducePow, Nat.reduceEqDiff, Nat.add_zero, Nat.zero_add, Bool.false_eq_true, Nat.add_sub_cancel, a4]
        rfl
    · rw [a2] at h; have := (nI_eq (by omega) (by omega)).mp h; omega
theorem rd_isMark {c : Nat} (h : OKs R M k) (hc : c < 256) : ∃ t : Bool, F_X5_isMark R (nI c) = some (nI (tn t)) ∧ F_X12_isSign M (nI c) = some (nI (tn t)) ∧ (t = true → R.2.2.1 3 k ≠ nI 40 ∧ R.2.2.1 3 k = nI 38) := by
  obtain ⟨hr, h6, h8⟩ := h
  obtain ⟨k1, -, ht⟩ := rd_tok hr
  unfold F_X5_isMark F_X12_isSign
  rcases ht with ⟨l, a1, a2, a3, a4, a5⟩ | ⟨v, a1, a2, a3, a4, a5⟩ | ⟨d, a1, a2, a3, a4, a5⟩ | ⟨a2, a4⟩ | ⟨a2, a4⟩
  · have hsl := wsort_le l
    refine ⟨false, ?_, ?_, fun h => by cases h⟩
    · simp (disch := omega) only [↓pu_m1, pu_lit, ↓reduceIte, pu_leT, pu_leF, pu_ltT, pu_ltF, pu_eqT, pu_eqF, pu_eqO, pu_eqO2, pu_ltO, pu_leO, pu_subO, pu_subOF, pu_subT, pu_subF, pu_oobF, pu_clamp, pu_add, pu_sub, pu_mul, pu_and, pu_or, pu_xor, pu_xorO, pu_shl, pu_shr, pu_ushr, pu_nb0, pu_nb1, pu_ob1N, pu_ob2N, pu_ob3N, pu_ob4N, pu_nwN, pu_n1, pu_n7, pu_n31, pu_n255, pu_md, pu_one, pu_sI1, pu_sI2, pu_sA1, pu_sA21, pu_sA222, pu_sAe, pu_sAn, pu_sJ1, pu_sJ21, pu_sJ221, pu_sF1, pu_sF21, pu_sF222, pu_sFe, pu_sFn, pu_upe, pu_upn, Nat.reduceAdd, Nat.reduceSub, Nat.reduceMul, Nat.reduceMod, Nat.reduceAnd, Nat.reducePow, Nat.reduceEqDiff, Nat.add_zero, Nat.zero_add, Bool.false_eq_true, Nat.add_sub_cancel, h8, h6, a2]
      rfl
    · simp (disch := omega) only [↓pu_m1, pu_lit, ↓reduceIte, pu_leT, pu_leF, pu_ltT, pu_ltF, pu_eqT, pu_eqF, pu_eqO, pu_eqO2, pu_ltO, pu_leO, pu_subO, pu_subOF, pu_subT, pu_subF, pu_oobF, pu_clamp, pu_add, pu_sub, pu_mul, pu_and, pu_or, pu_xor, pu_xorO, pu_shl, pu_shr, pu_ushr, pu_nb0, pu_nb1, pu_ob1N, pu_ob2N, pu_ob3N, pu_ob4N, pu_nwN, pu_n1, pu_n7, pu_n31, pu_n255, pu_md, pu_one, pu_sI1, pu_sI2, pu_sA1, pu_sA21, pu_sA222, pu_sAe, pu_sAn, pu_sJ1, pu_sJ21, pu_sJ221, pu_sF1, pu_sF21, pu_sF222, pu_sFe, pu_sFn, pu_upe, pu_upn, Nat.reduceAdd, Nat.reduceSub, Nat.reduceMul, Nat.reduceMod, Nat.reduceAnd, Nat.reducePow, Nat.reduceEqDiff, Nat.add_zero, Nat.zero_add, Bool.false_eq_true, Nat.add_sub_cancel, a4]
      rfl
  · refine ⟨false, ?_, ?_, fun h => by cases h⟩
    · simp (disch := omega) only [↓pu_m1, pu_lit, ↓reduceIte, pu_leT, pu_leF, pu_ltT, pu_ltF, pu_eqT, pu_eqF, pu_eqO, pu_eqO2, pu_ltO, pu_leO, pu_subO, pu_subOF, pu_subT, pu_subF, pu_oobF, pu_clamp, pu_add, pu_sub, pu_mul, pu_and, pu_or, pu_xor, pu_xorO, pu_shl, pu_shr, pu_ushr, pu_nb0, pu_nb1, pu_ob1N, pu_ob2N, pu_ob3N, pu_ob4N, pu_nwN, pu_n1, pu_n7, pu_n31, pu_n255, pu_md, pu_one, pu_sI1, pu_sI2, pu_sA1, pu_sA21, pu_sA222, pu_sAe, pu_sAn, pu_sJ1, pu_sJ21, pu_sJ221, pu_sF1, pu_sF21, pu_sF222, pu_sFe, pu_sFn, pu_upe, pu_upn, Nat.reduceAdd, Nat.reduceSub, Nat.reduceMul, Nat.reduceMod, Nat.reduceAnd, Nat.reducePow, Nat.reduceEqDiff, Nat.add_zero, Nat.zero_add, Bool.false_eq_true, Nat.add_sub_cancel, h8, h6, a2]
      rfl
    · simp (disch := omega) only [↓pu_m1, pu_lit, ↓reduceIte, pu_leT, pu_leF, pu_ltT, pu_ltF, pu_eqT, pu_eqF, pu_eqO, pu_eqO2, pu_ltO, pu_leO, pu_subO, pu_subOF, pu_subT, pu_subF, pu_oobF, pu_clamp, pu_add, pu_sub, pu_mul, pu_and, pu_or, pu_xor, pu_xorO, pu_shl, pu_shr, pu_ushr, pu_nb0, pu_nb1, pu_ob1N, pu_ob2N, pu_ob3N, pu_ob4N, pu_nwN, pu_n1, pu_n7, pu_n31, pu_n255, pu_md, pu_one, pu_sI1, pu_sI2, pu_sA1, pu_sA21, pu_sA222, pu_sAe, pu_sAn, pu_sJ1, pu_sJ21, pu_sJ221, pu_sF1, pu_sF21, pu_sF222, pu_sFe, pu_sFn, pu_upe, pu_upn, Nat.reduceAdd, Nat.reduceSub, Nat.reduceMul, Nat.reduceMod, Nat.reduceAnd, Nat.reducePow, Nat.reduceEqDiff, Nat.add_zero, Nat.zero_add, Bool.false_eq_true, Nat.add_sub_cancel, a4]
      rfl
  · have hlg : lg_cmp (lN d) (nI c).toInt64 = 0 ↔ d = c := by
      rw [lgc, nI_l (by omega), pk_lEQ (by omega) (by omega)]
    have hlg' : lg_cmp (lN d) (nI c).toInt64 = nI 0 ↔ d = c := hlg
    by_cases e : d = c
    · have hz := hlg'.mpr e
      refine ⟨true, ?_, ?_, fun _ => ⟨?_, a2⟩⟩
      · simp (disch := omega) only [↓pu_m1, pu_lit, ↓reduceIte, pu_leT, pu_leF, pu_ltT, pu_ltF, pu_eqT, pu_eqF, pu_eqO, pu_eqO2, pu_ltO, pu_leO, pu_subO, pu_subOF, pu_subT, pu_subF, pu_oobF, pu_clamp, pu_add, pu_sub, pu_mul, pu_and, pu_or, pu_xor, pu_xorO, pu_shl, pu_shr, pu_ushr, pu_nb0, pu_nb1, pu_ob1N, pu_ob2N, pu_ob3N, pu_ob4N, pu_nwN, pu_n1, pu_n7, pu_n31, pu_n255, pu_md, pu_one, pu_sI1, pu_sI2, pu_sA1, pu_sA21, pu_sA222, pu_sAe, pu_sAn, pu_sJ1, pu_sJ21, pu_sJ221, pu_sF1, pu_sF21, pu_sF222, pu_sFe, pu_sFn, pu_upe, pu_upn, Nat.reduceAdd, Nat.reduceSub, Nat.reduceMul, Nat.reduceMod, Nat.reduceAnd, Nat.reducePow, Nat.reduceEqDiff, Nat.add_zero, Nat.zero_add, Bool.false_eq_true, Nat.add_sub_cancel, h8, h6, a2, a3, hz]
        rfl
      · simp (disch := omega) only [↓pu_m1, pu_lit, ↓reduceIte, pu_leT, pu_leF, pu_ltT, pu_ltF, pu_eqT, pu_eqF, pu_eqO, pu_eqO2, pu_ltO, pu_leO, pu_subO, pu_subOF, pu_subT, pu_subF, pu_oobF, pu_clamp, pu_add, pu_sub, pu_mul, pu_and, pu_or, pu_xor, pu_xorO, pu_shl, pu_shr, pu_ushr, pu_nb0, pu_nb1, pu_ob1N, pu_ob2N, pu_ob3N, pu_ob4N, pu_nwN, pu_n1, pu_n7, pu_n31, pu_n255, pu_md, pu_one, pu_sI1, pu_sI2, pu_sA1, pu_sA21, pu_sA222, pu_sAe, pu_sAn, pu_sJ1, pu_sJ21, pu_sJ221, pu_sF1, pu_sF21, pu_sF222, pu_sFe, pu_sFn, pu_upe, pu_upn, Nat.reduceAdd, Nat.reduceSub, Nat.reduceMul, Nat.reduceMod, Nat.reduceAnd, Nat.reducePow, Nat.reduceEqDiff, Nat.add_zero, Nat.zero_add, Bool.false_eq_true, Nat.add_sub_cancel, a4, a5, e]
        rfl
      · rw [a2]; decide
    · have hz : ¬ lg_cmp (lN d) (nI c).toInt64 = nI 0 := fun h => e (hlg'.mp h)
      refine ⟨false, ?_, ?_, fun h => by cases h⟩
      · simp (disch := omega) only [↓pu_m1, pu_lit, ↓reduceIte, pu_leT, pu_leF, pu_ltT, pu_ltF, pu_eqT, pu_eqF, pu_eqO, pu_eqO2, pu_ltO, pu_leO, pu_subO, pu_subOF, pu_subT, pu_subF, pu_oobF, pu_clamp, pu_add, pu_sub, pu_mul, pu_and, pu_or, pu_xor, pu_xorO, pu_shl, pu_shr, pu_ushr, pu_nb0, pu_nb1, pu_ob1N, pu_ob2N, pu_ob3N, pu_ob4N, pu_nwN, pu_n1, pu_n7, pu_n31, pu_n255, pu_md, pu_one, pu_sI1, pu_sI2, pu_sA1, pu_sA21, pu_sA222, pu_sAe, pu_sAn, pu_sJ1, pu_sJ21, pu_sJ221, pu_sF1, pu_sF21, pu_sF222, pu_sFe, pu_sFn, pu_upe, pu_upn, Nat.reduceAdd, Nat.reduceSub, Nat.reduceMul, Nat.reduceMod, Nat.reduceAnd, Nat.reducePow, Nat.reduceEqDiff, Nat.add_zero, Nat.zero_add, Bool.false_eq_true, Nat.add_sub_cancel, h8, h6, a2, a3, hz]
        rfl
      · simp (disch := omega) only [↓pu_m1, pu_lit, ↓reduceIte, pu_leT, pu_leF, pu_ltT, pu_ltF, pu_eqT, pu_eqF, pu_eqO, pu_eqO2, pu_ltO, pu_leO, pu_subO, pu_subOF, pu_subT, pu_subF, pu_oobF, pu_clamp, pu_add, pu_sub, pu_mul, pu_and, pu_or, pu_xor, pu_xorO, pu_shl, pu_shr, pu_ushr, pu_nb0, pu_nb1, pu_ob1N, pu_ob2N, pu_ob3N, pu_ob4N, pu_nwN, pu_n1, pu_n7, pu_n31, pu_n255, pu_md, pu_one, pu_sI1, pu_sI2, pu_sA1, pu_sA21, pu_sA222, pu_sAe, pu_sAn, pu_sJ1, pu_sJ21, pu_sJ221, pu_sF1, pu_sF21, pu_sF222, pu_sFe, pu_sFn, pu_upe, pu_upn, Nat.reduceAdd, Nat.reduceSub, Nat.reduceMul, Nat.reduceMod, Nat.reduceAnd, Nat.reducePow, Nat.reduceEqDiff, Nat.add_zero, Nat.zero_add, Bool.false_eq_true, Nat.add_sub_cancel, a4, a5, e]
        rfl
  · refine ⟨false, ?_, ?_, fun h => by cases h⟩
    · simp (disch := omega) only [↓pu_m1, pu_lit, ↓reduceIte, pu_leT, pu_leF, pu_ltT, pu_ltF, pu_eqT, pu_eqF, pu_eqO, pu_eqO2, pu_ltO, pu_leO, pu_subO, pu_subOF, pu_subT, pu_subF, pu_oobF, pu_clamp, pu_add, pu_sub, pu_mul, pu_and, pu_or, pu_xor, pu_xorO, pu_shl, pu_shr, pu_ushr, pu_nb0, pu_nb1, pu_ob1N, pu_ob2N, pu_ob3N, pu_ob4N, pu_nwN, pu_n1, pu_n7, pu_n31, pu_n255, pu_md, pu_one, pu_sI1, pu_sI2, pu_sA1, pu_sA21, pu_sA222, pu_sAe, pu_sAn, pu_sJ1, pu_sJ21, pu_sJ221, pu_sF1, pu_sF21, pu_sF222, pu_sFe, pu_sFn, pu_upe, pu_upn, Nat.reduceAdd, Nat.reduceSub, Nat.reduceMul, Nat.reduceMod, Nat.reduceAnd, Nat.reducePow, Nat.reduceEqDiff, Nat.add_zero, Nat.zero_add, Bool.false_eq_true, Nat.add_sub_cancel, h8, h6, a2]
      rfl
    · simp (disch := omega) only [↓pu_m1, pu_lit, ↓reduceIte, pu_leT, pu_leF, pu_ltT, pu_ltF, pu_eqT, pu_eqF, pu_eqO, pu_eqO2, pu_ltO, pu_leO, pu_subO, pu_subOF, pu_subT, pu_subF, pu_oobF, pu_clamp, pu_add, pu_sub, pu_mul, pu_and, pu_or, pu_xor, pu_xorO, pu_shl, pu_shr, pu_ushr, pu_nb0, pu_nb1, pu_ob1N, pu_ob2N, pu_ob3N, pu_ob4N, pu_nwN, pu_n1, pu_n7, pu_n31, pu_n255, pu_md, pu_one, pu_sI1, pu_sI2, pu_sA1, pu_sA21, pu_sA222, pu_sAe, pu_sAn, pu_sJ1, pu_sJ21, pu_sJ221, pu_sF1, pu_sF21, pu_sF222, pu_sFe, pu_sFn, pu_upe, pu_upn, Nat.reduceAdd, Nat.reduceSub, Nat.reduceMul, Nat.reduceMod, Nat.reduceAnd, Nat.reducePow, Nat.reduceEqDiff, Nat.add_zero, Nat.zero_add, Bool.false_eq_true, Nat.add_sub_cancel, a4]
      rfl
  · refine ⟨false, ?_, ?_, fun h => by cases h⟩
    · simp (disch := omega) only [↓pu_m1, pu_lit, ↓reduceIte, pu_leT, pu_leF, pu_ltT, pu_ltF, pu_eqT, pu_eqF, pu_eqO, pu_eqO2, pu_ltO, pu_leO, pu_subO, pu_subOF, pu_subT, pu_subF, pu_oobF, pu_clamp, pu_add, pu_sub, pu_mul, pu_and, pu_or, pu_xor, pu_xorO, pu_shl, pu_shr, pu_ushr, pu_nb0, pu_nb1, pu_ob1N, pu_ob2N, pu_ob3N, pu_ob4N, pu_nwN, pu_n1, pu_n7, pu_n31, pu_n255, pu_md, pu_one, pu_sI1, pu_sI2, pu_sA1, pu_sA21, pu_sA222, pu_sAe, pu_sAn, pu_sJ1, pu_sJ21, pu_sJ221, pu_sF1, pu_sF21, pu_sF222, pu_sFe, pu_sFn, pu_upe, pu_upn, Nat.reduceAdd, Nat.reduceSub, Nat.reduceMul, Nat.reduceMod, Nat.reduceAnd, Nat.reducePow, Nat.reduceEqDiff, Nat.add_zero, Nat.zero_add, Bool.false_eq_true, Nat.add_sub_cancel, h8, h6, a2]
      rfl
    · rcases a4 with ⟨-, a4⟩ | ⟨-, a4⟩
      · simp (disch := omega) only [↓pu_m1, pu_lit, ↓reduceIte, pu_leT, pu_leF, pu_ltT, pu_ltF, pu_eqT, pu_eqF, pu_eqO, pu_eqO2, pu_ltO, pu_leO, pu_subO, pu_subOF, pu_subT, pu_subF, pu_oobF, pu_clamp, pu_add, pu_sub, pu_mul, pu_and, pu_or, pu_xor, pu_xorO, pu_shl, pu_shr, pu_ushr, pu_nb0, pu_nb1, pu_ob1N, pu_ob2N, pu_ob3N, pu_ob4N, pu_nwN, pu_n1, pu_n7, pu_n31, pu_n255, pu_md, pu_one, pu_sI1, pu_sI2, pu_sA1, pu_sA21, pu_sA222, pu_sAe, pu_sAn, pu_sJ1, pu_sJ21, pu_sJ221, pu_sF1, pu_sF21, pu_sF222, pu_sFe, pu_sFn, pu_upe, pu_upn, Nat.reduceAdd, Nat.reduceSub, Nat.reduceMul, Nat.reduceMod, Nat.reduceAnd, Nat.reducePow, Nat.reduceEqDiff, Nat.add_zero, Nat.zero_add, Bool.false_eq_true, Nat.add_sub_cancel, a4]
        rfl
      · simp (disch := omega) only [↓pu_m1, pu_lit, ↓reduceIte, pu_leT, pu_leF, pu_ltT, pu_ltF, pu_eqT, pu_eqF, pu_eqO, pu_eqO2, pu_ltO, pu_leO, pu_subO, pu_subOF, pu_subT, pu_subF, pu_oobF, pu_clamp, pu_add, pu_sub, pu_mul, pu_and, pu_or, pu_xor, pu_xorO, pu_shl, pu_shr, pu_ushr, pu_nb0, pu_nb1, pu_ob1N, pu_ob2N, pu_ob3N, pu_ob4N, pu_nwN, pu_n1, pu_n7, pu_n31, pu_n255, pu_md, pu_one, pu_sI1, pu_sI2, pu_sA1, pu_sA21, pu_sA222, pu_sAe, pu_sAn, pu_sJ1, pu_sJ21, pu_sJ221, pu_sF1, pu_sF21, pu_sF222, pu_sFe, pu_sFn, pu_upe, pu_upn, Nat.reduceAdd, Nat.reduceSub, Nat.reduceMul, Nat.reduceMod, Nat.reduceAnd, Nat.reducePow, Nat.reduceEqDiff, Nat.add_zero, Nat.zero_add, Bool.false_eq_true, Nat.add_sub_cancel, a4]
        rfl
theorem rd_nextC (h : OKs R M k) (hne : R.2.2.1 3 k ≠ nI 40) : F_X5_next R = some (sI R 6 (nI (k + 1))) := by
  have hk := ok_k h
  obtain ⟨hr, h6, h8⟩ := h
  unfold F_X5_next
  simp (disch := omega) only [↓pu_m1, pu_lit, ↓reduceIte, pu_leT, pu_leF, pu_ltT, pu_ltF, pu_eqT, pu_eqF, pu_eqO, pu_eqO2, pu_ltO, pu_leO, pu_subO, pu_subOF, pu_subT, pu_subF, pu_oobF, pu_clamp, pu_add, pu_sub, pu_mul, pu_and, pu_or, pu_xor, pu_xorO, pu_shl, pu_shr, pu_ushr, pu_nb0, pu_nb1, pu_ob1N, pu_ob2N, pu_ob3N, pu_ob4N, pu_nwN, pu_n1, pu_n7, pu_n31, pu_n255, pu_md, pu_one, pu_sI1, pu_sI2, pu_sA1, pu_sA21, pu_sA222, pu_sAe, pu_sAn, pu_sJ1, pu_sJ21, pu_sJ221, pu_sF1, pu_sF21, pu_sF222, pu_sFe, pu_sFn, pu_upe, pu_upn, Nat.reduceAdd, Nat.reduceSub, Nat.reduceMul, Nat.reduceMod, Nat.reduceAnd, Nat.reducePow, Nat.reduceEqDiff, Nat.add_zero, Nat.zero_add, Bool.false_eq_true, Nat.add_sub_cancel, h6, hne]
theorem rd_step (h : OKs R M k) (hne : R.2.2.1 3 k ≠ nI 40) : ∃ M', F_X12_next M = some M' ∧ OKs (sI R 6 (nI (k + 1))) M' (k + 1) ∧ FR [4, 11, 12, 13, 14] [] [] M M' := by
  obtain ⟨hr, h6, h8⟩ := h
  obtain ⟨M', a1, a2, a3⟩ := rd_next hr hne
  exact ⟨M', a1, ⟨rd_R a2 rfl rfl, rfl, h8⟩, a3⟩
theorem rd_fail {f : Nat} (h : OKs R M k) (h1 : 1 ≤ f) (h4 : f ≤ 4) : ∃ R' M', F_X5_fail R (nI f) = some R' ∧ F_X12_bad M (nI f) = some (nI 0, M') ∧ FLT R' M' ∧ FR [15, 16] [] [] M M' := by
  have hk := ok_k h
  obtain ⟨hr, h6, h8⟩ := h
  obtain ⟨-, ⟨a, ha, a1, a2⟩, -⟩ := rd_tok hr
  refine ⟨sI (sI R 8 (nI f)) 9 (nI a), sI (sI M 15 (nI f)) 16 (nI a), ?_, ?_, ⟨⟨f, k, h1, h4, rfl, h6, hk⟩, rfl, rfl⟩, (FR.sI (by decide)).tr (FR.sI (by decide))⟩
  · unfold F_X5_fail
    simp (disch := omega) only [↓pu_m1, pu_lit, ↓reduceIte, pu_leT, pu_leF, pu_ltT, pu_ltF, pu_eqT, pu_eqF, pu_eqO, pu_eqO2, pu_ltO, pu_leO, pu_subO, pu_subOF, pu_subT, pu_subF, pu_oobF, pu_clamp, pu_add, pu_sub, pu_mul, pu_and, pu_or, pu_xor, pu_xorO, pu_shl, pu_shr, pu_ushr, pu_nb0, pu_nb1, pu_ob1N, pu_ob2N, pu_ob3N, pu_ob4N, pu_nwN, pu_n1, pu_n7, pu_n31, pu_n255, pu_md, pu_one, pu_sI1, pu_sI2, pu_sA1, pu_sA21, pu_sA222, pu_sAe, pu_sAn, pu_sJ1, pu_sJ21, pu_sJ221, pu_sF1, pu_sF21, pu_sF222, pu_sFe, pu_sFn, pu_upe, pu_upn, Nat.reduceAdd, Nat.reduceSub, Nat.reduceMul, Nat.reduceMod, Nat.reduceAnd, Nat.reducePow, Nat.reduceEqDiff, Nat.add_zero, Nat.zero_add, Bool.false_eq_true, Nat.add_sub_cancel, h8, h6, a1]
  · unfold F_X12_bad
    simp (disch := omega) only [↓pu_m1, pu_lit, ↓reduceIte, pu_leT, pu_leF, pu_ltT, pu_ltF, pu_eqT, pu_eqF, pu_eqO, pu_eqO2, pu_ltO, pu_leO, pu_subO, pu_subOF, pu_subT, pu_subF, pu_oobF, pu_clamp, pu_add, pu_sub, pu_mul, pu_and, pu_or, pu_xor, pu_xorO, pu_shl, pu_shr, pu_ushr, pu_nb0, pu_nb1, pu_ob1N, pu_ob2N, pu_ob3N, pu_ob4N, pu_nwN, pu_n1, pu_n7, pu_n31, pu_n255, pu_md, pu_one, pu_sI1, pu_sI2, pu_sA1, pu_sA21, pu_sA222, pu_sAe, pu_sAn, pu_sJ1, pu_sJ21, pu_sJ221, pu_sF1, pu_sF21, pu_sF222, pu_sFe, pu_sFn, pu_upe, pu_upn, Nat.reduceAdd, Nat.reduceSub, Nat.reduceMul, Nat.reduceMod, Nat.reduceAnd, Nat.reducePow, Nat.reduceEqDiff, Nat.add_zero, Nat.zero_add, Bool.false_eq_true, Nat.add_sub_cancel, a2]
/-- names -/
def nmA (l : List Nat) : Nat → Bool
  | 0 => true
  | i + 1 => nmA l i && !(wl (pm i) == l)
theorem nmA_iff (l : List Nat) : ∀ n, nmA l n = true ↔ ∀ i, i < n → wl (pm i) ≠ l := by
  intro n
  induction n with
  | zero => exact ⟨fun _ i hi => by omega, fun _ => rfl⟩
  | succ n ih =>
    simp only [nmA, Bool.and_eq_true, ih, Bool.not_eq_true', beq_eq_false_iff_ne]
    constructor
    · intro ⟨h1, h2⟩ i hi
      by_cases e : i = n
      · rw [e]; exact h2
      · exact h1 i (by omega)
    · intro h
      exact ⟨fun i hi => h i (by omega), h n (by omega)⟩
theorem nm_36 (l : List Nat) : nmA l 36 = true ↔ wsort l = 36 := by
  rw [nmA_iff]
  constructor
  · intro h
    have h1 := wsort_le l
    apply Classical.byContradiction
    intro hne
    have hw := wsort_at (l := l) rfl (by omega : wsort l < 36)
    obtain ⟨i, hi, hp⟩ := pm_onto (wsort l) (by omega)
    exact h i hi (by rw [hp]; exact hw)
  · intro h i hi e
    have := wsort_wl (pm i) (pm_lt i hi)
    rw [e, h] at this
    have := pm_lt i hi
    omega
theorem x12_nameL (hW : MW M) {l : List Nat} (ho : OKl l) (h17 : M.2.1 17 = lN (r256 l)) (s0 : Bool) : L_X12_isName_16 (nI (tn s0)) 0 M = some (nI (tn (s0 && nmA l 36))) := by
  have e1 := OK_256 ho
  unfold L_X12_isName_16
  have key := lp_up (body := fun kz z => F_X12_isName_16 kz z.1 z.2.1 z.2.2) (fun i => (nI (tn (s0 && nmA l i)), nI i, M)) 36 (o := nI (tn (s0 && nmA l 36))) (fun i hi kk => ?_) (fun kk => ?_) (pu_FU (by omega : 36 < 1000000))
  · rw [show (s0 && nmA l 0) = s0 from Bool.and_true s0] at key
    exact key
  · have hpi := pm_lt i hi
    have e2 := OK_256 (wl_OK hpi)
    have hlg : lg_cmp (M.2.1 17) (M.2.2.2 10 i) = 0 ↔ wl (pm i) = l := by
      rw [h17, hW i hi, lgc, pk_lEQ (by omega) (by omega)]
      exact ⟨fun e => (r256_inj _ _ ho.2 (wl_OK hpi).2 e).symm, fun e => by rw [e]⟩
    show F_X12_isName_16 kk (nI (tn (s0 && nmA l i))) (nI i) M = _
    unfold F_X12_isName_16 F_X12_isName_44 F_X12_isName_45
    simp only [nmA]
    rw [if_neg (show ¬ (36 : Int32) ≤ nI i from nI_ge (a := i) (b := 36) hi (by omega)), nI_1]
    cases hs : (s0 && nmA l i) with
    | false =>
      rw [if_pos (by decide)]
      have : (s0 && (nmA l i && !(wl (pm i) == l))) = false := by rw [← Bool.and_assoc, hs]; rfl
      rw [this]
      rfl
    | true =>
      have h2 : (s0 && (nmA l i && !(wl (pm i) == l))) = !(wl (pm i) == l) := by rw [← Bool.and_assoc, hs]; rfl
      rw [if_neg (by decide), if_neg (by rw [pu_oobF hi (by omega)]; exact id), pu_clamp (by omega), h2]
      by_cases e : wl (pm i) = l
      · rw [if_pos (hlg.mpr e)]
        have : (wl (pm i) == l) = true := by simpa using e
        rw [this]
        rfl
      · rw [if_neg (fun h => e (hlg.mp h))]
        have : (wl (pm i) == l) = false := by simpa using e
        rw [this]
        rfl
  · show F_X12_isName_16 kk (nI (tn (s0 && nmA l 36))) (nI 36) M = _
    unfold F_X12_isName_16
    rw [if_pos (by decide), if_neg (nb_tn _)]
theorem x12_nameN : L_X12_isName_16 0 0 M = some (nI 0) := by
  unfold L_X12_isName_16
  refine lp_up (fun i => (nI 0, nI i, M)) 36 (fun i hi kk => ?_) (fun kk => ?_) (pu_FU (by omega))
  · show F_X12_isName_16 kk (nI 0) (nI i) M = _
    unfold F_X12_isName_16 F_X12_isName_44 F_X12_isName_45
    rw [if_neg (show ¬ (36 : Int32) ≤ nI i from nI_ge (a := i) (b := 36) hi (by omega)), if_pos (by decide), nI_1]
    rfl
  · show F_X12_isName_16 kk (nI 0) (nI 36) M = _
    unfold F_X12_isName_16
    rw [if_pos (by decide), if_neg (fun h => h (Or.inl rfl))]
theorem rd_isName (h : OKs R M k) (hW : MW M) : ∃ t : Bool, F_X5_isName R = some (nI (tn t)) ∧ F_X12_isName M = some (nI (tn t)) ∧ (t = true → R.2.2.1 3 k ≠ nI 40 ∧ NM (R.2.2.2 4 k) (M.2.1 17)) := by
  obtain ⟨hr, h6, h8⟩ := h
  obtain ⟨k1, -, ht⟩ := rd_tok hr
  unfold F_X5_isName F_X12_isName F_X12_isName_13
  rcases ht with ⟨l, a1, a2, a3, a4, a5⟩ | ⟨v, a1, a2, a3, a4, a5⟩ | ⟨d, a1, a2, a3, a4, a5⟩ | ⟨a2, a4⟩ | ⟨a2, a4⟩
  · have hsl := wsort_le l
    have hL := x12_nameL hW a1 a5 true
    have hL : L_X12_isName_16 (nI 1) 0 M = some (nI (tn (nmA l 36))) := hL
    refine ⟨nmA l 36, ?_, ?_, fun ht => ⟨?_, l, a1, a3, a5⟩⟩
    · cases hn : nmA l 36 with
      | true =>
        have hs := (nm_36 l).mp hn
        rw [hs] at a2
        simp (disch := omega) only [↓pu_m1, pu_lit, ↓reduceIte, pu_leT, pu_leF, pu_ltT, pu_ltF, pu_eqT, pu_eqF, pu_eqO, pu_eqO2, pu_ltO, pu_leO, pu_subO, pu_subOF, pu_subT, pu_subF, pu_oobF, pu_clamp, pu_add, pu_sub, pu_mul, pu_and, pu_or, pu_xor, pu_xorO, pu_shl, pu_shr, pu_ushr, pu_nb0, pu_nb1, pu_ob1N, pu_ob2N, pu_ob3N, pu_ob4N, pu_nwN, pu_n1, pu_n7, pu_n31, pu_n255, pu_md, pu_one, pu_sI1, pu_sI2, pu_sA1, pu_sA21, pu_sA222, pu_sAe, pu_sAn, pu_sJ1, pu_sJ21, pu_sJ221, pu_sF1, pu_sF21, pu_sF222, pu_sFe, pu_sFn, pu_upe, pu_upn, Nat.reduceAdd, Nat.reduceSub, Nat.reduceMul, Nat.reduceMod, Nat.reduceAnd, Nat.reducePow, Nat.reduceEqDiff, Nat.add_zero, Nat.zero_add, Bool.false_eq_true, Nat.add_sub_cancel, h8, h6, a2]
        rfl
      | false =>
        have hs : wsort l ≠ 36 := fun e => by have := (nm_36 l).mpr e; rw [hn] at this; cases this
        simp (disch := omega) only [↓pu_m1, pu_lit, ↓reduceIte, pu_leT, pu_leF, pu_ltT, pu_ltF, pu_eqT, pu_eqF, pu_eqO, pu_eqO2, pu_ltO, pu_leO, pu_subO, pu_subOF, pu_subT, pu_subF, pu_oobF, pu_clamp, pu_add, pu_sub, pu_mul, pu_and, pu_or, pu_xor, pu_xorO, pu_shl, pu_shr, pu_ushr, pu_nb0, pu_nb1, pu_ob1N, pu_ob2N, pu_ob3N, pu_ob4N, pu_nwN, pu_n1, pu_n7, pu_n31, pu_n255, pu_md, pu_one, pu_sI1, pu_sI2, pu_sA1, pu_sA21, pu_sA222, pu_sAe, pu_sAn, pu_sJ1, pu_sJ21, pu_sJ221, pu_sF1, pu_sF21, pu_sF222, pu_sFe, pu_sFn, pu_upe, pu_upn, Nat.reduceAdd, Nat.reduceSub, Nat.reduceMul, Nat.reduceMod, Nat.reduceAnd, Nat.reducePow, Nat.reduceEqDiff, Nat.add_zero, Nat.zero_add, Bool.false_eq_true, Nat.add_sub_cancel, h8, h6, a2]
        rfl
    · rw [a4, if_pos (by decide)]; exact hL
    · have hs := (nm_36 l).mp ht
      rw [a2, hs]; decide
  · refine ⟨false, ?_, ?_, fun h => by cases h⟩
    · simp (disch := omega) only [↓pu_m1, pu_lit, ↓reduceIte, pu_leT, pu_leF, pu_ltT, pu_ltF, pu_eqT, pu_eqF, pu_eqO, pu_eqO2, pu_ltO, pu_leO, pu_subO, pu_subOF, pu_subT, pu_subF, pu_oobF, pu_clamp, pu_add, pu_sub, pu_mul, pu_and, pu_or, pu_xor, pu_xorO, pu_shl, pu_shr, pu_ushr, pu_nb0, pu_nb1, pu_ob1N, pu_ob2N, pu_ob3N, pu_ob4N, pu_nwN, pu_n1, pu_n7, pu_n31, pu_n255, pu_md, pu_one, pu_sI1, pu_sI2, pu_sA1, pu_sA21, pu_sA222, pu_sAe, pu_sAn, pu_sJ1, pu_sJ21, pu_sJ221, pu_sF1, pu_sF21, pu_sF222, pu_sFe, pu_sFn, pu_upe, pu_upn, Nat.reduceAdd, Nat.reduceSub, Nat.reduceMul, Nat.reduceMod, Nat.reduceAnd, Nat.reducePow, Nat.reduceEqDiff, Nat.add_zero, Nat.zero_add, Bool.false_eq_true, Nat.add_sub_cancel, h8, h6, a2]
      rfl
    · rw [a4, if_neg (by decide)]; exact x12_nameN
  · refine ⟨false, ?_, ?_, fun h => by cases h⟩
    · simp (disch := omega) only [↓pu_m1, pu_lit, ↓reduceIte, pu_leT, pu_leF, pu_ltT, pu_ltF, pu_eqT, pu_eqF, pu_eqO, pu_eqO2, pu_ltO, pu_leO, pu_subO, pu_subOF, pu_subT, pu_subF, pu_oobF, pu_clamp, pu_add, pu_sub, pu_mul, pu_and, pu_or, pu_xor, pu_xorO, pu_shl, pu_shr, pu_ushr, pu_nb0, pu_nb1, pu_ob1N, pu_ob2N, pu_ob3N, pu_ob4N, pu_nwN, pu_n1, pu_n7, pu_n31, pu_n255, pu_md, pu_one, pu_sI1, pu_sI2, pu_sA1, pu_sA21, pu_sA222, pu_sAe, pu_sAn, pu_sJ1, pu_sJ21, pu_sJ221, pu_sF1, pu_sF21, pu_sF222, pu_sFe, pu_sFn, pu_upe, pu_upn, Nat.reduceAdd, Nat.reduceSub, Nat.reduceMul, Nat.reduceMod, Nat.reduceAnd, Nat.reducePow, Nat.reduceEqDiff, Nat.add_zero, Nat.zero_add, Bool.false_eq_true, Nat.add_sub_cancel, h8, h6, a2]
      rfl
    · rw [a4, if_neg (by decide)]; exact x12_nameN
  · refine ⟨false, ?_, ?_, fun h => by cases h⟩
    · simp (disch := omega) only [↓pu_m1, pu_lit, ↓reduceIte, pu_leT, pu_leF, pu_ltT, pu_ltF, pu_eqT, pu_eqF, pu_eqO, pu_eqO2, pu_ltO, pu_leO, pu_subO, pu_subOF, pu_subT, pu_subF, pu_oobF, pu_clamp, pu_add, pu_sub, pu_mul, pu_and, pu_or, pu_xor, pu_xorO, pu_shl, pu_shr, pu_ushr, pu_nb0, pu_nb1, pu_ob1N, pu_ob2N, pu_ob3N, pu_ob4N, pu_nwN, pu_n1, pu_n7, pu_n31, pu_n255, pu_md, pu_one, pu_sI1, pu_sI2, pu_sA1, pu_sA21, pu_sA222, pu_sAe, pu_sAn, pu_sJ1, pu_sJ21, pu_sJ221, pu_sF1, pu_sF21, pu_sF222, pu_sFe, pu_sFn, pu_upe, pu_upn, Nat.reduceAdd, Nat.reduceSub, Nat.reduceMul, Nat.reduceMod, Nat.reduceAnd, Nat.reducePow, Nat.reduceEqDiff, Nat.add_zero, Nat.zero_add, Bool.false_eq_true, Nat.add_sub_cancel, h8, h6, a2]
      rfl
    · rw [a4, if_neg (by decide)]; exact x12_nameN
  · refine ⟨false, ?_, ?_, fun h => by cases h⟩
    · simp (disch := omega) only [↓pu_m1, pu_lit, ↓reduceIte, pu_leT, pu_leF, pu_ltT, pu_ltF, pu_eqT, pu_eqF, pu_eqO, pu_eqO2, pu_ltO, pu_leO, pu_subO, pu_subOF, pu_subT, pu_subF, pu_oobF, pu_clamp, pu_add, pu_sub, pu_mul, pu_and, pu_or, pu_xor, pu_xorO, pu_shl, pu_shr, pu_ushr, pu_nb0, pu_nb1, pu_ob1N, pu_ob2N, pu_ob3N, pu_ob4N, pu_nwN, pu_n1, pu_n7, pu_n31, pu_n255, pu_md, pu_one, pu_sI1, pu_sI2, pu_sA1, pu_sA21, pu_sA222, pu_sAe, pu_sAn, pu_sJ1, pu_sJ21, pu_sJ221, pu_sF1, pu_sF21, pu_sF222, pu_sFe, pu_sFn, pu_upe, pu_upn, Nat.reduceAdd, Nat.reduceSub, Nat.reduceMul, Nat.reduceMod, Nat.reduceAnd, Nat.reducePow, Nat.reduceEqDiff, Nat.add_zero, Nat.zero_add, Bool.false_eq_true, Nat.add_sub_cancel, h8, h6, a2]
      rfl
    · rcases a4 with ⟨-, a4⟩ | ⟨-, a4⟩
      · rw [a4, if_neg (by decide)]; exact x12_nameN
      · rw [a4, if_neg (by decide)]; exact x12_nameN
/-- one of some words -/
theorem x12_oneW (hW : MW M) {l : List Nat} (ho : OKl l) (h11 : M.1 11 = nI 1) (h17 : M.2.1 17 = lN (r256 l)) {fr fi m : Nat} (hm : m ≤ 8) (hpm : ∀ j, j < m → fr + j < 36 ∧ fi + j < 36 ∧ pm (fr + j) = fi + j) : F_X12_isOneOf M (nI fr) (nI m) = if fs (fun j => wl (fi + j) == l) m 0 < m then some (nI 1, sI M 18 (nI (fs (fun j => wl (fi + j) == l) m 0))) else (ob2 (F_X12_bad (sI M 18 nO) 1) fun r4 U5 => if r4 = 0 then some (0, U5) else F_X12_isOneOf_69 U5) := by
  have e1 := OK_256 ho
  unfold F_X12_isOneOf L_X12_isOneOf_7
  rw [pu_nwN]
  have key := lp_upO (body := fun kz z => F_X12_isOneOf_7 kz z.1 z.2.1 z.2.2.1 z.2.2.2) (fun i => (nI fr, nI m, nI i, sI M 18 (wI i (fs (fun j => wl (fi + j) == l) i 0)))) m (o := if fs (fun j => wl (fi + j) == l) m 0 < m then some (nI 1, sI M 18 (nI (fs (fun j => wl (fi + j) == l) m 0))) else (ob2 (F_X12_bad (sI M 18 nO) 1) fun r4 U5 => if r4 = 0 then some (0, U5) else F_X12_isOneOf_69 U5)) (fun i hi kk => ?_) (fun kk => ?_) (pu_FU (by omega : m < 1000000))
  · exact key
  · obtain ⟨p1, p2, p3⟩ := hpm i hi
    have e2 := OK_256 (wl_OK p2)
    have hlg : lg_cmp (M.2.1 17) (M.2.2.2 10 (fr + i)) = 0 ↔ wl (fi + i) = l := by
      rw [h17, hW (fr + i) p1, p3, lgc, pk_lEQ (by omega) (by omega)]
      exact ⟨fun e => (r256_inj _ _ ho.2 (wl_OK p2).2 e).symm, fun e => by rw [e]⟩
    have hsn := fs_snoc (fun j => wl (fi + j) == l) i 0
    rw [Nat.zero_add] at hsn
    show F_X12_isOneOf_7 kk (nI fr) (nI m) (nI i) (sI M 18 (wI i (fs (fun j => wl (fi + j) == l) i 0))) = kk (nI fr, nI m, nI (i + 1), sI M 18 (wI (i + 1) (fs (fun j => wl (fi + j) == l) (i + 1) 0)))
    unfold F_X12_isOneOf_7 F_X12_isOneOf_41 F_X12_isOneOf_45
    have h11' : (sI M 18 (wI i (fs (fun j => wl (fi + j) == l) i 0))).1 11 = nI 1 := h11
    rw [if_neg (nI_ge hi (by omega)), h11', if_pos (by decide), pu_add, if_neg (by rw [pu_oobF p1 (by omega)]; exact id), pu_clamp (by omega), nI_1]
    have hlg' : lg_cmp ((sI M 18 (wI i (fs (fun j => wl (fi + j) == l) i 0))).2.1 17) ((sI M 18 (wI i (fs (fun j => wl (fi + j) == l) i 0))).2.2.2 10 (fr + i)) = 0 ↔ wl (fi + i) = l := hlg
    have hfl := (fs_le (fun j => wl (fi + j) == l) i 0).2
    by_cases e : wl (fi + i) = l
    · have hnone : ¬ fs (fun j => wl (fi + j) == l) i 0 < i := fun hlt => by
        have hat := fs_at (fun j => wl (fi + j) == l) i 0 (by omega)
        have hat : wl (fi + fs (fun j => wl (fi + j) == l) i 0) = l := by simpa using hat
        have hpj := (hpm (fs (fun j => wl (fi + j) == l) i 0) (by omega)).2.1
        have := wl_inj hpj p2 (hat.trans e.symm)
        omega
      rw [if_pos (hlg'.mpr e), pu_nwN, sI_sI]
      rw [if_neg hnone, if_pos (by simpa using e)] at hsn
      rw [hsn, wI_lt (by omega)]
    · rw [if_neg (fun h => e (hlg'.mp h)), pu_nwN, sI_same]
      have hP : ¬ (wl (fi + i) == l) = true := by simpa using e
      by_cases hlt : fs (fun j => wl (fi + j) == l) i 0 < i
      · rw [if_pos hlt] at hsn
        rw [hsn, wI_lt hlt, wI_lt (by omega)]
      · rw [if_neg hlt, if_neg hP] at hsn
        rw [hsn, wI_ge (by omega), wI_ge (by omega)]
  · have hfl := (fs_le (fun j => wl (fi + j) == l) m 0).2
    show F_X12_isOneOf_7 kk (nI fr) (nI m) (nI m) (sI M 18 (wI m (fs (fun j => wl (fi + j) == l) m 0))) = _
    unfold F_X12_isOneOf_7
    rw [if_pos (nI_le (Nat.le_refl _) (by omega))]
    by_cases hlt : fs (fun j => wl (fi + j) == l) m 0 < m
    · rw [if_pos hlt, wI_lt hlt]
      have : (sI M 18 (nI (fs (fun j => wl (fi + j) == l) m 0))).1 18 = nI (fs (fun j => wl (fi + j) == l) m 0) := rfl
      rw [this, if_pos (nI_pos' (by omega))]
      rfl
    · rw [if_neg hlt, wI_ge (by omega)]
      have : (sI M 18 nO).1 18 = nO := rfl
      rw [this, if_neg (by decide)]
theorem x12_oneN {fr m : Nat} (hm : m ≤ 8) (hf : fr < 36) (h11 : ∃ t, t ≠ 1 ∧ t ≤ 4 ∧ M.1 11 = nI t) : F_X12_isOneOf M (nI fr) (nI m) = (ob2 (F_X12_bad (sI M 18 nO) 1) fun r4 U5 => if r4 = 0 then some (0, U5) else F_X12_isOneOf_69 U5) := by
  obtain ⟨t, t1, t2, t3⟩ := h11
  unfold F_X12_isOneOf L_X12_isOneOf_7
  rw [pu_nwN]
  refine lp_upO (fun i => (nI fr, nI m, nI i, sI M 18 nO)) m (fun i hi kk => ?_) (fun kk => ?_) (pu_FU (by omega : m < 1000000))
  · show F_X12_isOneOf_7 kk (nI fr) (nI m) (nI i) (sI M 18 nO) = _
    unfold F_X12_isOneOf_7 F_X12_isOneOf_41 F_X12_isOneOf_45
    have h11' : (sI M 18 nO).1 11 = nI t := t3
    rw [if_neg (nI_ge hi (by omega)), h11', if_neg (show ¬ nI t = (1 : Int32) from fun e => t1 ((nI_eq (b := 1) (by omega) (by omega)).mp e)), pu_nwN, sI_same, nI_1]
  · show F_X12_isOneOf_7 kk (nI fr) (nI m) (nI m) (sI M 18 nO) = _
    unfold F_X12_isOneOf_7
    have : (sI M 18 nO).1 18 = nO := rfl
    rw [if_pos (nI_le (Nat.le_refl _) (by omega)), this, if_neg (by decide)]
theorem rd_from (h : OKs R M k) (hW : MW M) {fr fi m : Nat} (hm : m ≤ 8) (h0 : fr < 36) (hfi : fi + m ≤ 36) (hpm : ∀ j, j < m → fr + j < 36 ∧ fi + j < 36 ∧ pm (fr + j) = fi + j) : (∃ j, j < m ∧ F_X5_isWordFrom R (nI fi) (nI m) = some (nI 1) ∧ R.2.2.1 3 k = nI (fi + j) ∧ F_X12_isOneOf M (nI fr) (nI m) = some (nI 1, sI M 18 (nI j)) ∧ R.2.2.1 3 k ≠ nI 40) ∨ (F_X5_isWordFrom R (nI fi) (nI m) = some (nI 0) ∧ ∃ R' M', F_X5_fail R (nI 1) = some R' ∧ F_X12_isOneOf M (nI fr) (nI m) = some (nI 0, M') ∧ FLT R' M' ∧ FR [15, 16, 18] [] [] M M') := by
  have h' := h
  have hk := ok_k h
  obtain ⟨hr, h6, h8⟩ := h
  obtain ⟨-, ⟨a, ha, b1, b2⟩, ht⟩ := rd_tok hr
  have hbad : ∃ R' M', F_X5_fail R (nI 1) = some R' ∧ (ob2 (F_X12_bad (sI M 18 nO) 1) fun r4 U5 => if r4 = 0 then some (0, U5) else F_X12_isOneOf_69 U5) = some (nI 0, M') ∧ FLT R' M' ∧ FR [15, 16, 18] [] [] M M' := by
    have hO : OKs R (sI M 18 nO) k := ⟨rd_M hr (FR.sI (ni := [18]) (na := []) (nl := []) (by decide)) rfl (by decide) (by decide) (by decide) (by decide) (by decide) (by decide) (by decide), h6, h8⟩
    obtain ⟨R', M', c1, c2, c3, c4⟩ := rd_fail (f := 1) hO (by omega) (by omega)
    refine ⟨R', M', c1, ?_, c3, (FR.sI (by decide)).tr (c4.mono (by decide) (by decide) (by decide))⟩
    rw [show (1 : Int32) = nI 1 from rfl, c2, pu_ob2N, if_pos (by decide)]
    rfl
  have hno : (∃ t, t ≠ 1 ∧ t ≤ 4 ∧ M.1 11 = nI t) → (∃ s, s ≤ 40 ∧ (s < fi ∨ fi + m ≤ s) ∧ R.2.2.1 3 k = nI s) → F_X5_isWordFrom R (nI fi) (nI m) = some (nI 0) ∧ ∃ R' M', F_X5_fail R (nI 1) = some R' ∧ F_X12_isOneOf M (nI fr) (nI m) = some (nI 0, M') ∧ FLT R' M' ∧ FR [15, 16, 18] [] [] M M' := by
    intro ht1 ⟨s, s1, s2, s3⟩
    rw [x12_oneN hm h0 ht1]
    refine ⟨?_, hbad⟩
    unfold F_X5_isWordFrom
    by_cases hlt : s < fi
    · simp (disch := omega) only [↓pu_m1, pu_lit, ↓reduceIte, pu_leT, pu_leF, pu_ltT, pu_ltF, pu_eqT, pu_eqF, pu_eqO, pu_eqO2, pu_ltO, pu_leO, pu_subO, pu_subOF, pu_subT, pu_subF, pu_oobF, pu_clamp, pu_add, pu_sub, pu_mul, pu_and, pu_or, pu_xor, pu_xorO, pu_shl, pu_shr, pu_ushr, pu_nb0, pu_nb1, pu_ob1N, pu_ob2N, pu_ob3N, pu_ob4N, pu_nwN, pu_n1, pu_n7, pu_n31, pu_n255, pu_md, pu_one, pu_sI1, pu_sI2, pu_sA1, pu_sA21, pu_sA222, pu_sAe, pu_sAn, pu_sJ1, pu_sJ21, pu_sJ221, pu_sF1, pu_sF21, pu_sF222, pu_sFe, pu_sFn, pu_upe, pu_upn, Nat.reduceAdd, Nat.reduceSub, Nat.reduceMul, Nat.reduceMod, Nat.reduceAnd, Nat.reducePow, Nat.reduceEqDiff, Nat.add_zero, Nat.zero_add, Bool.false_eq_true, Nat.add_sub_cancel, h8, h6, s3]
    · simp (disch := omega) only [↓pu_m1, pu_lit, ↓reduceIte, pu_leT, pu_leF, pu_ltT, pu_ltF, pu_eqT, pu_eqF, pu_eqO, pu_eqO2, pu_ltO, pu_leO, pu_subO, pu_subOF, pu_subT, pu_subF, pu_oobF, pu_clamp, pu_add, pu_sub, pu_mul, pu_and, pu_or, pu_xor, pu_xorO, pu_shl, pu_shr, pu_ushr, pu_nb0, pu_nb1, pu_ob1N, pu_ob2N, pu_ob3N, pu_ob4N, pu_nwN, pu_n1, pu_n7, pu_n31, pu_n255, pu_md, pu_one, pu_sI1, pu_sI2, pu_sA1, pu_sA21, pu_sA222, pu_sAe, pu_sAn, pu_sJ1, pu_sJ21, pu_sJ221, pu_sF1, pu_sF21, pu_sF222, pu_sFe, pu_sFn, pu_upe, pu_upn, Nat.reduceAdd, Nat.reduceSub, Nat.reduceMul, Nat.reduceMod, Nat.reduceAnd, Nat.reducePow, Nat.reduceEqDiff, Nat.add_zero, Nat.zero_add, Bool.false_eq_true, Nat.add_sub_cancel, h8, h6, s3]
  rcases ht with ⟨l, a1, a2, a3, a4, a5⟩ | ⟨v, a1, a2, a3, a4, a5⟩ | ⟨d, a1, a2, a3, a4, a5⟩ | ⟨a2, a4⟩ | ⟨a2, a4⟩
  · rw [x12_oneW hW a1 a4 a5 hm hpm]
    have hfl := (fs_le (fun j => wl (fi + j) == l) m 0).2
    have hsl := wsort_le l
    by_cases hlt : fs (fun j => wl (fi + j) == l) m 0 < m
    · left
      have hat := fs_at (fun j => wl (fi + j) == l) m 0 (by omega)
      have hat : wl (fi + fs (fun j => wl (fi + j) == l) m 0) = l := by simpa using hat
      have hs : wsort l = fi + fs (fun j => wl (fi + j) == l) m 0 := by
        have h9 := wsort_wl (fi + fs (fun j => wl (fi + j) == l) m 0) (by omega)
        rw [hat] at h9
        exact h9
      rw [hs] at a2
      refine ⟨_, hlt, ?_, a2, by rw [if_pos hlt], ?_⟩
      · unfold F_X5_isWordFrom
        simp (disch := omega) only [↓pu_m1, pu_lit, ↓reduceIte, pu_leT, pu_leF, pu_ltT, pu_ltF, pu_eqT, pu_eqF, pu_eqO, pu_eqO2, pu_ltO, pu_leO, pu_subO, pu_subOF, pu_subT, pu_subF, pu_oobF, pu_clamp, pu_add, pu_sub, pu_mul, pu_and, pu_or, pu_xor, pu_xorO, pu_shl, pu_shr, pu_ushr, pu_nb0, pu_nb1, pu_ob1N, pu_ob2N, pu_ob3N, pu_ob4N, pu_nwN, pu_n1, pu_n7, pu_n31, pu_n255, pu_md, pu_one, pu_sI1, pu_sI2, pu_sA1, pu_sA21, pu_sA222, pu_sAe, pu_sAn, pu_sJ1, pu_sJ21, pu_sJ221, pu_sF1, pu_sF21, pu_sF222, pu_sFe, pu_sFn, pu_upe, pu_upn, Nat.reduceAdd, Nat.reduceSub, Nat.reduceMul, Nat.reduceMod, Nat.reduceAnd, Nat.reducePow, Nat.reduceEqDiff, Nat.add_zero, Nat.zero_add, Bool.false_eq_true, Nat.add_sub_cancel, h8, h6, a2]
      · rw [a2]; intro e; have := (nI_eq (by omega) (by omega)).mp e; omega
    · right
      rw [if_neg hlt]
      refine ⟨?_, hbad⟩
      have hout : wsort l < fi ∨ fi + m ≤ wsort l := by
        apply Classical.byContradiction
        intro hc
        have hw := wsort_at (l := l) rfl (by omega : wsort l < 36)
        have := fs_no (fun j => wl (fi + j) == l) m 0 (wsort l - fi) (by omega) (by omega)
        rw [show fi + (wsort l - fi) = wsort l from by omega, hw] at this
        simp at this
      unfold F_X5_isWordFrom
      by_cases h1 : wsort l < fi
      · simp (disch := omega) only [↓pu_m1, pu_lit, ↓reduceIte, pu_leT, pu_leF, pu_ltT, pu_ltF, pu_eqT, pu_eqF, pu_eqO, pu_eqO2, pu_ltO, pu_leO, pu_subO, pu_subOF, pu_subT, pu_subF, pu_oobF, pu_clamp, pu_add, pu_sub, pu_mul, pu_and, pu_or, pu_xor, pu_xorO, pu_shl, pu_shr, pu_ushr, pu_nb0, pu_nb1, pu_ob1N, pu_ob2N, pu_ob3N, pu_ob4N, pu_nwN, pu_n1, pu_n7, pu_n31, pu_n255, pu_md, pu_one, pu_sI1, pu_sI2, pu_sA1, pu_sA21, pu_sA222, pu_sAe, pu_sAn, pu_sJ1, pu_sJ21, pu_sJ221, pu_sF1, pu_sF21, pu_sF222, pu_sFe, pu_sFn, pu_upe, pu_upn, Nat.reduceAdd, Nat.reduceSub, Nat.reduceMul, Nat.reduceMod, Nat.reduceAnd, Nat.reducePow, Nat.reduceEqDiff, Nat.add_zero, Nat.zero_add, Bool.false_eq_true, Nat.add_sub_cancel, h8, h6, a2]
      · simp (disch := omega) only [↓pu_m1, pu_lit, ↓reduceIte, pu_leT, pu_leF, pu_ltT, pu_ltF, pu_eqT, pu_eqF, pu_eqO, pu_eqO2, pu_ltO, pu_leO, pu_subO, pu_subOF, pu_subT, pu_subF, pu_oobF, pu_clamp, pu_add, pu_sub, pu_mul, pu_and, pu_or, pu_xor, pu_xorO, pu_shl, pu_shr, pu_ushr, pu_nb0, pu_nb1, pu_ob1N, pu_ob2N, pu_ob3N, pu_ob4N, pu_nwN, pu_n1, pu_n7, pu_n31, pu_n255, pu_md, pu_one, pu_sI1, pu_sI2, pu_sA1, pu_sA21, pu_sA222, pu_sAe, pu_sAn, pu_sJ1, pu_sJ21, pu_sJ221, pu_sF1, pu_sF21, pu_sF222, pu_sFe, pu_sFn, pu_upe, pu_upn, Nat.reduceAdd, Nat.reduceSub, Nat.reduceMul, Nat.reduceMod, Nat.reduceAnd, Nat.reducePow, Nat.reduceEqDiff, Nat.add_zero, Nat.zero_add, Bool.false_eq_true, Nat.add_sub_cancel, h8, h6, a2]
  · exact Or.inr (hno ⟨2, by omega, by omega, a4⟩ ⟨37, by omega, by omega, a2⟩)
  · exact Or.inr (hno ⟨3, by omega, by omega, a4⟩ ⟨38, by omega, by omega, a2⟩)
  · exact Or.inr (hno ⟨4, by omega, by omega, a4⟩ ⟨39, by omega, by omega, a2⟩)
  · refine Or.inr (hno ?_ ⟨40, by omega, by omega, a2⟩)
    rcases a4 with ⟨-, a4⟩ | ⟨-, a4⟩
    · exact ⟨0, by omega, by omega, a4⟩
    · exact ⟨4, by omega, by omega, a4⟩
end P26
