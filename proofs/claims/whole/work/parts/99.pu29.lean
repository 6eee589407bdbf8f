/-! persons, minds, lines of a suburb's text, in step -/
theorem view_tab : ∀ x, x < 256 → ∀ v, v < 8 → (x &&& (2 ^ v ||| 2 ^ ((v + 4) % 8)) = 0 ↔ (x / 2 ^ v % 2 = 0 ∧ x / 2 ^ (v ^^^ 4) % 2 = 0)) ∧ (x ||| 2 ^ v) < 256 ∧ (opn x = true → x / 2 ^ (v ^^^ 4) % 2 = 0 → opn (x ||| 2 ^ v) = true) ∧ v ^^^ 4 < 8 ∧ x &&& (2 ^ v ||| 2 ^ ((v + 4) % 8)) < 256 := by decide +kernel
section P29
variable {R M S P : St} {V : Vt} {k : Nat}
theorem SUB_person {M2 M6 S6 : St} {a : Int64} {nv : Nat} (hS : SUB S M V) (ht : V 1 < 6) (h1 : nv ≤ 60) (hN2 : ∀ j, j ≠ 20 + V 1 → M2.2.2.2 9 j = M.2.2.2 9 j) (c4 : NM a (M2.2.2.2 9 (20 + V 1))) (q1 : S6.1 = (sI S 7 (nI (V 1 + 1))).1) (q2 : S6.2 = (sA (sA (sA (sA (sA (sJ S 8 (nI (V 1)) a) 11 (nI (V 1)) (nI nv)) 9 (nI (V 1)) (nI 0)) 10 (nI (V 1)) (nI 0)) 12 (nI (V 1)) nO) 13 (nI (V 1)) (nI 0)).2) (q3 : ∀ j, j < 42 → M6.2.2.1 7 j = nI (up (up V (24 + V 1) nv) 1 (V 1 + 1) j)) (q4 : ∀ j, M6.2.2.2 9 j = M2.2.2.2 9 j) : SUB S6 M6 (up (up V (24 + V 1) nv) 1 (V 1 + 1)) := by
  obtain ⟨s0, s7, s5, s6, s14, v0, v1, v23, sm, st, sp, sz⟩ := hS
  have x0 : up (up V (24 + V 1) nv) 1 (V 1 + 1) 0 = V 0 := by simp (disch := omega) only [pu_upn]
  have x1 : up (up V (24 + V 1) nv) 1 (V 1 + 1) 1 = V 1 + 1 := pu_upe _ _ _
  have x23 : up (up V (24 + V 1) nv) 1 (V 1 + 1) 23 = V 23 := by simp (disch := omega) only [pu_upn]
  refine ⟨by rw [q1, x0]; exact s0, by rw [q1, x1]; rfl, by rw [q1, x23]; exact s5, by rw [q1]; exact s6, by rw [q1]; exact s14, by rw [x0]; exact v0, by rw [x1]; omega, by rw [x23]; exact v23, q3, fun t ht9 => ?_, fun p hp => ?_, fun p hp1 hp2 => ?_⟩
  · rw [x0] at ht9
    rw [q2, q4]
    obtain ⟨y1, y2, y3, y4, y5, y6, y7⟩ := st t ht9
    refine ⟨by simp (disch := omega) only [↓pu_m1, pu_lit, ↓reduceIte, pu_leT, pu_leF, pu_ltT, pu_ltF, pu_eqT, pu_eqF, pu_eqO, pu_eqO2, pu_ltO, pu_leO, pu_subO, pu_subOF, pu_subT, pu_subF, pu_oobF, pu_clamp, pu_add, pu_sub, pu_mul, pu_and, pu_or, pu_xor, pu_xorO, pu_shl, pu_shr, pu_ushr, pu_nb0, pu_nb1, pu_ob1N, pu_ob2N, pu_ob3N, pu_ob4N, pu_nwN, pu_n1, pu_n7, pu_n31, pu_n255, pu_md, pu_one, pu_sI1, pu_sI2, pu_sA1, pu_sA21, pu_sA222, pu_sAe, pu_sAn, pu_sJ1, pu_sJ21, pu_sJ221, pu_sF1, pu_sF21, pu_sF222, pu_sFe, pu_sFn, pu_upe, pu_upn, Nat.reduceAdd, Nat.reduceSub, Nat.reduceMul, Nat.reduceMod, Nat.reduceAnd, Nat.reducePow, Nat.reduceEqDiff, Nat.add_zero, Nat.zero_add, Bool.false_eq_true, Nat.add_sub_cancel, y1], by simp (disch := omega) only [↓pu_m1, pu_lit, ↓reduceIte, pu_leT, pu_leF, pu_ltT, pu_ltF, pu_eqT, pu_eqF, pu_eqO, pu_eqO2, pu_ltO, pu_leO, pu_subO, pu_subOF, pu_subT, pu_subF, pu_oobF, pu_clamp, pu_add, pu_sub, pu_mul, pu_and, pu_or, pu_xor, pu_xorO, pu_shl, pu_shr, pu_ushr, pu_nb0, pu_nb1, pu_ob1N, pu_ob2N, pu_ob3N, pu_ob4N, pu_nwN, pu_n1, pu_n7, pu_n31, pu_n255, pu_md, pu_one, pu_sI1, pu_sI2, pu_sA1, pu_sA21, pu_sA222, pu_sAe, pu_sAn, pu_sJ1, pu_sJ21, pu_sJ221, pu_sF1, pu_sF21, pu_sF222, pu_sFe, pu_sFn, pu_upe, pu_upn, Nat.reduceAdd, Nat.reduceSub, Nat.reduceMul, Nat.reduceMod, Nat.reduceAnd, Nat.reducePow, Nat.reduceEqDiff, Nat.add_zero, Nat.zero_add, Bool.false_eq_true, Nat.add_sub_cancel]; exact y2, by simp (disch := omega) only [↓pu_m1, pu_lit, ↓reduceIte, pu_leT, pu_leF, pu_ltT, pu_ltF, pu_eqT, pu_eqF, pu_eqO, pu_eqO2, pu_ltO, pu_leO, pu_subO, pu_subOF, pu_subT, pu_subF, pu_oobF, pu_clamp, pu_add, pu_sub, pu_mul, pu_and, pu_or, pu_xor, pu_xorO, pu_shl, pu_shr, pu_ushr, pu_nb0, pu_nb1, pu_ob1N, pu_ob2N, pu_ob3N, pu_ob4N, pu_nwN, pu_n1, pu_n7, pu_n31, pu_n255, pu_md, pu_one, pu_sI1, pu_sI2, pu_sA1, pu_sA21, pu_sA222, pu_sAe, pu_sAn, pu_sJ1, pu_sJ21, pu_sJ221, pu_sF1, pu_sF21, pu_sF222, pu_sFe, pu_sFn, pu_upe, pu_upn, Nat.reduceAdd, Nat.reduceSub, Nat.reduceMul, Nat.reduceMod, Nat.reduceAnd, Nat.reducePow, Nat.reduceEqDiff, Nat.add_zero, Nat.zero_add, Bool.false_eq_true, Nat.add_sub_cancel, y3], by simp (disch := omega) only [↓pu_m1, pu_lit, ↓reduceIte, pu_leT, pu_leF, pu_ltT, pu_ltF, pu_eqT, pu_eqF, pu_eqO, pu_eqO2, pu_ltO, pu_leO, pu_subO, pu_subOF, pu_subT, pu_subF, pu_oobF, pu_clamp, pu_add, pu_sub, pu_mul, pu_and, pu_or, pu_xor, pu_xorO, pu_shl, pu_shr, pu_ushr, pu_nb0, pu_nb1, pu_ob1N, pu_ob2N, pu_ob3N, pu_ob4N, pu_nwN, pu_n1, pu_n7, pu_n31, pu_n255, pu_md, pu_one, pu_sI1, pu_sI2, pu_sA1, pu_sA21, pu_sA222, pu_sAe, pu_sAn, pu_sJ1, pu_sJ21, pu_sJ221, pu_sF1, pu_sF21, pu_sF222, pu_sFe, pu_sFn, pu_upe, pu_upn, Nat.reduceAdd, Nat.reduceSub, Nat.reduceMul, Nat.reduceMod, Nat.reduceAnd, Nat.reducePow, Nat.reduceEqDiff, Nat.add_zero, Nat.zero_add, Bool.false_eq_true, Nat.add_sub_cancel]; exact y4, by simp (disch := omega) only [↓pu_m1, pu_lit, ↓reduceIte, pu_leT, pu_leF, pu_ltT, pu_ltF, pu_eqT, pu_eqF, pu_eqO, pu_eqO2, pu_ltO, pu_leO, pu_subO, pu_subOF, pu_subT, pu_subF, pu_oobF, pu_clamp, pu_add, pu_sub, pu_mul, pu_and, pu_or, pu_xor, pu_xorO, pu_shl, pu_shr, pu_ushr, pu_nb0, pu_nb1, pu_ob1N, pu_ob2N, pu_ob3N, pu_ob4N, pu_nwN, pu_n1, pu_n7, pu_n31, pu_n255, pu_md, pu_one, pu_sI1, pu_sI2, pu_sA1, pu_sA21, pu_sA222, pu_sAe, pu_sAn, pu_sJ1, pu_sJ21, pu_sJ221, pu_sF1, pu_sF21, pu_sF222, pu_sFe, pu_sFn, pu_upe, pu_upn, Nat.reduceAdd, Nat.reduceSub, Nat.reduceMul, Nat.reduceMod, Nat.reduceAnd, Nat.reducePow, Nat.reduceEqDiff, Nat.add_zero, Nat.zero_add, Bool.false_eq_true, Nat.add_sub_cancel, y5], by simp (disch := omega) only [↓pu_m1, pu_lit, ↓reduceIte, pu_leT, pu_leF, pu_ltT, pu_ltF, pu_eqT, pu_eqF, pu_eqO, pu_eqO2, pu_ltO, pu_leO, pu_subO, pu_subOF, pu_subT, pu_subF, pu_oobF, pu_clamp, pu_add, pu_sub, pu_mul, pu_and, pu_or, pu_xor, pu_xorO, pu_shl, pu_shr, pu_ushr, pu_nb0, pu_nb1, pu_ob1N, pu_ob2N, pu_ob3N, pu_ob4N, pu_nwN, pu_n1, pu_n7, pu_n31, pu_n255, pu_md, pu_one, pu_sI1, pu_sI2, pu_sA1, pu_sA21, pu_sA222, pu_sAe, pu_sAn, pu_sJ1, pu_sJ21, pu_sJ221, pu_sF1, pu_sF21, pu_sF222, pu_sFe, pu_sFn, pu_upe, pu_upn, Nat.reduceAdd, Nat.reduceSub, Nat.reduceMul, Nat.reduceMod, Nat.reduceAnd, Nat.reducePow, Nat.reduceEqDiff, Nat.add_zero, Nat.zero_add, Bool.false_eq_true, Nat.add_sub_cancel]; exact y6, ?_⟩
    show NM ((sJ S 8 (nI (V 1)) a).2.2.2 1 t) _
    rw [pu_sJn (by omega), hN2 (13 + t) (by omega)]; exact y7
  · rw [x1] at hp
    rw [q2, q4]
    by_cases ep : p = V 1
    · subst ep
      obtain ⟨z1, z2⟩ := sz (V 1) (by omega) (by omega)
      refine ⟨by simp (disch := omega) only [↓pu_m1, pu_lit, ↓reduceIte, pu_leT, pu_leF, pu_ltT, pu_ltF, pu_eqT, pu_eqF, pu_eqO, pu_eqO2, pu_ltO, pu_leO, pu_subO, pu_subOF, pu_subT, pu_subF, pu_oobF, pu_clamp, pu_add, pu_sub, pu_mul, pu_and, pu_or, pu_xor, pu_xorO, pu_shl, pu_shr, pu_ushr, pu_nb0, pu_nb1, pu_ob1N, pu_ob2N, pu_ob3N, pu_ob4N, pu_nwN, pu_n1, pu_n7, pu_n31, pu_n255, pu_md, pu_one, pu_sI1, pu_sI2, pu_sA1, pu_sA21, pu_sA222, pu_sAe, pu_sAn, pu_sJ1, pu_sJ21, pu_sJ221, pu_sF1, pu_sF21, pu_sF222, pu_sFe, pu_sFn, pu_upe, pu_upn, Nat.reduceAdd, Nat.reduceSub, Nat.reduceMul, Nat.reduceMod, Nat.reduceAnd, Nat.reducePow, Nat.reduceEqDiff, Nat.add_zero, Nat.zero_add, Bool.false_eq_true, Nat.add_sub_cancel, z1], by simp (disch := omega) only [↓pu_m1, pu_lit, ↓reduceIte, pu_leT, pu_leF, pu_ltT, pu_ltF, pu_eqT, pu_eqF, pu_eqO, pu_eqO2, pu_ltO, pu_leO, pu_subO, pu_subOF, pu_subT, pu_subF, pu_oobF, pu_clamp, pu_add, pu_sub, pu_mul, pu_and, pu_or, pu_xor, pu_xorO, pu_shl, pu_shr, pu_ushr, pu_nb0, pu_nb1, pu_ob1N, pu_ob2N, pu_ob3N, pu_ob4N, pu_nwN, pu_n1, pu_n7, pu_n31, pu_n255, pu_md, pu_one, pu_sI1, pu_sI2, pu_sA1, pu_sA21, pu_sA222, pu_sAe, pu_sAn, pu_sJ1, pu_sJ21, pu_sJ221, pu_sF1, pu_sF21, pu_sF222, pu_sFe, pu_sFn, pu_upe, pu_upn, Nat.reduceAdd, Nat.reduceSub, Nat.reduceMul, Nat.reduceMod, Nat.reduceAnd, Nat.reducePow, Nat.reduceEqDiff, Nat.add_zero, Nat.zero_add, Bool.false_eq_true, Nat.add_sub_cancel, z1]; omega, by simp (disch := omega) only [↓pu_m1, pu_lit, ↓reduceIte, pu_leT, pu_leF, pu_ltT, pu_ltF, pu_eqT, pu_eqF, pu_eqO, pu_eqO2, pu_ltO, pu_leO, pu_subO, pu_subOF, pu_subT, pu_subF, pu_oobF, pu_clamp, pu_add, pu_sub, pu_mul, pu_and, pu_or, pu_xor, pu_xorO, pu_shl, pu_shr, pu_ushr, pu_nb0, pu_nb1, pu_ob1N, pu_ob2N, pu_ob3N, pu_ob4N, pu_nwN, pu_n1, pu_n7, pu_n31, pu_n255, pu_md, pu_one, pu_sI1, pu_sI2, pu_sA1, pu_sA21, pu_sA222, pu_sAe, pu_sAn, pu_sJ1, pu_sJ21, pu_sJ221, pu_sF1, pu_sF21, pu_sF222, pu_sFe, pu_sFn, pu_upe, pu_upn, Nat.reduceAdd, Nat.reduceSub, Nat.reduceMul, Nat.reduceMod, Nat.reduceAnd, Nat.reducePow, Nat.reduceEqDiff, Nat.add_zero, Nat.zero_add, Bool.false_eq_true, Nat.add_sub_cancel, z1]; rfl, by simp (disch := omega) only [↓pu_m1, pu_lit, ↓reduceIte, pu_leT, pu_leF, pu_ltT, pu_ltF, pu_eqT, pu_eqF, pu_eqO, pu_eqO2, pu_ltO, pu_leO, pu_subO, pu_subOF, pu_subT, pu_subF, pu_oobF, pu_clamp, pu_add, pu_sub, pu_mul, pu_and, pu_or, pu_xor, pu_xorO, pu_shl, pu_shr, pu_ushr, pu_nb0, pu_nb1, pu_ob1N, pu_ob2N, pu_ob3N, pu_ob4N, pu_nwN, pu_n1, pu_n7, pu_n31, pu_n255, pu_md, pu_one, pu_sI1, pu_sI2, pu_sA1, pu_sA21, pu_sA222, pu_sAe, pu_sAn, pu_sJ1, pu_sJ21, pu_sJ221, pu_sF1, pu_sF21, pu_sF222, pu_sFe, pu_sFn, pu_upe, pu_upn, Nat.reduceAdd, Nat.reduceSub, Nat.reduceMul, Nat.reduceMod, Nat.reduceAnd, Nat.reducePow, Nat.reduceEqDiff, Nat.add_zero, Nat.zero_add, Bool.false_eq_true, Nat.add_sub_cancel, z2], by simp (disch := omega) only [↓pu_m1, pu_lit, ↓reduceIte, pu_leT, pu_leF, pu_ltT, pu_ltF, pu_eqT, pu_eqF, pu_eqO, pu_eqO2, pu_ltO, pu_leO, pu_subO, pu_subOF, pu_subT, pu_subF, pu_oobF, pu_clamp, pu_add, pu_sub, pu_mul, pu_and, pu_or, pu_xor, pu_xorO, pu_shl, pu_shr, pu_ushr, pu_nb0, pu_nb1, pu_ob1N, pu_ob2N, pu_ob3N, pu_ob4N, pu_nwN, pu_n1, pu_n7, pu_n31, pu_n255, pu_md, pu_one, pu_sI1, pu_sI2, pu_sA1, pu_sA21, pu_sA222, pu_sAe, pu_sAn, pu_sJ1, pu_sJ21, pu_sJ221, pu_sF1, pu_sF21, pu_sF222, pu_sFe, pu_sFn, pu_upe, pu_upn, Nat.reduceAdd, Nat.reduceSub, Nat.reduceMul, Nat.reduceMod, Nat.reduceAnd, Nat.reducePow, Nat.reduceEqDiff, Nat.add_zero, Nat.zero_add, Bool.false_eq_true, Nat.add_sub_cancel, z2]; omega, by simp (disch := omega) only [↓pu_m1, pu_lit, ↓reduceIte, pu_leT, pu_leF, pu_ltT, pu_ltF, pu_eqT, pu_eqF, pu_eqO, pu_eqO2, pu_ltO, pu_leO, pu_subO, pu_subOF, pu_subT, pu_subF, pu_oobF, pu_clamp, pu_add, pu_sub, pu_mul, pu_and, pu_or, pu_xor, pu_xorO, pu_shl, pu_shr, pu_ushr, pu_nb0, pu_nb1, pu_ob1N, pu_ob2N, pu_ob3N, pu_ob4N, pu_nwN, pu_n1, pu_n7, pu_n31, pu_n255, pu_md, pu_one, pu_sI1, pu_sI2, pu_sA1, pu_sA21, pu_sA222, pu_sAe, pu_sAn, pu_sJ1, pu_sJ21, pu_sJ221, pu_sF1, pu_sF21, pu_sF222, pu_sFe, pu_sFn, pu_upe, pu_upn, Nat.reduceAdd, Nat.reduceSub, Nat.reduceMul, Nat.reduceMod, Nat.reduceAnd, Nat.reducePow, Nat.reduceEqDiff, Nat.add_zero, Nat.zero_add, Bool.false_eq_true, Nat.add_sub_cancel], by simp (disch := omega) only [↓pu_m1, pu_lit, ↓reduceIte, pu_leT, pu_leF, pu_ltT, pu_ltF, pu_eqT, pu_eqF, pu_eqO, pu_eqO2, pu_ltO, pu_leO, pu_subO, pu_subOF, pu_subT, pu_subF, pu_oobF, pu_clamp, pu_add, pu_sub, pu_mul, pu_and, pu_or, pu_xor, pu_xorO, pu_shl, pu_shr, pu_ushr, pu_nb0, pu_nb1, pu_ob1N, pu_ob2N, pu_ob3N, pu_ob4N, pu_nwN, pu_n1, pu_n7, pu_n31, pu_n255, pu_md, pu_one, pu_sI1, pu_sI2, pu_sA1, pu_sA21, pu_sA222, pu_sAe, pu_sAn, pu_sJ1, pu_sJ21, pu_sJ221, pu_sF1, pu_sF21, pu_sF222, pu_sFe, pu_sFn, pu_upe, pu_upn, Nat.reduceAdd, Nat.reduceSub, Nat.reduceMul, Nat.reduceMod, Nat.reduceAnd, Nat.reducePow, Nat.reduceEqDiff, Nat.add_zero, Nat.zero_add, Bool.false_eq_true, Nat.add_sub_cancel]; exact h1, by simp (disch := omega) only [↓pu_m1, pu_lit, ↓reduceIte, pu_leT, pu_leF, pu_ltT, pu_ltF, pu_eqT, pu_eqF, pu_eqO, pu_eqO2, pu_ltO, pu_leO, pu_subO, pu_subOF, pu_subT, pu_subF, pu_oobF, pu_clamp, pu_add, pu_sub, pu_mul, pu_and, pu_or, pu_xor, pu_xorO, pu_shl, pu_shr, pu_ushr, pu_nb0, pu_nb1, pu_ob1N, pu_ob2N, pu_ob3N, pu_ob4N, pu_nwN, pu_n1, pu_n7, pu_n31, pu_n255, pu_md, pu_one, pu_sI1, pu_sI2, pu_sA1, pu_sA21, pu_sA222, pu_sAe, pu_sAn, pu_sJ1, pu_sJ21, pu_sJ221, pu_sF1, pu_sF21, pu_sF222, pu_sFe, pu_sFn, pu_upe, pu_upn, Nat.reduceAdd, Nat.reduceSub, Nat.reduceMul, Nat.reduceMod, Nat.reduceAnd, Nat.reducePow, Nat.reduceEqDiff, Nat.add_zero, Nat.zero_add, Bool.false_eq_true, Nat.add_sub_cancel], by simp (disch := omega) only [↓pu_m1, pu_lit, ↓reduceIte, pu_leT, pu_leF, pu_ltT, pu_ltF, pu_eqT, pu_eqF, pu_eqO, pu_eqO2, pu_ltO, pu_leO, pu_subO, pu_subOF, pu_subT, pu_subF, pu_oobF, pu_clamp, pu_add, pu_sub, pu_mul, pu_and, pu_or, pu_xor, pu_xorO, pu_shl, pu_shr, pu_ushr, pu_nb0, pu_nb1, pu_ob1N, pu_ob2N, pu_ob3N, pu_ob4N, pu_nwN, pu_n1, pu_n7, pu_n31, pu_n255, pu_md, pu_one, pu_sI1, pu_sI2, pu_sA1, pu_sA21, pu_sA222, pu_sAe, pu_sAn, pu_sJ1, pu_sJ21, pu_sJ221, pu_sF1, pu_sF21, pu_sF222, pu_sFe, pu_sFn, pu_upe, pu_upn, Nat.reduceAdd, Nat.reduceSub, Nat.reduceMul, Nat.reduceMod, Nat.reduceAnd, Nat.reducePow, Nat.reduceEqDiff, Nat.add_zero, Nat.zero_add, Bool.false_eq_true, Nat.add_sub_cancel], ?_⟩
      show NM ((sJ S 8 (nI (V 1)) a).2.2.2 8 (V 1)) _
      rw [pu_sJe (by omega), if_pos rfl]; exact c4
    · obtain ⟨y1, y2, y3, y4, y5, y6, y7, y8, y9, y10⟩ := sp p (by omega)
      refine ⟨by simp (disch := omega) only [↓pu_m1, pu_lit, ↓reduceIte, pu_leT, pu_leF, pu_ltT, pu_ltF, pu_eqT, pu_eqF, pu_eqO, pu_eqO2, pu_ltO, pu_leO, pu_subO, pu_subOF, pu_subT, pu_subF, pu_oobF, pu_clamp, pu_add, pu_sub, pu_mul, pu_and, pu_or, pu_xor, pu_xorO, pu_shl, pu_shr, pu_ushr, pu_nb0, pu_nb1, pu_ob1N, pu_ob2N, pu_ob3N, pu_ob4N, pu_nwN, pu_n1, pu_n7, pu_n31, pu_n255, pu_md, pu_one, pu_sI1, pu_sI2, pu_sA1, pu_sA21, pu_sA222, pu_sAe, pu_sAn, pu_sJ1, pu_sJ21, pu_sJ221, pu_sF1, pu_sF21, pu_sF222, pu_sFe, pu_sFn, pu_upe, pu_upn, Nat.reduceAdd, Nat.reduceSub, Nat.reduceMul, Nat.reduceMod, Nat.reduceAnd, Nat.reducePow, Nat.reduceEqDiff, Nat.add_zero, Nat.zero_add, Bool.false_eq_true, Nat.add_sub_cancel, y1, ep], by simp (disch := omega) only [↓pu_m1, pu_lit, ↓reduceIte, pu_leT, pu_leF, pu_ltT, pu_ltF, pu_eqT, pu_eqF, pu_eqO, pu_eqO2, pu_ltO, pu_leO, pu_subO, pu_subOF, pu_subT, pu_subF, pu_oobF, pu_clamp, pu_add, pu_sub, pu_mul, pu_and, pu_or, pu_xor, pu_xorO, pu_shl, pu_shr, pu_ushr, pu_nb0, pu_nb1, pu_ob1N, pu_ob2N, pu_ob3N, pu_ob4N, pu_nwN, pu_n1, pu_n7, pu_n31, pu_n255, pu_md, pu_one, pu_sI1, pu_sI2, pu_sA1, pu_sA21, pu_sA222, pu_sAe, pu_sAn, pu_sJ1, pu_sJ21, pu_sJ221, pu_sF1, pu_sF21, pu_sF222, pu_sFe, pu_sFn, pu_upe, pu_upn, Nat.reduceAdd, Nat.reduceSub, Nat.reduceMul, Nat.reduceMod, Nat.reduceAnd, Nat.reducePow, Nat.reduceEqDiff, Nat.add_zero, Nat.zero_add, Bool.false_eq_true, Nat.add_sub_cancel]; exact y2, by simp (disch := omega) only [↓pu_m1, pu_lit, ↓reduceIte, pu_leT, pu_leF, pu_ltT, pu_ltF, pu_eqT, pu_eqF, pu_eqO, pu_eqO2, pu_ltO, pu_leO, pu_subO, pu_subOF, pu_subT, pu_subF, pu_oobF, pu_clamp, pu_add, pu_sub, pu_mul, pu_and, pu_or, pu_xor, pu_xorO, pu_shl, pu_shr, pu_ushr, pu_nb0, pu_nb1, pu_ob1N, pu_ob2N, pu_ob3N, pu_ob4N, pu_nwN, pu_n1, pu_n7, pu_n31, pu_n255, pu_md, pu_one, pu_sI1, pu_sI2, pu_sA1, pu_sA21, pu_sA222, pu_sAe, pu_sAn, pu_sJ1, pu_sJ21, pu_sJ221, pu_sF1, pu_sF21, pu_sF222, pu_sFe, pu_sFn, pu_upe, pu_upn, Nat.reduceAdd, Nat.reduceSub, Nat.reduceMul, Nat.reduceMod, Nat.reduceAnd, Nat.reducePow, Nat.reduceEqDiff, Nat.add_zero, Nat.zero_add, Bool.false_eq_true, Nat.add_sub_cancel, y3], by simp (disch := omega) only [↓pu_m1, pu_lit, ↓reduceIte, pu_leT, pu_leF, pu_ltT, pu_ltF, pu_eqT, pu_eqF, pu_eqO, pu_eqO2, pu_ltO, pu_leO, pu_subO, pu_subOF, pu_subT, pu_subF, pu_oobF, pu_clamp, pu_add, pu_sub, pu_mul, pu_and, pu_or, pu_xor, pu_xorO, pu_shl, pu_shr, pu_ushr, pu_nb0, pu_nb1, pu_ob1N, pu_ob2N, pu_ob3N, pu_ob4N, pu_nwN, pu_n1, pu_n7, pu_n31, pu_n255, pu_md, pu_one, pu_sI1, pu_sI2, pu_sA1, pu_sA21, pu_sA222, pu_sAe, pu_sAn, pu_sJ1, pu_sJ21, pu_sJ221, pu_sF1, pu_sF21, pu_sF222, pu_sFe, pu_sFn, pu_upe, pu_upn, Nat.reduceAdd, Nat.reduceSub, Nat.reduceMul, Nat.reduceMod, Nat.reduceAnd, Nat.reducePow, Nat.reduceEqDiff, Nat.add_zero, Nat.zero_add, Bool.false_eq_true, Nat.add_sub_cancel, y4, ep], by simp (disch := omega) only [↓pu_m1, pu_lit, ↓reduceIte, pu_leT, pu_leF, pu_ltT, pu_ltF, pu_eqT, pu_eqF, pu_eqO, pu_eqO2, pu_ltO, pu_leO, pu_subO, pu_subOF, pu_subT, pu_subF, pu_oobF, pu_clamp, pu_add, pu_sub, pu_mul, pu_and, pu_or, pu_xor, pu_xorO, pu_shl, pu_shr, pu_ushr, pu_nb0, pu_nb1, pu_ob1N, pu_ob2N, pu_ob3N, pu_ob4N, pu_nwN, pu_n1, pu_n7, pu_n31, pu_n255, pu_md, pu_one, pu_sI1, pu_sI2, pu_sA1, pu_sA21, pu_sA222, pu_sAe, pu_sAn, pu_sJ1, pu_sJ21, pu_sJ221, pu_sF1, pu_sF21, pu_sF222, pu_sFe, pu_sFn, pu_upe, pu_upn, Nat.reduceAdd, Nat.reduceSub, Nat.reduceMul, Nat.reduceMod, Nat.reduceAnd, Nat.reducePow, Nat.reduceEqDiff, Nat.add_zero, Nat.zero_add, Bool.false_eq_true, Nat.add_sub_cancel]; exact y5, by simp (disch := omega) only [↓pu_m1, pu_lit, ↓reduceIte, pu_leT, pu_leF, pu_ltT, pu_ltF, pu_eqT, pu_eqF, pu_eqO, pu_eqO2, pu_ltO, pu_leO, pu_subO, pu_subOF, pu_subT, pu_subF, pu_oobF, pu_clamp, pu_add, pu_sub, pu_mul, pu_and, pu_or, pu_xor, pu_xorO, pu_shl, pu_shr, pu_ushr, pu_nb0, pu_nb1, pu_ob1N, pu_ob2N, pu_ob3N, pu_ob4N, pu_nwN, pu_n1, pu_n7, pu_n31, pu_n255, pu_md, pu_one, pu_sI1, pu_sI2, pu_sA1, pu_sA21, pu_sA222, pu_sAe, pu_sAn, pu_sJ1, pu_sJ21, pu_sJ221, pu_sF1, pu_sF21, pu_sF222, pu_sFe, pu_sFn, pu_upe, pu_upn, Nat.reduceAdd, Nat.reduceSub, Nat.reduceMul, Nat.reduceMod, Nat.reduceAnd, Nat.reducePow, Nat.reduceEqDiff, Nat.add_zero, Nat.zero_add, Bool.false_eq_true, Nat.add_sub_cancel, y6, ep], by simp (disch := omega) only [↓pu_m1, pu_lit, ↓reduceIte, pu_leT, pu_leF, pu_ltT, pu_ltF, pu_eqT, pu_eqF, pu_eqO, pu_eqO2, pu_ltO, pu_leO, pu_subO, pu_subOF, pu_subT, pu_subF, pu_oobF, pu_clamp, pu_add, pu_sub, pu_mul, pu_and, pu_or, pu_xor, pu_xorO, pu_shl, pu_shr, pu_ushr, pu_nb0, pu_nb1, pu_ob1N, pu_ob2N, pu_ob3N, pu_ob4N, pu_nwN, pu_n1, pu_n7, pu_n31, pu_n255, pu_md, pu_one, pu_sI1, pu_sI2, pu_sA1, pu_sA21, pu_sA222, pu_sAe, pu_sAn, pu_sJ1, pu_sJ21, pu_sJ221, pu_sF1, pu_sF21, pu_sF222, pu_sFe, pu_sFn, pu_upe, pu_upn, Nat.reduceAdd, Nat.reduceSub, Nat.reduceMul, Nat.reduceMod, Nat.reduceAnd, Nat.reducePow, Nat.reduceEqDiff, Nat.add_zero, Nat.zero_add, Bool.false_eq_true, Nat.add_sub_cancel]; exact y7, by simp (disch := omega) only [↓pu_m1, pu_lit, ↓reduceIte, pu_leT, pu_leF, pu_ltT, pu_ltF, pu_eqT, pu_eqF, pu_eqO, pu_eqO2, pu_ltO, pu_leO, pu_subO, pu_subOF, pu_subT, pu_subF, pu_oobF, pu_clamp, pu_add, pu_sub, pu_mul, pu_and, pu_or, pu_xor, pu_xorO, pu_shl, pu_shr, pu_ushr, pu_nb0, pu_nb1, pu_ob1N, pu_ob2N, pu_ob3N, pu_ob4N, pu_nwN, pu_n1, pu_n7, pu_n31, pu_n255, pu_md, pu_one, pu_sI1, pu_sI2, pu_sA1, pu_sA21, pu_sA222, pu_sAe, pu_sAn, pu_sJ1, pu_sJ21, pu_sJ221, pu_sF1, pu_sF21, pu_sF222, pu_sFe, pu_sFn, pu_upe, pu_upn, Nat.reduceAdd, Nat.reduceSub, Nat.reduceMul, Nat.reduceMod, Nat.reduceAnd, Nat.reducePow, Nat.reduceEqDiff, Nat.add_zero, Nat.zero_add, Bool.false_eq_true, Nat.add_sub_cancel, y8, ep], by simp (disch := omega) only [↓pu_m1, pu_lit, ↓reduceIte, pu_leT, pu_leF, pu_ltT, pu_ltF, pu_eqT, pu_eqF, pu_eqO, pu_eqO2, pu_ltO, pu_leO, pu_subO, pu_subOF, pu_subT, pu_subF, pu_oobF, pu_clamp, pu_add, pu_sub, pu_mul, pu_and, pu_or, pu_xor, pu_xorO, pu_shl, pu_shr, pu_ushr, pu_nb0, pu_nb1, pu_ob1N, pu_ob2N, pu_ob3N, pu_ob4N, pu_nwN, pu_n1, pu_n7, pu_n31, pu_n255, pu_md, pu_one, pu_sI1, pu_sI2, pu_sA1, pu_sA21, pu_sA222, pu_sAe, pu_sAn, pu_sJ1, pu_sJ21, pu_sJ221, pu_sF1, pu_sF21, pu_sF222, pu_sFe, pu_sFn, pu_upe, pu_upn, Nat.reduceAdd, Nat.reduceSub, Nat.reduceMul, Nat.reduceMod, Nat.reduceAnd, Nat.reducePow, Nat.reduceEqDiff, Nat.add_zero, Nat.zero_add, Bool.false_eq_true, Nat.add_sub_cancel, y9, ep], ?_⟩
      show NM ((sJ S 8 (nI (V 1)) a).2.2.2 8 p) _
      rw [pu_sJe (by omega), if_neg ep, hN2 (20 + p) (by omega)]; exact y10
  · rw [x1] at hp1
    obtain ⟨y1, y2⟩ := sz p (by omega) hp2
    refine ⟨?_, ?_⟩
    · simp (disch := omega) only [↓pu_m1, pu_lit, ↓reduceIte, pu_leT, pu_leF, pu_ltT, pu_ltF, pu_eqT, pu_eqF, pu_eqO, pu_eqO2, pu_ltO, pu_leO, pu_subO, pu_subOF, pu_subT, pu_subF, pu_oobF, pu_clamp, pu_add, pu_sub, pu_mul, pu_and, pu_or, pu_xor, pu_xorO, pu_shl, pu_shr, pu_ushr, pu_nb0, pu_nb1, pu_ob1N, pu_ob2N, pu_ob3N, pu_ob4N, pu_nwN, pu_n1, pu_n7, pu_n31, pu_n255, pu_md, pu_one, pu_sI1, pu_sI2, pu_sA1, pu_sA21, pu_sA222, pu_sAe, pu_sAn, pu_sJ1, pu_sJ21, pu_sJ221, pu_sF1, pu_sF21, pu_sF222, pu_sFe, pu_sFn, pu_upe, pu_upn, Nat.reduceAdd, Nat.reduceSub, Nat.reduceMul, Nat.reduceMod, Nat.reduceAnd, Nat.reducePow, Nat.reduceEqDiff, Nat.add_zero, Nat.zero_add, Bool.false_eq_true, Nat.add_sub_cancel, y1]
    · simp (disch := omega) only [↓pu_m1, pu_lit, ↓reduceIte, pu_leT, pu_leF, pu_ltT, pu_ltF, pu_eqT, pu_eqF, pu_eqO, pu_eqO2, pu_ltO, pu_leO, pu_subO, pu_subOF, pu_subT, pu_subF, pu_oobF, pu_clamp, pu_add, pu_sub, pu_mul, pu_and, pu_or, pu_xor, pu_xorO, pu_shl, pu_shr, pu_ushr, pu_nb0, pu_nb1, pu_ob1N, pu_ob2N, pu_ob3N, pu_ob4N, pu_nwN, pu_n1, pu_n7, pu_n31, pu_n255, pu_md, pu_one, pu_sI1, pu_sI2, pu_sA1, pu_sA21, pu_sA222, pu_sAe, pu_sAn, pu_sJ1, pu_sJ21, pu_sJ221, pu_sF1, pu_sF21, pu_sF222, pu_sFe, pu_sFn, pu_upe, pu_upn, Nat.reduceAdd, Nat.reduceSub, Nat.reduceMul, Nat.reduceMod, Nat.reduceAnd, Nat.reducePow, Nat.reduceEqDiff, Nat.add_zero, Nat.zero_add, Bool.false_eq_true, Nat.add_sub_cancel, y2]
theorem rd_person (h : OKs R M k) (hW : MW M) (hS : SUB S M V) (hne : R.2.2.1 3 k ≠ nI 40) : ∃ S' R' M' V' k' r, F_X8_readPerson S R = some (S', R') ∧ F_X12_readPerson M = some (r, M') ∧ RES S' R' M M' V' k k' r := by
  have hS' := hS
  obtain ⟨s0, s7, s5, s6, s14, v0, v1, v23, sm, st, sp, sz⟩ := hS
  have g1 := sm 1 (by omega)
  have o42 : ¬ oob (1 : Int32) 42 := no_oob (i := 1) (by omega) (by omega)
  have z1 : (1 : Int32).toNatClampNeg = 1 := by decide
  unfold F_X8_readPerson F_X12_readPerson
  simp only [s7]
  rw [if_neg o42]
  simp only [z1]
  rw [g1, pu_nwN]
  by_cases h7 : V 1 = 6
  · obtain ⟨Rf, Mf, f1, f2, f3, f4⟩ := rd_fail (f := 4) h (by omega) (by omega)
    refine ⟨S, Rf, Mf, V, k, nI 0, ?_, ?_, f4.mono (by decide) (by decide) (by decide), N13_fr f4 (by decide), Or.inr ⟨rfl, f3⟩⟩
    · rw [h7, if_neg (by decide), show (4 : Int32) = nI 4 from rfl, f1, pu_ob1N]
    · rw [h7, if_pos (by decide), show (4 : Int32) = nI 4 from rfl, f2, pu_ob2N, if_neg (fun h => h (Or.inl rfl))]
  · have ht : V 1 < 6 := by omega
    have hoob := no_oob (n := 6) ht (by omega)
    have hn := rd_nextC h hne
    obtain ⟨M1, b1, b2, b3⟩ := rd_step h hne
    generalize sI R 6 (nI (k + 1)) = R1 at hn b2
    have hS1 := SUB_M hS' b3 (by decide) (by decide)
    have hW1 := MW_fr hW b3 (by decide)
    rw [if_pos (show nI (V 1) < (6 : Int32) from nI_lt (a := V 1) (b := 6) ht (by omega)), if_neg (show ¬ nI (V 1) = (6 : Int32) from fun e => h7 ((nI_eq (b := 6) (by omega) (by omega)).mp e)), hn, pu_ob1N, b1, pu_ob1N, lit_add]
    -- the class's end, whatever the number
    have hend : ∀ (S1 R3 : St) (r11 : Int32), S1.1 7 = nI (V 1) → (if oob (nI (V 1)) 6 then none else nw (sA S1 11 (nI (V 1)) r11) fun U14 => if oob (nI (V 1)) 6 then none else nw (sA U14 9 (nI (V 1)) (0 : Int32)) fun U17 => if oob (nI (V 1)) 6 then none else nw (sA U17 10 (nI (V 1)) (0 : Int32)) fun U20 => if oob (nI (V 1)) 6 then none else nw (sA U20 12 (nI (V 1)) (-1 : Int32)) fun U23 => if oob (nI (V 1)) 6 then none else nw (sA U23 13 (nI (V 1)) (0 : Int32)) fun U26 => nw (sI U26 7 ((U26.1 7) + (1 : Int32))) fun U28 => some (U28, R3)) = some (sI (sA (sA (sA (sA (sA S1 11 (nI (V 1)) r11) 9 (nI (V 1)) (nI 0)) 10 (nI (V 1)) (nI 0)) 12 (nI (V 1)) nO) 13 (nI (V 1)) (nI 0)) 7 (nI (V 1 + 1)), R3) := by
      intro S1 R3 r11 e7
      rw [if_neg hoob, pu_nwN, if_neg hoob, pu_nwN, if_neg hoob, pu_nwN, if_neg hoob, pu_nwN, if_neg hoob, pu_nwN, pu_nwN]
      show some (sI _ 7 (S1.1 7 + 1), R3) = _
      rw [e7, nI_1]
      rfl
    rcases rd_fresh (x := 20 + V 1) b2 hW1 hS1 (by omega) (by omega) with ⟨a, M2, c1, c2, c3, c4, c5, c6⟩ | ⟨a, R2, M2, c1, c2, c3, c6⟩
    · generalize sI R1 6 (nI (k + 1 + 1)) = R2 at c1 c3
      rw [c1, pu_ob2N, if_neg hoob, pu_nwN, c2, pu_ob2N, if_neg one_ne, lit_add]
      have h7r2 : M2.2.2.1 7 = M.2.2.1 7 := by rw [c6.2.1 7 (by decide), b3.2.1 7 (by decide)]
      have hN2 : ∀ j, j ≠ 20 + V 1 → M2.2.2.2 9 j = M.2.2.2 9 j := fun j hj => by rw [c5 j hj, b3.2.2 9 (by decide)]
      have hF2 : FR [4, 11, 12, 13, 14, 18] [7] [9] M M2 := (b3.mono (by decide) (by decide) (by decide)).tr (c6.mono (by decide) (by decide) (by decide))
      rcases rd_num (lo := 0) (hi := 60) c3 (by omega) (by omega) with ⟨nv, M5, i1, i2, i3, i4, i5, i6, i7⟩ | ⟨R5, M5, i3, i4, i5, i7⟩
      · generalize sI R2 6 (nI (k + 1 + 1 + 1)) = R5 at i3 i5
        have i3 : F_X5_needNumber R2 0 60 = some (nI nv, R5) := i3
        have hO5 := ok_sA (f := 7) (i := nI (24 + V 1)) (v := nI nv) i5 (by omega)
        have i4' : F_X12_puts M2 (nI (24 + V 1)) 0 60 = some (nI 1, sA M5 7 (nI (24 + V 1)) (nI nv)) := by
          have i4 : F_X12_takes M2 0 60 = some (nI 1, M5) := i4
          unfold F_X12_puts
          rw [i4, pu_ob2N, if_neg one_ne, if_neg (no_oob (by omega : 24 + V 1 < 42) (by omega)), pu_nwN, i6]
          rfl
        have r7 : ∀ j, j < 42 → (sA M5 7 (nI (24 + V 1)) (nI nv)).2.2.1 7 j = nI (up V (24 + V 1) nv j) := by
          intro j hj
          rw [pu_sAe (by omega)]
          by_cases q1 : j = 24 + V 1
          · rw [if_pos q1, q1, pu_upe]
          · rw [if_neg q1, pu_upn q1, i7.2.1 7 (by decide), h7r2]; exact sm j hj
        have r71 := r7 1 (by omega)
        rw [pu_upn (by omega)] at r71
        have hO7 := ok_sA (f := 7) (i := nI 1) (v := nI (V 1 + 1)) hO5 (by omega)
        have hF5 : FR [4, 11, 12, 13, 14, 18] [7] [9] M (sA M5 7 (nI (24 + V 1)) (nI nv)) := hF2.tr ((i7.mono (by decide) (by decide) (by decide)).tr (FR.sA (by decide)))
        refine ⟨sI (sA (sA (sA (sA (sA (sJ S 8 (nI (V 1)) a) 11 (nI (V 1)) (nI nv)) 9 (nI (V 1)) (nI 0)) 10 (nI (V 1)) (nI 0)) 12 (nI (V 1)) nO) 13 (nI (V 1)) (nI 0)) 7 (nI (V 1 + 1)), R5, sA (sA M5 7 (nI (24 + V 1)) (nI nv)) 7 (nI 1) (nI (V 1 + 1)), _, _, nI 1, ?_, ?_, (hF5.mono (by decide) (by decide) (by decide)).tr (FR.sA (by decide)), ?_, Or.inl ⟨rfl, hO7, SUB_person (M2 := M2) (a := a) (nv := nv) hS' ht i2 hN2 c4 ?_ ?_ (fun j hj => ?_) (fun j => ?_), hF5.1 15 (by decide), by omega⟩⟩
        · rw [i3, pu_ob2N]
          exact hend (sJ S 8 (nI (V 1)) a) R5 (nI nv) s7
        · rw [i4', pu_ob2N, if_neg one_ne, if_neg o42, if_neg o42, r71, nI_1, pu_nwN]
          rfl
        · intro j hj
          show M5.2.2.2 9 j = _
          rw [i7.2.2 9 (by decide), hN2 j (by omega)]
        · rfl
        · rfl
        · rw [pu_sAe (by omega)]
          by_cases q1 : j = 1
          · rw [if_pos q1, q1, pu_upe]
          · rw [if_neg q1, pu_upn q1]; exact r7 j hj
        · show M5.2.2.2 9 j = _
          rw [i7.2.2 9 (by decide)]
      · have i3 : F_X5_needNumber R2 0 60 = some (nO, R5) := i3
        have i4' : F_X12_puts M2 (nI (24 + V 1)) 0 60 = some (nI 0, M5) := by
          have i4 : F_X12_takes M2 0 60 = some (nI 0, M5) := i4
          unfold F_X12_puts
          rw [i4, pu_ob2N, if_pos zero_eq]
          rfl
        refine ⟨sI (sA (sA (sA (sA (sA (sJ S 8 (nI (V 1)) a) 11 (nI (V 1)) nO) 9 (nI (V 1)) (nI 0)) 10 (nI (V 1)) (nI 0)) 12 (nI (V 1)) nO) 13 (nI (V 1)) (nI 0)) 7 (nI (V 1 + 1)), R5, M5, V, k, nI 0, ?_, ?_, (hF2.mono (by decide) (by decide) (by decide)).tr (i7.mono (by decide) (by decide) (by decide)), fun j hj => ?_, Or.inr ⟨rfl, i5⟩⟩
        · rw [i3, pu_ob2N]
          exact hend (sJ S 8 (nI (V 1)) a) R5 nO s7
        · rw [i4', pu_ob2N, if_pos zero_eq]
          rfl
        · rw [i7.2.2 9 (by decide), hN2 j (by omega)]
    · rw [c1, pu_ob2N, if_neg hoob, pu_nwN, c2, pu_ob2N, if_pos zero_eq]
      refine ⟨sI (sA (sA (sA (sA (sA (sJ S 8 (nI (V 1)) a) 11 (nI (V 1)) nO) 9 (nI (V 1)) (nI 0)) 10 (nI (V 1)) (nI 0)) 12 (nI (V 1)) nO) 13 (nI (V 1)) (nI 0)) 7 (nI (V 1 + 1)), R2, M2, V, k, nI 0, ?_, rfl, (b3.mono (by decide) (by decide) (by decide)).tr (c6.mono (by decide) (by decide) (by decide)), (N13_fr b3 (by decide)).tr (N13_fr c6 (by decide)), Or.inr ⟨rfl, c3⟩⟩
      · rw [fl_needNum c3.1, pu_ob2N]
        exact hend (sJ S 8 (nI (V 1)) a) R2 nO s7
/-- minds: what he thinks (9, 30), what he wants (10, 36) -/
theorem SUB_mind {M6 : St} {fld row p x : Nat} (hS : SUB S M V) (hfr : fld = 9 ∧ row = 30 ∨ fld = 10 ∧ row = 36) (hp : p < V 1) (hx : x < 256) (ho : row = 30 → opn x = true) (q3 : ∀ j, j < 42 → M6.2.2.1 7 j = nI (up V (row + p) x j)) (q4 : ∀ j, M6.2.2.2 9 j = M.2.2.2 9 j) : SUB (sA S fld (nI p) (nI x)) M6 (up V (row + p) x) := by
  obtain ⟨s0, s7, s5, s6, s14, v0, v1, v23, sm, st, sp, sz⟩ := hS
  have x0 : up V (row + p) x 0 = V 0 := pu_upn (by omega)
  have x1 : up V (row + p) x 1 = V 1 := pu_upn (by omega)
  have x23 : up V (row + p) x 23 = V 23 := pu_upn (by omega)
  refine ⟨by rw [x0]; exact s0, by rw [x1]; exact s7, by rw [x23]; exact s5, s6, s14, by rw [x0]; exact v0, by rw [x1]; exact v1, by rw [x23]; exact v23, q3, fun t ht9 => ?_, fun r hr => ?_, fun r hr1 hr2 => ?_⟩
  · rw [x0] at ht9
    rw [q4]
    obtain ⟨y1, y2, y3, y4, y5, y6, y7⟩ := st t ht9
    have u1 : up V (row + p) x (2 + t) = V (2 + t) := pu_upn (by omega)
    have u2 : up V (row + p) x (9 + t) = V (9 + t) := pu_upn (by omega)
    have u3 : up V (row + p) x (16 + t) = V (16 + t) := pu_upn (by omega)
    rw [u1, u2, u3, pu_sAn (by omega), pu_sAn (by omega), pu_sAn (by omega)]
    exact ⟨y1, y2, y3, y4, y5, y6, y7⟩
  · rw [x1] at hr
    rw [q4]
    obtain ⟨y1, y2, y3, y4, y5, y6, y7, y8, y9, y10⟩ := sp r hr
    have u3 : up V (row + p) x (24 + r) = V (24 + r) := pu_upn (by omega)
    rcases hfr with ⟨rfl, rfl⟩ | ⟨rfl, rfl⟩
    · have u2 : up V (30 + p) x (36 + r) = V (36 + r) := pu_upn (by omega)
      rw [u2, u3, pu_sAn (g := 10) (by omega), pu_sAn (g := 11) (by omega), pu_sAn (g := 12) (by omega), pu_sAn (g := 13) (by omega), pu_sAe (by omega)]
      by_cases er : r = p
      · rw [if_pos er, er, pu_upe]
        rw [er] at y4 y5 y6 y7 y8 y9 y10
        exact ⟨rfl, hx, ho rfl, y4, y5, y6, y7, y8, y9, y10⟩
      · rw [if_neg er, pu_upn (by omega)]
        exact ⟨y1, y2, y3, y4, y5, y6, y7, y8, y9, y10⟩
    · have u2 : up V (36 + p) x (30 + r) = V (30 + r) := pu_upn (by omega)
      rw [u2, u3, pu_sAn (g := 9) (by omega), pu_sAn (g := 11) (by omega), pu_sAn (g := 12) (by omega), pu_sAn (g := 13) (by omega), pu_sAe (by omega)]
      by_cases er : r = p
      · rw [if_pos er, er, pu_upe]
        rw [er] at y1 y2 y3 y6 y7 y8 y9 y10
        exact ⟨y1, y2, y3, rfl, hx, y6, y7, y8, y9, y10⟩
      · rw [if_neg er, pu_upn (by omega)]
        exact ⟨y1, y2, y3, y4, y5, y6, y7, y8, y9, y10⟩
  · rw [x1] at hr1
    obtain ⟨y1, y2⟩ := sz r hr1 hr2
    rw [pu_upn (by omega), pu_upn (by omega)]
    exact ⟨y1, y2⟩
end P29
