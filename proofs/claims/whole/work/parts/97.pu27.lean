/-! what both readers take, in step -/
section P27
variable {R M S : St} {k : Nat}
/-! behind a fault the class takes nothing more -/
theorem fl_isWord (h : FLc R) (x : Int32) : F_X5_isWord R x = some (nI 0) := by
  obtain ⟨f, k, h1, h2, h3, h4, h5⟩ := h
  unfold F_X5_isWord
  simp (disch := omega) only [↓pu_m1, pu_lit, ↓reduceIte, pu_leT, pu_leF, pu_ltT, pu_ltF, pu_eqT, pu_eqF, pu_eqO, pu_eqO2, pu_ltO, pu_leO, pu_subO, pu_subOF, pu_subT, pu_subF, pu_oobF, pu_clamp, pu_add, pu_sub, pu_mul, pu_and, pu_or, pu_xor, pu_xorO, pu_shl, pu_shr, pu_ushr, pu_nb0, pu_nb1, pu_ob1N, pu_ob2N, pu_ob3N, pu_ob4N, pu_nwN, pu_n1, pu_n7, pu_n31, pu_n255, pu_md, pu_one, pu_sI1, pu_sI2, pu_sA1, pu_sA21, pu_sA222, pu_sAe, pu_sAn, pu_sJ1, pu_sJ21, pu_sJ221, pu_sF1, pu_sF21, pu_sF222, pu_sFe, pu_sFn, pu_upe, pu_upn, Nat.reduceAdd, Nat.reduceSub, Nat.reduceMul, Nat.reduceMod, Nat.reduceAnd, Nat.reducePow, Nat.reduceEqDiff, Nat.add_zero, Nat.zero_add, Bool.false_eq_true, Nat.add_sub_cancel, h3]
theorem fl_isFrom (h : FLc R) (x y : Int32) : F_X5_isWordFrom R x y = some (nI 0) := by
  obtain ⟨f, k, h1, h2, h3, h4, h5⟩ := h
  unfold F_X5_isWordFrom
  simp (disch := omega) only [↓pu_m1, pu_lit, ↓reduceIte, pu_leT, pu_leF, pu_ltT, pu_ltF, pu_eqT, pu_eqF, pu_eqO, pu_eqO2, pu_ltO, pu_leO, pu_subO, pu_subOF, pu_subT, pu_subF, pu_oobF, pu_clamp, pu_add, pu_sub, pu_mul, pu_and, pu_or, pu_xor, pu_xorO, pu_shl, pu_shr, pu_ushr, pu_nb0, pu_nb1, pu_ob1N, pu_ob2N, pu_ob3N, pu_ob4N, pu_nwN, pu_n1, pu_n7, pu_n31, pu_n255, pu_md, pu_one, pu_sI1, pu_sI2, pu_sA1, pu_sA21, pu_sA222, pu_sAe, pu_sAn, pu_sJ1, pu_sJ21, pu_sJ221, pu_sF1, pu_sF21, pu_sF222, pu_sFe, pu_sFn, pu_upe, pu_upn, Nat.reduceAdd, Nat.reduceSub, Nat.reduceMul, Nat.reduceMod, Nat.reduceAnd, Nat.reducePow, Nat.reduceEqDiff, Nat.add_zero, Nat.zero_add, Bool.false_eq_true, Nat.add_sub_cancel, h3]
theorem fl_isMark (h : FLc R) (x : Int32) : F_X5_isMark R x = some (nI 0) := by
  obtain ⟨f, k, h1, h2, h3, h4, h5⟩ := h
  unfold F_X5_isMark
  simp (disch := omega) only [↓pu_m1, pu_lit, ↓reduceIte, pu_leT, pu_leF, pu_ltT, pu_ltF, pu_eqT, pu_eqF, pu_eqO, pu_eqO2, pu_ltO, pu_leO, pu_subO, pu_subOF, pu_subT, pu_subF, pu_oobF, pu_clamp, pu_add, pu_sub, pu_mul, pu_and, pu_or, pu_xor, pu_xorO, pu_shl, pu_shr, pu_ushr, pu_nb0, pu_nb1, pu_ob1N, pu_ob2N, pu_ob3N, pu_ob4N, pu_nwN, pu_n1, pu_n7, pu_n31, pu_n255, pu_md, pu_one, pu_sI1, pu_sI2, pu_sA1, pu_sA21, pu_sA222, pu_sAe, pu_sAn, pu_sJ1, pu_sJ21, pu_sJ221, pu_sF1, pu_sF21, pu_sF222, pu_sFe, pu_sFn, pu_upe, pu_upn, Nat.reduceAdd, Nat.reduceSub, Nat.reduceMul, Nat.reduceMod, Nat.reduceAnd, Nat.reducePow, Nat.reduceEqDiff, Nat.add_zero, Nat.zero_add, Bool.false_eq_true, Nat.add_sub_cancel, h3]
theorem fl_isName (h : FLc R) : F_X5_isName R = some (nI 0) := by
  obtain ⟨f, k, h1, h2, h3, h4, h5⟩ := h
  unfold F_X5_isName
  simp (disch := omega) only [↓pu_m1, pu_lit, ↓reduceIte, pu_leT, pu_leF, pu_ltT, pu_ltF, pu_eqT, pu_eqF, pu_eqO, pu_eqO2, pu_ltO, pu_leO, pu_subO, pu_subOF, pu_subT, pu_subF, pu_oobF, pu_clamp, pu_add, pu_sub, pu_mul, pu_and, pu_or, pu_xor, pu_xorO, pu_shl, pu_shr, pu_ushr, pu_nb0, pu_nb1, pu_ob1N, pu_ob2N, pu_ob3N, pu_ob4N, pu_nwN, pu_n1, pu_n7, pu_n31, pu_n255, pu_md, pu_one, pu_sI1, pu_sI2, pu_sA1, pu_sA21, pu_sA222, pu_sAe, pu_sAn, pu_sJ1, pu_sJ21, pu_sJ221, pu_sF1, pu_sF21, pu_sF222, pu_sFe, pu_sFn, pu_upe, pu_upn, Nat.reduceAdd, Nat.reduceSub, Nat.reduceMul, Nat.reduceMod, Nat.reduceAnd, Nat.reducePow, Nat.reduceEqDiff, Nat.add_zero, Nat.zero_add, Bool.false_eq_true, Nat.add_sub_cancel, h3]
theorem fl_goes (h : FLc R) : F_X5_goesOn R = some (nI 0) := by
  obtain ⟨f, k, h1, h2, h3, h4, h5⟩ := h
  unfold F_X5_goesOn
  simp (disch := omega) only [↓pu_m1, pu_lit, ↓reduceIte, pu_leT, pu_leF, pu_ltT, pu_ltF, pu_eqT, pu_eqF, pu_eqO, pu_eqO2, pu_ltO, pu_leO, pu_subO, pu_subOF, pu_subT, pu_subF, pu_oobF, pu_clamp, pu_add, pu_sub, pu_mul, pu_and, pu_or, pu_xor, pu_xorO, pu_shl, pu_shr, pu_ushr, pu_nb0, pu_nb1, pu_ob1N, pu_ob2N, pu_ob3N, pu_ob4N, pu_nwN, pu_n1, pu_n7, pu_n31, pu_n255, pu_md, pu_one, pu_sI1, pu_sI2, pu_sA1, pu_sA21, pu_sA222, pu_sAe, pu_sAn, pu_sJ1, pu_sJ21, pu_sJ221, pu_sF1, pu_sF21, pu_sF222, pu_sFe, pu_sFn, pu_upe, pu_upn, Nat.reduceAdd, Nat.reduceSub, Nat.reduceMul, Nat.reduceMod, Nat.reduceAnd, Nat.reducePow, Nat.reduceEqDiff, Nat.add_zero, Nat.zero_add, Bool.false_eq_true, Nat.add_sub_cancel, h3]
theorem fl_fail (h : FLc R) (x : Int32) : F_X5_fail R x = some R := by
  obtain ⟨f, k, h1, h2, h3, h4, h5⟩ := h
  unfold F_X5_fail
  simp (disch := omega) only [↓pu_m1, pu_lit, ↓reduceIte, pu_leT, pu_leF, pu_ltT, pu_ltF, pu_eqT, pu_eqF, pu_eqO, pu_eqO2, pu_ltO, pu_leO, pu_subO, pu_subOF, pu_subT, pu_subF, pu_oobF, pu_clamp, pu_add, pu_sub, pu_mul, pu_and, pu_or, pu_xor, pu_xorO, pu_shl, pu_shr, pu_ushr, pu_nb0, pu_nb1, pu_ob1N, pu_ob2N, pu_ob3N, pu_ob4N, pu_nwN, pu_n1, pu_n7, pu_n31, pu_n255, pu_md, pu_one, pu_sI1, pu_sI2, pu_sA1, pu_sA21, pu_sA222, pu_sAe, pu_sAn, pu_sJ1, pu_sJ21, pu_sJ221, pu_sF1, pu_sF21, pu_sF222, pu_sFe, pu_sFn, pu_upe, pu_upn, Nat.reduceAdd, Nat.reduceSub, Nat.reduceMul, Nat.reduceMod, Nat.reduceAnd, Nat.reducePow, Nat.reduceEqDiff, Nat.add_zero, Nat.zero_add, Bool.false_eq_true, Nat.add_sub_cancel, h3]
theorem fl_takeWord (h : FLc R) (x : Int32) : F_X5_takeWord R x = some (nI 0, R) := by
  have h1 := fl_isWord h x
  unfold F_X5_takeWord
  simp (disch := omega) only [↓pu_m1, pu_lit, ↓reduceIte, pu_leT, pu_leF, pu_ltT, pu_ltF, pu_eqT, pu_eqF, pu_eqO, pu_eqO2, pu_ltO, pu_leO, pu_subO, pu_subOF, pu_subT, pu_subF, pu_oobF, pu_clamp, pu_add, pu_sub, pu_mul, pu_and, pu_or, pu_xor, pu_xorO, pu_shl, pu_shr, pu_ushr, pu_nb0, pu_nb1, pu_ob1N, pu_ob2N, pu_ob3N, pu_ob4N, pu_nwN, pu_n1, pu_n7, pu_n31, pu_n255, pu_md, pu_one, pu_sI1, pu_sI2, pu_sA1, pu_sA21, pu_sA222, pu_sAe, pu_sAn, pu_sJ1, pu_sJ21, pu_sJ221, pu_sF1, pu_sF21, pu_sF222, pu_sFe, pu_sFn, pu_upe, pu_upn, Nat.reduceAdd, Nat.reduceSub, Nat.reduceMul, Nat.reduceMod, Nat.reduceAnd, Nat.reducePow, Nat.reduceEqDiff, Nat.add_zero, Nat.zero_add, Bool.false_eq_true, Nat.add_sub_cancel, h1]
theorem fl_takeMark (h : FLc R) (x : Int32) : F_X5_takeMark R x = some (nI 0, R) := by
  have h1 := fl_isMark h x
  unfold F_X5_takeMark
  simp (disch := omega) only [↓pu_m1, pu_lit, ↓reduceIte, pu_leT, pu_leF, pu_ltT, pu_ltF, pu_eqT, pu_eqF, pu_eqO, pu_eqO2, pu_ltO, pu_leO, pu_subO, pu_subOF, pu_subT, pu_subF, pu_oobF, pu_clamp, pu_add, pu_sub, pu_mul, pu_and, pu_or, pu_xor, pu_xorO, pu_shl, pu_shr, pu_ushr, pu_nb0, pu_nb1, pu_ob1N, pu_ob2N, pu_ob3N, pu_ob4N, pu_nwN, pu_n1, pu_n7, pu_n31, pu_n255, pu_md, pu_one, pu_sI1, pu_sI2, pu_sA1, pu_sA21, pu_sA222, pu_sAe, pu_sAn, pu_sJ1, pu_sJ21, pu_sJ221, pu_sF1, pu_sF21, pu_sF222, pu_sFe, pu_sFn, pu_upe, pu_upn, Nat.reduceAdd, Nat.reduceSub, Nat.reduceMul, Nat.reduceMod, Nat.reduceAnd, Nat.reducePow, Nat.reduceEqDiff, Nat.add_zero, Nat.zero_add, Bool.false_eq_true, Nat.add_sub_cancel, h1]
theorem fl_needMark (h : FLc R) (x : Int32) : F_X5_needMark R x = some R := by
  have h1 := fl_takeMark h x
  have h2 := fl_fail h (nI 1)
  unfold F_X5_needMark
  simp (disch := omega) only [↓pu_m1, pu_lit, ↓reduceIte, pu_leT, pu_leF, pu_ltT, pu_ltF, pu_eqT, pu_eqF, pu_eqO, pu_eqO2, pu_ltO, pu_leO, pu_subO, pu_subOF, pu_subT, pu_subF, pu_oobF, pu_clamp, pu_add, pu_sub, pu_mul, pu_and, pu_or, pu_xor, pu_xorO, pu_shl, pu_shr, pu_ushr, pu_nb0, pu_nb1, pu_ob1N, pu_ob2N, pu_ob3N, pu_ob4N, pu_nwN, pu_n1, pu_n7, pu_n31, pu_n255, pu_md, pu_one, pu_sI1, pu_sI2, pu_sA1, pu_sA21, pu_sA222, pu_sAe, pu_sAn, pu_sJ1, pu_sJ21, pu_sJ221, pu_sF1, pu_sF21, pu_sF222, pu_sFe, pu_sFn, pu_upe, pu_upn, Nat.reduceAdd, Nat.reduceSub, Nat.reduceMul, Nat.reduceMod, Nat.reduceAnd, Nat.reducePow, Nat.reduceEqDiff, Nat.add_zero, Nat.zero_add, Bool.false_eq_true, Nat.add_sub_cancel, h1, h2]
theorem fl_needFrom (h : FLc R) (x y : Int32) : F_X5_needWordFrom R x y = some (nO, R) := by
  have h1 := fl_isFrom h x y
  have h2 := fl_fail h (nI 1)
  unfold F_X5_needWordFrom
  simp (disch := omega) only [↓pu_m1, pu_lit, ↓reduceIte, pu_leT, pu_leF, pu_ltT, pu_ltF, pu_eqT, pu_eqF, pu_eqO, pu_eqO2, pu_ltO, pu_leO, pu_subO, pu_subOF, pu_subT, pu_subF, pu_oobF, pu_clamp, pu_add, pu_sub, pu_mul, pu_and, pu_or, pu_xor, pu_xorO, pu_shl, pu_shr, pu_ushr, pu_nb0, pu_nb1, pu_ob1N, pu_ob2N, pu_ob3N, pu_ob4N, pu_nwN, pu_n1, pu_n7, pu_n31, pu_n255, pu_md, pu_one, pu_sI1, pu_sI2, pu_sA1, pu_sA21, pu_sA222, pu_sAe, pu_sAn, pu_sJ1, pu_sJ21, pu_sJ221, pu_sF1, pu_sF21, pu_sF222, pu_sFe, pu_sFn, pu_upe, pu_upn, Nat.reduceAdd, Nat.reduceSub, Nat.reduceMul, Nat.reduceMod, Nat.reduceAnd, Nat.reducePow, Nat.reduceEqDiff, Nat.add_zero, Nat.zero_add, Bool.false_eq_true, Nat.add_sub_cancel, h1, h2]
theorem fl_needNum (h : FLc R) (x y : Int32) : F_X5_needNumber R x y = some (nO, R) := by
  have h2 := fl_fail h (nI 1)
  obtain ⟨f, k, h1, h22, h3, h4, h5⟩ := h
  unfold F_X5_needNumber F_X5_needNumber_21
  simp (disch := omega) only [↓pu_m1, pu_lit, ↓reduceIte, pu_leT, pu_leF, pu_ltT, pu_ltF, pu_eqT, pu_eqF, pu_eqO, pu_eqO2, pu_ltO, pu_leO, pu_subO, pu_subOF, pu_subT, pu_subF, pu_oobF, pu_clamp, pu_add, pu_sub, pu_mul, pu_and, pu_or, pu_xor, pu_xorO, pu_shl, pu_shr, pu_ushr, pu_nb0, pu_nb1, pu_ob1N, pu_ob2N, pu_ob3N, pu_ob4N, pu_nwN, pu_n1, pu_n7, pu_n31, pu_n255, pu_md, pu_one, pu_sI1, pu_sI2, pu_sA1, pu_sA21, pu_sA222, pu_sAe, pu_sAn, pu_sJ1, pu_sJ21, pu_sJ221, pu_sF1, pu_sF21, pu_sF222, pu_sFe, pu_sFn, pu_upe, pu_upn, Nat.reduceAdd, Nat.reduceSub, Nat.reduceMul, Nat.reduceMod, Nat.reduceAnd, Nat.reducePow, Nat.reduceEqDiff, Nat.add_zero, Nat.zero_add, Bool.false_eq_true, Nat.add_sub_cancel, h3, h2]
theorem fl_needT (h : FLc R) : F_X5_needTurret R S = some (nO, R) := by
  have h1 := fl_isName h
  have h2 := fl_fail h (nI 1)
  unfold F_X5_needTurret F_X5_needTurret_24 F_X5_needTurret_43
  simp (disch := omega) only [↓pu_m1, pu_lit, ↓reduceIte, pu_leT, pu_leF, pu_ltT, pu_ltF, pu_eqT, pu_eqF, pu_eqO, pu_eqO2, pu_ltO, pu_leO, pu_subO, pu_subOF, pu_subT, pu_subF, pu_oobF, pu_clamp, pu_add, pu_sub, pu_mul, pu_and, pu_or, pu_xor, pu_xorO, pu_shl, pu_shr, pu_ushr, pu_nb0, pu_nb1, pu_ob1N, pu_ob2N, pu_ob3N, pu_ob4N, pu_nwN, pu_n1, pu_n7, pu_n31, pu_n255, pu_md, pu_one, pu_sI1, pu_sI2, pu_sA1, pu_sA21, pu_sA222, pu_sAe, pu_sAn, pu_sJ1, pu_sJ21, pu_sJ221, pu_sF1, pu_sF21, pu_sF222, pu_sFe, pu_sFn, pu_upe, pu_upn, Nat.reduceAdd, Nat.reduceSub, Nat.reduceMul, Nat.reduceMod, Nat.reduceAnd, Nat.reducePow, Nat.reduceEqDiff, Nat.add_zero, Nat.zero_add, Bool.false_eq_true, Nat.add_sub_cancel, h1, h2]
theorem fl_seeP (h : FLc R) : F_X5_seePerson R S = some (nO, R) := by
  have h1 := fl_isName h
  have h2 := fl_fail h (nI 1)
  unfold F_X5_seePerson F_X5_seePerson_24 F_X5_seePerson_43
  simp (disch := omega) only [↓pu_m1, pu_lit, ↓reduceIte, pu_leT, pu_leF, pu_ltT, pu_ltF, pu_eqT, pu_eqF, pu_eqO, pu_eqO2, pu_ltO, pu_leO, pu_subO, pu_subOF, pu_subT, pu_subF, pu_oobF, pu_clamp, pu_add, pu_sub, pu_mul, pu_and, pu_or, pu_xor, pu_xorO, pu_shl, pu_shr, pu_ushr, pu_nb0, pu_nb1, pu_ob1N, pu_ob2N, pu_ob3N, pu_ob4N, pu_nwN, pu_n1, pu_n7, pu_n31, pu_n255, pu_md, pu_one, pu_sI1, pu_sI2, pu_sA1, pu_sA21, pu_sA222, pu_sAe, pu_sAn, pu_sJ1, pu_sJ21, pu_sJ221, pu_sF1, pu_sF21, pu_sF222, pu_sFe, pu_sFn, pu_upe, pu_upn, Nat.reduceAdd, Nat.reduceSub, Nat.reduceMul, Nat.reduceMod, Nat.reduceAnd, Nat.reducePow, Nat.reduceEqDiff, Nat.add_zero, Nat.zero_add, Bool.false_eq_true, Nat.add_sub_cancel, h1, h2]
theorem fl_needP (h : FLc R) : F_X5_needPerson R S = some (nO, R) := by
  have h1 := fl_seeP (S := S) h
  unfold F_X5_needPerson
  simp (disch := omega) only [↓pu_m1, pu_lit, ↓reduceIte, pu_leT, pu_leF, pu_ltT, pu_ltF, pu_eqT, pu_eqF, pu_eqO, pu_eqO2, pu_ltO, pu_leO, pu_subO, pu_subOF, pu_subT, pu_subF, pu_oobF, pu_clamp, pu_add, pu_sub, pu_mul, pu_and, pu_or, pu_xor, pu_xorO, pu_shl, pu_shr, pu_ushr, pu_nb0, pu_nb1, pu_ob1N, pu_ob2N, pu_ob3N, pu_ob4N, pu_nwN, pu_n1, pu_n7, pu_n31, pu_n255, pu_md, pu_one, pu_sI1, pu_sI2, pu_sA1, pu_sA21, pu_sA222, pu_sAe, pu_sAn, pu_sJ1, pu_sJ21, pu_sJ221, pu_sF1, pu_sF21, pu_sF222, pu_sFe, pu_sFn, pu_upe, pu_upn, Nat.reduceAdd, Nat.reduceSub, Nat.reduceMul, Nat.reduceMod, Nat.reduceAnd, Nat.reducePow, Nat.reduceEqDiff, Nat.add_zero, Nat.zero_add, Bool.false_eq_true, Nat.add_sub_cancel, h1]
theorem fl_newName (h : FLc R) : ∃ v, F_X5_needNewName R S = some (v, R) := by
  have h1 := fl_isName h
  have h2 := fl_fail h (nI 1)
  obtain ⟨f, k, g1, g2, h3, h4, h5⟩ := h
  refine ⟨R.2.2.2 4 k, ?_⟩
  unfold F_X5_needNewName
  simp (disch := omega) only [↓pu_m1, pu_lit, ↓reduceIte, pu_leT, pu_leF, pu_ltT, pu_ltF, pu_eqT, pu_eqF, pu_eqO, pu_eqO2, pu_ltO, pu_leO, pu_subO, pu_subOF, pu_subT, pu_subF, pu_oobF, pu_clamp, pu_add, pu_sub, pu_mul, pu_and, pu_or, pu_xor, pu_xorO, pu_shl, pu_shr, pu_ushr, pu_nb0, pu_nb1, pu_ob1N, pu_ob2N, pu_ob3N, pu_ob4N, pu_nwN, pu_n1, pu_n7, pu_n31, pu_n255, pu_md, pu_one, pu_sI1, pu_sI2, pu_sA1, pu_sA21, pu_sA222, pu_sAe, pu_sAn, pu_sJ1, pu_sJ21, pu_sJ221, pu_sF1, pu_sF21, pu_sF222, pu_sFe, pu_sFn, pu_upe, pu_upn, Nat.reduceAdd, Nat.reduceSub, Nat.reduceMul, Nat.reduceMod, Nat.reduceAnd, Nat.reducePow, Nat.reduceEqDiff, Nat.add_zero, Nat.zero_add, Bool.false_eq_true, Nat.add_sub_cancel, h4, h1, h2]
theorem fl_newView (h : FLc R) (x : Int32) : F_X5_needNewView R x = some (nO, R) := by
  have h1 := fl_isFrom h (nI 9) (nI 8)
  have h2 := fl_needFrom h (nI 9) (nI 8)
  unfold F_X5_needNewView F_X5_needNewView_27 F_X5_needNewView_55
  simp (disch := omega) only [↓pu_m1, pu_lit, ↓reduceIte, pu_leT, pu_leF, pu_ltT, pu_ltF, pu_eqT, pu_eqF, pu_eqO, pu_eqO2, pu_ltO, pu_leO, pu_subO, pu_subOF, pu_subT, pu_subF, pu_oobF, pu_clamp, pu_add, pu_sub, pu_mul, pu_and, pu_or, pu_xor, pu_xorO, pu_shl, pu_shr, pu_ushr, pu_nb0, pu_nb1, pu_ob1N, pu_ob2N, pu_ob3N, pu_ob4N, pu_nwN, pu_n1, pu_n7, pu_n31, pu_n255, pu_md, pu_one, pu_sI1, pu_sI2, pu_sA1, pu_sA21, pu_sA222, pu_sAe, pu_sAn, pu_sJ1, pu_sJ21, pu_sJ221, pu_sF1, pu_sF21, pu_sF222, pu_sFe, pu_sFn, pu_upe, pu_upn, Nat.reduceAdd, Nat.reduceSub, Nat.reduceMul, Nat.reduceMod, Nat.reduceAnd, Nat.reducePow, Nat.reduceEqDiff, Nat.add_zero, Nat.zero_add, Bool.false_eq_true, Nat.add_sub_cancel, h1, h2]
theorem fl_sign (h : FLc R) : ∃ v, F_X5_needSign R = some (v, R) := by
  have h1 := fl_isMark h (nI 60)
  have h2 := fl_isMark h (nI 61)
  have h3 := fl_isMark h (nI 62)
  have h4 := fl_fail h (nI 1)
  obtain ⟨f, k, g1, g2, g3, g4, g5⟩ := h
  refine ⟨(R.2.2.2 4 k).toInt32, ?_⟩
  unfold F_X5_needSign
  simp (disch := omega) only [↓pu_m1, pu_lit, ↓reduceIte, pu_leT, pu_leF, pu_ltT, pu_ltF, pu_eqT, pu_eqF, pu_eqO, pu_eqO2, pu_ltO, pu_leO, pu_subO, pu_subOF, pu_subT, pu_subF, pu_oobF, pu_clamp, pu_add, pu_sub, pu_mul, pu_and, pu_or, pu_xor, pu_xorO, pu_shl, pu_shr, pu_ushr, pu_nb0, pu_nb1, pu_ob1N, pu_ob2N, pu_ob3N, pu_ob4N, pu_nwN, pu_n1, pu_n7, pu_n31, pu_n255, pu_md, pu_one, pu_sI1, pu_sI2, pu_sA1, pu_sA21, pu_sA222, pu_sAe, pu_sAn, pu_sJ1, pu_sJ21, pu_sJ221, pu_sF1, pu_sF21, pu_sF222, pu_sFe, pu_sFn, pu_upe, pu_upn, Nat.reduceAdd, Nat.reduceSub, Nat.reduceMul, Nat.reduceMod, Nat.reduceAnd, Nat.reducePow, Nat.reduceEqDiff, Nat.add_zero, Nat.zero_add, Bool.false_eq_true, Nat.add_sub_cancel, g4, h1, h2, h3, h4]
/-! taking -/
theorem rd_need (h : OKs R M k) (hW : MW M) {fr fi m : Nat} (hm : m ≤ 8) (h0 : fr < 36) (hfi : fi + m ≤ 36) (hpm : ∀ j, j < m → fr + j < 36 ∧ fi + j < 36 ∧ pm (fr + j) = fi + j) : (∃ j M', j < m ∧ F_X5_needWordFrom R (nI fi) (nI m) = some (nI j, sI R 6 (nI (k + 1))) ∧ F_X12_takesOneOf M (nI fr) (nI m) = some (nI 1, M') ∧ OKs (sI R 6 (nI (k + 1))) M' (k + 1) ∧ M'.1 18 = nI j ∧ FR [4, 11, 12, 13, 14, 18] [] [] M M') ∨ (∃ R' M', F_X5_needWordFrom R (nI fi) (nI m) = some (nO, R') ∧ F_X12_takesOneOf M (nI fr) (nI m) = some (nI 0, M') ∧ FLT R' M' ∧ FR [4, 11, 12, 13, 14, 15, 16, 18] [] [] M M') := by
  have hk := ok_k h
  have h6 := h.2.1
  unfold F_X5_needWordFrom F_X12_takesOneOf
  rcases rd_from h hW hm h0 hfi hpm with ⟨j, hj, a1, a2, a3, a4⟩ | ⟨a1, R', M', a2, a3, a4, a5⟩
  · left
    have hc := rd_nextC h a4
    have hO : OKs R (sI M 18 (nI j)) k := ⟨rd_M h.1 (FR.sI (ni := [18]) (na := []) (nl := []) (by decide)) rfl (by decide) (by decide) (by decide) (by decide) (by decide) (by decide) (by decide), h.2⟩
    obtain ⟨M', b1, b2, b3⟩ := rd_step hO a4
    refine ⟨j, M', hj, ?_, ?_, b2, by rw [b3.1 18 (by decide)]; rfl, (FR.sI (by decide)).tr (b3.mono (by decide) (by decide) (by decide))⟩
    · simp (disch := omega) only [↓pu_m1, pu_lit, ↓reduceIte, pu_leT, pu_leF, pu_ltT, pu_ltF, pu_eqT, pu_eqF, pu_eqO, pu_eqO2, pu_ltO, pu_leO, pu_subO, pu_subOF, pu_subT, pu_subF, pu_oobF, pu_clamp, pu_add, pu_sub, pu_mul, pu_and, pu_or, pu_xor, pu_xorO, pu_shl, pu_shr, pu_ushr, pu_nb0, pu_nb1, pu_ob1N, pu_ob2N, pu_ob3N, pu_ob4N, pu_nwN, pu_n1, pu_n7, pu_n31, pu_n255, pu_md, pu_one, pu_sI1, pu_sI2, pu_sA1, pu_sA21, pu_sA222, pu_sAe, pu_sAn, pu_sJ1, pu_sJ21, pu_sJ221, pu_sF1, pu_sF21, pu_sF222, pu_sFe, pu_sFn, pu_upe, pu_upn, Nat.reduceAdd, Nat.reduceSub, Nat.reduceMul, Nat.reduceMod, Nat.reduceAnd, Nat.reducePow, Nat.reduceEqDiff, Nat.add_zero, Nat.zero_add, Bool.false_eq_true, Nat.add_sub_cancel, a1, h6, a2, hc, Nat.add_sub_cancel_left]
    · simp (disch := omega) only [↓pu_m1, pu_lit, ↓reduceIte, pu_leT, pu_leF, pu_ltT, pu_ltF, pu_eqT, pu_eqF, pu_eqO, pu_eqO2, pu_ltO, pu_leO, pu_subO, pu_subOF, pu_subT, pu_subF, pu_oobF, pu_clamp, pu_add, pu_sub, pu_mul, pu_and, pu_or, pu_xor, pu_xorO, pu_shl, pu_shr, pu_ushr, pu_nb0, pu_nb1, pu_ob1N, pu_ob2N, pu_ob3N, pu_ob4N, pu_nwN, pu_n1, pu_n7, pu_n31, pu_n255, pu_md, pu_one, pu_sI1, pu_sI2, pu_sA1, pu_sA21, pu_sA222, pu_sAe, pu_sAn, pu_sJ1, pu_sJ21, pu_sJ221, pu_sF1, pu_sF21, pu_sF222, pu_sFe, pu_sFn, pu_upe, pu_upn, Nat.reduceAdd, Nat.reduceSub, Nat.reduceMul, Nat.reduceMod, Nat.reduceAnd, Nat.reducePow, Nat.reduceEqDiff, Nat.add_zero, Nat.zero_add, Bool.false_eq_true, Nat.add_sub_cancel, a3, b1]
  · right
    refine ⟨R', M', ?_, ?_, a4, a5.mono (by decide) (by decide) (by decide)⟩
    · simp (disch := omega) only [↓pu_m1, pu_lit, ↓reduceIte, pu_leT, pu_leF, pu_ltT, pu_ltF, pu_eqT, pu_eqF, pu_eqO, pu_eqO2, pu_ltO, pu_leO, pu_subO, pu_subOF, pu_subT, pu_subF, pu_oobF, pu_clamp, pu_add, pu_sub, pu_mul, pu_and, pu_or, pu_xor, pu_xorO, pu_shl, pu_shr, pu_ushr, pu_nb0, pu_nb1, pu_ob1N, pu_ob2N, pu_ob3N, pu_ob4N, pu_nwN, pu_n1, pu_n7, pu_n31, pu_n255, pu_md, pu_one, pu_sI1, pu_sI2, pu_sA1, pu_sA21, pu_sA222, pu_sAe, pu_sAn, pu_sJ1, pu_sJ21, pu_sJ221, pu_sF1, pu_sF21, pu_sF222, pu_sFe, pu_sFn, pu_upe, pu_upn, Nat.reduceAdd, Nat.reduceSub, Nat.reduceMul, Nat.reduceMod, Nat.reduceAnd, Nat.reducePow, Nat.reduceEqDiff, Nat.add_zero, Nat.zero_add, Bool.false_eq_true, Nat.add_sub_cancel, a1, a2]
    · simp (disch := omega) only [↓pu_m1, pu_lit, ↓reduceIte, pu_leT, pu_leF, pu_ltT, pu_ltF, pu_eqT, pu_eqF, pu_eqO, pu_eqO2, pu_ltO, pu_leO, pu_subO, pu_subOF, pu_subT, pu_subF, pu_oobF, pu_clamp, pu_add, pu_sub, pu_mul, pu_and, pu_or, pu_xor, pu_xorO, pu_shl, pu_shr, pu_ushr, pu_nb0, pu_nb1, pu_ob1N, pu_ob2N, pu_ob3N, pu_ob4N, pu_nwN, pu_n1, pu_n7, pu_n31, pu_n255, pu_md, pu_one, pu_sI1, pu_sI2, pu_sA1, pu_sA21, pu_sA222, pu_sAe, pu_sAn, pu_sJ1, pu_sJ21, pu_sJ221, pu_sF1, pu_sF21, pu_sF222, pu_sFe, pu_sFn, pu_upe, pu_upn, Nat.reduceAdd, Nat.reduceSub, Nat.reduceMul, Nat.reduceMod, Nat.reduceAnd, Nat.reducePow, Nat.reduceEqDiff, Nat.add_zero, Nat.zero_add, Bool.false_eq_true, Nat.add_sub_cancel, a3]
theorem rd_num (h : OKs R M k) {lo hi : Nat} (hh : hi ≤ 999) (hlo : lo ≤ 999) : (∃ v M', lo ≤ v ∧ v ≤ hi ∧ F_X5_needNumber R (nI lo) (nI hi) = some (nI v, sI R 6 (nI (k + 1))) ∧ F_X12_takes M (nI lo) (nI hi) = some (nI 1, M') ∧ OKs (sI R 6 (nI (k + 1))) M' (k + 1) ∧ M'.1 18 = nI v ∧ FR [4, 11, 12, 13, 14, 18] [] [] M M') ∨ (∃ R' M', F_X5_needNumber R (nI lo) (nI hi) = some (nO, R') ∧ F_X12_takes M (nI lo) (nI hi) = some (nI 0, M') ∧ FLT R' M' ∧ FR [4, 11, 12, 13, 14, 15, 16, 18] [] [] M M') := by
  have hk := ok_k h
  obtain ⟨hr, h6, h8⟩ := id h
  obtain ⟨-, -, ht⟩ := rd_tok hr
  unfold F_X5_needNumber F_X5_needNumber_21 F_X5_needNumber_49 F_X12_takes
  have hbad1 : (∃ t, t ≠ 2 ∧ t ≤ 4 ∧ M.1 11 = nI t) → (∃ s, s ≠ 37 ∧ s ≤ 40 ∧ R.2.2.1 3 k = nI s) → ∃ R' M', (if R.1 8 = 0 then (if oob (R.1 6) 901 then none else if (R.2.2.1 3 (R.1 6).toNatClampNeg) = (37 : Int32) then (if oob (R.1 6) 901 then none else nw ((R.2.2.2 4 (R.1 6).toNatClampNeg).toInt32) fun v5 => if v5 < nI lo then (ob1 (F_X5_fail R (2 : Int32)) fun U2 => some ((-1 : Int32), U2)) else (if v5 ≤ nI hi then (ob1 (F_X5_next R) fun U10 => some (v5, U10)) else (ob1 (F_X5_fail R (2 : Int32)) fun U2 => some ((-1 : Int32), U2)))) else (ob1 (F_X5_fail R (1 : Int32)) fun U2 => some ((-1 : Int32), U2))) else (ob1 (F_X5_fail R (1 : Int32)) fun U2 => some ((-1 : Int32), U2))) = some (nO, R') ∧ (if M.1 11 = (2 : Int32) then (ob1 (F_X12_isIn (M.1 14) (nI lo) (nI hi)) fun r3 => if r3 = 0 then (ob2 (F_X12_bad M (2 : Int32)) fun r10 U11 => if nb r10 then none else some (r10, U11)) else (nw (sI M 18 (M.1 14)) fun U5 => ob1 (F_X12_next U5) fun U8 => some ((1 : Int32), U8))) else (ob2 (F_X12_bad M (1 : Int32)) fun r14 U15 => if nb r14 then none else some (r14, U15))) = some (nI 0, M') ∧ FLT R' M' ∧ FR [4, 11, 12, 13, 14, 15, 16, 18] [] [] M M' := by
    intro ⟨t, t1, t2, t3⟩ ⟨s, s1, s2, s3⟩
    obtain ⟨R', M', c1, c2, c3, c4⟩ := rd_fail (f := 1) h (by omega) (by omega)
    refine ⟨R', M', ?_, ?_, c3, c4.mono (by decide) (by decide) (by decide)⟩
    · simp (disch := omega) only [↓pu_m1, pu_lit, ↓reduceIte, pu_leT, pu_leF, pu_ltT, pu_ltF, pu_eqT, pu_eqF, pu_eqO, pu_eqO2, pu_ltO, pu_leO, pu_subO, pu_subOF, pu_subT, pu_subF, pu_oobF, pu_clamp, pu_add, pu_sub, pu_mul, pu_and, pu_or, pu_xor, pu_xorO, pu_shl, pu_shr, pu_ushr, pu_nb0, pu_nb1, pu_ob1N, pu_ob2N, pu_ob3N, pu_ob4N, pu_nwN, pu_n1, pu_n7, pu_n31, pu_n255, pu_md, pu_one, pu_sI1, pu_sI2, pu_sA1, pu_sA21, pu_sA222, pu_sAe, pu_sAn, pu_sJ1, pu_sJ21, pu_sJ221, pu_sF1, pu_sF21, pu_sF222, pu_sFe, pu_sFn, pu_upe, pu_upn, Nat.reduceAdd, Nat.reduceSub, Nat.reduceMul, Nat.reduceMod, Nat.reduceAnd, Nat.reducePow, Nat.reduceEqDiff, Nat.add_zero, Nat.zero_add, Bool.false_eq_true, Nat.add_sub_cancel, h8, h6, s3, c1]
    · simp (disch := omega) only [↓pu_m1, pu_lit, ↓reduceIte, pu_leT, pu_leF, pu_ltT, pu_ltF, pu_eqT, pu_eqF, pu_eqO, pu_eqO2, pu_ltO, pu_leO, pu_subO, pu_subOF, pu_subT, pu_subF, pu_oobF, pu_clamp, pu_add, pu_sub, pu_mul, pu_and, pu_or, pu_xor, pu_xorO, pu_shl, pu_shr, pu_ushr, pu_nb0, pu_nb1, pu_ob1N, pu_ob2N, pu_ob3N, pu_ob4N, pu_nwN, pu_n1, pu_n7, pu_n31, pu_n255, pu_md, pu_one, pu_sI1, pu_sI2, pu_sA1, pu_sA21, pu_sA222, pu_sAe, pu_sAn, pu_sJ1, pu_sJ21, pu_sJ221, pu_sF1, pu_sF21, pu_sF222, pu_sFe, pu_sFn, pu_upe, pu_upn, Nat.reduceAdd, Nat.reduceSub, Nat.reduceMul, Nat.reduceMod, Nat.reduceAnd, Nat.reducePow, Nat.reduceEqDiff, Nat.add_zero, Nat.zero_add, Bool.false_eq_true, Nat.add_sub_cancel, t3, c2]
  rcases ht with ⟨l, a1, a2, a3, a4, a5⟩ | ⟨v, a1, a2, a3, a4, a5⟩ | ⟨d, a1, a2, a3, a4, a5⟩ | ⟨a2, a4⟩ | ⟨a2, a4⟩
  · have hsl := wsort_le l
    exact Or.inr (hbad1 ⟨1, by omega, by omega, a4⟩ ⟨wsort l, by omega, by omega, a2⟩)
  · have hti : (lN v).toInt32 = nI v := lN_i v
    by_cases hin : lo ≤ v ∧ v ≤ hi
    · left
      have hne : R.2.2.1 3 k ≠ nI 40 := by rw [a2]; decide
      have hc := rd_nextC h hne
      have hO : OKs R (sI M 18 (nI v)) k := ⟨rd_M hr (FR.sI (ni := [18]) (na := []) (nl := []) (by decide)) rfl (by decide) (by decide) (by decide) (by decide) (by decide) (by decide) (by decide), h6, h8⟩
      obtain ⟨M', b1, b2, b3⟩ := rd_step hO hne
      have i4 := in_ok hin.1 hin.2 (by omega)
      obtain ⟨hin1, hin2⟩ := hin
      refine ⟨v, M', hin1, hin2, ?_, ?_, b2, by rw [b3.1 18 (by decide)]; rfl, (FR.sI (by decide)).tr (b3.mono (by decide) (by decide) (by decide))⟩
      · simp (disch := omega) only [↓pu_m1, pu_lit, ↓reduceIte, pu_leT, pu_leF, pu_ltT, pu_ltF, pu_eqT, pu_eqF, pu_eqO, pu_eqO2, pu_ltO, pu_leO, pu_subO, pu_subOF, pu_subT, pu_subF, pu_oobF, pu_clamp, pu_add, pu_sub, pu_mul, pu_and, pu_or, pu_xor, pu_xorO, pu_shl, pu_shr, pu_ushr, pu_nb0, pu_nb1, pu_ob1N, pu_ob2N, pu_ob3N, pu_ob4N, pu_nwN, pu_n1, pu_n7, pu_n31, pu_n255, pu_md, pu_one, pu_sI1, pu_sI2, pu_sA1, pu_sA21, pu_sA222, pu_sAe, pu_sAn, pu_sJ1, pu_sJ21, pu_sJ221, pu_sF1, pu_sF21, pu_sF222, pu_sFe, pu_sFn, pu_upe, pu_upn, Nat.reduceAdd, Nat.reduceSub, Nat.reduceMul, Nat.reduceMod, Nat.reduceAnd, Nat.reducePow, Nat.reduceEqDiff, Nat.add_zero, Nat.zero_add, Bool.false_eq_true, Nat.add_sub_cancel, h8, h6, a2, a3, hti, hc]
      · simp (disch := omega) only [↓pu_m1, pu_lit, ↓reduceIte, pu_leT, pu_leF, pu_ltT, pu_ltF, pu_eqT, pu_eqF, pu_eqO, pu_eqO2, pu_ltO, pu_leO, pu_subO, pu_subOF, pu_subT, pu_subF, pu_oobF, pu_clamp, pu_add, pu_sub, pu_mul, pu_and, pu_or, pu_xor, pu_xorO, pu_shl, pu_shr, pu_ushr, pu_nb0, pu_nb1, pu_ob1N, pu_ob2N, pu_ob3N, pu_ob4N, pu_nwN, pu_n1, pu_n7, pu_n31, pu_n255, pu_md, pu_one, pu_sI1, pu_sI2, pu_sA1, pu_sA21, pu_sA222, pu_sAe, pu_sAn, pu_sJ1, pu_sJ21, pu_sJ221, pu_sF1, pu_sF21, pu_sF222, pu_sFe, pu_sFn, pu_upe, pu_upn, Nat.reduceAdd, Nat.reduceSub, Nat.reduceMul, Nat.reduceMod, Nat.reduceAnd, Nat.reducePow, Nat.reduceEqDiff, Nat.add_zero, Nat.zero_add, Bool.false_eq_true, Nat.add_sub_cancel, a4, a5, i4, b1]
    · right
      obtain ⟨R', M', c1, c2, c3, c4⟩ := rd_fail (f := 2) h (by omega) (by omega)
      have hni : F_X12_isIn (nI v) (nI lo) (nI hi) = some (nI 0) := by
        unfold F_X12_isIn
        by_cases h1 : v < lo
        · rw [if_pos (nI_lt h1 (by omega))]; rfl
        · rw [if_neg (nI_nlt (by omega) (by omega)), if_pos (nI_lt (by omega) (by omega))]; rfl
      refine ⟨R', M', ?_, ?_, c3, c4.mono (by decide) (by decide) (by decide)⟩
      · by_cases h1 : v < lo
        · simp (disch := omega) only [↓pu_m1, pu_lit, ↓reduceIte, pu_leT, pu_leF, pu_ltT, pu_ltF, pu_eqT, pu_eqF, pu_eqO, pu_eqO2, pu_ltO, pu_leO, pu_subO, pu_subOF, pu_subT, pu_subF, pu_oobF, pu_clamp, pu_add, pu_sub, pu_mul, pu_and, pu_or, pu_xor, pu_xorO, pu_shl, pu_shr, pu_ushr, pu_nb0, pu_nb1, pu_ob1N, pu_ob2N, pu_ob3N, pu_ob4N, pu_nwN, pu_n1, pu_n7, pu_n31, pu_n255, pu_md, pu_one, pu_sI1, pu_sI2, pu_sA1, pu_sA21, pu_sA222, pu_sAe, pu_sAn, pu_sJ1, pu_sJ21, pu_sJ221, pu_sF1, pu_sF21, pu_sF222, pu_sFe, pu_sFn, pu_upe, pu_upn, Nat.reduceAdd, Nat.reduceSub, Nat.reduceMul, Nat.reduceMod, Nat.reduceAnd, Nat.reducePow, Nat.reduceEqDiff, Nat.add_zero, Nat.zero_add, Bool.false_eq_true, Nat.add_sub_cancel, h8, h6, a2, a3, hti, c1]
        · simp (disch := omega) only [↓pu_m1, pu_lit, ↓reduceIte, pu_leT, pu_leF, pu_ltT, pu_ltF, pu_eqT, pu_eqF, pu_eqO, pu_eqO2, pu_ltO, pu_leO, pu_subO, pu_subOF, pu_subT, pu_subF, pu_oobF, pu_clamp, pu_add, pu_sub, pu_mul, pu_and, pu_or, pu_xor, pu_xorO, pu_shl, pu_shr, pu_ushr, pu_nb0, pu_nb1, pu_ob1N, pu_ob2N, pu_ob3N, pu_ob4N, pu_nwN, pu_n1, pu_n7, pu_n31, pu_n255, pu_md, pu_one, pu_sI1, pu_sI2, pu_sA1, pu_sA21, pu_sA222, pu_sAe, pu_sAn, pu_sJ1, pu_sJ21, pu_sJ221, pu_sF1, pu_sF21, pu_sF222, pu_sFe, pu_sFn, pu_upe, pu_upn, Nat.reduceAdd, Nat.reduceSub, Nat.reduceMul, Nat.reduceMod, Nat.reduceAnd, Nat.reducePow, Nat.reduceEqDiff, Nat.add_zero, Nat.zero_add, Bool.false_eq_true, Nat.add_sub_cancel, h8, h6, a2, a3, hti, c1]
      · simp (disch := omega) only [↓pu_m1, pu_lit, ↓reduceIte, pu_leT, pu_leF, pu_ltT, pu_ltF, pu_eqT, pu_eqF, pu_eqO, pu_eqO2, pu_ltO, pu_leO, pu_subO, pu_subOF, pu_subT, pu_subF, pu_oobF, pu_clamp, pu_add, pu_sub, pu_mul, pu_and, pu_or, pu_xor, pu_xorO, pu_shl, pu_shr, pu_ushr, pu_nb0, pu_nb1, pu_ob1N, pu_ob2N, pu_ob3N, pu_ob4N, pu_nwN, pu_n1, pu_n7, pu_n31, pu_n255, pu_md, pu_one, pu_sI1, pu_sI2, pu_sA1, pu_sA21, pu_sA222, pu_sAe, pu_sAn, pu_sJ1, pu_sJ21, pu_sJ221, pu_sF1, pu_sF21, pu_sF222, pu_sFe, pu_sFn, pu_upe, pu_upn, Nat.reduceAdd, Nat.reduceSub, Nat.reduceMul, Nat.reduceMod, Nat.reduceAnd, Nat.reducePow, Nat.reduceEqDiff, Nat.add_zero, Nat.zero_add, Bool.false_eq_true, Nat.add_sub_cancel, a4, a5, hni, c2]
  · exact Or.inr (hbad1 ⟨3, by omega, by omega, a4⟩ ⟨38, by omega, by omega, a2⟩)
  · exact Or.inr (hbad1 ⟨4, by omega, by omega, a4⟩ ⟨39, by omega, by omega, a2⟩)
  · refine Or.inr (hbad1 ?_ ⟨40, by omega, by omega, a2⟩)
    rcases a4 with ⟨-, a4⟩ | ⟨-, a4⟩
    · exact ⟨0, by omega, by omega, a4⟩
    · exact ⟨4, by omega, by omega, a4⟩
theorem rd_mark {c : Nat} (h : OKs R M k) (hc : c < 256) : (∃ M', F_X5_needMark R (nI c) = some (sI R 6 (nI (k + 1))) ∧ F_X12_sign M (nI c) = some (nI 1, M') ∧ OKs (sI R 6 (nI (k + 1))) M' (k + 1) ∧ FR [4, 11, 12, 13, 14, 18] [] [] M M') ∨ (∃ R' M', F_X5_needMark R (nI c) = some R' ∧ F_X12_sign M (nI c) = some (nI 0, M') ∧ FLT R' M' ∧ FR [4, 11, 12, 13, 14, 15, 16, 18] [] [] M M') := by
  obtain ⟨t, a1, a2, a3⟩ := rd_isMark h hc
  unfold F_X5_needMark F_X5_takeMark F_X12_sign
  cases t with
  | true =>
    left
    have a1 : F_X5_isMark R (nI c) = some (nI 1) := a1
    have a2 : F_X12_isSign M (nI c) = some (nI 1) := a2
    have hn := rd_nextC h (a3 rfl).1
    obtain ⟨M', b1, b2, b3⟩ := rd_step h (a3 rfl).1
    refine ⟨M', ?_, ?_, b2, b3.mono (by decide) (by decide) (by decide)⟩
    · simp (disch := omega) only [↓pu_m1, pu_lit, ↓reduceIte, pu_leT, pu_leF, pu_ltT, pu_ltF, pu_eqT, pu_eqF, pu_eqO, pu_eqO2, pu_ltO, pu_leO, pu_subO, pu_subOF, pu_subT, pu_subF, pu_oobF, pu_clamp, pu_add, pu_sub, pu_mul, pu_and, pu_or, pu_xor, pu_xorO, pu_shl, pu_shr, pu_ushr, pu_nb0, pu_nb1, pu_ob1N, pu_ob2N, pu_ob3N, pu_ob4N, pu_nwN, pu_n1, pu_n7, pu_n31, pu_n255, pu_md, pu_one, pu_sI1, pu_sI2, pu_sA1, pu_sA21, pu_sA222, pu_sAe, pu_sAn, pu_sJ1, pu_sJ21, pu_sJ221, pu_sF1, pu_sF21, pu_sF222, pu_sFe, pu_sFn, pu_upe, pu_upn, Nat.reduceAdd, Nat.reduceSub, Nat.reduceMul, Nat.reduceMod, Nat.reduceAnd, Nat.reducePow, Nat.reduceEqDiff, Nat.add_zero, Nat.zero_add, Bool.false_eq_true, Nat.add_sub_cancel, a1, hn]
    · simp (disch := omega) only [↓pu_m1, pu_lit, ↓reduceIte, pu_leT, pu_leF, pu_ltT, pu_ltF, pu_eqT, pu_eqF, pu_eqO, pu_eqO2, pu_ltO, pu_leO, pu_subO, pu_subOF, pu_subT, pu_subF, pu_oobF, pu_clamp, pu_add, pu_sub, pu_mul, pu_and, pu_or, pu_xor, pu_xorO, pu_shl, pu_shr, pu_ushr, pu_nb0, pu_nb1, pu_ob1N, pu_ob2N, pu_ob3N, pu_ob4N, pu_nwN, pu_n1, pu_n7, pu_n31, pu_n255, pu_md, pu_one, pu_sI1, pu_sI2, pu_sA1, pu_sA21, pu_sA222, pu_sAe, pu_sAn, pu_sJ1, pu_sJ21, pu_sJ221, pu_sF1, pu_sF21, pu_sF222, pu_sFe, pu_sFn, pu_upe, pu_upn, Nat.reduceAdd, Nat.reduceSub, Nat.reduceMul, Nat.reduceMod, Nat.reduceAnd, Nat.reducePow, Nat.reduceEqDiff, Nat.add_zero, Nat.zero_add, Bool.false_eq_true, Nat.add_sub_cancel, a2, b1]
  | false =>
    right
    have a1 : F_X5_isMark R (nI c) = some (nI 0) := a1
    have a2 : F_X12_isSign M (nI c) = some (nI 0) := a2
    obtain ⟨R', M', c1, c2, c3, c4⟩ := rd_fail (f := 1) h (by omega) (by omega)
    refine ⟨R', M', ?_, ?_, c3, c4.mono (by decide) (by decide) (by decide)⟩
    · simp (disch := omega) only [↓pu_m1, pu_lit, ↓reduceIte, pu_leT, pu_leF, pu_ltT, pu_ltF, pu_eqT, pu_eqF, pu_eqO, pu_eqO2, pu_ltO, pu_leO, pu_subO, pu_subOF, pu_subT, pu_subF, pu_oobF, pu_clamp, pu_add, pu_sub, pu_mul, pu_and, pu_or, pu_xor, pu_xorO, pu_shl, pu_shr, pu_ushr, pu_nb0, pu_nb1, pu_ob1N, pu_ob2N, pu_ob3N, pu_ob4N, pu_nwN, pu_n1, pu_n7, pu_n31, pu_n255, pu_md, pu_one, pu_sI1, pu_sI2, pu_sA1, pu_sA21, pu_sA222, pu_sAe, pu_sAn, pu_sJ1, pu_sJ21, pu_sJ221, pu_sF1, pu_sF21, pu_sF222, pu_sFe, pu_sFn, pu_upe, pu_upn, Nat.reduceAdd, Nat.reduceSub, Nat.reduceMul, Nat.reduceMod, Nat.reduceAnd, Nat.reducePow, Nat.reduceEqDiff, Nat.add_zero, Nat.zero_add, Bool.false_eq_true, Nat.add_sub_cancel, a1, c1]
    · simp (disch := omega) only [↓pu_m1, pu_lit, ↓reduceIte, pu_leT, pu_leF, pu_ltT, pu_ltF, pu_eqT, pu_eqF, pu_eqO, pu_eqO2, pu_ltO, pu_leO, pu_subO, pu_subOF, pu_subT, pu_subF, pu_oobF, pu_clamp, pu_add, pu_sub, pu_mul, pu_and, pu_or, pu_xor, pu_xorO, pu_shl, pu_shr, pu_ushr, pu_nb0, pu_nb1, pu_ob1N, pu_ob2N, pu_ob3N, pu_ob4N, pu_nwN, pu_n1, pu_n7, pu_n31, pu_n255, pu_md, pu_one, pu_sI1, pu_sI2, pu_sA1, pu_sA21, pu_sA222, pu_sAe, pu_sAn, pu_sJ1, pu_sJ21, pu_sJ221, pu_sF1, pu_sF21, pu_sF222, pu_sFe, pu_sFn, pu_upe, pu_upn, Nat.reduceAdd, Nat.reduceSub, Nat.reduceMul, Nat.reduceMod, Nat.reduceAnd, Nat.reducePow, Nat.reduceEqDiff, Nat.add_zero, Nat.zero_add, Bool.false_eq_true, Nat.add_sub_cancel, a2, c2]
/-! names that were told -/
theorem seek_two {c fr : Nat} (f : Nat → Int64) (hc : c ≤ 7) (hf : fr + c ≤ 26) {a : Int64} (hN : ∀ t, t < c → NM (f t) (M.2.2.2 9 (fr + t))) (ha : NM a (M.2.1 17)) : F_X12_seek M (nI fr) (nI c) = some (wI c (fs (fun t => decide (f t = a)) c 0)) := by
  unfold F_X12_seek L_X12_seek_2
  have hlg : ∀ t, t < c → (lg_cmp (M.2.2.2 9 (fr + t)) (M.2.1 17) = 0 ↔ f t = a) := fun t ht => by rw [lgc]; exact (NM_eq (hN t ht) ha).symm
  refine lp_fs (fun t => decide (f t = a)) (fun i => (nI fr, nI c, nI i, M)) c (fun r => r) (fun i hi hP kk => ?_) (fun i hi hP kk => ?_) (fun kk => ?_) (pu_FU (by omega))
  · have e : f i = a := by simpa using hP
    show F_X12_seek_2 kk (nI fr) (nI c) (nI i) M = _
    unfold F_X12_seek_2
    rw [if_neg (nI_ge hi (by omega)), pu_add, if_neg (by rw [pu_oobF (by omega) (by omega)]; exact id), pu_clamp (by omega), if_pos ((hlg i hi).mpr e)]
  · have e : ¬ f i = a := by simpa using hP
    show F_X12_seek_2 kk (nI fr) (nI c) (nI i) M = _
    unfold F_X12_seek_2
    rw [if_neg (nI_ge hi (by omega)), pu_add, if_neg (by rw [pu_oobF (by omega) (by omega)]; exact id), pu_clamp (by omega), if_neg (fun h => e ((hlg i hi).mp h)), nI_1]
  · show F_X12_seek_2 kk (nI fr) (nI c) (nI c) M = _
    unfold F_X12_seek_2
    rw [if_pos (nI_le (Nat.le_refl _) (by omega))]
    rfl
theorem x8_namedT {c : Nat} (h0 : S.1 0 = nI c) (hc : c ≤ 7) (a : Int64) : F_X8_turretNamed S a = some (wI c (fs (fun t => decide (S.2.2.2 1 t = a)) c 0)) := by
  unfold F_X8_turretNamed L_X8_turretNamed_2
  refine lp_fs (fun t => decide (S.2.2.2 1 t = a)) (fun i => (a, nI i, S)) c (fun r => r) (fun i hi hP kk => ?_) (fun i hi hP kk => ?_) (fun kk => ?_) (pu_FU (by omega))
  · have e : S.2.2.2 1 i = a := by simpa using hP
    show F_X8_turretNamed_2 kk a (nI i) S = _
    unfold F_X8_turretNamed_2
    rw [h0, if_neg (nI_ge hi (by omega)), if_neg (by rw [pu_oobF (by omega) (by omega)]; exact id), pu_clamp (by omega), if_pos ((lgc _ _).mpr e)]
  · have e : ¬ S.2.2.2 1 i = a := by simpa using hP
    show F_X8_turretNamed_2 kk a (nI i) S = _
    unfold F_X8_turretNamed_2
    rw [h0, if_neg (nI_ge hi (by omega)), if_neg (by rw [pu_oobF (by omega) (by omega)]; exact id), pu_clamp (by omega), if_neg (fun h => e ((lgc _ _).mp h)), nI_1]
  · show F_X8_turretNamed_2 kk a (nI c) S = _
    unfold F_X8_turretNamed_2
    rw [h0, if_pos (nI_le (Nat.le_refl _) (by omega))]
    rfl
theorem x8_namedP {c : Nat} (h0 : S.1 7 = nI c) (hc : c ≤ 6) (a : Int64) : F_X8_personNamed S a = some (wI c (fs (fun t => decide (S.2.2.2 8 t = a)) c 0)) := by
  unfold F_X8_personNamed L_X8_personNamed_2
  refine lp_fs (fun t => decide (S.2.2.2 8 t = a)) (fun i => (a, nI i, S)) c (fun r => r) (fun i hi hP kk => ?_) (fun i hi hP kk => ?_) (fun kk => ?_) (pu_FU (by omega))
  · have e : S.2.2.2 8 i = a := by simpa using hP
    show F_X8_personNamed_2 kk a (nI i) S = _
    unfold F_X8_personNamed_2
    rw [h0, if_neg (nI_ge hi (by omega)), if_neg (by rw [pu_oobF (by omega) (by omega)]; exact id), pu_clamp (by omega), if_pos ((lgc _ _).mpr e)]
  · have e : ¬ S.2.2.2 8 i = a := by simpa using hP
    show F_X8_personNamed_2 kk a (nI i) S = _
    unfold F_X8_personNamed_2
    rw [h0, if_neg (nI_ge hi (by omega)), if_neg (by rw [pu_oobF (by omega) (by omega)]; exact id), pu_clamp (by omega), if_neg (fun h => e ((lgc _ _).mp h)), nI_1]
  · show F_X8_personNamed_2 kk a (nI c) S = _
    unfold F_X8_personNamed_2
    rw [h0, if_pos (nI_le (Nat.le_refl _) (by omega))]
    rfl
/-- the reference looks a name up -/
theorem x12_look1 {c fr : Nat} (h : OKs R M k) (hW : MW M) (f : Nat → Int64) (hc : c ≤ 7) (hf : fr + c ≤ 26) (hN : ∀ t, t < c → NM (f t) (M.2.2.2 9 (fr + t))) : (∃ t, t < c ∧ F_X5_isName R = some (nI 1) ∧ wI c (fs (fun t => decide (f t = R.2.2.2 4 k)) c 0) = nI t ∧ F_X12_looksAt M (nI fr) (nI c) = some (nI 1, sI M 18 (nI t)) ∧ R.2.2.1 3 k ≠ nI 40) ∨ (∃ g, (g = 1 ∧ F_X5_isName R = some (nI 0) ∨ g = 3 ∧ F_X5_isName R = some (nI 1) ∧ wI c (fs (fun t => decide (f t = R.2.2.2 4 k)) c 0) = nO) ∧ ∃ R' M', F_X5_fail R (nI g) = some R' ∧ F_X12_looksAt M (nI fr) (nI c) = some (nI 0, M') ∧ FLT R' M' ∧ FR [15, 16, 18] [] [] M M') := by
  obtain ⟨t, a1, a2, a3⟩ := rd_isName h hW
  unfold F_X12_looksAt F_X12_looksAt_38
  cases t with
  | true =>
    have a1 : F_X5_isName R = some (nI 1) := a1
    have a2 : F_X12_isName M = some (nI 1) := a2
    obtain ⟨hne, hnm⟩ := a3 rfl
    have hs := seek_two f hc hf hN hnm
    have hfl := (fs_le (fun t => decide (f t = R.2.2.2 4 k)) c 0).2
    by_cases hlt : fs (fun t => decide (f t = R.2.2.2 4 k)) c 0 < c
    · left
      rw [wI_lt hlt] at hs
      refine ⟨_, hlt, a1, wI_lt hlt, ?_, hne⟩
      simp (disch := omega) only [↓pu_m1, pu_lit, ↓reduceIte, pu_leT, pu_leF, pu_ltT, pu_ltF, pu_eqT, pu_eqF, pu_eqO, pu_eqO2, pu_ltO, pu_leO, pu_subO, pu_subOF, pu_subT, pu_subF, pu_oobF, pu_clamp, pu_add, pu_sub, pu_mul, pu_and, pu_or, pu_xor, pu_xorO, pu_shl, pu_shr, pu_ushr, pu_nb0, pu_nb1, pu_ob1N, pu_ob2N, pu_ob3N, pu_ob4N, pu_nwN, pu_n1, pu_n7, pu_n31, pu_n255, pu_md, pu_one, pu_sI1, pu_sI2, pu_sA1, pu_sA21, pu_sA222, pu_sAe, pu_sAn, pu_sJ1, pu_sJ21, pu_sJ221, pu_sF1, pu_sF21, pu_sF222, pu_sFe, pu_sFn, pu_upe, pu_upn, Nat.reduceAdd, Nat.reduceSub, Nat.reduceMul, Nat.reduceMod, Nat.reduceAnd, Nat.reducePow, Nat.reduceEqDiff, Nat.add_zero, Nat.zero_add, Bool.false_eq_true, Nat.add_sub_cancel, a2, hs]
    · right
      rw [wI_ge (by omega)] at hs
      have hO : OKs R (sI M 18 nO) k := ⟨rd_M h.1 (FR.sI (ni := [18]) (na := []) (nl := []) (by decide)) rfl (by decide) (by decide) (by decide) (by decide) (by decide) (by decide) (by decide), h.2⟩
      obtain ⟨R', M', c1, c2, c3, c4⟩ := rd_fail (f := 3) hO (by omega) (by omega)
      have n0 : ¬ nI 0 ≤ nO := by decide
      refine ⟨3, Or.inr ⟨rfl, a1, wI_ge (by omega)⟩, R', M', c1, ?_, c3, (FR.sI (by decide)).tr (c4.mono (by decide) (by decide) (by decide))⟩
      simp (disch := omega) only [↓pu_m1, pu_lit, ↓reduceIte, pu_leT, pu_leF, pu_ltT, pu_ltF, pu_eqT, pu_eqF, pu_eqO, pu_eqO2, pu_ltO, pu_leO, pu_subO, pu_subOF, pu_subT, pu_subF, pu_oobF, pu_clamp, pu_add, pu_sub, pu_mul, pu_and, pu_or, pu_xor, pu_xorO, pu_shl, pu_shr, pu_ushr, pu_nb0, pu_nb1, pu_ob1N, pu_ob2N, pu_ob3N, pu_ob4N, pu_nwN, pu_n1, pu_n7, pu_n31, pu_n255, pu_md, pu_one, pu_sI1, pu_sI2, pu_sA1, pu_sA21, pu_sA222, pu_sAe, pu_sAn, pu_sJ1, pu_sJ21, pu_sJ221, pu_sF1, pu_sF21, pu_sF222, pu_sFe, pu_sFn, pu_upe, pu_upn, Nat.reduceAdd, Nat.reduceSub, Nat.reduceMul, Nat.reduceMod, Nat.reduceAnd, Nat.reducePow, Nat.reduceEqDiff, Nat.add_zero, Nat.zero_add, Bool.false_eq_true, Nat.add_sub_cancel, a2, hs, n0, c2]
  | false =>
    right
    have a1 : F_X5_isName R = some (nI 0) := a1
    have a2 : F_X12_isName M = some (nI 0) := a2
    obtain ⟨R', M', c1, c2, c3, c4⟩ := rd_fail (f := 1) h (by omega) (by omega)
    refine ⟨1, Or.inl ⟨rfl, a1⟩, R', M', c1, ?_, c3, c4.mono (by decide) (by decide) (by decide)⟩
    simp (disch := omega) only [↓pu_m1, pu_lit, ↓reduceIte, pu_leT, pu_leF, pu_ltT, pu_ltF, pu_eqT, pu_eqF, pu_eqO, pu_eqO2, pu_ltO, pu_leO, pu_subO, pu_subOF, pu_subT, pu_subF, pu_oobF, pu_clamp, pu_add, pu_sub, pu_mul, pu_and, pu_or, pu_xor, pu_xorO, pu_shl, pu_shr, pu_ushr, pu_nb0, pu_nb1, pu_ob1N, pu_ob2N, pu_ob3N, pu_ob4N, pu_nwN, pu_n1, pu_n7, pu_n31, pu_n255, pu_md, pu_one, pu_sI1, pu_sI2, pu_sA1, pu_sA21, pu_sA222, pu_sAe, pu_sAn, pu_sJ1, pu_sJ21, pu_sJ221, pu_sF1, pu_sF21, pu_sF222, pu_sFe, pu_sFn, pu_upe, pu_upn, Nat.reduceAdd, Nat.reduceSub, Nat.reduceMul, Nat.reduceMod, Nat.reduceAnd, Nat.reducePow, Nat.reduceEqDiff, Nat.add_zero, Nat.zero_add, Bool.false_eq_true, Nat.add_sub_cancel, a2, c2]
theorem rd_lookT {c fr : Nat} (h : OKs R M k) (hW : MW M) (h0 : S.1 0 = nI c) (hc : c ≤ 7) (hf : fr + c ≤ 26) (hN : ∀ t, t < c → NM (S.2.2.2 1 t) (M.2.2.2 9 (fr + t))) : (∃ t, t < c ∧ F_X5_needTurret R S = some (nI t, sI R 6 (nI (k + 1))) ∧ F_X12_looksAt M (nI fr) (nI c) = some (nI 1, sI M 18 (nI t)) ∧ R.2.2.1 3 k ≠ nI 40) ∨ (∃ R' M', F_X5_needTurret R S = some (nO, R') ∧ F_X12_looksAt M (nI fr) (nI c) = some (nI 0, M') ∧ FLT R' M' ∧ FR [15, 16, 18] [] [] M M') := by
  have hk := ok_k h
  have h6 := h.2.1
  have hn := x8_namedT (S := S) h0 hc (R.2.2.2 4 k)
  unfold F_X5_needTurret F_X5_needTurret_24 F_X5_needTurret_43
  rcases x12_look1 h hW (fun t => S.2.2.2 1 t) hc hf hN with ⟨t, ht, b1, b2, b3, b4⟩ | ⟨g, hg, R', M', c1, c2, c3, c4⟩
  · left
    have hx := rd_nextC h b4
    rw [b2] at hn
    refine ⟨t, ht, ?_, b3, b4⟩
    simp (disch := omega) only [↓pu_m1, pu_lit, ↓reduceIte, pu_leT, pu_leF, pu_ltT, pu_ltF, pu_eqT, pu_eqF, pu_eqO, pu_eqO2, pu_ltO, pu_leO, pu_subO, pu_subOF, pu_subT, pu_subF, pu_oobF, pu_clamp, pu_add, pu_sub, pu_mul, pu_and, pu_or, pu_xor, pu_xorO, pu_shl, pu_shr, pu_ushr, pu_nb0, pu_nb1, pu_ob1N, pu_ob2N, pu_ob3N, pu_ob4N, pu_nwN, pu_n1, pu_n7, pu_n31, pu_n255, pu_md, pu_one, pu_sI1, pu_sI2, pu_sA1, pu_sA21, pu_sA222, pu_sAe, pu_sAn, pu_sJ1, pu_sJ21, pu_sJ221, pu_sF1, pu_sF21, pu_sF222, pu_sFe, pu_sFn, pu_upe, pu_upn, Nat.reduceAdd, Nat.reduceSub, Nat.reduceMul, Nat.reduceMod, Nat.reduceAnd, Nat.reducePow, Nat.reduceEqDiff, Nat.add_zero, Nat.zero_add, Bool.false_eq_true, Nat.add_sub_cancel, b1, h6, hn, hx]
  · right
    refine ⟨R', M', ?_, c2, c3, c4⟩
    rcases hg with ⟨rfl, b1⟩ | ⟨rfl, b1, b2⟩
    · simp (disch := omega) only [↓pu_m1, pu_lit, ↓reduceIte, pu_leT, pu_leF, pu_ltT, pu_ltF, pu_eqT, pu_eqF, pu_eqO, pu_eqO2, pu_ltO, pu_leO, pu_subO, pu_subOF, pu_subT, pu_subF, pu_oobF, pu_clamp, pu_add, pu_sub, pu_mul, pu_and, pu_or, pu_xor, pu_xorO, pu_shl, pu_shr, pu_ushr, pu_nb0, pu_nb1, pu_ob1N, pu_ob2N, pu_ob3N, pu_ob4N, pu_nwN, pu_n1, pu_n7, pu_n31, pu_n255, pu_md, pu_one, pu_sI1, pu_sI2, pu_sA1, pu_sA21, pu_sA222, pu_sAe, pu_sAn, pu_sJ1, pu_sJ21, pu_sJ221, pu_sF1, pu_sF21, pu_sF222, pu_sFe, pu_sFn, pu_upe, pu_upn, Nat.reduceAdd, Nat.reduceSub, Nat.reduceMul, Nat.reduceMod, Nat.reduceAnd, Nat.reducePow, Nat.reduceEqDiff, Nat.add_zero, Nat.zero_add, Bool.false_eq_true, Nat.add_sub_cancel, b1, c1]
    · rw [b2] at hn
      simp (disch := omega) only [↓pu_m1, pu_lit, ↓reduceIte, pu_leT, pu_leF, pu_ltT, pu_ltF, pu_eqT, pu_eqF, pu_eqO, pu_eqO2, pu_ltO, pu_leO, pu_subO, pu_subOF, pu_subT, pu_subF, pu_oobF, pu_clamp, pu_add, pu_sub, pu_mul, pu_and, pu_or, pu_xor, pu_xorO, pu_shl, pu_shr, pu_ushr, pu_nb0, pu_nb1, pu_ob1N, pu_ob2N, pu_ob3N, pu_ob4N, pu_nwN, pu_n1, pu_n7, pu_n31, pu_n255, pu_md, pu_one, pu_sI1, pu_sI2, pu_sA1, pu_sA21, pu_sA222, pu_sAe, pu_sAn, pu_sJ1, pu_sJ21, pu_sJ221, pu_sF1, pu_sF21, pu_sF222, pu_sFe, pu_sFn, pu_upe, pu_upn, Nat.reduceAdd, Nat.reduceSub, Nat.reduceMul, Nat.reduceMod, Nat.reduceAnd, Nat.reducePow, Nat.reduceEqDiff, Nat.add_zero, Nat.zero_add, Bool.false_eq_true, Nat.add_sub_cancel, b1, h6, hn, c1]
theorem rd_lookP {c fr : Nat} (h : OKs R M k) (hW : MW M) (h0 : S.1 7 = nI c) (hc : c ≤ 6) (hf : fr + c ≤ 26) (hN : ∀ t, t < c → NM (S.2.2.2 8 t) (M.2.2.2 9 (fr + t))) : (∃ t, t < c ∧ F_X5_seePerson R S = some (nI t, R) ∧ F_X5_needPerson R S = some (nI t, sI R 6 (nI (k + 1))) ∧ F_X12_looksAt M (nI fr) (nI c) = some (nI 1, sI M 18 (nI t)) ∧ R.2.2.1 3 k ≠ nI 40) ∨ (∃ R' M', F_X5_seePerson R S = some (nO, R') ∧ F_X5_needPerson R S = some (nO, R') ∧ F_X12_looksAt M (nI fr) (nI c) = some (nI 0, M') ∧ FLT R' M' ∧ FR [15, 16, 18] [] [] M M') := by
  have hk := ok_k h
  have h6 := h.2.1
  have hn := x8_namedP (S := S) h0 hc (R.2.2.2 4 k)
  unfold F_X5_needPerson
  rcases x12_look1 h hW (fun t => S.2.2.2 8 t) (by omega) hf hN with ⟨t, ht, b1, b2, b3, b4⟩ | ⟨g, hg, R', M', c1, c2, c3, c4⟩
  · left
    have hx := rd_nextC h b4
    rw [b2] at hn
    have hsee : F_X5_seePerson R S = some (nI t, R) := by
      unfold F_X5_seePerson F_X5_seePerson_24
      simp (disch := omega) only [↓pu_m1, pu_lit, ↓reduceIte, pu_leT, pu_leF, pu_ltT, pu_ltF, pu_eqT, pu_eqF, pu_eqO, pu_eqO2, pu_ltO, pu_leO, pu_subO, pu_subOF, pu_subT, pu_subF, pu_oobF, pu_clamp, pu_add, pu_sub, pu_mul, pu_and, pu_or, pu_xor, pu_xorO, pu_shl, pu_shr, pu_ushr, pu_nb0, pu_nb1, pu_ob1N, pu_ob2N, pu_ob3N, pu_ob4N, pu_nwN, pu_n1, pu_n7, pu_n31, pu_n255, pu_md, pu_one, pu_sI1, pu_sI2, pu_sA1, pu_sA21, pu_sA222, pu_sAe, pu_sAn, pu_sJ1, pu_sJ21, pu_sJ221, pu_sF1, pu_sF21, pu_sF222, pu_sFe, pu_sFn, pu_upe, pu_upn, Nat.reduceAdd, Nat.reduceSub, Nat.reduceMul, Nat.reduceMod, Nat.reduceAnd, Nat.reducePow, Nat.reduceEqDiff, Nat.add_zero, Nat.zero_add, Bool.false_eq_true, Nat.add_sub_cancel, b1, h6, hn]
    refine ⟨t, ht, hsee, ?_, b3, b4⟩
    simp (disch := omega) only [↓pu_m1, pu_lit, ↓reduceIte, pu_leT, pu_leF, pu_ltT, pu_ltF, pu_eqT, pu_eqF, pu_eqO, pu_eqO2, pu_ltO, pu_leO, pu_subO, pu_subOF, pu_subT, pu_subF, pu_oobF, pu_clamp, pu_add, pu_sub, pu_mul, pu_and, pu_or, pu_xor, pu_xorO, pu_shl, pu_shr, pu_ushr, pu_nb0, pu_nb1, pu_ob1N, pu_ob2N, pu_ob3N, pu_ob4N, pu_nwN, pu_n1, pu_n7, pu_n31, pu_n255, pu_md, pu_one, pu_sI1, pu_sI2, pu_sA1, pu_sA21, pu_sA222, pu_sAe, pu_sAn, pu_sJ1, pu_sJ21, pu_sJ221, pu_sF1, pu_sF21, pu_sF222, pu_sFe, pu_sFn, pu_upe, pu_upn, Nat.reduceAdd, Nat.reduceSub, Nat.reduceMul, Nat.reduceMod, Nat.reduceAnd, Nat.reducePow, Nat.reduceEqDiff, Nat.add_zero, Nat.zero_add, Bool.false_eq_true, Nat.add_sub_cancel, hsee, hx]
  · right
    have hsee : F_X5_seePerson R S = some (nO, R') := by
      unfold F_X5_seePerson F_X5_seePerson_24 F_X5_seePerson_43
      rcases hg with ⟨rfl, b1⟩ | ⟨rfl, b1, b2⟩
      · simp (disch := omega) only [↓pu_m1, pu_lit, ↓reduceIte, pu_leT, pu_leF, pu_ltT, pu_ltF, pu_eqT, pu_eqF, pu_eqO, pu_eqO2, pu_ltO, pu_leO, pu_subO, pu_subOF, pu_subT, pu_subF, pu_oobF, pu_clamp, pu_add, pu_sub, pu_mul, pu_and, pu_or, pu_xor, pu_xorO, pu_shl, pu_shr, pu_ushr, pu_nb0, pu_nb1, pu_ob1N, pu_ob2N, pu_ob3N, pu_ob4N, pu_nwN, pu_n1, pu_n7, pu_n31, pu_n255, pu_md, pu_one, pu_sI1, pu_sI2, pu_sA1, pu_sA21, pu_sA222, pu_sAe, pu_sAn, pu_sJ1, pu_sJ21, pu_sJ221, pu_sF1, pu_sF21, pu_sF222, pu_sFe, pu_sFn, pu_upe, pu_upn, Nat.reduceAdd, Nat.reduceSub, Nat.reduceMul, Nat.reduceMod, Nat.reduceAnd, Nat.reducePow, Nat.reduceEqDiff, Nat.add_zero, Nat.zero_add, Bool.false_eq_true, Nat.add_sub_cancel, b1, c1]
      · rw [b2] at hn
        simp (disch := omega) only [↓pu_m1, pu_lit, ↓reduceIte, pu_leT, pu_leF, pu_ltT, pu_ltF, pu_eqT, pu_eqF, pu_eqO, pu_eqO2, pu_ltO, pu_leO, pu_subO, pu_subOF, pu_subT, pu_subF, pu_oobF, pu_clamp, pu_add, pu_sub, pu_mul, pu_and, pu_or, pu_xor, pu_xorO, pu_shl, pu_shr, pu_ushr, pu_nb0, pu_nb1, pu_ob1N, pu_ob2N, pu_ob3N, pu_ob4N, pu_nwN, pu_n1, pu_n7, pu_n31, pu_n255, pu_md, pu_one, pu_sI1, pu_sI2, pu_sA1, pu_sA21, pu_sA222, pu_sAe, pu_sAn, pu_sJ1, pu_sJ21, pu_sJ221, pu_sF1, pu_sF21, pu_sF222, pu_sFe, pu_sFn, pu_upe, pu_upn, Nat.reduceAdd, Nat.reduceSub, Nat.reduceMul, Nat.reduceMod, Nat.reduceAnd, Nat.reducePow, Nat.reduceEqDiff, Nat.add_zero, Nat.zero_add, Bool.false_eq_true, Nat.add_sub_cancel, b1, h6, hn, c1]
    refine ⟨R', M', hsee, ?_, c2, c3, c4⟩
    simp (disch := omega) only [↓pu_m1, pu_lit, ↓reduceIte, pu_leT, pu_leF, pu_ltT, pu_ltF, pu_eqT, pu_eqF, pu_eqO, pu_eqO2, pu_ltO, pu_leO, pu_subO, pu_subOF, pu_subT, pu_subF, pu_oobF, pu_clamp, pu_add, pu_sub, pu_mul, pu_and, pu_or, pu_xor, pu_xorO, pu_shl, pu_shr, pu_ushr, pu_nb0, pu_nb1, pu_ob1N, pu_ob2N, pu_ob3N, pu_ob4N, pu_nwN, pu_n1, pu_n7, pu_n31, pu_n255, pu_md, pu_one, pu_sI1, pu_sI2, pu_sA1, pu_sA21, pu_sA222, pu_sAe, pu_sAn, pu_sJ1, pu_sJ21, pu_sJ221, pu_sF1, pu_sF21, pu_sF222, pu_sFe, pu_sFn, pu_upe, pu_upn, Nat.reduceAdd, Nat.reduceSub, Nat.reduceMul, Nat.reduceMod, Nat.reduceAnd, Nat.reducePow, Nat.reduceEqDiff, Nat.add_zero, Nat.zero_add, Bool.false_eq_true, Nat.add_sub_cancel, hsee]
end P27
