/-! a suburb's text, in step -/
/-- what is read so far: the class's Suburb, the reference's row 7 and its new names -/
def SUB (S M : St) (V : Vt) : Prop := S.1 0 = nI (V 0) ∧ S.1 7 = nI (V 1) ∧ S.1 5 = nI (V 23) ∧ S.1 6 = nI 0 ∧ S.1 14 = nI 0 ∧ V 0 ≤ 7 ∧ V 1 ≤ 6 ∧ V 23 < 128 ∧ (∀ j, j < 42 → M.2.2.1 7 j = nI (V j)) ∧ (∀ t, t < V 0 → S.2.2.1 2 t = nI (V (2 + t)) ∧ V (2 + t) < 4 ∧ S.2.2.1 3 t = nI (V (9 + t)) ∧ V (9 + t) < 8 ∧ S.2.2.1 4 t = nI (V (16 + t)) ∧ V (16 + t) ≤ 60 ∧ NM (S.2.2.2 1 t) (M.2.2.2 9 (13 + t))) ∧ (∀ p, p < V 1 → S.2.2.1 9 p = nI (V (30 + p)) ∧ V (30 + p) < 256 ∧ opn (V (30 + p)) = true ∧ S.2.2.1 10 p = nI (V (36 + p)) ∧ V (36 + p) < 256 ∧ S.2.2.1 11 p = nI (V (24 + p)) ∧ V (24 + p) ≤ 60 ∧ S.2.2.1 12 p = nO ∧ S.2.2.1 13 p = nI 0 ∧ NM (S.2.2.2 8 p) (M.2.2.2 9 (20 + p))) ∧ ∀ p, V 1 ≤ p → p < 6 → V (30 + p) = 0 ∧ V (36 + p) = 0
/-- the names that hold now stay -/
def N13 (M M' : St) : Prop := ∀ j, j < 13 → M'.2.2.2 9 j = M.2.2.2 9 j
/-- how a step of a reader may end -/
def RES (S' R' M M' : St) (V' : Vt) (k k' : Nat) (r : Int32) : Prop := FR [4, 11, 12, 13, 14, 15, 16, 18] [7] [9] M M' ∧ N13 M M' ∧ ((r = nI 1 ∧ OKs R' M' k' ∧ SUB S' M' V' ∧ M'.1 15 = M.1 15 ∧ k < k') ∨ (r = nI 0 ∧ FLT R' M'))
section P28
variable {R M S : St} {V : Vt} {k : Nat}
theorem SUB_M {M' : St} {ni na nl : List Nat} (h : SUB S M V) (hf : FR ni na nl M M') (h7 : 7 ∉ na) (h9 : 9 ∉ nl) : SUB S M' V := by
  unfold SUB at h ⊢
  rw [hf.2.1 7 h7, hf.2.2 9 h9]
  exact h
theorem N13_fr {M' : St} {ni na nl : List Nat} (hf : FR ni na nl M M') (h9 : 9 ∉ nl) : N13 M M' := fun j _ => by rw [hf.2.2 9 h9]
theorem N13.tr {M1 M2 : St} (h : N13 M M1) (h2 : N13 M1 M2) : N13 M M2 := fun j hj => (h2 j hj).trans (h j hj)
theorem MW_fr {M' : St} {ni na nl : List Nat} (h : MW M) (hf : FR ni na nl M M') (h10 : 10 ∉ nl) : MW M' := fun i hi => by rw [hf.2.2 10 h10]; exact h i hi
/-- a new name: told neither of a turret nor of a person -/
theorem rd_fresh {x : Nat} (h : OKs R M k) (hW : MW M) (hS : SUB S M V) (hx : 13 ≤ x) (hx2 : x < 26) : (∃ a M', F_X5_needNewName R S = some (a, sI R 6 (nI (k + 1))) ∧ F_X12_fresh M (nI x) = some (nI 1, M') ∧ OKs (sI R 6 (nI (k + 1))) M' (k + 1) ∧ NM a (M'.2.2.2 9 x) ∧ (∀ j, j ≠ x → M'.2.2.2 9 j = M.2.2.2 9 j) ∧ FR [4, 11, 12, 13, 14, 18] [] [9] M M') ∨ (∃ a R' M', F_X5_needNewName R S = some (a, R') ∧ F_X12_fresh M (nI x) = some (nI 0, M') ∧ FLT R' M' ∧ FR [4, 11, 12, 13, 14, 15, 16, 18] [] [] M M') := by
  have hk := ok_k h
  have h6 := h.2.1
  obtain ⟨s0, s7, s5, s6, s14, v0, v1, v23, sm, st, sp, sz⟩ := hS
  have g0 := sm 0 (by omega)
  have g1 := sm 1 (by omega)
  have hnT := x8_namedT (S := S) s0 v0 (R.2.2.2 4 k)
  have hnP := x8_namedP (S := S) s7 v1 (R.2.2.2 4 k)
  obtain ⟨t, a1, a2, a3⟩ := rd_isName h hW
  unfold F_X5_needNewName F_X5_needNewName_43 F_X12_fresh F_X12_fresh_43
  cases t with
  | true =>
    have a1 : F_X5_isName R = some (nI 1) := a1
    have a2 : F_X12_isName M = some (nI 1) := a2
    obtain ⟨hne, hnm⟩ := a3 rfl
    have hsT := seek_two (fr := 13) (fun t => S.2.2.2 1 t) v0 (by omega) (fun t ht => (st t ht).2.2.2.2.2.2) hnm
    have hsP := seek_two (fr := 20) (fun t => S.2.2.2 8 t) (by omega : V 1 ≤ 7) (by omega) (fun t ht => (sp t ht).2.2.2.2.2.2.2.2.2) hnm
    have hflT := (fs_le (fun t => decide (S.2.2.2 1 t = R.2.2.2 4 k)) (V 0) 0).2
    have hflP := (fs_le (fun t => decide (S.2.2.2 8 t = R.2.2.2 4 k)) (V 1) 0).2
    obtain ⟨Rf, Mf, f1, f2, f3, f4⟩ := rd_fail (f := 3) h (by omega) (by omega)
    by_cases hT : fs (fun t => decide (S.2.2.2 1 t = R.2.2.2 4 k)) (V 0) 0 < V 0
    · right
      rw [wI_lt hT] at hnT hsT
      refine ⟨R.2.2.2 4 k, Rf, Mf, ?_, ?_, f3, f4.mono (by decide) (by decide) (by decide)⟩
      · simp (disch := omega) only [↓pu_m1, pu_lit, ↓reduceIte, pu_leT, pu_leF, pu_ltT, pu_ltF, pu_eqT, pu_eqF, pu_eqO, pu_eqO2, pu_ltO, pu_leO, pu_subO, pu_subOF, pu_subT, pu_subF, pu_oobF, pu_clamp, pu_add, pu_sub, pu_mul, pu_and, pu_or, pu_xor, pu_xorO, pu_shl, pu_shr, pu_ushr, pu_nb0, pu_nb1, pu_ob1N, pu_ob2N, pu_ob3N, pu_ob4N, pu_nwN, pu_n1, pu_n7, pu_n31, pu_n255, pu_md, pu_one, pu_sI1, pu_sI2, pu_sA1, pu_sA21, pu_sA222, pu_sAe, pu_sAn, pu_sJ1, pu_sJ21, pu_sJ221, pu_sF1, pu_sF21, pu_sF222, pu_sFe, pu_sFn, pu_upe, pu_upn, Nat.reduceAdd, Nat.reduceSub, Nat.reduceMul, Nat.reduceMod, Nat.reduceAnd, Nat.reducePow, Nat.reduceEqDiff, Nat.add_zero, Nat.zero_add, Bool.false_eq_true, Nat.add_sub_cancel, h6, a1, hnT, f1]
      · simp (disch := omega) only [↓pu_m1, pu_lit, ↓reduceIte, pu_leT, pu_leF, pu_ltT, pu_ltF, pu_eqT, pu_eqF, pu_eqO, pu_eqO2, pu_ltO, pu_leO, pu_subO, pu_subOF, pu_subT, pu_subF, pu_oobF, pu_clamp, pu_add, pu_sub, pu_mul, pu_and, pu_or, pu_xor, pu_xorO, pu_shl, pu_shr, pu_ushr, pu_nb0, pu_nb1, pu_ob1N, pu_ob2N, pu_ob3N, pu_ob4N, pu_nwN, pu_n1, pu_n7, pu_n31, pu_n255, pu_md, pu_one, pu_sI1, pu_sI2, pu_sA1, pu_sA21, pu_sA222, pu_sAe, pu_sAn, pu_sJ1, pu_sJ21, pu_sJ221, pu_sF1, pu_sF21, pu_sF222, pu_sFe, pu_sFn, pu_upe, pu_upn, Nat.reduceAdd, Nat.reduceSub, Nat.reduceMul, Nat.reduceMod, Nat.reduceAnd, Nat.reducePow, Nat.reduceEqDiff, Nat.add_zero, Nat.zero_add, Bool.false_eq_true, Nat.add_sub_cancel, a2, g0, hsT, f2]
    · rw [wI_ge (by omega)] at hnT hsT
      have n0 : ¬ nI 0 ≤ nO := by decide
      by_cases hP : fs (fun t => decide (S.2.2.2 8 t = R.2.2.2 4 k)) (V 1) 0 < V 1
      · right
        rw [wI_lt hP] at hnP hsP
        refine ⟨R.2.2.2 4 k, Rf, Mf, ?_, ?_, f3, f4.mono (by decide) (by decide) (by decide)⟩
        · simp (disch := omega) only [↓pu_m1, pu_lit, ↓reduceIte, pu_leT, pu_leF, pu_ltT, pu_ltF, pu_eqT, pu_eqF, pu_eqO, pu_eqO2, pu_ltO, pu_leO, pu_subO, pu_subOF, pu_subT, pu_subF, pu_oobF, pu_clamp, pu_add, pu_sub, pu_mul, pu_and, pu_or, pu_xor, pu_xorO, pu_shl, pu_shr, pu_ushr, pu_nb0, pu_nb1, pu_ob1N, pu_ob2N, pu_ob3N, pu_ob4N, pu_nwN, pu_n1, pu_n7, pu_n31, pu_n255, pu_md, pu_one, pu_sI1, pu_sI2, pu_sA1, pu_sA21, pu_sA222, pu_sAe, pu_sAn, pu_sJ1, pu_sJ21, pu_sJ221, pu_sF1, pu_sF21, pu_sF222, pu_sFe, pu_sFn, pu_upe, pu_upn, Nat.reduceAdd, Nat.reduceSub, Nat.reduceMul, Nat.reduceMod, Nat.reduceAnd, Nat.reducePow, Nat.reduceEqDiff, Nat.add_zero, Nat.zero_add, Bool.false_eq_true, Nat.add_sub_cancel, h6, a1, hnT, hnP, f1]
        · simp (disch := omega) only [↓pu_m1, pu_lit, ↓reduceIte, pu_leT, pu_leF, pu_ltT, pu_ltF, pu_eqT, pu_eqF, pu_eqO, pu_eqO2, pu_ltO, pu_leO, pu_subO, pu_subOF, pu_subT, pu_subF, pu_oobF, pu_clamp, pu_add, pu_sub, pu_mul, pu_and, pu_or, pu_xor, pu_xorO, pu_shl, pu_shr, pu_ushr, pu_nb0, pu_nb1, pu_ob1N, pu_ob2N, pu_ob3N, pu_ob4N, pu_nwN, pu_n1, pu_n7, pu_n31, pu_n255, pu_md, pu_one, pu_sI1, pu_sI2, pu_sA1, pu_sA21, pu_sA222, pu_sAe, pu_sAn, pu_sJ1, pu_sJ21, pu_sJ221, pu_sF1, pu_sF21, pu_sF222, pu_sFe, pu_sFn, pu_upe, pu_upn, Nat.reduceAdd, Nat.reduceSub, Nat.reduceMul, Nat.reduceMod, Nat.reduceAnd, Nat.reducePow, Nat.reduceEqDiff, Nat.add_zero, Nat.zero_add, Bool.false_eq_true, Nat.add_sub_cancel, a2, g0, hsT, n0, g1, hsP, f2]
      · left
        rw [wI_ge (by omega)] at hnP hsP
        have n1 : nO < nI 0 := pu_nOneg
        have hn := rd_nextC h hne
        have hO : OKs R (sJ M 9 (nI x) (M.2.1 17)) k := ⟨rd_M h.1 (FR.sJ (ni := []) (na := []) (nl := [9]) (by decide)) rfl (by decide) (by decide) (by decide) (by decide) (by decide) (by decide) (by decide), h.2⟩
        obtain ⟨M', b1, b2, b3⟩ := rd_step hO hne
        refine ⟨R.2.2.2 4 k, M', ?_, ?_, b2, ?_, fun j hj => ?_, (FR.sJ (by decide)).tr (b3.mono (by decide) (by decide) (by decide))⟩
        · simp (disch := omega) only [↓pu_m1, pu_lit, ↓reduceIte, pu_leT, pu_leF, pu_ltT, pu_ltF, pu_eqT, pu_eqF, pu_eqO, pu_eqO2, pu_ltO, pu_leO, pu_subO, pu_subOF, pu_subT, pu_subF, pu_oobF, pu_clamp, pu_add, pu_sub, pu_mul, pu_and, pu_or, pu_xor, pu_xorO, pu_shl, pu_shr, pu_ushr, pu_nb0, pu_nb1, pu_ob1N, pu_ob2N, pu_ob3N, pu_ob4N, pu_nwN, pu_n1, pu_n7, pu_n31, pu_n255, pu_md, pu_one, pu_sI1, pu_sI2, pu_sA1, pu_sA21, pu_sA222, pu_sAe, pu_sAn, pu_sJ1, pu_sJ21, pu_sJ221, pu_sF1, pu_sF21, pu_sF222, pu_sFe, pu_sFn, pu_upe, pu_upn, Nat.reduceAdd, Nat.reduceSub, Nat.reduceMul, Nat.reduceMod, Nat.reduceAnd, Nat.reducePow, Nat.reduceEqDiff, Nat.add_zero, Nat.zero_add, Bool.false_eq_true, Nat.add_sub_cancel, h6, a1, hnT, hnP, hn]
        · simp (disch := omega) only [↓pu_m1, pu_lit, ↓reduceIte, pu_leT, pu_leF, pu_ltT, pu_ltF, pu_eqT, pu_eqF, pu_eqO, pu_eqO2, pu_ltO, pu_leO, pu_subO, pu_subOF, pu_subT, pu_subF, pu_oobF, pu_clamp, pu_add, pu_sub, pu_mul, pu_and, pu_or, pu_xor, pu_xorO, pu_shl, pu_shr, pu_ushr, pu_nb0, pu_nb1, pu_ob1N, pu_ob2N, pu_ob3N, pu_ob4N, pu_nwN, pu_n1, pu_n7, pu_n31, pu_n255, pu_md, pu_one, pu_sI1, pu_sI2, pu_sA1, pu_sA21, pu_sA222, pu_sAe, pu_sAn, pu_sJ1, pu_sJ21, pu_sJ221, pu_sF1, pu_sF21, pu_sF222, pu_sFe, pu_sFn, pu_upe, pu_upn, Nat.reduceAdd, Nat.reduceSub, Nat.reduceMul, Nat.reduceMod, Nat.reduceAnd, Nat.reducePow, Nat.reduceEqDiff, Nat.add_zero, Nat.zero_add, Bool.false_eq_true, Nat.add_sub_cancel, a2, g0, hsT, n0, g1, hsP, n1, b1]
        · rw [b3.2.2 9 (by decide), pu_sJe (by omega), if_pos rfl]; exact hnm
        · rw [b3.2.2 9 (by decide), pu_sJe (by omega), if_neg hj]
  | false =>
    right
    have a1 : F_X5_isName R = some (nI 0) := a1
    have a2 : F_X12_isName M = some (nI 0) := a2
    obtain ⟨Rf, Mf, f1, f2, f3, f4⟩ := rd_fail (f := 1) h (by omega) (by omega)
    refine ⟨R.2.2.2 4 k, Rf, Mf, ?_, ?_, f3, f4.mono (by decide) (by decide) (by decide)⟩
    · simp (disch := omega) only [↓pu_m1, pu_lit, ↓reduceIte, pu_leT, pu_leF, pu_ltT, pu_ltF, pu_eqT, pu_eqF, pu_eqO, pu_eqO2, pu_ltO, pu_leO, pu_subO, pu_subOF, pu_subT, pu_subF, pu_oobF, pu_clamp, pu_add, pu_sub, pu_mul, pu_and, pu_or, pu_xor, pu_xorO, pu_shl, pu_shr, pu_ushr, pu_nb0, pu_nb1, pu_ob1N, pu_ob2N, pu_ob3N, pu_ob4N, pu_nwN, pu_n1, pu_n7, pu_n31, pu_n255, pu_md, pu_one, pu_sI1, pu_sI2, pu_sA1, pu_sA21, pu_sA222, pu_sAe, pu_sAn, pu_sJ1, pu_sJ21, pu_sJ221, pu_sF1, pu_sF21, pu_sF222, pu_sFe, pu_sFn, pu_upe, pu_upn, Nat.reduceAdd, Nat.reduceSub, Nat.reduceMul, Nat.reduceMod, Nat.reduceAnd, Nat.reducePow, Nat.reduceEqDiff, Nat.add_zero, Nat.zero_add, Bool.false_eq_true, Nat.add_sub_cancel, h6, a1, f1]
    · simp (disch := omega) only [↓pu_m1, pu_lit, ↓reduceIte, pu_leT, pu_leF, pu_ltT, pu_ltF, pu_eqT, pu_eqF, pu_eqO, pu_eqO2, pu_ltO, pu_leO, pu_subO, pu_subOF, pu_subT, pu_subF, pu_oobF, pu_clamp, pu_add, pu_sub, pu_mul, pu_and, pu_or, pu_xor, pu_xorO, pu_shl, pu_shr, pu_ushr, pu_nb0, pu_nb1, pu_ob1N, pu_ob2N, pu_ob3N, pu_ob4N, pu_nwN, pu_n1, pu_n7, pu_n31, pu_n255, pu_md, pu_one, pu_sI1, pu_sI2, pu_sA1, pu_sA21, pu_sA222, pu_sAe, pu_sAn, pu_sJ1, pu_sJ21, pu_sJ221, pu_sF1, pu_sF21, pu_sF222, pu_sFe, pu_sFn, pu_upe, pu_upn, Nat.reduceAdd, Nat.reduceSub, Nat.reduceMul, Nat.reduceMod, Nat.reduceAnd, Nat.reducePow, Nat.reduceEqDiff, Nat.add_zero, Nat.zero_add, Bool.false_eq_true, Nat.add_sub_cancel, a2, f2]
theorem pm_shape : ∀ j, j < 4 → 1 + j < 36 ∧ 5 + j < 36 ∧ pm (1 + j) = 5 + j := by decide
theorem pm_view : ∀ j, j < 8 → 5 + j < 36 ∧ 9 + j < 36 ∧ pm (5 + j) = 9 + j := by decide
theorem pm_act : ∀ j, j < 3 → 17 + j < 36 ∧ 17 + j < 36 ∧ pm (17 + j) = 17 + j := by decide
theorem one_ne : ¬ nI 1 = (0 : Int32) := by decide
theorem zero_eq : nI 0 = (0 : Int32) := by decide
theorem no_oob {i n : Nat} (h : i < n) (hn : n < 1000000) : ¬ oob (nI i) n := by rw [pu_oobF h (by omega)]; exact id
theorem lit_add (c n : Nat) : (OfNat.ofNat c : Int32) + nI n = nI (OfNat.ofNat c + n) := nI_add _ _
/-- behind each of the class's takings of a turret's line -/
theorem cl_t4 {S1 R1 : St} {t : Nat} (h1 : S1.1 0 = nI t) (hf : FLc R1) : ∃ S', (ob2 (F_X5_takeWord R1 (4 : Int32)) fun r29 U30 => if r29 = 0 then (F_X8_readTurret_91 S1 U30) else (nw (sI S1 5 ((S1.1 5) ||| ((1 : Int32) <<< ((nI t) &&& 31)))) fun U32 => F_X8_readTurret_91 U32 U30)) = some (S', R1) := by
  refine ⟨sI S1 0 (nI (t + 1)), ?_⟩
  rw [fl_takeWord hf, pu_ob2N, if_pos zero_eq]
  unfold F_X8_readTurret_91
  rw [h1, pu_nwN, show (1 : Int32) = nI 1 from rfl, nI_add]
theorem cl_t3 {S1 R1 : St} {t : Nat} (ht : t < 7) (h1 : S1.1 0 = nI t) (hf : FLc R1) : ∃ S', (ob2 (F_X5_needNumber R1 (1 : Int32) (60 : Int32)) fun r23 U24 => if oob (nI t) 7 then none else nw (sA S1 4 (nI t) r23) fun U26 => ob2 (F_X5_takeWord U24 (4 : Int32)) fun r29 U30 => if r29 = 0 then (F_X8_readTurret_91 U26 U30) else (nw (sI U26 5 ((U26.1 5) ||| ((1 : Int32) <<< ((nI t) &&& 31)))) fun U32 => F_X8_readTurret_91 U32 U30)) = some (S', R1) := by
  rw [fl_needNum hf, pu_ob2N, if_neg (no_oob ht (by omega)), pu_nwN]
  exact cl_t4 h1 hf
theorem cl_t2 {S1 R1 : St} {t : Nat} (ht : t < 7) (h1 : S1.1 0 = nI t) (hf : FLc R1) : ∃ S', (ob2 (F_X5_needWordFrom R1 (9 : Int32) (8 : Int32)) fun r17 U18 => if oob (nI t) 7 then none else nw (sA S1 3 (nI t) r17) fun U20 => ob2 (F_X5_needNumber U18 (1 : Int32) (60 : Int32)) fun r23 U24 => if oob (nI t) 7 then none else nw (sA U20 4 (nI t) r23) fun U26 => ob2 (F_X5_takeWord U24 (4 : Int32)) fun r29 U30 => if r29 = 0 then (F_X8_readTurret_91 U26 U30) else (nw (sI U26 5 ((U26.1 5) ||| ((1 : Int32) <<< ((nI t) &&& 31)))) fun U32 => F_X8_readTurret_91 U32 U30)) = some (S', R1) := by
  rw [fl_needFrom hf, pu_ob2N, if_neg (no_oob ht (by omega)), pu_nwN]
  exact cl_t3 ht h1 hf
theorem cl_t1 {S1 R1 : St} {t : Nat} (ht : t < 7) (h1 : S1.1 0 = nI t) (hf : FLc R1) : ∃ S', (ob2 (F_X5_needWordFrom R1 (5 : Int32) (4 : Int32)) fun r11 U12 => if oob (nI t) 7 then none else nw (sA S1 2 (nI t) r11) fun U14 => ob2 (F_X5_needWordFrom U12 (9 : Int32) (8 : Int32)) fun r17 U18 => if oob (nI t) 7 then none else nw (sA U14 3 (nI t) r17) fun U20 => ob2 (F_X5_needNumber U18 (1 : Int32) (60 : Int32)) fun r23 U24 => if oob (nI t) 7 then none else nw (sA U20 4 (nI t) r23) fun U26 => ob2 (F_X5_takeWord U24 (4 : Int32)) fun r29 U30 => if r29 = 0 then (F_X8_readTurret_91 U26 U30) else (nw (sI U26 5 ((U26.1 5) ||| ((1 : Int32) <<< ((nI t) &&& 31)))) fun U32 => F_X8_readTurret_91 U32 U30)) = some (S', R1) := by
  rw [fl_needFrom hf, pu_ob2N, if_neg (no_oob ht (by omega)), pu_nwN]
  exact cl_t2 ht h1 hf
theorem ok_sA {i v : Int32} {f : Nat} (h : OKs R M k) (hf : f ≠ 1) : OKs R (sA M f i v) k := ⟨rd_M h.1 (FR.sA (ni := []) (na := [f]) (nl := []) (List.mem_singleton.mpr rfl)) rfl (by simp) (by simp) (by simp) (by simp) (by simp) (by simp) (by simp; omega), h.2⟩
theorem ok_sI {v : Int32} {f : Nat} (h : OKs R M k) (hf : f ≠ 3 ∧ f ≠ 4 ∧ f ≠ 5 ∧ f ≠ 11 ∧ f ≠ 12 ∧ f ≠ 14) : OKs R (sI M f v) k := ⟨rd_M h.1 (FR.sI (ni := [f]) (na := []) (nl := []) (List.mem_singleton.mpr rfl)) rfl (by simp; omega) (by simp; omega) (by simp; omega) (by simp; omega) (by simp; omega) (by simp; omega) (by simp), h.2⟩
/-- the state behind a turret's line that was taken whole -/
theorem SUB_turret {M2 M6 S6 : St} {a : Int64} {sh vw hg vn : Nat} (hS : SUB S M V) (ht : V 0 < 7) (h1 : sh < 4) (h2 : vw < 8) (h3 : hg ≤ 60) (hN2 : ∀ j, j ≠ 13 + V 0 → M2.2.2.2 9 j = M.2.2.2 9 j) (c4 : NM a (M2.2.2.2 9 (13 + V 0))) (hvn : vn < 128) (q1 : S6.1 = (sI (sI S 5 (nI vn)) 0 (nI (V 0 + 1))).1) (q2 : S6.2 = (sA (sA (sA (sJ S 1 (nI (V 0)) a) 2 (nI (V 0)) (nI sh)) 3 (nI (V 0)) (nI vw)) 4 (nI (V 0)) (nI hg)).2) (q3 : ∀ j, j < 42 → M6.2.2.1 7 j = nI (up (up (up (up (up V (2 + V 0) sh) (9 + V 0) vw) (16 + V 0) hg) 23 vn) 0 (V 0 + 1) j)) (q4 : ∀ j, M6.2.2.2 9 j = M2.2.2.2 9 j) : SUB S6 M6 (up (up (up (up (up V (2 + V 0) sh) (9 + V 0) vw) (16 + V 0) hg) 23 vn) 0 (V 0 + 1)) := by
  obtain ⟨s0, s7, s5, s6, s14, v0, v1, v23, sm, st, sp, sz⟩ := hS
  have x0 : up (up (up (up (up V (2 + V 0) sh) (9 + V 0) vw) (16 + V 0) hg) 23 vn) 0 (V 0 + 1) 0 = V 0 + 1 := pu_upe _ _ _
  have x1 : up (up (up (up (up V (2 + V 0) sh) (9 + V 0) vw) (16 + V 0) hg) 23 vn) 0 (V 0 + 1) 1 = V 1 := by simp (disch := omega) only [pu_upn]
  have x23 : up (up (up (up (up V (2 + V 0) sh) (9 + V 0) vw) (16 + V 0) hg) 23 vn) 0 (V 0 + 1) 23 = vn := by simp (disch := omega) only [pu_upn, pu_upe]
  refine ⟨by rw [q1, x0]; rfl, by rw [q1, x1]; exact s7, by rw [q1, x23]; rfl, by rw [q1]; exact s6, by rw [q1]; exact s14, by rw [x0]; omega, by rw [x1]; exact v1, by rw [x23]; exact hvn, q3, fun t ht9 => ?_, fun p hp => ?_, fun p hp1 hp2 => ?_⟩
  · rw [x0] at ht9
    rw [q2, q4]
    by_cases et : t = V 0
    · subst et
      refine ⟨by simp (disch := omega) only [↓pu_m1, pu_lit, ↓reduceIte, pu_leT, pu_leF, pu_ltT, pu_ltF, pu_eqT, pu_eqF, pu_eqO, pu_eqO2, pu_ltO, pu_leO, pu_subO, pu_subOF, pu_subT, pu_subF, pu_oobF, pu_clamp, pu_add, pu_sub, pu_mul, pu_and, pu_or, pu_xor, pu_xorO, pu_shl, pu_shr, pu_ushr, pu_nb0, pu_nb1, pu_ob1N, pu_ob2N, pu_ob3N, pu_ob4N, pu_nwN, pu_n1, pu_n7, pu_n31, pu_n255, pu_md, pu_one, pu_sI1, pu_sI2, pu_sA1, pu_sA21, pu_sA222, pu_sAe, pu_sAn, pu_sJ1, pu_sJ21, pu_sJ221, pu_sF1, pu_sF21, pu_sF222, pu_sFe, pu_sFn, pu_upe, pu_upn, Nat.reduceAdd, Nat.reduceSub, Nat.reduceMul, Nat.reduceMod, Nat.reduceAnd, Nat.reducePow, Nat.reduceEqDiff, Nat.add_zero, Nat.zero_add, Bool.false_eq_true, Nat.add_sub_cancel], by simp (disch := omega) only [↓pu_m1, pu_lit, ↓reduceIte, pu_leT, pu_leF, pu_ltT, pu_ltF, pu_eqT, pu_eqF, pu_eqO, pu_eqO2, pu_ltO, pu_leO, pu_subO, pu_subOF, pu_subT, pu_subF, pu_oobF, pu_clamp, pu_add, pu_sub, pu_mul, pu_and, pu_or, pu_xor, pu_xorO, pu_shl, pu_shr, pu_ushr, pu_nb0, pu_nb1, pu_ob1N, pu_ob2N, pu_ob3N, pu_ob4N, pu_nwN, pu_n1, pu_n7, pu_n31, pu_n255, pu_md, pu_one, pu_sI1, pu_sI2, pu_sA1, pu_sA21, pu_sA222, pu_sAe, pu_sAn, pu_sJ1, pu_sJ21, pu_sJ221, pu_sF1, pu_sF21, pu_sF222, pu_sFe, pu_sFn, pu_upe, pu_upn, Nat.reduceAdd, Nat.reduceSub, Nat.reduceMul, Nat.reduceMod, Nat.reduceAnd, Nat.reducePow, Nat.reduceEqDiff, Nat.add_zero, Nat.zero_add, Bool.false_eq_true, Nat.add_sub_cancel]; exact h1, by simp (disch := omega) only [↓pu_m1, pu_lit, ↓reduceIte, pu_leT, pu_leF, pu_ltT, pu_ltF, pu_eqT, pu_eqF, pu_eqO, pu_eqO2, pu_ltO, pu_leO, pu_subO, pu_subOF, pu_subT, pu_subF, pu_oobF, pu_clamp, pu_add, pu_sub, pu_mul, pu_and, pu_or, pu_xor, pu_xorO, pu_shl, pu_shr, pu_ushr, pu_nb0, pu_nb1, pu_ob1N, pu_ob2N, pu_ob3N, pu_ob4N, pu_nwN, pu_n1, pu_n7, pu_n31, pu_n255, pu_md, pu_one, pu_sI1, pu_sI2, pu_sA1, pu_sA21, pu_sA222, pu_sAe, pu_sAn, pu_sJ1, pu_sJ21, pu_sJ221, pu_sF1, pu_sF21, pu_sF222, pu_sFe, pu_sFn, pu_upe, pu_upn, Nat.reduceAdd, Nat.reduceSub, Nat.reduceMul, Nat.reduceMod, Nat.reduceAnd, Nat.reducePow, Nat.reduceEqDiff, Nat.add_zero, Nat.zero_add, Bool.false_eq_true, Nat.add_sub_cancel], by simp (disch := omega) only [↓pu_m1, pu_lit, ↓reduceIte, pu_leT, pu_leF, pu_ltT, pu_ltF, pu_eqT, pu_eqF, pu_eqO, pu_eqO2, pu_ltO, pu_leO, pu_subO, pu_subOF, pu_subT, pu_subF, pu_oobF, pu_clamp, pu_add, pu_sub, pu_mul, pu_and, pu_or, pu_xor, pu_xorO, pu_shl, pu_shr, pu_ushr, pu_nb0, pu_nb1, pu_ob1N, pu_ob2N, pu_ob3N, pu_ob4N, pu_nwN, pu_n1, pu_n7, pu_n31, pu_n255, pu_md, pu_one, pu_sI1, pu_sI2, pu_sA1, pu_sA21, pu_sA222, pu_sAe, pu_sAn, pu_sJ1, pu_sJ21, pu_sJ221, pu_sF1, pu_sF21, pu_sF222, pu_sFe, pu_sFn, pu_upe, pu_upn, Nat.reduceAdd, Nat.reduceSub, Nat.reduceMul, Nat.reduceMod, Nat.reduceAnd, Nat.reducePow, Nat.reduceEqDiff, Nat.add_zero, Nat.zero_add, Bool.false_eq_true, Nat.add_sub_cancel]; exact h2, by simp (disch := omega) only [↓pu_m1, pu_lit, ↓reduceIte, pu_leT, pu_leF, pu_ltT, pu_ltF, pu_eqT, pu_eqF, pu_eqO, pu_eqO2, pu_ltO, pu_leO, pu_subO, pu_subOF, pu_subT, pu_subF, pu_oobF, pu_clamp, pu_add, pu_sub, pu_mul, pu_and, pu_or, pu_xor, pu_xorO, pu_shl, pu_shr, pu_ushr, pu_nb0, pu_nb1, pu_ob1N, pu_ob2N, pu_ob3N, pu_ob4N, pu_nwN, pu_n1, pu_n7, pu_n31, pu_n255, pu_md, pu_one, pu_sI1, pu_sI2, pu_sA1, pu_sA21, pu_sA222, pu_sAe, pu_sAn, pu_sJ1, pu_sJ21, pu_sJ221, pu_sF1, pu_sF21, pu_sF222, pu_sFe, pu_sFn, pu_upe, pu_upn, Nat.reduceAdd, Nat.reduceSub, Nat.reduceMul, Nat.reduceMod, Nat.reduceAnd, Nat.reducePow, Nat.reduceEqDiff, Nat.add_zero, Nat.zero_add, Bool.false_eq_true, Nat.add_sub_cancel], by simp (disch := omega) only [↓pu_m1, pu_lit, ↓reduceIte, pu_leT, pu_leF, pu_ltT, pu_ltF, pu_eqT, pu_eqF, pu_eqO, pu_eqO2, pu_ltO, pu_leO, pu_subO, pu_subOF, pu_subT, pu_subF, pu_oobF, pu_clamp, pu_add, pu_sub, pu_mul, pu_and, pu_or, pu_xor, pu_xorO, pu_shl, pu_shr, pu_ushr, pu_nb0, pu_nb1, pu_ob1N, pu_ob2N, pu_ob3N, pu_ob4N, pu_nwN, pu_n1, pu_n7, pu_n31, pu_n255, pu_md, pu_one, pu_sI1, pu_sI2, pu_sA1, pu_sA21, pu_sA222, pu_sAe, pu_sAn, pu_sJ1, pu_sJ21, pu_sJ221, pu_sF1, pu_sF21, pu_sF222, pu_sFe, pu_sFn, pu_upe, pu_upn, Nat.reduceAdd, Nat.reduceSub, Nat.reduceMul, Nat.reduceMod, Nat.reduceAnd, Nat.reducePow, Nat.reduceEqDiff, Nat.add_zero, Nat.zero_add, Bool.false_eq_true, Nat.add_sub_cancel]; exact h3, ?_⟩
      show NM ((sJ S 1 (nI (V 0)) a).2.2.2 1 (V 0)) _
      rw [pu_sJe (by omega), if_pos rfl]; exact c4
    · obtain ⟨y1, y2, y3, y4, y5, y6, y7⟩ := st t (by omega)
      refine ⟨by simp (disch := omega) only [↓pu_m1, pu_lit, ↓reduceIte, pu_leT, pu_leF, pu_ltT, pu_ltF, pu_eqT, pu_eqF, pu_eqO, pu_eqO2, pu_ltO, pu_leO, pu_subO, pu_subOF, pu_subT, pu_subF, pu_oobF, pu_clamp, pu_add, pu_sub, pu_mul, pu_and, pu_or, pu_xor, pu_xorO, pu_shl, pu_shr, pu_ushr, pu_nb0, pu_nb1, pu_ob1N, pu_ob2N, pu_ob3N, pu_ob4N, pu_nwN, pu_n1, pu_n7, pu_n31, pu_n255, pu_md, pu_one, pu_sI1, pu_sI2, pu_sA1, pu_sA21, pu_sA222, pu_sAe, pu_sAn, pu_sJ1, pu_sJ21, pu_sJ221, pu_sF1, pu_sF21, pu_sF222, pu_sFe, pu_sFn, pu_upe, pu_upn, Nat.reduceAdd, Nat.reduceSub, Nat.reduceMul, Nat.reduceMod, Nat.reduceAnd, Nat.reducePow, Nat.reduceEqDiff, Nat.add_zero, Nat.zero_add, Bool.false_eq_true, Nat.add_sub_cancel, y1, et], by simp (disch := omega) only [↓pu_m1, pu_lit, ↓reduceIte, pu_leT, pu_leF, pu_ltT, pu_ltF, pu_eqT, pu_eqF, pu_eqO, pu_eqO2, pu_ltO, pu_leO, pu_subO, pu_subOF, pu_subT, pu_subF, pu_oobF, pu_clamp, pu_add, pu_sub, pu_mul, pu_and, pu_or, pu_xor, pu_xorO, pu_shl, pu_shr, pu_ushr, pu_nb0, pu_nb1, pu_ob1N, pu_ob2N, pu_ob3N, pu_ob4N, pu_nwN, pu_n1, pu_n7, pu_n31, pu_n255, pu_md, pu_one, pu_sI1, pu_sI2, pu_sA1, pu_sA21, pu_sA222, pu_sAe, pu_sAn, pu_sJ1, pu_sJ21, pu_sJ221, pu_sF1, pu_sF21, pu_sF222, pu_sFe, pu_sFn, pu_upe, pu_upn, Nat.reduceAdd, Nat.reduceSub, Nat.reduceMul, Nat.reduceMod, Nat.reduceAnd, Nat.reducePow, Nat.reduceEqDiff, Nat.add_zero, Nat.zero_add, Bool.false_eq_true, Nat.add_sub_cancel]; exact y2, by simp (disch := omega) only [↓pu_m1, pu_lit, ↓reduceIte, pu_leT, pu_leF, pu_ltT, pu_ltF, pu_eqT, pu_eqF, pu_eqO, pu_eqO2, pu_ltO, pu_leO, pu_subO, pu_subOF, pu_subT, pu_subF, pu_oobF, pu_clamp, pu_add, pu_sub, pu_mul, pu_and, pu_or, pu_xor, pu_xorO, pu_shl, pu_shr, pu_ushr, pu_nb0, pu_nb1, pu_ob1N, pu_ob2N, pu_ob3N, pu_ob4N, pu_nwN, pu_n1, pu_n7, pu_n31, pu_n255, pu_md, pu_one, pu_sI1, pu_sI2, pu_sA1, pu_sA21, pu_sA222, pu_sAe, pu_sAn, pu_sJ1, pu_sJ21, pu_sJ221, pu_sF1, pu_sF21, pu_sF222, pu_sFe, pu_sFn, pu_upe, pu_upn, Nat.reduceAdd, Nat.reduceSub, Nat.reduceMul, Nat.reduceMod, Nat.reduceAnd, Nat.reducePow, Nat.reduceEqDiff, Nat.add_zero, Nat.zero_add, Bool.false_eq_true, Nat.add_sub_cancel, y3, et], by simp (disch := omega) only [↓pu_m1, pu_lit, ↓reduceIte, pu_leT, pu_leF, pu_ltT, pu_ltF, pu_eqT, pu_eqF, pu_eqO, pu_eqO2, pu_ltO, pu_leO, pu_subO, pu_subOF, pu_subT, pu_subF, pu_oobF, pu_clamp, pu_add, pu_sub, pu_mul, pu_and, pu_or, pu_xor, pu_xorO, pu_shl, pu_shr, pu_ushr, pu_nb0, pu_nb1, pu_ob1N, pu_ob2N, pu_ob3N, pu_ob4N, pu_nwN, pu_n1, pu_n7, pu_n31, pu_n255, pu_md, pu_one, pu_sI1, pu_sI2, pu_sA1, pu_sA21, pu_sA222, pu_sAe, pu_sAn, pu_sJ1, pu_sJ21, pu_sJ221, pu_sF1, pu_sF21, pu_sF222, pu_sFe, pu_sFn, pu_upe, pu_upn, Nat.reduceAdd, Nat.reduceSub, Nat.reduceMul, Nat.reduceMod, Nat.reduceAnd, Nat.reducePow, Nat.reduceEqDiff, Nat.add_zero, Nat.zero_add, Bool.false_eq_true, Nat.add_sub_cancel]; exact y4, by simp (disch := omega) only [↓pu_m1, pu_lit, ↓reduceIte, pu_leT, pu_leF, pu_ltT, pu_ltF, pu_eqT, pu_eqF, pu_eqO, pu_eqO2, pu_ltO, pu_leO, pu_subO, pu_subOF, pu_subT, pu_subF, pu_oobF, pu_clamp, pu_add, pu_sub, pu_mul, pu_and, pu_or, pu_xor, pu_xorO, pu_shl, pu_shr, pu_ushr, pu_nb0, pu_nb1, pu_ob1N, pu_ob2N, pu_ob3N, pu_ob4N, pu_nwN, pu_n1, pu_n7, pu_n31, pu_n255, pu_md, pu_one, pu_sI1, pu_sI2, pu_sA1, pu_sA21, pu_sA222, pu_sAe, pu_sAn, pu_sJ1, pu_sJ21, pu_sJ221, pu_sF1, pu_sF21, pu_sF222, pu_sFe, pu_sFn, pu_upe, pu_upn, Nat.reduceAdd, Nat.reduceSub, Nat.reduceMul, Nat.reduceMod, Nat.reduceAnd, Nat.reducePow, Nat.reduceEqDiff, Nat.add_zero, Nat.zero_add, Bool.false_eq_true, Nat.add_sub_cancel, y5, et], by simp (disch := omega) only [↓pu_m1, pu_lit, ↓reduceIte, pu_leT, pu_leF, pu_ltT, pu_ltF, pu_eqT, pu_eqF, pu_eqO, pu_eqO2, pu_ltO, pu_leO, pu_subO, pu_subOF, pu_subT, pu_subF, pu_oobF, pu_clamp, pu_add, pu_sub, pu_mul, pu_and, pu_or, pu_xor, pu_xorO, pu_shl, pu_shr, pu_ushr, pu_nb0, pu_nb1, pu_ob1N, pu_ob2N, pu_ob3N, pu_ob4N, pu_nwN, pu_n1, pu_n7, pu_n31, pu_n255, pu_md, pu_one, pu_sI1, pu_sI2, pu_sA1, pu_sA21, pu_sA222, pu_sAe, pu_sAn, pu_sJ1, pu_sJ21, pu_sJ221, pu_sF1, pu_sF21, pu_sF222, pu_sFe, pu_sFn, pu_upe, pu_upn, Nat.reduceAdd, Nat.reduceSub, Nat.reduceMul, Nat.reduceMod, Nat.reduceAnd, Nat.reducePow, Nat.reduceEqDiff, Nat.add_zero, Nat.zero_add, Bool.false_eq_true, Nat.add_sub_cancel]; exact y6, ?_⟩
      show NM ((sJ S 1 (nI (V 0)) a).2.2.2 1 t) _
      rw [pu_sJe (by omega), if_neg et, hN2 (13 + t) (by omega)]; exact y7
  · rw [x1] at hp
    rw [q2, q4]
    obtain ⟨y1, y2, y3, y4, y5, y6, y7, y8, y9, y10⟩ := sp p hp
    refine ⟨by simp (disch := omega) only [↓pu_m1, pu_lit, ↓reduceIte, pu_leT, pu_leF, pu_ltT, pu_ltF, pu_eqT, pu_eqF, pu_eqO, pu_eqO2, pu_ltO, pu_leO, pu_subO, pu_subOF, pu_subT, pu_subF, pu_oobF, pu_clamp, pu_add, pu_sub, pu_mul, pu_and, pu_or, pu_xor, pu_xorO, pu_shl, pu_shr, pu_ushr, pu_nb0, pu_nb1, pu_ob1N, pu_ob2N, pu_ob3N, pu_ob4N, pu_nwN, pu_n1, pu_n7, pu_n31, pu_n255, pu_md, pu_one, pu_sI1, pu_sI2, pu_sA1, pu_sA21, pu_sA222, pu_sAe, pu_sAn, pu_sJ1, pu_sJ21, pu_sJ221, pu_sF1, pu_sF21, pu_sF222, pu_sFe, pu_sFn, pu_upe, pu_upn, Nat.reduceAdd, Nat.reduceSub, Nat.reduceMul, Nat.reduceMod, Nat.reduceAnd, Nat.reducePow, Nat.reduceEqDiff, Nat.add_zero, Nat.zero_add, Bool.false_eq_true, Nat.add_sub_cancel, y1], by simp (disch := omega) only [↓pu_m1, pu_lit, ↓reduceIte, pu_leT, pu_leF, pu_ltT, pu_ltF, pu_eqT, pu_eqF, pu_eqO, pu_eqO2, pu_ltO, pu_leO, pu_subO, pu_subOF, pu_subT, pu_subF, pu_oobF, pu_clamp, pu_add, pu_sub, pu_mul, pu_and, pu_or, pu_xor, pu_xorO, pu_shl, pu_shr, pu_ushr, pu_nb0, pu_nb1, pu_ob1N, pu_ob2N, pu_ob3N, pu_ob4N, pu_nwN, pu_n1, pu_n7, pu_n31, pu_n255, pu_md, pu_one, pu_sI1, pu_sI2, pu_sA1, pu_sA21, pu_sA222, pu_sAe, pu_sAn, pu_sJ1, pu_sJ21, pu_sJ221, pu_sF1, pu_sF21, pu_sF222, pu_sFe, pu_sFn, pu_upe, pu_upn, Nat.reduceAdd, Nat.reduceSub, Nat.reduceMul, Nat.reduceMod, Nat.reduceAnd, Nat.reducePow, Nat.reduceEqDiff, Nat.add_zero, Nat.zero_add, Bool.false_eq_true, Nat.add_sub_cancel]; exact y2, by simp (disch := omega) only [↓pu_m1, pu_lit, ↓reduceIte, pu_leT, pu_leF, pu_ltT, pu_ltF, pu_eqT, pu_eqF, pu_eqO, pu_eqO2, pu_ltO, pu_leO, pu_subO, pu_subOF, pu_subT, pu_subF, pu_oobF, pu_clamp, pu_add, pu_sub, pu_mul, pu_and, pu_or, pu_xor, pu_xorO, pu_shl, pu_shr, pu_ushr, pu_nb0, pu_nb1, pu_ob1N, pu_ob2N, pu_ob3N, pu_ob4N, pu_nwN, pu_n1, pu_n7, pu_n31, pu_n255, pu_md, pu_one, pu_sI1, pu_sI2, pu_sA1, pu_sA21, pu_sA222, pu_sAe, pu_sAn, pu_sJ1, pu_sJ21, pu_sJ221, pu_sF1, pu_sF21, pu_sF222, pu_sFe, pu_sFn, pu_upe, pu_upn, Nat.reduceAdd, Nat.reduceSub, Nat.reduceMul, Nat.reduceMod, Nat.reduceAnd, Nat.reducePow, Nat.reduceEqDiff, Nat.add_zero, Nat.zero_add, Bool.false_eq_true, Nat.add_sub_cancel, y3], by simp (disch := omega) only [↓pu_m1, pu_lit, ↓reduceIte, pu_leT, pu_leF, pu_ltT, pu_ltF, pu_eqT, pu_eqF, pu_eqO, pu_eqO2, pu_ltO, pu_leO, pu_subO, pu_subOF, pu_subT, pu_subF, pu_oobF, pu_clamp, pu_add, pu_sub, pu_mul, pu_and, pu_or, pu_xor, pu_xorO, pu_shl, pu_shr, pu_ushr, pu_nb0, pu_nb1, pu_ob1N, pu_ob2N, pu_ob3N, pu_ob4N, pu_nwN, pu_n1, pu_n7, pu_n31, pu_n255, pu_md, pu_one, pu_sI1, pu_sI2, pu_sA1, pu_sA21, pu_sA222, pu_sAe, pu_sAn, pu_sJ1, pu_sJ21, pu_sJ221, pu_sF1, pu_sF21, pu_sF222, pu_sFe, pu_sFn, pu_upe, pu_upn, Nat.reduceAdd, Nat.reduceSub, Nat.reduceMul, Nat.reduceMod, Nat.reduceAnd, Nat.reducePow, Nat.reduceEqDiff, Nat.add_zero, Nat.zero_add, Bool.false_eq_true, Nat.add_sub_cancel, y4], by simp (disch := omega) only [↓pu_m1, pu_lit, ↓reduceIte, pu_leT, pu_leF, pu_ltT, pu_ltF, pu_eqT, pu_eqF, pu_eqO, pu_eqO2, pu_ltO, pu_leO, pu_subO, pu_subOF, pu_subT, pu_subF, pu_oobF, pu_clamp, pu_add, pu_sub, pu_mul, pu_and, pu_or, pu_xor, pu_xorO, pu_shl, pu_shr, pu_ushr, pu_nb0, pu_nb1, pu_ob1N, pu_ob2N, pu_ob3N, pu_ob4N, pu_nwN, pu_n1, pu_n7, pu_n31, pu_n255, pu_md, pu_one, pu_sI1, pu_sI2, pu_sA1, pu_sA21, pu_sA222, pu_sAe, pu_sAn, pu_sJ1, pu_sJ21, pu_sJ221, pu_sF1, pu_sF21, pu_sF222, pu_sFe, pu_sFn, pu_upe, pu_upn, Nat.reduceAdd, Nat.reduceSub, Nat.reduceMul, Nat.reduceMod, Nat.reduceAnd, Nat.reducePow, Nat.reduceEqDiff, Nat.add_zero, Nat.zero_add, Bool.false_eq_true, Nat.add_sub_cancel]; exact y5, by simp (disch := omega) only [↓pu_m1, pu_lit, ↓reduceIte, pu_leT, pu_leF, pu_ltT, pu_ltF, pu_eqT, pu_eqF, pu_eqO, pu_eqO2, pu_ltO, pu_leO, pu_subO, pu_subOF, pu_subT, pu_subF, pu_oobF, pu_clamp, pu_add, pu_sub, pu_mul, pu_and, pu_or, pu_xor, pu_xorO, pu_shl, pu_shr, pu_ushr, pu_nb0, pu_nb1, pu_ob1N, pu_ob2N, pu_ob3N, pu_ob4N, pu_nwN, pu_n1, pu_n7, pu_n31, pu_n255, pu_md, pu_one, pu_sI1, pu_sI2, pu_sA1, pu_sA21, pu_sA222, pu_sAe, pu_sAn, pu_sJ1, pu_sJ21, pu_sJ221, pu_sF1, pu_sF21, pu_sF222, pu_sFe, pu_sFn, pu_upe, pu_upn, Nat.reduceAdd, Nat.reduceSub, Nat.reduceMul, Nat.reduceMod, Nat.reduceAnd, Nat.reducePow, Nat.reduceEqDiff, Nat.add_zero, Nat.zero_add, Bool.false_eq_true, Nat.add_sub_cancel, y6], by simp (disch := omega) only [↓pu_m1, pu_lit, ↓reduceIte, pu_leT, pu_leF, pu_ltT, pu_ltF, pu_eqT, pu_eqF, pu_eqO, pu_eqO2, pu_ltO, pu_leO, pu_subO, pu_subOF, pu_subT, pu_subF, pu_oobF, pu_clamp, pu_add, pu_sub, pu_mul, pu_and, pu_or, pu_xor, pu_xorO, pu_shl, pu_shr, pu_ushr, pu_nb0, pu_nb1, pu_ob1N, pu_ob2N, pu_ob3N, pu_ob4N, pu_nwN, pu_n1, pu_n7, pu_n31, pu_n255, pu_md, pu_one, pu_sI1, pu_sI2, pu_sA1, pu_sA21, pu_sA222, pu_sAe, pu_sAn, pu_sJ1, pu_sJ21, pu_sJ221, pu_sF1, pu_sF21, pu_sF222, pu_sFe, pu_sFn, pu_upe, pu_upn, Nat.reduceAdd, Nat.reduceSub, Nat.reduceMul, Nat.reduceMod, Nat.reduceAnd, Nat.reducePow, Nat.reduceEqDiff, Nat.add_zero, Nat.zero_add, Bool.false_eq_true, Nat.add_sub_cancel]; exact y7, by simp (disch := omega) only [↓pu_m1, pu_lit, ↓reduceIte, pu_leT, pu_leF, pu_ltT, pu_ltF, pu_eqT, pu_eqF, pu_eqO, pu_eqO2, pu_ltO, pu_leO, pu_subO, pu_subOF, pu_subT, pu_subF, pu_oobF, pu_clamp, pu_add, pu_sub, pu_mul, pu_and, pu_or, pu_xor, pu_xorO, pu_shl, pu_shr, pu_ushr, pu_nb0, pu_nb1, pu_ob1N, pu_ob2N, pu_ob3N, pu_ob4N, pu_nwN, pu_n1, pu_n7, pu_n31, pu_n255, pu_md, pu_one, pu_sI1, pu_sI2, pu_sA1, pu_sA21, pu_sA222, pu_sAe, pu_sAn, pu_sJ1, pu_sJ21, pu_sJ221, pu_sF1, pu_sF21, pu_sF222, pu_sFe, pu_sFn, pu_upe, pu_upn, Nat.reduceAdd, Nat.reduceSub, Nat.reduceMul, Nat.reduceMod, Nat.reduceAnd, Nat.reducePow, Nat.reduceEqDiff, Nat.add_zero, Nat.zero_add, Bool.false_eq_true, Nat.add_sub_cancel, y8], by simp (disch := omega) only [↓pu_m1, pu_lit, ↓reduceIte, pu_leT, pu_leF, pu_ltT, pu_ltF, pu_eqT, pu_eqF, pu_eqO, pu_eqO2, pu_ltO, pu_leO, pu_subO, pu_subOF, pu_subT, pu_subF, pu_oobF, pu_clamp, pu_add, pu_sub, pu_mul, pu_and, pu_or, pu_xor, pu_xorO, pu_shl, pu_shr, pu_ushr, pu_nb0, pu_nb1, pu_ob1N, pu_ob2N, pu_ob3N, pu_ob4N, pu_nwN, pu_n1, pu_n7, pu_n31, pu_n255, pu_md, pu_one, pu_sI1, pu_sI2, pu_sA1, pu_sA21, pu_sA222, pu_sAe, pu_sAn, pu_sJ1, pu_sJ21, pu_sJ221, pu_sF1, pu_sF21, pu_sF222, pu_sFe, pu_sFn, pu_upe, pu_upn, Nat.reduceAdd, Nat.reduceSub, Nat.reduceMul, Nat.reduceMod, Nat.reduceAnd, Nat.reducePow, Nat.reduceEqDiff, Nat.add_zero, Nat.zero_add, Bool.false_eq_true, Nat.add_sub_cancel, y9], ?_⟩
    show NM ((sJ S 1 (nI (V 0)) a).2.2.2 8 p) _
    rw [pu_sJn (by omega), hN2 (20 + p) (by omega)]; exact y10
  · rw [x1] at hp1
    obtain ⟨y1, y2⟩ := sz p hp1 hp2
    refine ⟨?_, ?_⟩
    · simp (disch := omega) only [↓pu_m1, pu_lit, ↓reduceIte, pu_leT, pu_leF, pu_ltT, pu_ltF, pu_eqT, pu_eqF, pu_eqO, pu_eqO2, pu_ltO, pu_leO, pu_subO, pu_subOF, pu_subT, pu_subF, pu_oobF, pu_clamp, pu_add, pu_sub, pu_mul, pu_and, pu_or, pu_xor, pu_xorO, pu_shl, pu_shr, pu_ushr, pu_nb0, pu_nb1, pu_ob1N, pu_ob2N, pu_ob3N, pu_ob4N, pu_nwN, pu_n1, pu_n7, pu_n31, pu_n255, pu_md, pu_one, pu_sI1, pu_sI2, pu_sA1, pu_sA21, pu_sA222, pu_sAe, pu_sAn, pu_sJ1, pu_sJ21, pu_sJ221, pu_sF1, pu_sF21, pu_sF222, pu_sFe, pu_sFn, pu_upe, pu_upn, Nat.reduceAdd, Nat.reduceSub, Nat.reduceMul, Nat.reduceMod, Nat.reduceAnd, Nat.reducePow, Nat.reduceEqDiff, Nat.add_zero, Nat.zero_add, Bool.false_eq_true, Nat.add_sub_cancel, y1]
    · simp (disch := omega) only [↓pu_m1, pu_lit, ↓reduceIte, pu_leT, pu_leF, pu_ltT, pu_ltF, pu_eqT, pu_eqF, pu_eqO, pu_eqO2, pu_ltO, pu_leO, pu_subO, pu_subOF, pu_subT, pu_subF, pu_oobF, pu_clamp, pu_add, pu_sub, pu_mul, pu_and, pu_or, pu_xor, pu_xorO, pu_shl, pu_shr, pu_ushr, pu_nb0, pu_nb1, pu_ob1N, pu_ob2N, pu_ob3N, pu_ob4N, pu_nwN, pu_n1, pu_n7, pu_n31, pu_n255, pu_md, pu_one, pu_sI1, pu_sI2, pu_sA1, pu_sA21, pu_sA222, pu_sAe, pu_sAn, pu_sJ1, pu_sJ21, pu_sJ221, pu_sF1, pu_sF21, pu_sF222, pu_sFe, pu_sFn, pu_upe, pu_upn, Nat.reduceAdd, Nat.reduceSub, Nat.reduceMul, Nat.reduceMod, Nat.reduceAnd, Nat.reducePow, Nat.reduceEqDiff, Nat.add_zero, Nat.zero_add, Bool.false_eq_true, Nat.add_sub_cancel, y2]
theorem rd_turret (h : OKs R M k) (hW : MW M) (hS : SUB S M V) (hne : R.2.2.1 3 k ≠ nI 40) : ∃ S' R' M' V' k' r, F_X8_readTurret S R = some (S', R') ∧ F_X12_readTurret M = some (r, M') ∧ RES S' R' M M' V' k k' r := by
  have hS' := hS
  obtain ⟨s0, s7, s5, s6, s14, v0, v1, v23, sm, st, sp, sz⟩ := hS
  have g0 := sm 0 (by omega)
  have o42 : ¬ oob (0 : Int32) 42 := no_oob (i := 0) (by omega) (by omega)
  have z0 : (0 : Int32).toNatClampNeg = 0 := by decide
  unfold F_X8_readTurret F_X12_readTurret
  simp only [s0]
  rw [if_neg o42, z0, g0, pu_nwN]
  by_cases h7 : V 0 = 7
  · obtain ⟨Rf, Mf, f1, f2, f3, f4⟩ := rd_fail (f := 4) h (by omega) (by omega)
    refine ⟨S, Rf, Mf, V, k, nI 0, ?_, ?_, f4.mono (by decide) (by decide) (by decide), N13_fr f4 (by decide), Or.inr ⟨rfl, f3⟩⟩
    · rw [h7, if_neg (by decide), show (4 : Int32) = nI 4 from rfl, f1, pu_ob1N]
    · rw [h7, if_pos (by decide), show (4 : Int32) = nI 4 from rfl, f2, pu_ob2N, if_neg (fun h => h (Or.inl rfl))]
  · have ht : V 0 < 7 := by omega
    have hoob := no_oob (n := 7) ht (by omega)
    have hn := rd_nextC h hne
    obtain ⟨M1, b1, b2, b3⟩ := rd_step h hne
    generalize sI R 6 (nI (k + 1)) = R1 at hn b2
    have hS1 := SUB_M hS' b3 (by decide) (by decide)
    have hW1 := MW_fr hW b3 (by decide)
    rw [if_pos (show nI (V 0) < (7 : Int32) from nI_lt (a := V 0) (b := 7) ht (by omega)), if_neg (show ¬ nI (V 0) = (7 : Int32) from fun e => h7 ((nI_eq (b := 7) (by omega) (by omega)).mp e)), hn, pu_ob1N, b1, pu_ob1N, lit_add]
    rcases rd_fresh (x := 13 + V 0) b2 hW1 hS1 (by omega) (by omega) with ⟨a, M2, c1, c2, c3, c4, c5, c6⟩ | ⟨a, R2, M2, c1, c2, c3, c6⟩
    · generalize sI R1 6 (nI (k + 1 + 1)) = R2 at c1 c3
      rw [c1, pu_ob2N, if_neg hoob, pu_nwN, c2, pu_ob2N, if_neg one_ne]
      have hW2 := MW_fr hW1 c6 (by decide)
      have h7r2 : M2.2.2.1 7 = M.2.2.1 7 := by rw [c6.2.1 7 (by decide), b3.2.1 7 (by decide)]
      have hN2 : ∀ j, j ≠ 13 + V 0 → M2.2.2.2 9 j = M.2.2.2 9 j := fun j hj => by rw [c5 j hj, b3.2.2 9 (by decide)]
      have hF2 : FR [4, 11, 12, 13, 14, 18] [7] [9] M M2 := (b3.mono (by decide) (by decide) (by decide)).tr (c6.mono (by decide) (by decide) (by decide))
      rcases rd_need (fr := 1) (fi := 5) (m := 4) c3 hW2 (by omega) (by omega) (by omega) pm_shape with ⟨sh, M3, d1, d2, d3, d4, d5, d6⟩ | ⟨R3, M3, d2, d3, d4, d6⟩
      · generalize sI R2 6 (nI (k + 1 + 1 + 1)) = R3 at d2 d4
        have d2 : F_X5_needWordFrom R2 5 4 = some (nI sh, R3) := d2
        have d3 : F_X12_takesOneOf M2 1 4 = some (nI 1, M3) := d3
        rw [d2, pu_ob2N, if_neg hoob, pu_nwN, d3, pu_ob2N, if_neg one_ne, lit_add, if_neg (no_oob (by omega : 2 + V 0 < 42) (by omega)), pu_nwN, d5]
        have hO3 := ok_sA (f := 7) (i := nI (2 + V 0)) (v := nI sh) d4 (by omega)
        have hW3 : MW (sA M3 7 (nI (2 + V 0)) (nI sh)) := MW_fr (MW_fr hW2 d6 (by decide)) (FR.sA (ni := []) (na := [7]) (nl := []) (by decide)) (by decide)
        rcases rd_need (fr := 5) (fi := 9) (m := 8) hO3 hW3 (by omega) (by omega) (by omega) pm_view with ⟨vw, M4, e1, e2, e3, e4, e5, e6⟩ | ⟨R4, M4, e2, e3, e4, e6⟩
        · generalize sI R3 6 (nI (k + 1 + 1 + 1 + 1)) = R4 at e2 e4
          have e2 : F_X5_needWordFrom R3 9 8 = some (nI vw, R4) := e2
          have e3 : F_X12_takesOneOf (sA M3 7 (nI (2 + V 0)) (nI sh)) 5 8 = some (nI 1, M4) := e3
          rw [e2, pu_ob2N, if_neg hoob, pu_nwN, e3, pu_ob2N, if_neg one_ne, lit_add, if_neg (no_oob (by omega : 9 + V 0 < 42) (by omega)), pu_nwN, e5, lit_add]
          have hO4 := ok_sA (f := 7) (i := nI (9 + V 0)) (v := nI vw) e4 (by omega)
          have hW4 : MW (sA M4 7 (nI (9 + V 0)) (nI vw)) := MW_fr (MW_fr hW3 e6 (by decide)) (FR.sA (ni := []) (na := [7]) (nl := []) (by decide)) (by decide)
          rcases rd_num (lo := 1) (hi := 60) hO4 (by omega) (by omega) with ⟨hg, M5, i1, i2, i3, i4, i5, i6, i7⟩ | ⟨R5, M5, i3, i4, i5, i7⟩
          · generalize sI R4 6 (nI (k + 1 + 1 + 1 + 1 + 1)) = R5 at i3 i5
            have i3 : F_X5_needNumber R4 1 60 = some (nI hg, R5) := i3
            have hO5 := ok_sA (f := 7) (i := nI (16 + V 0)) (v := nI hg) i5 (by omega)
            have i4' : F_X12_puts (sA M4 7 (nI (9 + V 0)) (nI vw)) (nI (16 + V 0)) 1 60 = some (nI 1, sA M5 7 (nI (16 + V 0)) (nI hg)) := by
              have i4 : F_X12_takes (sA M4 7 (nI (9 + V 0)) (nI vw)) 1 60 = some (nI 1, M5) := i4
              unfold F_X12_puts
              rw [i4, pu_ob2N, if_neg one_ne, if_neg (no_oob (by omega : 16 + V 0 < 42) (by omega)), pu_nwN, i6]
              rfl
            rw [i3, pu_ob2N, if_neg hoob, pu_nwN, i4', pu_ob2N, if_neg one_ne]
            have r7 : ∀ j, j < 42 → (sA M5 7 (nI (16 + V 0)) (nI hg)).2.2.1 7 j = nI (up (up (up V (2 + V 0) sh) (9 + V 0) vw) (16 + V 0) hg j) := by
              intro j hj
              rw [pu_sAe (by omega)]
              by_cases q1 : j = 16 + V 0
              · rw [if_pos q1, q1, pu_upe]
              · rw [if_neg q1, pu_upn q1, i7.2.1 7 (by decide), pu_sAe (by omega)]
                by_cases q2 : j = 9 + V 0
                · rw [if_pos q2, q2, pu_upe]
                · rw [if_neg q2, pu_upn q2, e6.2.1 7 (by decide), pu_sAe (by omega)]
                  by_cases q3 : j = 2 + V 0
                  · rw [if_pos q3, q3, pu_upe]
                  · rw [if_neg q3, pu_upn q3, d6.2.1 7 (by decide), h7r2]; exact sm j hj
            have hN5 : ∀ j, (sA M5 7 (nI (16 + V 0)) (nI hg)).2.2.2 9 j = M2.2.2.2 9 j := fun j => by
              show M5.2.2.2 9 j = _
              rw [i7.2.2 9 (by decide)]
              show M4.2.2.2 9 j = _
              rw [e6.2.2 9 (by decide)]
              show M3.2.2.2 9 j = _
              rw [d6.2.2 9 (by decide)]
            have hF5 : FR [4, 11, 12, 13, 14, 18] [7] [9] M (sA M5 7 (nI (16 + V 0)) (nI hg)) := (((((hF2.mono (by decide) (by decide) (by decide)).tr (d6.mono (by decide) (by decide) (by decide))).tr (FR.sA (by decide))).tr (e6.mono (by decide) (by decide) (by decide))).tr (FR.sA (by decide))).tr ((i7.mono (by decide) (by decide) (by decide)).tr (FR.sA (by decide)))
            obtain ⟨tv, w1, w2, w3, -⟩ := rd_isWord (i := 4) hO5 (by omega)
            have hvn : V 23 ||| 2 ^ V 0 < 128 := Nat.or_lt_two_pow (n := 7) v23 (Nat.pow_lt_pow_right (by omega) ht)
            have s0' : (sA (sA (sA (sJ S 1 (nI (V 0)) a) 2 (nI (V 0)) (nI sh)) 3 (nI (V 0)) (nI vw)) 4 (nI (V 0)) (nI hg)).1 0 = nI (V 0) := s0
            have s5' : (sA (sA (sA (sJ S 1 (nI (V 0)) a) 2 (nI (V 0)) (nI sh)) 3 (nI (V 0)) (nI vw)) 4 (nI (V 0)) (nI hg)).1 5 = nI (V 23) := s5
            cases tv with
            | true =>
              have w1 : F_X5_isWord R5 4 = some (nI 1) := w1
              have w2 : F_X12_isWord (sA M5 7 (nI (16 + V 0)) (nI hg)) (1986096741 : Int64) = some (nI 1) := w2
              have hn6 := rd_nextC hO5 (w3 rfl).1
              have g23 := r7 23 (by omega)
              rw [pu_upn (by omega), pu_upn (by omega), pu_upn (by omega)] at g23
              have hO6 := ok_sA (f := 7) (i := nI 23) (v := nI (V 23 ||| 2 ^ V 0)) hO5 (by omega)
              obtain ⟨M7, y1, y2, y3⟩ := rd_step hO6 (w3 rfl).1
              generalize sI R5 6 (nI (k + 1 + 1 + 1 + 1 + 1 + 1)) = R6 at hn6 y2
              have r70 : M7.2.2.1 7 0 = nI (V 0) := by
                rw [y3.2.1 7 (by decide), pu_sAe (by omega), if_neg (by omega), r7 0 (by omega), pu_upn (by omega), pu_upn (by omega), pu_upn (by omega)]
              have hO7 := ok_sA (f := 7) (i := nI 0) (v := nI (V 0 + 1)) y2 (by omega)
              refine ⟨sI (sI (sA (sA (sA (sJ S 1 (nI (V 0)) a) 2 (nI (V 0)) (nI sh)) 3 (nI (V 0)) (nI vw)) 4 (nI (V 0)) (nI hg)) 5 (nI (V 23 ||| 2 ^ V 0))) 0 (nI (V 0 + 1)), R6, sA M7 7 (nI 0) (nI (V 0 + 1)), _, _, nI 1, ?_, ?_, ?_, ?_, Or.inl ⟨rfl, hO7, SUB_turret hS' ht d1 e1 i2 hN2 c4 hvn rfl rfl (fun j hj => ?_) (fun j => ?_), (by show M7.1 15 = _; rw [y3.1 15 (by decide)]; exact hF5.1 15 (by decide)), by omega⟩⟩
              · have ht4 : F_X5_takeWord R5 4 = some (nI 1, R6) := by
                  unfold F_X5_takeWord
                  rw [w1, pu_ob1N, if_neg one_ne, hn6, pu_ob1N, if_neg (fun h => h (Or.inr rfl))]
                have hsh : (1 : Int32) <<< (nI (V 0) &&& 31) = nI (2 ^ V 0) := by simp (disch := omega) only [↓pu_m1, pu_lit, ↓reduceIte, pu_leT, pu_leF, pu_ltT, pu_ltF, pu_eqT, pu_eqF, pu_eqO, pu_eqO2, pu_ltO, pu_leO, pu_subO, pu_subOF, pu_subT, pu_subF, pu_oobF, pu_clamp, pu_add, pu_sub, pu_mul, pu_and, pu_or, pu_xor, pu_xorO, pu_shl, pu_shr, pu_ushr, pu_nb0, pu_nb1, pu_ob1N, pu_ob2N, pu_ob3N, pu_ob4N, pu_nwN, pu_n1, pu_n7, pu_n31, pu_n255, pu_md, pu_one, pu_sI1, pu_sI2, pu_sA1, pu_sA21, pu_sA222, pu_sAe, pu_sAn, pu_sJ1, pu_sJ21, pu_sJ221, pu_sF1, pu_sF21, pu_sF222, pu_sFe, pu_sFn, pu_upe, pu_upn, Nat.reduceAdd, Nat.reduceSub, Nat.reduceMul, Nat.reduceMod, Nat.reduceAnd, Nat.reducePow, Nat.reduceEqDiff, Nat.add_zero, Nat.zero_add, Bool.false_eq_true, Nat.add_sub_cancel]
                rw [ht4, pu_ob2N, if_neg one_ne, s5', hsh, pu_or, pu_nwN]
                unfold F_X8_readTurret_91
                rw [show (sI (sA (sA (sA (sJ S 1 (nI (V 0)) a) 2 (nI (V 0)) (nI sh)) 3 (nI (V 0)) (nI vw)) 4 (nI (V 0)) (nI hg)) 5 (nI (V 23 ||| 2 ^ V 0))).1 0 = nI (V 0) from s0, pu_nwN, nI_1]
              · have hsh : (1 : Int32) <<< (nI (V 0) &&& 31) = nI (2 ^ V 0) := by simp (disch := omega) only [↓pu_m1, pu_lit, ↓reduceIte, pu_leT, pu_leF, pu_ltT, pu_ltF, pu_eqT, pu_eqF, pu_eqO, pu_eqO2, pu_ltO, pu_leO, pu_subO, pu_subOF, pu_subT, pu_subF, pu_oobF, pu_clamp, pu_add, pu_sub, pu_mul, pu_and, pu_or, pu_xor, pu_xorO, pu_shl, pu_shr, pu_ushr, pu_nb0, pu_nb1, pu_ob1N, pu_ob2N, pu_ob3N, pu_ob4N, pu_nwN, pu_n1, pu_n7, pu_n31, pu_n255, pu_md, pu_one, pu_sI1, pu_sI2, pu_sA1, pu_sA21, pu_sA222, pu_sAe, pu_sAn, pu_sJ1, pu_sJ21, pu_sJ221, pu_sF1, pu_sF21, pu_sF222, pu_sFe, pu_sFn, pu_upe, pu_upn, Nat.reduceAdd, Nat.reduceSub, Nat.reduceMul, Nat.reduceMod, Nat.reduceAnd, Nat.reducePow, Nat.reduceEqDiff, Nat.add_zero, Nat.zero_add, Bool.false_eq_true, Nat.add_sub_cancel]
                have o23 : ¬ oob (23 : Int32) 42 := no_oob (i := 23) (by omega) (by omega)
                have z23 : (23 : Int32).toNatClampNeg = 23 := by decide
                rw [w2, pu_ob1N, if_neg one_ne, if_neg o23, if_neg o23, z23, g23, hsh, pu_or, pu_nwN, show (23 : Int32) = nI 23 from rfl, y1, pu_ob1N]
                unfold F_X12_readTurret_125
                rw [if_neg o42, if_neg o42, z0, r70, nI_1, pu_nwN]
                rfl
              · exact (((hF5.mono (by decide) (by decide) (by decide)).tr (FR.sA (by decide))).tr (y3.mono (by decide) (by decide) (by decide))).tr (FR.sA (by decide))
              · intro j hj
                show M7.2.2.2 9 j = _
                rw [y3.2.2 9 (by decide)]
                show (sA M5 7 (nI (16 + V 0)) (nI hg)).2.2.2 9 j = _
                rw [hN5, hN2 j (by omega)]
              · rw [pu_sAe (by omega)]
                by_cases q1 : j = 0
                · rw [if_pos q1, q1, pu_upe]
                · rw [if_neg q1, pu_upn q1, y3.2.1 7 (by decide), pu_sAe (by omega)]
                  by_cases q2 : j = 23
                  · rw [if_pos q2, q2, pu_upe]
                  · rw [if_neg q2, pu_upn q2]; exact r7 j hj
              · show M7.2.2.2 9 j = _
                rw [y3.2.2 9 (by decide)]
                exact hN5 j
            | false =>
              have w1 : F_X5_isWord R5 4 = some (nI 0) := w1
              have w2 : F_X12_isWord (sA M5 7 (nI (16 + V 0)) (nI hg)) (1986096741 : Int64) = some (nI 0) := w2
              have r70 := r7 0 (by omega)
              rw [pu_upn (by omega), pu_upn (by omega), pu_upn (by omega)] at r70
              have hO7 := ok_sA (f := 7) (i := nI 0) (v := nI (V 0 + 1)) hO5 (by omega)
              have hs5 : (sI (sI S 5 (nI (V 23))) 0 (nI (V 0 + 1))).1 = (sI S 0 (nI (V 0 + 1))).1 := by rw [← s5, sI_same]
              refine ⟨sI (sA (sA (sA (sJ S 1 (nI (V 0)) a) 2 (nI (V 0)) (nI sh)) 3 (nI (V 0)) (nI vw)) 4 (nI (V 0)) (nI hg)) 0 (nI (V 0 + 1)), R5, sA (sA M5 7 (nI (16 + V 0)) (nI hg)) 7 (nI 0) (nI (V 0 + 1)), _, _, nI 1, ?_, ?_, (hF5.mono (by decide) (by decide) (by decide)).tr (FR.sA (by decide)), ?_, Or.inl ⟨rfl, hO7, SUB_turret hS' ht d1 e1 i2 hN2 c4 v23 (by rw [hs5]; rfl) rfl (fun j hj => ?_) (fun j => hN5 j), hF5.1 15 (by decide), by omega⟩⟩
              · have ht4 : F_X5_takeWord R5 4 = some (nI 0, R5) := by
                  unfold F_X5_takeWord
                  rw [w1, pu_ob1N, if_pos zero_eq, if_neg (fun h => h (Or.inl rfl))]
                rw [ht4, pu_ob2N, if_pos zero_eq]
                unfold F_X8_readTurret_91
                rw [s0', pu_nwN, nI_1]
              · rw [w2, pu_ob1N, if_pos zero_eq]
                unfold F_X12_readTurret_125
                rw [if_neg o42, if_neg o42, z0, r70, nI_1, pu_nwN]
                rfl
              · intro j hj
                show (sA M5 7 (nI (16 + V 0)) (nI hg)).2.2.2 9 j = _
                rw [hN5, hN2 j (by omega)]
              · rw [pu_sAe (by omega)]
                by_cases q1 : j = 0
                · rw [if_pos q1, q1, pu_upe]
                · rw [if_neg q1, pu_upn q1, r7 j hj]
                  by_cases q2 : j = 23
                  · rw [q2, pu_upe, pu_upn (by omega), pu_upn (by omega), pu_upn (by omega)]
                  · rw [pu_upn q2]
          · have i3 : F_X5_needNumber R4 1 60 = some (nO, R5) := i3
            have i4' : F_X12_puts (sA M4 7 (nI (9 + V 0)) (nI vw)) (nI (16 + V 0)) 1 60 = some (nI 0, M5) := by
              have i4 : F_X12_takes (sA M4 7 (nI (9 + V 0)) (nI vw)) 1 60 = some (nI 0, M5) := i4
              unfold F_X12_puts
              rw [i4, pu_ob2N, if_pos zero_eq]
              rfl
            rw [i3, pu_ob2N, if_neg hoob, pu_nwN, i4', pu_ob2N, if_pos zero_eq]
            have hF5 : FR [4, 11, 12, 13, 14, 15, 16, 18] [7] [9] M M5 := (((((hF2.mono (by decide) (by decide) (by decide)).tr (d6.mono (by decide) (by decide) (by decide))).tr (FR.sA (by decide))).tr (e6.mono (by decide) (by decide) (by decide))).tr (FR.sA (by decide))).tr (i7.mono (by decide) (by decide) (by decide))
            obtain ⟨S6, hS6⟩ := cl_t4 (t := V 0) (S1 := sA (sA (sA (sJ S 1 (nI (V 0)) a) 2 (nI (V 0)) (nI sh)) 3 (nI (V 0)) (nI vw)) 4 (nI (V 0)) nO) s0 i5.1
            refine ⟨S6, R5, M5, V, k, nI 0, hS6, rfl, hF5, fun j hj => ?_, Or.inr ⟨rfl, i5⟩⟩
            rw [i7.2.2 9 (by decide)]
            show M4.2.2.2 9 j = _
            rw [e6.2.2 9 (by decide)]
            show M3.2.2.2 9 j = _
            rw [d6.2.2 9 (by decide), hN2 j (by omega)]
        · have e2 : F_X5_needWordFrom R3 9 8 = some (nO, R4) := e2
          have e3 : F_X12_takesOneOf (sA M3 7 (nI (2 + V 0)) (nI sh)) 5 8 = some (nI 0, M4) := e3
          rw [e2, pu_ob2N, if_neg hoob, pu_nwN, e3, pu_ob2N, if_pos zero_eq]
          have hF5 : FR [4, 11, 12, 13, 14, 15, 16, 18] [7] [9] M M4 := (((hF2.mono (by decide) (by decide) (by decide)).tr (d6.mono (by decide) (by decide) (by decide))).tr (FR.sA (by decide))).tr (e6.mono (by decide) (by decide) (by decide))
          obtain ⟨S6, hS6⟩ := cl_t3 ht (S1 := sA (sA (sJ S 1 (nI (V 0)) a) 2 (nI (V 0)) (nI sh)) 3 (nI (V 0)) nO) s0 e4.1
          refine ⟨S6, R4, M4, V, k, nI 0, hS6, rfl, hF5, fun j hj => ?_, Or.inr ⟨rfl, e4⟩⟩
          rw [e6.2.2 9 (by decide)]
          show M3.2.2.2 9 j = _
          rw [d6.2.2 9 (by decide), hN2 j (by omega)]
      · have d2 : F_X5_needWordFrom R2 5 4 = some (nO, R3) := d2
        have d3 : F_X12_takesOneOf M2 1 4 = some (nI 0, M3) := d3
        rw [d2, pu_ob2N, if_neg hoob, pu_nwN, d3, pu_ob2N, if_pos zero_eq]
        obtain ⟨S6, hS6⟩ := cl_t2 ht (S1 := sA (sJ S 1 (nI (V 0)) a) 2 (nI (V 0)) nO) s0 d4.1
        refine ⟨S6, R3, M3, V, k, nI 0, hS6, rfl, (hF2.mono (by decide) (by decide) (by decide)).tr (d6.mono (by decide) (by decide) (by decide)), fun j hj => ?_, Or.inr ⟨rfl, d4⟩⟩
        rw [d6.2.2 9 (by decide), hN2 j (by omega)]
    · rw [c1, pu_ob2N, if_neg hoob, pu_nwN, c2, pu_ob2N, if_pos zero_eq]
      obtain ⟨S6, hS6⟩ := cl_t1 ht (S1 := sJ S 1 (nI (V 0)) a) s0 c3.1
      exact ⟨S6, R2, M2, V, k, nI 0, hS6, rfl, (b3.mono (by decide) (by decide) (by decide)).tr (c6.mono (by decide) (by decide) (by decide)), (N13_fr b3 (by decide)).tr (N13_fr c6 (by decide)), Or.inr ⟨rfl, c3⟩⟩
end P28
