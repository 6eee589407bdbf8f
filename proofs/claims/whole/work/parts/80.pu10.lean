/-! ask, cover, tea -/
def hmA (V : Vt) (v : Nat) : Nat → Nat
  | 0 => 0
  | p + 1 => hmA V v p + V (59 + p) / 2 ^ v % 2
theorem hmA_le (V : Vt) (v : Nat) : ∀ n, hmA V v n ≤ n := by
  intro n
  induction n with
  | zero => exact Nat.le_refl _
  | succ n ih => simp only [hmA]; omega
def lf (V : Vt) (v : Nat) : Nat := if hmA V v (V 1) < V 1 - hmA V v (V 1) then V 1 - hmA V v (V 1) else hmA V v (V 1)
theorem lf_le (V : Vt) (v : Nat) : lf V v ≤ V 1 := by
  have := hmA_le V v (V 1)
  unfold lf
  split <;> omega
def bsA (V : Vt) : Nat → Nat
  | 0 => 0
  | k + 1 => if lf V (k + 1) < lf V (bsA V k) then k + 1 else bsA V k
theorem bsA_le (V : Vt) : ∀ k, bsA V k ≤ k := by
  intro k
  induction k with
  | zero => exact Nat.le_refl _
  | succ k ih => simp only [bsA]; split <;> omega
section P10
variable {T B M : St} {V : Vt}
theorem x8_howMany (hS : RS B V) (hw : WF V) {v : Nat} (hv : v < 8) : F_X8_howManyHave B (nI v) = some (nI (hmA V v (V 1))) := by
  obtain ⟨e0, e7, e5, e6, e14, f2, f3, f4, f9, f10, f11, f12, f13⟩ := hS
  obtain ⟨w0, w1, w23, w44, w42, w2, w45, w52, w59, wop, w36, w24, w65, wsm⟩ := hw
  unfold F_X8_howManyHave L_X8_howManyHave_4
  refine lp_up (fun i => (nI v, nI (hmA V v i), nI i, B)) (V 1) (fun i hi k => ?_) (fun k => ?_) (pu_FU (by omega))
  · have h59 := w59 i hi
    show F_X8_howManyHave_4 k (nI v) (nI (hmA V v i)) (nI i) B = _
    unfold F_X8_howManyHave_4
    simp (disch := omega) only [↓pu_m1, pu_lit, ↓reduceIte, pu_leT, pu_leF, pu_ltT, pu_ltF, pu_eqT, pu_eqF, pu_eqO, pu_eqO2, pu_ltO, pu_leO, pu_subO, pu_subOF, pu_subT, pu_subF, pu_oobF, pu_clamp, pu_add, pu_sub, pu_mul, pu_and, pu_or, pu_xor, pu_xorO, pu_shl, pu_shr, pu_ushr, pu_nb0, pu_nb1, pu_ob1, pu_ob2, pu_ob3, pu_ob4, pu_nw, pu_n1, pu_n7, pu_n31, pu_n255, pu_md, pu_one, pu_sI1, pu_sI2, pu_sA1, pu_sA21, pu_sA222, pu_sAe, pu_sAn, pu_sJ1, pu_sJ21, pu_sJ221, pu_sF1, pu_sF21, pu_sF222, pu_sFe, pu_sFn, pu_upe, pu_upn, Nat.reduceAdd, Nat.reduceSub, Nat.reduceMul, Nat.reduceMod, Nat.reduceAnd, Nat.reducePow, Nat.reduceEqDiff, Nat.add_zero, Nat.zero_add, Bool.false_eq_true, Nat.add_sub_cancel, e7, f9, hmA]
  · show F_X8_howManyHave_4 k (nI v) (nI (hmA V v (V 1))) (nI (V 1)) B = _
    unfold F_X8_howManyHave_4
    simp (disch := omega) only [↓pu_m1, pu_lit, ↓reduceIte, pu_leT, pu_leF, pu_ltT, pu_ltF, pu_eqT, pu_eqF, pu_eqO, pu_eqO2, pu_ltO, pu_leO, pu_subO, pu_subOF, pu_subT, pu_subF, pu_oobF, pu_clamp, pu_add, pu_sub, pu_mul, pu_and, pu_or, pu_xor, pu_xorO, pu_shl, pu_shr, pu_ushr, pu_nb0, pu_nb1, pu_ob1, pu_ob2, pu_ob3, pu_ob4, pu_nw, pu_n1, pu_n7, pu_n31, pu_n255, pu_md, pu_one, pu_sI1, pu_sI2, pu_sA1, pu_sA21, pu_sA222, pu_sAe, pu_sAn, pu_sJ1, pu_sJ21, pu_sJ221, pu_sF1, pu_sF21, pu_sF222, pu_sFe, pu_sFn, pu_upe, pu_upn, Nat.reduceAdd, Nat.reduceSub, Nat.reduceMul, Nat.reduceMod, Nat.reduceAnd, Nat.reducePow, Nat.reduceEqDiff, Nat.add_zero, Nat.zero_add, Bool.false_eq_true, Nat.add_sub_cancel, e7]
theorem x12_withView (hM : RM M V) (hw : WF V) {v : Nat} (hv : v < 8) : F_X12_withView M (nI v) = some (nI (lf V v)) := by
  obtain ⟨w0, w1, w23, w44, w42, w2, w45, w52, w59, wop, w36, w24, w65, wsm⟩ := hw
  have g1 := hM 1 (by omega)
  unfold F_X12_withView L_X12_withView_4
  refine lp_up (fun i => (nI v, nI (hmA V v i), nI i, M)) (V 1) (fun i hi k => ?_) (fun k => ?_) (pu_FU (by omega))
  · have h59 := w59 i hi
    have gi := hM (59 + i) (by omega)
    have hb := x12_bit (x := V (59 + i)) (v := v) (by omega) (by omega)
    show F_X12_withView_4 k (nI v) (nI (hmA V v i)) (nI i) M = _
    unfold F_X12_withView_4 F_X12_withView_36
    rcases Nat.mod_two_eq_zero_or_one (V (59 + i) / 2 ^ v) with h | h
    · rw [h] at hb
      simp (disch := omega) only [↓pu_m1, pu_lit, ↓reduceIte, pu_leT, pu_leF, pu_ltT, pu_ltF, pu_eqT, pu_eqF, pu_eqO, pu_eqO2, pu_ltO, pu_leO, pu_subO, pu_subOF, pu_subT, pu_subF, pu_oobF, pu_clamp, pu_add, pu_sub, pu_mul, pu_and, pu_or, pu_xor, pu_xorO, pu_shl, pu_shr, pu_ushr, pu_nb0, pu_nb1, pu_ob1, pu_ob2, pu_ob3, pu_ob4, pu_nw, pu_n1, pu_n7, pu_n31, pu_n255, pu_md, pu_one, pu_sI1, pu_sI2, pu_sA1, pu_sA21, pu_sA222, pu_sAe, pu_sAn, pu_sJ1, pu_sJ21, pu_sJ221, pu_sF1, pu_sF21, pu_sF222, pu_sFe, pu_sFn, pu_upe, pu_upn, Nat.reduceAdd, Nat.reduceSub, Nat.reduceMul, Nat.reduceMod, Nat.reduceAnd, Nat.reducePow, Nat.reduceEqDiff, Nat.add_zero, Nat.zero_add, Bool.false_eq_true, Nat.add_sub_cancel, g1, gi, hb, hmA, h]
    · rw [h] at hb
      simp (disch := omega) only [↓pu_m1, pu_lit, ↓reduceIte, pu_leT, pu_leF, pu_ltT, pu_ltF, pu_eqT, pu_eqF, pu_eqO, pu_eqO2, pu_ltO, pu_leO, pu_subO, pu_subOF, pu_subT, pu_subF, pu_oobF, pu_clamp, pu_add, pu_sub, pu_mul, pu_and, pu_or, pu_xor, pu_xorO, pu_shl, pu_shr, pu_ushr, pu_nb0, pu_nb1, pu_ob1, pu_ob2, pu_ob3, pu_ob4, pu_nw, pu_n1, pu_n7, pu_n31, pu_n255, pu_md, pu_one, pu_sI1, pu_sI2, pu_sA1, pu_sA21, pu_sA222, pu_sAe, pu_sAn, pu_sJ1, pu_sJ21, pu_sJ221, pu_sF1, pu_sF21, pu_sF222, pu_sFe, pu_sFn, pu_upe, pu_upn, Nat.reduceAdd, Nat.reduceSub, Nat.reduceMul, Nat.reduceMod, Nat.reduceAnd, Nat.reducePow, Nat.reduceEqDiff, Nat.add_zero, Nat.zero_add, Bool.false_eq_true, Nat.add_sub_cancel, g1, gi, hb, hmA, h]
  · have hl := hmA_le V v (V 1)
    show F_X12_withView_4 k (nI v) (nI (hmA V v (V 1))) (nI (V 1)) M = _
    unfold F_X12_withView_4 F_X12_greater lf
    by_cases h : hmA V v (V 1) < V 1 - hmA V v (V 1)
    · rw [if_pos h]
      simp (disch := omega) only [↓pu_m1, pu_lit, ↓reduceIte, pu_leT, pu_leF, pu_ltT, pu_ltF, pu_eqT, pu_eqF, pu_eqO, pu_eqO2, pu_ltO, pu_leO, pu_subO, pu_subOF, pu_subT, pu_subF, pu_oobF, pu_clamp, pu_add, pu_sub, pu_mul, pu_and, pu_or, pu_xor, pu_xorO, pu_shl, pu_shr, pu_ushr, pu_nb0, pu_nb1, pu_ob1, pu_ob2, pu_ob3, pu_ob4, pu_nw, pu_n1, pu_n7, pu_n31, pu_n255, pu_md, pu_one, pu_sI1, pu_sI2, pu_sA1, pu_sA21, pu_sA222, pu_sAe, pu_sAn, pu_sJ1, pu_sJ21, pu_sJ221, pu_sF1, pu_sF21, pu_sF222, pu_sFe, pu_sFn, pu_upe, pu_upn, Nat.reduceAdd, Nat.reduceSub, Nat.reduceMul, Nat.reduceMod, Nat.reduceAnd, Nat.reducePow, Nat.reduceEqDiff, Nat.add_zero, Nat.zero_add, Bool.false_eq_true, Nat.add_sub_cancel, g1]
    · rw [if_neg h]
      by_cases h2 : hmA V v (V 1) ≤ V 1 - hmA V v (V 1)
      · have h3 : V 1 - hmA V v (V 1) = hmA V v (V 1) := by omega
        simp (disch := omega) only [↓pu_m1, pu_lit, ↓reduceIte, pu_leT, pu_leF, pu_ltT, pu_ltF, pu_eqT, pu_eqF, pu_eqO, pu_eqO2, pu_ltO, pu_leO, pu_subO, pu_subOF, pu_subT, pu_subF, pu_oobF, pu_clamp, pu_add, pu_sub, pu_mul, pu_and, pu_or, pu_xor, pu_xorO, pu_shl, pu_shr, pu_ushr, pu_nb0, pu_nb1, pu_ob1, pu_ob2, pu_ob3, pu_ob4, pu_nw, pu_n1, pu_n7, pu_n31, pu_n255, pu_md, pu_one, pu_sI1, pu_sI2, pu_sA1, pu_sA21, pu_sA222, pu_sAe, pu_sAn, pu_sJ1, pu_sJ21, pu_sJ221, pu_sF1, pu_sF21, pu_sF222, pu_sFe, pu_sFn, pu_upe, pu_upn, Nat.reduceAdd, Nat.reduceSub, Nat.reduceMul, Nat.reduceMod, Nat.reduceAnd, Nat.reducePow, Nat.reduceEqDiff, Nat.add_zero, Nat.zero_add, Bool.false_eq_true, Nat.add_sub_cancel, g1, h3]
      · simp (disch := omega) only [↓pu_m1, pu_lit, ↓reduceIte, pu_leT, pu_leF, pu_ltT, pu_ltF, pu_eqT, pu_eqF, pu_eqO, pu_eqO2, pu_ltO, pu_leO, pu_subO, pu_subOF, pu_subT, pu_subF, pu_oobF, pu_clamp, pu_add, pu_sub, pu_mul, pu_and, pu_or, pu_xor, pu_xorO, pu_shl, pu_shr, pu_ushr, pu_nb0, pu_nb1, pu_ob1, pu_ob2, pu_ob3, pu_ob4, pu_nw, pu_n1, pu_n7, pu_n31, pu_n255, pu_md, pu_one, pu_sI1, pu_sI2, pu_sA1, pu_sA21, pu_sA222, pu_sAe, pu_sAn, pu_sJ1, pu_sJ21, pu_sJ221, pu_sF1, pu_sF21, pu_sF222, pu_sFe, pu_sFn, pu_upe, pu_upn, Nat.reduceAdd, Nat.reduceSub, Nat.reduceMul, Nat.reduceMod, Nat.reduceAnd, Nat.reducePow, Nat.reduceEqDiff, Nat.add_zero, Nat.zero_add, Bool.false_eq_true, Nat.add_sub_cancel, g1]
theorem x11_ask_step (hS : RS B V) (hw : WF V) (h0 : 0 < V 1) {v : Nat} (hv : v < 8) (b f : Int32) (k : Int32 × Int32 × Int32 × St × St → Option Int32) : F_X11_ask_14 k b f (nI v) T B = if f ≤ nI (lf V v) then k (b, f, nI (v + 1), T, B) else k (nI v, nI (lf V v), nI (v + 1), T, B) := by
  have e7 := hS.2.1
  have w1 := hw.2.1
  have hh := x8_howMany hS hw hv
  have hl := hmA_le V v (V 1)
  unfold F_X11_ask_14 F_X11_ask_68 lf
  by_cases h : hmA V v (V 1) < V 1 - hmA V v (V 1)
  · rw [if_pos h]
    simp (disch := omega) only [↓pu_m1, pu_lit, ↓reduceIte, pu_leT, pu_leF, pu_ltT, pu_ltF, pu_eqT, pu_eqF, pu_eqO, pu_eqO2, pu_ltO, pu_leO, pu_subO, pu_subOF, pu_subT, pu_subF, pu_oobF, pu_clamp, pu_add, pu_sub, pu_mul, pu_and, pu_or, pu_xor, pu_xorO, pu_shl, pu_shr, pu_ushr, pu_nb0, pu_nb1, pu_ob1, pu_ob2, pu_ob3, pu_ob4, pu_nw, pu_n1, pu_n7, pu_n31, pu_n255, pu_md, pu_one, pu_sI1, pu_sI2, pu_sA1, pu_sA21, pu_sA222, pu_sAe, pu_sAn, pu_sJ1, pu_sJ21, pu_sJ221, pu_sF1, pu_sF21, pu_sF222, pu_sFe, pu_sFn, pu_upe, pu_upn, Nat.reduceAdd, Nat.reduceSub, Nat.reduceMul, Nat.reduceMod, Nat.reduceAnd, Nat.reducePow, Nat.reduceEqDiff, Nat.add_zero, Nat.zero_add, Bool.false_eq_true, Nat.add_sub_cancel, e7, hh]
  · rw [if_neg h]
    simp (disch := omega) only [↓pu_m1, pu_lit, ↓reduceIte, pu_leT, pu_leF, pu_ltT, pu_ltF, pu_eqT, pu_eqF, pu_eqO, pu_eqO2, pu_ltO, pu_leO, pu_subO, pu_subOF, pu_subT, pu_subF, pu_oobF, pu_clamp, pu_add, pu_sub, pu_mul, pu_and, pu_or, pu_xor, pu_xorO, pu_shl, pu_shr, pu_ushr, pu_nb0, pu_nb1, pu_ob1, pu_ob2, pu_ob3, pu_ob4, pu_nw, pu_n1, pu_n7, pu_n31, pu_n255, pu_md, pu_one, pu_sI1, pu_sI2, pu_sA1, pu_sA21, pu_sA222, pu_sAe, pu_sAn, pu_sJ1, pu_sJ21, pu_sJ221, pu_sF1, pu_sF21, pu_sF222, pu_sFe, pu_sFn, pu_upe, pu_upn, Nat.reduceAdd, Nat.reduceSub, Nat.reduceMul, Nat.reduceMod, Nat.reduceAnd, Nat.reducePow, Nat.reduceEqDiff, Nat.add_zero, Nat.zero_add, Bool.false_eq_true, Nat.add_sub_cancel, e7, hh]
theorem x11_ask (hS : RS B V) (hw : WF V) : F_X11_ask T B = some (if V 1 = 0 then nO else nI (bsA V 7)) := by
  have e7 := hS.2.1
  have w1 := hw.2.1
  unfold F_X11_ask L_X11_ask_14
  by_cases h0 : V 1 = 0
  · rw [if_pos h0, e7, h0]
    refine lp_up (fun _ => (nO, nI 1, nI 0, T, B)) 0 (fun i hi k => by omega) (fun k => ?_) (pu_FU (by omega))
    show F_X11_ask_14 k nO (nI 1) (nI 0) T B = _
    unfold F_X11_ask_14
    simp (disch := omega) only [↓pu_m1, pu_lit, ↓reduceIte, pu_leT, pu_leF, pu_ltT, pu_ltF, pu_eqT, pu_eqF, pu_eqO, pu_eqO2, pu_ltO, pu_leO, pu_subO, pu_subOF, pu_subT, pu_subF, pu_oobF, pu_clamp, pu_add, pu_sub, pu_mul, pu_and, pu_or, pu_xor, pu_xorO, pu_shl, pu_shr, pu_ushr, pu_nb0, pu_nb1, pu_ob1, pu_ob2, pu_ob3, pu_ob4, pu_nw, pu_n1, pu_n7, pu_n31, pu_n255, pu_md, pu_one, pu_sI1, pu_sI2, pu_sA1, pu_sA21, pu_sA222, pu_sAe, pu_sAn, pu_sJ1, pu_sJ21, pu_sJ221, pu_sF1, pu_sF21, pu_sF222, pu_sFe, pu_sFn, pu_upe, pu_upn, Nat.reduceAdd, Nat.reduceSub, Nat.reduceMul, Nat.reduceMod, Nat.reduceAnd, Nat.reducePow, Nat.reduceEqDiff, Nat.add_zero, Nat.zero_add, Bool.false_eq_true, Nat.add_sub_cancel, e7, h0]
  · rw [if_neg h0]
    have key := lp_up (body := fun kz z => F_X11_ask_14 kz z.1 z.2.1 z.2.2.1 z.2.2.2.1 z.2.2.2.2) (fun i => if i = 0 then (nO, nI (V 1 + 1), nI 0, T, B) else (nI (bsA V (i - 1)), nI (lf V (bsA V (i - 1))), nI i, T, B)) 8 (o := nI (bsA V 7)) (fun i hi k => ?_) (fun k => ?_) (pu_FU (by omega : 8 < 1000000))
    · rw [if_pos rfl] at key
      rw [e7, nI_1]
      exact key
    · by_cases hi0 : i = 0
      · subst hi0
        rw [if_pos rfl, if_neg (by omega)]
        show F_X11_ask_14 k nO (nI (V 1 + 1)) (nI 0) T B = _
        have hl := lf_le V 0
        rw [x11_ask_step hS hw (by omega) hi, if_neg (nI_ge (by omega) (by omega))]
        rfl
      · obtain ⟨j, rfl⟩ : ∃ j, i = j + 1 := ⟨i - 1, by omega⟩
        rw [if_neg (by omega), if_neg (by omega)]
        show F_X11_ask_14 k (nI (bsA V j)) (nI (lf V (bsA V j))) (nI (j + 1)) T B = k (nI (bsA V (j + 1)), nI (lf V (bsA V (j + 1))), nI (j + 1 + 1), T, B)
        have hl := lf_le V (j + 1)
        have hl2 := lf_le V (bsA V j)
        rw [x11_ask_step hS hw (by omega) hi]
        simp only [bsA]
        by_cases hc : lf V (j + 1) < lf V (bsA V j)
        · rw [if_pos hc, if_neg (nI_ge hc (by omega))]
        · rw [if_neg hc, if_pos (nI_le (by omega) (by omega))]
    · rw [if_neg (by omega)]
      show F_X11_ask_14 k (nI (bsA V 7)) (nI (lf V (bsA V 7))) (nI 8) T B = _
      unfold F_X11_ask_14
      rw [if_pos (by decide)]
theorem p_ask (hS : RS B V) (hM : RM M V) (hw : WF V) : ∃ r, F_X11_ask T B = some r ∧ F_X12_ask M = some (r, sI M 0 (nI 0)) := by
  have hM0 := RM_sI hM 0 (nI 0)
  have w1 := hw.2.1
  have g1 := hM 1 (by omega)
  refine ⟨_, x11_ask hS hw, ?_⟩
  unfold F_X12_ask L_X12_ask_20
  by_cases h0 : V 1 = 0
  · rw [if_pos h0]
    simp (disch := omega) only [↓pu_m1, pu_lit, ↓reduceIte, pu_leT, pu_leF, pu_ltT, pu_ltF, pu_eqT, pu_eqF, pu_eqO, pu_eqO2, pu_ltO, pu_leO, pu_subO, pu_subOF, pu_subT, pu_subF, pu_oobF, pu_clamp, pu_add, pu_sub, pu_mul, pu_and, pu_or, pu_xor, pu_xorO, pu_shl, pu_shr, pu_ushr, pu_nb0, pu_nb1, pu_ob1, pu_ob2, pu_ob3, pu_ob4, pu_nw, pu_n1, pu_n7, pu_n31, pu_n255, pu_md, pu_one, pu_sI1, pu_sI2, pu_sA1, pu_sA21, pu_sA222, pu_sAe, pu_sAn, pu_sJ1, pu_sJ21, pu_sJ221, pu_sF1, pu_sF21, pu_sF222, pu_sFe, pu_sFn, pu_upe, pu_upn, Nat.reduceAdd, Nat.reduceSub, Nat.reduceMul, Nat.reduceMod, Nat.reduceAnd, Nat.reducePow, Nat.reduceEqDiff, Nat.add_zero, Nat.zero_add, Bool.false_eq_true, Nat.add_sub_cancel, g1, h0]
  · rw [if_neg h0]
    have key := lp_up (body := fun kz z => F_X12_ask_20 kz z.1 z.2.1 z.2.2) (fun i => (nI (bsA V i), nI (i + 1), sI M 0 (nI 0))) 7 (o := (nI (bsA V 7), sI M 0 (nI 0))) (fun i hi k => ?_) (fun k => ?_) (pu_FU (by omega : 7 < 1000000))
    · simp (disch := omega) only [↓pu_m1, pu_lit, ↓reduceIte, pu_leT, pu_leF, pu_ltT, pu_ltF, pu_eqT, pu_eqF, pu_eqO, pu_eqO2, pu_ltO, pu_leO, pu_subO, pu_subOF, pu_subT, pu_subF, pu_oobF, pu_clamp, pu_add, pu_sub, pu_mul, pu_and, pu_or, pu_xor, pu_xorO, pu_shl, pu_shr, pu_ushr, pu_nb0, pu_nb1, pu_ob1, pu_ob2, pu_ob3, pu_ob4, pu_nw, pu_n1, pu_n7, pu_n31, pu_n255, pu_md, pu_one, pu_sI1, pu_sI2, pu_sA1, pu_sA21, pu_sA222, pu_sAe, pu_sAn, pu_sJ1, pu_sJ21, pu_sJ221, pu_sF1, pu_sF21, pu_sF222, pu_sFe, pu_sFn, pu_upe, pu_upn, Nat.reduceAdd, Nat.reduceSub, Nat.reduceMul, Nat.reduceMod, Nat.reduceAnd, Nat.reducePow, Nat.reduceEqDiff, Nat.add_zero, Nat.zero_add, Bool.false_eq_true, Nat.add_sub_cancel, g1]
      exact key
    · show F_X12_ask_20 k (nI (bsA V i)) (nI (i + 1)) (sI M 0 (nI 0)) = k (nI (bsA V (i + 1)), nI (i + 1 + 1), sI M 0 (nI 0))
      have hb := bsA_le V i
      have hl := lf_le V (i + 1)
      have hl2 := lf_le V (bsA V i)
      have a1 := x12_withView hM0 hw (by omega : i + 1 < 8)
      have a2 := x12_withView hM0 hw (by omega : bsA V i < 8)
      unfold F_X12_ask_20 F_X12_ask_41
      simp only [bsA]
      by_cases hc : lf V (i + 1) < lf V (bsA V i)
      · rw [if_pos hc]
        simp (disch := omega) only [↓pu_m1, pu_lit, ↓reduceIte, pu_leT, pu_leF, pu_ltT, pu_ltF, pu_eqT, pu_eqF, pu_eqO, pu_eqO2, pu_ltO, pu_leO, pu_subO, pu_subOF, pu_subT, pu_subF, pu_oobF, pu_clamp, pu_add, pu_sub, pu_mul, pu_and, pu_or, pu_xor, pu_xorO, pu_shl, pu_shr, pu_ushr, pu_nb0, pu_nb1, pu_ob1, pu_ob2, pu_ob3, pu_ob4, pu_nw, pu_n1, pu_n7, pu_n31, pu_n255, pu_md, pu_one, pu_sI1, pu_sI2, pu_sA1, pu_sA21, pu_sA222, pu_sAe, pu_sAn, pu_sJ1, pu_sJ21, pu_sJ221, pu_sF1, pu_sF21, pu_sF222, pu_sFe, pu_sFn, pu_upe, pu_upn, Nat.reduceAdd, Nat.reduceSub, Nat.reduceMul, Nat.reduceMod, Nat.reduceAnd, Nat.reducePow, Nat.reduceEqDiff, Nat.add_zero, Nat.zero_add, Bool.false_eq_true, Nat.add_sub_cancel, a1, a2]
      · rw [if_neg hc]
        simp (disch := omega) only [↓pu_m1, pu_lit, ↓reduceIte, pu_leT, pu_leF, pu_ltT, pu_ltF, pu_eqT, pu_eqF, pu_eqO, pu_eqO2, pu_ltO, pu_leO, pu_subO, pu_subOF, pu_subT, pu_subF, pu_oobF, pu_clamp, pu_add, pu_sub, pu_mul, pu_and, pu_or, pu_xor, pu_xorO, pu_shl, pu_shr, pu_ushr, pu_nb0, pu_nb1, pu_ob1, pu_ob2, pu_ob3, pu_ob4, pu_nw, pu_n1, pu_n7, pu_n31, pu_n255, pu_md, pu_one, pu_sI1, pu_sI2, pu_sA1, pu_sA21, pu_sA222, pu_sAe, pu_sAn, pu_sJ1, pu_sJ21, pu_sJ221, pu_sF1, pu_sF21, pu_sF222, pu_sFe, pu_sFn, pu_upe, pu_upn, Nat.reduceAdd, Nat.reduceSub, Nat.reduceMul, Nat.reduceMod, Nat.reduceAnd, Nat.reducePow, Nat.reduceEqDiff, Nat.add_zero, Nat.zero_add, Bool.false_eq_true, Nat.add_sub_cancel, a1, a2]
    · show F_X12_ask_20 k (nI (bsA V 7)) (nI 8) (sI M 0 (nI 0)) = _
      unfold F_X12_ask_20
      rw [if_pos (by decide)]
/-! cover -/
def loA (V : Vt) (s : Nat) : Nat → Nat
  | 0 => 0
  | t + 1 => if s / 2 ^ t % 2 = 1 then loA V s t ||| lookB V t else loA V s t
theorem loA_lt (V : Vt) (s : Nat) : ∀ t, loA V s t < 256 := by
  intro t
  induction t with
  | zero => exact (by decide : 0 < 256)
  | succ t ih =>
    simp only [loA]
    split
    · exact Nat.or_lt_two_pow (n := 8) ih (lookA_lt V t _)
    · exact ih
theorem x8_lookAll (hS : RS B V) (hw : WF V) {s : Nat} (hs : s < 128) : F_X8_lookBitsOfAll B (nI s) = some (nI (loA V s (V 0))) := by
  have e0 := hS.1
  have w0 := hw.1
  unfold F_X8_lookBitsOfAll L_X8_lookBitsOfAll_4
  refine lp_up (fun i => (nI s, nI (loA V s i), nI i, B)) (V 0) (fun i hi k => ?_) (fun k => ?_) (pu_FU (by omega))
  · have hl := x8_lookB hS hw hi
    show F_X8_lookBitsOfAll_4 k (nI s) (nI (loA V s i)) (nI i) B = _
    unfold F_X8_lookBitsOfAll_4 F_X8_lookBitsOfAll_29
    rcases Nat.mod_two_eq_zero_or_one (s / 2 ^ i) with h | h
    · simp (disch := omega) only [↓pu_m1, pu_lit, ↓reduceIte, pu_leT, pu_leF, pu_ltT, pu_ltF, pu_eqT, pu_eqF, pu_eqO, pu_eqO2, pu_ltO, pu_leO, pu_subO, pu_subOF, pu_subT, pu_subF, pu_oobF, pu_clamp, pu_add, pu_sub, pu_mul, pu_and, pu_or, pu_xor, pu_xorO, pu_shl, pu_shr, pu_ushr, pu_nb0, pu_nb1, pu_ob1, pu_ob2, pu_ob3, pu_ob4, pu_nw, pu_n1, pu_n7, pu_n31, pu_n255, pu_md, pu_one, pu_sI1, pu_sI2, pu_sA1, pu_sA21, pu_sA222, pu_sAe, pu_sAn, pu_sJ1, pu_sJ21, pu_sJ221, pu_sF1, pu_sF21, pu_sF222, pu_sFe, pu_sFn, pu_upe, pu_upn, Nat.reduceAdd, Nat.reduceSub, Nat.reduceMul, Nat.reduceMod, Nat.reduceAnd, Nat.reducePow, Nat.reduceEqDiff, Nat.add_zero, Nat.zero_add, Bool.false_eq_true, Nat.add_sub_cancel, e0, h, loA]
    · simp (disch := omega) only [↓pu_m1, pu_lit, ↓reduceIte, pu_leT, pu_leF, pu_ltT, pu_ltF, pu_eqT, pu_eqF, pu_eqO, pu_eqO2, pu_ltO, pu_leO, pu_subO, pu_subOF, pu_subT, pu_subF, pu_oobF, pu_clamp, pu_add, pu_sub, pu_mul, pu_and, pu_or, pu_xor, pu_xorO, pu_shl, pu_shr, pu_ushr, pu_nb0, pu_nb1, pu_ob1, pu_ob2, pu_ob3, pu_ob4, pu_nw, pu_n1, pu_n7, pu_n31, pu_n255, pu_md, pu_one, pu_sI1, pu_sI2, pu_sA1, pu_sA21, pu_sA222, pu_sAe, pu_sAn, pu_sJ1, pu_sJ21, pu_sJ221, pu_sF1, pu_sF21, pu_sF222, pu_sFe, pu_sFn, pu_upe, pu_upn, Nat.reduceAdd, Nat.reduceSub, Nat.reduceMul, Nat.reduceMod, Nat.reduceAnd, Nat.reducePow, Nat.reduceEqDiff, Nat.add_zero, Nat.zero_add, Bool.false_eq_true, Nat.add_sub_cancel, e0, h, loA, hl]
  · show F_X8_lookBitsOfAll_4 k (nI s) (nI (loA V s (V 0))) (nI (V 0)) B = _
    unfold F_X8_lookBitsOfAll_4
    simp (disch := omega) only [↓pu_m1, pu_lit, ↓reduceIte, pu_leT, pu_leF, pu_ltT, pu_ltF, pu_eqT, pu_eqF, pu_eqO, pu_eqO2, pu_ltO, pu_leO, pu_subO, pu_subOF, pu_subT, pu_subF, pu_oobF, pu_clamp, pu_add, pu_sub, pu_mul, pu_and, pu_or, pu_xor, pu_xorO, pu_shl, pu_shr, pu_ushr, pu_nb0, pu_nb1, pu_ob1, pu_ob2, pu_ob3, pu_ob4, pu_nw, pu_n1, pu_n7, pu_n31, pu_n255, pu_md, pu_one, pu_sI1, pu_sI2, pu_sA1, pu_sA21, pu_sA222, pu_sAe, pu_sAn, pu_sJ1, pu_sJ21, pu_sJ221, pu_sF1, pu_sF21, pu_sF222, pu_sFe, pu_sFn, pu_upe, pu_upn, Nat.reduceAdd, Nat.reduceSub, Nat.reduceMul, Nat.reduceMod, Nat.reduceAnd, Nat.reducePow, Nat.reduceEqDiff, Nat.add_zero, Nat.zero_add, Bool.false_eq_true, Nat.add_sub_cancel, e0]
theorem x12_lookAll (hM : RM M V) (hw : WF V) {s : Nat} (hs : s < 128) (b : Int32) (K : Int32 × Int32 × St → Option (Int32 × St)) : F_X12_cover_51 K b (nI s) M = K (if loA V s (V 0) = 255 then nI s else b, nI (s + 1), M) := by
  have g0 := hM 0 (by omega)
  have w0 := hw.1
  unfold F_X12_cover_51 L_X12_cover_56
  refine lp_upO (fun i => (b, nI s, nI (loA V s i), nI i, M)) (V 0) (fun i hi k => ?_) (fun k => ?_) (pu_FU (by omega))
  · have hl := x12_lookB hM hw hi
    have hb := x12_bit (x := s) (v := i) (by omega) (by omega)
    show F_X12_cover_56 K k b (nI s) (nI (loA V s i)) (nI i) M = _
    unfold F_X12_cover_56 F_X12_cover_87
    rcases Nat.mod_two_eq_zero_or_one (s / 2 ^ i) with h | h
    · rw [h] at hb
      simp (disch := omega) only [↓pu_m1, pu_lit, ↓reduceIte, pu_leT, pu_leF, pu_ltT, pu_ltF, pu_eqT, pu_eqF, pu_eqO, pu_eqO2, pu_ltO, pu_leO, pu_subO, pu_subOF, pu_subT, pu_subF, pu_oobF, pu_clamp, pu_add, pu_sub, pu_mul, pu_and, pu_or, pu_xor, pu_xorO, pu_shl, pu_shr, pu_ushr, pu_nb0, pu_nb1, pu_ob1, pu_ob2, pu_ob3, pu_ob4, pu_nw, pu_n1, pu_n7, pu_n31, pu_n255, pu_md, pu_one, pu_sI1, pu_sI2, pu_sA1, pu_sA21, pu_sA222, pu_sAe, pu_sAn, pu_sJ1, pu_sJ21, pu_sJ221, pu_sF1, pu_sF21, pu_sF222, pu_sFe, pu_sFn, pu_upe, pu_upn, Nat.reduceAdd, Nat.reduceSub, Nat.reduceMul, Nat.reduceMod, Nat.reduceAnd, Nat.reducePow, Nat.reduceEqDiff, Nat.add_zero, Nat.zero_add, Bool.false_eq_true, Nat.add_sub_cancel, g0, hb, h, loA, or0]
    · rw [h] at hb
      simp (disch := omega) only [↓pu_m1, pu_lit, ↓reduceIte, pu_leT, pu_leF, pu_ltT, pu_ltF, pu_eqT, pu_eqF, pu_eqO, pu_eqO2, pu_ltO, pu_leO, pu_subO, pu_subOF, pu_subT, pu_subF, pu_oobF, pu_clamp, pu_add, pu_sub, pu_mul, pu_and, pu_or, pu_xor, pu_xorO, pu_shl, pu_shr, pu_ushr, pu_nb0, pu_nb1, pu_ob1, pu_ob2, pu_ob3, pu_ob4, pu_nw, pu_n1, pu_n7, pu_n31, pu_n255, pu_md, pu_one, pu_sI1, pu_sI2, pu_sA1, pu_sA21, pu_sA222, pu_sAe, pu_sAn, pu_sJ1, pu_sJ21, pu_sJ221, pu_sF1, pu_sF21, pu_sF222, pu_sFe, pu_sFn, pu_upe, pu_upn, Nat.reduceAdd, Nat.reduceSub, Nat.reduceMul, Nat.reduceMod, Nat.reduceAnd, Nat.reducePow, Nat.reduceEqDiff, Nat.add_zero, Nat.zero_add, Bool.false_eq_true, Nat.add_sub_cancel, g0, hb, h, loA, hl]
  · have hl := loA_lt V s (V 0)
    show F_X12_cover_56 K k b (nI s) (nI (loA V s (V 0))) (nI (V 0)) M = _
    unfold F_X12_cover_56 F_X12_cover_104
    by_cases h : loA V s (V 0) = 255
    · simp (disch := omega) only [↓pu_m1, pu_lit, ↓reduceIte, pu_leT, pu_leF, pu_ltT, pu_ltF, pu_eqT, pu_eqF, pu_eqO, pu_eqO2, pu_ltO, pu_leO, pu_subO, pu_subOF, pu_subT, pu_subF, pu_oobF, pu_clamp, pu_add, pu_sub, pu_mul, pu_and, pu_or, pu_xor, pu_xorO, pu_shl, pu_shr, pu_ushr, pu_nb0, pu_nb1, pu_ob1, pu_ob2, pu_ob3, pu_ob4, pu_nw, pu_n1, pu_n7, pu_n31, pu_n255, pu_md, pu_one, pu_sI1, pu_sI2, pu_sA1, pu_sA21, pu_sA222, pu_sAe, pu_sAn, pu_sJ1, pu_sJ21, pu_sJ221, pu_sF1, pu_sF21, pu_sF222, pu_sFe, pu_sFn, pu_upe, pu_upn, Nat.reduceAdd, Nat.reduceSub, Nat.reduceMul, Nat.reduceMod, Nat.reduceAnd, Nat.reducePow, Nat.reduceEqDiff, Nat.add_zero, Nat.zero_add, Bool.false_eq_true, Nat.add_sub_cancel, g0, h]
    · simp (disch := omega) only [↓pu_m1, pu_lit, ↓reduceIte, pu_leT, pu_leF, pu_ltT, pu_ltF, pu_eqT, pu_eqF, pu_eqO, pu_eqO2, pu_ltO, pu_leO, pu_subO, pu_subOF, pu_subT, pu_subF, pu_oobF, pu_clamp, pu_add, pu_sub, pu_mul, pu_and, pu_or, pu_xor, pu_xorO, pu_shl, pu_shr, pu_ushr, pu_nb0, pu_nb1, pu_ob1, pu_ob2, pu_ob3, pu_ob4, pu_nw, pu_n1, pu_n7, pu_n31, pu_n255, pu_md, pu_one, pu_sI1, pu_sI2, pu_sA1, pu_sA21, pu_sA222, pu_sAe, pu_sAn, pu_sJ1, pu_sJ21, pu_sJ221, pu_sF1, pu_sF21, pu_sF222, pu_sFe, pu_sFn, pu_upe, pu_upn, Nat.reduceAdd, Nat.reduceSub, Nat.reduceMul, Nat.reduceMod, Nat.reduceAnd, Nat.reducePow, Nat.reduceEqDiff, Nat.add_zero, Nat.zero_add, Bool.false_eq_true, Nat.add_sub_cancel, g0, h]
def okc (V : Vt) (s : Nat) : Prop := s &&& V 44 = 0 ∧ loA V s (V 0) = 255
theorem okc_dec (V : Vt) (s : Nat) : okc V s ∨ ¬ okc V s := Classical.em _
def cvI (V : Vt) (s : Nat) (c : Option Nat) : Option Nat := match c with
  | none => if s &&& V 44 = 0 ∧ loA V s (V 0) = 255 then some s else none
  | some b => if (s &&& V 44 = 0 ∧ loA V s (V 0) = 255) ∧ pc8 s < pc8 b then some s else some b
def cvA (V : Vt) : Nat → Option Nat
  | 0 => none
  | s + 1 => cvI V s (cvA V s)
theorem cvA_lt (V : Vt) : ∀ n b, cvA V n = some b → b < n := by
  intro n
  induction n with
  | zero => intro b h; cases h
  | succ n ih =>
    intro b h
    simp only [cvA] at h
    cases hc : cvA V n with
    | none =>
      rw [hc] at h
      have h : (if n &&& V 44 = 0 ∧ loA V n (V 0) = 255 then some n else none) = some b := h
      by_cases hq : n &&& V 44 = 0 ∧ loA V n (V 0) = 255
      · rw [if_pos hq] at h
        injection h with h
        omega
      · rw [if_neg hq] at h
        cases h
    | some c =>
      have := ih c hc
      rw [hc] at h
      have h : (if (n &&& V 44 = 0 ∧ loA V n (V 0) = 255) ∧ pc8 n < pc8 c then some n else some c) = some b := h
      by_cases hq : (n &&& V 44 = 0 ∧ loA V n (V 0) = 255) ∧ pc8 n < pc8 c
      · rw [if_pos hq] at h
        injection h with h
        omega
      · rw [if_neg hq] at h
        injection h with h
        omega
def cf1 (c : Option Nat) : Int32 := match c with
  | none => nI 8
  | some b => nI (pc8 b)
def cf2 (c : Option Nat) : Int32 := match c with
  | none => nO
  | some b => nI b
theorem pc8_7 : ∀ s, s < 128 → pc8 s ≤ 7 := by decide +kernel
theorem pow_le7 {n : Nat} (h : n ≤ 7) : 2 ^ n ≤ 128 := Nat.pow_le_pow_right (by omega) h
theorem x11_cover (hS : RS B V) (hw : WF V) : F_X11_cover T B = some (match cvA V (2 ^ V 0) with | none => (nO, T) | some b => (nI (pc8 b), sI T 16 (nI b))) := by
  have e0 := hS.1
  have e6 := hS.2.2.2.1
  have w0 := hw.1
  have w44 := hw.2.2.2.1
  have hp := pow_le7 w0
  unfold F_X11_cover L_X11_cover_7
  refine lp_up (fun i => (cf1 (cvA V i), cf2 (cvA V i), nI i, T, B)) (2 ^ V 0) (fun i hi k => ?_) (fun k => ?_) (pu_FU (by omega))
  · have hb := bcnt i (by omega)
    have hl := x8_lookAll hS hw (by omega : i < 128)
    have hll := loA_lt V i (V 0)
    have h7 := pc8_7 i (by omega)
    have ha : i &&& V 44 < 128 := Nat.lt_of_le_of_lt Nat.and_le_left (by omega)
    show F_X11_cover_7 k (cf1 (cvA V i)) (cf2 (cvA V i)) (nI i) T B = k (cf1 (cvA V (i + 1)), cf2 (cvA V (i + 1)), nI (i + 1), T, B)
    unfold F_X11_cover_7 F_X11_cover_63
    simp only [cvA]
    cases hc : cvA V i with
    | none =>
      by_cases h1 : i &&& V 44 = 0
      · by_cases h2 : loA V i (V 0) = 255
        · have e : cvI V i none = some i := if_pos ⟨h1, h2⟩
          rw [e]
          simp only [cf1, cf2]
          simp (disch := omega) only [↓pu_m1, pu_lit, ↓reduceIte, pu_leT, pu_leF, pu_ltT, pu_ltF, pu_eqT, pu_eqF, pu_eqO, pu_eqO2, pu_ltO, pu_leO, pu_subO, pu_subOF, pu_subT, pu_subF, pu_oobF, pu_clamp, pu_add, pu_sub, pu_mul, pu_and, pu_or, pu_xor, pu_xorO, pu_shl, pu_shr, pu_ushr, pu_nb0, pu_nb1, pu_ob1, pu_ob2, pu_ob3, pu_ob4, pu_nw, pu_n1, pu_n7, pu_n31, pu_n255, pu_md, pu_one, pu_sI1, pu_sI2, pu_sA1, pu_sA21, pu_sA222, pu_sAe, pu_sAn, pu_sJ1, pu_sJ21, pu_sJ221, pu_sF1, pu_sF21, pu_sF222, pu_sFe, pu_sFn, pu_upe, pu_upn, Nat.reduceAdd, Nat.reduceSub, Nat.reduceMul, Nat.reduceMod, Nat.reduceAnd, Nat.reducePow, Nat.reduceEqDiff, Nat.add_zero, Nat.zero_add, Bool.false_eq_true, Nat.add_sub_cancel, e0, e6, hb, h1, hl, h2]
        · have e : cvI V i none = none := if_neg (fun h => h2 h.2)
          rw [e]
          simp only [cf1, cf2]
          simp (disch := omega) only [↓pu_m1, pu_lit, ↓reduceIte, pu_leT, pu_leF, pu_ltT, pu_ltF, pu_eqT, pu_eqF, pu_eqO, pu_eqO2, pu_ltO, pu_leO, pu_subO, pu_subOF, pu_subT, pu_subF, pu_oobF, pu_clamp, pu_add, pu_sub, pu_mul, pu_and, pu_or, pu_xor, pu_xorO, pu_shl, pu_shr, pu_ushr, pu_nb0, pu_nb1, pu_ob1, pu_ob2, pu_ob3, pu_ob4, pu_nw, pu_n1, pu_n7, pu_n31, pu_n255, pu_md, pu_one, pu_sI1, pu_sI2, pu_sA1, pu_sA21, pu_sA222, pu_sAe, pu_sAn, pu_sJ1, pu_sJ21, pu_sJ221, pu_sF1, pu_sF21, pu_sF222, pu_sFe, pu_sFn, pu_upe, pu_upn, Nat.reduceAdd, Nat.reduceSub, Nat.reduceMul, Nat.reduceMod, Nat.reduceAnd, Nat.reducePow, Nat.reduceEqDiff, Nat.add_zero, Nat.zero_add, Bool.false_eq_true, Nat.add_sub_cancel, e0, e6, hb, h1, hl, h2]
      · have e : cvI V i none = none := if_neg (fun h => h1 h.1)
        rw [e]
        simp only [cf1, cf2]
        simp (disch := omega) only [↓pu_m1, pu_lit, ↓reduceIte, pu_leT, pu_leF, pu_ltT, pu_ltF, pu_eqT, pu_eqF, pu_eqO, pu_eqO2, pu_ltO, pu_leO, pu_subO, pu_subOF, pu_subT, pu_subF, pu_oobF, pu_clamp, pu_add, pu_sub, pu_mul, pu_and, pu_or, pu_xor, pu_xorO, pu_shl, pu_shr, pu_ushr, pu_nb0, pu_nb1, pu_ob1, pu_ob2, pu_ob3, pu_ob4, pu_nw, pu_n1, pu_n7, pu_n31, pu_n255, pu_md, pu_one, pu_sI1, pu_sI2, pu_sA1, pu_sA21, pu_sA222, pu_sAe, pu_sAn, pu_sJ1, pu_sJ21, pu_sJ221, pu_sF1, pu_sF21, pu_sF222, pu_sFe, pu_sFn, pu_upe, pu_upn, Nat.reduceAdd, Nat.reduceSub, Nat.reduceMul, Nat.reduceMod, Nat.reduceAnd, Nat.reducePow, Nat.reduceEqDiff, Nat.add_zero, Nat.zero_add, Bool.false_eq_true, Nat.add_sub_cancel, e0, e6, hb, h1]
    | some b =>
      have hbl := cvA_lt V i b hc
      have h7b := pc8_7 b (by omega)
      by_cases h3 : pc8 i < pc8 b
      · by_cases h1 : i &&& V 44 = 0
        · by_cases h2 : loA V i (V 0) = 255
          · have e : cvI V i (some b) = some i := if_pos ⟨⟨h1, h2⟩, h3⟩
            rw [e]
            simp only [cf1, cf2]
            simp (disch := omega) only [↓pu_m1, pu_lit, ↓reduceIte, pu_leT, pu_leF, pu_ltT, pu_ltF, pu_eqT, pu_eqF, pu_eqO, pu_eqO2, pu_ltO, pu_leO, pu_subO, pu_subOF, pu_subT, pu_subF, pu_oobF, pu_clamp, pu_add, pu_sub, pu_mul, pu_and, pu_or, pu_xor, pu_xorO, pu_shl, pu_shr, pu_ushr, pu_nb0, pu_nb1, pu_ob1, pu_ob2, pu_ob3, pu_ob4, pu_nw, pu_n1, pu_n7, pu_n31, pu_n255, pu_md, pu_one, pu_sI1, pu_sI2, pu_sA1, pu_sA21, pu_sA222, pu_sAe, pu_sAn, pu_sJ1, pu_sJ21, pu_sJ221, pu_sF1, pu_sF21, pu_sF222, pu_sFe, pu_sFn, pu_upe, pu_upn, Nat.reduceAdd, Nat.reduceSub, Nat.reduceMul, Nat.reduceMod, Nat.reduceAnd, Nat.reducePow, Nat.reduceEqDiff, Nat.add_zero, Nat.zero_add, Bool.false_eq_true, Nat.add_sub_cancel, e0, e6, hb, h1, hl, h2]
          · have e : cvI V i (some b) = some b := if_neg (fun h => h2 h.1.2)
            rw [e]
            simp only [cf1, cf2]
            simp (disch := omega) only [↓pu_m1, pu_lit, ↓reduceIte, pu_leT, pu_leF, pu_ltT, pu_ltF, pu_eqT, pu_eqF, pu_eqO, pu_eqO2, pu_ltO, pu_leO, pu_subO, pu_subOF, pu_subT, pu_subF, pu_oobF, pu_clamp, pu_add, pu_sub, pu_mul, pu_and, pu_or, pu_xor, pu_xorO, pu_shl, pu_shr, pu_ushr, pu_nb0, pu_nb1, pu_ob1, pu_ob2, pu_ob3, pu_ob4, pu_nw, pu_n1, pu_n7, pu_n31, pu_n255, pu_md, pu_one, pu_sI1, pu_sI2, pu_sA1, pu_sA21, pu_sA222, pu_sAe, pu_sAn, pu_sJ1, pu_sJ21, pu_sJ221, pu_sF1, pu_sF21, pu_sF222, pu_sFe, pu_sFn, pu_upe, pu_upn, Nat.reduceAdd, Nat.reduceSub, Nat.reduceMul, Nat.reduceMod, Nat.reduceAnd, Nat.reducePow, Nat.reduceEqDiff, Nat.add_zero, Nat.zero_add, Bool.false_eq_true, Nat.add_sub_cancel, e0, e6, hb, h1, hl, h2]
        · have e : cvI V i (some b) = some b := if_neg (fun h => h1 h.1.1)
          rw [e]
          simp only [cf1, cf2]
          simp (disch := omega) only [↓pu_m1, pu_lit, ↓reduceIte, pu_leT, pu_leF, pu_ltT, pu_ltF, pu_eqT, pu_eqF, pu_eqO, pu_eqO2, pu_ltO, pu_leO, pu_subO, pu_subOF, pu_subT, pu_subF, pu_oobF, pu_clamp, pu_add, pu_sub, pu_mul, pu_and, pu_or, pu_xor, pu_xorO, pu_shl, pu_shr, pu_ushr, pu_nb0, pu_nb1, pu_ob1, pu_ob2, pu_ob3, pu_ob4, pu_nw, pu_n1, pu_n7, pu_n31, pu_n255, pu_md, pu_one, pu_sI1, pu_sI2, pu_sA1, pu_sA21, pu_sA222, pu_sAe, pu_sAn, pu_sJ1, pu_sJ21, pu_sJ221, pu_sF1, pu_sF21, pu_sF222, pu_sFe, pu_sFn, pu_upe, pu_upn, Nat.reduceAdd, Nat.reduceSub, Nat.reduceMul, Nat.reduceMod, Nat.reduceAnd, Nat.reducePow, Nat.reduceEqDiff, Nat.add_zero, Nat.zero_add, Bool.false_eq_true, Nat.add_sub_cancel, e0, e6, hb, h1]
      · have e : cvI V i (some b) = some b := if_neg (fun h => h3 h.2)
        rw [e]
        simp only [cf1, cf2]
        simp (disch := omega) only [↓pu_m1, pu_lit, ↓reduceIte, pu_leT, pu_leF, pu_ltT, pu_ltF, pu_eqT, pu_eqF, pu_eqO, pu_eqO2, pu_ltO, pu_leO, pu_subO, pu_subOF, pu_subT, pu_subF, pu_oobF, pu_clamp, pu_add, pu_sub, pu_mul, pu_and, pu_or, pu_xor, pu_xorO, pu_shl, pu_shr, pu_ushr, pu_nb0, pu_nb1, pu_ob1, pu_ob2, pu_ob3, pu_ob4, pu_nw, pu_n1, pu_n7, pu_n31, pu_n255, pu_md, pu_one, pu_sI1, pu_sI2, pu_sA1, pu_sA21, pu_sA222, pu_sAe, pu_sAn, pu_sJ1, pu_sJ21, pu_sJ221, pu_sF1, pu_sF21, pu_sF222, pu_sFe, pu_sFn, pu_upe, pu_upn, Nat.reduceAdd, Nat.reduceSub, Nat.reduceMul, Nat.reduceMod, Nat.reduceAnd, Nat.reducePow, Nat.reduceEqDiff, Nat.add_zero, Nat.zero_add, Bool.false_eq_true, Nat.add_sub_cancel, e0, e6, hb]
  · show F_X11_cover_7 k (cf1 (cvA V (2 ^ V 0))) (cf2 (cvA V (2 ^ V 0))) (nI (2 ^ V 0)) T B = _
    unfold F_X11_cover_7
    cases hc : cvA V (2 ^ V 0) with
    | none =>
      simp only [cf1, cf2]
      simp (disch := omega) only [↓pu_m1, pu_lit, ↓reduceIte, pu_leT, pu_leF, pu_ltT, pu_ltF, pu_eqT, pu_eqF, pu_eqO, pu_eqO2, pu_ltO, pu_leO, pu_subO, pu_subOF, pu_subT, pu_subF, pu_oobF, pu_clamp, pu_add, pu_sub, pu_mul, pu_and, pu_or, pu_xor, pu_xorO, pu_shl, pu_shr, pu_ushr, pu_nb0, pu_nb1, pu_ob1, pu_ob2, pu_ob3, pu_ob4, pu_nw, pu_n1, pu_n7, pu_n31, pu_n255, pu_md, pu_one, pu_sI1, pu_sI2, pu_sA1, pu_sA21, pu_sA222, pu_sAe, pu_sAn, pu_sJ1, pu_sJ21, pu_sJ221, pu_sF1, pu_sF21, pu_sF222, pu_sFe, pu_sFn, pu_upe, pu_upn, Nat.reduceAdd, Nat.reduceSub, Nat.reduceMul, Nat.reduceMod, Nat.reduceAnd, Nat.reducePow, Nat.reduceEqDiff, Nat.add_zero, Nat.zero_add, Bool.false_eq_true, Nat.add_sub_cancel, e0]
    | some b =>
      have hbl := cvA_lt V _ b hc
      simp only [cf1, cf2]
      simp (disch := omega) only [↓pu_m1, pu_lit, ↓reduceIte, pu_leT, pu_leF, pu_ltT, pu_ltF, pu_eqT, pu_eqF, pu_eqO, pu_eqO2, pu_ltO, pu_leO, pu_subO, pu_subOF, pu_subT, pu_subF, pu_oobF, pu_clamp, pu_add, pu_sub, pu_mul, pu_and, pu_or, pu_xor, pu_xorO, pu_shl, pu_shr, pu_ushr, pu_nb0, pu_nb1, pu_ob1, pu_ob2, pu_ob3, pu_ob4, pu_nw, pu_n1, pu_n7, pu_n31, pu_n255, pu_md, pu_one, pu_sI1, pu_sI2, pu_sA1, pu_sA21, pu_sA222, pu_sAe, pu_sAn, pu_sJ1, pu_sJ21, pu_sJ221, pu_sF1, pu_sF21, pu_sF222, pu_sFe, pu_sFn, pu_upe, pu_upn, Nat.reduceAdd, Nat.reduceSub, Nat.reduceMul, Nat.reduceMod, Nat.reduceAnd, Nat.reducePow, Nat.reduceEqDiff, Nat.add_zero, Nat.zero_add, Bool.false_eq_true, Nat.add_sub_cancel, e0]
theorem x12_cover (hM : RM M V) (hw : WF V) : F_X12_cover M = some (match cvA V (2 ^ V 0) with | none => (nO, sI M 0 (nI 0)) | some b => (nI (pc8 b), sI (sI (sI M 0 (nI 0)) 29 (nI 1)) 28 (nI b))) := by
  have hM0 := RM_sI hM 0 (nI 0)
  have g0 := hM 0 (by omega)
  have g44 := hM 44 (by omega)
  have w0 := hw.1
  have w44 := hw.2.2.2.1
  have hp := pow_le7 w0
  have hp1 : 1 ≤ 2 ^ V 0 := Nat.one_le_two_pow
  have h10 : cvA V 1 = none := by
    have hz : ∀ t, loA V 0 t = 0 := by
      intro t
      induction t with
      | zero => rfl
      | succ t ih => simp only [loA]; rw [Nat.zero_div, Nat.zero_mod, if_neg (by omega)]; exact ih
    show cvI V 0 none = none
    unfold cvI
    simp only
    rw [if_neg]
    rintro ⟨-, h⟩
    rw [hz] at h
    cases h
  unfold F_X12_cover L_X12_cover_9
  have key := lp_up (body := fun kz z => F_X12_cover_9 kz z.1 z.2.1 z.2.2) (fun i => (cf2 (cvA V (i + 1)), nI (i + 1), sI M 0 (nI 0))) (2 ^ V 0 - 1) (o := match cvA V (2 ^ V 0) with | none => (nO, sI M 0 (nI 0)) | some b => (nI (pc8 b), sI (sI (sI M 0 (nI 0)) 29 (nI 1)) 28 (nI b))) (fun i hi k => ?_) (fun k => ?_) (pu_FU (by omega))
  · rw [h10] at key
    simp only [cf2] at key
    simp (disch := omega) only [↓pu_m1, pu_lit, ↓reduceIte, pu_leT, pu_leF, pu_ltT, pu_ltF, pu_eqT, pu_eqF, pu_eqO, pu_eqO2, pu_ltO, pu_leO, pu_subO, pu_subOF, pu_subT, pu_subF, pu_oobF, pu_clamp, pu_add, pu_sub, pu_mul, pu_and, pu_or, pu_xor, pu_xorO, pu_shl, pu_shr, pu_ushr, pu_nb0, pu_nb1, pu_ob1, pu_ob2, pu_ob3, pu_ob4, pu_nw, pu_n1, pu_n7, pu_n31, pu_n255, pu_md, pu_one, pu_sI1, pu_sI2, pu_sA1, pu_sA21, pu_sA222, pu_sAe, pu_sAn, pu_sJ1, pu_sJ21, pu_sJ221, pu_sF1, pu_sF21, pu_sF222, pu_sFe, pu_sFn, pu_upe, pu_upn, Nat.reduceAdd, Nat.reduceSub, Nat.reduceMul, Nat.reduceMod, Nat.reduceAnd, Nat.reducePow, Nat.reduceEqDiff, Nat.add_zero, Nat.zero_add, Bool.false_eq_true, Nat.add_sub_cancel]
    exact key
  · have hl := fun b K => x12_lookAll hM0 hw (by omega : i + 1 < 128) b K
    have h7 := pc8_7 (i + 1) (by omega)
    have hb := x12_bits (by omega : i + 1 < 256)
    have ha : (i + 1) &&& V 44 < 128 := Nat.lt_of_le_of_lt Nat.and_le_left (by omega)
    show F_X12_cover_9 k (cf2 (cvA V (i + 1))) (nI (i + 1)) (sI M 0 (nI 0)) = k (cf2 (cvA V (i + 1 + 1)), nI (i + 1 + 1), sI M 0 (nI 0))
    have es : cvA V (i + 1 + 1) = cvI V (i + 1) (cvA V (i + 1)) := rfl
    rw [es]
    unfold F_X12_cover_9 F_X12_cover_104
    cases hc : cvA V (i + 1) with
    | none =>
      have n0 : nO < nI 0 := pu_nOneg
      by_cases h1 : (i + 1) &&& V 44 = 0
      · by_cases h2 : loA V (i + 1) (V 0) = 255
        · have e : cvI V (i + 1) none = some (i + 1) := if_pos ⟨h1, h2⟩
          rw [e]
          simp only [cf2]
          simp (disch := omega) only [↓pu_m1, pu_lit, ↓reduceIte, pu_leT, pu_leF, pu_ltT, pu_ltF, pu_eqT, pu_eqF, pu_eqO, pu_eqO2, pu_ltO, pu_leO, pu_subO, pu_subOF, pu_subT, pu_subF, pu_oobF, pu_clamp, pu_add, pu_sub, pu_mul, pu_and, pu_or, pu_xor, pu_xorO, pu_shl, pu_shr, pu_ushr, pu_nb0, pu_nb1, pu_ob1, pu_ob2, pu_ob3, pu_ob4, pu_nw, pu_n1, pu_n7, pu_n31, pu_n255, pu_md, pu_one, pu_sI1, pu_sI2, pu_sA1, pu_sA21, pu_sA222, pu_sAe, pu_sAn, pu_sJ1, pu_sJ21, pu_sJ221, pu_sF1, pu_sF21, pu_sF222, pu_sFe, pu_sFn, pu_upe, pu_upn, Nat.reduceAdd, Nat.reduceSub, Nat.reduceMul, Nat.reduceMod, Nat.reduceAnd, Nat.reducePow, Nat.reduceEqDiff, Nat.add_zero, Nat.zero_add, Bool.false_eq_true, Nat.add_sub_cancel, g0, g44, h1, n0, hl, h2]
        · have e : cvI V (i + 1) none = none := if_neg (fun h => h2 h.2)
          rw [e]
          simp only [cf2]
          simp (disch := omega) only [↓pu_m1, pu_lit, ↓reduceIte, pu_leT, pu_leF, pu_ltT, pu_ltF, pu_eqT, pu_eqF, pu_eqO, pu_eqO2, pu_ltO, pu_leO, pu_subO, pu_subOF, pu_subT, pu_subF, pu_oobF, pu_clamp, pu_add, pu_sub, pu_mul, pu_and, pu_or, pu_xor, pu_xorO, pu_shl, pu_shr, pu_ushr, pu_nb0, pu_nb1, pu_ob1, pu_ob2, pu_ob3, pu_ob4, pu_nw, pu_n1, pu_n7, pu_n31, pu_n255, pu_md, pu_one, pu_sI1, pu_sI2, pu_sA1, pu_sA21, pu_sA222, pu_sAe, pu_sAn, pu_sJ1, pu_sJ21, pu_sJ221, pu_sF1, pu_sF21, pu_sF222, pu_sFe, pu_sFn, pu_upe, pu_upn, Nat.reduceAdd, Nat.reduceSub, Nat.reduceMul, Nat.reduceMod, Nat.reduceAnd, Nat.reducePow, Nat.reduceEqDiff, Nat.add_zero, Nat.zero_add, Bool.false_eq_true, Nat.add_sub_cancel, g0, g44, h1, n0, hl, h2]
      · have e : cvI V (i + 1) none = none := if_neg (fun h => h1 h.1)
        rw [e]
        simp only [cf2]
        simp (disch := omega) only [↓pu_m1, pu_lit, ↓reduceIte, pu_leT, pu_leF, pu_ltT, pu_ltF, pu_eqT, pu_eqF, pu_eqO, pu_eqO2, pu_ltO, pu_leO, pu_subO, pu_subOF, pu_subT, pu_subF, pu_oobF, pu_clamp, pu_add, pu_sub, pu_mul, pu_and, pu_or, pu_xor, pu_xorO, pu_shl, pu_shr, pu_ushr, pu_nb0, pu_nb1, pu_ob1, pu_ob2, pu_ob3, pu_ob4, pu_nw, pu_n1, pu_n7, pu_n31, pu_n255, pu_md, pu_one, pu_sI1, pu_sI2, pu_sA1, pu_sA21, pu_sA222, pu_sAe, pu_sAn, pu_sJ1, pu_sJ21, pu_sJ221, pu_sF1, pu_sF21, pu_sF222, pu_sFe, pu_sFn, pu_upe, pu_upn, Nat.reduceAdd, Nat.reduceSub, Nat.reduceMul, Nat.reduceMod, Nat.reduceAnd, Nat.reducePow, Nat.reduceEqDiff, Nat.add_zero, Nat.zero_add, Bool.false_eq_true, Nat.add_sub_cancel, g0, g44, h1]
    | some b =>
      have hbl := cvA_lt V _ b hc
      have hb2 := x12_bits (by omega : b < 256)
      have h7b := pc8_7 b (by omega)
      by_cases h1 : (i + 1) &&& V 44 = 0
      · by_cases h3 : pc8 (i + 1) < pc8 b
        · by_cases h2 : loA V (i + 1) (V 0) = 255
          · have e : cvI V (i + 1) (some b) = some (i + 1) := if_pos ⟨⟨h1, h2⟩, h3⟩
            rw [e]
            simp only [cf2]
            simp (disch := omega) only [↓pu_m1, pu_lit, ↓reduceIte, pu_leT, pu_leF, pu_ltT, pu_ltF, pu_eqT, pu_eqF, pu_eqO, pu_eqO2, pu_ltO, pu_leO, pu_subO, pu_subOF, pu_subT, pu_subF, pu_oobF, pu_clamp, pu_add, pu_sub, pu_mul, pu_and, pu_or, pu_xor, pu_xorO, pu_shl, pu_shr, pu_ushr, pu_nb0, pu_nb1, pu_ob1, pu_ob2, pu_ob3, pu_ob4, pu_nw, pu_n1, pu_n7, pu_n31, pu_n255, pu_md, pu_one, pu_sI1, pu_sI2, pu_sA1, pu_sA21, pu_sA222, pu_sAe, pu_sAn, pu_sJ1, pu_sJ21, pu_sJ221, pu_sF1, pu_sF21, pu_sF222, pu_sFe, pu_sFn, pu_upe, pu_upn, Nat.reduceAdd, Nat.reduceSub, Nat.reduceMul, Nat.reduceMod, Nat.reduceAnd, Nat.reducePow, Nat.reduceEqDiff, Nat.add_zero, Nat.zero_add, Bool.false_eq_true, Nat.add_sub_cancel, g0, g44, h1, hb, hb2, hl, h2]
          · have e : cvI V (i + 1) (some b) = some b := if_neg (fun h => h2 h.1.2)
            rw [e]
            simp only [cf2]
            simp (disch := omega) only [↓pu_m1, pu_lit, ↓reduceIte, pu_leT, pu_leF, pu_ltT, pu_ltF, pu_eqT, pu_eqF, pu_eqO, pu_eqO2, pu_ltO, pu_leO, pu_subO, pu_subOF, pu_subT, pu_subF, pu_oobF, pu_clamp, pu_add, pu_sub, pu_mul, pu_and, pu_or, pu_xor, pu_xorO, pu_shl, pu_shr, pu_ushr, pu_nb0, pu_nb1, pu_ob1, pu_ob2, pu_ob3, pu_ob4, pu_nw, pu_n1, pu_n7, pu_n31, pu_n255, pu_md, pu_one, pu_sI1, pu_sI2, pu_sA1, pu_sA21, pu_sA222, pu_sAe, pu_sAn, pu_sJ1, pu_sJ21, pu_sJ221, pu_sF1, pu_sF21, pu_sF222, pu_sFe, pu_sFn, pu_upe, pu_upn, Nat.reduceAdd, Nat.reduceSub, Nat.reduceMul, Nat.reduceMod, Nat.reduceAnd, Nat.reducePow, Nat.reduceEqDiff, Nat.add_zero, Nat.zero_add, Bool.false_eq_true, Nat.add_sub_cancel, g0, g44, h1, hb, hb2, hl, h2]
        · have e : cvI V (i + 1) (some b) = some b := if_neg (fun h => h3 h.2)
          rw [e]
          simp only [cf2]
          simp (disch := omega) only [↓pu_m1, pu_lit, ↓reduceIte, pu_leT, pu_leF, pu_ltT, pu_ltF, pu_eqT, pu_eqF, pu_eqO, pu_eqO2, pu_ltO, pu_leO, pu_subO, pu_subOF, pu_subT, pu_subF, pu_oobF, pu_clamp, pu_add, pu_sub, pu_mul, pu_and, pu_or, pu_xor, pu_xorO, pu_shl, pu_shr, pu_ushr, pu_nb0, pu_nb1, pu_ob1, pu_ob2, pu_ob3, pu_ob4, pu_nw, pu_n1, pu_n7, pu_n31, pu_n255, pu_md, pu_one, pu_sI1, pu_sI2, pu_sA1, pu_sA21, pu_sA222, pu_sAe, pu_sAn, pu_sJ1, pu_sJ21, pu_sJ221, pu_sF1, pu_sF21, pu_sF222, pu_sFe, pu_sFn, pu_upe, pu_upn, Nat.reduceAdd, Nat.reduceSub, Nat.reduceMul, Nat.reduceMod, Nat.reduceAnd, Nat.reducePow, Nat.reduceEqDiff, Nat.add_zero, Nat.zero_add, Bool.false_eq_true, Nat.add_sub_cancel, g0, g44, h1, hb, hb2]
      · have e : cvI V (i + 1) (some b) = some b := if_neg (fun h => h1 h.1.1)
        rw [e]
        simp only [cf2]
        simp (disch := omega) only [↓pu_m1, pu_lit, ↓reduceIte, pu_leT, pu_leF, pu_ltT, pu_ltF, pu_eqT, pu_eqF, pu_eqO, pu_eqO2, pu_ltO, pu_leO, pu_subO, pu_subOF, pu_subT, pu_subF, pu_oobF, pu_clamp, pu_add, pu_sub, pu_mul, pu_and, pu_or, pu_xor, pu_xorO, pu_shl, pu_shr, pu_ushr, pu_nb0, pu_nb1, pu_ob1, pu_ob2, pu_ob3, pu_ob4, pu_nw, pu_n1, pu_n7, pu_n31, pu_n255, pu_md, pu_one, pu_sI1, pu_sI2, pu_sA1, pu_sA21, pu_sA222, pu_sAe, pu_sAn, pu_sJ1, pu_sJ21, pu_sJ221, pu_sF1, pu_sF21, pu_sF222, pu_sFe, pu_sFn, pu_upe, pu_upn, Nat.reduceAdd, Nat.reduceSub, Nat.reduceMul, Nat.reduceMod, Nat.reduceAnd, Nat.reducePow, Nat.reduceEqDiff, Nat.add_zero, Nat.zero_add, Bool.false_eq_true, Nat.add_sub_cancel, g0, g44, h1]
  · have e1 : 2 ^ V 0 - 1 + 1 = 2 ^ V 0 := by omega
    rw [e1]
    show F_X12_cover_9 k (cf2 (cvA V (2 ^ V 0))) (nI (2 ^ V 0)) (sI M 0 (nI 0)) = _
    unfold F_X12_cover_9
    cases hc : cvA V (2 ^ V 0) with
    | none =>
      have n0 : ¬ nI 0 ≤ nO := by decide
      simp only [cf2]
      simp (disch := omega) only [↓pu_m1, pu_lit, ↓reduceIte, pu_leT, pu_leF, pu_ltT, pu_ltF, pu_eqT, pu_eqF, pu_eqO, pu_eqO2, pu_ltO, pu_leO, pu_subO, pu_subOF, pu_subT, pu_subF, pu_oobF, pu_clamp, pu_add, pu_sub, pu_mul, pu_and, pu_or, pu_xor, pu_xorO, pu_shl, pu_shr, pu_ushr, pu_nb0, pu_nb1, pu_ob1, pu_ob2, pu_ob3, pu_ob4, pu_nw, pu_n1, pu_n7, pu_n31, pu_n255, pu_md, pu_one, pu_sI1, pu_sI2, pu_sA1, pu_sA21, pu_sA222, pu_sAe, pu_sAn, pu_sJ1, pu_sJ21, pu_sJ221, pu_sF1, pu_sF21, pu_sF222, pu_sFe, pu_sFn, pu_upe, pu_upn, Nat.reduceAdd, Nat.reduceSub, Nat.reduceMul, Nat.reduceMod, Nat.reduceAnd, Nat.reducePow, Nat.reduceEqDiff, Nat.add_zero, Nat.zero_add, Bool.false_eq_true, Nat.add_sub_cancel, g0, n0]
    | some b =>
      have hbl := cvA_lt V _ b hc
      have hb2 := x12_bits (by omega : b < 256)
      simp only [cf2]
      simp (disch := omega) only [↓pu_m1, pu_lit, ↓reduceIte, pu_leT, pu_leF, pu_ltT, pu_ltF, pu_eqT, pu_eqF, pu_eqO, pu_eqO2, pu_ltO, pu_leO, pu_subO, pu_subOF, pu_subT, pu_subF, pu_oobF, pu_clamp, pu_add, pu_sub, pu_mul, pu_and, pu_or, pu_xor, pu_xorO, pu_shl, pu_shr, pu_ushr, pu_nb0, pu_nb1, pu_ob1, pu_ob2, pu_ob3, pu_ob4, pu_nw, pu_n1, pu_n7, pu_n31, pu_n255, pu_md, pu_one, pu_sI1, pu_sI2, pu_sA1, pu_sA21, pu_sA222, pu_sAe, pu_sAn, pu_sJ1, pu_sJ21, pu_sJ221, pu_sF1, pu_sF21, pu_sF222, pu_sFe, pu_sFn, pu_upe, pu_upn, Nat.reduceAdd, Nat.reduceSub, Nat.reduceMul, Nat.reduceMod, Nat.reduceAnd, Nat.reducePow, Nat.reduceEqDiff, Nat.add_zero, Nat.zero_add, Bool.false_eq_true, Nat.add_sub_cancel, g0, hb2]
def RC (T M : St) : Prop := (M.1 29 = nI 0 ∧ T.1 16 = nO) ∨ (M.1 29 = nI 1 ∧ T.1 16 = M.1 28)
theorem p_cover (hS : RS B V) (hM : RM M V) (hw : WF V) (h : RC T M) : ∃ r T' M', F_X11_cover T B = some (r, T') ∧ F_X12_cover M = some (r, M') ∧ RC T' M' ∧ T'.1 15 = T.1 15 ∧ T'.2 = T.2 ∧ FR [0, 28, 29] [] [] M M' := by
  rw [x11_cover hS hw, x12_cover hM hw]
  cases hc : cvA V (2 ^ V 0) with
  | none => exact ⟨nO, T, _, rfl, rfl, h, rfl, rfl, FR.sI (by decide)⟩
  | some b => exact ⟨nI (pc8 b), sI T 16 (nI b), _, rfl, rfl, Or.inr ⟨rfl, rfl⟩, rfl, rfl, ((FR.sI (by decide)).tr (FR.sI (by decide))).tr (FR.sI (by decide))⟩
theorem p_covering (h : RC T M) : ∃ r, F_X11_covering T = some r ∧ F_X12_covering M = some (r, sI M 0 (nI 0)) := by
  unfold F_X11_covering F_X12_covering
  rcases h with ⟨h1, h2⟩ | ⟨h1, h2⟩
  · exact ⟨nO, by rw [h2], by simp (disch := omega) only [↓pu_m1, pu_lit, ↓reduceIte, pu_leT, pu_leF, pu_ltT, pu_ltF, pu_eqT, pu_eqF, pu_eqO, pu_eqO2, pu_ltO, pu_leO, pu_subO, pu_subOF, pu_subT, pu_subF, pu_oobF, pu_clamp, pu_add, pu_sub, pu_mul, pu_and, pu_or, pu_xor, pu_xorO, pu_shl, pu_shr, pu_ushr, pu_nb0, pu_nb1, pu_ob1, pu_ob2, pu_ob3, pu_ob4, pu_nw, pu_n1, pu_n7, pu_n31, pu_n255, pu_md, pu_one, pu_sI1, pu_sI2, pu_sA1, pu_sA21, pu_sA222, pu_sAe, pu_sAn, pu_sJ1, pu_sJ21, pu_sJ221, pu_sF1, pu_sF21, pu_sF222, pu_sFe, pu_sFn, pu_upe, pu_upn, Nat.reduceAdd, Nat.reduceSub, Nat.reduceMul, Nat.reduceMod, Nat.reduceAnd, Nat.reducePow, Nat.reduceEqDiff, Nat.add_zero, Nat.zero_add, Bool.false_eq_true, Nat.add_sub_cancel, h1]⟩
  · exact ⟨M.1 28, by rw [h2], by simp (disch := omega) only [↓pu_m1, pu_lit, ↓reduceIte, pu_leT, pu_leF, pu_ltT, pu_ltF, pu_eqT, pu_eqF, pu_eqO, pu_eqO2, pu_ltO, pu_leO, pu_subO, pu_subOF, pu_subT, pu_subF, pu_oobF, pu_clamp, pu_add, pu_sub, pu_mul, pu_and, pu_or, pu_xor, pu_xorO, pu_shl, pu_shr, pu_ushr, pu_nb0, pu_nb1, pu_ob1, pu_ob2, pu_ob3, pu_ob4, pu_nw, pu_n1, pu_n7, pu_n31, pu_n255, pu_md, pu_one, pu_sI1, pu_sI2, pu_sA1, pu_sA21, pu_sA222, pu_sAe, pu_sAn, pu_sJ1, pu_sJ21, pu_sJ221, pu_sF1, pu_sF21, pu_sF222, pu_sFe, pu_sFn, pu_upe, pu_upn, Nat.reduceAdd, Nat.reduceSub, Nat.reduceMul, Nat.reduceMod, Nat.reduceAnd, Nat.reducePow, Nat.reduceEqDiff, Nat.add_zero, Nat.zero_add, Bool.false_eq_true, Nat.add_sub_cancel, h1]⟩
end P10
