/-! walls, days, draws -/
section P5
variable {S M D : St} {V : Vt}
def whyW (V : Vt) (t : Nat) : Nat := if V 44 / 2 ^ t % 2 = 1 then 1 else if who V t < V 1 then 2 else 0
def waV (V : Vt) (t : Nat) : Vt := up V 44 (V 44 ||| 2 ^ t)
def unV (V : Vt) (t : Nat) : Vt := up V 44 (V 44 &&& (2 ^ t ^^^ 4294967295))
theorem wall_tab : ∀ w, w < 128 → ∀ t, t < 7 → (w ||| 2 ^ t) < 128 ∧ (w &&& (2 ^ t ^^^ 4294967295)) < 128 ∧ (w / 2 ^ t % 2 = 1 → w ^^^ 2 ^ t = w &&& (2 ^ t ^^^ 4294967295)) ∧ (w / 2 ^ t % 2 = 0 → w &&& (2 ^ t ^^^ 4294967295) = w) := by decide +kernel
theorem waV_WF (hw : WF V) {t : Nat} (ht : t < V 0) : WF (waV V t) := WF_44 hw (wall_tab _ hw.2.2.2.1 t (by have := hw.1; omega)).1
theorem unV_WF (hw : WF V) {t : Nat} (ht : t < V 0) : WF (unV V t) := WF_44 hw (wall_tab _ hw.2.2.2.1 t (by have := hw.1; omega)).2.1
theorem x8_close (hS : RS S V) (hw : WF V) {t : Nat} (ht : t < V 0) : ∃ S', F_X8_close S (nI t) = some (nI (whyW V t), S') ∧ CS S S' (if whyW V t = 0 then waV V t else V) := by
  have w0 := hw.1
  have w1 := hw.2.1
  have w44 := hw.2.2.2.1
  have e6 := hS.2.2.2.1
  have hl := who_le V t
  unfold F_X8_close
  rcases Nat.mod_two_eq_zero_or_one (V 44 / 2 ^ t) with h2 | h2
  · rcases wI_dec (V 1) (who V t) (by omega) hl with ⟨h4, e4⟩ | ⟨h4, e4⟩
    · have hW : whyW V t = 2 := by unfold whyW; rw [if_neg (by omega), if_pos h4]
      rw [hW]
      exact ⟨S, by simp (disch := omega) only [↓pu_m1, pu_lit, ↓reduceIte, pu_leT, pu_leF, pu_ltT, pu_ltF, pu_eqT, pu_eqF, pu_eqO, pu_eqO2, pu_ltO, pu_leO, pu_subO, pu_subOF, pu_subT, pu_subF, pu_oobF, pu_clamp, pu_add, pu_sub, pu_mul, pu_and, pu_or, pu_xor, pu_xorO, pu_shl, pu_shr, pu_ushr, pu_nb0, pu_nb1, pu_ob1, pu_ob2, pu_ob3, pu_ob4, pu_nw, pu_n1, pu_n7, pu_n31, pu_n255, pu_md, pu_one, pu_sI1, pu_sI2, pu_sA1, pu_sA21, pu_sA222, pu_sAe, pu_sAn, pu_sJ1, pu_sJ21, pu_sJ221, pu_sF1, pu_sF21, pu_sF222, pu_sFe, pu_sFn, pu_upe, pu_upn, Nat.reduceAdd, Nat.reduceSub, Nat.reduceMul, Nat.reduceMod, Nat.reduceAnd, Nat.reducePow, Nat.reduceEqDiff, Nat.add_zero, Nat.zero_add, Bool.false_eq_true, e6, x8_who hS hw (by omega : t < 8), e4, h2], by simp (disch := omega) only [↓pu_m1, pu_lit, ↓reduceIte, pu_leT, pu_leF, pu_ltT, pu_ltF, pu_eqT, pu_eqF, pu_eqO, pu_eqO2, pu_ltO, pu_leO, pu_subO, pu_subOF, pu_subT, pu_subF, pu_oobF, pu_clamp, pu_add, pu_sub, pu_mul, pu_and, pu_or, pu_xor, pu_xorO, pu_shl, pu_shr, pu_ushr, pu_nb0, pu_nb1, pu_ob1, pu_ob2, pu_ob3, pu_ob4, pu_nw, pu_n1, pu_n7, pu_n31, pu_n255, pu_md, pu_one, pu_sI1, pu_sI2, pu_sA1, pu_sA21, pu_sA222, pu_sAe, pu_sAn, pu_sJ1, pu_sJ21, pu_sJ221, pu_sF1, pu_sF21, pu_sF222, pu_sFe, pu_sFn, pu_upe, pu_upn, Nat.reduceAdd, Nat.reduceSub, Nat.reduceMul, Nat.reduceMod, Nat.reduceAnd, Nat.reducePow, Nat.reduceEqDiff, Nat.add_zero, Nat.zero_add, Bool.false_eq_true]; exact CS.rf hS⟩
    · have hW : whyW V t = 0 := by unfold whyW; rw [if_neg (by omega), if_neg (by omega)]
      rw [hW, if_pos rfl]
      exact ⟨sI S 6 (nI (V 44 ||| 2 ^ t)), by simp (disch := omega) only [↓pu_m1, pu_lit, ↓reduceIte, pu_leT, pu_leF, pu_ltT, pu_ltF, pu_eqT, pu_eqF, pu_eqO, pu_eqO2, pu_ltO, pu_leO, pu_subO, pu_subOF, pu_subT, pu_subF, pu_oobF, pu_clamp, pu_add, pu_sub, pu_mul, pu_and, pu_or, pu_xor, pu_xorO, pu_shl, pu_shr, pu_ushr, pu_nb0, pu_nb1, pu_ob1, pu_ob2, pu_ob3, pu_ob4, pu_nw, pu_n1, pu_n7, pu_n31, pu_n255, pu_md, pu_one, pu_sI1, pu_sI2, pu_sA1, pu_sA21, pu_sA222, pu_sAe, pu_sAn, pu_sJ1, pu_sJ21, pu_sJ221, pu_sF1, pu_sF21, pu_sF222, pu_sFe, pu_sFn, pu_upe, pu_upn, Nat.reduceAdd, Nat.reduceSub, Nat.reduceMul, Nat.reduceMod, Nat.reduceAnd, Nat.reducePow, Nat.reduceEqDiff, Nat.add_zero, Nat.zero_add, Bool.false_eq_true, e6, x8_who hS hw (by omega : t < 8), e4, h2], RS_wall hS w0 w1, rfl⟩
  · have hW : whyW V t = 1 := by unfold whyW; rw [if_pos h2]
    rw [hW]
    exact ⟨S, by simp (disch := omega) only [↓pu_m1, pu_lit, ↓reduceIte, pu_leT, pu_leF, pu_ltT, pu_ltF, pu_eqT, pu_eqF, pu_eqO, pu_eqO2, pu_ltO, pu_leO, pu_subO, pu_subOF, pu_subT, pu_subF, pu_oobF, pu_clamp, pu_add, pu_sub, pu_mul, pu_and, pu_or, pu_xor, pu_xorO, pu_shl, pu_shr, pu_ushr, pu_nb0, pu_nb1, pu_ob1, pu_ob2, pu_ob3, pu_ob4, pu_nw, pu_n1, pu_n7, pu_n31, pu_n255, pu_md, pu_one, pu_sI1, pu_sI2, pu_sA1, pu_sA21, pu_sA222, pu_sAe, pu_sAn, pu_sJ1, pu_sJ21, pu_sJ221, pu_sF1, pu_sF21, pu_sF222, pu_sFe, pu_sFn, pu_upe, pu_upn, Nat.reduceAdd, Nat.reduceSub, Nat.reduceMul, Nat.reduceMod, Nat.reduceAnd, Nat.reducePow, Nat.reduceEqDiff, Nat.add_zero, Nat.zero_add, Bool.false_eq_true, e6, h2], by simp (disch := omega) only [↓pu_m1, pu_lit, ↓reduceIte, pu_leT, pu_leF, pu_ltT, pu_ltF, pu_eqT, pu_eqF, pu_eqO, pu_eqO2, pu_ltO, pu_leO, pu_subO, pu_subOF, pu_subT, pu_subF, pu_oobF, pu_clamp, pu_add, pu_sub, pu_mul, pu_and, pu_or, pu_xor, pu_xorO, pu_shl, pu_shr, pu_ushr, pu_nb0, pu_nb1, pu_ob1, pu_ob2, pu_ob3, pu_ob4, pu_nw, pu_n1, pu_n7, pu_n31, pu_n255, pu_md, pu_one, pu_sI1, pu_sI2, pu_sA1, pu_sA21, pu_sA222, pu_sAe, pu_sAn, pu_sJ1, pu_sJ21, pu_sJ221, pu_sF1, pu_sF21, pu_sF222, pu_sFe, pu_sFn, pu_upe, pu_upn, Nat.reduceAdd, Nat.reduceSub, Nat.reduceMul, Nat.reduceMod, Nat.reduceAnd, Nat.reducePow, Nat.reduceEqDiff, Nat.add_zero, Nat.zero_add, Bool.false_eq_true]; exact CS.rf hS⟩
theorem x12_whyW (hM : RM M V) (hw : WF V) {t : Nat} (ht : t < V 0) : F_X12_whyWall M (nI t) = some (nI (whyW V t)) := by
  have w0 := hw.1
  have w1 := hw.2.1
  have hl := who_le V t
  have h7 : nO < nI 0 := pu_nOneg
  unfold F_X12_whyWall
  rw [x12_walled hM hw (by omega), x12_who hM hw (by omega)]
  rcases Nat.mod_two_eq_zero_or_one (V 44 / 2 ^ t) with h2 | h2
  · rcases wI_dec (V 1) (who V t) (by omega) hl with ⟨h4, e4⟩ | ⟨h4, e4⟩
    · have hW : whyW V t = 2 := by unfold whyW; rw [if_neg (by omega), if_pos h4]
      simp (disch := omega) only [↓pu_m1, pu_lit, ↓reduceIte, pu_leT, pu_leF, pu_ltT, pu_ltF, pu_eqT, pu_eqF, pu_eqO, pu_eqO2, pu_ltO, pu_leO, pu_subO, pu_subOF, pu_subT, pu_subF, pu_oobF, pu_clamp, pu_add, pu_sub, pu_mul, pu_and, pu_or, pu_xor, pu_xorO, pu_shl, pu_shr, pu_ushr, pu_nb0, pu_nb1, pu_ob1, pu_ob2, pu_ob3, pu_ob4, pu_nw, pu_n1, pu_n7, pu_n31, pu_n255, pu_md, pu_one, pu_sI1, pu_sI2, pu_sA1, pu_sA21, pu_sA222, pu_sAe, pu_sAn, pu_sJ1, pu_sJ21, pu_sJ221, pu_sF1, pu_sF21, pu_sF222, pu_sFe, pu_sFn, pu_upe, pu_upn, Nat.reduceAdd, Nat.reduceSub, Nat.reduceMul, Nat.reduceMod, Nat.reduceAnd, Nat.reducePow, Nat.reduceEqDiff, Nat.add_zero, Nat.zero_add, Bool.false_eq_true, hW, h2, e4]
    · have hW : whyW V t = 0 := by unfold whyW; rw [if_neg (by omega), if_neg (by omega)]
      simp (disch := omega) only [↓pu_m1, pu_lit, ↓reduceIte, pu_leT, pu_leF, pu_ltT, pu_ltF, pu_eqT, pu_eqF, pu_eqO, pu_eqO2, pu_ltO, pu_leO, pu_subO, pu_subOF, pu_subT, pu_subF, pu_oobF, pu_clamp, pu_add, pu_sub, pu_mul, pu_and, pu_or, pu_xor, pu_xorO, pu_shl, pu_shr, pu_ushr, pu_nb0, pu_nb1, pu_ob1, pu_ob2, pu_ob3, pu_ob4, pu_nw, pu_n1, pu_n7, pu_n31, pu_n255, pu_md, pu_one, pu_sI1, pu_sI2, pu_sA1, pu_sA21, pu_sA222, pu_sAe, pu_sAn, pu_sJ1, pu_sJ21, pu_sJ221, pu_sF1, pu_sF21, pu_sF222, pu_sFe, pu_sFn, pu_upe, pu_upn, Nat.reduceAdd, Nat.reduceSub, Nat.reduceMul, Nat.reduceMod, Nat.reduceAnd, Nat.reducePow, Nat.reduceEqDiff, Nat.add_zero, Nat.zero_add, Bool.false_eq_true, hW, h2, e4, h7]
  · have hW : whyW V t = 1 := by unfold whyW; rw [if_pos h2]
    simp (disch := omega) only [↓pu_m1, pu_lit, ↓reduceIte, pu_leT, pu_leF, pu_ltT, pu_ltF, pu_eqT, pu_eqF, pu_eqO, pu_eqO2, pu_ltO, pu_leO, pu_subO, pu_subOF, pu_subT, pu_subF, pu_oobF, pu_clamp, pu_add, pu_sub, pu_mul, pu_and, pu_or, pu_xor, pu_xorO, pu_shl, pu_shr, pu_ushr, pu_nb0, pu_nb1, pu_ob1, pu_ob2, pu_ob3, pu_ob4, pu_nw, pu_n1, pu_n7, pu_n31, pu_n255, pu_md, pu_one, pu_sI1, pu_sI2, pu_sA1, pu_sA21, pu_sA222, pu_sAe, pu_sAn, pu_sJ1, pu_sJ21, pu_sJ221, pu_sF1, pu_sF21, pu_sF222, pu_sFe, pu_sFn, pu_upe, pu_upn, Nat.reduceAdd, Nat.reduceSub, Nat.reduceMul, Nat.reduceMod, Nat.reduceAnd, Nat.reducePow, Nat.reduceEqDiff, Nat.add_zero, Nat.zero_add, Bool.false_eq_true, hW, h2]
theorem x8_open (hS : RS S V) (hw : WF V) {t : Nat} (ht : t < V 0) : ∃ S', F_X8_open S (nI t) = some (nI (if V 44 / 2 ^ t % 2 = 0 then 1 else 0), S') ∧ CS S S' (unV V t) := by
  have w0 := hw.1
  have w1 := hw.2.1
  have w44 := hw.2.2.2.1
  have e6 := hS.2.2.2.1
  unfold F_X8_open
  rcases Nat.mod_two_eq_zero_or_one (V 44 / 2 ^ t) with h2 | h2
  · have hu : unV V t = V := by
      unfold unV
      rw [(wall_tab _ w44 t (by omega)).2.2.2 h2]
      funext j
      by_cases e : j = 44
      · subst e; rw [pu_upe]
      · rw [pu_upn e]
    rw [hu]
    exact ⟨S, by simp (disch := omega) only [↓pu_m1, pu_lit, ↓reduceIte, pu_leT, pu_leF, pu_ltT, pu_ltF, pu_eqT, pu_eqF, pu_eqO, pu_eqO2, pu_ltO, pu_leO, pu_subO, pu_subOF, pu_subT, pu_subF, pu_oobF, pu_clamp, pu_add, pu_sub, pu_mul, pu_and, pu_or, pu_xor, pu_xorO, pu_shl, pu_shr, pu_ushr, pu_nb0, pu_nb1, pu_ob1, pu_ob2, pu_ob3, pu_ob4, pu_nw, pu_n1, pu_n7, pu_n31, pu_n255, pu_md, pu_one, pu_sI1, pu_sI2, pu_sA1, pu_sA21, pu_sA222, pu_sAe, pu_sAn, pu_sJ1, pu_sJ21, pu_sJ221, pu_sF1, pu_sF21, pu_sF222, pu_sFe, pu_sFn, pu_upe, pu_upn, Nat.reduceAdd, Nat.reduceSub, Nat.reduceMul, Nat.reduceMod, Nat.reduceAnd, Nat.reducePow, Nat.reduceEqDiff, Nat.add_zero, Nat.zero_add, Bool.false_eq_true, e6, h2], CS.rf hS⟩
  · exact ⟨sI S 6 (nI (V 44 &&& (2 ^ t ^^^ 4294967295))), by simp (disch := omega) only [↓pu_m1, pu_lit, ↓reduceIte, pu_leT, pu_leF, pu_ltT, pu_ltF, pu_eqT, pu_eqF, pu_eqO, pu_eqO2, pu_ltO, pu_leO, pu_subO, pu_subOF, pu_subT, pu_subF, pu_oobF, pu_clamp, pu_add, pu_sub, pu_mul, pu_and, pu_or, pu_xor, pu_xorO, pu_shl, pu_shr, pu_ushr, pu_nb0, pu_nb1, pu_ob1, pu_ob2, pu_ob3, pu_ob4, pu_nw, pu_n1, pu_n7, pu_n31, pu_n255, pu_md, pu_one, pu_sI1, pu_sI2, pu_sA1, pu_sA21, pu_sA222, pu_sAe, pu_sAn, pu_sJ1, pu_sJ21, pu_sJ221, pu_sF1, pu_sF21, pu_sF222, pu_sFe, pu_sFn, pu_upe, pu_upn, Nat.reduceAdd, Nat.reduceSub, Nat.reduceMul, Nat.reduceMod, Nat.reduceAnd, Nat.reducePow, Nat.reduceEqDiff, Nat.add_zero, Nat.zero_add, Bool.false_eq_true, e6, h2], RS_wall hS w0 w1, rfl⟩
/-! days -/
def dyA (V : Vt) : Nat → Vt
  | 0 => V
  | t + 1 => up (dyA V t) (45 + t) ((V (45 + t) + V 23 / 2 ^ t % 2) % 8)
def dyV (V : Vt) : Vt := up (dyA V (V 0)) 42 (V 42 + 1)
theorem dyA_out (V : Vt) : ∀ t j, (j < 45 ∨ 45 + t ≤ j) → dyA V t j = V j := by
  intro t
  induction t with
  | zero => intro j _; rfl
  | succ t ih => intro j hj; simp only [dyA]; rw [pu_upn (by omega)]; exact ih j (by omega)
theorem dyA_WF (hw : WF V) : ∀ t, t ≤ V 0 → WF (dyA V t) := by
  intro t
  induction t with
  | zero => intro _; exact hw
  | succ t ih =>
    intro ht
    exact WF_45 (ih (by omega)) (by rw [dyA_out V t 0 (by omega)]; omega) (Nat.mod_lt _ (by omega))
theorem dyV_WF (hw : WF V) (h : V 42 < 400) : WF (dyV V) := WF_42 (dyA_WF hw (V 0) (Nat.le_refl _)) (by omega)
theorem dyV_SV : SV V (dyV V) := fun j hj => by unfold dyV; rw [pu_upn (by omega)]; exact dyA_out V (V 0) j (by omega)
theorem dyV_42 : dyV V 42 = V 42 + 1 := pu_upe _ _ _
theorem x8_passDay (hS : RS S V) (hw : WF V) : ∃ S', F_X8_passDay S = some S' ∧ CS S S' (dyV V) := by
  have w0 := hw.1
  have w1 := hw.2.1
  have w23 := hw.2.2.1
  have w45 := hw.2.2.2.2.2.2.1
  unfold F_X8_passDay L_X8_passDay_2
  have key := lp_inv (body := fun kz z => F_X8_passDay_2 kz z.1 z.2) (fun i z => ∃ S', z = (nI i, S') ∧ CS S S' (dyA V i)) (V 0) (fun o => CS S o (dyV V)) (fun i hi z hz => ?_) (fun z hz => ?_) (x0 := (nI 0, S)) ⟨S, rfl, CS.rf hS⟩ (pu_FU (by omega : V 0 < 1000000))
  · obtain ⟨o, h1, h2⟩ := key
    exact ⟨o, h2, h1⟩
  · obtain ⟨S', rfl, hC⟩ := hz
    have hR := hC.1
    have e0 := hR.1
    have e5 := hR.2.2.1
    have f3 := hR.2.2.2.2.2.2.1
    rw [dyA_out V i 0 (by omega)] at e0 f3
    rw [dyA_out V i 23 (by omega)] at e5
    have g := f3 i hi
    rw [dyA_out V i (45 + i) (by omega)] at g
    have h45 := w45 i hi
    have k0 : dyA V i 0 ≤ 7 := by rw [dyA_out V i 0 (by omega)]; exact w0
    have k1 : dyA V i 1 ≤ 6 := by rw [dyA_out V i 1 (by omega)]; exact w1
    have k2 : i < dyA V i 0 := by rw [dyA_out V i 0 (by omega)]; exact hi
    rcases Nat.mod_two_eq_zero_or_one (V 23 / 2 ^ i) with h | h
    · refine ⟨(nI (i + 1), S'), ⟨S', rfl, ?_⟩, fun k => ?_⟩
      · simp only [dyA]
        rw [h, Nat.add_zero, Nat.mod_eq_of_lt h45]
        have : up (dyA V i) (45 + i) (V (45 + i)) = dyA V i := by
          funext j
          by_cases e : j = 45 + i
          · subst e; rw [pu_upe, dyA_out V i _ (by omega)]
          · rw [pu_upn e]
        rw [this]
        exact hC
      · show F_X8_passDay_2 k (nI i) S' = _
        unfold F_X8_passDay_2 F_X8_passDay_39
        simp (disch := omega) only [↓pu_m1, pu_lit, ↓reduceIte, pu_leT, pu_leF, pu_ltT, pu_ltF, pu_eqT, pu_eqF, pu_eqO, pu_eqO2, pu_ltO, pu_leO, pu_subO, pu_subOF, pu_subT, pu_subF, pu_oobF, pu_clamp, pu_add, pu_sub, pu_mul, pu_and, pu_or, pu_xor, pu_xorO, pu_shl, pu_shr, pu_ushr, pu_nb0, pu_nb1, pu_ob1, pu_ob2, pu_ob3, pu_ob4, pu_nw, pu_n1, pu_n7, pu_n31, pu_n255, pu_md, pu_one, pu_sI1, pu_sI2, pu_sA1, pu_sA21, pu_sA222, pu_sAe, pu_sAn, pu_sJ1, pu_sJ21, pu_sJ221, pu_sF1, pu_sF21, pu_sF222, pu_sFe, pu_sFn, pu_upe, pu_upn, Nat.reduceAdd, Nat.reduceSub, Nat.reduceMul, Nat.reduceMod, Nat.reduceAnd, Nat.reducePow, Nat.reduceEqDiff, Nat.add_zero, Nat.zero_add, Bool.false_eq_true, e0, e5, g, h]
    · refine ⟨(nI (i + 1), sA S' 3 (nI i) (nI ((V (45 + i) + 1) % 8))), ⟨_, rfl, ?_⟩, fun k => ?_⟩
      · simp only [dyA]
        rw [h]
        exact hC.tr ⟨RS_3 hR k0 k1 k2, rfl⟩
      · show F_X8_passDay_2 k (nI i) S' = _
        unfold F_X8_passDay_2 F_X8_passDay_39 F_X11_allRound
        simp (disch := omega) only [↓pu_m1, pu_lit, ↓reduceIte, pu_leT, pu_leF, pu_ltT, pu_ltF, pu_eqT, pu_eqF, pu_eqO, pu_eqO2, pu_ltO, pu_leO, pu_subO, pu_subOF, pu_subT, pu_subF, pu_oobF, pu_clamp, pu_add, pu_sub, pu_mul, pu_and, pu_or, pu_xor, pu_xorO, pu_shl, pu_shr, pu_ushr, pu_nb0, pu_nb1, pu_ob1, pu_ob2, pu_ob3, pu_ob4, pu_nw, pu_n1, pu_n7, pu_n31, pu_n255, pu_md, pu_one, pu_sI1, pu_sI2, pu_sA1, pu_sA21, pu_sA222, pu_sAe, pu_sAn, pu_sJ1, pu_sJ21, pu_sJ221, pu_sF1, pu_sF21, pu_sF222, pu_sFe, pu_sFn, pu_upe, pu_upn, Nat.reduceAdd, Nat.reduceSub, Nat.reduceMul, Nat.reduceMod, Nat.reduceAnd, Nat.reducePow, Nat.reduceEqDiff, Nat.add_zero, Nat.zero_add, Bool.false_eq_true, e0, e5, g, h]
  · obtain ⟨S', rfl, hC⟩ := hz
    have e0 := hC.1.1
    have e14 := hC.1.2.2.2.2.1
    rw [dyA_out V (V 0) 0 (by omega)] at e0
    rw [dyA_out V (V 0) 42 (by omega)] at e14
    refine ⟨sI S' 14 (nI (V 42 + 1)), hC.tr ⟨RS_day hC.1 ?_ ?_, rfl⟩, fun k => ?_⟩
    · rw [dyA_out V (V 0) 0 (by omega)]; exact w0
    · rw [dyA_out V (V 0) 1 (by omega)]; exact w1
    · show F_X8_passDay_2 k (nI (V 0)) S' = _
      unfold F_X8_passDay_2
      simp (disch := omega) only [↓pu_m1, pu_lit, ↓reduceIte, pu_leT, pu_leF, pu_ltT, pu_ltF, pu_eqT, pu_eqF, pu_eqO, pu_eqO2, pu_ltO, pu_leO, pu_subO, pu_subOF, pu_subT, pu_subF, pu_oobF, pu_clamp, pu_add, pu_sub, pu_mul, pu_and, pu_or, pu_xor, pu_xorO, pu_shl, pu_shr, pu_ushr, pu_nb0, pu_nb1, pu_ob1, pu_ob2, pu_ob3, pu_ob4, pu_nw, pu_n1, pu_n7, pu_n31, pu_n255, pu_md, pu_one, pu_sI1, pu_sI2, pu_sA1, pu_sA21, pu_sA222, pu_sAe, pu_sAn, pu_sJ1, pu_sJ21, pu_sJ221, pu_sF1, pu_sF21, pu_sF222, pu_sFe, pu_sFn, pu_upe, pu_upn, Nat.reduceAdd, Nat.reduceSub, Nat.reduceMul, Nat.reduceMod, Nat.reduceAnd, Nat.reducePow, Nat.reduceEqDiff, Nat.add_zero, Nat.zero_add, Bool.false_eq_true, e0, e14]
theorem x12_day (hM : RM M V) (hw : WF V) : ∃ M', F_X12_day M = some M' ∧ MS M M' (dyV V) := by
  have w0 := hw.1
  have w23 := hw.2.2.1
  have w45 := hw.2.2.2.2.2.2.1
  unfold F_X12_day L_X12_day_2
  have key := lp_inv (body := fun kz z => F_X12_day_2 kz z.1 z.2) (fun i z => ∃ M', z = (nI i, M') ∧ MS M M' (dyA V i)) (V 0) (fun o => MS M o (dyV V)) (fun i hi z hz => ?_) (fun z hz => ?_) (x0 := (nI 0, M)) ⟨M, rfl, MS.rf hM⟩ (pu_FU (by omega : V 0 < 1000000))
  · obtain ⟨o, h1, h2⟩ := key
    exact ⟨o, h2, h1⟩
  · obtain ⟨M', rfl, hC⟩ := hz
    have g0 := hC.2.1 0 (by omega)
    have g23 := hC.2.1 23 (by omega)
    have g := hC.2.1 (45 + i) (by omega)
    rw [dyA_out V i _ (by omega)] at g0 g23 g
    have h45 := w45 i hi
    refine ⟨(nI (i + 1), sA M' 6 (nI (45 + i)) (nI ((V (45 + i) + V 23 / 2 ^ i % 2) % 8))), ⟨_, rfl, hC.tr (MS.up hC.2.1 (by omega))⟩, fun k => ?_⟩
    show F_X12_day_2 k (nI i) M' = _
    unfold F_X12_day_2
    simp (disch := omega) only [↓pu_m1, pu_lit, ↓reduceIte, pu_leT, pu_leF, pu_ltT, pu_ltF, pu_eqT, pu_eqF, pu_eqO, pu_eqO2, pu_ltO, pu_leO, pu_subO, pu_subOF, pu_subT, pu_subF, pu_oobF, pu_clamp, pu_add, pu_sub, pu_mul, pu_and, pu_or, pu_xor, pu_xorO, pu_shl, pu_shr, pu_ushr, pu_nb0, pu_nb1, pu_ob1, pu_ob2, pu_ob3, pu_ob4, pu_nw, pu_n1, pu_n7, pu_n31, pu_n255, pu_md, pu_one, pu_sI1, pu_sI2, pu_sA1, pu_sA21, pu_sA222, pu_sAe, pu_sAn, pu_sJ1, pu_sJ21, pu_sJ221, pu_sF1, pu_sF21, pu_sF222, pu_sFe, pu_sFn, pu_upe, pu_upn, Nat.reduceAdd, Nat.reduceSub, Nat.reduceMul, Nat.reduceMod, Nat.reduceAnd, Nat.reducePow, Nat.reduceEqDiff, Nat.add_zero, Nat.zero_add, Bool.false_eq_true, g0, g23, g]
  · obtain ⟨M', rfl, hC⟩ := hz
    have g0 := hC.2.1 0 (by omega)
    have g42 := hC.2.1 42 (by omega)
    rw [dyA_out V (V 0) _ (by omega)] at g0 g42
    refine ⟨sA M' 6 (nI 42) (nI (V 42 + 1)), hC.tr (MS.up hC.2.1 (by omega)), fun k => ?_⟩
    show F_X12_day_2 k (nI (V 0)) M' = _
    unfold F_X12_day_2
    simp (disch := omega) only [↓pu_m1, pu_lit, ↓reduceIte, pu_leT, pu_leF, pu_ltT, pu_ltF, pu_eqT, pu_eqF, pu_eqO, pu_eqO2, pu_ltO, pu_leO, pu_subO, pu_subOF, pu_subT, pu_subF, pu_oobF, pu_clamp, pu_add, pu_sub, pu_mul, pu_and, pu_or, pu_xor, pu_xorO, pu_shl, pu_shr, pu_ushr, pu_nb0, pu_nb1, pu_ob1, pu_ob2, pu_ob3, pu_ob4, pu_nw, pu_n1, pu_n7, pu_n31, pu_n255, pu_md, pu_one, pu_sI1, pu_sI2, pu_sA1, pu_sA21, pu_sA222, pu_sAe, pu_sAn, pu_sJ1, pu_sJ21, pu_sJ221, pu_sF1, pu_sF21, pu_sF222, pu_sFe, pu_sFn, pu_upe, pu_upn, Nat.reduceAdd, Nat.reduceSub, Nat.reduceMul, Nat.reduceMod, Nat.reduceAnd, Nat.reducePow, Nat.reduceEqDiff, Nat.add_zero, Nat.zero_add, Bool.false_eq_true, g0, g42]
def dysV (V : Vt) : Nat → Vt
  | 0 => V
  | n + 1 => dyV (dysV V n)
theorem dys_42 (V : Vt) : ∀ n, dysV V n 42 = V 42 + n := by
  intro n
  induction n with
  | zero => rfl
  | succ n ih => simp only [dysV]; rw [dyV_42, ih]; omega
theorem dys_SV (V : Vt) : ∀ n, SV V (dysV V n) := by
  intro n
  induction n with
  | zero => exact SV.rf
  | succ n ih => exact ih.tr dyV_SV
theorem dys_WF (hw : WF V) : ∀ n, V 42 + n ≤ 400 → WF (dysV V n) := by
  intro n
  induction n with
  | zero => intro _; exact hw
  | succ n ih => intro h; exact dyV_WF (ih (by omega)) (by rw [dys_42]; omega)
theorem x8_passDays (hS : RS S V) (hw : WF V) {n : Nat} (hn : n ≤ 60) : ∃ S', F_X8_passDays S (nI n) = some (nI (min n (400 - V 42)), S') ∧ CS S S' (dysV V (min n (400 - V 42))) := by
  have w42 := hw.2.2.2.2.1
  have e14 := hS.2.2.2.2.1
  unfold F_X8_passDays F_X8_daysLeft L_X8_passDays_11
  have hm : (if (400 : Int32) - S.1 14 < nI n then (400 : Int32) - S.1 14 else nI n) = nI (min n (400 - V 42)) := by
    by_cases h : 400 - V 42 < n
    · rw [Nat.min_eq_right (by omega)]
      simp (disch := omega) only [↓pu_m1, pu_lit, ↓reduceIte, pu_leT, pu_leF, pu_ltT, pu_ltF, pu_eqT, pu_eqF, pu_eqO, pu_eqO2, pu_ltO, pu_leO, pu_subO, pu_subOF, pu_subT, pu_subF, pu_oobF, pu_clamp, pu_add, pu_sub, pu_mul, pu_and, pu_or, pu_xor, pu_xorO, pu_shl, pu_shr, pu_ushr, pu_nb0, pu_nb1, pu_ob1, pu_ob2, pu_ob3, pu_ob4, pu_nw, pu_n1, pu_n7, pu_n31, pu_n255, pu_md, pu_one, pu_sI1, pu_sI2, pu_sA1, pu_sA21, pu_sA222, pu_sAe, pu_sAn, pu_sJ1, pu_sJ21, pu_sJ221, pu_sF1, pu_sF21, pu_sF222, pu_sFe, pu_sFn, pu_upe, pu_upn, Nat.reduceAdd, Nat.reduceSub, Nat.reduceMul, Nat.reduceMod, Nat.reduceAnd, Nat.reducePow, Nat.reduceEqDiff, Nat.add_zero, Nat.zero_add, Bool.false_eq_true, e14]
    · rw [Nat.min_eq_left (by omega)]
      simp (disch := omega) only [↓pu_m1, pu_lit, ↓reduceIte, pu_leT, pu_leF, pu_ltT, pu_ltF, pu_eqT, pu_eqF, pu_eqO, pu_eqO2, pu_ltO, pu_leO, pu_subO, pu_subOF, pu_subT, pu_subF, pu_oobF, pu_clamp, pu_add, pu_sub, pu_mul, pu_and, pu_or, pu_xor, pu_xorO, pu_shl, pu_shr, pu_ushr, pu_nb0, pu_nb1, pu_ob1, pu_ob2, pu_ob3, pu_ob4, pu_nw, pu_n1, pu_n7, pu_n31, pu_n255, pu_md, pu_one, pu_sI1, pu_sI2, pu_sA1, pu_sA21, pu_sA222, pu_sAe, pu_sAn, pu_sJ1, pu_sJ21, pu_sJ221, pu_sF1, pu_sF21, pu_sF222, pu_sFe, pu_sFn, pu_upe, pu_upn, Nat.reduceAdd, Nat.reduceSub, Nat.reduceMul, Nat.reduceMod, Nat.reduceAnd, Nat.reducePow, Nat.reduceEqDiff, Nat.add_zero, Nat.zero_add, Bool.false_eq_true, e14]
  rw [pu_ob1, hm]
  have hmm : V 42 + min n (400 - V 42) ≤ 400 := by omega
  have hm6 : min n (400 - V 42) ≤ 60 := by omega
  generalize min n (400 - V 42) = g at hmm hm6 ⊢
  have key := lp_inv (body := fun kz z => F_X8_passDays_11 kz z.1 z.2.1 z.2.2) (fun i z => ∃ S', z = (nI g, nI i, S') ∧ CS S S' (dysV V i)) g (fun o => o.1 = nI g ∧ CS S o.2 (dysV V g)) (fun i hi z hz => ?_) (fun z hz => ?_) (x0 := (nI g, nI 0, S)) ⟨S, rfl, CS.rf hS⟩ (pu_FU (by omega : g < 1000000))
  · obtain ⟨o, ⟨h1, h3⟩, h2⟩ := key
    exact ⟨o.2, h2.trans (by rw [← h1]), h3⟩
  · obtain ⟨S', rfl, hC⟩ := hz
    obtain ⟨S2, h1, h2⟩ := x8_passDay hC.1 (dys_WF hw i (by omega))
    refine ⟨(nI g, nI (i + 1), S2), ⟨S2, rfl, hC.tr h2⟩, fun k => ?_⟩
    show F_X8_passDays_11 k (nI g) (nI i) S' = _
    unfold F_X8_passDays_11
    simp (disch := omega) only [↓pu_m1, pu_lit, ↓reduceIte, pu_leT, pu_leF, pu_ltT, pu_ltF, pu_eqT, pu_eqF, pu_eqO, pu_eqO2, pu_ltO, pu_leO, pu_subO, pu_subOF, pu_subT, pu_subF, pu_oobF, pu_clamp, pu_add, pu_sub, pu_mul, pu_and, pu_or, pu_xor, pu_xorO, pu_shl, pu_shr, pu_ushr, pu_nb0, pu_nb1, pu_ob1, pu_ob2, pu_ob3, pu_ob4, pu_nw, pu_n1, pu_n7, pu_n31, pu_n255, pu_md, pu_one, pu_sI1, pu_sI2, pu_sA1, pu_sA21, pu_sA222, pu_sAe, pu_sAn, pu_sJ1, pu_sJ21, pu_sJ221, pu_sF1, pu_sF21, pu_sF222, pu_sFe, pu_sFn, pu_upe, pu_upn, Nat.reduceAdd, Nat.reduceSub, Nat.reduceMul, Nat.reduceMod, Nat.reduceAnd, Nat.reducePow, Nat.reduceEqDiff, Nat.add_zero, Nat.zero_add, Bool.false_eq_true, h1]
  · obtain ⟨S', rfl, hC⟩ := hz
    refine ⟨(nI g, S'), ⟨rfl, hC⟩, fun k => ?_⟩
    show F_X8_passDays_11 k (nI g) (nI g) S' = _
    unfold F_X8_passDays_11
    simp (disch := omega) only [↓pu_m1, pu_lit, ↓reduceIte, pu_leT, pu_leF, pu_ltT, pu_ltF, pu_eqT, pu_eqF, pu_eqO, pu_eqO2, pu_ltO, pu_leO, pu_subO, pu_subOF, pu_subT, pu_subF, pu_oobF, pu_clamp, pu_add, pu_sub, pu_mul, pu_and, pu_or, pu_xor, pu_xorO, pu_shl, pu_shr, pu_ushr, pu_nb0, pu_nb1, pu_ob1, pu_ob2, pu_ob3, pu_ob4, pu_nw, pu_n1, pu_n7, pu_n31, pu_n255, pu_md, pu_one, pu_sI1, pu_sI2, pu_sA1, pu_sA21, pu_sA222, pu_sAe, pu_sAn, pu_sJ1, pu_sJ21, pu_sJ221, pu_sF1, pu_sF21, pu_sF222, pu_sFe, pu_sFn, pu_upe, pu_upn, Nat.reduceAdd, Nat.reduceSub, Nat.reduceMul, Nat.reduceMod, Nat.reduceAnd, Nat.reducePow, Nat.reduceEqDiff, Nat.add_zero, Nat.zero_add, Bool.false_eq_true]
theorem x12_goesOn (hM : RM M V) (hw : WF V) {n : Nat} (hn : n ≤ 60) : ∃ M', F_X12_goesOn M (nI n) = some (nI (min n (400 - V 42)), M') ∧ MS M M' (dysV V (min n (400 - V 42))) := by
  have w42 := hw.2.2.2.2.1
  unfold F_X12_goesOn L_X12_goesOn_2
  have hmm : V 42 + min n (400 - V 42) ≤ 400 := by omega
  have hm6 : min n (400 - V 42) ≤ n := by omega
  have hm7 : min n (400 - V 42) = n ∨ V 42 + min n (400 - V 42) = 400 := by omega
  generalize min n (400 - V 42) = g at hmm hm6 hm7 ⊢
  have key := lp_inv (body := fun kz z => F_X12_goesOn_2 kz z.1 z.2.1 z.2.2) (fun i z => ∃ M', z = (nI n, nI i, M') ∧ MS M M' (dysV V i)) g (fun o => o.1 = nI g ∧ MS M o.2 (dysV V g)) (fun i hi z hz => ?_) (fun z hz => ?_) (x0 := (nI n, nI 0, M)) ⟨M, rfl, MS.rf hM⟩ (pu_FU (by omega : g < 1000000))
  · obtain ⟨o, ⟨h1, h3⟩, h2⟩ := key
    exact ⟨o.2, h2.trans (by rw [← h1]), h3⟩
  · obtain ⟨M', rfl, hC⟩ := hz
    obtain ⟨M2, h1, h2⟩ := x12_day hC.2.1 (dys_WF hw i (by omega))
    have g42 := hC.2.1 42 (by omega)
    rw [dys_42] at g42
    refine ⟨(nI n, nI (i + 1), M2), ⟨M2, rfl, hC.tr h2⟩, fun k => ?_⟩
    show F_X12_goesOn_2 k (nI n) (nI i) M' = _
    unfold F_X12_goesOn_2
    simp (disch := omega) only [↓pu_m1, pu_lit, ↓reduceIte, pu_leT, pu_leF, pu_ltT, pu_ltF, pu_eqT, pu_eqF, pu_eqO, pu_eqO2, pu_ltO, pu_leO, pu_subO, pu_subOF, pu_subT, pu_subF, pu_oobF, pu_clamp, pu_add, pu_sub, pu_mul, pu_and, pu_or, pu_xor, pu_xorO, pu_shl, pu_shr, pu_ushr, pu_nb0, pu_nb1, pu_ob1, pu_ob2, pu_ob3, pu_ob4, pu_nw, pu_n1, pu_n7, pu_n31, pu_n255, pu_md, pu_one, pu_sI1, pu_sI2, pu_sA1, pu_sA21, pu_sA222, pu_sAe, pu_sAn, pu_sJ1, pu_sJ21, pu_sJ221, pu_sF1, pu_sF21, pu_sF222, pu_sFe, pu_sFn, pu_upe, pu_upn, Nat.reduceAdd, Nat.reduceSub, Nat.reduceMul, Nat.reduceMod, Nat.reduceAnd, Nat.reducePow, Nat.reduceEqDiff, Nat.add_zero, Nat.zero_add, Bool.false_eq_true, g42, h1]
  · obtain ⟨M', rfl, hC⟩ := hz
    have g42 := hC.2.1 42 (by omega)
    rw [dys_42] at g42
    refine ⟨(nI g, M'), ⟨rfl, hC⟩, fun k => ?_⟩
    show F_X12_goesOn_2 k (nI n) (nI g) M' = _
    unfold F_X12_goesOn_2
    rcases hm7 with h | h
    · simp (disch := omega) only [↓pu_m1, pu_lit, ↓reduceIte, pu_leT, pu_leF, pu_ltT, pu_ltF, pu_eqT, pu_eqF, pu_eqO, pu_eqO2, pu_ltO, pu_leO, pu_subO, pu_subOF, pu_subT, pu_subF, pu_oobF, pu_clamp, pu_add, pu_sub, pu_mul, pu_and, pu_or, pu_xor, pu_xorO, pu_shl, pu_shr, pu_ushr, pu_nb0, pu_nb1, pu_ob1, pu_ob2, pu_ob3, pu_ob4, pu_nw, pu_n1, pu_n7, pu_n31, pu_n255, pu_md, pu_one, pu_sI1, pu_sI2, pu_sA1, pu_sA21, pu_sA222, pu_sAe, pu_sAn, pu_sJ1, pu_sJ21, pu_sJ221, pu_sF1, pu_sF21, pu_sF222, pu_sFe, pu_sFn, pu_upe, pu_upn, Nat.reduceAdd, Nat.reduceSub, Nat.reduceMul, Nat.reduceMod, Nat.reduceAnd, Nat.reducePow, Nat.reduceEqDiff, Nat.add_zero, Nat.zero_add, Bool.false_eq_true, g42, h]
    · by_cases h2 : g = n
      · simp (disch := omega) only [↓pu_m1, pu_lit, ↓reduceIte, pu_leT, pu_leF, pu_ltT, pu_ltF, pu_eqT, pu_eqF, pu_eqO, pu_eqO2, pu_ltO, pu_leO, pu_subO, pu_subOF, pu_subT, pu_subF, pu_oobF, pu_clamp, pu_add, pu_sub, pu_mul, pu_and, pu_or, pu_xor, pu_xorO, pu_shl, pu_shr, pu_ushr, pu_nb0, pu_nb1, pu_ob1, pu_ob2, pu_ob3, pu_ob4, pu_nw, pu_n1, pu_n7, pu_n31, pu_n255, pu_md, pu_one, pu_sI1, pu_sI2, pu_sA1, pu_sA21, pu_sA222, pu_sAe, pu_sAn, pu_sJ1, pu_sJ21, pu_sJ221, pu_sF1, pu_sF21, pu_sF222, pu_sFe, pu_sFn, pu_upe, pu_upn, Nat.reduceAdd, Nat.reduceSub, Nat.reduceMul, Nat.reduceMod, Nat.reduceAnd, Nat.reducePow, Nat.reduceEqDiff, Nat.add_zero, Nat.zero_add, Bool.false_eq_true, g42, h2]
      · simp (disch := omega) only [↓pu_m1, pu_lit, ↓reduceIte, pu_leT, pu_leF, pu_ltT, pu_ltF, pu_eqT, pu_eqF, pu_eqO, pu_eqO2, pu_ltO, pu_leO, pu_subO, pu_subOF, pu_subT, pu_subF, pu_oobF, pu_clamp, pu_add, pu_sub, pu_mul, pu_and, pu_or, pu_xor, pu_xorO, pu_shl, pu_shr, pu_ushr, pu_nb0, pu_nb1, pu_ob1, pu_ob2, pu_ob3, pu_ob4, pu_nw, pu_n1, pu_n7, pu_n31, pu_n255, pu_md, pu_one, pu_sI1, pu_sI2, pu_sA1, pu_sA21, pu_sA222, pu_sAe, pu_sAn, pu_sJ1, pu_sJ21, pu_sJ221, pu_sF1, pu_sF21, pu_sF222, pu_sFe, pu_sFn, pu_upe, pu_upn, Nat.reduceAdd, Nat.reduceSub, Nat.reduceMul, Nat.reduceMod, Nat.reduceAnd, Nat.reducePow, Nat.reduceEqDiff, Nat.add_zero, Nat.zero_add, Bool.false_eq_true, g42, h]
end P5
