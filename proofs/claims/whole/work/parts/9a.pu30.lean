/-! minds and lines, in step -/
section P30
variable {R M S P : St} {V : Vt} {k : Nat}
theorem rd_newView {x : Nat} (h : OKs R M k) (hW : MW M) (hx : x < 256) : (∃ v, v < 8 ∧ (x / 2 ^ v % 2 = 0 ∧ x / 2 ^ (v ^^^ 4) % 2 = 0) ∧ F_X5_needNewView R (nI x) = some (nI v, sI R 6 (nI (k + 1))) ∧ F_X12_isOneOf M (nI 5) (nI 8) = some (nI 1, sI M 18 (nI v)) ∧ R.2.2.1 3 k ≠ nI 40) ∨ (∃ v R' M', v < 8 ∧ ¬ (x / 2 ^ v % 2 = 0 ∧ x / 2 ^ (v ^^^ 4) % 2 = 0) ∧ F_X5_needNewView R (nI x) = some (nO, R') ∧ F_X12_isOneOf M (nI 5) (nI 8) = some (nI 1, sI M 18 (nI v)) ∧ F_X12_bad (sI M 18 (nI v)) (nI 3) = some (nI 0, M') ∧ FLT R' M' ∧ FR [15, 16] [] [] (sI M 18 (nI v)) M') ∨ (∃ R' M', F_X5_needNewView R (nI x) = some (nO, R') ∧ F_X12_isOneOf M (nI 5) (nI 8) = some (nI 0, M') ∧ FLT R' M' ∧ FR [15, 16, 18] [] [] M M') := by
  have hk := ok_k h
  have h6 := h.2.1
  have o9 := no_oob (i := k) (n := 901) (by omega) (by omega)
  unfold F_X5_needNewView
  rcases rd_from (fr := 5) (fi := 9) (m := 8) h hW (by omega) (by omega) (by omega) pm_view with ⟨v, hv, a1, a2, a3, a4⟩ | ⟨a1, R', M', a2, a3, a4, a5⟩
  · obtain ⟨u1, u2, u3, u4, u5⟩ := view_tab x hx v hv
    have a1' : F_X5_isWordFrom R 9 8 = some (nI 1) := a1
    have hvo : ¬ nI v = (-1 : Int32) := by rw [show (-1 : Int32) = nO from rfl, pu_eqO (by omega)]; exact id
    have hw : F_X5_needWordFrom R 9 8 = some (nI v, sI R 6 (nI (k + 1))) := by
      have hc := rd_nextC h a4
      unfold F_X5_needWordFrom
      rw [a1', pu_ob1N, if_neg one_ne, h6, if_neg o9, pu_clamp (by omega), a2, show nI (9 + v) - (9 : Int32) = nI v from by rw [show (9 : Int32) = nI 9 from rfl, pu_sub (by omega), Nat.add_sub_cancel_left], pu_nwN, hc, pu_ob1N]
    have hop : F_X11_opposite (nI v) = some (nI ((v + 4) % 8)) := by
      unfold F_X11_opposite
      simp (disch := omega) only [↓pu_m1, pu_lit, ↓reduceIte, pu_leT, pu_leF, pu_ltT, pu_ltF, pu_eqT, pu_eqF, pu_eqO, pu_eqO2, pu_ltO, pu_leO, pu_subO, pu_subOF, pu_subT, pu_subF, pu_oobF, pu_clamp, pu_add, pu_sub, pu_mul, pu_and, pu_or, pu_xor, pu_xorO, pu_shl, pu_shr, pu_ushr, pu_nb0, pu_nb1, pu_ob1N, pu_ob2N, pu_ob3N, pu_ob4N, pu_nwN, pu_n1, pu_n7, pu_n31, pu_n255, pu_md, pu_one, pu_sI1, pu_sI2, pu_sA1, pu_sA21, pu_sA222, pu_sAe, pu_sAn, pu_sJ1, pu_sJ21, pu_sJ221, pu_sF1, pu_sF21, pu_sF222, pu_sFe, pu_sFn, pu_upe, pu_upn, Nat.reduceAdd, Nat.reduceSub, Nat.reduceMul, Nat.reduceMod, Nat.reduceAnd, Nat.reducePow, Nat.reduceEqDiff, Nat.add_zero, Nat.zero_add, Bool.false_eq_true, Nat.add_sub_cancel]
    have hmask : nI x &&& (((1 : Int32) <<< (nI v &&& 31)) ||| ((1 : Int32) <<< (nI ((v + 4) % 8) &&& 31))) = nI (x &&& (2 ^ v ||| 2 ^ ((v + 4) % 8))) := by
      have : (v + 4) % 8 < 8 := Nat.mod_lt _ (by omega)
      generalize (v + 4) % 8 = o at *
      simp (disch := omega) only [↓pu_m1, pu_lit, ↓reduceIte, pu_leT, pu_leF, pu_ltT, pu_ltF, pu_eqT, pu_eqF, pu_eqO, pu_eqO2, pu_ltO, pu_leO, pu_subO, pu_subOF, pu_subT, pu_subF, pu_oobF, pu_clamp, pu_add, pu_sub, pu_mul, pu_and, pu_or, pu_xor, pu_xorO, pu_shl, pu_shr, pu_ushr, pu_nb0, pu_nb1, pu_ob1N, pu_ob2N, pu_ob3N, pu_ob4N, pu_nwN, pu_n1, pu_n7, pu_n31, pu_n255, pu_md, pu_one, pu_sI1, pu_sI2, pu_sA1, pu_sA21, pu_sA222, pu_sAe, pu_sAn, pu_sJ1, pu_sJ21, pu_sJ221, pu_sF1, pu_sF21, pu_sF222, pu_sFe, pu_sFn, pu_upe, pu_upn, Nat.reduceAdd, Nat.reduceSub, Nat.reduceMul, Nat.reduceMod, Nat.reduceAnd, Nat.reducePow, Nat.reduceEqDiff, Nat.add_zero, Nat.zero_add, Bool.false_eq_true, Nat.add_sub_cancel]
    rw [a1', pu_ob1N, if_neg one_ne, h6, if_neg o9, pu_clamp (by omega), a2, show nI (9 + v) - (9 : Int32) = nI v from by rw [show (9 : Int32) = nI 9 from rfl, pu_sub (by omega), Nat.add_sub_cancel_left]]
    unfold F_X5_needNewView_27
    rw [if_neg hvo, hop, pu_ob1N, hmask]
    by_cases hc : x &&& (2 ^ v ||| 2 ^ ((v + 4) % 8)) = 0
    · left
      refine ⟨v, hv, u1.mp hc, ?_, a3, by first | exact a4 | (rw [← a2]; exact a4)⟩
      rw [hc, if_pos zero_eq]
      unfold F_X5_needNewView_55
      rw [hw, pu_ob2N]
    · right; left
      obtain ⟨R', M', c1, c2, c3, c4⟩ := rd_fail (f := 3) (ok_sI (f := 18) (v := nI v) h (by omega)) (by omega) (by omega)
      refine ⟨v, R', M', hv, fun hh => hc (u1.mpr hh), ?_, a3, c2, c3, c4⟩
      rw [if_neg (nI_ne0 (by omega) (by omega)), show (3 : Int32) = nI 3 from rfl, c1, pu_ob1N]
      rfl
  · right; right
    have a1' : F_X5_isWordFrom R 9 8 = some (nI 0) := a1
    refine ⟨R', M', ?_, a3, a4, a5⟩
    rw [a1', pu_ob1N, if_pos zero_eq]
    unfold F_X5_needNewView_27 F_X5_needNewView_55 F_X5_needWordFrom
    rw [if_pos rfl, a1', pu_ob1N, if_pos zero_eq, show (1 : Int32) = nI 1 from rfl, a2, pu_ob1N, pu_ob2N]
    rfl
theorem rd_mind9 (h : OKs R M k) (hW : MW M) (hS : SUB S M V) (hne : R.2.2.1 3 k ≠ nI 40) : ∃ S' R' M' V' k' r, F_X8_readView_have S (sI R 6 (nI (k + 1))) = some (S', R') ∧ F_X12_readMind M (nI 30) = some (r, M') ∧ RES S' R' M M' V' k k' r := by
  have hS' := hS
  obtain ⟨s0, s7, s5, s6, s14, v0, v1, v23, sm, st, sp, sz⟩ := hS
  obtain ⟨M1, b1, b2, b3⟩ := rd_step h hne
  generalize sI R 6 (nI (k + 1)) = R1 at b2 ⊢
  have hW1 := MW_fr hW b3 (by decide)
  have g1 : M1.2.2.1 7 1 = nI (V 1) := by rw [b3.2.1 7 (by decide)]; exact sm 1 (by omega)
  have o42 : ¬ oob (1 : Int32) 42 := no_oob (i := 1) (by omega) (by omega)
  have z1 : (1 : Int32).toNatClampNeg = 1 := by decide
  unfold F_X8_readView_have F_X12_readMind
  rw [b1, pu_ob1N, if_neg o42]
  simp only [z1]
  rw [g1]
  rcases rd_lookP (c := V 1) (fr := 20) (S := S) b2 hW1 s7 v1 (by omega) (fun t ht => by rw [b3.2.2 9 (by decide)]; exact (sp t ht).2.2.2.2.2.2.2.2.2) with ⟨p, hp, c0, c1, c2, c3⟩ | ⟨R2, M2, c0, c1, c2, c3, c4⟩
  · obtain ⟨y1, y2, y3, y4, y5, -⟩ := sp p hp
    obtain ⟨M2, d1, d2, d3⟩ := rd_step (ok_sI (f := 18) (v := nI p) b2 (by omega)) c3
    generalize sI R1 6 (nI (k + 1 + 1)) = R2 at c1 d2
    have hF2 : FR [4, 11, 12, 13, 14, 18] [7] [9] M M2 := ((b3.mono (by decide) (by decide) (by decide)).tr (FR.sI (by decide))).tr (d3.mono (by decide) (by decide) (by decide))
    have hW2 := MW_fr hW hF2 (by decide)
    have e18 : M2.1 18 = nI p := by rw [d3.1 18 (by decide)]; rfl
    have hN2 : ∀ j, M2.2.2.2 9 j = M.2.2.2 9 j := fun j => by rw [d3.2.2 9 (by decide)]; show M1.2.2.2 9 j = _; rw [b3.2.2 9 (by decide)]
    have r72 : ∀ j, j < 42 → M2.2.2.1 7 j = nI (V j) := fun j hj => by rw [d3.2.1 7 (by decide)]; show M1.2.2.1 7 j = _; rw [b3.2.1 7 (by decide)]; exact sm j hj
    have htn : F_X12_takesName M1 20 (nI (V 1)) = some (nI 1, M2) := by
      have c2 : F_X12_looksAt M1 20 (nI (V 1)) = some (nI 1, sI M1 18 (nI p)) := c2
      unfold F_X12_takesName
      rw [c2, pu_ob2N, if_neg one_ne, d1, pu_ob1N]
      rfl
    have hpo : ¬ nI p = (-1 : Int32) := by rw [show (-1 : Int32) = nO from rfl, pu_eqO (by omega)]; exact id
    rw [c1, pu_ob2N, if_neg hpo, if_neg (no_oob (by omega : p < 6) (by omega)), pu_clamp (by omega), y1, htn, pu_ob2N, if_neg one_ne]
    unfold F_X8_readView_have_19
    rcases rd_newView (x := V (30 + p)) d2 hW2 y2 with ⟨v, hv, n1, n2, n3, n4⟩ | ⟨v, R3, M3, hv, n1, n2, n3, n4, n5, n6⟩ | ⟨R3, M3, n2, n3, n5, n6⟩
    · obtain ⟨u1, u2, u3, u4, u5⟩ := view_tab _ y2 v hv
      have hvo : ¬ nI v = (-1 : Int32) := by rw [show (-1 : Int32) = nO from rfl, pu_eqO (by omega)]; exact id
      have hsh : (1 : Int32) <<< (nI v &&& 31) = nI (2 ^ v) := by simp (disch := omega) only [↓pu_m1, pu_lit, ↓reduceIte, pu_leT, pu_leF, pu_ltT, pu_ltF, pu_eqT, pu_eqF, pu_eqO, pu_eqO2, pu_ltO, pu_leO, pu_subO, pu_subOF, pu_subT, pu_subF, pu_oobF, pu_clamp, pu_add, pu_sub, pu_mul, pu_and, pu_or, pu_xor, pu_xorO, pu_shl, pu_shr, pu_ushr, pu_nb0, pu_nb1, pu_ob1N, pu_ob2N, pu_ob3N, pu_ob4N, pu_nwN, pu_n1, pu_n7, pu_n31, pu_n255, pu_md, pu_one, pu_sI1, pu_sI2, pu_sA1, pu_sA21, pu_sA222, pu_sAe, pu_sAn, pu_sJ1, pu_sJ21, pu_sJ221, pu_sF1, pu_sF21, pu_sF222, pu_sFe, pu_sFn, pu_upe, pu_upn, Nat.reduceAdd, Nat.reduceSub, Nat.reduceMul, Nat.reduceMod, Nat.reduceAnd, Nat.reducePow, Nat.reduceEqDiff, Nat.add_zero, Nat.zero_add, Bool.false_eq_true, Nat.add_sub_cancel]
      have g30 := r72 (30 + p) (by omega)
      have hb1 := x12_bit (x := V (30 + p)) (v := v) (by omega) (by omega)
      have hb2 := x12_bit (x := V (30 + p)) (v := v ^^^ 4) (by omega) (by omega)
      rw [n1.1] at hb1
      rw [n1.2] at hb2
      have hO3 := ok_sA (f := 7) (i := nI (30 + p)) (v := nI (V (30 + p) ||| 2 ^ v)) (ok_sI (f := 18) (v := nI v) d2 (by omega)) (by omega)
      obtain ⟨M4, k1, k2, k3⟩ := rd_step hO3 n4
      generalize sI R2 6 (nI (k + 1 + 1 + 1)) = R3 at n2 k2
      have hF4 : FR [4, 11, 12, 13, 14, 18] [7] [9] M M4 := ((hF2.tr (FR.sI (by decide))).tr (FR.sA (by decide))).tr (k3.mono (by decide) (by decide) (by decide))
      refine ⟨sA S 9 (nI p) (nI (V (30 + p) ||| 2 ^ v)), R3, M4, up V (30 + p) (V (30 + p) ||| 2 ^ v), k + 1 + 1 + 1, nI 1, ?_, ?_, hF4.mono (by decide) (by decide) (by decide), fun j hj => ?_, Or.inl ⟨rfl, k2, SUB_mind (fld := 9) (row := 30) hS' (by omega) hp u2 (fun e => ?_) (fun j hj => ?_) (fun j => ?_), hF4.1 15 (by decide), by omega⟩⟩
      · rw [n2, pu_ob2N, if_neg hpo, if_neg hvo, if_neg (no_oob (by omega : p < 6) (by omega)), if_neg (no_oob (by omega : p < 6) (by omega)), pu_clamp (by omega), y1, hsh, pu_or, pu_nwN]
      · have n3 : F_X12_isOneOf M2 5 8 = some (nI 1, sI M2 18 (nI v)) := n3
        have gU : (sI M2 18 (nI v)).2.2.1 7 (30 + p) = nI (V (30 + p)) := g30
        have vU : (sI M2 18 (nI v)).1 18 = nI v := rfl
        have ho2 := no_oob (i := 30 + p) (n := 42) (by omega) (by omega)
        have hcp : (nI (30 + p)).toNatClampNeg = 30 + p := pu_clamp (by omega)
        rw [n3, pu_ob2N, if_neg one_ne, e18, pu_add, if_neg ho2]
        simp only [hcp]
        rw [gU, vU, hb1, pu_ob1N, if_pos zero_eq, if_neg ho2, show nI v ^^^ (4 : Int32) = nI (v ^^^ 4) from pu_xor v 4, hb2, pu_ob1N, if_pos zero_eq, if_neg ho2, if_neg ho2, hsh, pu_or, pu_nwN, k1, pu_ob1N]
        rfl
      · rw [k3.2.2 9 (by decide)]
        show M2.2.2.2 9 j = _
        exact hN2 j
      · exact u3 y3 n1.2
      · rw [k3.2.1 7 (by decide), pu_sAe (by omega)]
        by_cases q1 : j = 30 + p
        · rw [if_pos q1, q1, pu_upe]
        · rw [if_neg q1, pu_upn q1]; exact r72 j hj
      · rw [k3.2.2 9 (by decide)]
        show M2.2.2.2 9 j = _
        exact hN2 j
    · obtain ⟨u1, u2, u3, u4, u5⟩ := view_tab _ y2 v hv
      have g30 := r72 (30 + p) (by omega)
      have hb1 := x12_bit (x := V (30 + p)) (v := v) (by omega) (by omega)
      have hb2 := x12_bit (x := V (30 + p)) (v := v ^^^ 4) (by omega) (by omega)
      refine ⟨S, R3, M3, V, k, nI 0, ?_, ?_, ((hF2.mono (by decide) (by decide) (by decide)).tr (FR.sI (by decide))).tr (n6.mono (by decide) (by decide) (by decide)), fun j hj => ?_, Or.inr ⟨rfl, n5⟩⟩
      · rw [n2, pu_ob2N, if_neg hpo, show (-1 : Int32) = nO from rfl, if_pos rfl]
      · have n3 : F_X12_isOneOf M2 5 8 = some (nI 1, sI M2 18 (nI v)) := n3
        have n4 : F_X12_bad (sI M2 18 (nI v)) 3 = some (nI 0, M3) := n4
        have gU : (sI M2 18 (nI v)).2.2.1 7 (30 + p) = nI (V (30 + p)) := g30
        have vU : (sI M2 18 (nI v)).1 18 = nI v := rfl
        have ho2 := no_oob (i := 30 + p) (n := 42) (by omega) (by omega)
        have h76 : F_X12_readMind_76 (sI M2 18 (nI v)) = some (nI 0, M3) := by
          unfold F_X12_readMind_76
          rw [n4, pu_ob2N, if_neg (fun h => h (Or.inl rfl))]
        have hcp : (nI (30 + p)).toNatClampNeg = 30 + p := pu_clamp (by omega)
        rw [n3, pu_ob2N, if_neg one_ne, e18, pu_add, if_neg ho2]
        simp only [hcp]
        rw [gU, vU, hb1, pu_ob1N]
        rcases Nat.mod_two_eq_zero_or_one (V (30 + p) / 2 ^ v) with q | q
        · rcases Nat.mod_two_eq_zero_or_one (V (30 + p) / 2 ^ (v ^^^ 4)) with q2 | q2
          · exact absurd ⟨q, q2⟩ n1
          · rw [q, if_pos zero_eq, if_neg ho2, show nI v ^^^ (4 : Int32) = nI (v ^^^ 4) from pu_xor v 4, hb2, q2, pu_ob1N, if_neg one_ne]
            exact h76
        · rw [q, if_neg one_ne]
          exact h76
      · rw [n6.2.2 9 (by decide)]
        show M2.2.2.2 9 j = _
        exact hN2 j
    · refine ⟨S, R3, M3, V, k, nI 0, ?_, ?_, (hF2.mono (by decide) (by decide) (by decide)).tr (n6.mono (by decide) (by decide) (by decide)), fun j hj => ?_, Or.inr ⟨rfl, n5⟩⟩
      · rw [n2, pu_ob2N, if_neg hpo, show (-1 : Int32) = nO from rfl, if_pos rfl]
      · have n3 : F_X12_isOneOf M2 5 8 = some (nI 0, M3) := n3
        rw [n3, pu_ob2N, if_pos zero_eq]
        rfl
      · rw [n6.2.2 9 (by decide)]; exact hN2 j
  · have htn : F_X12_takesName M1 20 (nI (V 1)) = some (nI 0, M2) := by
      have c2 : F_X12_looksAt M1 20 (nI (V 1)) = some (nI 0, M2) := c2
      unfold F_X12_takesName
      rw [c2, pu_ob2N, if_pos zero_eq]
      rfl
    refine ⟨S, R2, M2, V, k, nI 0, ?_, ?_, (b3.mono (by decide) (by decide) (by decide)).tr (c4.mono (by decide) (by decide) (by decide)), (N13_fr b3 (by decide)).tr (N13_fr c4 (by decide)), Or.inr ⟨rfl, c3⟩⟩
    · rw [c1, pu_ob2N, show (-1 : Int32) = nO from rfl, if_pos rfl]
      unfold F_X8_readView_have_19
      rw [fl_newView c3.1 0, pu_ob2N, if_pos (show nO = (-1 : Int32) from rfl)]
    · rw [htn, pu_ob2N, if_pos zero_eq]
      rfl
theorem rd_mind10 (h : OKs R M k) (hW : MW M) (hS : SUB S M V) (hne : R.2.2.1 3 k ≠ nI 40) : ∃ S' R' M' V' k' r, F_X8_readView_wanted S (sI R 6 (nI (k + 1))) = some (S', R') ∧ F_X12_readMind M (nI 36) = some (r, M') ∧ RES S' R' M M' V' k k' r := by
  have hS' := hS
  obtain ⟨s0, s7, s5, s6, s14, v0, v1, v23, sm, st, sp, sz⟩ := hS
  obtain ⟨M1, b1, b2, b3⟩ := rd_step h hne
  generalize sI R 6 (nI (k + 1)) = R1 at b2 ⊢
  have hW1 := MW_fr hW b3 (by decide)
  have g1 : M1.2.2.1 7 1 = nI (V 1) := by rw [b3.2.1 7 (by decide)]; exact sm 1 (by omega)
  have o42 : ¬ oob (1 : Int32) 42 := no_oob (i := 1) (by omega) (by omega)
  have z1 : (1 : Int32).toNatClampNeg = 1 := by decide
  unfold F_X8_readView_wanted F_X12_readMind
  rw [b1, pu_ob1N, if_neg o42]
  simp only [z1]
  rw [g1]
  rcases rd_lookP (c := V 1) (fr := 20) (S := S) b2 hW1 s7 v1 (by omega) (fun t ht => by rw [b3.2.2 9 (by decide)]; exact (sp t ht).2.2.2.2.2.2.2.2.2) with ⟨p, hp, c0, c1, c2, c3⟩ | ⟨R2, M2, c0, c1, c2, c3, c4⟩
  · obtain ⟨y1, y2, y3, y4, y5, -⟩ := sp p hp
    obtain ⟨M2, d1, d2, d3⟩ := rd_step (ok_sI (f := 18) (v := nI p) b2 (by omega)) c3
    generalize sI R1 6 (nI (k + 1 + 1)) = R2 at c1 d2
    have hF2 : FR [4, 11, 12, 13, 14, 18] [7] [9] M M2 := ((b3.mono (by decide) (by decide) (by decide)).tr (FR.sI (by decide))).tr (d3.mono (by decide) (by decide) (by decide))
    have hW2 := MW_fr hW hF2 (by decide)
    have e18 : M2.1 18 = nI p := by rw [d3.1 18 (by decide)]; rfl
    have hN2 : ∀ j, M2.2.2.2 9 j = M.2.2.2 9 j := fun j => by rw [d3.2.2 9 (by decide)]; show M1.2.2.2 9 j = _; rw [b3.2.2 9 (by decide)]
    have r72 : ∀ j, j < 42 → M2.2.2.1 7 j = nI (V j) := fun j hj => by rw [d3.2.1 7 (by decide)]; show M1.2.2.1 7 j = _; rw [b3.2.1 7 (by decide)]; exact sm j hj
    have htn : F_X12_takesName M1 20 (nI (V 1)) = some (nI 1, M2) := by
      have c2 : F_X12_looksAt M1 20 (nI (V 1)) = some (nI 1, sI M1 18 (nI p)) := c2
      unfold F_X12_takesName
      rw [c2, pu_ob2N, if_neg one_ne, d1, pu_ob1N]
      rfl
    have hpo : ¬ nI p = (-1 : Int32) := by rw [show (-1 : Int32) = nO from rfl, pu_eqO (by omega)]; exact id
    rw [c1, pu_ob2N, if_neg hpo, if_neg (no_oob (by omega : p < 6) (by omega)), pu_clamp (by omega), y4, htn, pu_ob2N, if_neg one_ne]
    unfold F_X8_readView_wanted_19
    rcases rd_newView (x := V (36 + p)) d2 hW2 y5 with ⟨v, hv, n1, n2, n3, n4⟩ | ⟨v, R3, M3, hv, n1, n2, n3, n4, n5, n6⟩ | ⟨R3, M3, n2, n3, n5, n6⟩
    · obtain ⟨u1, u2, u3, u4, u5⟩ := view_tab _ y5 v hv
      have hvo : ¬ nI v = (-1 : Int32) := by rw [show (-1 : Int32) = nO from rfl, pu_eqO (by omega)]; exact id
      have hsh : (1 : Int32) <<< (nI v &&& 31) = nI (2 ^ v) := by simp (disch := omega) only [↓pu_m1, pu_lit, ↓reduceIte, pu_leT, pu_leF, pu_ltT, pu_ltF, pu_eqT, pu_eqF, pu_eqO, pu_eqO2, pu_ltO, pu_leO, pu_subO, pu_subOF, pu_subT, pu_subF, pu_oobF, pu_clamp, pu_add, pu_sub, pu_mul, pu_and, pu_or, pu_xor, pu_xorO, pu_shl, pu_shr, pu_ushr, pu_nb0, pu_nb1, pu_ob1N, pu_ob2N, pu_ob3N, pu_ob4N, pu_nwN, pu_n1, pu_n7, pu_n31, pu_n255, pu_md, pu_one, pu_sI1, pu_sI2, pu_sA1, pu_sA21, pu_sA222, pu_sAe, pu_sAn, pu_sJ1, pu_sJ21, pu_sJ221, pu_sF1, pu_sF21, pu_sF222, pu_sFe, pu_sFn, pu_upe, pu_upn, Nat.reduceAdd, Nat.reduceSub, Nat.reduceMul, Nat.reduceMod, Nat.reduceAnd, Nat.reducePow, Nat.reduceEqDiff, Nat.add_zero, Nat.zero_add, Bool.false_eq_true, Nat.add_sub_cancel]
      have g30 := r72 (36 + p) (by omega)
      have hb1 := x12_bit (x := V (36 + p)) (v := v) (by omega) (by omega)
      have hb2 := x12_bit (x := V (36 + p)) (v := v ^^^ 4) (by omega) (by omega)
      rw [n1.1] at hb1
      rw [n1.2] at hb2
      have hO3 := ok_sA (f := 7) (i := nI (36 + p)) (v := nI (V (36 + p) ||| 2 ^ v)) (ok_sI (f := 18) (v := nI v) d2 (by omega)) (by omega)
      obtain ⟨M4, k1, k2, k3⟩ := rd_step hO3 n4
      generalize sI R2 6 (nI (k + 1 + 1 + 1)) = R3 at n2 k2
      have hF4 : FR [4, 11, 12, 13, 14, 18] [7] [9] M M4 := ((hF2.tr (FR.sI (by decide))).tr (FR.sA (by decide))).tr (k3.mono (by decide) (by decide) (by decide))
      refine ⟨sA S 10 (nI p) (nI (V (36 + p) ||| 2 ^ v)), R3, M4, up V (36 + p) (V (36 + p) ||| 2 ^ v), k + 1 + 1 + 1, nI 1, ?_, ?_, hF4.mono (by decide) (by decide) (by decide), fun j hj => ?_, Or.inl ⟨rfl, k2, SUB_mind (fld := 10) (row := 36) hS' (by omega) hp u2 (fun e => ?_) (fun j hj => ?_) (fun j => ?_), hF4.1 15 (by decide), by omega⟩⟩
      · rw [n2, pu_ob2N, if_neg hpo, if_neg hvo, if_neg (no_oob (by omega : p < 6) (by omega)), if_neg (no_oob (by omega : p < 6) (by omega)), pu_clamp (by omega), y4, hsh, pu_or, pu_nwN]
      · have n3 : F_X12_isOneOf M2 5 8 = some (nI 1, sI M2 18 (nI v)) := n3
        have gU : (sI M2 18 (nI v)).2.2.1 7 (36 + p) = nI (V (36 + p)) := g30
        have vU : (sI M2 18 (nI v)).1 18 = nI v := rfl
        have ho2 := no_oob (i := 36 + p) (n := 42) (by omega) (by omega)
        have hcp : (nI (36 + p)).toNatClampNeg = 36 + p := pu_clamp (by omega)
        rw [n3, pu_ob2N, if_neg one_ne, e18, pu_add, if_neg ho2]
        simp only [hcp]
        rw [gU, vU, hb1, pu_ob1N, if_pos zero_eq, if_neg ho2, show nI v ^^^ (4 : Int32) = nI (v ^^^ 4) from pu_xor v 4, hb2, pu_ob1N, if_pos zero_eq, if_neg ho2, if_neg ho2, hsh, pu_or, pu_nwN, k1, pu_ob1N]
        rfl
      · rw [k3.2.2 9 (by decide)]
        show M2.2.2.2 9 j = _
        exact hN2 j
      · omega
      · rw [k3.2.1 7 (by decide), pu_sAe (by omega)]
        by_cases q1 : j = 36 + p
        · rw [if_pos q1, q1, pu_upe]
        · rw [if_neg q1, pu_upn q1]; exact r72 j hj
      · rw [k3.2.2 9 (by decide)]
        show M2.2.2.2 9 j = _
        exact hN2 j
    · obtain ⟨u1, u2, u3, u4, u5⟩ := view_tab _ y5 v hv
      have g30 := r72 (36 + p) (by omega)
      have hb1 := x12_bit (x := V (36 + p)) (v := v) (by omega) (by omega)
      have hb2 := x12_bit (x := V (36 + p)) (v := v ^^^ 4) (by omega) (by omega)
      refine ⟨S, R3, M3, V, k, nI 0, ?_, ?_, ((hF2.mono (by decide) (by decide) (by decide)).tr (FR.sI (by decide))).tr (n6.mono (by decide) (by decide) (by decide)), fun j hj => ?_, Or.inr ⟨rfl, n5⟩⟩
      · rw [n2, pu_ob2N, if_neg hpo, show (-1 : Int32) = nO from rfl, if_pos rfl]
      · have n3 : F_X12_isOneOf M2 5 8 = some (nI 1, sI M2 18 (nI v)) := n3
        have n4 : F_X12_bad (sI M2 18 (nI v)) 3 = some (nI 0, M3) := n4
        have gU : (sI M2 18 (nI v)).2.2.1 7 (36 + p) = nI (V (36 + p)) := g30
        have vU : (sI M2 18 (nI v)).1 18 = nI v := rfl
        have ho2 := no_oob (i := 36 + p) (n := 42) (by omega) (by omega)
        have h76 : F_X12_readMind_76 (sI M2 18 (nI v)) = some (nI 0, M3) := by
          unfold F_X12_readMind_76
          rw [n4, pu_ob2N, if_neg (fun h => h (Or.inl rfl))]
        have hcp : (nI (36 + p)).toNatClampNeg = 36 + p := pu_clamp (by omega)
        rw [n3, pu_ob2N, if_neg one_ne, e18, pu_add, if_neg ho2]
        simp only [hcp]
        rw [gU, vU, hb1, pu_ob1N]
        rcases Nat.mod_two_eq_zero_or_one (V (36 + p) / 2 ^ v) with q | q
        · rcases Nat.mod_two_eq_zero_or_one (V (36 + p) / 2 ^ (v ^^^ 4)) with q2 | q2
          · exact absurd ⟨q, q2⟩ n1
          · rw [q, if_pos zero_eq, if_neg ho2, show nI v ^^^ (4 : Int32) = nI (v ^^^ 4) from pu_xor v 4, hb2, q2, pu_ob1N, if_neg one_ne]
            exact h76
        · rw [q, if_neg one_ne]
          exact h76
      · rw [n6.2.2 9 (by decide)]
        show M2.2.2.2 9 j = _
        exact hN2 j
    · refine ⟨S, R3, M3, V, k, nI 0, ?_, ?_, (hF2.mono (by decide) (by decide) (by decide)).tr (n6.mono (by decide) (by decide) (by decide)), fun j hj => ?_, Or.inr ⟨rfl, n5⟩⟩
      · rw [n2, pu_ob2N, if_neg hpo, show (-1 : Int32) = nO from rfl, if_pos rfl]
      · have n3 : F_X12_isOneOf M2 5 8 = some (nI 0, M3) := n3
        rw [n3, pu_ob2N, if_pos zero_eq]
        rfl
      · rw [n6.2.2 9 (by decide)]; exact hN2 j
  · have htn : F_X12_takesName M1 20 (nI (V 1)) = some (nI 0, M2) := by
      have c2 : F_X12_looksAt M1 20 (nI (V 1)) = some (nI 0, M2) := c2
      unfold F_X12_takesName
      rw [c2, pu_ob2N, if_pos zero_eq]
      rfl
    refine ⟨S, R2, M2, V, k, nI 0, ?_, ?_, (b3.mono (by decide) (by decide) (by decide)).tr (c4.mono (by decide) (by decide) (by decide)), (N13_fr b3 (by decide)).tr (N13_fr c4 (by decide)), Or.inr ⟨rfl, c3⟩⟩
    · rw [c1, pu_ob2N, show (-1 : Int32) = nO from rfl, if_pos rfl]
      unfold F_X8_readView_wanted_19
      rw [fl_newView c3.1 0, pu_ob2N, if_pos (show nO = (-1 : Int32) from rfl)]
    · rw [htn, pu_ob2N, if_pos zero_eq]
      rfl
theorem nb0 : ¬ nb (nI 0) := fun h => h (Or.inl rfl)
theorem nb1 : ¬ nb (nI 1) := fun h => h (Or.inr rfl)
theorem res_nb {S' R' M M' : St} {V' : Vt} {k k' : Nat} {r : Int32} (h : RES S' R' M M' V' k k' r) : ¬ nb r := by
  rcases h.2.2 with ⟨e, -⟩ | ⟨e, -⟩
  · rw [e]; exact nb1
  · rw [e]; exact nb0
theorem rd_line (h : OKs R M k) (hW : MW M) (hS : SUB S M V) : ∃ S' R' M' V' k' r, F_X8_readLine S R = some (S', R') ∧ F_X12_line M = some (r, M') ∧ RES S' R' M M' V' k k' r := by
  unfold F_X8_readLine F_X12_line F_X5_takeWord
  obtain ⟨t0, a1, a2, a3, -⟩ := rd_isWord (i := 0) h (by omega)
  have a1 : F_X5_isWord R 0 = some (nI (tn t0)) := a1
  have a2 : F_X12_isWord M (128047780095348 : Int64) = some (nI (tn t0)) := a2
  cases t0 with
  | true =>
    obtain ⟨S', R', M', V', k', r, b1, b2, b3⟩ := rd_turret h hW hS (a3 rfl).1
    refine ⟨S', R', M', V', k', r, ?_, ?_, b3⟩
    · rw [a1, pu_ob1N, if_neg (show ¬ nI (tn true) = 0 from one_ne), b1, pu_ob2N]
    · rw [a2, pu_ob1N, if_neg (show ¬ nI (tn true) = 0 from one_ne), b2, pu_ob2N, if_neg (res_nb b3)]
  | false =>
    rw [a1, pu_ob1N, if_pos (show nI (tn false) = 0 from zero_eq), a2, pu_ob1N, if_pos (show nI (tn false) = 0 from zero_eq)]
    obtain ⟨t1, c1, c2, c3, -⟩ := rd_isWord (i := 1) h (by omega)
    have c1 : F_X5_isWord R 1 = some (nI (tn t1)) := c1
    have c2 : F_X12_isWord M (123581014175598 : Int64) = some (nI (tn t1)) := c2
    cases t1 with
    | true =>
      obtain ⟨S', R', M', V', k', r, b1, b2, b3⟩ := rd_person h hW hS (c3 rfl).1
      refine ⟨S', R', M', V', k', r, ?_, ?_, b3⟩
      · rw [c1, pu_ob1N, if_neg (show ¬ nI (tn true) = 0 from one_ne), b1, pu_ob2N]
      · rw [c2, pu_ob1N, if_neg (show ¬ nI (tn true) = 0 from one_ne), b2, pu_ob2N, if_neg (res_nb b3)]
    | false =>
      rw [c1, pu_ob1N, if_pos (show nI (tn false) = 0 from zero_eq), c2, pu_ob1N, if_pos (show nI (tn false) = 0 from zero_eq)]
      obtain ⟨t2, d1, d2, d3, -⟩ := rd_isWord (i := 2) h (by omega)
      have d1 : F_X5_isWord R 2 = some (nI (tn t2)) := d1
      have d2 : F_X12_isWord M (127991794264947 : Int64) = some (nI (tn t2)) := d2
      cases t2 with
      | true =>
        obtain ⟨S', R', M', V', k', r, b1, b2, b3⟩ := rd_mind9 h hW hS (d3 rfl).1
        have hn := rd_nextC h (d3 rfl).1
        refine ⟨S', R', M', V', k', r, ?_, ?_, b3⟩
        · rw [d1, pu_ob1N, if_neg (show ¬ nI (tn true) = 0 from one_ne), hn, pu_ob1N, if_neg (show ¬ nb (nI (tn true)) from nb1), pu_ob2N, if_neg (show ¬ nI (tn true) = 0 from one_ne), b1, pu_ob2N]
        · have b2 : F_X12_readMind M 30 = some (r, M') := b2
          rw [d2, pu_ob1N, if_neg (show ¬ nI (tn true) = 0 from one_ne), b2, pu_ob2N, if_neg (res_nb b3)]
      | false =>
        rw [d1, pu_ob1N, if_pos (show nI (tn false) = 0 from zero_eq), if_neg (show ¬ nb (nI (tn false)) from nb0), pu_ob2N, if_pos (show nI (tn false) = 0 from zero_eq), d2, pu_ob1N, if_pos (show nI (tn false) = 0 from zero_eq)]
        obtain ⟨t3, e1, e2, e3, -⟩ := rd_isWord (i := 3) h (by omega)
        have e1 : F_X5_isWord R 3 = some (nI (tn t3)) := e1
        have e2 : F_X12_isWord M (512735736947 : Int64) = some (nI (tn t3)) := e2
        cases t3 with
        | true =>
          obtain ⟨S', R', M', V', k', r, b1, b2, b3⟩ := rd_mind10 h hW hS (e3 rfl).1
          have hn := rd_nextC h (e3 rfl).1
          refine ⟨S', R', M', V', k', r, ?_, ?_, b3⟩
          · rw [e1, pu_ob1N, if_neg (show ¬ nI (tn true) = 0 from one_ne), hn, pu_ob1N, if_neg (show ¬ nb (nI (tn true)) from nb1), pu_ob2N, if_neg (show ¬ nI (tn true) = 0 from one_ne), b1, pu_ob2N]
          · have b2 : F_X12_readMind M 36 = some (r, M') := b2
            rw [e2, pu_ob1N, if_neg (show ¬ nI (tn true) = 0 from one_ne), b2, pu_ob2N, if_neg (res_nb b3)]
        | false =>
          obtain ⟨R', M', f1, f2, f3, f4⟩ := rd_fail (f := 1) h (by omega) (by omega)
          refine ⟨S, R', M', V, k, nI 0, ?_, ?_, f4.mono (by decide) (by decide) (by decide), N13_fr f4 (by decide), Or.inr ⟨rfl, f3⟩⟩
          · rw [e1, pu_ob1N, if_pos (show nI (tn false) = 0 from zero_eq), if_neg (show ¬ nb (nI (tn false)) from nb0), pu_ob2N, if_pos (show nI (tn false) = 0 from zero_eq), show (1 : Int32) = nI 1 from rfl, f1, pu_ob1N]
          · have f2 : F_X12_bad M 1 = some (nI 0, M') := f2
            rw [e2, pu_ob1N, if_pos (show nI (tn false) = 0 from zero_eq), f2, pu_ob2N, if_neg nb0]
end P30
