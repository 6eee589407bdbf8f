/-! the suburb: the copy at the end, and the suburb as a whole -/
def cpV (V : Vt) : Vt := fun j => if j < 42 then V j else if j < 45 then 0 else if j < 59 then V (j - 36) else if j < 65 then V (j - 29) else 0
section P34
variable {R M S P B N H T X : St} {K : KSt} {V : Vt} {k : Nat}
theorem nIs (i : Nat) : nI i + (1 : Int32) = nI (i + 1) := nI_add i 1
theorem x12_copy (h7 : ∀ j, j < 42 → M.2.2.1 7 j = nI (V j)) : ∃ M', L_X12_suburb_75 0 M = some (M.1 19, M') ∧ (∀ j, j < 258 → M'.2.2.1 6 j = nI (cpV V j)) ∧ (∀ j, j < 13 → M'.2.2.2 9 j = M.2.2.2 9 (13 + j)) ∧ M'.1 22 = nI 0 ∧ FR [22] [6] [9] M M' := by
  obtain ⟨⟨u1, M1⟩, ⟨e1, e2, e3⟩, l1⟩ := lp_invG (body := fun kz (z : Int32 × St) => F_X12_suburb_75 kz z.1 z.2) (fun i z => z.1 = nI i ∧ (∀ j, j < i → z.2.2.2.1 6 j = nI (if j < 42 then V j else 0)) ∧ FR [] [6] [] M z.2) 258 (fun z => L_X12_suburb_112 0 z.2) (fun i hi z ⟨e1, e2, e3⟩ => by
    refine ⟨(nI (i + 1), sA z.2 6 (nI i) (nI (if i < 42 then V i else 0))), ⟨rfl, fun j hj => ?_, e3.tr (FR.sA (by decide))⟩, fun k => ?_⟩
    · rw [pu_sAe (by omega)]
      by_cases q : j = i
      · rw [if_pos q, q]
      · rw [if_neg q]; exact e2 j (by omega)
    · unfold F_X12_suburb_75 F_X12_suburb_103
      rw [e1, if_neg (show ¬ (258 : Int32) ≤ nI i from nI_ge (b := 258) (by omega) (by omega)), nIs]
      by_cases q : i < 42
      · rw [if_neg (show ¬ (42 : Int32) ≤ nI i from nI_ge (b := 42) q (by omega)), if_neg (no_oob q (by omega)), if_neg (no_oob (n := 258) (by omega) (by omega)), pu_clamp (by omega), if_pos q, pu_nwN, show z.2.2.2.1 7 = M.2.2.1 7 from e3.2.1 7 (by decide), h7 i q]
      · rw [if_pos (show (42 : Int32) ≤ nI i from nI_le (a := 42) (by omega) (by omega)), if_neg (no_oob (n := 258) (by omega) (by omega)), if_neg q, pu_nwN]
        rfl) (fun z ⟨e1, e2, e3⟩ k => by
    unfold F_X12_suburb_75
    rw [e1, if_pos (show (258 : Int32) ≤ nI 258 from Int32.le_refl _)]) (x0 := ((0 : Int32), M)) ⟨rfl, fun j hj => by omega, FR.rf⟩ (N := FU) (by decide)
  obtain ⟨⟨u2, M2⟩, ⟨f1, f2, f3, f4⟩, l2⟩ := lp_invG (body := fun kz (z : Int32 × St) => F_X12_suburb_112 kz z.1 z.2) (fun i z => z.1 = nI i ∧ (∀ j, j < i → z.2.2.2.2 9 j = M1.2.2.2 9 (13 + j)) ∧ (∀ j, 13 ≤ j → z.2.2.2.2 9 j = M1.2.2.2 9 j) ∧ FR [] [] [9] M1 z.2) 13 (fun z => L_X12_suburb_141 0 z.2) (fun i hi z ⟨e1, e2, e4, e3⟩ => by
    refine ⟨(nI (i + 1), sJ z.2 9 (nI i) (M1.2.2.2 9 (13 + i))), ⟨rfl, fun j hj => ?_, fun j hj => ?_, e3.tr (FR.sJ (by decide))⟩, fun k => ?_⟩
    · rw [pu_sJe (by omega)]
      by_cases q : j = i
      · rw [if_pos q, q]
      · rw [if_neg q]; exact e2 j (by omega)
    · rw [pu_sJe (by omega), if_neg (by omega)]
      exact e4 j hj
    · unfold F_X12_suburb_112
      have hcp : ((13 : Int32) + nI i).toNatClampNeg = 13 + i := by rw [show (13 : Int32) + nI i = nI (13 + i) from nI_add 13 i, pu_clamp (by omega)]
      rw [e1, if_neg (show ¬ (13 : Int32) ≤ nI i from nI_ge (b := 13) (by omega) (by omega)), if_neg (show ¬ oob ((13 : Int32) + nI i) 26 by rw [show (13 : Int32) + nI i = nI (13 + i) from nI_add 13 i]; exact no_oob (by omega) (by omega)), if_neg (no_oob (n := 26) (by omega) (by omega)), nIs, pu_nwN, hcp, e4 (13 + i) (by omega)]) (fun z ⟨e1, e2, e3⟩ k => by
    unfold F_X12_suburb_112
    rw [e1, if_pos (show (13 : Int32) ≤ nI 13 from Int32.le_refl _)]) (x0 := ((0 : Int32), M1)) ⟨rfl, fun j hj => by omega, fun j hj => rfl, FR.rf⟩ (N := FU) (by decide)
  have g6 : ∀ j, j < 258 → M2.2.2.1 6 j = nI (if j < 42 then V j else 0) := fun j hj => by rw [f4.2.1 6 (by decide)]; exact e2 j hj
  obtain ⟨⟨u3, M3⟩, ⟨g1, g2, g3⟩, l3⟩ := lp_invG (body := fun kz (z : Int32 × St) => F_X12_suburb_141 kz z.1 z.2) (fun i z => z.1 = nI i ∧ (∀ j, j < 258 → z.2.2.2.1 6 j = nI (if j < 42 then V j else if (45 ≤ j ∧ j < 45 + i) ∨ (52 ≤ j ∧ j < 52 + i) then V (j - 36) else 0)) ∧ FR [] [6] [] M2 z.2) 7 (fun z => L_X12_suburb_191 0 z.2) (fun i hi z ⟨e1, e2, e3⟩ => by
    have r9 := e2 (9 + i) (by omega)
    have r16 := e2 (16 + i) (by omega)
    rw [if_pos (by omega)] at r9 r16
    refine ⟨(nI (i + 1), sA (sA z.2 6 (nI (45 + i)) (nI (V (9 + i)))) 6 (nI (52 + i)) (nI (V (16 + i)))), ⟨rfl, fun j hj => ?_, (e3.tr (FR.sA (by decide))).tr (FR.sA (by decide))⟩, fun k => ?_⟩
    · rw [pu_sAe (by omega), pu_sAe (by omega), e2 j hj]
      by_cases q : j = 52 + i
      · rw [if_pos q, if_neg (by omega), if_pos (by omega), show j - 36 = 16 + i by omega]
      · by_cases q2 : j = 45 + i
        · rw [if_neg q, if_pos q2, if_neg (by omega), if_pos (by omega), show j - 36 = 9 + i by omega]
        · rw [if_neg q, if_neg q2]
          by_cases q3 : j < 42
          · rw [if_pos q3, if_pos q3]
          · rw [if_neg q3, if_neg q3]
            by_cases q4 : (45 ≤ j ∧ j < 45 + i) ∨ (52 ≤ j ∧ j < 52 + i)
            · rw [if_pos q4, if_pos (by omega)]
            · rw [if_neg q4, if_neg (by omega)]
    · unfold F_X12_suburb_141
      have h9 : (9 : Int32) + nI i = nI (9 + i) := nI_add 9 i
      have h16 : (16 : Int32) + nI i = nI (16 + i) := nI_add 16 i
      have h45 : (45 : Int32) + nI i = nI (45 + i) := nI_add 45 i
      have h52 : (52 : Int32) + nI i = nI (52 + i) := nI_add 52 i
      have c9 : (nI (9 + i)).toNatClampNeg = 9 + i := pu_clamp (by omega)
      have c16 : (nI (16 + i)).toNatClampNeg = 16 + i := pu_clamp (by omega)
      have s16 : (sA z.2 6 (nI (45 + i)) (nI (V (9 + i)))).2.2.1 6 (16 + i) = nI (V (16 + i)) := by rw [pu_sAe (by omega), if_neg (by omega), r16]
      rw [e1, if_neg (show ¬ (7 : Int32) ≤ nI i from nI_ge (b := 7) (by omega) (by omega)), h9, h16, h45, h52, if_neg (no_oob (n := 258) (by omega) (by omega)), if_neg (no_oob (n := 258) (by omega) (by omega)), c9, r9, pu_nwN, if_neg (no_oob (n := 258) (by omega) (by omega)), if_neg (no_oob (n := 258) (by omega) (by omega)), c16, s16, pu_nwN, nIs]) (fun z ⟨e1, e2, e3⟩ k => by
    unfold F_X12_suburb_141
    rw [e1, if_pos (show (7 : Int32) ≤ nI 7 from Int32.le_refl _)]) (x0 := ((0 : Int32), M2)) ⟨rfl, fun j hj => by
      show M2.2.2.1 6 j = _
      rw [g6 j hj]
      by_cases q3 : j < 42
      · rw [if_pos q3, if_pos q3]
      · rw [if_neg q3, if_neg q3, if_neg (by omega)], FR.rf⟩ (N := FU) (by decide)
  obtain ⟨o, ⟨k1, k2, k3, k4⟩, l4⟩ := lp_inv (body := fun kz (z : Int32 × St) => F_X12_suburb_191 kz z.1 z.2) (fun i z => z.1 = nI i ∧ (∀ j, j < 258 → z.2.2.2.1 6 j = nI (if j < 42 then V j else if (45 ≤ j ∧ j < 59) then V (j - 36) else if 59 ≤ j ∧ j < 59 + i then V (j - 29) else 0)) ∧ FR [] [6] [] M3 z.2) 6 (fun o => o.1 = M3.1 19 ∧ (∀ j, j < 258 → o.2.2.2.1 6 j = nI (cpV V j)) ∧ o.2.1 22 = nI 0 ∧ FR [22] [6] [] M3 o.2) (fun i hi z ⟨e1, e2, e3⟩ => by
    have r30 := e2 (30 + i) (by omega)
    rw [if_pos (by omega)] at r30
    refine ⟨(nI (i + 1), sA z.2 6 (nI (59 + i)) (nI (V (30 + i)))), ⟨rfl, fun j hj => ?_, e3.tr (FR.sA (by decide))⟩, fun k => ?_⟩
    · rw [pu_sAe (by omega), e2 j hj]
      by_cases q : j = 59 + i
      · rw [if_pos q, if_neg (by omega), if_neg (by omega), if_pos (by omega), show j - 29 = 30 + i by omega]
      · rw [if_neg q]
        by_cases q3 : j < 42
        · rw [if_pos q3, if_pos q3]
        · rw [if_neg q3, if_neg q3]
          by_cases q4 : 45 ≤ j ∧ j < 59
          · rw [if_pos q4, if_pos q4]
          · rw [if_neg q4, if_neg q4]
            by_cases q5 : 59 ≤ j ∧ j < 59 + i
            · rw [if_pos q5, if_pos (by omega)]
            · rw [if_neg q5, if_neg (by omega)]
    · unfold F_X12_suburb_191
      have h30 : (30 : Int32) + nI i = nI (30 + i) := nI_add 30 i
      have h59 : (59 : Int32) + nI i = nI (59 + i) := nI_add 59 i
      have c30 : (nI (30 + i)).toNatClampNeg = 30 + i := pu_clamp (by omega)
      rw [e1, if_neg (show ¬ (6 : Int32) ≤ nI i from nI_ge (b := 6) (by omega) (by omega)), h30, h59, if_neg (no_oob (n := 258) (by omega) (by omega)), if_neg (no_oob (n := 258) (by omega) (by omega)), c30, r30, pu_nwN, nIs]) (fun z ⟨e1, e2, e3⟩ => by
    refine ⟨(z.2.1 19, sI z.2 22 (nI 0)), ⟨e3.1 19 (by decide), fun j hj => ?_, rfl, (e3.mono (by decide) (by decide) (by decide)).tr (FR.sI (by decide))⟩, fun k => ?_⟩
    · show z.2.2.2.1 6 j = _
      rw [e2 j hj]
      unfold cpV
      by_cases q3 : j < 42
      · rw [if_pos q3, if_pos q3]
      · rw [if_neg q3, if_neg q3]
        by_cases q4 : j < 45
        · rw [if_pos q4, if_neg (by omega), if_neg (by omega)]
        · by_cases q5 : j < 59
          · rw [if_pos (by omega), if_neg q4, if_pos q5]
          · by_cases q6 : j < 65
            · rw [if_neg (by omega), if_pos (by omega), if_neg q4, if_neg q5, if_pos q6]
            · rw [if_neg (by omega), if_neg (by omega), if_neg q4, if_neg q5, if_neg q6]
    · unfold F_X12_suburb_191
      rw [e1, if_pos (show (6 : Int32) ≤ nI 6 from Int32.le_refl _), pu_nwN]
      rfl) (x0 := ((0 : Int32), M3)) ⟨rfl, fun j hj => by
      show M3.2.2.1 6 j = _
      rw [g2 j hj]
      by_cases q3 : j < 42
      · rw [if_pos q3, if_pos q3]
      · rw [if_neg q3, if_neg q3]
        by_cases q4 : 45 ≤ j ∧ j < 59
        · rw [if_pos q4, if_pos (by omega)]
        · rw [if_neg q4, if_neg (by omega), if_neg (by omega)], FR.rf⟩ (N := FU) (by decide)
  refine ⟨o.2, ?_, k2, fun j hj => ?_, k3, ?_⟩
  · rw [show M.1 19 = o.1 from by rw [k1, g3.1 19 (by decide), f4.1 19 (by decide)]; exact (e3.1 19 (by decide)).symm]
    unfold L_X12_suburb_75
    rw [l1]
    unfold L_X12_suburb_112
    rw [l2]
    unfold L_X12_suburb_141
    rw [l3]
    unfold L_X12_suburb_191
    exact l4
  · rw [k4.2.2 9 (by decide), g3.2.2 9 (by decide)]
    show M2.2.2.2 9 j = _
    rw [f2 j hj, show M1.2.2.2 9 = M.2.2.2 9 from e3.2.2 9 (by decide)]
  · exact (((e3.mono (by decide) (by decide) (by decide)).tr (f4.mono (by decide) (by decide) (by decide))).tr (g3.mono (by decide) (by decide) (by decide))).tr (k4.mono (by decide) (by decide) (by decide))
end P34
