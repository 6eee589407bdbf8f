/-! the suburb: the start, and the copy at the end -/
section P33
variable {R M S P B N H T X : St} {K : KSt} {V : Vt} {k : Nat}
theorem rd_start {lim : Nat} (hT : RT P M) (hR : RW R) (hl : lim ≤ 900) : ∃ R1, F_X5_begin R P (nI lim) = some R1 ∧ R1.2.2.2 1 = R.2.2.2 1 ∧ ∀ M1 : St, M1.1 3 = M.1 2 → M1.1 4 = nI 0 → M1.1 5 = nI lim → M1.2.2.1 1 = M.2.2.1 1 → ∃ M2, F_X12_next M1 = some M2 ∧ OKs R1 M2 0 ∧ FR [4, 11, 12, 13, 14] [] [] M1 M2 := by
  obtain ⟨n, h1, h2, h3, h4⟩ := hT
  have hb : ∀ i, i < n → P.2.2.1 0 i = nI ((P.2.2.1 0 i).toNatClampNeg % 256) := by
    intro i hi
    obtain ⟨-, b, hb, e⟩ := h4 i hi
    rw [e, pu_clamp (by omega), Nat.mod_eq_of_lt hb]
  have hTP : TPc P (fun i => (P.2.2.1 0 i).toNatClampNeg % 256) n := ⟨h1, fun i => Nat.mod_lt _ (by omega), h2, hb⟩
  obtain ⟨R1, a1, a2, a3, a4, a5, a6⟩ := x5_begin hTP hR hl
  refine ⟨R1, a1, a6, fun M1 e3 e4 e5 e1 => ?_⟩
  have hB : BYm M1 (fun i => (P.2.2.1 0 i).toNatClampNeg % 256) n lim := ⟨h1, fun i => Nat.mod_lt _ (by omega), hl, by rw [e3, h3], e5, fun i hi => by rw [e1, (h4 i hi).1]; exact hb i hi⟩
  obtain ⟨M2, b1, b2, b3⟩ := x12_next (p := 0) hB e4 (by omega)
  refine ⟨M2, b1, ⟨⟨_, n, lim, ?_, a2, fun j hj => by omega, b2⟩, a3, a4⟩, b3⟩
  obtain ⟨c1, c2, c3, c4, c5, c6⟩ := hB
  exact ⟨c1, c2, c3, (b3.1 3 (by decide)).trans c4, (b3.1 5 (by decide)).trans c5, fun i hi => by rw [b3.2.1 1 (by decide)]; exact c6 i hi⟩
theorem x12_clears : ∃ M', F_X12_clears M = some M' ∧ (∀ j, j < 42 → M'.2.2.1 7 j = nI 0) ∧ FR [] [7] [] M M' := by
  unfold F_X12_clears L_X12_clears_2
  obtain ⟨o, h1, h2⟩ := lp_inv (body := fun kz (z : Int32 × St) => F_X12_clears_2 kz z.1 z.2) (fun i z => z.1 = nI i ∧ (∀ j, j < i → z.2.2.2.1 7 j = nI 0) ∧ FR [] [7] [] M z.2) 42 (fun o => (∀ j, j < 42 → o.2.2.1 7 j = nI 0) ∧ FR [] [7] [] M o) (fun i hi z ⟨e1, e2, e3⟩ => by
    refine ⟨(nI (i + 1), sA z.2 7 (nI i) 0), ⟨rfl, fun j hj => ?_, e3.tr (FR.sA (by decide))⟩, fun k => ?_⟩
    · rw [pu_sAe (by omega)]
      by_cases q : j = i
      · rw [if_pos q]; rfl
      · rw [if_neg q]; exact e2 j (by omega)
    · unfold F_X12_clears_2
      rw [e1, if_neg (show ¬ (42 : Int32) ≤ nI i from nI_ge (b := 42) (by omega) (by omega)), if_neg (no_oob (by omega) (by omega)), pu_nwN, show nI i + (1 : Int32) = nI (i + 1) from nI_add i 1]) (fun z ⟨e1, e2, e3⟩ => by
    refine ⟨z.2, ⟨e2, e3⟩, fun k => ?_⟩
    unfold F_X12_clears_2
    rw [e1, if_pos (show (42 : Int32) ≤ nI 42 from Int32.le_refl _)]) (x0 := ((0 : Int32), M)) ⟨rfl, fun j hj => by omega, FR.rf⟩ (N := FU) (by decide)
  exact ⟨o, h2, h1.1, h1.2⟩
end P33
