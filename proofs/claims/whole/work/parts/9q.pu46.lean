/-! a leaf's sign and number, in step -/
section P46
variable {R M S P B N H T X G : St} {V : Vt} {k n : Nat}
theorem rd_mk {c : Nat} (h : OKs R M k) (hc : c < 256) : F_X5_isMark R (nI c) = F_X12_isSign M (nI c) := by
  obtain ⟨t, a1, a2, -⟩ := rd_isMark h hc
  rw [a1, a2]
theorem sg_no {c t : Nat} (ht : M.1 11 = nI t) (h4 : t ≤ 4) (h : t = 3 → ∃ d, d < 256 ∧ d ≠ c ∧ M.1 14 = nI d) (hc : c < 256) : F_X12_isSign M (nI c) = some (nI 0) := by
  unfold F_X12_isSign
  rw [ht]
  by_cases q : t = 3
  · obtain ⟨d, d1, d2, d3⟩ := h q
    rw [q, if_pos (show nI 3 = (3 : Int32) from rfl), d3, if_neg (fun e => d2 ((nI_eq (by omega) (by omega)).mp e))]
    rfl
  · rw [if_neg (show ¬ nI t = (3 : Int32) from fun e => q ((nI_eq (b := 3) (by omega) (by omega)).mp e))]
    rfl
theorem sg_yes {c : Nat} (ht : M.1 11 = nI 3) (h : M.1 14 = nI c) : F_X12_isSign M (nI c) = some (nI 1) := by
  unfold F_X12_isSign
  rw [ht, if_pos (show nI 3 = (3 : Int32) from rfl), h, if_pos rfl]
  rfl
theorem rd_sgn (h : OKs R M k) : (∃ c M', 60 ≤ c ∧ c ≤ 62 ∧ F_X5_needSign R = some (nI c, sI R 6 (nI (k + 1))) ∧ M.1 11 = nI 3 ∧ M.1 14 = nI c ∧ F_X12_next M = some M' ∧ OKs (sI R 6 (nI (k + 1))) M' (k + 1) ∧ FR [4, 11, 12, 13, 14] [] [] M M') ∨ (∃ v R' M' t, F_X5_needSign R = some (v, R') ∧ t ≤ 4 ∧ M.1 11 = nI t ∧ (t = 3 → ∃ d, d < 256 ∧ (d < 60 ∨ 62 < d) ∧ M.1 14 = nI d) ∧ F_X12_bad M (nI 1) = some (nI 0, M') ∧ FLT R' M' ∧ FR [15, 16] [] [] M M') := by
  have hk := ok_k h
  have ho := no_oob (i := k) (n := 901) (by omega) (by omega)
  have hcp : (nI k).toNatClampNeg = k := pu_clamp (by omega)
  have hbad : ∀ t, t ≤ 4 → M.1 11 = nI t → (t = 3 → ∃ d, d < 256 ∧ (d < 60 ∨ 62 < d) ∧ M.1 14 = nI d) → ∃ v R' M' t, F_X5_needSign R = some (v, R') ∧ t ≤ 4 ∧ M.1 11 = nI t ∧ (t = 3 → ∃ d, d < 256 ∧ (d < 60 ∨ 62 < d) ∧ M.1 14 = nI d) ∧ F_X12_bad M (nI 1) = some (nI 0, M') ∧ FLT R' M' ∧ FR [15, 16] [] [] M M' := by
    intro t t4 ht hd
    obtain ⟨R', M', c1, c2, c3, c4⟩ := rd_fail (f := 1) h (by omega) (by omega)
    have c1 : F_X5_fail R 1 = some R' := c1
    have hn : ∀ c, 60 ≤ c → c ≤ 62 → F_X5_isMark R (nI c) = some (nI 0) := fun c h1 h2 => by
      rw [rd_mk h (by omega)]
      exact sg_no ht t4 (fun e => by obtain ⟨d, d1, d2, d3⟩ := hd e; exact ⟨d, d1, by omega, d3⟩) (by omega)
    have i0 : F_X5_isMark R 60 = some (nI 0) := hn 60 (by omega) (by omega)
    have i1 : F_X5_isMark R 61 = some (nI 0) := hn 61 (by omega) (by omega)
    have i2 : F_X5_isMark R 62 = some (nI 0) := hn 62 (by omega) (by omega)
    refine ⟨(R.2.2.2 4 k).toInt32, R', M', t, ?_, t4, ht, hd, c2, c3, c4⟩
    · unfold F_X5_needSign
      rw [h.2.1, if_neg ho, hcp, pu_nwN, i0, pu_ob1N, if_pos zero_eq, i1, pu_ob1N, if_pos zero_eq, i2, pu_ob1N, if_pos zero_eq, c1, pu_ob1N]
  obtain ⟨-, -, ht⟩ := rd_tok h.1
  rcases ht with ⟨l, a1, a2, a3, a4, a5⟩ | ⟨v, a1, a2, a3, a4, a5⟩ | ⟨d, a1, a2, a3, a4, a5⟩ | ⟨a2, a4⟩ | ⟨a2, ⟨-, a4⟩ | ⟨-, a4⟩⟩
  · exact Or.inr (hbad 1 (by omega) a4 (fun e => by omega))
  · exact Or.inr (hbad 2 (by omega) a4 (fun e => by omega))
  · by_cases q : 60 ≤ d ∧ d ≤ 62
    · left
      have hne : R.2.2.1 3 k ≠ nI 40 := by rw [a2]; decide
      have hc := rd_nextC h hne
      obtain ⟨M', b1, b2, b3⟩ := rd_step h hne
      refine ⟨d, M', q.1, q.2, ?_, a4, a5, b1, b2, b3⟩
      have hy := (rd_mk h (c := d) (by omega)).trans (sg_yes a4 a5)
      have hn : ∀ c, c < 256 → d ≠ c → F_X5_isMark R (nI c) = some (nI 0) := fun c h1 h2 => by
        rw [rd_mk h h1]
        exact sg_no a4 (by omega) (fun _ => ⟨d, a1, h2, a5⟩) h1
      have h38 : F_X5_needSign_38 (nI d) R = some (nI d, sI R 6 (nI (k + 1))) := by
        unfold F_X5_needSign_38
        rw [hc, pu_ob1N]
      unfold F_X5_needSign
      rw [h.2.1, if_neg ho, hcp, a3, lN_i, pu_nwN]
      rcases (show d = 60 ∨ d = 61 ∨ d = 62 by omega) with rfl | rfl | rfl
      · have hy : F_X5_isMark R 60 = some (nI 1) := hy
        rw [hy, pu_ob1N, if_neg one_ne, h38]
      · have hy : F_X5_isMark R 61 = some (nI 1) := hy
        have n0 : F_X5_isMark R 60 = some (nI 0) := hn 60 (by omega) (by omega)
        rw [n0, pu_ob1N, if_pos zero_eq, hy, pu_ob1N, if_neg one_ne, h38]
      · have hy : F_X5_isMark R 62 = some (nI 1) := hy
        have n0 : F_X5_isMark R 60 = some (nI 0) := hn 60 (by omega) (by omega)
        have n1 : F_X5_isMark R 61 = some (nI 0) := hn 61 (by omega) (by omega)
        rw [n0, pu_ob1N, if_pos zero_eq, n1, pu_ob1N, if_pos zero_eq, hy, pu_ob1N, if_neg one_ne, h38]
    · exact Or.inr (hbad 3 (by omega) a4 (fun _ => ⟨d, a1, by omega, a5⟩))
  · exact Or.inr (hbad 4 (by omega) a4 (fun e => by omega))
  · exact Or.inr (hbad 0 (by omega) a4 (fun e => by omega))
  · exact Or.inr (hbad 4 (by omega) a4 (fun e => by omega))
theorem rd_nmb (h : OKs R M k) : (∃ v, v ≤ 999 ∧ F_X5_needNumber R 0 999 = some (nI v, sI R 6 (nI (k + 1))) ∧ M.1 11 = nI 2 ∧ M.1 14 = nI v ∧ R.2.2.1 3 k ≠ nI 40) ∨ (∃ R' M', F_X5_needNumber R 0 999 = some (nO, R') ∧ ¬ M.1 11 = (2 : Int32) ∧ F_X12_bad M (nI 1) = some (nI 0, M') ∧ FLT R' M' ∧ FR [15, 16] [] [] M M') := by
  have hk := ok_k h
  have ho := no_oob (i := k) (n := 901) (by omega) (by omega)
  have hcp : (nI k).toNatClampNeg = k := pu_clamp (by omega)
  have hbad : ∀ s, R.2.2.1 3 k = nI s → s ≤ 40 → s ≠ 37 → ¬ M.1 11 = (2 : Int32) → ∃ R' M', F_X5_needNumber R 0 999 = some (nO, R') ∧ ¬ M.1 11 = (2 : Int32) ∧ F_X12_bad M (nI 1) = some (nI 0, M') ∧ FLT R' M' ∧ FR [15, 16] [] [] M M' := by
    intro s hs s4 s37 hm
    obtain ⟨R', M', c1, c2, c3, c4⟩ := rd_fail (f := 1) h (by omega) (by omega)
    have c1 : F_X5_fail R 1 = some R' := c1
    refine ⟨R', M', ?_, hm, c2, c3, c4⟩
    unfold F_X5_needNumber F_X5_needNumber_21
    rw [h.2.2, if_pos zero_eq, h.2.1, if_neg ho]
    simp only [hcp, hs]
    rw [if_neg (show ¬ nI s = (37 : Int32) from fun e => s37 ((nI_eq (b := 37) (by omega) (by omega)).mp e)), c1, pu_ob1N]
    rfl
  obtain ⟨-, -, ht⟩ := rd_tok h.1
  rcases ht with ⟨l, a1, a2, a3, a4, a5⟩ | ⟨v, a1, a2, a3, a4, a5⟩ | ⟨d, a1, a2, a3, a4, a5⟩ | ⟨a2, a4⟩ | ⟨a2, ⟨-, a4⟩ | ⟨-, a4⟩⟩
  · have := wsort_le l
    exact Or.inr (hbad _ a2 (by omega) (by omega) (by rw [a4]; decide))
  · left
    have hne : R.2.2.1 3 k ≠ nI 40 := by rw [a2]; decide
    have hc := rd_nextC h hne
    refine ⟨v, a1, ?_, a4, a5, hne⟩
    unfold F_X5_needNumber
    rw [h.2.2, if_pos zero_eq, h.2.1, if_neg ho, if_neg ho]
    simp only [hcp, a2, a3, lN_i]
    rw [if_pos (show nI 37 = (37 : Int32) from rfl), pu_nwN, if_neg (show ¬ nI v < (0 : Int32) from nI_nlt (b := 0) (by omega) (by omega)), if_pos (show nI v ≤ (999 : Int32) from nI_le (b := 999) a1 (by omega)), hc, pu_ob1N]
  · exact Or.inr (hbad 38 a2 (by omega) (by omega) (by rw [a4]; decide))
  · exact Or.inr (hbad 39 a2 (by omega) (by omega) (by rw [a4]; decide))
  · exact Or.inr (hbad 40 a2 (by omega) (by omega) (by rw [a4]; decide))
  · exact Or.inr (hbad 40 a2 (by omega) (by omega) (by rw [a4]; decide))
end P46
