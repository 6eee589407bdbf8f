/-! a sentence's leaf, in step -/
def FN (N : St) : Prop := ∃ n, n ≤ 40 ∧ N.1 3 = nI n
section P47
variable {R M S P B N H T X G : St} {V cs cg cu : Vt} {k n o h : Nat} {l : List Nat}
theorem x7_addAny (hN : FN N) (x y z : Int32) : ∃ N', F_X7_addStep N x y z = some N' ∧ FN N' := by
  obtain ⟨n, hn, h3⟩ := hN
  unfold F_X7_addStep
  by_cases q : n = 40
  · refine ⟨N, ?_, n, hn, h3⟩
    rw [h3, q, if_pos (show (40 : Int32) ≤ nI 40 from Int32.le_refl _)]
  · have ho := no_oob (i := n) (n := 40) (by omega) (by omega)
    refine ⟨sI (sA (sA (sA N 0 (nI n) x) 1 (nI n) y) 2 (nI n) z) 3 (nI (n + 1)), ?_, n + 1, by omega, rfl⟩
    have c1 : (sA N 0 (nI n) x).1 3 = nI n := h3
    have c2 : (sA (sA N 0 (nI n) x) 1 (nI n) y).1 3 = nI n := h3
    have c3 : (sA (sA (sA N 0 (nI n) x) 1 (nI n) y) 2 (nI n) z).1 3 = nI n := h3
    rw [h3, if_neg (show ¬ (40 : Int32) ≤ nI n from nI_ge (b := 40) (by omega) (by omega)), if_neg ho, pu_nwN, c1, if_neg ho, pu_nwN, c2, if_neg ho, pu_nwN, c3, nIs, pu_nwN]
theorem x7_add {s g u : Nat} (hN : CN N cs cg cu n o) (hn : n < 40) : ∃ N', F_X7_addStep N (nI s) (nI g) (nI u) = some N' ∧ CN N' (up cs n s) (up cg n g) (up cu n u) (n + 1) o := by
  obtain ⟨h3, h4, hc⟩ := hN
  have ho := no_oob (i := n) (n := 40) (by omega) (by omega)
  refine ⟨sI (sA (sA (sA N 0 (nI n) (nI s)) 1 (nI n) (nI g)) 2 (nI n) (nI u)) 3 (nI (n + 1)), ?_, rfl, h4, fun i hi => ?_⟩
  · unfold F_X7_addStep
    have c1 : (sA N 0 (nI n) (nI s)).1 3 = nI n := h3
    have c2 : (sA (sA N 0 (nI n) (nI s)) 1 (nI n) (nI g)).1 3 = nI n := h3
    have c3 : (sA (sA (sA N 0 (nI n) (nI s)) 1 (nI n) (nI g)) 2 (nI n) (nI u)).1 3 = nI n := h3
    rw [h3, if_neg (show ¬ (40 : Int32) ≤ nI n from nI_ge (b := 40) (by omega) (by omega)), if_neg ho, pu_nwN, c1, if_neg ho, pu_nwN, c2, if_neg ho, pu_nwN, c3, nIs, pu_nwN]
  · show (sA (sA (sA N 0 (nI n) (nI s)) 1 (nI n) (nI g)) 2 (nI n) (nI u)).2.2.1 0 i = _ ∧ (sA (sA (sA N 0 (nI n) (nI s)) 1 (nI n) (nI g)) 2 (nI n) (nI u)).2.2.1 1 i = _ ∧ (sA (sA (sA N 0 (nI n) (nI s)) 1 (nI n) (nI g)) 2 (nI n) (nI u)).2.2.1 2 i = _
    have e0 : (sA (sA (sA N 0 (nI n) (nI s)) 1 (nI n) (nI g)) 2 (nI n) (nI u)).2.2.1 0 i = if i = n then nI s else N.2.2.1 0 i := by rw [pu_sAn (by omega), pu_sAn (by omega), pu_sAe (by omega)]
    have e1 : (sA (sA (sA N 0 (nI n) (nI s)) 1 (nI n) (nI g)) 2 (nI n) (nI u)).2.2.1 1 i = if i = n then nI g else N.2.2.1 1 i := by rw [pu_sAn (by omega), pu_sAe (by omega), pu_sAn (by omega)]
    have e2 : (sA (sA (sA N 0 (nI n) (nI s)) 1 (nI n) (nI g)) 2 (nI n) (nI u)).2.2.1 2 i = if i = n then nI u else N.2.2.1 2 i := by rw [pu_sAe (by omega), pu_sAn (by omega), pu_sAn (by omega)]
    rw [e0, e1, e2]
    by_cases q : i = n
    · rw [if_pos q, if_pos q, if_pos q, q, pu_upe, pu_upe, pu_upe]
      exact ⟨rfl, rfl, rfl⟩
    · rw [if_neg q, if_neg q, if_neg q, pu_upn q, pu_upn q, pu_upn q]
      exact hc i (by omega)
theorem ok_code {M' : St} (h : OKs R M k) (hf : FR [42] [8] [] M M') (e : M'.2.1 = M.2.1) : OKs R M' k := ⟨rd_M h.1 hf (by rw [e]) (by decide) (by decide) (by decide) (by decide) (by decide) (by decide) (by decide), h.2⟩
theorem rd_word {fi m j : Nat} (h : OKs R M k) (hj : j < m) (hm : fi + m ≤ 36) (a2 : R.2.2.1 3 k = nI (fi + j)) : F_X5_isWordFrom R (nI fi) (nI m) = some (nI 1) ∧ F_X5_needWordFrom R (nI fi) (nI m) = some (nI j, sI R 6 (nI (k + 1))) ∧ R.2.2.1 3 k ≠ nI 40 := by
  have hk := ok_k h
  have ho := no_oob (i := k) (n := 901) (by omega) (by omega)
  have hcp : (nI k).toNatClampNeg = k := pu_clamp (by omega)
  have ne : R.2.2.1 3 k ≠ nI 40 := by rw [a2]; intro e; have := (nI_eq (by omega) (by omega)).mp e; omega
  have i1 : F_X5_isWordFrom R (nI fi) (nI m) = some (nI 1) := by
    unfold F_X5_isWordFrom
    rw [h.2.2, if_pos zero_eq, h.2.1, if_neg ho, if_neg ho]
    simp only [hcp, a2]
    rw [if_neg (nI_nlt (by omega) (by omega)), pu_add, if_neg (nI_ge (by omega) (by omega))]
    rfl
  refine ⟨i1, ?_, ne⟩
  unfold F_X5_needWordFrom
  rw [i1, pu_ob1N, if_neg one_ne, h.2.1, if_neg ho, hcp, a2, show nI (fi + j) - nI fi = nI j from by rw [pu_sub (by omega), Nat.add_sub_cancel_left], pu_nwN, rd_nextC h ne, pu_ob1N]
/-- the model's code behind the class's: in step again -/
theorem PD_leaf {N' M1 : St} {a g u : Nat} (hp : PD N M cs cg cu n o h []) (hn : n < 40) (hf : FR [4, 11, 12, 13, 14, 18, 43, 46] [] [] M M1) (h43 : M1.1 43 = nI (o + 1)) (hN : CN N' (up cs n (27 + a)) (up cg n g) (up cu n u) (n + 1) (o + 1)) (ha : a < 9) : ∃ M', F_X12_code M1 (nI a) (nI g) (nI u) = some M' ∧ PD N' M' (up cs n (27 + a)) (up cg n g) (up cu n u) (n + 1) (o + 1) h [] ∧ FR [42] [8] [] M1 M' ∧ M'.2.1 = M1.2.1 := by
  obtain ⟨-, ⟨b1, b2, b3⟩, -, -, e, -, -, g2⟩ := hp
  obtain ⟨M', m1, m2, m3, m4, m5, m6, m7, m8⟩ := x12_codeP (M := M1) (n := n) (a := a) (g := g) (u := u) (by omega) (by rw [hf.1 42 (by decide), b1])
  refine ⟨M', m1, ⟨hN, ⟨m2, by rw [m7.1 43 (by decide), h43], fun i hi => ?_⟩, trivial, trivial, by rw [m7.1 44 (by decide), hf.1 44 (by decide), e], fun x hx => absurd hx List.not_mem_nil, by simp only [List.length_nil]; omega, g2⟩, m7, m8⟩
  by_cases q : i = n
  · rw [q, m3, m4, m5, pu_upe, pu_upe, pu_upe]
    refine ⟨?_, rfl, rfl⟩
    unfold mcd
    rw [if_neg (by omega), if_neg (by omega), if_neg (by omega), Nat.add_sub_cancel_left]
  · have hh : ∀ j, j < 3 * n → M'.2.2.1 8 j = M.2.2.1 8 j := fun j hj => by rw [m6 j hj, hf.2.1 8 (by decide)]
    rw [hh _ (by omega), hh _ (by omega), hh _ (by omega), pu_upn q, pu_upn q, pu_upn q]
    exact b3 i (by omega)
end P47
