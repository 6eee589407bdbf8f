/-! what was, with a book lived: the place kept is the one before the book -/
section P40
variable {R M S P B N H T X G : St} {K : KSt} {V : Vt} {k n : Nat}
theorem x12_over (x1 x2 : Int32) {m : Nat} (hm : m < 8) (h22 : M.1 22 = nI (m + 1)) : ∃ M', L_X12_book_249 x1 x2 0 M = F_X12_book_283 x1 x2 M' ∧ (∀ i, i < 35 → M'.2.2.1 20 (35 * m + i) = M.2.2.1 21 i) ∧ (∀ i, i < 35 * m → M'.2.2.1 20 i = M.2.2.1 20 i) ∧ FR [] [20] [] M M' := by
  obtain ⟨⟨u1, u2, u3, M1⟩, ⟨e1, e2, e3, e4, e5, e6⟩, l1⟩ := lp_invG (body := fun kz (z : Int32 × Int32 × Int32 × St) => F_X12_book_249 kz z.1 z.2.1 z.2.2.1 z.2.2.2) (fun i z => z.1 = x1 ∧ z.2.1 = x2 ∧ z.2.2.1 = nI i ∧ (∀ j, j < i → z.2.2.2.2.2.1 20 (35 * m + j) = M.2.2.1 21 j) ∧ (∀ j, j < 35 * m → z.2.2.2.2.2.1 20 j = M.2.2.1 20 j) ∧ FR [] [20] [] M z.2.2.2) 35 (fun z => F_X12_book_283 z.1 z.2.1 z.2.2.2) (fun i hi z ⟨e1, e2, e3, e4, e5, e6⟩ => by
    refine ⟨(x1, x2, nI (i + 1), sA z.2.2.2 20 (nI (35 * m + i)) (M.2.2.1 21 i)), ⟨rfl, rfl, rfl, fun j hj => ?_, fun j hj => ?_, e6.tr (FR.sA (by decide))⟩, fun k => ?_⟩
    · rw [pu_sAe (by omega)]
      by_cases q : j = i
      · rw [q, if_pos rfl]
      · rw [if_neg (by omega)]; exact e4 j (by omega)
    · rw [pu_sAe (by omega), if_neg (by omega)]; exact e5 j hj
    · unfold F_X12_book_249
      have hz : (35 : Int32) * (z.2.2.2.1 22 - 1) + nI i = nI (35 * m + i) := by
        rw [e6.1 22 (by decide), h22, show nI (m + 1) - (1 : Int32) = nI m from by rw [show (1 : Int32) = nI 1 from rfl, pu_sub (by omega), Nat.add_sub_cancel], show (35 : Int32) = nI 35 from rfl, pu_mul, pu_add]
      rw [e3, if_neg (show ¬ (35 : Int32) ≤ nI i from nI_ge (b := 35) (by omega) (by omega)), if_neg (no_oob (n := 35) (by omega) (by omega)), hz, if_neg (no_oob (n := 280) (by omega) (by omega)), pu_clamp (by omega), e6.2.1 21 (by decide), pu_nwN, nIs, e1, e2]) (fun z ⟨e1, e2, e3, e4, e5, e6⟩ k => by
    unfold F_X12_book_249
    rw [e3, if_pos (show (35 : Int32) ≤ nI 35 from Int32.le_refl _)]) (x0 := (x1, x2, (0 : Int32), M)) ⟨rfl, rfl, rfl, fun j hj => by omega, fun j hj => rfl, FR.rf⟩ (N := FU) (by decide)
  have e1 : u1 = x1 := e1
  have e2 : u2 = x2 := e2
  refine ⟨M1, ?_, e4, e5, e6⟩
  unfold L_X12_book_249
  rw [l1, e1, e2]
theorem hist_swap {H' : St} {V0 : Vt} {M4 : St} {nx m : Nat} (h : HR S H' (va_up K nx S) M V) (hnx : nx < 9) (h1 : H'.1 1 = nI ((nx + 1) % 9)) (h22 : M.1 22 = nI (m + 1)) (hm : m < 8) (hB : RS B V0) (hBS : B.2.2.2 = S.2.2.2) (hv : SV V V0) (hw : WF V0) (e22 : M4.1 22 = M.1 22) (g1 : ∀ i, i < 35 → M4.2.2.1 20 (35 * m + i) = nI (V0 (42 + i))) (g2 : ∀ i, i < 35 * m → M4.2.2.1 20 i = M.2.2.1 20 i) : HR S H' (va_up K nx B) M4 V := by
  obtain ⟨m', nx', L, a1, a2, a3, a4, a5, a6⟩ := h
  have hm' : m' = m + 1 := by
    rw [h22] at a5
    have := (nI_eq (by omega) (by omega)).mp a5
    omega
  have hx' : nx' = (nx + 1) % 9 := by
    rw [h1] at a3
    have := (nI_eq (by omega) (by omega)).mp a3
    omega
  subst hm'
  refine ⟨m + 1, nx', fun j => if j = m then V0 else L j, a1, a2, a3, a4, by rw [e22]; exact a5, fun j hj => ?_⟩
  by_cases e : j = m
  · have hs : (nx' + 9 - (m + 1) + j) % 9 = nx := by omega
    rw [hs, va_upe]
    simp only [if_pos e]
    refine ⟨hB, hBS, hv, hw, fun i hi => ?_⟩
    rw [e]
    exact g1 i hi
  · have hs : (nx' + 9 - (m + 1) + j) % 9 ≠ nx := by omega
    rw [va_upn hs]
    simp only [if_neg e]
    obtain ⟨b1, b2, b3, b4, b5⟩ := a6 j hj
    rw [va_upn hs] at b1 b2
    exact ⟨b1, b2, b3, b4, fun i hi => by rw [g2 _ (by omega)]; exact b5 i hi⟩
theorem x2_keepC {H' : St} {nx m : Nat} (hk : F_X2_keep H = some H') (h1 : H.1 1 = nI nx) (hnx : nx < 9) (h2 : H.1 2 = nI m) (hm : m ≤ 8) : H'.1 1 = nI ((nx + 1) % 9) ∧ H'.1 2 = nI (min 8 (m + 1)) := by
  unfold F_X2_keep at hk
  have key : ∀ y, F_X2_keep_20 y H = some (sI (sI H 1 y) 2 (nI (min 8 (m + 1)))) := by
    intro y
    unfold F_X2_keep_20
    have e2 : (sI H 1 y).1 2 + (1 : Int32) = nI (m + 1) := by show H.1 2 + 1 = _; rw [h2, nIs]
    rw [pu_nwN, e2]
    by_cases q : m = 8
    · subst q
      rw [if_pos (by decide), pu_nwN]
      rfl
    · rw [if_neg (show ¬ (8 : Int32) < nI (m + 1) from nI_nlt (a := 8) (b := m + 1) (by omega) (by omega)), pu_nwN, show min 8 (m + 1) = m + 1 by omega]
  rw [h1] at hk
  by_cases q : nx = 8
  · subst q
    rw [if_pos (show nI 8 = (8 : Int32) from rfl), key] at hk
    cases hk
    exact ⟨rfl, rfl⟩
  · rw [if_neg (show ¬ nI nx = (8 : Int32) from fun e => q ((nI_eq (b := 8) (by omega) (by omega)).mp e)), nIs, key] at hk
    cases hk
    exact ⟨by rw [Nat.mod_eq_of_lt (by omega)]; rfl, rfl⟩
end P40
