/-! any line of a book, in step; all of them -/
section P38
variable {R M S P B N H T X G : St} {K : KSt} {V : Vt} {k n : Nat}
theorem FLc_8 (h : FLc R) : ¬ R.1 8 = 0 := by
  obtain ⟨f, q, h1, h4, h8, h6, hk⟩ := h
  rw [h8]; exact nI_ne0 (by omega) (by omega)
theorem fl_0 (h : FLc R) (x : Int32) : F_X0_readLine_41 x G R B = some (G, R) ∧ F_X0_readLine_19 x G R B = some (G, R) := by
  have h41 : F_X0_readLine_41 x G R B = some (G, R) := by
    unfold F_X0_readLine_41
    rw [if_neg (FLc_8 h)]
  refine ⟨h41, ?_⟩
  unfold F_X0_readLine_19
  rw [if_neg (FLc_8 h), h41]
theorem rd_full {x2 : Int32} (h : OKs R M k) (hG : G.1 4 = nI 40) (hM : M.1 38 = nI 40) (x y : Int32) : ∃ R' M', F_X0_readLine_19 x G R B = some (G, R') ∧ F_X12_bookLine_87 y x2 M = some (nI 0, M') ∧ FLT R' M' ∧ FR [15, 16] [] [] M M' := by
  obtain ⟨R', M', f1, f2, f3, f4⟩ := rd_fail (f := 4) h (by omega) (by omega)
  have f1 : F_X5_fail R 4 = some R' := f1
  have f2 : F_X12_bad M 4 = some (nI 0, M') := f2
  refine ⟨R', M', ?_, ?_, f3, f4⟩
  · unfold F_X0_readLine_19
    rw [h.2.2, if_pos zero_eq, hG, if_neg (show ¬ nI 40 < (40 : Int32) by decide), f1, pu_ob1N, (fl_0 f3.1 x).1]
  · unfold F_X12_bookLine_87
    rw [hM, if_pos (show nI 40 = (40 : Int32) from rfl), f2, pu_ob2N, if_neg nb0]
theorem rd_not40 (h : OKs R M k) (hG : G.1 4 = nI n) (hn : n < 40) (x : Int32) : F_X0_readLine_19 x G R B = F_X0_readLine_41 x G R B := by
  unfold F_X0_readLine_19
  rw [h.2.2, if_pos zero_eq, hG, if_pos (show nI n < (40 : Int32) from nI_lt (b := 40) hn (by omega))]
theorem rd_bookLine (h : OKs R M k) (hb : BK B M V) (hG : G.1 4 = nI n) (hn : n ≤ 40) (hM : M.1 38 = nI n) : ∃ G' R' M' k' r, F_X0_readLine G R B = some (G', R') ∧ F_X12_bookLine M = some (r, M') ∧ BRES V G G' R' M M' k k' n r ∧ (r = nI 1 → n < 40) := by
  have hv1 := hb.2.2.2.1
  have h4 : (4 : Int32) * nI n = nI (4 * n) := by rw [show (4 : Int32) = nI 4 from rfl, pu_mul]
  have wd : ∀ i, i < 36 → ∃ t : Bool, F_X12_isWord M (lN (r256 (wl i))) = some (nI (tn t)) ∧ (t = true ↔ R.2.2.1 3 k = nI i) := fun i hi => by
    obtain ⟨t, -, a2, a3, a4⟩ := rd_isWord (i := i) h hi
    exact ⟨t, a2, fun e => (a3 e).2, a4⟩
  obtain ⟨t0, w0, x0⟩ := wd 20 (by omega)
  obtain ⟨t1, w1, x1⟩ := wd 21 (by omega)
  obtain ⟨t2, w2, x2⟩ := wd 22 (by omega)
  obtain ⟨t3, w3, x3⟩ := wd 23 (by omega)
  have w0 : F_X12_isWord M (495874699885 : Int64) = some (nI (tn t0)) := w0
  have w1 : F_X12_isWord M (2002873452 : Int64) = some (nI (tn t1)) := w1
  have w2 : F_X12_isWord M (129117309725804 : Int64) = some (nI (tn t2)) := w2
  have w3 : F_X12_isWord M (6578553 : Int64) = some (nI (tn t3)) := w3
  have T1 : ¬ nI (tn true) = (0 : Int32) := one_ne
  have T0 : nI (tn false) = (0 : Int32) := zero_eq
  rcases rd_from (fr := 20) (fi := 20) (m := 4) h hb.2.2.2.2.2.2.2 (by omega) (by omega) (by omega) pm_plain with ⟨j, hj, a1, a2, -, a4⟩ | ⟨a1, R', M', a2, a3, a4, a5⟩
  · have a1 : F_X5_isWordFrom R 20 4 = some (nI 1) := a1
    have hne : ∀ i, i < 36 → i ≠ 20 + j → R.2.2.1 3 k ≠ nI i := fun i hi e => by rw [a2]; intro q; have := (nI_eq (by omega) (by omega)).mp q; omega
    have hf : ∀ (t : Bool) (i : Nat), i < 36 → (t = true ↔ R.2.2.1 3 k = nI i) → i ≠ 20 + j → t = false := fun t i hi q e => by
      cases t with
      | false => rfl
      | true => exact absurd (q.mp rfl) (hne i hi e)
    have hm : F_X12_bookLine M = F_X12_bookLine_87 (nI (4 * n)) (nI (3 + j)) M := by
      have h65 : ∀ s, 1 ≤ s → s ≤ 6 → F_X12_bookLine_65 (nI (4 * n)) (nI s) M = F_X12_bookLine_87 (nI (4 * n)) (nI s) M := fun s hs1 hs2 => by
        unfold F_X12_bookLine_65
        rw [if_neg (nI_ne0 (by omega) (by omega))]
      unfold F_X12_bookLine
      rw [hM, h4]
      rcases (show j = 0 ∨ j = 1 ∨ j = 2 ∨ j = 3 by omega) with rfl | rfl | rfl | rfl
      · rw [w0, x0.mpr a2, pu_ob1N, if_neg T1]
        exact h65 3 (by omega) (by omega)
      · rw [w0, hf t0 20 (by omega) x0 (by omega), pu_ob1N, if_pos T0, w1, x1.mpr a2, pu_ob1N, if_neg T1]
        exact h65 4 (by omega) (by omega)
      · rw [w0, hf t0 20 (by omega) x0 (by omega), pu_ob1N, if_pos T0, w1, hf t1 21 (by omega) x1 (by omega), pu_ob1N, if_pos T0, w2, x2.mpr a2, pu_ob1N, if_neg T1]
        exact h65 5 (by omega) (by omega)
      · rw [w0, hf t0 20 (by omega) x0 (by omega), pu_ob1N, if_pos T0, w1, hf t1 21 (by omega) x1 (by omega), pu_ob1N, if_pos T0, w2, hf t2 22 (by omega) x2 (by omega), pu_ob1N, if_pos T0, w3, x3.mpr a2, pu_ob1N, if_neg T1]
        exact h65 6 (by omega) (by omega)
    have hc : F_X0_readLine G R B = F_X0_readLine_19 (-1) G R B := by
      unfold F_X0_readLine
      rw [a1, pu_ob1N, if_neg one_ne]
    rw [hm, hc]
    by_cases q : n = 40
    · subst q
      obtain ⟨R', M', c1, c2, c3, c4⟩ := rd_full (B := B) (x2 := nI (3 + j)) h hG hM (-1) (nI (4 * 40))
      exact ⟨G, R', M', k, nI 0, c1, c2, ⟨c4.mono (by decide) (by decide) (by decide), Or.inr ⟨rfl, c3⟩⟩, fun e => absurd e (by decide)⟩
    · rw [rd_not40 h hG (by omega)]
      obtain ⟨G', R', M', k', r, c1, c2, c3⟩ := rd_plain h hb hG (by omega) hM hj a1 a2
      exact ⟨G', R', M', k', r, c1, c2, c3, fun _ => by omega⟩
  · have a1 : F_X5_isWordFrom R 20 4 = some (nI 0) := a1
    have hno : ∀ (t : Bool) (i : Nat), 20 ≤ i → i < 24 → (t = true ↔ R.2.2.1 3 k = nI i) → t = false := fun t i h1 h2 q => by
      cases t with
      | false => rfl
      | true =>
        have e := q.mp rfl
        have hk := ok_k h
        have : F_X5_isWordFrom R 20 4 = some (nI 1) := by
          unfold F_X5_isWordFrom
          rw [h.2.2, if_pos zero_eq, h.2.1, if_neg (no_oob (i := k) (n := 901) (by omega) (by omega))]
          have hcp : (nI k).toNatClampNeg = k := pu_clamp (by omega)
          simp only [hcp, e]
          rw [if_neg (show ¬ nI i < (20 : Int32) from nI_nlt (b := 20) h1 (by omega)), if_neg (no_oob (i := k) (n := 901) (by omega) (by omega)), if_neg (show ¬ (20 : Int32) + 4 ≤ nI i from nI_ge (b := 24) (by omega) (by omega))]
          rfl
        rw [this] at a1
        exact absurd (Option.some.inj a1) (by decide)
    have hm : F_X12_bookLine M = F_X12_bookLine_65 (nI (4 * n)) 0 M := by
      unfold F_X12_bookLine
      rw [hM, h4, w0, hno t0 20 (by omega) (by omega) x0, pu_ob1N, if_pos T0, w1, hno t1 21 (by omega) (by omega) x1, pu_ob1N, if_pos T0, w2, hno t2 22 (by omega) (by omega) x2, pu_ob1N, if_pos T0, w3, hno t3 23 (by omega) (by omega) x3, pu_ob1N, if_pos T0]
    have hc : F_X0_readLine G R B = ob2 (F_X5_seePerson R B) fun r5 U6 => F_X0_readLine_19 r5 G U6 B := by
      unfold F_X0_readLine
      rw [a1, pu_ob1N, if_pos zero_eq]
    have h65 : F_X12_bookLine_65 (nI (4 * n)) 0 M = ob2 (F_X12_looksAt M 7 (nI (V 1))) fun r4 U5 => if r4 = 0 then some ((0 : Int32), U5) else F_X12_bookLine_87 (nI (4 * n)) 0 U5 := by
      unfold F_X12_bookLine_65
      rw [if_pos rfl, if_neg (show ¬ oob (1 : Int32) 258 from no_oob (i := 1) (by omega) (by omega)), show M.2.2.1 6 (1 : Int32).toNatClampNeg = nI (V 1) from hb.2.2.2.2.2.1]
    rw [hm, hc, h65]
    rcases rd_lookP (c := V 1) (fr := 7) (S := B) h hb.2.2.2.2.2.2.2 hb.2.1 hv1 (by omega) (fun t ht => hb.2.2.2.2.2.2.1.2 t ht) with ⟨p, hp, c0, -, c2, c3⟩ | ⟨R2, M2, c0, -, c2, c3, c4⟩
    · have c2 : F_X12_looksAt M 7 (nI (V 1)) = some (nI 1, sI M 18 (nI p)) := c2
      rw [c0, pu_ob2N, c2, pu_ob2N, if_neg one_ne]
      have hO := ok_sI (f := 18) (v := nI p) h (by omega)
      have hFs : FR [4, 11, 12, 13, 14, 15, 16, 18] [8] [] M (sI M 18 (nI p)) := FR.sI (by decide)
      by_cases q : n = 40
      · subst q
        obtain ⟨R', M', d1, d2, d3, d4⟩ := rd_full (B := B) (x2 := 0) hO hG hM (nI p) (nI (4 * 40))
        exact ⟨G, R', M', k, nI 0, d1, d2, ⟨hFs.tr (d4.mono (by decide) (by decide) (by decide)), Or.inr ⟨rfl, d3⟩⟩, fun e => absurd e (by decide)⟩
      · rw [rd_not40 h hG (by omega)]
        obtain ⟨G', R', M', k', r, d1, d2, d3, d4⟩ := rd_of hO (BK_fr hb hFs (by decide) (by decide) (by decide)) hG (by omega) hM hp rfl c3
        exact ⟨G', R', M', k', r, d1, d2, ⟨hFs.tr d3, d4⟩, fun _ => by omega⟩
    · have c2 : F_X12_looksAt M 7 (nI (V 1)) = some (nI 0, M2) := c2
      refine ⟨G, R2, M2, k, nI 0, ?_, ?_, ⟨c4.mono (by decide) (by decide) (by decide), Or.inr ⟨rfl, c3⟩⟩, fun e => absurd e (by decide)⟩
      · rw [c0, pu_ob2N, (fl_0 c3.1 nO).2]
      · rw [c2, pu_ob2N, if_pos zero_eq]
        rfl
end P38
