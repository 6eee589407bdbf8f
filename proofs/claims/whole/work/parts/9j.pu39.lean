/-! a book's lines, all of them, in step -/
def BNS (V : Vt) (G' R' M M' : St) (x1 r1 : Int32) (o : Option (Int32 × St)) : Prop := FR [4, 11, 12, 13, 14, 15, 16, 18, 38] [8] [] M M' ∧ ((∃ n, n ≤ 40 ∧ r1 = nI 1 ∧ R'.1 8 = nI 0 ∧ M'.1 15 = nI 0 ∧ G'.1 4 = nI n ∧ M'.1 38 = nI n ∧ (∀ j, j < n → LR V G' M' j) ∧ o = ob1 (F_X12_tries M') fun U3 => L_X12_book_89 x1 0 U3) ∨ (r1 = nI 0 ∧ FLT R' M' ∧ o = some ((-2 : Int32) - M'.1 16, M')))
section P39
variable {R M S P B N H T X G : St} {K : KSt} {V : Vt} {k n : Nat}
theorem rd_noBook (h : OKs R M k) (hb : BK B M V) (he : R.2.2.1 3 k = nI 40) (hM : M.1 38 = nI n) (hn : n ≤ 40) {M' : St} (hbad : F_X12_bad M (nI 1) = some (nI 0, M')) : F_X12_bookLine M = some (nI 0, M') := by
  have hbad : F_X12_bad M 1 = some (nI 0, M') := hbad
  have key : ∀ i, i < 36 → F_X12_isWord M (lN (r256 (wl i))) = some (nI 0) := by
    intro i hi
    obtain ⟨t, -, a2, a3, -⟩ := rd_isWord (i := i) h hi
    cases t with
    | true => exact absurd he (a3 rfl).1
    | false => exact a2
  have a0 : F_X12_isWord M (495874699885 : Int64) = some (nI 0) := key 20 (by omega)
  have a1 : F_X12_isWord M (2002873452 : Int64) = some (nI 0) := key 21 (by omega)
  have a2 : F_X12_isWord M (129117309725804 : Int64) = some (nI 0) := key 22 (by omega)
  have a3 : F_X12_isWord M (6578553 : Int64) = some (nI 0) := key 23 (by omega)
  have hnm : F_X12_isName M = some (nI 0) := by
    obtain ⟨t, -, b2, b3⟩ := rd_isName h hb.2.2.2.2.2.2.2
    cases t with
    | true => exact absurd he (b3 rfl).1
    | false => exact b2
  have hl : F_X12_looksAt M 7 (M.2.2.1 6 (1 : Int32).toNatClampNeg) = some (nI 0, M') := by
    unfold F_X12_looksAt
    rw [hnm, pu_ob1N, if_pos zero_eq, hbad, pu_ob2N, if_neg nb0]
  unfold F_X12_bookLine F_X12_bookLine_65
  rw [a0, pu_ob1N, if_pos zero_eq, a1, pu_ob1N, if_pos zero_eq, a2, pu_ob1N, if_pos zero_eq, a3, pu_ob1N, if_pos zero_eq, if_pos rfl, if_neg (show ¬ oob (1 : Int32) 258 from no_oob (i := 1) (by omega) (by omega)), hl, pu_ob2N, if_pos zero_eq]
  rfl
theorem rd_book (P B : St) (V : Vt) (x1 : Int32) : ∀ d k n R M G, 901 ≤ k + d → OKs R M k → BK B M V → M.1 15 = nI 0 → n ≤ 40 → G.1 4 = nI n → M.1 38 = nI n → (∀ j, j < n → LR V G M j) → ∀ N1 N2, ∃ r1 G' R' M' o, lp (fun kz (z : Int32 × St × St × St × St) => F_X0_readFrom_14 kz z.1 z.2.1 z.2.2.1 z.2.2.2.1 z.2.2.2.2) (d + 1 + N1) (nI n, G, R, P, B) = some (r1, G', R') ∧ lp (fun kz (z : Int32 × St) => F_X12_book_39 kz z.1 z.2) (d + N2) (x1, M) = o ∧ BNS V G' R' M M' x1 r1 o := by
  intro d
  induction d with
  | zero => intro k n R M G hd h; have := ok_k h; omega
  | succ d ih =>
    intro k n R M G hd h hb h15 hn hG hM hL N1 N2
    have hk := ok_k h
    have e1 : d + 1 + 1 + N1 = (d + 1 + N1) + 1 := by omega
    have e2 : d + 1 + N2 = (d + N2) + 1 := by omega
    have e3 : d + 1 + N1 = (d + N1) + 1 := by omega
    rw [e1, e2]
    show ∃ r1 G' R' M' o, F_X0_readFrom_14 (lp (fun kz (z : Int32 × St × St × St × St) => F_X0_readFrom_14 kz z.1 z.2.1 z.2.2.1 z.2.2.2.1 z.2.2.2.2) (d + 1 + N1)) (nI n) G R P B = some (r1, G', R') ∧ F_X12_book_39 (lp (fun kz (z : Int32 × St) => F_X12_book_39 kz z.1 z.2) (d + N2)) x1 M = o ∧ BNS V G' R' M M' x1 r1 o
    have hle : ¬ (400 : Int32) ≤ nI n := nI_ge (a := n) (b := 400) (by omega) (by omega)
    rcases rd_goes h with ⟨a1, a2, a3⟩ | ⟨a1, a2, a3, a4⟩ | ⟨a1, a2, a3, R', M', a4, a5, a6, a7⟩
    · obtain ⟨G1, R1, M1, k1, r, b1, b2, ⟨b3, b5⟩, b6⟩ := rd_bookLine h hb hG hn hM
      have hc1 : F_X0_readFrom_14 (lp (fun kz (z : Int32 × St × St × St × St) => F_X0_readFrom_14 kz z.1 z.2.1 z.2.2.1 z.2.2.2.1 z.2.2.2.2) (d + 1 + N1)) (nI n) G R P B = ob1 (F_X5_needMark R1 59) fun U9 => lp (fun kz (z : Int32 × St × St × St × St) => F_X0_readFrom_14 kz z.1 z.2.1 z.2.2.1 z.2.2.2.1 z.2.2.2.2) (d + 1 + N1) (nI n + 1, G1, U9, P, B) := by
        unfold F_X0_readFrom_14
        rw [if_neg hle, a2, pu_ob1N, if_neg one_ne, b1, pu_ob2N]
      have hst : ∀ G1 R1 : St, FLc R1 → lp (fun kz (z : Int32 × St × St × St × St) => F_X0_readFrom_14 kz z.1 z.2.1 z.2.2.1 z.2.2.2.1 z.2.2.2.2) (d + 1 + N1) (nI n + 1, G1, R1, P, B) = some (nI 0, G1, R1) := by
        intro G1 R1 hf
        rw [e3]
        show F_X0_readFrom_14 (lp (fun kz (z : Int32 × St × St × St × St) => F_X0_readFrom_14 kz z.1 z.2.1 z.2.2.1 z.2.2.2.1 z.2.2.2.2) (d + N1)) (nI n + 1) G1 R1 P B = _
        have h46 : F_X0_readFrom_46 G1 R1 P B = some (nI 0, G1, R1) := by
          unfold F_X0_readFrom_46
          rw [fl_closes hf, pu_ob2N, if_neg nb0]
        unfold F_X0_readFrom_14
        rw [fl_goes hf, pu_ob1N, if_pos zero_eq, h46, ite_self]
      rw [hc1]
      rcases b5 with ⟨c1, c2, c3, c4, c5, c6, c7, c8⟩ | ⟨c1, c2⟩
      · rcases rd_mark (c := 59) c2 (by omega) with ⟨M2, m1, m2, m3, m4⟩ | ⟨R2, M2, m1, m2, m3, m4⟩
        · have m1 : F_X5_needMark R1 59 = some (sI R1 6 (nI (k1 + 1))) := m1
          have m2 : F_X12_sign M1 59 = some (nI 1, M2) := m2
          have q38 : M2.1 38 = nI n := by rw [m4.1 38 (by decide), b3.1 38 (by decide), hM]
          have q15 : M2.1 15 = nI 0 := by rw [m4.1 15 (by decide), c7, h15]
          have hF : FR [4, 11, 12, 13, 14, 15, 16, 18, 38] [8] [] M (sI M2 38 (nI (n + 1))) := ((b3.mono (by decide) (by decide) (by decide)).tr (m4.mono (by decide) (by decide) (by decide))).tr (FR.sI (by decide))
          have hMO' : MO M M2 n := c6.fr m4 (by decide)
          have hMO : MO M (sI M2 38 (nI (n + 1))) n := hMO'
          obtain ⟨r1, G', R', M', o, d1, d2, d3, d5⟩ := ih (k1 + 1) (n + 1) (sI R1 6 (nI (k1 + 1))) (sI M2 38 (nI (n + 1))) G1 (by omega) (ok_sI m3 (by omega)) (BK_fr hb hF (by decide) (by decide) (by decide)) q15 (by have := b6 c1; omega) c3 rfl (fun j hj => by
            by_cases e : j = n
            · rw [e]
              obtain ⟨a, f, s, v, l1, l2, l3, l4, l5, l6, l7, l8, l9, l10, l11, l12⟩ := c4
              have g8 : (sI M2 38 (nI (n + 1))).2.2.1 8 = M1.2.2.1 8 := m4.2.1 8 (by decide)
              exact ⟨a, f, s, v, l1, l2, l3, l4, by rw [g8]; exact l5, by rw [g8]; exact l6, fun e => by rw [g8]; exact l7 e, l8, fun e => by rw [g8]; exact l9 e, l10, l11, l12⟩
            · exact LR_old (hL j (by omega)) c5 hMO (by omega)) N1 N2
          refine ⟨r1, G', R', M', o, ?_, ?_, hF.tr d3, d5⟩
          · rw [m1, pu_ob1N, nIs]
            exact d1
          · generalize lp (fun kz (z : Int32 × St) => F_X12_book_39 kz z.1 z.2) (d + N2) = L at d2 ⊢
            unfold F_X12_book_39
            rw [if_neg a3, b2, pu_ob2N, c1, if_neg one_ne, m2, pu_ob2N, if_neg one_ne, q38, nIs, pu_nwN]
            exact d2
        · have m1 : F_X5_needMark R1 59 = some R2 := m1
          have m2 : F_X12_sign M1 59 = some (nI 0, M2) := m2
          refine ⟨nI 0, G1, R2, M2, _, ?_, rfl, (b3.mono (by decide) (by decide) (by decide)).tr (m4.mono (by decide) (by decide) (by decide)), Or.inr ⟨rfl, m3, ?_⟩⟩
          · rw [m1, pu_ob1N]
            exact hst G1 R2 m3.1
          · unfold F_X12_book_39
            rw [if_neg a3, b2, pu_ob2N, c1, if_neg one_ne, m2, pu_ob2N, if_pos zero_eq]
      · refine ⟨nI 0, G1, R1, M1, _, ?_, rfl, b3.mono (by decide) (by decide) (by decide), Or.inr ⟨rfl, c2, ?_⟩⟩
        · rw [fl_needMark c2.1 59, pu_ob1N]
          exact hst G1 R1 c2.1
        · unfold F_X12_book_39
          rw [if_neg a3, b2, pu_ob2N, c1, if_pos zero_eq]
    · have h46 : F_X0_readFrom_46 G R P B = some (nI 1, G, R) := by
        unfold F_X0_readFrom_46
        rw [a3, pu_ob2N, if_neg nb1]
      refine ⟨nI 1, G, R, M, _, ?_, rfl, FR.rf, Or.inl ⟨n, hn, rfl, h.2.2, h15, hG, hM, hL, ?_⟩⟩
      · unfold F_X0_readFrom_14
        rw [a2, pu_ob1N, if_pos zero_eq, h46, ite_self]
      · unfold F_X12_book_39
        rw [if_pos a4]
    · have h46 : F_X0_readFrom_46 G R P B = some (nI 0, G, R') := by
        unfold F_X0_readFrom_46
        rw [a4, pu_ob2N, if_neg nb0]
      refine ⟨nI 0, G, R', M', _, ?_, rfl, a7.mono (by decide) (by decide) (by decide), Or.inr ⟨rfl, a6, ?_⟩⟩
      · unfold F_X0_readFrom_14
        rw [a2, pu_ob1N, if_pos zero_eq, h46, ite_self]
      · unfold F_X12_book_39
        rw [if_neg a3, rd_noBook h hb a1 hM hn a5, pu_ob2N, if_pos zero_eq]
end P39
