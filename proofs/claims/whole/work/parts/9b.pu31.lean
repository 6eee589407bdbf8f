/-! the suburb's lines, in step -/
section P31
variable {R M S P : St} {V : Vt} {k : Nat}
theorem fl_closes (h : FLc R) : F_X5_closes R = some (nI 0, R) := by
  have hf := fun x => fl_fail h x
  obtain ⟨f, k, h1, h4, h8, h6, hk⟩ := h
  have n8 : ¬ nI f = 0 := nI_ne0 (by omega) (by omega)
  have h26 : F_X5_closes_26 R = some (nI 0, R) := by
    unfold F_X5_closes_26
    rw [h8, if_neg n8]
    rfl
  have h21 : F_X5_closes_21 R = some (nI 0, R) := by
    unfold F_X5_closes_21
    rw [hf 1, pu_ob1N, h26]
  unfold F_X5_closes
  rw [h6, if_neg (no_oob (i := k) (n := 901) (by omega) (by omega)), h26, h21, ite_self, ite_self]
theorem rd_last (h : OKs R M k) (hk : R.2.2.1 3 k ≠ nI 40) : k < 900 := by
  obtain ⟨M', -, h2, -⟩ := rd_next h.1 hk
  exact (rd_tok h2).1
theorem rd_goes (h : OKs R M k) : (R.2.2.1 3 k ≠ nI 40 ∧ F_X5_goesOn R = some (nI 1) ∧ ¬ M.1 11 = 0) ∨ (R.2.2.1 3 k = nI 40 ∧ F_X5_goesOn R = some (nI 0) ∧ F_X5_closes R = some (nI 1, R) ∧ M.1 11 = 0) ∨ (R.2.2.1 3 k = nI 40 ∧ F_X5_goesOn R = some (nI 0) ∧ ¬ M.1 11 = 0 ∧ ∃ R' M', F_X5_closes R = some (nI 0, R') ∧ F_X12_bad M (nI 1) = some (nI 0, M') ∧ FLT R' M' ∧ FR [15, 16] [] [] M M') := by
  have hk := ok_k h
  have h6 := h.2.1
  have h8 := h.2.2
  have o9 := no_oob (i := k) (n := 901) (by omega) (by omega)
  have hcp : (nI k).toNatClampNeg = k := pu_clamp (by omega)
  have g : ∀ x, R.2.2.1 3 k = nI x → F_X5_goesOn R = if nI x = (40 : Int32) then some (nI 0) else some (nI 1) := by
    intro x hx
    unfold F_X5_goesOn
    rw [h8, if_pos zero_eq, h6, if_neg o9, hcp, hx]
    rfl
  have c40 : R.2.2.1 3 k = nI 40 → F_X5_closes R = if R.1 7 = 0 then F_X5_closes_26 R else F_X5_closes_21 R := by
    intro hx
    unfold F_X5_closes
    rw [h6, if_neg o9, hcp, hx]
    rfl
  obtain ⟨-, -, ht⟩ := rd_tok h.1
  rcases ht with ⟨l, e1, e2, e3, e4, e5⟩ | ⟨v, e1, e2, e3, e4, e5⟩ | ⟨c, e1, e2, e3, e4, e5⟩ | ⟨e2, e4⟩ | ⟨e2, ⟨e3, e4⟩ | ⟨e3, e4⟩⟩
  · left
    have hw := wsort_le l
    have ne : ¬ nI (wsort l) = (40 : Int32) := fun e => by
      have := (nI_eq (a := wsort l) (b := 40) (by omega) (by omega)).mp e
      omega
    exact ⟨fun e => ne (e2 ▸ e), by rw [g _ e2, if_neg ne], by rw [e4]; exact one_ne⟩
  · left
    exact ⟨by rw [e2]; decide, by rw [g _ e2]; rfl, by rw [e4]; decide⟩
  · left
    exact ⟨by rw [e2]; decide, by rw [g _ e2]; rfl, by rw [e4]; decide⟩
  · left
    exact ⟨by rw [e2]; decide, by rw [g _ e2]; rfl, by rw [e4]; decide⟩
  · right; left
    refine ⟨e2, by rw [g _ e2]; rfl, ?_, by rw [e4]; rfl⟩
    rw [c40 e2, e3, if_pos zero_eq]
    unfold F_X5_closes_26
    rw [h8, if_pos zero_eq]
    rfl
  · right; right
    obtain ⟨R', M', f1, f2, f3, f4⟩ := rd_fail (f := 1) h (by omega) (by omega)
    refine ⟨e2, by rw [g _ e2]; rfl, by rw [e4]; decide, R', M', ?_, f2, f3, f4⟩
    rw [c40 e2, e3, if_neg one_ne]
    unfold F_X5_closes_21
    have f1 : F_X5_fail R 1 = some R' := f1
    rw [f1, pu_ob1N]
    obtain ⟨f, q, h1, h4, h8, h6, hk⟩ := f3.1
    unfold F_X5_closes_26
    rw [h8, if_neg (nI_ne0 (by omega) (by omega))]
    rfl
theorem rd_noLine (h : OKs R M k) (he : R.2.2.1 3 k = nI 40) {M' : St} (hb : F_X12_bad M (nI 1) = some (nI 0, M')) : F_X12_line M = some (nI 0, M') := by
  have hb : F_X12_bad M 1 = some (nI 0, M') := hb
  have key : ∀ i, i < 36 → F_X12_isWord M (lN (r256 (wl i))) = some (nI 0) := by
    intro i hi
    obtain ⟨t, -, a2, a3, -⟩ := rd_isWord (i := i) h hi
    cases t with
    | true => exact absurd he (a3 rfl).1
    | false => exact a2
  have a0 : F_X12_isWord M (128047780095348 : Int64) = some (nI 0) := key 0 (by omega)
  have a1 : F_X12_isWord M (123581014175598 : Int64) = some (nI 0) := key 1 (by omega)
  have a2 : F_X12_isWord M (127991794264947 : Int64) = some (nI 0) := key 2 (by omega)
  have a3 : F_X12_isWord M (512735736947 : Int64) = some (nI 0) := key 3 (by omega)
  unfold F_X12_line
  rw [a0, pu_ob1N, if_pos zero_eq, a1, pu_ob1N, if_pos zero_eq, a2, pu_ob1N, if_pos zero_eq, a3, pu_ob1N, if_pos zero_eq, hb, pu_ob2N, if_neg nb0]
def LNS (S' R' M M' : St) (V' : Vt) (r1 : Int32) (o : Option (Int32 × St)) : Prop := FR [4, 11, 12, 13, 14, 15, 16, 18, 19] [7] [9] M M' ∧ N13 M M' ∧ ((∃ i k', i ≤ 900 ∧ r1 = nI i ∧ R'.1 8 = nI 0 ∧ M'.1 15 = nI 0 ∧ OKs R' M' k' ∧ SUB S' M' V' ∧ M'.1 19 = nI i ∧ o = L_X12_suburb_75 0 M') ∨ (r1 = nO ∧ FLT R' M' ∧ o = some ((-1 : Int32) - M'.1 16, M')))
theorem rd_lines (P : St) : ∀ d k i R M S V, 901 ≤ k + d → i ≤ k → OKs R M k → MW M → SUB S M V → M.1 15 = nI 0 → M.1 19 = nI i → ∀ N1 N2, ∃ r1 S' R' M' V' o, lp (fun kz (z : Int32 × St × St × St) => F_X8_readFrom_34 kz z.1 z.2.1 z.2.2.1 z.2.2.2) (d + 1 + N1) (nI i, S, R, P) = some (r1, S', R') ∧ lp (fun kz z => F_X12_suburb_30 kz z) (d + N2) M = o ∧ LNS S' R' M M' V' r1 o := by
  intro d
  induction d with
  | zero => intro k i R M S V hd hi h; have := ok_k h; omega
  | succ d ih =>
    intro k i R M S V hd hi h hW hS h15 h19 N1 N2
    have hk := ok_k h
    have e1 : d + 1 + 1 + N1 = (d + 1 + N1) + 1 := by omega
    have e2 : d + 1 + N2 = (d + N2) + 1 := by omega
    have e3 : d + 1 + N1 = (d + N1) + 1 := by omega
    rw [e1, e2]
    show ∃ r1 S' R' M' V' o, F_X8_readFrom_34 (lp (fun kz (z : Int32 × St × St × St) => F_X8_readFrom_34 kz z.1 z.2.1 z.2.2.1 z.2.2.2) (d + 1 + N1)) (nI i) S R P = some (r1, S', R') ∧ F_X12_suburb_30 (lp (fun kz z => F_X12_suburb_30 kz z) (d + N2)) M = o ∧ LNS S' R' M M' V' r1 o
    rcases rd_goes h with ⟨a1, a2, a3⟩ | ⟨a1, a2, a3, a4⟩ | ⟨a1, a2, a3, R', M', a4, a5, a6, a7⟩
    · have hk9 := rd_last h a1
      have hle : ¬ (900 : Int32) ≤ nI i := nI_ge (a := i) (b := 900) (by omega) (by omega)
      obtain ⟨S1, R1, M1, V1, k1, r, b1, b2, b3, b4, b5⟩ := rd_line h hW hS
      have hc1 : F_X8_readFrom_34 (lp (fun kz (z : Int32 × St × St × St) => F_X8_readFrom_34 kz z.1 z.2.1 z.2.2.1 z.2.2.2) (d + 1 + N1)) (nI i) S R P = ob1 (F_X5_needMark R1 59) fun U9 => lp (fun kz (z : Int32 × St × St × St) => F_X8_readFrom_34 kz z.1 z.2.1 z.2.2.1 z.2.2.2) (d + 1 + N1) (nI i + 1, S1, U9, P) := by
        unfold F_X8_readFrom_34
        rw [if_neg hle, a2, pu_ob1N, if_neg one_ne, b1, pu_ob2N]
      have hst : ∀ S1 R1 : St, FLc R1 → lp (fun kz (z : Int32 × St × St × St) => F_X8_readFrom_34 kz z.1 z.2.1 z.2.2.1 z.2.2.2) (d + 1 + N1) (nI i + 1, S1, R1, P) = some (nO, S1, R1) := by
        intro S1 R1 hf
        rw [e3]
        show F_X8_readFrom_34 (lp (fun kz (z : Int32 × St × St × St) => F_X8_readFrom_34 kz z.1 z.2.1 z.2.2.1 z.2.2.2) (d + N1)) (nI i + 1) S1 R1 P = _
        have h65 : F_X8_readFrom_65 (nI i + 1) S1 R1 P = some (nO, S1, R1) := by
          unfold F_X8_readFrom_65
          rw [fl_closes hf, pu_ob2N, if_pos zero_eq]
          rfl
        unfold F_X8_readFrom_34
        rw [fl_goes hf, pu_ob1N, if_pos zero_eq, h65, ite_self]
      rw [hc1]
      rcases b5 with ⟨c1, c2, c3, c4, c5⟩ | ⟨c1, c2⟩
      · rcases rd_mark (c := 59) c2 (by omega) with ⟨M2, m1, m2, m3, m4⟩ | ⟨R2, M2, m1, m2, m3, m4⟩
        · have m1 : F_X5_needMark R1 59 = some (sI R1 6 (nI (k1 + 1))) := m1
          have m2 : F_X12_sign M1 59 = some (nI 1, M2) := m2
          have q19 : M2.1 19 = nI i := by rw [m4.1 19 (by decide), b3.1 19 (by decide), h19]
          have q15 : M2.1 15 = nI 0 := by rw [m4.1 15 (by decide), c4, h15]
          have hF : FR [4, 11, 12, 13, 14, 15, 16, 18, 19] [7] [9] M (sI M2 19 (nI (i + 1))) := ((b3.mono (by decide) (by decide) (by decide)).tr (m4.mono (by decide) (by decide) (by decide))).tr (FR.sI (by decide))
          have h2 : SUB S1 (sI M2 19 (nI (i + 1))) V1 := SUB_M (SUB_M c3 m4 (by decide) (by decide)) (FR.sI (ni := [19]) (na := []) (nl := []) (by decide)) (by decide) (by decide)
          obtain ⟨r1, S', R', M', V', o, d1, d2, d3, d4, d5⟩ := ih (k1 + 1) (i + 1) (sI R1 6 (nI (k1 + 1))) (sI M2 19 (nI (i + 1))) S1 V1 (by omega) (by omega) (ok_sI m3 (by omega)) (MW_fr hW hF (by decide)) h2 q15 rfl N1 N2
          refine ⟨r1, S', R', M', V', o, ?_, ?_, hF.tr d3, ?_, d5⟩
          · rw [m1, pu_ob1N, show nI i + (1 : Int32) = nI (i + 1) from nI_add i 1]
            exact d1
          · generalize lp (fun kz z => F_X12_suburb_30 kz z) (d + N2) = L at d2 ⊢
            unfold F_X12_suburb_30
            rw [if_neg a3, b2, pu_ob2N, c1, if_neg one_ne, m2, pu_ob2N, if_neg one_ne, q19, show nI i + (1 : Int32) = nI (i + 1) from nI_add i 1, pu_nwN]
            exact d2
          · exact (b4.tr (N13_fr m4 (by decide))).tr d4
        · have m1 : F_X5_needMark R1 59 = some R2 := m1
          have m2 : F_X12_sign M1 59 = some (nI 0, M2) := m2
          refine ⟨nO, S1, R2, M2, V1, _, ?_, rfl, (b3.mono (by decide) (by decide) (by decide)).tr (m4.mono (by decide) (by decide) (by decide)), b4.tr (N13_fr m4 (by decide)), Or.inr ⟨rfl, m3, ?_⟩⟩
          · rw [m1, pu_ob1N]
            exact hst S1 R2 m3.1
          · unfold F_X12_suburb_30
            rw [if_neg a3, b2, pu_ob2N, c1, if_neg one_ne, m2, pu_ob2N, if_pos zero_eq]
      · refine ⟨nO, S1, R1, M1, V1, _, ?_, rfl, b3.mono (by decide) (by decide) (by decide), b4, Or.inr ⟨rfl, c2, ?_⟩⟩
        · rw [fl_needMark c2.1 59, pu_ob1N]
          exact hst S1 R1 c2.1
        · unfold F_X12_suburb_30
          rw [if_neg a3, b2, pu_ob2N, c1, if_pos zero_eq]
    · have h65 : F_X8_readFrom_65 (nI i) S R P = some (nI i, S, R) := by
        unfold F_X8_readFrom_65
        rw [a3, pu_ob2N, if_neg one_ne]
      refine ⟨nI i, S, R, M, V, _, ?_, rfl, FR.rf, fun _ _ => rfl, Or.inl ⟨i, k, by omega, rfl, h.2.2, h15, h, hS, h19, ?_⟩⟩
      · unfold F_X8_readFrom_34
        rw [a2, pu_ob1N, if_pos zero_eq, h65, ite_self]
      · unfold F_X12_suburb_30
        rw [if_pos a4]
    · have h65 : F_X8_readFrom_65 (nI i) S R P = some (nO, S, R') := by
        unfold F_X8_readFrom_65
        rw [a4, pu_ob2N, if_pos zero_eq]
        rfl
      refine ⟨nO, S, R', M', V, _, ?_, rfl, a7.mono (by decide) (by decide) (by decide), N13_fr a7 (by decide), Or.inr ⟨rfl, a6, ?_⟩⟩
      · unfold F_X8_readFrom_34
        rw [a2, pu_ob1N, if_pos zero_eq, h65, ite_self]
      · unfold F_X12_suburb_30
        rw [if_neg a3, rd_noLine h a1 a5, pu_ob2N, if_pos zero_eq]
end P31
