/-! a sentence: how a ONE begins -/
section P54
variable {R M M' M1 S P B N H T X G U : St} {V cs cg cu : Vt} {k n o h x j : Nat} {l : List Nat}
theorem rd_take {c : Nat} (h : OKs R M k) (hc : c < 256) {t : Bool} (e : F_X5_isMark R (nI c) = some (nI (tn t))) (hne : t = true → R.2.2.1 3 k ≠ nI 40) : F_X5_takeMark R (nI c) = some (nI (tn t), if t = true then sI R 6 (nI (k + 1)) else R) := by
  unfold F_X5_takeMark
  rw [e, pu_ob1N]
  cases t with
  | true => rw [if_neg (show ¬ nI (tn true) = 0 from one_ne), rd_nextC h (hne rfl), pu_ob1N, if_neg (show ¬ nb (nI (tn true)) from nb1), if_pos rfl]
  | false => rw [if_pos (show nI (tn false) = 0 from zero_eq), if_neg (show ¬ nb (nI (tn false)) from nb0), if_neg (by decide)]
theorem rd_takeW {i : Nat} (h : OKs R M k) {t : Bool} (e : F_X5_isWord R (nI i) = some (nI (tn t))) (hne : t = true → R.2.2.1 3 k ≠ nI 40) : F_X5_takeWord R (nI i) = some (nI (tn t), if t = true then sI R 6 (nI (k + 1)) else R) := by
  unfold F_X5_takeWord
  rw [e, pu_ob1N]
  cases t with
  | true => rw [if_neg (show ¬ nI (tn true) = 0 from one_ne), rd_nextC h (hne rfl), pu_ob1N, if_neg (show ¬ nb (nI (tn true)) from nb1), if_pos rfl]
  | false => rw [if_pos (show nI (tn false) = 0 from zero_eq), if_neg (show ¬ nb (nI (tn false)) from nb0), if_neg (by decide)]
theorem rd_dispatch (h : OKs R M k) :
    (∃ a, a < 9 ∧ R.2.2.1 3 k = nI (27 + a) ∧ F_X5_isMark R 40 = some (nI 0) ∧ F_X5_isWordFrom R 26 10 = some (nI 1) ∧ F_X5_takeMark R 40 = some (nI 0, R) ∧ F_X5_takeWord R 26 = some (nI 0, R) ∧ F_X12_operand M = F_X12_operand_38 (nI 0) (nI 0) (nI a) M) ∨
    (R.2.2.1 3 k ≠ nI 40 ∧ F_X5_isMark R 40 = some (nI 0) ∧ F_X5_isWordFrom R 26 10 = some (nI 1) ∧ F_X5_takeMark R 40 = some (nI 0, R) ∧ F_X5_takeWord R 26 = some (nI 1, sI R 6 (nI (k + 1))) ∧ ∃ r4 r6, F_X12_operand M = F_X12_operand_38 (nI 1) r4 r6 M) ∨
    (R.2.2.1 3 k ≠ nI 40 ∧ F_X5_isMark R 40 = some (nI 1) ∧ F_X5_takeMark R 40 = some (nI 1, sI R 6 (nI (k + 1))) ∧ ∃ r6, F_X12_operand M = F_X12_operand_38 (nI 0) (nI 1) r6 M) ∨
    (F_X5_isMark R 40 = some (nI 0) ∧ F_X5_isWordFrom R 26 10 = some (nI 0) ∧ ∃ R' M', F_X5_fail R 1 = some R' ∧ F_X12_operand M = some (nI 0, M') ∧ FLT R' M' ∧ FR [15, 16] [] [] M M') := by
  have hk := ok_k h
  have ho := no_oob (i := k) (n := 901) (by omega) (by omega)
  have hcp : (nI k).toNatClampNeg = k := pu_clamp (by omega)
  obtain ⟨tm, m1, m2, m3⟩ := rd_isMark (c := 40) h (by omega)
  obtain ⟨tw, w1, w2, w3, w4⟩ := rd_isWord (i := 26) h (by omega)
  have mt := rd_take h (by omega) m1 (fun e => (m3 e).1)
  have wt := rd_takeW h w1 (fun e => (w3 e).1)
  have m1 : F_X5_isMark R 40 = some (nI (tn tm)) := m1
  have m2 : F_X12_isSign M 40 = some (nI (tn tm)) := m2
  have w2 : F_X12_isWord M (7237492 : Int64) = some (nI (tn tw)) := w2
  have mt : F_X5_takeMark R 40 = some (nI (tn tm), if tm = true then sI R 6 (nI (k + 1)) else R) := mt
  have wt : F_X5_takeWord R 26 = some (nI (tn tw), if tw = true then sI R 6 (nI (k + 1)) else R) := wt
  have T1 : ¬ nI (tn true) = (0 : Int32) := one_ne
  have T0 : nI (tn false) = (0 : Int32) := zero_eq
  have hop : ∀ r6, F_X12_leafOf M = some r6 → F_X12_operand M = if nI (tn tw) = 0 then (if nI (tn tm) = 0 then (if 0 ≤ r6 then F_X12_operand_38 (nI (tn tw)) (nI (tn tm)) r6 M else (ob2 (F_X12_bad M 1) fun r11 U12 => if nb r11 then none else some (r11, U12))) else F_X12_operand_38 (nI (tn tw)) (nI (tn tm)) r6 M) else F_X12_operand_38 (nI (tn tw)) (nI (tn tm)) r6 M := fun r6 e => by
    unfold F_X12_operand
    rw [w2, pu_ob1N, m2, pu_ob1N, e, pu_ob1N]
  have hlf : ∃ r6, F_X12_leafOf M = some r6 := by
    rcases rd_leafOf h with ⟨a, -, -, e⟩ | ⟨-, e⟩
    · exact ⟨_, e⟩
    · exact ⟨_, e⟩
  cases tm with
  | true =>
    right; right; left
    obtain ⟨r6, e⟩ := hlf
    have tf : tw = false := by
      cases tw with
      | false => rfl
      | true => exact absurd ((m3 rfl).2.symm.trans (w3 rfl).2) (by decide)
    subst tf
    refine ⟨(m3 rfl).1, m1, by rw [mt, if_pos rfl]; rfl, r6, ?_⟩
    rw [hop r6 e, if_pos T0, if_neg T1]
    rfl
  | false =>
    have mt : F_X5_takeMark R 40 = some (nI 0, R) := by rw [mt, if_neg (by decide)]; rfl
    cases tw with
    | true =>
      right; left
      obtain ⟨r6, e⟩ := hlf
      obtain ⟨i1, -, -⟩ := rd_word (fi := 26) (m := 10) (j := 0) h (by omega) (by omega) (w3 rfl).2
      refine ⟨(w3 rfl).1, m1, i1, mt, by rw [wt, if_pos rfl]; rfl, nI 0, r6, ?_⟩
      rw [hop r6 e, if_neg T1]
      rfl
    | false =>
      have wt : F_X5_takeWord R 26 = some (nI 0, R) := by rw [wt, if_neg (by decide)]; rfl
      rcases rd_leafOf h with ⟨a, ha, e1, e2⟩ | ⟨e1, e2⟩
      · left
        obtain ⟨i1, -, -⟩ := rd_word (fi := 26) (m := 10) (j := a + 1) h (by omega) (by omega) (by rw [e1, show 26 + (a + 1) = 27 + a by omega])
        refine ⟨a, ha, e1, m1, i1, mt, wt, ?_⟩
        rw [hop _ e2, if_pos T0, if_pos T0, if_pos (show (0 : Int32) ≤ nI a from nI_le (a := 0) (by omega) (by omega))]
        rfl
      · right; right; right
        obtain ⟨R', M', c1, c2, c3, c4⟩ := rd_fail (f := 1) h (by omega) (by omega)
        have c2 : F_X12_bad M 1 = some (nI 0, M') := c2
        refine ⟨m1, ?_, R', M', c1, ?_, c3, c4⟩
        · have hs : ∃ s, s ≤ 40 ∧ R.2.2.1 3 k = nI s := by
            obtain ⟨-, -, ht⟩ := rd_tok h.1
            rcases ht with ⟨l, a1, a2, -⟩ | ⟨v, a1, a2, -⟩ | ⟨d, a1, a2, -⟩ | ⟨a2, -⟩ | ⟨a2, -⟩
            · exact ⟨_, by have := wsort_le l; omega, a2⟩
            · exact ⟨37, by omega, a2⟩
            · exact ⟨38, by omega, a2⟩
            · exact ⟨39, by omega, a2⟩
            · exact ⟨40, by omega, a2⟩
          obtain ⟨s, s4, hs⟩ := hs
          have n26 : s ≠ 26 := fun e => absurd (w4 (by rw [hs, e])) (by decide)
          have nlf : s < 26 ∨ 36 ≤ s := by
            by_cases q : s < 26
            · exact Or.inl q
            · refine Or.inr ?_
              by_cases q2 : 36 ≤ s
              · exact q2
              · exact absurd (by rw [hs, show 27 + (s - 27) = s by omega]) (e1 (s - 27) (by omega))
          unfold F_X5_isWordFrom
          rw [h.2.2, if_pos zero_eq, h.2.1, if_neg ho, if_neg ho]
          simp only [hcp, hs]
          rcases nlf with q | q
          · rw [if_pos (show nI s < (26 : Int32) from nI_lt (b := 26) q (by omega))]
            rfl
          · rw [if_neg (show ¬ nI s < (26 : Int32) from nI_nlt (b := 26) (by omega) (by omega)), if_pos (show (26 : Int32) + 10 ≤ nI s from nI_le (a := 36) q (by omega))]
            rfl
        · rw [hop _ e2, if_pos T0, if_pos T0, if_neg (show ¬ (0 : Int32) ≤ nO by decide), c2, pu_ob2N, if_neg nb0]
end P54
