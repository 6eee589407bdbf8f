/-! a sentence: a bracket's end, and what is wrong behind a ONE -/
section P52
variable {R M M' M1 S P B N H T X G U : St} {V cs cg cu : Vt} {k n o h x j : Nat} {l : List Nat}
theorem rd_pops (hO : OKs R M k) (hp : PD N M cs cg cu n o h (List.replicate j 20 ++ l)) (h45 : M.1 45 = nI (x + j)) (hx : x < 1000) (hj : j < 1000) (hl : ∀ y, y ∈ l → y = 21 ∨ y = 22) (hs : h = 0 ∨ M.2.2.1 41 (h - 1) = nI 23) : ∃ M2 M3, F_X12_nots M = some M2 ∧ F_X12_joins M2 22 = some M3 ∧ OKs R M2 k ∧ OKs R M3 k ∧ PD N M3 cs cg cu (n + j + l.length) o h [] ∧ M3.1 45 = nI x ∧ FR [42, 44, 45] [8] [] M M3 := by
  obtain ⟨M2, n1, n2, n3, n4, n5⟩ := x12_nots (x := x) (j := j) (l := l) hx hj hp h45 (by
    by_cases q : l = []
    · rw [q]
      rcases hs with e | e
      · exact Or.inl (by rw [e]; rfl)
      · exact Or.inr ⟨23, by omega, by omega, e⟩
    · obtain ⟨y, t, e⟩ : ∃ y t, l = y :: t := by
        cases l with
        | nil => exact absurd rfl q
        | cons y t => exact ⟨y, t, rfl⟩
      have hst : ∀ j, STK M h (List.replicate j 20 ++ l) → STK M h l := by
        intro j
        induction j with
        | zero => exact id
        | succ j ih => exact fun z => ih z.2
      have hst := hst j hp.2.2.2.1
      rw [e] at hst ⊢
      have hy := hl y (by rw [e]; exact List.mem_cons_self ..)
      exact Or.inr ⟨y, by omega, by omega, hst.1⟩)
  have hO2 := ok_pop hO n4 n5 (by intro i hi; simp only [List.mem_cons, List.not_mem_nil, or_false] at hi; omega)
  obtain ⟨M3, j1, j2, j3, j4⟩ := x12_joins (w := 22) (Or.inr rfl) n2 (fun y hy => by have := hl y hy; omega) (by
    rw [n4.2.1 41 (by decide)]
    rcases hs with e | e
    · exact Or.inl e
    · exact Or.inr ⟨23, by omega, by omega, fun _ => by omega, e⟩)
  have hO3 := ok_pop hO2 j3 j4 (by intro i hi; simp only [List.mem_cons, List.not_mem_nil, or_false] at hi; omega)
  exact ⟨M2, M3, n1, j1, hO2, hO3, j2, by rw [j3.1 45 (by decide), n3], (n4.mono (by decide) (by decide) (by decide)).tr (j3.mono (by decide) (by decide) (by decide))⟩
theorem rd_behindC {M2 M3 : St} (n1 : F_X12_nots M = some M2) (j1 : F_X12_joins M2 22 = some M3) (hO2 : OKs R M2 k) (na : R.2.2.1 3 k ≠ nI 25) (no : R.2.2.1 3 k ≠ nI 24) : F_X12_behind_ M = ob1 (F_X12_isSign M3 41) fun r12 => if r12 = 0 then F_X12_behind__114 M3 else (if (M3.1 44) = 0 then F_X12_behind__114 M3 else (nw (sI M3 44 ((M3.1 44) - 1)) fun U15 => nw (sI U15 45 ((U15.1 45) - 1)) fun U17 => ob1 (F_X12_next U17) fun U20 => some ((1 : Int32), U20))) := by
  obtain ⟨ta, wa, xa⟩ := isW (i := 25) hO2 (by omega)
  obtain ⟨to, wo, xo⟩ := isW (i := 24) hO2 (by omega)
  have wa : F_X12_isWord M2 (6385252 : Int64) = some (nI (tn ta)) := wa
  have wo : F_X12_isWord M2 (28530 : Int64) = some (nI (tn to)) := wo
  have T0 : nI (tn false) = (0 : Int32) := zero_eq
  have f1 : ta = false := by
    cases ta with
    | false => rfl
    | true => exact absurd (xa.mp rfl) na
  have f2 : to = false := by
    cases to with
    | false => rfl
    | true => exact absurd (xo.mp rfl) no
  unfold F_X12_behind_
  rw [n1, pu_ob1N, wa, f1, pu_ob1N, if_pos T0, wo, f2, pu_ob1N, if_pos T0, j1, pu_ob1N]
theorem rd_close (hO : OKs R M k) (hm : R.2.2.1 3 k = nI 38) (hsg : F_X12_isSign M 41 = some (nI 1)) (hp : PD N M cs cg cu n o (h + 1) (List.replicate j 20 ++ l)) (h45 : M.1 45 = nI (x + 1 + j)) (hx : x < 900) (hj : j < 1000) (hl : ∀ y, y ∈ l → y = 21 ∨ y = 22) (hs : M.2.2.1 41 h = nI 23) : ∃ M', F_X12_behind_ M = some (nI 1, M') ∧ OKs (sI R 6 (nI (k + 1))) M' (k + 1) ∧ PD N M' cs cg cu (n + j + l.length) o h [] ∧ M'.1 45 = nI x ∧ M'.1 46 = M.1 46 ∧ FR [4, 11, 12, 13, 14, 42, 44, 45] [8] [] M M' := by
  have hb45 := hp.2.2.2.2.2.2.2
  obtain ⟨M2, M3, n1, j1, hO2, hO3, p3, q45, hF⟩ := rd_pops (x := x + 1) hO hp h45 (by omega) hj hl (Or.inr hs)
  have h44 : M3.1 44 = nI (h + 1) := p3.2.2.2.2.1
  have hne : R.2.2.1 3 k ≠ nI 40 := by rw [hm]; decide
  obtain ⟨M', b1, b2, b3⟩ := rd_step (ok_sI (f := 45) (v := nI x) (ok_sI (f := 44) (v := nI h) hO3 (by omega)) (by omega)) hne
  have sg3 : F_X12_isSign M3 41 = some (nI 1) := by
    rw [← hsg]
    unfold F_X12_isSign
    rw [hF.1 11 (by decide), hF.1 14 (by decide)]
  have e45 : (sI M3 44 (nI h)).1 45 - 1 = nI x := by show M3.1 45 - 1 = _; rw [q45, nIp _ (by omega)]
  refine ⟨M', ?_, b2, ⟨p3.1, ⟨by rw [b3.1 42 (by decide)]; exact p3.2.1.1, by rw [b3.1 43 (by decide)]; exact p3.2.1.2.1, fun i hi => by rw [b3.2.1 8 (by decide)]; exact p3.2.1.2.2 i hi⟩, trivial, trivial, by rw [b3.1 44 (by decide)]; rfl, p3.2.2.2.2.2.1, p3.2.2.2.2.2.2.1, by simp only [List.length_nil]; omega⟩, by rw [b3.1 45 (by decide)]; rfl, by rw [b3.1 46 (by decide)]; exact hF.1 46 (by decide), (((hF.mono (by decide) (by decide) (by decide)).tr (FR.sI (by decide))).tr (FR.sI (by decide))).tr (b3.mono (by decide) (by decide) (by decide))⟩
  rw [rd_behindC n1 j1 hO2 (by rw [hm]; decide) (by rw [hm]; decide), sg3, pu_ob1N, if_neg one_ne, h44, if_neg (nI_ne0 (by omega) (by omega)), nIp _ (by omega), pu_nwN, e45, pu_nwN, b1, pu_ob1N]
  rfl
theorem rd_wrong (hO : OKs R M k) (na : R.2.2.1 3 k ≠ nI 25) (no : R.2.2.1 3 k ≠ nI 24) (hsg : h = 0 ∨ F_X12_isSign M 41 = some (nI 0)) (hp : PD N M cs cg cu n o h (List.replicate j 20 ++ l)) (h45 : M.1 45 = nI (x + j)) (hx : x < 900) (hj : j < 1000) (hl : ∀ y, y ∈ l → y = 21 ∨ y = 22) (hs : h = 0 ∨ M.2.2.1 41 (h - 1) = nI 23) : ∃ R' M', F_X12_behind_ M = some (nI 0, M') ∧ F_X5_fail R 1 = some R' ∧ FLT R' M' ∧ FR [15, 16, 42, 44, 45] [8] [] M M' := by
  obtain ⟨M2, M3, n1, j1, hO2, hO3, p3, q45, hF⟩ := rd_pops (x := x) hO hp h45 (by omega) hj hl hs
  have h44 : M3.1 44 = nI h := p3.2.2.2.2.1
  obtain ⟨R', M', c1, c2, c3, c4⟩ := rd_fail (f := 1) hO3 (by omega) (by omega)
  have c2 : F_X12_bad M3 1 = some (nI 0, M') := c2
  have h114 : F_X12_behind__114 M3 = some (nI 0, M') := by
    unfold F_X12_behind__114
    rw [c2, pu_ob2N, if_neg nb0]
  refine ⟨R', M', ?_, c1, c3, (hF.mono (by decide) (by decide) (by decide)).tr (c4.mono (by decide) (by decide) (by decide))⟩
  rw [rd_behindC n1 j1 hO2 na no]
  obtain ⟨t, -, t2, -⟩ := rd_isMark (c := 41) hO3 (by omega)
  have t2 : F_X12_isSign M3 41 = some (nI (tn t)) := t2
  rw [t2, pu_ob1N]
  rcases hsg with e | e
  · rw [h44, e, if_pos zero_eq, h114, ite_self]
  · have : F_X12_isSign M3 41 = F_X12_isSign M 41 := by
      unfold F_X12_isSign
      rw [hF.1 11 (by decide), hF.1 14 (by decide)]
    rw [this, e] at t2
    have hz : nI (tn t) = 0 := (Option.some.inj t2).symm
    rw [if_pos hz, h114]
end P52
