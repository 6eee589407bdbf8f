/-! a sentence: 'and', 'or' behind a ONE -/
section P51
variable {R M M' M1 S P B N H T X G U : St} {V cs cg cu : Vt} {k n o h x j : Nat} {l : List Nat}
theorem ok_pop {M' : St} {ni : List Nat} (h : OKs R M k) (hf : FR ni [8] [] M M') (e : M'.2.1 = M.2.1) (hn : ∀ i, i ∈ ni → i = 42 ∨ i = 44 ∨ i = 45) : OKs R M' k :=
  ⟨rd_M h.1 hf (by rw [e]) (fun q => by have := hn 3 q; omega) (fun q => by have := hn 4 q; omega) (fun q => by have := hn 5 q; omega) (fun q => by have := hn 11 q; omega) (fun q => by have := hn 12 q; omega) (fun q => by have := hn 14 q; omega) (by decide), h.2⟩
theorem isW {i : Nat} (h : OKs R M k) (hi : i < 36) : ∃ t : Bool, F_X12_isWord M (lN (r256 (wl i))) = some (nI (tn t)) ∧ (t = true ↔ R.2.2.1 3 k = nI i) := by
  obtain ⟨t, -, a2, a3, a4⟩ := rd_isWord (i := i) h hi
  exact ⟨t, a2, fun e => (a3 e).2, a4⟩
theorem rd_join {w : Nat} (hw : w = 21 ∨ w = 22) (hO : OKs R M k) (a2 : R.2.2.1 3 k = nI (46 - w)) (hp : PD N M cs cg cu n o h (List.replicate j 20 ++ l)) (h45 : M.1 45 = nI (x + j)) (hx : x < 1000) (hj : j < 1000) (hl : ∀ y, y ∈ l → y = 21 ∨ (y = 22 ∧ w = 22)) (hs : h = 0 ∨ ∃ y, y < 100 ∧ y ≠ 20 ∧ y ≠ 21 ∧ (w = 22 → y ≠ 22) ∧ M.2.2.1 41 (h - 1) = nI y) (hl20 : ∀ y t, l = y :: t → y ≠ 20) (hh : h < 44) : ∃ M', F_X12_behind_ M = some (nI 1, M') ∧ OKs (sI R 6 (nI (k + 1))) M' (k + 1) ∧ PD N M' cs cg cu (n + j + l.length) o (h + 1) [] ∧ M'.1 45 = nI x ∧ M'.1 46 = nI 0 ∧ M'.2.2.1 41 h = nI w ∧ (∀ i, i < h → M'.2.2.1 41 i = M.2.2.1 41 i) ∧ FR [4, 11, 12, 13, 14, 42, 44, 45, 46] [8, 41] [] M M' := by
  have hb45 := hp.2.2.2.2.2.2.2
  have hne : R.2.2.1 3 k ≠ nI 40 := by
    rw [a2]; intro e
    have := (nI_eq (by omega) (by omega)).mp e
    omega
  obtain ⟨M2, n1, n2, n3, n4, n5⟩ := x12_nots (x := x) (j := j) (l := l) hx hj hp h45 (by
    by_cases q : l = []
    · rw [q]
      rcases hs with e | ⟨y, y1, y2, y3, y4, y5⟩
      · exact Or.inl (by rw [e]; rfl)
      · exact Or.inr ⟨y, y1, y2, y5⟩
    · obtain ⟨y, t, e⟩ : ∃ y t, l = y :: t := by
        cases l with
        | nil => exact absurd rfl q
        | cons y t => exact ⟨y, t, rfl⟩
      have hst : ∀ j, STK M h (List.replicate j 20 ++ l) → STK M h l := by
        intro j
        induction j with
        | zero => exact id
        | succ j ih => exact fun z => ih z.2
      have hst := hst j hp.2.2.2.1
      rw [e] at hst ⊢
      have hy := hl y (by rw [e]; exact List.mem_cons_self ..)
      exact Or.inr ⟨y, by omega, by omega, hst.1⟩)
  have hO2 := ok_pop hO n4 n5 (by intro i hi; simp only [List.mem_cons, List.not_mem_nil, or_false] at hi; omega)
  obtain ⟨M3, j1, j2, j3, j4⟩ := x12_joins hw n2 hl (by
    rw [n4.2.1 41 (by decide)]
    rcases hs with e | ⟨y, y1, y2, y3, y4, y5⟩
    · exact Or.inl e
    · exact Or.inr ⟨y, y1, y3, y4, y5⟩)
  have hO3 := ok_pop hO2 j3 j4 (by intro i hi; simp only [List.mem_cons, List.not_mem_nil, or_false] at hi; omega)
  have h44 : M3.1 44 = nI h := j2.2.2.2.2.1
  have hO4 := ok_sI (f := 46) (v := nI 0) (ok_sI (f := 44) (v := nI (h + 1)) (ok_sA (f := 41) (i := nI h) (v := nI w) hO3 (by omega)) (by omega)) (by omega)
  obtain ⟨M', b1, b2, b3⟩ := rd_step hO4 hne
  have h70 : F_X12_behind__70 (M3.1 44) (nI w) M3 = some (nI 1, M') := by
    unfold F_X12_behind__70
    have e44 : (sA M3 41 (nI h) (nI w)).1 44 + 1 = nI (h + 1) := by show M3.1 44 + 1 = _; rw [h44, nIs]
    have b1 : F_X12_next (sI (sI (sA M3 41 (nI h) (nI w)) 44 (nI (h + 1))) 46 0) = some M' := b1
    rw [h44, if_neg (no_oob (by omega : h < 45) (by omega)), pu_nwN, e44, pu_nwN, pu_nwN, b1, pu_ob1N]
    rfl
  obtain ⟨ta, wa, xa⟩ := isW (i := 25) hO2 (by omega)
  obtain ⟨to, wo, xo⟩ := isW (i := 24) hO2 (by omega)
  obtain ⟨ta', wa', xa'⟩ := isW (i := 25) hO3 (by omega)
  have wa : F_X12_isWord M2 (6385252 : Int64) = some (nI (tn ta)) := wa
  have wo : F_X12_isWord M2 (28530 : Int64) = some (nI (tn to)) := wo
  have wa' : F_X12_isWord M3 (6385252 : Int64) = some (nI (tn ta')) := wa'
  have T1 : ¬ nI (tn true) = (0 : Int32) := one_ne
  have T0 : nI (tn false) = (0 : Int32) := zero_eq
  have hF : FR [4, 11, 12, 13, 14, 42, 44, 45, 46] [8, 41] [] M M' := (((((n4.mono (by decide) (by decide) (by decide)).tr (j3.mono (by decide) (by decide) (by decide))).tr (FR.sA (by decide))).tr (FR.sI (by decide))).tr (FR.sI (by decide))).tr (b3.mono (by decide) (by decide) (by decide))
  have r41 : ∀ i, M'.2.2.1 41 i = if i = h then nI w else M.2.2.1 41 i := fun i => by
    rw [b3.2.1 41 (by decide)]
    show (sA M3 41 (nI h) (nI w)).2.2.1 41 i = _
    rw [pu_sAe (by omega), j3.2.1 41 (by decide), n4.2.1 41 (by decide)]
  refine ⟨M', ?_, b2, ⟨?_, ⟨?_, ?_, fun i hi => ?_⟩, trivial, trivial, ?_, fun y hy => absurd hy List.not_mem_nil, ?_, ?_⟩, ?_, ?_, by rw [r41, if_pos rfl], fun i hi => by rw [r41, if_neg (by omega)], hF⟩
  · unfold F_X12_behind_ F_X12_behind__24 F_X12_behind__42
    rcases hw with rfl | rfl
    · have j1 : F_X12_joins M2 21 = some M3 := j1
      have h70 : F_X12_behind__70 (M3.1 44) 21 M3 = some (nI 1, M') := h70
      rw [n1, pu_ob1N, wa, xa.mpr a2, pu_ob1N, if_neg T1, pu_ob1N, if_neg T1, j1, pu_ob1N, wa', xa'.mpr a2, pu_ob1N, if_neg T1, h70]
    · have j1 : F_X12_joins M2 22 = some M3 := j1
      have h70 : F_X12_behind__70 (M3.1 44) 22 M3 = some (nI 1, M') := h70
      have f1 : ta = false := by
        cases ta with
        | false => rfl
        | true => exact absurd (a2.symm.trans (xa.mp rfl)) (by decide)
      have f2 : ta' = false := by
        cases ta' with
        | false => rfl
        | true => exact absurd (a2.symm.trans (xa'.mp rfl)) (by decide)
      rw [n1, pu_ob1N, wa, f1, pu_ob1N, if_pos T0, wo, xo.mpr a2, pu_ob1N, if_neg T1, pu_ob1N, if_pos T0, j1, pu_ob1N, wa', f2, pu_ob1N, if_pos T0, h70]
  · exact j2.1
  · rw [b3.1 42 (by decide)]; exact j2.2.1.1
  · rw [b3.1 43 (by decide)]; exact j2.2.1.2.1
  · rw [b3.2.1 8 (by decide)]
    show (sA M3 41 (nI h) (nI w)).2.2.1 8 (3 * i) = _ ∧ (sA M3 41 (nI h) (nI w)).2.2.1 8 (3 * i + 1) = _ ∧ (sA M3 41 (nI h) (nI w)).2.2.1 8 (3 * i + 2) = _
    rw [pu_sAn (by omega)]
    exact j2.2.1.2.2 i hi
  · rw [b3.1 44 (by decide)]; rfl
  · exact j2.2.2.2.2.2.2.1
  · simp only [List.length_nil]; omega
  · rw [b3.1 45 (by decide)]
    show M3.1 45 = _
    rw [j3.1 45 (by decide), n3]
  · rw [b3.1 46 (by decide)]; rfl
end P51
