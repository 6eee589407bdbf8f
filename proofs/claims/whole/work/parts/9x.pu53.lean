/-! a sentence: 'not' and '(' -/
section P53
variable {R M M' M1 S P B N H T X G U : St} {V cs cg cu : Vt} {k n o h x j : Nat} {l : List Nat}
theorem rd_push {w : Nat} {r2 r4 r6 : Int32} (hw : (w = 20 ∧ r2 = nI 1) ∨ (w = 23 ∧ r2 = nI 0 ∧ r4 = nI 1)) (hO : OKs R M k) (hne : R.2.2.1 3 k ≠ nI 40) (hp : PD N M cs cg cu n o h []) (ho : o < 20) (h45 : M.1 45 = nI x) (hx : x ≤ 8) (hh : h < 44) : ∃ M', F_X12_operand_38 r2 r4 r6 M = some (nI 1, M') ∧ OKs (sI R 6 (nI (k + 1))) M' (k + 1) ∧ PD (sI N 4 (nI (o + 1))) M' cs cg cu n (o + 1) (h + 1) [] ∧ M'.1 45 = nI (x + 1) ∧ M'.1 46 = M.1 46 ∧ M'.2.2.1 41 h = nI w ∧ (∀ i, i < h → M'.2.2.1 41 i = M.2.2.1 41 i) ∧ FR [4, 11, 12, 13, 14, 43, 44, 45] [41] [] M M' := by
  have e43 : M.1 43 = nI o := hp.2.1.2.1
  have h44 : M.1 44 = nI h := hp.2.2.2.2.1
  have n20 : ¬ M.1 43 = (20 : Int32) := by rw [e43]; intro e; have := (nI_eq (b := 20) (by omega) (by omega)).mp e; omega
  have l8 : M.1 45 ≤ (8 : Int32) := by rw [h45]; exact nI_le (b := 8) hx (by omega)
  obtain ⟨M6, b1, b2, b3⟩ := rd_step (ok_sI (f := 43) (v := nI (o + 1)) hO (by omega)) hne
  have e44 : M6.1 44 = nI h := by rw [b3.1 44 (by decide)]; exact h44
  have e45 : M6.1 45 = nI x := by rw [b3.1 45 (by decide)]; exact h45
  have r6 : M6.2.2.1 41 = M.2.2.1 41 := by rw [b3.2.1 41 (by decide)]; rfl
  have h103 : F_X12_operand_103 (M6.1 44) (nI w) M6 = some (nI 1, sI (sI (sA M6 41 (nI h) (nI w)) 44 (nI (h + 1))) 45 (nI (x + 1))) := by
    unfold F_X12_operand_103
    have c1 : (sA M6 41 (nI h) (nI w)).1 44 + 1 = nI (h + 1) := by show M6.1 44 + 1 = _; rw [e44, nIs]
    have c2 : (sI (sA M6 41 (nI h) (nI w)) 44 (nI (h + 1))).1 45 + 1 = nI (x + 1) := by show M6.1 45 + 1 = _; rw [e45, nIs]
    rw [e44, if_neg (no_oob (by omega : h < 45) (by omega)), pu_nwN, c1, pu_nwN, c2, pu_nwN]
    rfl
  have r41 : ∀ i, (sI (sI (sA M6 41 (nI h) (nI w)) 44 (nI (h + 1))) 45 (nI (x + 1))).2.2.1 41 i = if i = h then nI w else M.2.2.1 41 i := fun i => by
    show (sA M6 41 (nI h) (nI w)).2.2.1 41 i = _
    rw [pu_sAe (by omega), r6]
  refine ⟨sI (sI (sA M6 41 (nI h) (nI w)) 44 (nI (h + 1))) 45 (nI (x + 1)), ?_, ok_sI (ok_sI (ok_sA b2 (by omega)) (by omega)) (by omega), ⟨⟨hp.1.1, rfl, hp.1.2.2⟩, ⟨?_, ?_, fun i hi => ?_⟩, trivial, trivial, rfl, hp.2.2.2.2.2.1, hp.2.2.2.2.2.2.1, by simp only [List.length_nil]; omega⟩, rfl, ?_, by rw [r41, if_pos rfl], fun i hi => by rw [r41, if_neg (by omega)], ((((FR.sI (by decide)).tr (b3.mono (by decide) (by decide) (by decide))).tr (FR.sA (by decide))).tr (FR.sI (by decide))).tr (FR.sI (by decide))⟩
  · unfold F_X12_operand_38 F_X12_operand_84
    rcases hw with ⟨rfl, hr⟩ | ⟨rfl, hr, hr4⟩
    · have h103 : F_X12_operand_103 (M6.1 44) 20 M6 = _ := h103
      rw [if_neg n20, if_pos l8, e43, nIs, pu_nwN, b1, pu_ob1N, hr, if_neg one_ne, if_neg one_ne, h103]
    · have h103 : F_X12_operand_103 (M6.1 44) 23 M6 = _ := h103
      rw [if_neg n20, if_pos l8, e43, nIs, pu_nwN, b1, pu_ob1N, hr, if_pos zero_eq, hr4, if_neg one_ne, if_pos zero_eq, h103]
  · show M6.1 42 = _
    rw [b3.1 42 (by decide)]; exact hp.2.1.1
  · show M6.1 43 = _
    rw [b3.1 43 (by decide)]; rfl
  · show (sA M6 41 (nI h) (nI w)).2.2.1 8 (3 * i) = _ ∧ (sA M6 41 (nI h) (nI w)).2.2.1 8 (3 * i + 1) = _ ∧ (sA M6 41 (nI h) (nI w)).2.2.1 8 (3 * i + 2) = _
    rw [pu_sAn (by omega), b3.2.1 8 (by decide)]
    exact hp.2.1.2.2 i hi
  · show M6.1 46 = _
    rw [b3.1 46 (by decide)]; rfl
end P53
