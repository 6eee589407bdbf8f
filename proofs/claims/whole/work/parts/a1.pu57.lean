/-! rows of 'not' marks -/
section P57
variable {M : St} {cs cg cu : Vt} {h j : Nat}
theorem STK_rep : STK M h (List.replicate j 20) ↔ ∀ i, i < j → M.2.2.1 41 (h + i) = nI 20 := by
  induction j with
  | zero => exact ⟨fun _ i hi => absurd hi (Nat.not_lt_zero i), fun _ => trivial⟩
  | succ j ih =>
    show (M.2.2.1 41 (h + (List.replicate j 20).length) = nI 20 ∧ STK M h (List.replicate j 20)) ↔ _
    rw [ih, List.length_replicate]
    constructor
    · intro ⟨a, b⟩ i hi
      by_cases q : i = j
      · rw [q]; exact a
      · exact b i (by omega)
    · intro a
      exact ⟨a j (by omega), fun i hi => a i (by omega)⟩
theorem TAIL_rep : ∀ {j n : Nat}, TAIL cs cg cu n (List.replicate j 20) ↔ ∀ i, i < j → cs (n + i) = 26 ∧ cg (n + i) = 0 ∧ cu (n + i) = 0 := by
  intro j
  induction j with
  | zero => intro n; exact ⟨fun _ i hi => absurd hi (Nat.not_lt_zero i), fun _ => trivial⟩
  | succ j ih =>
    intro n
    show (cs n = 46 - 20 ∧ cg n = 0 ∧ cu n = 0 ∧ TAIL cs cg cu (n + 1) (List.replicate j 20)) ↔ _
    rw [ih]
    constructor
    · intro ⟨a, b, c, d⟩ i hi
      by_cases q : i = 0
      · rw [q]; exact ⟨a, b, c⟩
      · have := d (i - 1) (by omega)
        rw [show n + 1 + (i - 1) = n + i by omega] at this
        exact this
    · intro a
      have a0 := a 0 (by omega)
      refine ⟨a0.1, a0.2.1, a0.2.2, fun i hi => ?_⟩
      have := a (i + 1) (by omega)
      rw [show n + (i + 1) = n + 1 + i by omega] at this
      exact this
end P57
