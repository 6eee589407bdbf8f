/-! a sentence: which leaf, and the model's loop step by step -/
abbrev SB : (Int32 × St → Option (Int32 × St)) → Int32 × St → Option (Int32 × St) := fun kz z => F_X12_sentence_48 kz z.1 z.2
def RCH (M M' : St) (s : Nat) : Prop := ∀ m, lp SB (s + m) (nI 1, M) = lp SB m (nI 1, M')
def STP (M M' : St) (s : Nat) : Prop := ∀ m, lp SB (s + m) (nI 1, M) = some ((-1 : Int32) - M'.1 16, M')
section P50
variable {R M M' M1 S P B N H T X G U : St} {V : Vt} {k n s s1 : Nat}
theorem RCH.tr (h1 : RCH M M1 s) (h2 : RCH M1 M' s1) : RCH M M' (s + s1) := fun m => by
  rw [Nat.add_assoc, h1, h2]
theorem RCH.st (h1 : RCH M M1 s) (h2 : STP M1 M' s1) : STP M M' (s + s1) := fun m => by
  rw [Nat.add_assoc, h1, h2]
theorem RCH.rf : RCH M M 0 := fun m => by rw [Nat.zero_add]
theorem sb_101 (h : M.1 46 = nI 0 ∨ ¬ M.1 11 = 0) (K : Int32 × St → Option (Int32 × St)) : F_X12_sentence_48 K (nI 1) M = F_X12_sentence_101 K (nI 1) M := by
  unfold F_X12_sentence_48
  rw [if_neg one_ne]
  rcases h with h | h
  · rw [h, if_pos zero_eq]
  · rw [if_neg h, ite_self]
theorem sb_operand {r : Int32} (h46 : M.1 46 = nI 0) (h : F_X12_operand M = some (r, M')) : (r = nI 1 → RCH M M' 1) ∧ (r = nI 0 → STP M M' 1) := by
  have key : ∀ m, lp SB (1 + m) (nI 1, M) = F_X12_sentence_101 (lp SB m) (nI 1) M := fun m => by
    rw [Nat.add_comm]
    exact sb_101 (Or.inl h46) _
  refine ⟨fun e m => ?_, fun e m => ?_⟩
  · rw [key]
    generalize lp SB m = L
    unfold F_X12_sentence_101
    rw [h46, if_pos zero_eq, h, pu_ob2N, e, if_neg one_ne]
  · rw [key]
    generalize lp SB m = L
    unfold F_X12_sentence_101
    rw [h46, if_pos zero_eq, h, pu_ob2N, e, if_pos zero_eq]
theorem sb_behind {r : Int32} (h46 : M.1 46 = nI 1) (h11 : ¬ M.1 11 = 0) (h : F_X12_behind_ M = some (r, M')) : (r = nI 1 → RCH M M' 1) ∧ (r = nI 0 → STP M M' 1) := by
  have key : ∀ m, lp SB (1 + m) (nI 1, M) = F_X12_sentence_101 (lp SB m) (nI 1) M := fun m => by
    rw [Nat.add_comm]
    exact sb_101 (Or.inr h11) _
  refine ⟨fun e m => ?_, fun e m => ?_⟩
  · rw [key]
    generalize lp SB m = L
    unfold F_X12_sentence_101
    rw [h46, if_neg one_ne, h, pu_ob2N, e, if_neg one_ne]
  · rw [key]
    generalize lp SB m = L
    unfold F_X12_sentence_101
    rw [h46, if_neg one_ne, h, pu_ob2N, e, if_pos zero_eq]
theorem rd_leafOf (h : OKs R M k) : (∃ a, a < 9 ∧ R.2.2.1 3 k = nI (27 + a) ∧ F_X12_leafOf M = some (nI a)) ∨ ((∀ a, a < 9 → R.2.2.1 3 k ≠ nI (27 + a)) ∧ F_X12_leafOf M = some nO) := by
  have wd : ∀ i, i < 36 → ∃ t : Bool, F_X12_isWord M (lN (r256 (wl i))) = some (nI (tn t)) ∧ (t = true ↔ R.2.2.1 3 k = nI i) := fun i hi => by
    obtain ⟨t, -, a2, a3, a4⟩ := rd_isWord (i := i) h hi
    exact ⟨t, a2, fun e => (a3 e).2, a4⟩
  have T1 : ¬ nI (tn true) = (0 : Int32) := one_ne
  have T0 : nI (tn false) = (0 : Int32) := zero_eq
  obtain ⟨t0, w0, x0⟩ := wd 27 (by omega)
  have w0 : F_X12_isWord M (30064 : Int64) = some (nI (tn t0)) := w0
  obtain ⟨t1, w1, x1⟩ := wd 28 (by omega)
  have w1 : F_X12_isWord M (1835625572 : Int64) = some (nI (tn t1)) := w1
  obtain ⟨t2, w2, x2⟩ := wd 29 (by omega)
  have w2 : F_X12_isWord M (31644380074042724 : Int64) = some (nI (tn t2)) := w2
  obtain ⟨t3, w3, x3⟩ := wd 30 (by omega)
  have w3 : F_X12_isWord M (6840691 : Int64) = some (nI (tn t3)) := w3
  obtain ⟨t4, w4, x4⟩ := wd 31 (by omega)
  have w4 : F_X12_isWord M (28526 : Int64) = some (nI (tn t4)) := w4
  obtain ⟨t5, w5, x5⟩ := wd 32 (by omega)
  have w5 : F_X12_isWord M (508574398323 : Int64) = some (nI (tn t5)) := w5
  obtain ⟨t6, w6, x6⟩ := wd 33 (by omega)
  have w6 : F_X12_isWord M (474148402789 : Int64) = some (nI (tn t6)) := w6
  obtain ⟨t7, w7, x7⟩ := wd 34 (by omega)
  have w7 : F_X12_isWord M (27985222756885860 : Int64) = some (nI (tn t7)) := w7
  obtain ⟨t8, w8, x8⟩ := wd 35 (by omega)
  have w8 : F_X12_isWord M (121450625394034 : Int64) = some (nI (tn t8)) := w8
  unfold F_X12_leafOf
  rw [w0, pu_ob1N]
  cases t0 with
  | true => exact Or.inl ⟨0, by omega, x0.mp rfl, by rw [if_neg T1]; rfl⟩
  | false =>
    rw [if_pos T0]
    rw [w1, pu_ob1N]
    cases t1 with
    | true => exact Or.inl ⟨1, by omega, x1.mp rfl, by rw [if_neg T1]; rfl⟩
    | false =>
      rw [if_pos T0]
      rw [w2, pu_ob1N]
      cases t2 with
      | true => exact Or.inl ⟨2, by omega, x2.mp rfl, by rw [if_neg T1]; rfl⟩
      | false =>
        rw [if_pos T0]
        rw [w3, pu_ob1N]
        cases t3 with
        | true => exact Or.inl ⟨3, by omega, x3.mp rfl, by rw [if_neg T1]; rfl⟩
        | false =>
          rw [if_pos T0]
          rw [w4, pu_ob1N]
          cases t4 with
          | true => exact Or.inl ⟨4, by omega, x4.mp rfl, by rw [if_neg T1]; rfl⟩
          | false =>
            rw [if_pos T0]
            rw [w5, pu_ob1N]
            cases t5 with
            | true => exact Or.inl ⟨5, by omega, x5.mp rfl, by rw [if_neg T1]; rfl⟩
            | false =>
              rw [if_pos T0]
              rw [w6, pu_ob1N]
              cases t6 with
              | true => exact Or.inl ⟨6, by omega, x6.mp rfl, by rw [if_neg T1]; rfl⟩
              | false =>
                rw [if_pos T0]
                rw [w7, pu_ob1N]
                cases t7 with
                | true => exact Or.inl ⟨7, by omega, x7.mp rfl, by rw [if_neg T1]; rfl⟩
                | false =>
                  rw [if_pos T0]
                  rw [w8, pu_ob1N]
                  cases t8 with
                  | true => exact Or.inl ⟨8, by omega, x8.mp rfl, by rw [if_neg T1]; rfl⟩
                  | false =>
                    rw [if_pos T0]
                    refine Or.inr ⟨fun a ha e => ?_, rfl⟩
                    rcases (show a = 0 ∨ a = 1 ∨ a = 2 ∨ a = 3 ∨ a = 4 ∨ a = 5 ∨ a = 6 ∨ a = 7 ∨ a = 8 by omega) with rfl | rfl | rfl | rfl | rfl | rfl | rfl | rfl | rfl
                    · exact absurd (x0.mpr e) (by decide)
                    · exact absurd (x1.mpr e) (by decide)
                    · exact absurd (x2.mpr e) (by decide)
                    · exact absurd (x3.mpr e) (by decide)
                    · exact absurd (x4.mpr e) (by decide)
                    · exact absurd (x5.mpr e) (by decide)
                    · exact absurd (x6.mpr e) (by decide)
                    · exact absurd (x7.mpr e) (by decide)
                    · exact absurd (x8.mpr e) (by decide)
end P50
