/-! a sentence: the limits of ONES, and what is to be shown of each reading -/
def OUT (R' N' M M' : St) (cs cg cu : Vt) (n o o0 h x k k' s d0 m0 j : Nat) (l : List Nat) : Prop := OKs R' M' k' ∧ k + s ≤ k' ∧ 1 ≤ s ∧ RCH M M' s ∧ M'.1 46 = nI 1 ∧ PD N' M' cs cg cu n o h (List.replicate j 20 ++ l) ∧ M'.1 45 = nI (x + j) ∧ (o0 < o ∧ o ≤ 20) ∧ (n + (j + l.length)) + dpt cs (n + (j + l.length)) + 2 * o0 ≤ 2 * o + m0 ∧ WC cs cg cu (n + (j + l.length)) ∧ dpt cs (n + (j + l.length)) = d0 + 1 ∧ (∀ i, i < h → M'.2.2.1 41 i = M.2.2.1 41 i) ∧ FR [4, 11, 12, 13, 14, 18, 42, 43, 44, 45, 46] [8, 41] [] M M'
def BAD (R' N' M M' : St) (k s : Nat) : Prop := FN N' ∧ FLT R' M' ∧ STP M M' s ∧ k + s ≤ 901 ∧ FR [4, 11, 12, 13, 14, 15, 16, 18, 42, 43, 44, 45, 46] [8, 41] [] M M'
def INP (B R N M : St) (V cs cg cu : Vt) (n o h x k : Nat) : Prop := OKs R M k ∧ BK B M V ∧ PD N M cs cg cu n o h [] ∧ o ≤ 20 ∧ n + dpt cs n ≤ 2 * o ∧ WC cs cg cu n ∧ M.1 45 = nI x ∧ 1 ≤ x ∧ x ≤ 9 ∧ M.1 46 = nI 0
section P55
variable {R M M' M1 S P B N H T X G U : St} {V cs cg cu : Vt} {k n o h x j : Nat} {l : List Nat}
theorem rd_lim {f g : St → St → St → Int32 → Option (St × St)} (hI : INP B R N M V cs cg cu n o h x k) (hl : o = 20 ∨ 9 ≤ x) : ∃ R' M', F_X7_readOne_28 f g (nI x) N R B = some (N, R') ∧ (∀ r2 r4 r6, F_X12_operand_38 r2 r4 r6 M = some (nI 0, M')) ∧ FLT R' M' ∧ FR [15, 16] [] [] M M' := by
  obtain ⟨hO, hb, hp, ho, hnd, hWC, h45, hx1, hx9, h46⟩ := hI
  have e43 : M.1 43 = nI o := hp.2.1.2.1
  have e4 : N.1 4 = nI o := hp.1.2.1
  obtain ⟨R', M', c1, c2, c3, c4⟩ := rd_fail (f := 4) hO (by omega) (by omega)
  have c1 : F_X5_fail R 4 = some R' := c1
  have c2 : F_X12_bad M 4 = some (nI 0, M') := c2
  have h43 : F_X7_readOne_43 f g (nI x) N R B = some (N, R') := by
    unfold F_X7_readOne_43 F_X7_readOne_48
    rw [c1, pu_ob1N, if_neg (FLc_8 c3.1)]
  have h56 : F_X12_operand_56 M = some (nI 0, M') := by
    unfold F_X12_operand_56
    rw [c2, pu_ob2N, if_neg nb0]
  refine ⟨R', M', ?_, fun r2 r4 r6 => ?_, c3, c4⟩
  · unfold F_X7_readOne_28
    rw [e4]
    by_cases q : o = 20
    · rw [q, if_pos (show (20 : Int32) ≤ nI 20 from Int32.le_refl _), h43]
    · rw [if_neg (show ¬ (20 : Int32) ≤ nI o from nI_ge (b := 20) (by omega) (by omega)), if_neg (show ¬ nI x ≤ (8 : Int32) from nI_ge (a := 8) (by omega) (by omega)), h43]
  · unfold F_X12_operand_38
    rw [e43]
    by_cases q : o = 20
    · rw [q, if_pos (show nI 20 = (20 : Int32) from rfl), h56]
    · rw [if_neg (show ¬ nI o = (20 : Int32) from fun e => q ((nI_eq (b := 20) (by omega) (by omega)).mp e)), h45, if_neg (show ¬ nI x ≤ (8 : Int32) from nI_ge (a := 8) (by omega) (by omega)), h56]
theorem rd_nolim {f g : St → St → St → Int32 → Option (St × St)} (e4 : N.1 4 = nI o) (ho : o < 20) (hx : x ≤ 8) : F_X7_readOne_28 f g (nI x) N R B = F_X7_readOne_48 f g (nI x) N R B := by
  unfold F_X7_readOne_28
  rw [e4, if_neg (show ¬ (20 : Int32) ≤ nI o from nI_ge (b := 20) (by omega) (by omega)), if_pos (show nI x ≤ (8 : Int32) from nI_le (b := 8) hx (by omega))]
end P55
