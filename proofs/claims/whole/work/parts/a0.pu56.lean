/-! a sentence: one ONE, in step -/
def SPA (f : St → St → St → Int32 → Option (St × St)) (B : St) (V : Vt) (d : Nat) : Prop := ∀ R M N cs cg cu n o h x k, INP B R N M V cs cg cu n o h x k → h + 1 ≤ 3 * x → 10 ≤ d + x → (∃ N' R' M' cs' cg' cu' n' o' k' s j, f N R B (nI x) = some (N', R') ∧ OUT R' N' M M' cs' cg' cu' n' o' o h x k k' s (dpt cs n) (n + dpt cs n) j []) ∨ (∃ N' R' M' s, f N R B (nI x) = some (N', R') ∧ BAD R' N' M M' k s)
def SPC (f : St → St → St → Int32 → Option (St × St)) (B : St) (V : Vt) (d : Nat) : Prop := ∀ R M N cs cg cu n o h x k, INP B R N M V cs cg cu n o h x k → h + 3 ≤ 3 * x → 10 ≤ d + x → (h = 0 ∨ M.2.2.1 41 (h - 1) = nI 23) → (∃ N' R' M' cs' cg' cu' n' o' k' s j l, f N R B (nI x) = some (N', R') ∧ (∀ y, y ∈ l → y = 21 ∨ y = 22) ∧ R'.2.2.1 3 k' ≠ nI 24 ∧ R'.2.2.1 3 k' ≠ nI 25 ∧ OUT R' N' M M' cs' cg' cu' n' o' o h x k k' s (dpt cs n) (n + dpt cs n) j l) ∨ (∃ N' R' M' s, f N R B (nI x) = some (N', R') ∧ BAD R' N' M M' k s)
section P56
variable {R M M' M1 S P B N H T X G U : St} {V cs cg cu : Vt} {k n o h x j : Nat} {l : List Nat}
theorem rd_oneLeaf {f g : St → St → St → Int32 → Option (St × St)} {a : Nat} (hI : INP B R N M V cs cg cu n o h x k) (ho : o < 20) (hx : x ≤ 8) (ha : a < 9) (a2 : R.2.2.1 3 k = nI (27 + a)) (t1 : F_X5_takeMark R 40 = some (nI 0, R)) (t2 : F_X5_takeWord R 26 = some (nI 0, R)) (t3 : F_X12_operand M = F_X12_operand_38 (nI 0) (nI 0) (nI a) M) : (∃ N' R' M' cs' cg' cu' n' o' k' s j, F_X7_readOne_48 f g (nI x) N R B = some (N', R') ∧ OUT R' N' M M' cs' cg' cu' n' o' o h x k k' s (dpt cs n) (n + dpt cs n) j []) ∨ (∃ N' R' M' s, F_X7_readOne_48 f g (nI x) N R B = some (N', R') ∧ BAD R' N' M M' k s) := by
  obtain ⟨hO, hb, hp, ho', hnd, hWC, h45, hx1, hx9, h46⟩ := hI
  have hk := ok_k hO
  have hdn := dpt_le (cs := cs) (n := n)
  have e4 : N.1 4 = nI o := hp.1.2.1
  have hc : F_X7_readOne_48 f g (nI x) N R B = F_X7_readPlain (sI N 4 (nI (o + 1))) R B := by
    unfold F_X7_readOne_48
    rw [hO.2.2, if_pos zero_eq, e4, nIs, pu_nwN, t1, pu_ob2N, if_pos zero_eq, t2, pu_ob2N, if_pos zero_eq]
    cases F_X7_readPlain (sI N 4 (nI (o + 1))) R B with
    | none => rfl
    | some z => rfl
  rw [hc]
  rcases rd_leaf (x := x) hO hb hp (by omega) ho h45 hx ha a2 with ⟨N', R', M', g', u, k', c1, c2, c3, c4, c5, c6, c7, c8, c9, c10⟩ | ⟨N', R', M', c1, c2, c3, c4, c5⟩
  · left
    have hs := (sb_operand h46 (t3.trans c2)).1 rfl
    have hd : dpt (up cs n (27 + a)) (n + 1) = dpt cs n + 1 := by
      rw [dpt_s, pu_upe, if_neg (by omega), if_neg (by omega), dpt_up]
    refine ⟨N', R', M', _, _, _, n + 1, o + 1, k', 1, 0, c1, c3, by omega, by omega, hs, c5, c6, ?_, ⟨by omega, by omega⟩, ?_, ?_, ?_, fun i hi => ?_, c10.mono (by decide) (by decide) (by decide)⟩
    · rw [c10.1 45 (by decide), h45]; rfl
    · show n + 1 + dpt (up cs n (27 + a)) (n + 1) + 2 * o ≤ 2 * (o + 1) + (n + dpt cs n)
      rw [hd]; omega
    · show WC (up cs n (27 + a)) (up cg n g') (up cu n u) (n + 1)
      exact WC_ext hWC (by omega) (fun e => by omega) (fun e => by omega) (fun e => c8 (by omega)) c7 (fun e => c9 (by omega)) (by omega)
    · exact hd
    · rw [c10.2.1 41 (by decide)]
  · right
    have hs := (sb_operand h46 (t3.trans c2)).2 rfl
    exact ⟨N', R', M', 1, c1, c3, c4, hs, by omega, c5.mono (by decide) (by decide) (by decide)⟩
end P56
