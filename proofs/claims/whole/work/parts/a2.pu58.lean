/-! a sentence: 'not' ONE -/
section P58
variable {R M M' M1 S P B N H T X G U : St} {V cs cg cu : Vt} {k n o h x j d : Nat} {l : List Nat}
theorem rd_oneNot {f g : St → St → St → Int32 → Option (St × St)} {r4 r6 : Int32} (hA : SPA g B V d) (hI : INP B R N M V cs cg cu n o h x k) (ho : o < 20) (hx : x ≤ 8) (hh : h + 1 ≤ 3 * x) (hd : 9 ≤ d + x) (hne : R.2.2.1 3 k ≠ nI 40) (t1 : F_X5_takeMark R 40 = some (nI 0, R)) (t2 : F_X5_takeWord R 26 = some (nI 1, sI R 6 (nI (k + 1)))) (t3 : F_X12_operand M = F_X12_operand_38 (nI 1) r4 r6 M) : (∃ N' R' M' cs' cg' cu' n' o' k' s j, F_X7_readOne_48 f g (nI x) N R B = some (N', R') ∧ OUT R' N' M M' cs' cg' cu' n' o' o h x k k' s (dpt cs n) (n + dpt cs n) j []) ∨ (∃ N' R' M' s, F_X7_readOne_48 f g (nI x) N R B = some (N', R') ∧ BAD R' N' M M' k s) := by
  obtain ⟨hO, hb, hp, ho', hnd, hWC, h45, hx1, hx9, h46⟩ := hI
  have hk := ok_k hO
  have e4 : N.1 4 = nI o := hp.1.2.1
  obtain ⟨M1, b1, b2, b3, b4, b5, b6, b7, b8⟩ := rd_push (w := 20) (r2 := nI 1) (r4 := r4) (r6 := r6) (Or.inl ⟨rfl, rfl⟩) hO hne hp ho h45 hx (by omega)
  have hs := (sb_operand h46 (t3.trans b1)).1 rfl
  have hc : F_X7_readOne_48 f g (nI x) N R B = ob2 (g (sI N 4 (nI (o + 1))) (sI R 6 (nI (k + 1))) B (nI (x + 1))) fun U16 U17 => ob1 (F_X7_addStep U16 26 0 0) fun U19 => some (U19, U17) := by
    unfold F_X7_readOne_48
    rw [hO.2.2, if_pos zero_eq, e4, nIs, pu_nwN, t1, pu_ob2N, if_pos zero_eq, t2, pu_ob2N, if_neg one_ne, nIs]
  rw [hc]
  have hI1 : INP B (sI R 6 (nI (k + 1))) (sI N 4 (nI (o + 1))) M1 V cs cg cu n (o + 1) (h + 1) (x + 1) (k + 1) := ⟨b2, BK_fr hb b8 (by decide) (by decide) (by decide), b3, by omega, by omega, hWC, b4, by omega, by omega, by rw [b5, h46]⟩
  rcases hA _ _ _ _ _ _ _ _ _ _ _ hI1 (by omega) (by omega) with ⟨N', R', M', cs', cg', cu', n', o', k', s, j, c1, c2, c3, c4, c5, c6, c7, c8, c9, c10, c11, c12, c13, c14⟩ | ⟨N', R', M', s, c1, c2, c3, c4, c5, c6⟩
  · left
    simp only [List.append_nil, List.length_nil, Nat.add_zero] at c7 c10 c11 c12
    obtain ⟨p1, p2, p3, p4, p5, p6, p7, p8⟩ := c7
    rw [List.length_replicate] at p1 p5 p7 p8
    obtain ⟨N2, s1, s2⟩ := x7_add (s := 26) (g := 0) (u := 0) p1 (by omega)
    have s1 : F_X7_addStep N' 26 0 0 = some N2 := s1
    have hd1 : dpt (up cs' (n' + j) 26) (n' + j + 1) = dpt cs n + 1 := by rw [dpt_s, pu_upe, if_pos rfl, dpt_up, c12]
    refine ⟨N2, R', M', up cs' (n' + j) 26, up cg' (n' + j) 0, up cu' (n' + j) 0, n', o', k', 1 + s, j + 1, by rw [c1, pu_ob2N, s1, pu_ob1N], c2, by omega, by omega, hs.tr c5, c6, ?_, by rw [c8, show x + 1 + j = x + (j + 1) by omega], ⟨by omega, c9.2⟩, ?_, ?_, ?_, fun i hi => ?_, ?_⟩
    · rw [List.append_nil]
      refine ⟨by rw [List.length_replicate, show n' + (j + 1) = n' + j + 1 by omega]; exact s2, ⟨p2.1, p2.2.1, fun i hi => ?_⟩, TAIL_rep.mpr (fun i hi => ?_), STK_rep.mpr (fun i hi => ?_), by rw [List.length_replicate, p5, show h + 1 + j = h + (j + 1) by omega], fun y hy => ?_, by rw [List.length_replicate]; omega, by rw [List.length_replicate]; omega⟩
      · rw [pu_upn (by omega), pu_upn (by omega), pu_upn (by omega)]; exact p2.2.2 i hi
      · by_cases q : i = j
        · rw [q, pu_upe, pu_upe, pu_upe]; exact ⟨rfl, rfl, rfl⟩
        · rw [pu_upn (by omega), pu_upn (by omega), pu_upn (by omega)]; exact TAIL_rep.mp p3 i (by omega)
      · by_cases q : i = 0
        · rw [q, Nat.add_zero, c13 h (by omega), b6]
        · have := STK_rep.mp p4 (i - 1) (by omega)
          rw [show h + 1 + (i - 1) = h + i by omega] at this
          exact this
      · have := List.eq_of_mem_replicate hy
        omega
    · show n' + (j + 1) + dpt (up cs' (n' + j) 26) (n' + (j + 1)) + 2 * o ≤ 2 * o' + (n + dpt cs n)
      rw [show n' + (j + 1) = n' + j + 1 by omega, hd1]
      omega
    · show WC _ _ _ (n' + (j + 1))
      rw [show n' + (j + 1) = n' + j + 1 by omega]
      have := dpt_le (cs := cs') (n := n' + j)
      exact WC_ext c11 (by omega) (fun _ => by omega) (fun e => by omega) (fun e => by omega) (by omega) (fun e => by omega) (by omega)
    · show dpt (up cs' (n' + j) 26) (n' + (j + 1)) = _
      rw [show n' + (j + 1) = n' + j + 1 by omega, hd1]
    · rw [c13 i (by omega), b7 i hi]
    · exact (b8.mono (by decide) (by decide) (by decide)).tr c14
  · right
    obtain ⟨N2, s1, s2⟩ := x7_addAny c2 26 0 0
    exact ⟨N2, R', M', 1 + s, by rw [c1, pu_ob2N, s1, pu_ob1N], s2, c3, hs.st c4, by omega, (b8.mono (by decide) (by decide) (by decide)).tr c6⟩
end P58
