/-! a sentence: '(' SENTENCE ')', and any ONE -/
section P59
variable {R M M' M1 S P B N H T X G U : St} {V cs cg cu : Vt} {k n o h x j d : Nat} {l : List Nat}
theorem sb_end (hO : OKs R M k) (h46 : M.1 46 = nI 1) (h11 : M.1 11 = 0) (hp : PD N M cs cg cu n o (h + 1) (List.replicate j 20 ++ l)) (h45 : M.1 45 = nI (x + j)) (hx : x < 900) (hj : j < 1000) (hl : ∀ y, y ∈ l → y = 21 ∨ y = 22) (hs : M.2.2.1 41 h = nI 23) : ∃ R' M', F_X5_fail R 1 = some R' ∧ STP M M' 1 ∧ FLT R' M' ∧ FR [15, 16, 42, 44, 45] [8] [] M M' := by
  have hb45 := hp.2.2.2.2.2.2.2
  obtain ⟨M2, M3, n1, j1, hO2, hO3, p3, q45, hF⟩ := rd_pops (x := x) hO hp h45 (by omega) hj hl (Or.inr hs)
  have h44 : M3.1 44 = nI (h + 1) := p3.2.2.2.2.1
  obtain ⟨R', M', c1, c2, c3, c4⟩ := rd_fail (f := 1) hO3 (by omega) (by omega)
  have c2 : F_X12_bad M3 1 = some (nI 0, M') := c2
  refine ⟨R', M', c1, fun m => ?_, c3, (hF.mono (by decide) (by decide) (by decide)).tr (c4.mono (by decide) (by decide) (by decide))⟩
  rw [Nat.add_comm]
  show F_X12_sentence_48 (lp SB m) (nI 1) M = _
  generalize lp SB m = L
  unfold F_X12_sentence_48
  rw [if_neg one_ne, h46, if_neg one_ne, if_pos h11, n1, pu_ob1N, j1, pu_ob1N, h44, if_neg (show ¬ nI (h + 1) ≤ (0 : Int32) from nI_nle (by omega) (by omega)), c2, pu_ob2N]
theorem rd_oneOpen {f g : St → St → St → Int32 → Option (St × St)} {r6 : Int32} (hC : SPC f B V d) (hI : INP B R N M V cs cg cu n o h x k) (ho : o < 20) (hx : x ≤ 8) (hh : h + 1 ≤ 3 * x) (hd : 9 ≤ d + x) (hne : R.2.2.1 3 k ≠ nI 40) (t1 : F_X5_takeMark R 40 = some (nI 1, sI R 6 (nI (k + 1)))) (t3 : F_X12_operand M = F_X12_operand_38 (nI 0) (nI 1) r6 M) : (∃ N' R' M' cs' cg' cu' n' o' k' s j, F_X7_readOne_48 f g (nI x) N R B = some (N', R') ∧ OUT R' N' M M' cs' cg' cu' n' o' o h x k k' s (dpt cs n) (n + dpt cs n) j []) ∨ (∃ N' R' M' s, F_X7_readOne_48 f g (nI x) N R B = some (N', R') ∧ BAD R' N' M M' k s) := by
  obtain ⟨hO, hb, hp, ho', hnd, hWC, h45, hx1, hx9, h46⟩ := hI
  have hk := ok_k hO
  have e4 : N.1 4 = nI o := hp.1.2.1
  obtain ⟨M1, b1, b2, b3, b4, b5, b6, b7, b8⟩ := rd_push (w := 23) (r2 := nI 0) (r4 := nI 1) (r6 := r6) (Or.inr ⟨rfl, rfl, rfl⟩) hO hne hp ho h45 hx (by omega)
  have hs := (sb_operand h46 (t3.trans b1)).1 rfl
  have hc : F_X7_readOne_48 f g (nI x) N R B = ob2 (f (sI N 4 (nI (o + 1))) (sI R 6 (nI (k + 1))) B (nI (x + 1))) fun U21 U22 => ob1 (F_X5_needMark U22 41) fun U24 => some (U21, U24) := by
    unfold F_X7_readOne_48
    rw [hO.2.2, if_pos zero_eq, e4, nIs, pu_nwN, t1, pu_ob2N, if_neg one_ne, nIs]
  rw [hc]
  have hI1 : INP B (sI R 6 (nI (k + 1))) (sI N 4 (nI (o + 1))) M1 V cs cg cu n (o + 1) (h + 1) (x + 1) (k + 1) := ⟨b2, BK_fr hb b8 (by decide) (by decide) (by decide), b3, by omega, by omega, hWC, b4, by omega, by omega, by rw [b5, h46]⟩
  rcases hC _ _ _ _ _ _ _ _ _ _ _ hI1 (by omega) (by omega) (Or.inr b6) with ⟨N', R', M', cs', cg', cu', n', o', k', s, j, l, c1, cl, ca, co, c2, c3, c3', c5, c6, c7, c8, c9, c10, c11, c12, c13, c14⟩ | ⟨N', R', M', s, c1, c2, c3, c4, c5, c6⟩
  · have hk' := ok_k c2
    have q23 : M'.2.2.1 41 h = nI 23 := by rw [c13 h (by omega), b6]
    have hjb : j < 1000 := by
      have := c7.2.2.2.2.2.2.2
      simp only [List.length_append, List.length_replicate] at this
      omega
    obtain ⟨t, a1, a2, a3⟩ := rd_isMark (c := 41) c2 (by omega)
    have mt := rd_take c2 (by omega) a1 (fun e => (a3 e).1)
    have a2 : F_X12_isSign M' 41 = some (nI (tn t)) := a2
    have mt : F_X5_takeMark R' 41 = some (nI (tn t), if t = true then sI R' 6 (nI (k' + 1)) else R') := mt
    cases t with
    | true =>
      left
      have h11 : ¬ M'.1 11 = 0 := by
        intro e
        unfold F_X12_isSign at a2
        rw [e, if_neg (show ¬ (0 : Int32) = 3 by decide)] at a2
        exact absurd (Option.some.inj a2) (by decide)
      obtain ⟨M2, d1, d2, d3, d4, d5, d6⟩ := rd_close (x := x) c2 (a3 rfl).2 a2 c7 c8 (by omega) hjb cl q23
      have hs2 := (sb_behind c6 h11 d1).1 rfl
      have hnm : F_X5_needMark R' 41 = some (sI R' 6 (nI (k' + 1))) := by
        unfold F_X5_needMark
        rw [mt, if_pos rfl, pu_ob2N, if_neg (show ¬ nI (tn true) = 0 from one_ne)]
      refine ⟨N', _, M2, cs', cg', cu', n' + j + l.length, o', k' + 1, 1 + s + 1, 0, by rw [c1, pu_ob2N, hnm, pu_ob1N], d2, by omega, by omega, (hs.tr c5).tr hs2, by rw [d5, c6], d3, d4, ⟨by omega, c9.2⟩, ?_, ?_, ?_, fun i hi => ?_, ?_⟩
      · show n' + j + l.length + dpt cs' (n' + j + l.length) + 2 * o ≤ 2 * o' + (n + dpt cs n)
        rw [show n' + j + l.length = n' + (j + l.length) by omega]
        omega
      · show WC cs' cg' cu' (n' + j + l.length)
        rw [show n' + j + l.length = n' + (j + l.length) by omega]
        exact c11
      · show dpt cs' (n' + j + l.length) = _
        rw [show n' + j + l.length = n' + (j + l.length) by omega]
        exact c12
      · rw [d6.2.1 41 (by decide), c13 i (by omega), b7 i hi]
      · exact ((b8.mono (by decide) (by decide) (by decide)).tr c14).tr (d6.mono (by decide) (by decide) (by decide))
    | false =>
      right
      have hfn : FN N' := ⟨_, c7.2.2.2.2.2.2.1, c7.1.1⟩
      have hnm : ∀ R2, F_X5_fail R' 1 = some R2 → F_X5_needMark R' 41 = some R2 := fun R2 e => by
        unfold F_X5_needMark
        rw [mt, if_neg (by decide), pu_ob2N, if_pos (show nI (tn false) = 0 from zero_eq), e, pu_ob1N]
      by_cases h11 : M'.1 11 = 0
      · obtain ⟨R2, M2, d1, d2, d3, d4⟩ := sb_end (x := x + 1) c2 c6 h11 c7 c8 (by omega) hjb cl q23
        exact ⟨N', R2, M2, 1 + s + 1, by rw [c1, pu_ob2N, hnm R2 d1, pu_ob1N], hfn, d3, (hs.tr c5).st d2, by omega, (((b8.mono (by decide) (by decide) (by decide)).tr (c14.mono (by decide) (by decide) (by decide)))).tr (d4.mono (by decide) (by decide) (by decide))⟩
      · obtain ⟨R2, M2, d1, d2, d3, d4⟩ := rd_wrong (x := x + 1) c2 co ca (Or.inr a2) c7 c8 (by omega) hjb cl (Or.inr q23)
        exact ⟨N', R2, M2, 1 + s + 1, by rw [c1, pu_ob2N, hnm R2 d2, pu_ob1N], hfn, d3, (hs.tr c5).st ((sb_behind c6 h11 d1).2 rfl), by omega, (((b8.mono (by decide) (by decide) (by decide)).tr (c14.mono (by decide) (by decide) (by decide)))).tr (d4.mono (by decide) (by decide) (by decide))⟩
  · right
    exact ⟨N', R', M', 1 + s, by rw [c1, pu_ob2N, fl_needMark c3.1, pu_ob1N], c2, c3, hs.st c4, by omega, (b8.mono (by decide) (by decide) (by decide)).tr c6⟩
theorem rd_one {f g : St → St → St → Int32 → Option (St × St)} (hC : SPC f B V d) (hA : SPA g B V d) : SPA (F_X7_readOne f g) B V (d + 1) := by
  intro R M N cs cg cu n o h x k hI hh hd
  obtain ⟨hO, hb, hp, ho', hnd, hWC, h45, hx1, hx9, h46⟩ := id hI
  have hk := ok_k hO
  have hfn : FN N := ⟨_, hp.2.2.2.2.2.2.1, hp.1.1⟩
  have lim : (o = 20 ∨ 9 ≤ x) → ∀ r2 r4 r6, F_X12_operand M = F_X12_operand_38 r2 r4 r6 M → F_X7_readOne f g N R B (nI x) = F_X7_readOne_28 f g (nI x) N R B → ∃ N' R' M' s, F_X7_readOne f g N R B (nI x) = some (N', R') ∧ BAD R' N' M M' k s := fun hl r2 r4 r6 t3 e => by
    obtain ⟨R', M', c1, c2, c3, c4⟩ := rd_lim (f := f) (g := g) hI hl
    exact ⟨N, R', M', 1, by rw [e, c1], hfn, c3, (sb_operand h46 (t3.trans (c2 r2 r4 r6))).2 rfl, by omega, c4.mono (by decide) (by decide) (by decide)⟩
  rcases rd_dispatch hO with ⟨a, ha, a2, m1, m2, m3, m4, m5⟩ | ⟨hne, m1, m2, m3, m4, r4, r6, m5⟩ | ⟨hne, m1, m3, r6, m5⟩ | ⟨m1, m2, R', M', m3, m4, m5, m6⟩
  · have e : F_X7_readOne f g N R B (nI x) = F_X7_readOne_28 f g (nI x) N R B := by
      unfold F_X7_readOne
      rw [m1, pu_ob1N, if_pos zero_eq, m2, pu_ob1N, if_neg one_ne]
    by_cases hl : o = 20 ∨ 9 ≤ x
    · exact Or.inr (lim hl _ _ _ m5 e)
    · rw [e, rd_nolim hp.1.2.1 (by omega) (by omega)]
      exact rd_oneLeaf hI (by omega) (by omega) ha a2 m3 m4 m5
  · have e : F_X7_readOne f g N R B (nI x) = F_X7_readOne_28 f g (nI x) N R B := by
      unfold F_X7_readOne
      rw [m1, pu_ob1N, if_pos zero_eq, m2, pu_ob1N, if_neg one_ne]
    by_cases hl : o = 20 ∨ 9 ≤ x
    · exact Or.inr (lim hl _ _ _ m5 e)
    · rw [e, rd_nolim hp.1.2.1 (by omega) (by omega)]
      exact rd_oneNot hA hI (by omega) (by omega) hh (by omega) hne m3 m4 m5
  · have e : F_X7_readOne f g N R B (nI x) = F_X7_readOne_28 f g (nI x) N R B := by
      unfold F_X7_readOne
      rw [m1, pu_ob1N, if_neg one_ne]
    by_cases hl : o = 20 ∨ 9 ≤ x
    · exact Or.inr (lim hl _ _ _ m5 e)
    · rw [e, rd_nolim hp.1.2.1 (by omega) (by omega)]
      exact rd_oneOpen hC hI (by omega) (by omega) hh (by omega) hne m3 m5
  · right
    refine ⟨N, R', M', 1, ?_, hfn, m5, (sb_operand h46 m4).2 rfl, by omega, m6.mono (by decide) (by decide) (by decide)⟩
    unfold F_X7_readOne F_X7_readOne_48
    rw [m1, pu_ob1N, if_pos zero_eq, m2, pu_ob1N, if_pos zero_eq, m3, pu_ob1N, if_neg (FLc_8 m5.1)]
end P59
