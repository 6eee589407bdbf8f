/-! a sentence's leaf, in step: as a whole -/
section P48
variable {R M S P B N H T X G : St} {V cs cg cu : Vt} {k n o h0 x : Nat} {l : List Nat}
theorem rd_leaf {a : Nat} (h : OKs R M k) (hb : BK B M V) (hp : PD N M cs cg cu n o h0 []) (hn : n < 40) (ho : o < 20) (h45 : M.1 45 = nI x) (hx : x ≤ 8) (ha : a < 9) (a2 : R.2.2.1 3 k = nI (27 + a)) : (∃ N' R' M' g u k', F_X7_readPlain (sI N 4 (nI (o + 1))) R B = some (N', R') ∧ F_X12_operand_38 (nI 0) (nI 0) (nI a) M = some (nI 1, M') ∧ OKs R' M' k' ∧ k < k' ∧ M'.1 46 = nI 1 ∧ PD N' M' (up cs n (27 + a)) (up cg n g) (up cu n u) (n + 1) (o + 1) h0 [] ∧ u < 1000 ∧ (a = 3 → u < 8) ∧ (5 ≤ a → 60 ≤ g ∧ g ≤ 62) ∧ FR [4, 11, 12, 13, 14, 18, 42, 43, 46] [8] [] M M') ∨ (∃ N' R' M', F_X7_readPlain (sI N 4 (nI (o + 1))) R B = some (N', R') ∧ F_X12_operand_38 (nI 0) (nI 0) (nI a) M = some (nI 0, M') ∧ FN N' ∧ FLT R' M' ∧ FR [4, 11, 12, 13, 14, 15, 16, 18, 42, 43, 46] [8] [] M M') := by
  have hN1 : CN (sI N 4 (nI (o + 1))) cs cg cu n (o + 1) := ⟨hp.1.1, rfl, hp.1.2.2⟩
  have hFN : FN (sI N 4 (nI (o + 1))) := ⟨n, by omega, hp.1.1⟩
  generalize sI N 4 (nI (o + 1)) = N1 at hN1 hFN ⊢
  obtain ⟨-, w1, w2⟩ := rd_word (fi := 27) (m := 9) h ha (by omega) a2
  have w1 : F_X5_needWordFrom R 27 9 = some (nI a, sI R 6 (nI (k + 1))) := w1
  have e43 : M.1 43 = nI o := hp.2.1.2.1
  obtain ⟨M6, b1, b2, b3⟩ := rd_step (ok_sI (f := 43) (v := nI (o + 1)) h (by omega)) w2
  generalize sI R 6 (nI (k + 1)) = R1 at w1 b2
  have hO9 := ok_sI (f := 46) (v := nI 1) b2 (by omega)
  have hF9 : FR [4, 11, 12, 13, 14, 18, 43, 46] [] [] M (sI M6 46 (nI 1)) := ((FR.sI (by decide)).tr (b3.mono (by decide) (by decide) (by decide))).tr (FR.sI (by decide))
  have e43' : (sI M6 46 (nI 1)).1 43 = nI (o + 1) := by show M6.1 43 = _; rw [b3.1 43 (by decide)]; rfl
  have e46 : (sI M6 46 (nI 1)).1 46 = nI 1 := rfl
  have hB9 := BK_fr hb hF9 (by decide) (by decide) (by decide)
  have n20 : ¬ M.1 43 = (20 : Int32) := by rw [e43]; intro e; have := (nI_eq (b := 20) (by omega) (by omega)).mp e; omega
  have l8 : M.1 45 ≤ (8 : Int32) := by rw [h45]; exact nI_le (b := 8) hx (by omega)
  generalize hM9 : sI M6 46 (nI 1) = M9 at hO9 hF9 e43' e46 hB9
  have hM9 : sI M6 46 1 = M9 := hM9
  have b1 : F_X12_next (sI M 43 (nI (o + 1))) = some M6 := b1
  have h27 : (27 : Int32) + nI a = nI (27 + a) := nI_add 27 a
  have hC : F_X7_readPlain N1 R B = if nI (27 + a) = (30 : Int32) then (ob2 (F_X5_needWordFrom R1 9 8) fun r17 U18 => F_X7_readPlain_75 (nI (27 + a)) 0 r17 N1 U18 B) else if nI (27 + a) = (31 : Int32) then (ob2 (F_X5_needTurret R1 B) fun r14 U15 => F_X7_readPlain_75 (nI (27 + a)) 0 r14 N1 U15 B) else if nI (27 + a) < (32 : Int32) then F_X7_readPlain_75 (nI (27 + a)) 0 0 N1 R1 B else (ob2 (F_X5_needSign R1) fun r8 U9 => ob2 (F_X5_needNumber U9 0 999) fun r11 U12 => F_X7_readPlain_75 (nI (27 + a)) r8 r11 N1 U12 B) := by
    unfold F_X7_readPlain
    rw [w1, pu_ob2N, h27]
  have h75 : ∀ (y z : Int32) (N' R2 : St), F_X7_addStep N1 (nI (27 + a)) y z = some N' → F_X7_readPlain_75 (nI (27 + a)) y z N1 R2 B = some (N', R2) := fun y z N' R2 e => by
    unfold F_X7_readPlain_75
    rw [e, pu_ob1N]
  have hMd : F_X12_operand_38 (nI 0) (nI 0) (nI a) M = if (3 : Int32) ≤ nI a then (if (5 : Int32) ≤ nI a then (if M9.1 11 = (3 : Int32) then (if M9.1 14 < (60 : Int32) then F_X12_operand_227 M9 else (if M9.1 14 ≤ (62 : Int32) then (ob1 (F_X12_next M9) fun U17 => if (U17.1 11) = (2 : Int32) then (ob1 (F_X12_code U17 (nI a) (M9.1 14) (U17.1 14)) fun U20 => ob1 (F_X12_next U20) fun U22 => some ((1 : Int32), U22)) else (ob2 (F_X12_bad U17 1) fun r24 U25 => if nb r24 then none else some (r24, U25))) else F_X12_operand_227 M9)) else F_X12_operand_227 M9) else (if nI a = (3 : Int32) then (ob2 (F_X12_isOneOf M9 5 8) fun r33 U34 => F_X12_operand_176 (nI a) r33 U34) else (ob2 (F_X12_looksAt M9 0 (nI (V 0))) fun r30 U31 => F_X12_operand_176 (nI a) r30 U31))) else (ob1 (F_X12_code M9 (nI a) 0 0) fun U36 => some ((1 : Int32), U36)) := by
    unfold F_X12_operand_38
    rw [if_neg n20, if_pos l8, e43, nIs, pu_nwN, b1, pu_ob1N, if_pos zero_eq, if_pos zero_eq, hM9, pu_nwN, if_neg (show ¬ oob (0 : Int32) 258 from no_oob (i := 0) (by omega) (by omega)), show M9.2.2.1 6 (0 : Int32).toNatClampNeg = nI (V 0) from hB9.2.2.2.2.1]
  rw [hC, hMd]
  have hgood : ∀ {g u : Nat} {M1 : St} {N' : St}, FR [4, 11, 12, 13, 14, 18, 43, 46] [] [] M M1 → M1.1 43 = nI (o + 1) → CN N' (up cs n (27 + a)) (up cg n g) (up cu n u) (n + 1) (o + 1) → ∃ M', F_X12_code M1 (nI a) (nI g) (nI u) = some M' ∧ PD N' M' (up cs n (27 + a)) (up cg n g) (up cu n u) (n + 1) (o + 1) h0 [] ∧ FR [42] [8] [] M1 M' ∧ M'.2.1 = M1.2.1 := fun {g u M1 N'} f1 f2 f3 => PD_leaf hp hn f1 f2 f3 ha
  have PDn : ∀ {N' M1 M2 : St} {c1 c2 c3 : Vt} {n o : Nat}, PD N' M1 c1 c2 c3 n o h0 [] → FR [4, 11, 12, 13, 14] [] [] M1 M2 → PD N' M2 c1 c2 c3 n o h0 [] := fun hq hf => ⟨hq.1, ⟨by rw [hf.1 42 (by decide)]; exact hq.2.1.1, by rw [hf.1 43 (by decide)]; exact hq.2.1.2.1, fun i hi => by rw [hf.2.1 8 (by decide)]; exact hq.2.1.2.2 i hi⟩, trivial, trivial, by rw [hf.1 44 (by decide)]; exact hq.2.2.2.2.1, hq.2.2.2.2.2.1, hq.2.2.2.2.2.2.1, hq.2.2.2.2.2.2.2⟩
  have mono1 : ∀ {M1 : St}, FR [4, 11, 12, 13, 14, 18, 43, 46] [] [] M M1 → FR [4, 11, 12, 13, 14, 15, 16, 18, 42, 43, 46] [8] [] M M1 := fun f => f.mono (by decide) (by decide) (by decide)
  by_cases q3 : a < 3
  · left
    obtain ⟨N', s1, s2⟩ := x7_add (s := 27 + a) (g := 0) (u := 0) hN1 hn
    obtain ⟨M', m1, m2, m3, m4⟩ := hgood hF9 e43' s2
    have m1 : F_X12_code M9 (nI a) 0 0 = some M' := m1
    refine ⟨N', R1, M', 0, 0, k + 1, ?_, ?_, ok_code hO9 m3 m4, by omega, by rw [m3.1 46 (by decide), e46], m2, by omega, fun e => (by omega), fun e => (by omega), (hF9.mono (by decide) (by decide) (by decide)).tr (m3.mono (by decide) (by decide) (by decide))⟩
    · rw [if_neg (show ¬ nI (27 + a) = (30 : Int32) from fun e => by have := (nI_eq (b := 30) (by omega) (by omega)).mp e; omega), if_neg (show ¬ nI (27 + a) = (31 : Int32) from fun e => by have := (nI_eq (b := 31) (by omega) (by omega)).mp e; omega), if_pos (show nI (27 + a) < (32 : Int32) from nI_lt (b := 32) (by omega) (by omega))]
      exact h75 0 0 N' R1 s1
    · rw [if_neg (show ¬ (3 : Int32) ≤ nI a from nI_ge (b := 3) (by omega) (by omega)), m1, pu_ob1N]
      rfl
  · by_cases q5 : 5 ≤ a
    · rw [if_neg (show ¬ nI (27 + a) = (30 : Int32) from fun e => by have := (nI_eq (b := 30) (by omega) (by omega)).mp e; omega), if_neg (show ¬ nI (27 + a) = (31 : Int32) from fun e => by have := (nI_eq (b := 31) (by omega) (by omega)).mp e; omega), if_neg (show ¬ nI (27 + a) < (32 : Int32) from nI_nlt (b := 32) (by omega) (by omega)), if_pos (show (3 : Int32) ≤ nI a from nI_le (a := 3) (by omega) (by omega)), if_pos (show (5 : Int32) ≤ nI a from nI_le (a := 5) (by omega) (by omega))]
      rcases rd_sgn hO9 with ⟨c, M7, c1, c2, c3, c4, c5, c6, c7, c8⟩ | ⟨v, R2, M7, t, c1, c2, c3, c4, c5, c6, c7⟩
      · generalize sI R1 6 (nI (k + 1 + 1)) = R2 at c3 c7
        have hF7 : FR [4, 11, 12, 13, 14, 18, 43, 46] [] [] M M7 := hF9.tr (c8.mono (by decide) (by decide) (by decide))
        rw [c3, pu_ob2N, c4, if_pos (show nI 3 = (3 : Int32) from rfl), c5, if_neg (show ¬ nI c < (60 : Int32) from nI_nlt (b := 60) (by omega) (by omega)), if_pos (show nI c ≤ (62 : Int32) from nI_le (b := 62) (by omega) (by omega)), c6, pu_ob1N]
        rcases rd_nmb c7 with ⟨v, d1, d2, d3, d4, d5⟩ | ⟨R3, M8, d2, d3, d4, d5, d6⟩
        · left
          obtain ⟨N', s1, s2⟩ := x7_add (s := 27 + a) (g := c) (u := v) hN1 hn
          obtain ⟨M', m1, m2, m3, m4⟩ := hgood hF7 (by rw [c8.1 43 (by decide), e43']) s2
          obtain ⟨M'', t1, t2, t3⟩ := rd_step (ok_code c7 m3 m4) d5
          refine ⟨N', _, M'', c, v, k + 1 + 1 + 1, by rw [d2, pu_ob2N]; exact h75 _ _ N' _ s1, ?_, t2, by omega, by rw [t3.1 46 (by decide), m3.1 46 (by decide), c8.1 46 (by decide), e46], PDn m2 t3, by omega, fun e => (by omega), fun _ => ⟨c1, c2⟩, ((hF7.mono (by decide) (by decide) (by decide)).tr (m3.mono (by decide) (by decide) (by decide))).tr (t3.mono (by decide) (by decide) (by decide))⟩
          rw [d3, if_pos (show nI 2 = (2 : Int32) from rfl), d4, m1, pu_ob1N, t1, pu_ob1N]
          rfl
        · right
          obtain ⟨N', s1, s2⟩ := x7_addAny hFN (nI (27 + a)) (nI c) nO
          have d4 : F_X12_bad M7 1 = some (nI 0, M8) := d4
          refine ⟨N', R3, M8, by rw [d2, pu_ob2N]; exact h75 _ _ N' _ s1, ?_, s2, d5, (mono1 hF7).tr (d6.mono (by decide) (by decide) (by decide))⟩
          rw [if_neg d3, d4, pu_ob2N, if_neg nb0]
      · right
        have hnn : F_X5_needNumber R2 0 999 = some (nO, R2) := fl_needNum c6.1 0 999
        obtain ⟨N', s1, s2⟩ := x7_addAny hFN (nI (27 + a)) v nO
        have c5 : F_X12_bad M9 1 = some (nI 0, M7) := c5
        have h227 : F_X12_operand_227 M9 = some (nI 0, M7) := by
          unfold F_X12_operand_227
          rw [c5, pu_ob2N, if_neg nb0]
        refine ⟨N', R2, M7, by rw [c1, pu_ob2N, hnn, pu_ob2N]; exact h75 _ _ N' _ s1, ?_, s2, c6, (mono1 hF9).tr (c7.mono (by decide) (by decide) (by decide))⟩
        rw [c3]
        by_cases qt : t = 3
        · obtain ⟨d, d1, d2, d3⟩ := c4 qt
          rw [qt, if_pos (show nI 3 = (3 : Int32) from rfl), d3]
          by_cases qd : d < 60
          · rw [if_pos (show nI d < (60 : Int32) from nI_lt (b := 60) qd (by omega)), h227]
          · rw [if_neg (show ¬ nI d < (60 : Int32) from nI_nlt (b := 60) (by omega) (by omega)), if_neg (show ¬ nI d ≤ (62 : Int32) from nI_ge (a := 62) (by omega) (by omega)), h227]
        · rw [if_neg (show ¬ nI t = (3 : Int32) from fun e => qt ((nI_eq (b := 3) (by omega) (by omega)).mp e)), h227]
    · rw [if_pos (show (3 : Int32) ≤ nI a from nI_le (a := 3) (by omega) (by omega)), if_neg (show ¬ (5 : Int32) ≤ nI a from nI_ge (b := 5) (by omega) (by omega))]
      have h176 : ∀ {u : Nat} {M7 M' M'' : St}, M7.1 18 = nI u → F_X12_code M7 (nI a) (nI 0) (nI u) = some M' → F_X12_next M' = some M'' → F_X12_operand_176 (nI a) (nI 1) M7 = some (nI 1, M'') := fun {u M7 M' M''} g1 g2 g3 => by
        have g2 : F_X12_code M7 (nI a) 0 (nI u) = some M' := g2
        unfold F_X12_operand_176
        rw [if_neg one_ne, g1, g2, pu_ob1N, g3, pu_ob1N]
        rfl
      have h0176 : ∀ M7 : St, F_X12_operand_176 (nI a) (nI 0) M7 = some (nI 0, M7) := fun M7 => by
        unfold F_X12_operand_176
        rw [if_pos zero_eq]
        rfl
      rcases (show a = 3 ∨ a = 4 by omega) with rfl | rfl
      · rw [if_pos (show nI (27 + 3) = (30 : Int32) from rfl), if_pos (show nI 3 = (3 : Int32) from rfl)]
        rcases rd_from (fr := 5) (fi := 9) (m := 8) hO9 hB9.2.2.2.2.2.2.2 (by omega) (by omega) (by omega) pm_view with ⟨v, hv, d1, d2, d3, d4⟩ | ⟨d1, R2, M7, d2, d3, d4, d5⟩
        · left
          obtain ⟨-, y1, -⟩ := rd_word (fi := 9) (m := 8) hO9 hv (by omega) d2
          have y1 : F_X5_needWordFrom R1 9 8 = some (nI v, sI R1 6 (nI (k + 1 + 1))) := y1
          have d3 : F_X12_isOneOf M9 5 8 = some (nI 1, sI M9 18 (nI v)) := d3
          obtain ⟨N', s1, s2⟩ := x7_add (s := 27 + 3) (g := 0) (u := v) hN1 hn
          obtain ⟨M', m1, m2, m3, m4⟩ := hgood (M1 := sI M9 18 (nI v)) (hF9.tr (FR.sI (by decide))) e43' s2
          obtain ⟨M'', t1, t2, t3⟩ := rd_step (ok_code (ok_sI (f := 18) (v := nI v) hO9 (by omega)) m3 m4) d4
          refine ⟨N', _, M'', 0, v, k + 1 + 1, by rw [y1, pu_ob2N]; exact h75 _ _ N' _ s1, by rw [d3, pu_ob2N]; exact h176 rfl m1 t1, t2, by omega, by rw [t3.1 46 (by decide), m3.1 46 (by decide)]; exact e46, PDn m2 t3, by omega, fun _ => hv, fun e => (by omega), (((hF9.mono (by decide) (by decide) (by decide)).tr (FR.sI (by decide))).tr (m3.mono (by decide) (by decide) (by decide))).tr (t3.mono (by decide) (by decide) (by decide))⟩
        · right
          have d1 : F_X5_isWordFrom R1 9 8 = some (nI 0) := d1
          have d2 : F_X5_fail R1 1 = some R2 := d2
          have d3 : F_X12_isOneOf M9 5 8 = some (nI 0, M7) := d3
          have y1 : F_X5_needWordFrom R1 9 8 = some (nO, R2) := by
            unfold F_X5_needWordFrom
            rw [d1, pu_ob1N, if_pos zero_eq, d2, pu_ob1N]
            rfl
          obtain ⟨N', s1, s2⟩ := x7_addAny hFN (nI (27 + 3)) 0 nO
          exact ⟨N', R2, M7, by rw [y1, pu_ob2N]; exact h75 _ _ N' _ s1, by rw [d3, pu_ob2N]; exact h0176 M7, s2, d4, (mono1 hF9).tr (d5.mono (by decide) (by decide) (by decide))⟩
      · rw [if_neg (show ¬ nI (27 + 4) = (30 : Int32) by decide), if_pos (show nI (27 + 4) = (31 : Int32) from rfl), if_neg (show ¬ nI 4 = (3 : Int32) by decide)]
        rcases rd_lookT (c := V 0) (fr := 0) (S := B) hO9 hB9.2.2.2.2.2.2.2 hB9.1 hB9.2.2.1 (by have := hB9.2.2.1; omega) (fun t ht => by rw [Nat.zero_add]; exact hB9.2.2.2.2.2.2.1.1 t ht) with ⟨v, hv, y1, d3, d4⟩ | ⟨R2, M7, y1, d3, d4, d5⟩
        · left
          have hv7 := hB9.2.2.1
          have d3 : F_X12_looksAt M9 0 (nI (V 0)) = some (nI 1, sI M9 18 (nI v)) := d3
          obtain ⟨N', s1, s2⟩ := x7_add (s := 27 + 4) (g := 0) (u := v) hN1 hn
          obtain ⟨M', m1, m2, m3, m4⟩ := hgood (M1 := sI M9 18 (nI v)) (hF9.tr (FR.sI (by decide))) e43' s2
          obtain ⟨M'', t1, t2, t3⟩ := rd_step (ok_code (ok_sI (f := 18) (v := nI v) hO9 (by omega)) m3 m4) d4
          refine ⟨N', _, M'', 0, v, k + 1 + 1, by rw [y1, pu_ob2N]; exact h75 _ _ N' _ s1, by rw [d3, pu_ob2N]; exact h176 rfl m1 t1, t2, by omega, by rw [t3.1 46 (by decide), m3.1 46 (by decide)]; exact e46, PDn m2 t3, by omega, fun e => (by omega), fun e => (by omega), (((hF9.mono (by decide) (by decide) (by decide)).tr (FR.sI (by decide))).tr (m3.mono (by decide) (by decide) (by decide))).tr (t3.mono (by decide) (by decide) (by decide))⟩
        · right
          have d3 : F_X12_looksAt M9 0 (nI (V 0)) = some (nI 0, M7) := d3
          obtain ⟨N', s1, s2⟩ := x7_addAny hFN (nI (27 + 4)) 0 nO
          exact ⟨N', R2, M7, by rw [y1, pu_ob2N]; exact h75 _ _ N' _ s1, by rw [d3, pu_ob2N]; exact h0176 M7, s2, d4, (mono1 hF9).tr (d5.mono (by decide) (by decide) (by decide))⟩
end P48
