/-! a book's line, in step: those of a person; any line -/
section P37
variable {R M S P B N H T X G : St} {K : KSt} {V : Vt} {k n : Nat}
theorem pm_plain : ∀ j, j < 4 → 20 + j < 36 ∧ 20 + j < 36 ∧ pm (20 + j) = 20 + j := by decide
theorem rd_ofC {p : Nat} {R1 R2 G1 : St} (hn : n < 40) (hp : p < 6) (h8 : R.1 8 = nI 0) (hG : G.1 4 = nI n) (h1 : F_X5_next R = some R1) (h2 : F_X0_readOfPerson G R1 B (nI n) = some (G1, R2)) (h4 : G1.1 4 = nI n) : F_X0_readLine_41 (nI p) G R B = some (sI (sA G1 1 (nI n) (nI p)) 4 (nI (n + 1)), R2) := by
  have hpo : ¬ nI p = (-1 : Int32) := by rw [show (-1 : Int32) = nO from rfl, pu_eqO (by omega)]; exact id
  have e4 : (sA G1 1 (nI n) (nI p)).1 4 + 1 = nI (n + 1) := by show G1.1 4 + 1 = _; rw [h4, nIs]
  unfold F_X0_readLine_41 F_X0_readLine_91
  rw [h8, if_pos zero_eq, if_neg hpo, h1, pu_ob1N, hG, h2, pu_ob2N, h4, if_neg (no_oob hn (by omega)), pu_nwN, e4, pu_nwN]
theorem rd_of {p : Nat} (h : OKs R M k) (hb : BK B M V) (hG : G.1 4 = nI n) (hn : n < 40) (hM : M.1 38 = nI n) (hp : p < V 1) (h18 : M.1 18 = nI p) (hne : R.2.2.1 3 k ≠ nI 40) : ∃ G' R' M' k' r, F_X0_readLine_41 (nI p) G R B = some (G', R') ∧ F_X12_bookLine_87 (nI (4 * n)) 0 M = some (r, M') ∧ BRES V G G' R' M M' k k' n r := by
  have hv1 := hb.2.2.2.1
  have hC := fun {R2 G1 : St} => rd_ofC (R := R) (B := B) (R1 := sI R 6 (nI (k + 1))) (R2 := R2) (G1 := G1) (p := p) hn (by omega) h.2.2 hG (rd_nextC h hne)
  obtain ⟨M1, b1, b2, b3⟩ := rd_step h hne
  generalize sI R 6 (nI (k + 1)) = R1 at hC b2
  have ho := no_oob (i := n) (n := 40) (by omega) (by omega)
  have hcp : (nI n).toNatClampNeg = n := pu_clamp (by omega)
  have ho0 := no_oob (i := 4 * n) (n := 160) (by omega) (by omega)
  have ho1 := no_oob (i := 4 * n + 1) (n := 160) (by omega) (by omega)
  have ho2 := no_oob (i := 4 * n + 2) (n := 160) (by omega) (by omega)
  have ho3 := no_oob (i := 4 * n + 3) (n := 160) (by omega) (by omega)
  have n38 : ¬ M.1 38 = (40 : Int32) := by rw [hM]; intro e; have := (nI_eq (b := 40) (by omega) (by omega)).mp e; omega
  have h1 : nI (4 * n) + (1 : Int32) = nI (4 * n + 1) := nIs _
  have h2 : nI (4 * n) + (2 : Int32) = nI (4 * n + 2) := nI_add _ 2
  have h3 : nI (4 * n) + (3 : Int32) = nI (4 * n + 3) := nI_add _ 3
  have hB1 := BK_fr hb b3 (by decide) (by decide) (by decide)
  have z0 : ¬ oob (0 : Int32) 258 := no_oob (i := 0) (by omega) (by omega)
  have z1 : ¬ oob (1 : Int32) 258 := no_oob (i := 1) (by omega) (by omega)
  rcases rd_need (fr := 17) (fi := 17) (m := 3) b2 hB1.2.2.2.2.2.2.2 (by omega) (by omega) (by omega) pm_act with ⟨j, M2, hj, c1, c2, c3, c4, c5⟩ | ⟨R2, M2, c1, c2, c3, c5⟩
  · generalize sI R1 6 (nI (k + 1 + 1)) = R2 at c1 c3
    have c1 : F_X5_needWordFrom R1 17 3 = some (nI j, R2) := c1
    have c2 : F_X12_takesOneOf M1 17 3 = some (nI 1, M2) := c2
    have h17 : (17 : Int32) + nI j = nI (17 + j) := nI_add 17 j
    have g0 : (sA G 0 (nI n) (nI (17 + j))).2.2.1 0 n = nI (17 + j) := by rw [pu_sAe (by omega), if_pos rfl]
    have hO4 := ok_sA (f := 8) (i := nI (4 * n + 1)) (v := nI p) (ok_sA (f := 8) (i := nI (4 * n)) (v := nI j) c3 (by omega)) (by omega)
    have hF4 : FR [4, 11, 12, 13, 14, 15, 16, 18] [8] [] M (sA (sA M2 8 (nI (4 * n)) (nI j)) 8 (nI (4 * n + 1)) (nI p)) := (((b3.mono (by decide) (by decide) (by decide)).tr (c5.mono (by decide) (by decide) (by decide))).tr (FR.sA (by decide))).tr (FR.sA (by decide))
    have hMO4 : MO M (sA (sA M2 8 (nI (4 * n)) (nI j)) 8 (nI (4 * n + 1)) (nI p)) n := MO.sA (c := 1) (MO.sA (c := 0) ((MO.rf.fr b3 (by decide)).fr c5 (by decide)) (by omega)) (by omega)
    have r0 : (sA (sA M2 8 (nI (4 * n)) (nI j)) 8 (nI (4 * n + 1)) (nI p)).2.2.1 8 (4 * n) = nI j := by rw [pu_sAe (by omega), if_neg (by omega), pu_sAe (by omega), if_pos rfl]
    have r1 : (sA (sA M2 8 (nI (4 * n)) (nI j)) 8 (nI (4 * n + 1)) (nI p)).2.2.1 8 (4 * n + 1) = nI p := by rw [pu_sAe (by omega), if_pos rfl]
    have q15 : (sA (sA M2 8 (nI (4 * n)) (nI j)) 8 (nI (4 * n + 1)) (nI p)).1 15 = M.1 15 := by show M2.1 15 = _; rw [c5.1 15 (by decide), b3.1 15 (by decide)]
    have hB4 := BK_fr hb hF4 (by decide) (by decide) (by decide)
    generalize hM4 : sA (sA M2 8 (nI (4 * n)) (nI j)) 8 (nI (4 * n + 1)) (nI p) = M4 at hO4 hF4 hMO4 r0 r1 q15 hB4
    have h87 : F_X12_bookLine_87 (nI (4 * n)) 0 M = if nI j = (1 : Int32) then some ((1 : Int32), M4) else if nI j = 0 then ob2 (F_X12_takesName M4 0 (nI (V 0))) fun r23 U24 => F_X12_bookLine_241 (nI (4 * n)) (nI j) r23 U24 else ob2 (F_X12_takesName M4 7 (nI (V 1))) fun r19 U20 => F_X12_bookLine_241 (nI (4 * n)) (nI j) r19 U20 := by
      unfold F_X12_bookLine_87
      rw [if_neg n38, b1, pu_ob1N, if_pos (Int32.le_refl _), c2, pu_ob2N, if_neg one_ne, if_neg ho0, c4, pu_nwN, h1, if_neg ho1, h18, pu_nwN, hM4, if_neg z0, if_neg z1, show M4.2.2.1 6 (0 : Int32).toNatClampNeg = nI (V 0) from hB4.2.2.2.2.1, show M4.2.2.1 6 (1 : Int32).toNatClampNeg = nI (V 1) from hB4.2.2.2.2.2.1]
    have hkey : F_X0_readOfPerson G R1 B (nI n) = if nI (17 + j) = (17 : Int32) then (ob2 (F_X5_needTurret R2 B) fun r24 U25 => nw (sA (sA G 0 (nI n) (nI (17 + j))) 2 (nI n) r24) fun U27 => some (U27, U25)) else if nI (17 + j) = (19 : Int32) then (ob2 (F_X5_needPerson R2 B) fun r12 U13 => nw (sA (sA G 0 (nI n) (nI (17 + j))) 2 (nI n) r12) fun U15 => ob2 (F_X5_needWordFrom U13 9 8) fun r18 U19 => nw (sA U15 3 (nI n) r18) fun U21 => some (U21, U19)) else some (sA G 0 (nI n) (nI (17 + j)), R2) := by
      unfold F_X0_readOfPerson
      rw [c1, pu_ob2N, if_neg ho, h17, pu_nwN, if_neg ho, if_neg ho]
      simp only [hcp, g0, if_neg ho]
    rcases (show j = 0 ∨ j = 1 ∨ j = 2 by omega) with rfl | rfl | rfl
    · -- climbs
      rw [if_neg (by decide), if_pos zero_eq] at h87
      rw [if_pos (by decide)] at hkey
      have hend : ∀ (M5 : St) (r : Nat), r ≤ 1 → F_X12_bookLine_241 (nI (4 * n)) (nI 0) (nI r) M5 = some (nI r, sA M5 8 (nI (4 * n + 2)) (M5.1 18)) := by
        intro M5 r hr
        unfold F_X12_bookLine_241
        rw [h2, if_neg ho2, pu_nwN]
        rcases (show r = 0 ∨ r = 1 by omega) with rfl | rfl
        · rw [if_pos zero_eq, if_neg nb0]
        · rw [if_neg one_ne, if_pos zero_eq, if_neg nb1]
      rcases rd_nameT (c := V 0) (fr := 0) (S := B) hO4 hB4.2.2.2.2.2.2.2 hB4.1 hB4.2.2.1 (by have := hB4.2.2.1; omega) (fun t ht => by rw [Nat.zero_add]; exact hB4.2.2.2.2.2.2.1.1 t ht) with ⟨s, M5, i2, i3, i4, i5, i6, i7⟩ | ⟨R3, M5, i3, i4, i5, i7⟩
      · generalize sI R2 6 (nI (k + 1 + 1 + 1)) = R3 at i3 i5
        have i4 : F_X12_takesName M4 0 (nI (V 0)) = some (nI 1, M5) := i4
        have hc := hC (R2 := R3) (G1 := sA (sA G 0 (nI n) (nI 17)) 2 (nI n) (nI s)) (by rw [hkey, i3, pu_ob2N, pu_nwN]) hG
        refine ⟨_, R3, sA M5 8 (nI (4 * n + 2)) (nI s), k + 1 + 1 + 1, nI 1, hc, ?_, (hF4.tr (i7.mono (by decide) (by decide) (by decide))).tr (FR.sA (by decide)), Or.inl ⟨rfl, ok_sA i5 (by omega), rfl, ⟨17, p, s, 0, by omega, by omega, ?_, ?_, ?_, ?_, fun _ => ⟨hp, i2, ?_, ?_⟩, fun e => (by omega), fun e => (by omega), fun e => (by omega), fun e => (by omega), fun e => (by omega)⟩, (((GO.rf.sA hn).sA hn).sA hn).sI, (hMO4.fr i7 (by decide)).sA (by omega), ?_, by omega⟩⟩
        · rw [h87, i4, pu_ob2N, hend M5 1 (by omega), i6]
        · show (sA (sA (sA G 0 (nI n) (nI 17)) 2 (nI n) (nI s)) 1 (nI n) (nI p)).2.2.1 0 n = _
          rw [pu_sAn (by omega), pu_sAn (by omega), pu_sAe (by omega), if_pos rfl]
        · show (sA (sA (sA G 0 (nI n) (nI 17)) 2 (nI n) (nI s)) 1 (nI n) (nI p)).2.2.1 1 n = _
          rw [pu_sAe (by omega), if_pos rfl]
        · rw [pu_sAe (by omega), if_neg (by omega), i7.2.1 8 (by decide), r0]
        · rw [pu_sAe (by omega), if_neg (by omega), i7.2.1 8 (by decide), r1]
        · show (sA (sA (sA G 0 (nI n) (nI 17)) 2 (nI n) (nI s)) 1 (nI n) (nI p)).2.2.1 2 n = _
          rw [pu_sAn (by omega), pu_sAe (by omega), if_pos rfl]
        · rw [pu_sAe (by omega), if_pos rfl]
        · show M5.1 15 = _
          rw [i7.1 15 (by decide), q15]
      · have i4 : F_X12_takesName M4 0 (nI (V 0)) = some (nI 0, M5) := i4
        have hc := hC (R2 := R3) (G1 := sA (sA G 0 (nI n) (nI 17)) 2 (nI n) nO) (by rw [hkey, i3, pu_ob2N, pu_nwN]) hG
        refine ⟨_, R3, sA M5 8 (nI (4 * n + 2)) (M5.1 18), k, nI 0, hc, ?_, (hF4.tr (i7.mono (by decide) (by decide) (by decide))).tr (FR.sA (by decide)), Or.inr ⟨rfl, i5⟩⟩
        rw [h87, i4, pu_ob2N, hend M5 0 (by omega)]
    · -- lands
      rw [if_pos (by decide)] at h87
      rw [if_neg (by decide), if_neg (by decide)] at hkey
      have hc := hC (R2 := R2) (G1 := sA G 0 (nI n) (nI 18)) hkey hG
      refine ⟨_, R2, M4, k + 1 + 1, nI 1, hc, h87, hF4, Or.inl ⟨rfl, hO4, rfl, ⟨18, p, 0, 0, by omega, by omega, ?_, ?_, r0, r1, fun e => (by omega), fun _ => hp, fun e => (by omega), fun e => (by omega), fun e => (by omega), fun e => (by omega)⟩, ((GO.rf.sA hn).sA hn).sI, hMO4, q15, by omega⟩⟩
      · show (sA (sA G 0 (nI n) (nI 18)) 1 (nI n) (nI p)).2.2.1 0 n = _
        rw [pu_sAn (by omega), pu_sAe (by omega), if_pos rfl]
      · show (sA (sA G 0 (nI n) (nI 18)) 1 (nI n) (nI p)).2.2.1 1 n = _
        rw [pu_sAe (by omega), if_pos rfl]
    · -- tells
      rw [if_neg (by decide), if_neg (by decide)] at h87
      rw [if_neg (by decide), if_pos (by decide)] at hkey
      rcases rd_nameP (c := V 1) (fr := 7) (S := B) hO4 hB4.2.2.2.2.2.2.2 hB4.2.1 hv1 (by omega) (fun t ht => hB4.2.2.2.2.2.2.1.2 t ht) with ⟨s, M5, i2, i3, i4, i5, i6, i7⟩ | ⟨R3, M5, i3, i4, i5, i7⟩
      · generalize sI R2 6 (nI (k + 1 + 1 + 1)) = R3 at i3 i5
        have i4 : F_X12_takesName M4 7 (nI (V 1)) = some (nI 1, M5) := i4
        have hO6 := ok_sA (f := 8) (i := nI (4 * n + 2)) (v := nI s) i5 (by omega)
        have hF6 : FR [4, 11, 12, 13, 14, 15, 16, 18] [8] [] M (sA M5 8 (nI (4 * n + 2)) (nI s)) := (hF4.tr (i7.mono (by decide) (by decide) (by decide))).tr (FR.sA (by decide))
        have hMO6 : MO M (sA M5 8 (nI (4 * n + 2)) (nI s)) n := (hMO4.fr i7 (by decide)).sA (by omega)
        have s0 : (sA M5 8 (nI (4 * n + 2)) (nI s)).2.2.1 8 (4 * n) = nI 2 := by rw [pu_sAe (by omega), if_neg (by omega), i7.2.1 8 (by decide), r0]
        have s1 : (sA M5 8 (nI (4 * n + 2)) (nI s)).2.2.1 8 (4 * n + 1) = nI p := by rw [pu_sAe (by omega), if_neg (by omega), i7.2.1 8 (by decide), r1]
        have s2 : (sA M5 8 (nI (4 * n + 2)) (nI s)).2.2.1 8 (4 * n + 2) = nI s := by rw [pu_sAe (by omega), if_pos rfl]
        have q15' : (sA M5 8 (nI (4 * n + 2)) (nI s)).1 15 = M.1 15 := by show M5.1 15 = _; rw [i7.1 15 (by decide), q15]
        have h241 : F_X12_bookLine_241 (nI (4 * n)) (nI 2) (nI 1) M5 = ob2 (F_X12_takesOneOf (sA M5 8 (nI (4 * n + 2)) (nI s)) 5 8) fun r8 U9 => nw (sA U9 8 (nI (4 * n + 3)) (U9.1 18)) fun U11 => if nb r8 then none else some (r8, U11) := by
          unfold F_X12_bookLine_241
          rw [h2, if_neg ho2, i6, pu_nwN, if_neg one_ne, if_neg (show ¬ nI 2 = (0 : Int32) by decide), h3]
          simp only [if_neg ho3]
        generalize sA M5 8 (nI (4 * n + 2)) (nI s) = M6 at hO6 hF6 hMO6 s0 s1 s2 q15' h241
        have hW6 := MW_fr hb.2.2.2.2.2.2.2 hF6 (by decide)
        rcases rd_need (fr := 5) (fi := 9) (m := 8) hO6 hW6 (by omega) (by omega) (by omega) pm_view with ⟨v, M7, hv, d1, d2, d3, d4, d5⟩ | ⟨R4, M7, d1, d2, d3, d5⟩
        · generalize sI R3 6 (nI (k + 1 + 1 + 1 + 1)) = R4 at d1 d3
          have d1 : F_X5_needWordFrom R3 9 8 = some (nI v, R4) := d1
          have d2 : F_X12_takesOneOf M6 5 8 = some (nI 1, M7) := d2
          have hc := hC (R2 := R4) (G1 := sA (sA (sA G 0 (nI n) (nI 19)) 2 (nI n) (nI s)) 3 (nI n) (nI v)) (by rw [hkey, i3, pu_ob2N, pu_nwN, d1, pu_ob2N, pu_nwN]) hG
          refine ⟨_, R4, sA M7 8 (nI (4 * n + 3)) (nI v), k + 1 + 1 + 1 + 1, nI 1, hc, ?_, (hF6.tr (d5.mono (by decide) (by decide) (by decide))).tr (FR.sA (by decide)), Or.inl ⟨rfl, ok_sA d3 (by omega), rfl, ⟨19, p, s, v, by omega, by omega, ?_, ?_, ?_, ?_, fun e => (by omega), fun e => (by omega), fun _ => ⟨hp, i2, hv, ?_, ?_, ?_, ?_⟩, fun e => (by omega), fun e => (by omega), fun e => (by omega)⟩, ((((GO.rf.sA hn).sA hn).sA hn).sA hn).sI, (hMO6.fr d5 (by decide)).sA (by omega), ?_, by omega⟩⟩
          · rw [h87, i4, pu_ob2N, h241, d2, pu_ob2N, d4, pu_nwN, if_neg nb1]
          · show (sA (sA (sA (sA G 0 (nI n) (nI 19)) 2 (nI n) (nI s)) 3 (nI n) (nI v)) 1 (nI n) (nI p)).2.2.1 0 n = _
            rw [pu_sAn (by omega), pu_sAn (by omega), pu_sAn (by omega), pu_sAe (by omega), if_pos rfl]
          · show (sA (sA (sA (sA G 0 (nI n) (nI 19)) 2 (nI n) (nI s)) 3 (nI n) (nI v)) 1 (nI n) (nI p)).2.2.1 1 n = _
            rw [pu_sAe (by omega), if_pos rfl]
          · rw [pu_sAe (by omega), if_neg (by omega), d5.2.1 8 (by decide), s0]
          · rw [pu_sAe (by omega), if_neg (by omega), d5.2.1 8 (by decide), s1]
          · show (sA (sA (sA (sA G 0 (nI n) (nI 19)) 2 (nI n) (nI s)) 3 (nI n) (nI v)) 1 (nI n) (nI p)).2.2.1 2 n = _
            rw [pu_sAn (by omega), pu_sAn (by omega), pu_sAe (by omega), if_pos rfl]
          · rw [pu_sAe (by omega), if_neg (by omega), d5.2.1 8 (by decide), s2]
          · show (sA (sA (sA (sA G 0 (nI n) (nI 19)) 2 (nI n) (nI s)) 3 (nI n) (nI v)) 1 (nI n) (nI p)).2.2.1 3 n = _
            rw [pu_sAn (by omega), pu_sAe (by omega), if_pos rfl]
          · rw [pu_sAe (by omega), if_pos rfl]
          · show M7.1 15 = _
            rw [d5.1 15 (by decide), q15']
        · have d1 : F_X5_needWordFrom R3 9 8 = some (nO, R4) := d1
          have d2 : F_X12_takesOneOf M6 5 8 = some (nI 0, M7) := d2
          have hc := hC (R2 := R4) (G1 := sA (sA (sA G 0 (nI n) (nI 19)) 2 (nI n) (nI s)) 3 (nI n) nO) (by rw [hkey, i3, pu_ob2N, pu_nwN, d1, pu_ob2N, pu_nwN]) hG
          refine ⟨_, R4, sA M7 8 (nI (4 * n + 3)) (M7.1 18), k, nI 0, hc, ?_, (hF6.tr (d5.mono (by decide) (by decide) (by decide))).tr (FR.sA (by decide)), Or.inr ⟨rfl, d3⟩⟩
          rw [h87, i4, pu_ob2N, h241, d2, pu_ob2N, pu_nwN, if_neg nb0]
      · have i4 : F_X12_takesName M4 7 (nI (V 1)) = some (nI 0, M5) := i4
        have hfw : F_X5_needWordFrom R3 9 8 = some (nO, R3) := fl_needFrom i5.1 9 8
        have hc := hC (R2 := R3) (G1 := sA (sA (sA G 0 (nI n) (nI 19)) 2 (nI n) nO) 3 (nI n) nO) (by rw [hkey, i3, pu_ob2N, pu_nwN, hfw, pu_ob2N, pu_nwN]) hG
        refine ⟨_, R3, sA M5 8 (nI (4 * n + 2)) (M5.1 18), k, nI 0, hc, ?_, (hF4.tr (i7.mono (by decide) (by decide) (by decide))).tr (FR.sA (by decide)), Or.inr ⟨rfl, i5⟩⟩
        rw [h87, i4, pu_ob2N]
        unfold F_X12_bookLine_241
        rw [h2, if_neg ho2, pu_nwN, if_pos zero_eq, if_neg nb0]
  · have c1 : F_X5_needWordFrom R1 17 3 = some (nO, R2) := c1
    have c2 : F_X12_takesOneOf M1 17 3 = some (nI 0, M2) := c2
    have g0 : (sA G 0 (nI n) ((17 : Int32) + nO)).2.2.1 0 n = (17 : Int32) + nO := by rw [pu_sAe (by omega), if_pos rfl]
    have hc := hC (R2 := R2) (G1 := sA G 0 (nI n) ((17 : Int32) + nO)) (by
      unfold F_X0_readOfPerson
      rw [c1, pu_ob2N, if_neg ho, pu_nwN, if_neg ho, if_neg ho]
      simp only [hcp, g0]
      rw [if_neg (by decide), if_neg (by decide)]) hG
    refine ⟨_, R2, M2, k, nI 0, hc, ?_, (b3.mono (by decide) (by decide) (by decide)).tr (c5.mono (by decide) (by decide) (by decide)), Or.inr ⟨rfl, c3⟩⟩
    unfold F_X12_bookLine_87
    rw [if_neg n38, b1, pu_ob1N, if_pos (Int32.le_refl _), c2, pu_ob2N, if_pos zero_eq]
    rfl
end P37
