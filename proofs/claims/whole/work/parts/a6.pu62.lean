/-! a sentence: both sides -/
section P62
variable {R M M' M1 S P B N H T X G U : St} {K : KSt} {V cs cg cu : Vt} {k n o h x j d : Nat} {l : List Nat}
theorem x12_codes (hc : CM M cs cg cu n o) (hn : n ≤ 39) : ∃ M', L_X12_sentence_145 0 (sA M 6 77 (nI n)) = some (nI o, M') ∧ M'.2.2.1 6 77 = nI n ∧ (∀ i, i < n → M'.2.2.1 6 (78 + 3 * i) = nI (mcd (cs i)) ∧ M'.2.2.1 6 (78 + 3 * i + 1) = nI (cg i) ∧ M'.2.2.1 6 (78 + 3 * i + 2) = nI (cu i)) ∧ (∀ j, j < 77 → M'.2.2.1 6 j = M.2.2.1 6 j) ∧ FR [] [6] [] M M' := by
  have h3 : (3 : Int32) * nI n = nI (3 * n) := by rw [show (3 : Int32) = nI 3 from rfl, pu_mul]
  obtain ⟨⟨r, M'⟩, ⟨q1, q2, q3, q4⟩, hl⟩ := lp_inv (body := fun kz (z : Int32 × St) => F_X12_sentence_145 kz z.1 z.2) (fun i z => z.1 = nI i ∧ (∀ j, j < i → z.2.2.2.1 6 (78 + j) = M.2.2.1 8 j) ∧ (∀ j, j < 78 → z.2.2.2.1 6 j = if j = 77 then nI n else M.2.2.1 6 j) ∧ FR [] [6] [] M z.2) (3 * n) (fun w => w.1 = nI o ∧ (∀ j, j < 3 * n → w.2.2.2.1 6 (78 + j) = M.2.2.1 8 j) ∧ (∀ j, j < 78 → w.2.2.2.1 6 j = if j = 77 then nI n else M.2.2.1 6 j) ∧ FR [] [6] [] M w.2) (fun i hi z ⟨e1, e2, e3, e4⟩ => by
    have e42 : z.2.1 42 = nI n := by rw [e4.1 42 (by decide), hc.1]
    have e8 : z.2.2.2.1 8 = M.2.2.1 8 := e4.2.1 8 (by decide)
    refine ⟨(nI (i + 1), sA z.2 6 (nI (78 + i)) (M.2.2.1 8 i)), ⟨rfl, fun j hj => ?_, fun j hj => ?_, e4.tr (FR.sA (by decide))⟩, fun k => ?_⟩
    · rw [pu_sAe (by omega)]
      by_cases q : j = i
      · rw [if_pos (by omega), q]
      · rw [if_neg (by omega)]; exact e2 j (by omega)
    · rw [pu_sAe (by omega), if_neg (by omega)]; exact e3 j hj
    · have hcp : (nI i).toNatClampNeg = i := pu_clamp (by omega)
      unfold F_X12_sentence_145
      rw [e1, e42, h3, if_neg (show ¬ nI (3 * n) ≤ nI i from nI_ge hi (by omega)), if_neg (no_oob (n := 160) (by omega) (by omega)), show (78 : Int32) + nI i = nI (78 + i) from nI_add 78 i, if_neg (no_oob (n := 258) (by omega) (by omega)), hcp, e8, pu_nwN, nIs]) (fun z ⟨e1, e2, e3, e4⟩ => by
    have e42 : z.2.1 42 = nI n := by rw [e4.1 42 (by decide), hc.1]
    have e43 : z.2.1 43 = nI o := by rw [e4.1 43 (by decide), hc.2.1]
    refine ⟨(nI o, z.2), ⟨rfl, e2, e3, e4⟩, fun k => ?_⟩
    unfold F_X12_sentence_145
    rw [e1, e42, h3, if_pos (Int32.le_refl _), e43]) (x0 := ((0 : Int32), sA M 6 77 (nI n))) ⟨rfl, fun j hj => by omega, fun j hj => pu_sAe (n := 77) (by omega) j, FR.sA (by decide)⟩ (N := FU) (pu_FU (by omega))
  have q1 : r = nI o := q1
  refine ⟨M', by rw [← q1]; exact hl, by have := q3 77 (by omega); rw [if_pos rfl] at this; exact this, fun i hi => ?_, fun j hj => by have := q3 j (by omega); rw [if_neg (by omega)] at this; exact this, q4⟩
  have hh := hc.2.2 i hi
  refine ⟨(q2 (3 * i) (by omega)).trans hh.1, ?_, ?_⟩
  · rw [show 78 + 3 * i + 1 = 78 + (3 * i + 1) by omega]; exact (q2 (3 * i + 1) (by omega)).trans hh.2.1
  · rw [show 78 + 3 * i + 2 = 78 + (3 * i + 2) by omega]; exact (q2 (3 * i + 2) (by omega)).trans hh.2.2
theorem sb_done (hO : OKs R M k) (h46 : M.1 46 = nI 1) (h11 : M.1 11 = 0) (hp : PD N M cs cg cu n o 0 (List.replicate j 20 ++ l)) (h45 : M.1 45 = nI (x + j)) (hx : x < 900) (hj : j < 1000) (hl : ∀ y, y ∈ l → y = 21 ∨ y = 22) (hn : n + (j + l.length) ≤ 39) : ∃ M', (∀ m, lp SB (2 + m) (nI 1, M) = some (nI o, M')) ∧ CN N cs cg cu (n + (j + l.length)) o ∧ M'.2.2.1 6 77 = nI (n + (j + l.length)) ∧ (∀ i, i < n + (j + l.length) → M'.2.2.1 6 (78 + 3 * i) = nI (mcd (cs i)) ∧ M'.2.2.1 6 (78 + 3 * i + 1) = nI (cg i) ∧ M'.2.2.1 6 (78 + 3 * i + 2) = nI (cu i)) ∧ (∀ j, j < 77 → M'.2.2.1 6 j = M.2.2.1 6 j) ∧ FR [42, 44, 45] [6, 8] [] M M' := by
  obtain ⟨M2, M3, n1, j1, hO2, hO3, p3, q45, hF⟩ := rd_pops (x := x) hO hp h45 (by omega) hj hl (Or.inl rfl)
  rw [show n + j + l.length = n + (j + l.length) by omega] at p3
  have h44 : M3.1 44 = nI 0 := p3.2.2.2.2.1
  have h42 : M3.1 42 = nI (n + (j + l.length)) := p3.2.1.1
  obtain ⟨M', c1, c2, c3, c4, c5⟩ := x12_codes p3.2.1 hn
  refine ⟨M', fun m => ?_, p3.1, c2, c3, fun i hi => by rw [c4 i hi, hF.2.1 6 (by decide)], (hF.mono (by decide) (by decide) (by decide)).tr (c5.mono (by decide) (by decide) (by decide))⟩
  have e0 : lp SB (1 + m) ((0 : Int32), M3) = some (nI o, M') := by
    rw [Nat.add_comm]
    show F_X12_sentence_48 (lp SB m) 0 M3 = _
    generalize lp SB m = L
    unfold F_X12_sentence_48
    rw [if_pos rfl, if_neg (show ¬ oob (77 : Int32) 258 from no_oob (i := 77) (by omega) (by omega)), pu_nwN, h42]
    exact c1
  rw [show 2 + m = (1 + m) + 1 by omega]
  show F_X12_sentence_48 (lp SB (1 + m)) (nI 1) M = _
  generalize lp SB (1 + m) = L at e0 ⊢
  unfold F_X12_sentence_48
  rw [if_neg one_ne, h46, if_neg one_ne, if_pos h11, n1, pu_ob1N, j1, pu_ob1N, h44, if_pos (show nI 0 ≤ (0 : Int32) from Int32.le_refl _), e0]
theorem p_sentence (hT : RT P M) (hR : RW R) (hW : MW M) (hS : RS B V) (hM : RM M V) (hw : WF V) (hN : RNm B M V) (hC : CR N (M.2.2.1 6)) (hH : HR B H K M V) : ∃ r T' R' N' X' P' M', F_X11_sentence T R N X B P = some (r, T', R', N', X', P') ∧ F_X12_sentence M = some (r, M') ∧ T' = sI T 15 (M'.1 15) ∧ RW R' ∧ RT P' M' ∧ RM M' V ∧ RNm B M' V ∧ CR N' (M'.2.2.1 6) ∧ HR B H K M' V ∧ FR [0, 2, 3, 4, 5, 11, 12, 13, 14, 15, 16, 18, 42, 43, 44, 45, 46] [6, 8, 41] [] M M' := by
  obtain ⟨R1, a1, a2, a3⟩ := rd_start (lim := 200) hT hR (by omega)
  have a1 : F_X5_begin R P 200 = some R1 := a1
  obtain ⟨M5, c1, c2, c3⟩ := a3 (sI (sI (sI (sI (sI (sI (sI (sI (sI (sI (sI M 0 0) 3 (M.1 2)) 2 0) 4 0) 5 200) 15 0) 42 0) 43 0) 44 0) 45 1) 46 0) rfl rfl rfl rfl
  have hF4 : FR [0, 2, 3, 4, 5, 11, 12, 13, 14, 15, 16, 18, 42, 43, 44, 45, 46] [8, 41] [] M (sI (sI (sI (sI (sI (sI (sI (sI (sI (sI (sI M 0 0) 3 (M.1 2)) 2 0) 4 0) 5 200) 15 0) 42 0) 43 0) 44 0) 45 1) 46 0) := ((((((((((FR.sI (by decide)).tr (FR.sI (by decide))).tr (FR.sI (by decide))).tr (FR.sI (by decide))).tr (FR.sI (by decide))).tr (FR.sI (by decide))).tr (FR.sI (by decide))).tr (FR.sI (by decide))).tr (FR.sI (by decide))).tr (FR.sI (by decide))).tr (FR.sI (by decide))
  have hF5 := hF4.tr (c3.mono (mi := [0, 2, 3, 4, 5, 11, 12, 13, 14, 15, 16, 18, 42, 43, 44, 45, 46]) (ma := [8, 41]) (ml := []) (by decide) (by decide) (by decide))
  have h15' : M5.1 15 = nI 0 := by rw [c3.1 15 (by decide)]; rfl
  have h2 : M5.1 2 = nI 0 := by rw [c3.1 2 (by decide)]; rfl
  have hBK : BK B M V := ⟨hS.1, hS.2.1, hw.1, hw.2.1, hM 0 (by omega), hM 1 (by omega), hN, hW⟩
  have hms : F_X12_sentence M = lp SB FU (nI 1, M5) := by
    unfold F_X12_sentence F_X12_taken
    rw [pu_nwN, pu_nwN, pu_nwN, pu_nwN, pu_nwN, pu_ob1N, pu_nwN, pu_nwN, pu_nwN, pu_nwN, pu_nwN, pu_nwN]
    have c1 : F_X12_next (sI (sI (sI (sI (sI (sI (sI (sI (sI (sI (sI M 0 0) 3 ((sI M 0 0).1 2)) 2 0) 4 0) 5 200) 15 0) 42 0) 43 0) 44 0) 45 1) 46 0) = some M5 := c1
    rw [c1, pu_ob1N]
    rfl
  have hct : ∀ R' : St, F_X11_closeText T R' P = some (sI T 15 (R'.1 8), sI P 1 0) := fun R' => by
    unfold F_X11_closeText
    rw [pu_nwN, pu_nwN]
  have hI : INP B R1 (sI (sI X 3 0) 4 0) M5 V (fun _ => 0) (fun _ => 0) (fun _ => 0) 0 0 0 1 0 := ⟨c2, BK_fr hBK hF5 (by decide) (by decide) (by decide), ⟨⟨rfl, rfl, fun i hi => absurd hi (Nat.not_lt_zero i)⟩, ⟨by rw [c3.1 42 (by decide)]; rfl, by rw [c3.1 43 (by decide)]; rfl, fun i hi => absurd hi (Nat.not_lt_zero i)⟩, trivial, trivial, by rw [c3.1 44 (by decide)]; rfl, fun y hy => absurd hy List.not_mem_nil, by decide, by decide⟩, by omega, Nat.le_refl _, fun i hi => absurd hi (Nat.not_lt_zero i), by rw [c3.1 45 (by decide)]; rfl, by omega, by omega, by rw [c3.1 46 (by decide)]; rfl⟩
  have hbad : ∀ N' R2 R' M' s, F_X7_readCondK (sI (sI X 3 0) 4 0) R1 B (nI 1) = some (N', R2) → F_X5_closes R2 = some (nI 0, R') → STP M5 M' s → s ≤ 2000 → FLT R' M' → FR [0, 2, 3, 4, 5, 11, 12, 13, 14, 15, 16, 18, 42, 43, 44, 45, 46] [8, 41] [] M5 M' → M'.1 2 = nI 0 → ∃ r T' R' N' X' P' M', F_X11_sentence T R N X B P = some (r, T', R', N', X', P') ∧ F_X12_sentence M = some (r, M') ∧ T' = sI T 15 (M'.1 15) ∧ RW R' ∧ RT P' M' ∧ RM M' V ∧ RNm B M' V ∧ CR N' (M'.2.2.1 6) ∧ HR B H K M' V ∧ FR [0, 2, 3, 4, 5, 11, 12, 13, 14, 15, 16, 18, 42, 43, 44, 45, 46] [6, 8, 41] [] M M' := by
    intro N' R2 R' M' s e1 e2 e3 e4 e5 e6 e7
    have e1' : F_X7_readCondK (sI (sI X 3 0) 4 0) R1 B 1 = some (N', R2) := e1
    have k1 : R2.2 = R1.2 := (K_7K (S0 := sI (sI X 3 0) 4 0) (S1 := R1) (S2 := B) (x := 1) (U := R1) rfl) _ e1'
    have k2 : R'.2 = R1.2 := (K_F_X5_closes (S0 := R2) (U := R1) k1) _ e2
    have hF6 := hF5.tr e6
    have hrf : F_X7_readFrom X R P B = some (nI 0, N', R') := by
      unfold F_X7_readFrom F_X7_empty
      rw [pu_nwN, pu_nwN, pu_ob1N, a1, pu_ob1N, e1', pu_ob2N, e2, pu_ob2N, if_neg nb0]
    refine ⟨(-1 : Int32) - R'.1 9, sI T 15 (R'.1 8), R', N, N', sI P 1 0, M', ?_, ?_, by rw [e5.2.1], RW_row hR (by rw [k2, a2]), ⟨0, by omega, rfl, e7, fun i hi => by omega⟩, fun j hj => by rw [hF6.2.1 6 (by decide)]; exact hM j hj, RNm_fr hN (hF6.2.2 9 (by decide)), by rw [hF6.2.1 6 (by decide)]; exact hC, hH.fr hF6 (by decide) (by decide), hF6.mono (by decide) (by decide) (by decide)⟩
    · unfold F_X11_sentence
      rw [hrf, pu_ob3N, hct, pu_ob2N, if_pos zero_eq]
    · rw [hms, show FU = s + (FU - s) by unfold FU; omega, e3, e5.2.2]
  rcases rd_condK R1 M5 _ _ _ _ _ _ _ _ _ hI (by omega) (by omega) (Or.inl rfl) with ⟨N', R2, M', cs', cg', cu', n', o', k', s, j, l, f1, fl, fa, fo, f2, f3, f3', f5, f6, f7, f8, f9, f10, f11, f12, f13, f14⟩ | ⟨N', R', M', s, f1, f2, f3, f4, f5, f6⟩
  · have hk' := ok_k f2
    have f8 : M'.1 45 = nI (1 + j) := f8
    have hjb : j < 1000 := by
      have := f7.2.2.2.2.2.2.2
      simp only [List.length_append, List.length_replicate] at this
      omega
    have f12 : dpt cs' (n' + (j + l.length)) = 1 := f12
    have f10 : n' + (j + l.length) + dpt cs' (n' + (j + l.length)) + 2 * 0 ≤ 2 * o' + 0 := f10
    have hwr : ∀ R3, ¬ M'.1 11 = 0 → F_X5_fail R2 1 = some R3 → (FLc R3 → F_X5_closes R2 = some (nI 0, R3)) → ∃ r T' R' N' X' P' M', F_X11_sentence T R N X B P = some (r, T', R', N', X', P') ∧ F_X12_sentence M = some (r, M') ∧ T' = sI T 15 (M'.1 15) ∧ RW R' ∧ RT P' M' ∧ RM M' V ∧ RNm B M' V ∧ CR N' (M'.2.2.1 6) ∧ HR B H K M' V ∧ FR [0, 2, 3, 4, 5, 11, 12, 13, 14, 15, 16, 18, 42, 43, 44, 45, 46] [6, 8, 41] [] M M' := by
      intro R3 h11 g1 g2
      obtain ⟨R4, M2, d1, d2, d3, d4⟩ := rd_wrong (x := 1) (h := 0) f2 fo fa (Or.inl rfl) f7 f8 (by omega) hjb fl (Or.inl rfl)
      have e34 : R4 = R3 := Option.some.inj (d2.symm.trans g1)
      subst e34
      exact hbad N' R2 R4 M2 (s + 1) f1 (g2 d3.1) (f5.st ((sb_behind f6 h11 d1).2 rfl)) (by omega) d3 ((f14.mono (by decide) (by decide) (by decide)).tr (d4.mono (by decide) (by decide) (by decide))) (by rw [d4.1 2 (by decide), f14.1 2 (by decide), h2])
    rcases rd_goes f2 with ⟨g1, g2, g3⟩ | ⟨g1, g2, g3, g4⟩ | ⟨g1, g2, g3, R', M2, g4, g5, g6, g7⟩
    · obtain ⟨R3, M3, d1, -, d3, -⟩ := rd_fail (f := 1) f2 (by omega) (by omega)
      have d1 : F_X5_fail R2 1 = some R3 := d1
      refine hwr R3 g3 d1 (fun q => ?_)
      have hcp : (nI k').toNatClampNeg = k' := pu_clamp (by omega)
      unfold F_X5_closes F_X5_closes_21
      rw [f2.2.1, if_neg (no_oob (i := k') (n := 901) (by omega) (by omega))]
      simp only [hcp]
      rw [if_neg (show ¬ R2.2.2.1 3 k' = (40 : Int32) from g1), d1, pu_ob1N]
      unfold F_X5_closes_26
      rw [if_neg (FLc_8 q)]
      rfl
    · obtain ⟨M2, d1, d2, d3, d4, d5, d6⟩ := sb_done (x := 1) f2 f6 g4 f7 f8 (by omega) hjb fl (by omega)
      have f1' : F_X7_readCondK (sI (sI X 3 0) 4 0) R1 B 1 = some (N', R2) := f1
      have k1 : R2.2 = R1.2 := (K_7K (S0 := sI (sI X 3 0) 4 0) (S1 := R1) (S2 := B) (x := 1) (U := R1) rfl) _ f1'
      have hrf : F_X7_readFrom X R P B = some (nI 1, N', R2) := by
        unfold F_X7_readFrom F_X7_empty
        rw [pu_nwN, pu_nwN, pu_ob1N, a1, pu_ob1N, f1', pu_ob2N, g3, pu_ob2N, if_neg nb1]
      have hF6 : FR [0, 2, 3, 4, 5, 11, 12, 13, 14, 15, 16, 18, 42, 43, 44, 45, 46] [6, 8, 41] [] M M2 := ((hF5.mono (by decide) (by decide) (by decide)).tr (f14.mono (by decide) (by decide) (by decide))).tr (d6.mono (by decide) (by decide) (by decide))
      have e15 : M2.1 15 = nI 0 := by rw [d6.1 15 (by decide), f14.1 15 (by decide), h15']
      have e6 : ∀ i, i < 77 → M2.2.2.1 6 i = M.2.2.1 6 i := fun i hi => by rw [d5 i hi, f14.2.1 6 (by decide), hF5.2.1 6 (by decide)]
      refine ⟨nI o', sI T 15 (R2.1 8), R2, N', N', sI P 1 0, M2, ?_, ?_, by rw [f2.2.2, e15], RW_row hR (by rw [k1, a2]), ⟨0, by omega, rfl, by rw [d6.1 2 (by decide), f14.1 2 (by decide), h2], fun i hi => by omega⟩, fun j hj => by rw [e6 j (by omega)]; exact hM j hj, RNm_fr hN (hF6.2.2 9 (by decide)), ⟨n' + (j + l.length), cs', cg', cu', by omega, d2.1, d3, ⟨o', d2.2.1, by omega, ⟨fun e => by omega, fun e => by rw [e] at f12; exact absurd (show (0 : Nat) = 1 from f12) (by decide)⟩⟩, fun i hi => ?_, f11, fun _ => f12⟩, hH.fr hF6 (by decide) (by decide), hF6⟩
      · unfold F_X11_sentence F_X7_copyN
        rw [hrf, pu_ob3N, hct, pu_ob2N, if_neg one_ne, pu_ob1N, d2.2.1]
      · rw [hms, show FU = s + (2 + (FU - s - 2)) by unfold FU; omega, f5, d1]
      · obtain ⟨q1, q2, q3⟩ := d2.2.2 i hi
        obtain ⟨q4, q5, q6⟩ := d4 i hi
        exact ⟨q1, q2, q3, q4, q5, q6⟩
    · obtain ⟨R3, M3, d1, -, d3, -⟩ := rd_fail (f := 1) f2 (by omega) (by omega)
      have d1 : F_X5_fail R2 1 = some R3 := d1
      refine hwr R3 g3 d1 (fun q => ?_)
      have e : R' = R3 := by
        have hcp : (nI k').toNatClampNeg = k' := pu_clamp (by omega)
        have g4 := g4
        unfold F_X5_closes F_X5_closes_21 at g4
        rw [f2.2.1, if_neg (no_oob (i := k') (n := 901) (by omega) (by omega))] at g4
        simp only [hcp] at g4
        rw [if_pos (show R2.2.2.1 3 k' = (40 : Int32) from g1), d1, pu_ob1N] at g4
        unfold F_X5_closes_26 at g4
        rw [f2.2.2, if_pos zero_eq, if_neg (FLc_8 q)] at g4
        by_cases q7 : R2.1 7 = 0
        · rw [if_pos q7] at g4
          have := congrArg Prod.fst (Option.some.inj g4)
          exact absurd (show (1 : Int32) = nI 0 from this) (by decide)
        · rw [if_neg q7] at g4
          exact (congrArg Prod.snd (Option.some.inj g4)).symm
      rw [← e]
      exact g4
  · exact hbad N' R' R' M' s f1 (fl_closes f3.1) f4 (by omega) f3 (f6.mono (by decide) (by decide) (by decide)) (by rw [f6.1 2 (by decide), h2])
end P62
