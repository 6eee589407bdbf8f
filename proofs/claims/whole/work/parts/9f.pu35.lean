/-! a suburb told: both sides -/
section P35
variable {R M S P B N H T X : St} {K : KSt} {V : Vt} {k : Nat}
theorem RW_row {R' : St} (h : RW R) (e : R'.2.2.2 1 = R.2.2.2 1) : RW R' := fun i hi => by rw [e]; exact h i hi
theorem RS_cp {S : St} (h : SUB S M V) : RS S (cpV V) ∧ WF (cpV V) := by
  obtain ⟨s0, s7, s5, s6, s14, v0, v1, v23, sm, st, sp, sz⟩ := h
  have c1 : ∀ j, j < 42 → cpV V j = V j := fun j hj => if_pos hj
  have c2 : ∀ j, 42 ≤ j → j < 45 → cpV V j = 0 := fun j h1 h2 => by unfold cpV; rw [if_neg (by omega), if_pos h2]
  have c3 : ∀ t, t < 7 → cpV V (45 + t) = V (9 + t) := fun t ht => by unfold cpV; rw [if_neg (by omega), if_neg (by omega), if_pos (by omega), show 45 + t - 36 = 9 + t by omega]
  have c4 : ∀ t, t < 7 → cpV V (52 + t) = V (16 + t) := fun t ht => by unfold cpV; rw [if_neg (by omega), if_neg (by omega), if_pos (by omega), show 52 + t - 36 = 16 + t by omega]
  have c5 : ∀ t, t < 6 → cpV V (59 + t) = V (30 + t) := fun t ht => by unfold cpV; rw [if_neg (by omega), if_neg (by omega), if_neg (by omega), if_pos (by omega), show 59 + t - 29 = 30 + t by omega]
  have c6 : ∀ j, 65 ≤ j → cpV V j = 0 := fun j hj => by unfold cpV; rw [if_neg (by omega), if_neg (by omega), if_neg (by omega), if_neg (by omega)]
  have e0 := c1 0 (by omega)
  have e1 := c1 1 (by omega)
  have e23 := c1 23 (by omega)
  have e42 := c2 42 (by omega) (by omega)
  have e43 := c2 43 (by omega) (by omega)
  have e44 := c2 44 (by omega) (by omega)
  have sm0 : ∀ n, smT (cpV V) n = 0 := by
    intro n
    induction n with
    | zero => rfl
    | succ n ih => show smT (cpV V) n + cpV V (71 + n) = 0; rw [ih, c6 _ (by omega)]
  constructor
  · refine ⟨by rw [e0, s0], by rw [e1, s7], by rw [e23, s5], by rw [e44, s6], by rw [e42, s14], ?_, ?_, ?_, ?_, ?_, ?_, ?_, ?_⟩
    · intro t ht; rw [e0] at ht; rw [c1 _ (by omega)]; exact (st t ht).1
    · intro t ht; rw [e0] at ht; rw [c3 _ (by omega)]; exact (st t ht).2.2.1
    · intro t ht; rw [e0] at ht; rw [c4 _ (by omega)]; exact (st t ht).2.2.2.2.1
    · intro t ht; rw [e1] at ht; rw [c5 _ (by omega)]; exact (sp t ht).1
    · intro t ht; rw [e1] at ht; rw [c1 _ (by omega)]; exact (sp t ht).2.2.2.1
    · intro t ht; rw [e1] at ht; rw [c1 _ (by omega)]; exact (sp t ht).2.2.2.2.2.1
    · intro t ht; rw [e1] at ht; rw [c6 _ (by omega)]; rw [(sp t ht).2.2.2.2.2.2.2.1]; rfl
    · intro t ht; rw [e1] at ht; rw [c6 _ (by omega)]; exact (sp t ht).2.2.2.2.2.2.2.2.1
  · refine ⟨by rw [e0]; exact v0, by rw [e1]; exact v1, by rw [e23]; exact v23, by rw [e44]; omega, by rw [e42]; omega, ?_, ?_, ?_, ?_, ?_, ?_, ?_, ?_, by rw [sm0, e43]⟩
    · intro t ht; rw [e0] at ht; rw [c1 _ (by omega)]; exact (st t ht).2.1
    · intro t ht; rw [e0] at ht; rw [c3 _ (by omega)]; exact (st t ht).2.2.2.1
    · intro t ht; rw [e0] at ht; rw [c4 _ (by omega)]; exact (st t ht).2.2.2.2.2.1
    · intro t ht; rw [e1] at ht; rw [c5 _ (by omega)]; exact (sp t ht).2.1
    · intro t ht; rw [e1] at ht; rw [c5 _ (by omega)]; exact (sp t ht).2.2.1
    · intro t ht; rw [e1] at ht; rw [c1 _ (by omega)]; exact (sp t ht).2.2.2.2.1
    · intro t ht; rw [e1] at ht; rw [c1 _ (by omega)]; exact (sp t ht).2.2.2.2.2.2.1
    · intro t ht; rw [c6 _ (by omega)]; omega
theorem CR_zero {f : Nat → Int32} (h : f 77 = nI 0) : CR (sI (sI N 3 0) 4 0) f := ⟨0, fun _ => 0, fun _ => 0, fun _ => 0, by omega, rfl, h, ⟨0, rfl, by omega, by omega⟩, fun i hi => by omega, fun i hi => by omega, fun h => by omega⟩
theorem p_suburb (hT : RT P M) (hR : RW R) (hW : MW M) (hS : RS B V) (hM : RM M V) (hw : WF V) (hN : RNm B M V) (hC : CR N (M.2.2.1 6)) (hH : HR B H K M V) : ∃ r T' H' R' N' X' B' P' M' V', F_X11_suburb T H R N X B P = some (r, T', H', R', N', X', B', P') ∧ F_X12_suburb M = some (r, M') ∧ T' = sI T 15 (M'.1 15) ∧ RW R' ∧ RT P' M' ∧ RS B' V' ∧ RM M' V' ∧ WF V' ∧ RNm B' M' V' ∧ CR N' (M'.2.2.1 6) ∧ HR B' H' K M' V' ∧ FR [0, 2, 3, 4, 5, 11, 12, 13, 14, 15, 16, 18, 19, 22] [6, 7] [9] M M' := by
  obtain ⟨R1, a1, a2, a3⟩ := rd_start (lim := 900) hT hR (by omega)
  have a1 : F_X5_begin R P 900 = some R1 := a1
  obtain ⟨M4, b1, b2, b3⟩ := x12_clears (M := sI (sI (sI (sI (sI (sI (sI M 0 0) 3 (M.1 2)) 2 0) 4 0) 5 900) 15 0) 19 0)
  obtain ⟨M5, c1, c2, c3⟩ := a3 M4 (b3.1 3 (by decide)) (b3.1 4 (by decide)) (b3.1 5 (by decide)) (b3.2.1 1 (by decide))
  have hF4 : FR [0, 2, 3, 4, 5, 11, 12, 13, 14, 15, 16, 18, 19, 22] [6, 7] [9] M M4 := ((((((((FR.sI (by decide)).tr (FR.sI (by decide))).tr (FR.sI (by decide))).tr (FR.sI (by decide))).tr (FR.sI (by decide))).tr (FR.sI (by decide))).tr (FR.sI (by decide)))).tr (b3.mono (by decide) (by decide) (by decide))
  have hF5 := hF4.tr (c3.mono (mi := [0, 2, 3, 4, 5, 11, 12, 13, 14, 15, 16, 18, 19, 22]) (ma := [6, 7]) (ml := [9]) (by decide) (by decide) (by decide))
  have n5 : ∀ j, M5.2.2.2 9 j = M.2.2.2 9 j := fun j => by rw [c3.2.2 9 (by decide), b3.2.2 9 (by decide)]; rfl
  have h15 : M5.1 15 = nI 0 := by rw [c3.1 15 (by decide), b3.1 15 (by decide)]; rfl
  have h19 : M5.1 19 = nI 0 := by rw [c3.1 19 (by decide), b3.1 19 (by decide)]; rfl
  have h2 : M5.1 2 = nI 0 := by rw [c3.1 2 (by decide), b3.1 2 (by decide)]; rfl
  have h6 : M5.2.2.1 6 = M.2.2.1 6 := by rw [c3.2.1 6 (by decide), b3.2.1 6 (by decide)]; rfl
  have h22 : M5.1 22 = M.1 22 := by rw [c3.1 22 (by decide), b3.1 22 (by decide)]; rfl
  have hS0 : SUB (sI (sI (sI (sI (sI X 0 0) 5 0) 6 0) 7 0) 14 0) M5 (fun _ => 0) := ⟨rfl, rfl, rfl, rfl, rfl, Nat.zero_le _, Nat.zero_le _, (by decide : 0 < 128), fun j hj => by rw [c3.2.1 7 (by decide)]; exact b2 j hj, fun t ht => absurd ht (Nat.not_lt_zero t), fun t ht => absurd ht (Nat.not_lt_zero t), fun p _ _ => ⟨rfl, rfl⟩⟩
  have eF : FU = 901 + 1 + (FU - 902) := by decide
  have eF2 : FU = 901 + (FU - 901) := by decide
  obtain ⟨r1, X', R', M6, V6, o, d1, d2, d3, d4, d5⟩ := rd_lines P 901 0 0 R1 M5 _ _ (by omega) (by omega) c2 (MW_fr hW hF5 (by decide)) hS0 h15 h19 (FU - 902) (FU - 901)
  rw [← eF] at d1
  rw [← eF2] at d2
  have hrf : F_X8_readFrom X R P = some (r1, X', R') := by
    unfold F_X8_readFrom
    rw [pu_nwN, pu_nwN, pu_nwN, pu_nwN, pu_nwN, a1, pu_ob1N]
    exact d1
  have hk : R'.2 = R1.2 := K_8lines FU (R := R1) (U := R1) rfl _ d1
  have hRW : RW R' := RW_row hR (by rw [hk, a2])
  have hms : F_X12_suburb M = o := by
    unfold F_X12_suburb F_X12_taken
    rw [pu_nwN, pu_nwN, pu_nwN, pu_nwN, pu_nwN, pu_ob1N, pu_nwN, pu_nwN]
    have b1 : F_X12_clears (sI (sI (sI (sI (sI (sI (sI M 0 0) 3 ((sI M 0 0).1 2)) 2 0) 4 0) 5 900) 15 0) 19 0) = some M4 := b1
    rw [b1, pu_ob1N, c1, pu_ob1N]
    exact d2
  have hct : F_X11_closeText T R' P = some (sI T 15 (R'.1 8), sI P 1 0) := by
    unfold F_X11_closeText
    rw [pu_nwN, pu_nwN]
  have hF6 := hF5.tr (d3.mono (mi := [0, 2, 3, 4, 5, 11, 12, 13, 14, 15, 16, 18, 19, 22]) (ma := [6, 7]) (ml := [9]) (by decide) (by decide) (by decide))
  have hRT : ∀ M' : St, M'.1 2 = M6.1 2 → RT (sI P 1 0) M' := fun M' e => ⟨0, by omega, rfl, by rw [e, d3.1 2 (by decide), h2], fun i hi => by omega⟩
  rcases d5 with ⟨i, k', g1, g2, g3, g4, g5, g6, g7, g8⟩ | ⟨g1, g2, g3⟩
  · obtain ⟨M7, q1, q2, q3, q4, q5⟩ := x12_copy g6.2.2.2.2.2.2.2.2.1
    have hne : ¬ r1 = (-1 : Int32) := by rw [g2, show (-1 : Int32) = nO from rfl, pu_eqO (by omega)]; exact id
    obtain ⟨H', w1, w2⟩ := x2_forget (S := X') (H := H) (K := K) (V := cpV V6) q4
    refine ⟨r1, sI T 15 (R'.1 8), H', R', sI (sI N 3 0) 4 0, X', X', sI P 1 0, M7, cpV V6, ?_, ?_, ?_, hRW, hRT M7 (q5.1 2 (by decide)), (RS_cp g6).1, fun j hj => q2 j (by omega), (RS_cp g6).2, ⟨fun t ht => ?_, fun p hp => ?_⟩, CR_zero (q2 77 (by omega)), w2 hH.nx, hF6.tr (q5.mono (by decide) (by decide) (by decide))⟩
    · unfold F_X11_suburb F_X8_copyN F_X7_empty
      rw [hrf, pu_ob3N, hct, pu_ob2N, if_neg hne, pu_ob1N, pu_nwN, pu_nwN, pu_ob1N, w1, pu_ob1N]
    · rw [hms, g8, q1, g7, g2]
    · rw [g3, q5.1 15 (by decide), g4]
    · have ht : t < V6 0 := ht
      have v0 := g6.2.2.2.2.2.1
      rw [q3 t (by omega)]
      exact (g6.2.2.2.2.2.2.2.2.2.1 t ht).2.2.2.2.2.2
    · have hp : p < V6 1 := hp
      have v1 := g6.2.2.2.2.2.2.1
      rw [q3 (7 + p) (by omega), show 13 + (7 + p) = 20 + p by omega]
      exact (g6.2.2.2.2.2.2.2.2.2.2.1 p hp).2.2.2.2.2.2.2.2.2
  · have w0 := hw.1
    have w1 := hw.2.1
    refine ⟨(-1 : Int32) - R'.1 9, sI T 15 (R'.1 8), H, R', N, X', B, sI P 1 0, M6, V, ?_, ?_, ?_, hRW, hRT M6 rfl, hS, fun j hj => ?_, hw, ⟨fun t ht => ?_, fun p hp => ?_⟩, ?_, ?_, hF6⟩
    · unfold F_X11_suburb
      rw [hrf, pu_ob3N, hct, pu_ob2N, if_pos (show r1 = (-1 : Int32) from g1)]
    · rw [hms, g3, g2.2.2]
    · rw [g2.2.1]
    · rw [d3.2.1 6 (by decide), h6]; exact hM j hj
    · rw [d4 t (by omega), n5]; exact hN.1 t ht
    · rw [d4 (7 + p) (by omega), n5]; exact hN.2 p hp
    · rw [d3.2.1 6 (by decide), h6]; exact hC
    · refine (hH.fr (ni := [0, 2, 3, 4, 5, 11, 12, 13, 14, 15, 16, 18, 19]) (na := [6, 7]) (nl := [9]) ⟨fun k hk => ?_, hF6.2.1, hF6.2.2⟩ (by decide) (by decide))
      by_cases e : k = 22
      · rw [e, d3.1 22 (by decide), h22]
      · exact hF6.1 k (fun hm => hk (by simp only [List.mem_cons, List.not_mem_nil, or_false] at hm ⊢; omega))
end P35
