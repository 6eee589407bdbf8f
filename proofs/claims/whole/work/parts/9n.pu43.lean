/-! a book: both sides -/
section P43
variable {R M S P B N H T X G : St} {K : KSt} {V : Vt} {k n : Nat}
theorem RTo_fr {T' M' : St} (h : RTo T M) (e1 : M'.1 40 = M.1 40) (e2 : M'.2.2.1 39 = M.2.2.1 39) (e3 : T'.2.2.1 14 = T.2.2.1 14) : RTo T' M' := by
  rcases h with ⟨a, b⟩ | ⟨a, b⟩
  · exact Or.inl ⟨by rw [e1, a], fun i hi => by rw [e3]; exact b i hi⟩
  · exact Or.inr ⟨by rw [e1, a], fun i hi => by rw [e3, e2]; exact b i hi⟩
theorem RNm_fr {M' : St} (h : RNm B M V) (e : M'.2.2.2 9 = M.2.2.2 9) : RNm B M' V := ⟨fun t ht => by rw [e]; exact h.1 t ht, fun p hp => by rw [e]; exact h.2 p hp⟩
theorem p_book (hT : RT P M) (hR : RW R) (hW : MW M) (hS : RS B V) (hM : RM M V) (hw : WF V) (hN : RNm B M V) (hC : CR N (M.2.2.1 6)) (hH : HR B H K M V) (hTo : RTo T M) (h15 : T.1 15 = M.1 15) (x : Int32) : ∃ r T' H' K' G' R' X' B' P' M' V', F_X11_book T H K G R X B P x = some (r, T', H', K', G', R', X', B', P') ∧ F_X12_book M x = some (r, M') ∧ FR [15] [14] [] T T' ∧ T'.1 15 = M'.1 15 ∧ RTo T' M' ∧ RW R' ∧ RT P' M' ∧ RS B' V' ∧ RM M' V' ∧ WF V' ∧ RNm B' M' V' ∧ CR N (M'.2.2.1 6) ∧ HR B' H' K' M' V' ∧ FR [0, 2, 3, 4, 5, 11, 12, 13, 14, 15, 16, 18, 22, 38, 40] [6, 8, 20, 21, 39] [] M M' := by
  have hout : F_X12_isIn x 0 1 = some (nI 0) → ¬ x = 0 → ¬ x = 1 → ∃ r T' H' K' G' R' X' B' P' M' V', F_X11_book T H K G R X B P x = some (r, T', H', K', G', R', X', B', P') ∧ F_X12_book M x = some (r, M') ∧ FR [15] [14] [] T T' ∧ T'.1 15 = M'.1 15 ∧ RTo T' M' ∧ RW R' ∧ RT P' M' ∧ RS B' V' ∧ RM M' V' ∧ WF V' ∧ RNm B' M' V' ∧ CR N (M'.2.2.1 6) ∧ HR B' H' K' M' V' ∧ FR [0, 2, 3, 4, 5, 11, 12, 13, 14, 15, 16, 18, 22, 38, 40] [6, 8, 20, 21, 39] [] M M' := by
    intro hi h0 h1
    refine ⟨-1000, T, H, K, G, R, X, B, P, sI M 0 0, V, ?_, ?_, FR.rf, h15, RTo_fr hTo rfl rfl rfl, hR, ?_, hS, hM, hw, RNm_fr hN rfl, hC, hH.fr (FR.sI (ni := [0]) (na := []) (nl := []) (by decide)) (by decide) (by decide), FR.sI (by decide)⟩
    · unfold F_X11_book
      rw [if_neg h0, if_neg h1]
    · unfold F_X12_book
      rw [pu_nwN, hi, pu_ob1N, if_pos zero_eq]
    · obtain ⟨n, a1, a2, a3, a4⟩ := hT
      exact ⟨n, a1, a2, a3, a4⟩
  have hin : ∀ v, v ≤ 1 → x = nI v → ∃ r T' H' K' G' R' X' B' P' M' V', F_X11_book T H K G R X B P x = some (r, T', H', K', G', R', X', B', P') ∧ F_X12_book M x = some (r, M') ∧ FR [15] [14] [] T T' ∧ T'.1 15 = M'.1 15 ∧ RTo T' M' ∧ RW R' ∧ RT P' M' ∧ RS B' V' ∧ RM M' V' ∧ WF V' ∧ RNm B' M' V' ∧ CR N (M'.2.2.1 6) ∧ HR B' H' K' M' V' ∧ FR [0, 2, 3, 4, 5, 11, 12, 13, 14, 15, 16, 18, 22, 38, 40] [6, 8, 20, 21, 39] [] M M' := by
    intro v hv hxv
    have hi : F_X12_isIn x 0 1 = some (nI 1) := by rw [hxv]; exact in_ok (a := 0) (b := 1) (by omega) hv (by omega)
    obtain ⟨R1, a1, a2, a3⟩ := rd_start (lim := 400) hT hR (by omega)
    have a1 : F_X5_begin R P 400 = some R1 := a1
    obtain ⟨M5, c1, c2, c3⟩ := a3 (sI (sI (sI (sI (sI (sI (sI M 0 0) 3 (M.1 2)) 2 0) 4 0) 5 400) 15 0) 38 0) rfl rfl rfl rfl
    have hF4 : FR [0, 2, 3, 4, 5, 11, 12, 13, 14, 15, 16, 18, 38] [8] [] M (sI (sI (sI (sI (sI (sI (sI M 0 0) 3 (M.1 2)) 2 0) 4 0) 5 400) 15 0) 38 0) := (((((((FR.sI (by decide)).tr (FR.sI (by decide))).tr (FR.sI (by decide))).tr (FR.sI (by decide))).tr (FR.sI (by decide))).tr (FR.sI (by decide))).tr (FR.sI (by decide)))
    have hF5 := hF4.tr (c3.mono (mi := [0, 2, 3, 4, 5, 11, 12, 13, 14, 15, 16, 18, 38]) (ma := [8]) (ml := []) (by decide) (by decide) (by decide))
    have h15' : M5.1 15 = nI 0 := by rw [c3.1 15 (by decide)]; rfl
    have h38 : M5.1 38 = nI 0 := by rw [c3.1 38 (by decide)]; rfl
    have h2 : M5.1 2 = nI 0 := by rw [c3.1 2 (by decide)]; rfl
    have hBK : BK B M V := ⟨hS.1, hS.2.1, hw.1, hw.2.1, hM 0 (by omega), hM 1 (by omega), hN, hW⟩
    have eF : FU = 901 + 1 + (FU - 902) := by decide
    have eF2 : FU = 901 + (FU - 901) := by decide
    obtain ⟨r1, G', R', M6, o, d1, d2, d3, d5⟩ := rd_book P B V x 901 0 0 R1 M5 (sI G 4 0) (by omega) c2 (BK_fr hBK hF5 (by decide) (by decide) (by decide)) h15' (by omega) rfl h38 (fun j hj => by omega) (FU - 902) (FU - 901)
    rw [← eF] at d1
    rw [← eF2] at d2
    have hrf : F_X0_readFrom G R P B = some (r1, G', R') := by
      unfold F_X0_readFrom
      rw [pu_nwN, a1, pu_ob1N]
      exact d1
    have hk : R'.2 = R1.2 := K_0lines FU (R := R1) (U := R1) rfl _ d1
    have hRW : RW R' := RW_row hR (by rw [hk, a2])
    have hms : F_X12_book M x = o := by
      unfold F_X12_book F_X12_taken
      rw [pu_nwN, hi, pu_ob1N, if_neg one_ne, pu_nwN, pu_nwN, pu_nwN, pu_nwN, pu_ob1N, pu_nwN, pu_nwN]
      have c1 : F_X12_next (sI (sI (sI (sI (sI (sI (sI M 0 0) 3 ((sI M 0 0).1 2)) 2 0) 4 0) 5 400) 15 0) 38 0) = some M5 := c1
      rw [c1, pu_ob1N]
      exact d2
    have hct : F_X11_closeText T R' P = some (sI T 15 (R'.1 8), sI P 1 0) := by
      unfold F_X11_closeText
      rw [pu_nwN, pu_nwN]
    have hF6 := hF5.tr (d3.mono (mi := [0, 2, 3, 4, 5, 11, 12, 13, 14, 15, 16, 18, 38]) (ma := [8]) (ml := []) (by decide) (by decide) (by decide))
    have hRT : ∀ M' : St, M'.1 2 = M6.1 2 → RT (sI P 1 0) M' := fun M' e => ⟨0, by omega, rfl, by rw [e, d3.1 2 (by decide), h2], fun i hi => by omega⟩
    have hb13 : F_X11_book T H K G R X B P x = F_X11_book_13 x T H K G R X B P := by
      unfold F_X11_book
      rcases (show v = 0 ∨ v = 1 by omega) with rfl | rfl
      · rw [hxv, if_pos zero_eq]
      · rw [hxv, if_neg one_ne, if_pos (show nI 1 = (1 : Int32) from rfl)]
    have hF6' : FR [0, 2, 3, 4, 5, 11, 12, 13, 14, 15, 16, 18, 22, 38, 40] [6, 8, 20, 21, 39] [] M M6 := hF6.mono (by decide) (by decide) (by decide)
    have hM6 : RM M6 V := fun j hj => by rw [hF6.2.1 6 (by decide)]; exact hM j hj
    have hH6 : HR B H K M6 V := hH.fr hF6 (by decide) (by decide)
    have hN6 : RNm B M6 V := RNm_fr hN (hF6.2.2 9 (by decide))
    have e6 : M6.2.2.1 6 = M.2.2.1 6 := hF6.2.1 6 (by decide)
    rcases d5 with ⟨n, g1, g2, g3, g4, g5, g6, g7, g8⟩ | ⟨g1, g2, g3⟩
    · have hx2 : x = nI 0 ∨ x = nI 1 := by rcases (show v = 0 ∨ v = 1 by omega) with rfl | rfl <;> simp [hxv]
      obtain ⟨r, T', H', K', B', M', V', u1, u2, u3, u4, u5, u6, u7, u8, u9, u10, u11, u12, u13⟩ := bk_lived (T := sI T 15 (R'.1 8)) hx2 g1 g5 g6 g7 hS hM6 hw hH6
      have hv42 : ∀ k, k < 42 → V' k = V k := u10
      have fin : ∀ X', F_X11_book T H K G R X B P x = some (r, T', H', K', G', R', X', B', sI P 1 0) → ∃ r T' H' K' G' R' X' B' P' M' V', F_X11_book T H K G R X B P x = some (r, T', H', K', G', R', X', B', P') ∧ F_X12_book M x = some (r, M') ∧ FR [15] [14] [] T T' ∧ T'.1 15 = M'.1 15 ∧ RTo T' M' ∧ RW R' ∧ RT P' M' ∧ RS B' V' ∧ RM M' V' ∧ WF V' ∧ RNm B' M' V' ∧ CR N (M'.2.2.1 6) ∧ HR B' H' K' M' V' ∧ FR [0, 2, 3, 4, 5, 11, 12, 13, 14, 15, 16, 18, 22, 38, 40] [6, 8, 20, 21, 39] [] M M' := by
        intro X' hX
        refine ⟨r, T', H', K', G', R', X', B', sI P 1 0, M', V', hX, by rw [hms, g8]; exact u3, (FR.sI (by decide)).tr (u5.mono (by decide) (by decide) (by decide)), ?_, u4, hRW, hRT M' (u13.1 2 (by decide)), u6, u7, u8, ⟨fun t ht => ?_, fun p hp => ?_⟩, CR_cong hC (fun j hj _ => by rw [u11 j hj, e6]), u12, hF6'.tr (u13.mono (by decide) (by decide) (by decide))⟩
        · rw [u5.1 15 (by decide), u13.1 15 (by decide), g4]
          show R'.1 8 = _
          rw [g3]
        · rw [u9, u13.2.2 9 (by decide)]
          exact hN6.1 t (by rw [← hv42 0 (by omega)]; exact ht)
        · rw [u9, u13.2.2 9 (by decide)]
          exact hN6.2 p (by rw [← hv42 1 (by omega)]; exact hp)
      rcases (show v = 0 ∨ v = 1 by omega) with rfl | rfl
      · obtain ⟨X', y1, y2, y3, y4⟩ := u1 hxv
        refine fin X' ?_
        rw [hb13, y2, y3, y4]
        unfold F_X11_book_13 F_X8_copyN
        rw [hrf, pu_ob3N, hct, pu_ob2N, g2, if_neg one_ne, hxv, if_pos zero_eq, pu_ob1N, y1, pu_ob3N]
      · obtain ⟨r', y1, y2, y3⟩ := u2 hxv
        refine fin X ?_
        rw [hb13]
        unfold F_X11_book_13
        rw [hrf, pu_ob3N, hct, pu_ob2N, g2, if_neg one_ne, hxv, if_neg one_ne, y1, pu_ob1N, y2, pu_ob3N, if_neg (show ¬ oob (1 : Int32) 4 from no_oob (i := 1) (by omega) (by omega)), y3, pu_ob2N]
    · refine ⟨(-2 : Int32) - R'.1 9, sI T 15 (R'.1 8), H, K, G', R', X, B, sI P 1 0, M6, V, ?_, ?_, FR.sI (by decide), ?_, RTo_fr hTo (hF6.1 40 (by decide)) (hF6.2.1 39 (by decide)) rfl, hRW, hRT M6 rfl, hS, hM6, hw, hN6, by rw [e6]; exact hC, hH6, hF6'⟩
      · rw [hb13]
        unfold F_X11_book_13
        rw [hrf, pu_ob3N, hct, pu_ob2N, g1, if_pos zero_eq]
      · rw [hms, g3, g2.2.2]
      · show R'.1 8 = _
        rw [g2.2.1]
  rcases two_in x 0 1 (by omega) (by omega) with ⟨v, -, hv, e⟩ | ⟨e1, e2⟩ | ⟨e1, e2, e3, e4⟩
  · exact hin v hv e
  · have e1 : x < (0 : Int32) := e1
    refine hout e2 (fun q => ?_) (fun q => ?_)
    · rw [q] at e1; exact absurd e1 (by decide)
    · rw [q] at e1; exact absurd e1 (by decide)
  · have e3 : (1 : Int32) < x := e3
    refine hout e4 (fun q => ?_) (fun q => ?_)
    · rw [q] at e3; exact absurd e3 (by decide)
    · rw [q] at e3; exact absurd e3 (by decide)
end P43
