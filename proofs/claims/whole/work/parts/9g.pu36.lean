/-! a book's line, in step: the plain ones -/
def BK (B M : St) (V : Vt) : Prop := B.1 0 = nI (V 0) ∧ B.1 7 = nI (V 1) ∧ V 0 ≤ 7 ∧ V 1 ≤ 6 ∧ M.2.2.1 6 0 = nI (V 0) ∧ M.2.2.1 6 1 = nI (V 1) ∧ RNm B M V ∧ MW M
def GO (G G' : St) (n : Nat) : Prop := ∀ f j, j ≠ n → G'.2.2.1 f j = G.2.2.1 f j
def MO (M M' : St) (n : Nat) : Prop := ∀ i, i < 4 * n → M'.2.2.1 8 i = M.2.2.1 8 i
def BRES (V : Vt) (G G' R' M M' : St) (k k' n : Nat) (r : Int32) : Prop := FR [4, 11, 12, 13, 14, 15, 16, 18] [8] [] M M' ∧ ((r = nI 1 ∧ OKs R' M' k' ∧ G'.1 4 = nI (n + 1) ∧ LR V G' M' n ∧ GO G G' n ∧ MO M M' n ∧ M'.1 15 = M.1 15 ∧ k < k') ∨ (r = nI 0 ∧ FLT R' M'))
section P36
variable {R M S P B N H T X G : St} {K : KSt} {V : Vt} {k n : Nat}
theorem BK_fr {M' : St} {ni na nl : List Nat} (h : BK B M V) (hf : FR ni na nl M M') (h6 : 6 ∉ na) (h9 : 9 ∉ nl) (h10 : 10 ∉ nl) : BK B M' V := by
  obtain ⟨a1, a2, a3, a4, a5, a6, a7, a8⟩ := h
  exact ⟨a1, a2, a3, a4, by rw [hf.2.1 6 h6]; exact a5, by rw [hf.2.1 6 h6]; exact a6, ⟨fun t ht => by rw [hf.2.2 9 h9]; exact a7.1 t ht, fun p hp => by rw [hf.2.2 9 h9]; exact a7.2 p hp⟩, MW_fr a8 hf h10⟩
theorem GO.rf : GO G G n := fun _ _ _ => rfl
theorem GO.sA {G' : St} {f : Nat} {v : Int32} (h : GO G G' n) (hn : n < 40) : GO G (sA G' f (nI n) v) n := fun g j hj => by
  by_cases e : g = f
  · rw [e, pu_sAe (by omega), if_neg hj]; exact h f j hj
  · rw [pu_sAn e]; exact h g j hj
theorem GO.sI {G' : St} {f : Nat} {v : Int32} (h : GO G G' n) : GO G (sI G' f v) n := h
theorem MO.rf : MO M M n := fun _ _ => rfl
theorem MO.sA {M' : St} {c : Nat} {v : Int32} (h : MO M M' n) (hn : 4 * n + c < 2147483648) : MO M (sA M' 8 (nI (4 * n + c)) v) n := fun i hi => by
  rw [pu_sAe hn, if_neg (by omega)]; exact h i hi
theorem MO.fr {M1 M2 : St} {ni na nl : List Nat} (h : MO M M1 n) (hf : FR ni na nl M1 M2) (h8 : 8 ∉ na) : MO M M2 n := fun i hi => by
  rw [hf.2.1 8 h8]; exact h i hi
theorem LR_old {G' M' : St} {j : Nat} (h : LR V G M j) (hG : GO G G' n) (hM : MO M M' n) (hj : j < n) : LR V G' M' j := by
  obtain ⟨a, f, s, v, h1, h2, h3, h4, h5, h6, h7, h8, h9, h10, h11, h12⟩ := h
  have m0 := hM (4 * j) (by omega)
  have m1 := hM (4 * j + 1) (by omega)
  have m2 := hM (4 * j + 2) (by omega)
  have m3 := hM (4 * j + 3) (by omega)
  have g := fun q => hG q j (by omega)
  refine ⟨a, f, s, v, h1, h2, by rw [g]; exact h3, by rw [g]; exact h4, by rw [m0]; exact h5, by rw [m1]; exact h6, fun e => ?_, h8, fun e => ?_, h10, h11, h12⟩
  · rw [g, m2]; exact h7 e
  · rw [g, g, m2, m3]; exact h9 e
theorem rd_nameT {c fr : Nat} (h : OKs R M k) (hW : MW M) (h0 : S.1 0 = nI c) (hc : c ≤ 7) (hf : fr + c ≤ 26) (hN : ∀ t, t < c → NM (S.2.2.2 1 t) (M.2.2.2 9 (fr + t))) : (∃ t M', t < c ∧ F_X5_needTurret R S = some (nI t, sI R 6 (nI (k + 1))) ∧ F_X12_takesName M (nI fr) (nI c) = some (nI 1, M') ∧ OKs (sI R 6 (nI (k + 1))) M' (k + 1) ∧ M'.1 18 = nI t ∧ FR [4, 11, 12, 13, 14, 18] [] [] M M') ∨ (∃ R' M', F_X5_needTurret R S = some (nO, R') ∧ F_X12_takesName M (nI fr) (nI c) = some (nI 0, M') ∧ FLT R' M' ∧ FR [4, 11, 12, 13, 14, 15, 16, 18] [] [] M M') := by
  rcases rd_lookT h hW h0 hc hf hN with ⟨t, ht, a1, a2, a3⟩ | ⟨R', M', a1, a2, a3, a4⟩
  · left
    obtain ⟨M', b1, b2, b3⟩ := rd_step (ok_sI (f := 18) (v := nI t) h (by omega)) a3
    refine ⟨t, M', ht, a1, ?_, b2, by rw [b3.1 18 (by decide)]; rfl, (FR.sI (by decide)).tr (b3.mono (by decide) (by decide) (by decide))⟩
    unfold F_X12_takesName
    rw [a2, pu_ob2N, if_neg one_ne, b1, pu_ob1N]
    rfl
  · right
    refine ⟨R', M', a1, ?_, a3, a4.mono (by decide) (by decide) (by decide)⟩
    unfold F_X12_takesName
    rw [a2, pu_ob2N, if_pos zero_eq]
    rfl
theorem rd_nameP {c fr : Nat} (h : OKs R M k) (hW : MW M) (h0 : S.1 7 = nI c) (hc : c ≤ 6) (hf : fr + c ≤ 26) (hN : ∀ t, t < c → NM (S.2.2.2 8 t) (M.2.2.2 9 (fr + t))) : (∃ t M', t < c ∧ F_X5_needPerson R S = some (nI t, sI R 6 (nI (k + 1))) ∧ F_X12_takesName M (nI fr) (nI c) = some (nI 1, M') ∧ OKs (sI R 6 (nI (k + 1))) M' (k + 1) ∧ M'.1 18 = nI t ∧ FR [4, 11, 12, 13, 14, 18] [] [] M M') ∨ (∃ R' M', F_X5_needPerson R S = some (nO, R') ∧ F_X12_takesName M (nI fr) (nI c) = some (nI 0, M') ∧ FLT R' M' ∧ FR [4, 11, 12, 13, 14, 15, 16, 18] [] [] M M') := by
  rcases rd_lookP h hW h0 hc hf hN with ⟨t, ht, -, a1, a2, a3⟩ | ⟨R', M', -, a1, a2, a3, a4⟩
  · left
    obtain ⟨M', b1, b2, b3⟩ := rd_step (ok_sI (f := 18) (v := nI t) h (by omega)) a3
    refine ⟨t, M', ht, a1, ?_, b2, by rw [b3.1 18 (by decide)]; rfl, (FR.sI (by decide)).tr (b3.mono (by decide) (by decide) (by decide))⟩
    unfold F_X12_takesName
    rw [a2, pu_ob2N, if_neg one_ne, b1, pu_ob1N]
    rfl
  · right
    refine ⟨R', M', a1, ?_, a3, a4.mono (by decide) (by decide) (by decide)⟩
    unfold F_X12_takesName
    rw [a2, pu_ob2N, if_pos zero_eq]
    rfl
theorem rd_plainW {j : Nat} (h : OKs R M k) (hj : j < 4) (a1 : F_X5_isWordFrom R 20 4 = some (nI 1)) (a2 : R.2.2.1 3 k = nI (20 + j)) : F_X5_needWordFrom R 20 4 = some (nI j, sI R 6 (nI (k + 1))) ∧ R.2.2.1 3 k ≠ nI 40 := by
  have hk := ok_k h
  have ne : R.2.2.1 3 k ≠ nI 40 := by rw [a2]; intro e; have := (nI_eq (by omega) (by omega)).mp e; omega
  refine ⟨?_, ne⟩
  have hc := rd_nextC h ne
  unfold F_X5_needWordFrom
  rw [a1, pu_ob1N, if_neg one_ne, h.2.1, if_neg (no_oob (i := k) (n := 901) (by omega) (by omega)), pu_clamp (by omega), a2, show nI (20 + j) - (20 : Int32) = nI j from by rw [show (20 : Int32) = nI 20 from rfl, pu_sub (by omega), Nat.add_sub_cancel_left], pu_nwN, hc, pu_ob1N]
/-- the class's plain line, behind its word -/
theorem rd_plainC {j : Nat} {R1 : St} (hG : G.1 4 = nI n) (hn : n < 40) (hj : j < 4) (h8 : R.1 8 = nI 0) (hw : F_X5_needWordFrom R 20 4 = some (nI j, R1)) (num : Bool) (hb : num = true ↔ j = 0 ∨ j = 3) {v : Int32} {R2 : St} (h1 : num = true → F_X5_needNumber R1 1 60 = some (v, R2)) (h2 : num = false → F_X5_needTurret R1 B = some (v, R2)) : F_X0_readLine_41 (-1) G R B = some (sI (sA (sA G 0 (nI n) (nI (20 + j))) 1 (nI n) v) 4 (nI (n + 1)), R2) := by
  have ho := no_oob (i := n) (n := 40) (by omega) (by omega)
  have hcp : (nI n).toNatClampNeg = n := pu_clamp (by omega)
  have h20 : (20 : Int32) + nI j = nI (20 + j) := nI_add 20 j
  have g0 : (sA G 0 (nI n) (nI (20 + j))).2.2.1 0 n = nI (20 + j) := by rw [pu_sAe (by omega), if_pos rfl]
  have e4 : (sA (sA G 0 (nI n) (nI (20 + j))) 1 (nI n) v).1 4 + 1 = nI (n + 1) := by show G.1 4 + 1 = _; rw [hG, nIs]
  have key : F_X0_readPlain G R B (nI n) = some (sA (sA G 0 (nI n) (nI (20 + j))) 1 (nI n) v, R2) := by
    unfold F_X0_readPlain F_X0_readPlain_38
    rw [hw, pu_ob2N, if_neg ho, h20, pu_nwN, if_neg ho, if_neg ho, hcp, g0]
    cases num with
    | true =>
      have hj := hb.mp rfl
      rw [if_neg (by rcases hj with rfl | rfl <;> decide), if_neg (by rcases hj with rfl | rfl <;> decide)]
      unfold F_X0_readPlain_43
      rw [if_pos rfl, h1 rfl, pu_ob2N, if_neg ho, pu_nwN]
    | false =>
      have hj' : j = 1 ∨ j = 2 := by
        have : ¬ (j = 0 ∨ j = 3) := fun e => by have := hb.mpr e; cases this
        omega
      have hT : F_X0_readPlain_43 (nI n) 1 (sA G 0 (nI n) (nI (20 + j))) R1 B = some (sA (sA G 0 (nI n) (nI (20 + j))) 1 (nI n) v, R2) := by
        unfold F_X0_readPlain_43
        rw [if_neg (by decide), h2 rfl, pu_ob2N, if_neg ho, pu_nwN]
      rcases hj' with rfl | rfl
      · rw [if_pos (by decide), hT]
      · rw [if_neg (by decide), if_pos (by decide), hT]
  unfold F_X0_readLine_41 F_X0_readLine_91
  rw [h8, if_pos zero_eq, if_pos rfl, hG, key, pu_ob2N, e4, pu_nwN]
theorem rd_plain {j : Nat} (h : OKs R M k) (hb : BK B M V) (hG : G.1 4 = nI n) (hn : n < 40) (hM : M.1 38 = nI n) (hj : j < 4) (a1 : F_X5_isWordFrom R 20 4 = some (nI 1)) (a2 : R.2.2.1 3 k = nI (20 + j)) : ∃ G' R' M' k' r, F_X0_readLine_41 (-1) G R B = some (G', R') ∧ F_X12_bookLine_87 (nI (4 * n)) (nI (3 + j)) M = some (r, M') ∧ BRES V G G' R' M M' k k' n r := by
  obtain ⟨w1, w2⟩ := rd_plainW h hj a1 a2
  obtain ⟨M1, b1, b2, b3⟩ := rd_step h w2
  generalize sI R 6 (nI (k + 1)) = R1 at w1 b2
  have ho0 := no_oob (i := 4 * n) (n := 160) (by omega) (by omega)
  have ho1 := no_oob (i := 4 * n + 1) (n := 160) (by omega) (by omega)
  have n38 : ¬ M.1 38 = (40 : Int32) := by rw [hM]; intro e; have := (nI_eq (b := 40) (by omega) (by omega)).mp e; omega
  have hx : ¬ nI (3 + j) ≤ (0 : Int32) := nI_ge (a := 0) (b := 3 + j) (by omega) (by omega)
  have h1 : nI (4 * n) + (1 : Int32) = nI (4 * n + 1) := nIs _
  have hO := ok_sA (f := 8) (i := nI (4 * n)) (v := nI (3 + j)) b2 (by omega)
  have hF1 : FR [4, 11, 12, 13, 14, 15, 16, 18] [8] [] M (sA M1 8 (nI (4 * n)) (nI (3 + j))) := (b3.mono (by decide) (by decide) (by decide)).tr (FR.sA (by decide))
  have hB1 := BK_fr hb hF1 (by decide) (by decide) (by decide)
  have hMO1 : MO M (sA M1 8 (nI (4 * n)) (nI (3 + j))) n := MO.sA (c := 0) (MO.rf.fr b3 (by decide)) (by omega)
  have r0 : (sA M1 8 (nI (4 * n)) (nI (3 + j))).2.2.1 8 (4 * n) = nI (3 + j) := by rw [pu_sAe (by omega), if_pos rfl]
  have q15 : (sA M1 8 (nI (4 * n)) (nI (3 + j))).1 15 = M.1 15 := b3.1 15 (by decide)
  generalize hM2 : sA M1 8 (nI (4 * n)) (nI (3 + j)) = M2 at hO hF1 hB1 hMO1 r0 q15
  have h87 : F_X12_bookLine_87 (nI (4 * n)) (nI (3 + j)) M = if nI (3 + j) = (3 : Int32) then F_X12_bookLine_133 (nI (4 * n)) M2 else if nI (3 + j) = (6 : Int32) then F_X12_bookLine_133 (nI (4 * n)) M2 else ob2 (F_X12_takesName M2 0 (nI (V 0))) fun r32 U33 => F_X12_bookLine_154 (nI (4 * n)) r32 U33 := by
    unfold F_X12_bookLine_87
    rw [if_neg n38, b1, pu_ob1N, if_neg hx, if_neg ho0, pu_nwN, hM2, if_neg (show ¬ oob (0 : Int32) 258 from no_oob (i := 0) (by omega) (by omega)), show M2.2.2.1 6 (0 : Int32).toNatClampNeg = nI (V 0) from hB1.2.2.2.2.1]
  have hend : ∀ (M3 : St) (r : Nat), r ≤ 1 → F_X12_bookLine_154 (nI (4 * n)) (nI r) M3 = some (nI r, sA M3 8 (nI (4 * n + 1)) (M3.1 18)) := by
    intro M3 r hr
    unfold F_X12_bookLine_154
    rw [h1, if_neg ho1, pu_nwN, if_neg (by rcases (show r = 0 ∨ r = 1 by omega) with rfl | rfl; exact nb0; exact nb1)]
  -- the end, once a value was taken
  have fin : ∀ (f : Nat) (R3 M3 : St), OKs R3 M3 (k + 1 + 1) → M3.1 18 = nI f → FR [4, 11, 12, 13, 14, 18] [] [] M2 M3 → (j = 0 ∨ j = 3 → f ≤ 60) → (j = 1 ∨ j = 2 → f < V 0) → BRES V G (sI (sA (sA G 0 (nI n) (nI (20 + j))) 1 (nI n) (nI f)) 4 (nI (n + 1))) R3 M (sA M3 8 (nI (4 * n + 1)) (M3.1 18)) k (k + 1 + 1) n (nI 1) := by
    intro f R3 M3 hO3 e18 hf p1 p2
    rw [e18]
    refine ⟨(hF1.tr (hf.mono (by decide) (by decide) (by decide))).tr (FR.sA (by decide)), Or.inl ⟨rfl, ok_sA hO3 (by omega), rfl, ⟨20 + j, f, 0, 0, by omega, by omega, ?_, ?_, ?_, ?_, fun e => by omega, fun e => by omega, fun e => by omega, fun e => p1 (by omega), fun e => p2 (by omega), fun e => p1 (by omega)⟩, ((GO.rf.sA hn).sA hn).sI, (hMO1.fr hf (by decide)).sA (by omega), ?_, by omega⟩⟩
    · show (sA (sA G 0 (nI n) (nI (20 + j))) 1 (nI n) (nI f)).2.2.1 0 n = _
      rw [pu_sAn (by omega), pu_sAe (by omega), if_pos rfl]
    · show (sA (sA G 0 (nI n) (nI (20 + j))) 1 (nI n) (nI f)).2.2.1 1 n = _
      rw [pu_sAe (by omega), if_pos rfl]
    · rw [pu_sAe (by omega), if_neg (by omega), hf.2.1 8 (by decide), r0, show 20 + j - 17 = 3 + j by omega]
    · rw [pu_sAe (by omega), if_pos rfl]
    · show M3.1 15 = _
      rw [hf.1 15 (by decide), q15]
  by_cases hjn : j = 0 ∨ j = 3
  · have h133 : F_X12_bookLine_87 (nI (4 * n)) (nI (3 + j)) M = F_X12_bookLine_133 (nI (4 * n)) M2 := by
      rw [h87]
      rcases hjn with rfl | rfl
      · rw [if_pos (by decide)]
      · rw [if_neg (by decide), if_pos (by decide)]
    rw [h133]
    unfold F_X12_bookLine_133
    rcases rd_num (lo := 1) (hi := 60) hO (by omega) (by omega) with ⟨v, M3, i1, i2, i3, i4, i5, i6, i7⟩ | ⟨R3, M3, i3, i4, i5, i7⟩
    · generalize sI R1 6 (nI (k + 1 + 1)) = R3 at i3 i5
      have i4 : F_X12_takes M2 1 60 = some (nI 1, M3) := i4
      refine ⟨_, R3, _, _, nI 1, rd_plainC hG hn hj h.2.2 w1 true ⟨fun _ => hjn, fun _ => rfl⟩ (fun _ => i3) (fun e => (by cases e)), ?_, fin v R3 M3 i5 i6 i7 (fun _ => i2) (fun e => (by omega))⟩
      rw [i4, pu_ob2N, hend M3 1 (by omega)]
    · have i4 : F_X12_takes M2 1 60 = some (nI 0, M3) := i4
      refine ⟨_, R3, _, k, nI 0, rd_plainC hG hn hj h.2.2 w1 true ⟨fun _ => hjn, fun _ => rfl⟩ (fun _ => i3) (fun e => (by cases e)), ?_, (hF1.tr (i7.mono (by decide) (by decide) (by decide))).tr (FR.sA (M := M3) (k := 8) (i := nI (4 * n + 1)) (v := M3.1 18) (by decide)), Or.inr ⟨rfl, i5⟩⟩
      rw [i4, pu_ob2N, hend M3 0 (by omega)]
  · have h133 : F_X12_bookLine_87 (nI (4 * n)) (nI (3 + j)) M = ob2 (F_X12_takesName M2 0 (nI (V 0))) fun r32 U33 => F_X12_bookLine_154 (nI (4 * n)) r32 U33 := by
      rw [h87]
      rcases (show j = 1 ∨ j = 2 by omega) with rfl | rfl
      · rw [if_neg (by decide), if_neg (by decide)]
      · rw [if_neg (by decide), if_neg (by decide)]
    rw [h133]
    have hnf : (false = true ↔ j = 0 ∨ j = 3) := ⟨fun e => (by cases e), fun e => absurd e hjn⟩
    rcases rd_nameT (c := V 0) (fr := 0) (S := B) hO hB1.2.2.2.2.2.2.2 hB1.1 hB1.2.2.1 (by have := hB1.2.2.1; omega) (fun t ht => by rw [Nat.zero_add]; exact hB1.2.2.2.2.2.2.1.1 t ht) with ⟨v, M3, i2, i3, i4, i5, i6, i7⟩ | ⟨R3, M3, i3, i4, i5, i7⟩
    · generalize sI R1 6 (nI (k + 1 + 1)) = R3 at i3 i5
      have i4 : F_X12_takesName M2 0 (nI (V 0)) = some (nI 1, M3) := i4
      refine ⟨_, R3, _, _, nI 1, rd_plainC hG hn hj h.2.2 w1 false hnf (fun e => (by cases e)) (fun _ => i3), ?_, fin v R3 M3 i5 i6 i7 (fun e => absurd e hjn) (fun _ => i2)⟩
      rw [i4, pu_ob2N, hend M3 1 (by omega)]
    · have i4 : F_X12_takesName M2 0 (nI (V 0)) = some (nI 0, M3) := i4
      refine ⟨_, R3, _, k, nI 0, rd_plainC hG hn hj h.2.2 w1 false hnf (fun e => (by cases e)) (fun _ => i3), ?_, (hF1.tr (i7.mono (by decide) (by decide) (by decide))).tr (FR.sA (M := M3) (k := 8) (i := nI (4 * n + 1)) (v := M3.1 18) (by decide)), Or.inr ⟨rfl, i5⟩⟩
      rw [i4, pu_ob2N, hend M3 0 (by omega)]
end P36
