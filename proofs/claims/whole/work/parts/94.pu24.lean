/-! tokens: the reference's, one at a time -/
def BYm (M : St) (b : Vt) (n lim : Nat) : Prop := n ≤ 940 ∧ (∀ i, b i < 256) ∧ lim ≤ 900 ∧ M.1 3 = nI n ∧ M.1 5 = nI lim ∧ ∀ i, i < n → M.2.2.1 1 i &&& nI 255 = nI (b i)
def TKm (M : St) (b : Vt) (n lim q : Nat) : Prop := (min n lim ≤ q → M.1 12 = nI (min n lim) ∧ M.1 11 = if lim < n then nI 4 else nI 0) ∧ (q < min n lim → M.1 12 = nI q ∧ M.1 4 = nI (nxt b n q) ∧ M.1 11 = nI (tkd b n q) ∧ (tkd b n q = 1 → M.2.1 17 = lN (r256 (lw b q (re b n q - q)))) ∧ (tkd b n q = 2 → M.1 14 = nI (nv b q (re b n q - q))) ∧ (tkd b n q = 3 → M.1 14 = nI (b q)))
theorem sI_sI (M : St) (k : Nat) (a c : Int32) : sI (sI M k a) k c = sI M k c := by
  show (va_up (va_up M.1 k a) k c, M.2) = (va_up M.1 k c, M.2)
  rw [bx_uu]
section P24
variable {R P M : St} {b : Vt} {n lim : Nat}
theorem x12_peek {p : Nat} (hB : BYm M b n lim) (h4 : M.1 4 = nI p) (hp : p ≤ n) : F_X12_peek M = some (if p < n then nI (b p) else nO) := by
  obtain ⟨h1, h2, h3, h5, h6, h7⟩ := hB
  unfold F_X12_peek
  by_cases h : p < n
  · have g := h7 p h
    rw [if_pos h]
    simp (disch := omega) only [↓pu_m1, pu_lit, ↓reduceIte, pu_leT, pu_leF, pu_ltT, pu_ltF, pu_eqT, pu_eqF, pu_eqO, pu_eqO2, pu_ltO, pu_leO, pu_subO, pu_subOF, pu_subT, pu_subF, pu_oobF, pu_clamp, pu_add, pu_sub, pu_mul, pu_and, pu_or, pu_xor, pu_xorO, pu_shl, pu_shr, pu_ushr, pu_nb0, pu_nb1, pu_ob1N, pu_ob2N, pu_ob3N, pu_ob4N, pu_nwN, pu_n1, pu_n7, pu_n31, pu_n255, pu_md, pu_one, pu_sI1, pu_sI2, pu_sA1, pu_sA21, pu_sA222, pu_sAe, pu_sAn, pu_sJ1, pu_sJ21, pu_sJ221, pu_sF1, pu_sF21, pu_sF222, pu_sFe, pu_sFn, pu_upe, pu_upn, Nat.reduceAdd, Nat.reduceSub, Nat.reduceMul, Nat.reduceMod, Nat.reduceAnd, Nat.reducePow, Nat.reduceEqDiff, Nat.add_zero, Nat.zero_add, Bool.false_eq_true, Nat.add_sub_cancel, h5, h4, g]
  · rw [if_neg h]
    simp (disch := omega) only [↓pu_m1, pu_lit, ↓reduceIte, pu_leT, pu_leF, pu_ltT, pu_ltF, pu_eqT, pu_eqF, pu_eqO, pu_eqO2, pu_ltO, pu_leO, pu_subO, pu_subOF, pu_subT, pu_subF, pu_oobF, pu_clamp, pu_add, pu_sub, pu_mul, pu_and, pu_or, pu_xor, pu_xorO, pu_shl, pu_shr, pu_ushr, pu_nb0, pu_nb1, pu_ob1N, pu_ob2N, pu_ob3N, pu_ob4N, pu_nwN, pu_n1, pu_n7, pu_n31, pu_n255, pu_md, pu_one, pu_sI1, pu_sI2, pu_sA1, pu_sA21, pu_sA222, pu_sAe, pu_sAn, pu_sJ1, pu_sJ21, pu_sJ221, pu_sF1, pu_sF21, pu_sF222, pu_sFe, pu_sFn, pu_upe, pu_upn, Nat.reduceAdd, Nat.reduceSub, Nat.reduceMul, Nat.reduceMod, Nat.reduceAnd, Nat.reducePow, Nat.reduceEqDiff, Nat.add_zero, Nat.zero_add, Bool.false_eq_true, Nat.add_sub_cancel, h5, h4]
theorem BYm_fr {M' : St} {ni na nl : List Nat} (hB : BYm M b n lim) (hf : FR ni na nl M M') (h3 : 3 ∉ ni) (h5 : 5 ∉ ni) (h1 : 1 ∉ na) : BYm M' b n lim := by
  obtain ⟨a1, a2, a3, a4, a5, a6⟩ := hB
  exact ⟨a1, a2, a3, by rw [hf.1 3 h3]; exact a4, by rw [hf.1 5 h5]; exact a5, fun i hi => by rw [hf.2.1 1 h1]; exact a6 i hi⟩
def alR (b : Vt) (q : Nat) : Nat → Bool
  | 0 => true
  | m + 1 => alR b q m && (sS (b (q + m)) == sS (b q))
theorem alR_iff {q : Nat} : ∀ m, alR b q m = true ↔ ∀ j, j < m → sS (b (q + j)) = sS (b q) := by
  intro m
  induction m with
  | zero => exact ⟨fun _ j hj => by omega, fun _ => rfl⟩
  | succ m ih =>
    simp only [alR, Bool.and_eq_true, beq_iff_eq, ih]
    constructor
    · intro ⟨h1, h2⟩ j hj
      by_cases e : j = m
      · rw [e]; exact h2
      · exact h1 j (by omega)
    · intro h
      exact ⟨fun j hj => h j (by omega), h m (by omega)⟩
theorem or_256 {w c : Nat} (hc : c < 256) : w * 256 ||| c = c + 256 * w := by
  have h := Nat.two_pow_add_eq_or_of_lt (i := 8) (b := c) hc w
  rw [show (2 : Nat) ^ 8 = 256 from rfl] at h
  rw [Nat.mul_comm w 256, ← h, Nat.add_comm]
theorem next_run {U : St} {q : Nat} (hB : BYm U b n lim) (h4 : U.1 4 = nI q) (h13 : U.1 13 = nI 0) (hq : q < n) (hr : sR (b q) = true) : ∃ M', F_X12_next_164 (nI (b q)) U = some M' ∧ M'.1 4 = nI (re b n q) ∧ M'.1 11 = nI (tkd b n q) ∧ (tkd b n q = 1 → M'.2.1 17 = lN (r256 (lw b q (re b n q - q)))) ∧ (tkd b n q = 2 → M'.1 14 = nI (nv b q (re b n q - q))) ∧ FR [4, 11, 13, 14] [] [] U M' := by
  obtain ⟨t1, t2, t3, t4, t5, t6⟩ := id hB
  obtain ⟨r1, r2⟩ := re_gt hq hr
  have key := lp_inv (body := fun kz z => F_X12_next_181 kz z.1 z.2.1 z.2.2) (fun m z => ∃ U', z = (nI (tn (sS (b q))), nI (tn (alR b q m)), U') ∧ U'.1 13 = nI m ∧ U'.1 4 = nI (q + m) ∧ FR [4, 11, 13, 14] [] [] U U' ∧ (ct b q m = m → m ≤ 7 → U'.2.1 17 = lN (r256 (lw b q m))) ∧ (ct b q m = 0 → m ≤ 3 → U'.1 14 = nI (nv b q m))) (re b n q - q) (fun M' => M'.1 4 = nI (re b n q) ∧ M'.1 11 = nI (tkd b n q) ∧ (tkd b n q = 1 → M'.2.1 17 = lN (r256 (lw b q (re b n q - q)))) ∧ (tkd b n q = 2 → M'.1 14 = nI (nv b q (re b n q - q))) ∧ FR [4, 11, 13, 14] [] [] U M') (fun m hm z hz => ?_) (fun z hz => ?_) (x0 := (nI (tn (sS (b q))), nI 1, sI (sL U 17 0) 14 (nI 0))) ⟨_, rfl, h13, by rw [Nat.add_zero]; exact h4, (FR.sL).tr (FR.sI (by decide)), fun _ _ => rfl, fun _ _ => rfl⟩ (pu_FU (by omega : re b n q - q < 1000000))
  · obtain ⟨M', h1, h2⟩ := key
    refine ⟨M', ?_, h1⟩
    unfold F_X12_next_164 L_X12_next_181
    rw [tab_small _ (t2 q), pu_ob1N, pu_nwN, pu_nwN]
    exact h2
  · obtain ⟨U', rfl, a1, a2, a3, a4, a5⟩ := hz
    have hB' : BYm U' b n lim := BYm_fr hB a3 (by decide) (by decide) (by decide)
    have hin := re_in (b := b) (n := n) (q := q) (j := q + m) (by omega) (by omega)
    have hpk := x12_peek hB' a2 (by omega)
    rw [if_pos (by omega)] at hpk
    have hb := t2 (q + m)
    have hsm := tab_small _ hb
    have hdg := tab_digit _ hb
    obtain ⟨u1, u2, u3, u4, u5, u6⟩ := tab_bl _ hb
    have hcl := ct_le b q m
    -- the state behind
    have hst : ∃ U2, (∀ k (s0 : Int32), F_X12_next_221 k (nI (tn (sS (b q)))) s0 U' = k (nI (tn (sS (b q))), s0, U2)) ∧ U2.1 13 = nI (m + 1) ∧ U2.1 4 = nI (q + m + 1) ∧ FR [4, 11, 13, 14] [] [] U U2 ∧ (ct b q (m + 1) = m + 1 → m + 1 ≤ 7 → U2.2.1 17 = lN (r256 (lw b q (m + 1)))) ∧ (ct b q (m + 1) = 0 → m + 1 ≤ 3 → U2.1 14 = nI (nv b q (m + 1))) := by
      have h275 : ∀ (X : St), X.1 13 = nI m → X.1 4 = nI (q + m) → ∀ k (x2 s0 : Int32), F_X12_next_275 k x2 s0 X = k (x2, s0, sI (sI X 13 (nI (m + 1))) 4 (nI (q + m + 1))) := by
        intro X e1 e2 k x2 s0
        unfold F_X12_next_275
        simp (disch := omega) only [↓pu_m1, pu_lit, ↓reduceIte, pu_leT, pu_leF, pu_ltT, pu_ltF, pu_eqT, pu_eqF, pu_eqO, pu_eqO2, pu_ltO, pu_leO, pu_subO, pu_subOF, pu_subT, pu_subF, pu_oobF, pu_clamp, pu_add, pu_sub, pu_mul, pu_and, pu_or, pu_xor, pu_xorO, pu_shl, pu_shr, pu_ushr, pu_nb0, pu_nb1, pu_ob1N, pu_ob2N, pu_ob3N, pu_ob4N, pu_nwN, pu_n1, pu_n7, pu_n31, pu_n255, pu_md, pu_one, pu_sI1, pu_sI2, pu_sA1, pu_sA21, pu_sA222, pu_sAe, pu_sAn, pu_sJ1, pu_sJ21, pu_sJ221, pu_sF1, pu_sF21, pu_sF222, pu_sFe, pu_sFn, pu_upe, pu_upn, Nat.reduceAdd, Nat.reduceSub, Nat.reduceMul, Nat.reduceMod, Nat.reduceAnd, Nat.reducePow, Nat.reduceEqDiff, Nat.add_zero, Nat.zero_add, Bool.false_eq_true, Nat.add_sub_cancel, e1, e2]
      have h248 : ∀ (X : St), BYm X b n lim → X.1 13 = nI m → X.1 4 = nI (q + m) → ∀ k (x2 s0 : Int32), F_X12_next_248 k x2 s0 X = if 3 ≤ m then k (x2, s0, sI (sI X 13 (nI (m + 1))) 4 (nI (q + m + 1))) else k (x2, s0, sI (sI (sI X 14 ((nI 10 * X.1 14 + nI (b (q + m))) - nI 48)) 13 (nI (m + 1))) 4 (nI (q + m + 1))) := by
        intro X hX e1 e2 k x2 s0
        have hpX := x12_peek hX e2 (by omega)
        rw [if_pos (by omega)] at hpX
        unfold F_X12_next_248
        by_cases h3 : 3 ≤ m
        · rw [if_pos h3, e1, if_pos (show (3 : Int32) ≤ nI m from nI_le (a := 3) (b := m) h3 (by omega)), h275 X e1 e2]
        · rw [if_neg h3, e1, if_neg (show ¬ (3 : Int32) ≤ nI m from nI_ge (a := m) (b := 3) (by omega) (by omega)), hpX, pu_ob1N, pu_nwN]
          exact h275 _ (by rw [pu_sI1, if_neg (by omega)]; exact e1) (by rw [pu_sI1, if_neg (by omega)]; exact e2) k x2 s0
      have hnum : ct b q (m + 1) = 0 → m + 1 ≤ 3 → ∀ X : St, X.1 14 = U'.1 14 → (nI 10 * X.1 14 + nI (b (q + m))) - nI 48 = nI (nv b q (m + 1)) := by
        intro h0 hm3 X eX
        have hn := (ct_none (m + 1)).mp h0
        have h5 := u5 hin (hn m (by omega))
        rw [eX, a5 ((ct_none m).mpr (fun j hj => hn j (by omega))) (by omega), pu_mul, pu_add, pu_sub (by omega)]
        simp only [nv]
        congr 1
        omega
      by_cases h7 : 7 ≤ m
      · refine ⟨sI (sI U' 13 (nI (m + 1))) 4 (nI (q + m + 1)), fun k s0 => ?_, rfl, rfl, (a3.tr (FR.sI (by decide))).tr (FR.sI (by decide)), fun _ h => by omega, fun _ h => by omega⟩
        unfold F_X12_next_221
        rw [a1, if_pos (show (7 : Int32) ≤ nI m from nI_le (a := 7) (b := m) h7 (by omega)), h248 U' hB' a1 a2, if_pos (by omega)]
      · have hword : ct b q (m + 1) = m + 1 → (U'.2.1 17 <<< ((8 : Int32).toInt64 &&& 63)) ||| (nI (b (q + m))).toInt64 = lN (r256 (lw b q (m + 1))) := by
          intro hc
          have hall := (ct_all (m + 1)).mp hc
          have hc' := (ct_all m).mpr (fun j hj => hall j (by omega))
          have h97 := u4 (hall m (by omega))
          have hlt := r256_lt (lw b q m) (lw_ok t2 hc')
          rw [lw_len] at hlt
          have hp6 : 256 ^ m ≤ 256 ^ 6 := Nat.pow_le_pow_right (by omega) (by omega)
          rw [a4 hc' (by omega), show (8 : Int32) = nI 8 from rfl, wb_shl _ (by omega), nI_l (by omega), wb_or (by show _ < 18446744073709551616; omega) (by show _ < 18446744073709551616; omega)]
          simp only [lw, r256]
          rw [show (2 : Nat) ^ 8 = 256 from rfl, or_256 hb, show b (q + m) - 96 + 96 = b (q + m) from by omega]
        by_cases h3 : 3 ≤ m
        · refine ⟨sI (sI (sL U' 17 ((U'.2.1 17 <<< ((8 : Int32).toInt64 &&& 63)) ||| (nI (b (q + m))).toInt64)) 13 (nI (m + 1))) 4 (nI (q + m + 1)), fun k s0 => ?_, rfl, rfl, ((a3.tr FR.sL).tr (FR.sI (by decide))).tr (FR.sI (by decide)), fun hc _ => hword hc, fun _ h => by omega⟩
          unfold F_X12_next_221
          rw [a1, if_neg (show ¬ (7 : Int32) ≤ nI m from nI_ge (a := m) (b := 7) (by omega) (by omega)), hpk, pu_ob1N, pu_nwN, h248 _ (BYm_fr hB' (FR.sL (ni := []) (na := []) (nl := [])) (by decide) (by decide) (by decide)) a1 a2, if_pos h3]
        · refine ⟨sI (sI (sI (sL U' 17 ((U'.2.1 17 <<< ((8 : Int32).toInt64 &&& 63)) ||| (nI (b (q + m))).toInt64)) 14 ((nI 10 * U'.1 14 + nI (b (q + m))) - nI 48)) 13 (nI (m + 1))) 4 (nI (q + m + 1)), fun k s0 => ?_, rfl, rfl, (((a3.tr FR.sL).tr (FR.sI (by decide))).tr (FR.sI (by decide))).tr (FR.sI (by decide)), fun hc _ => hword hc, fun h0 hm3 => hnum h0 hm3 U' rfl⟩
          unfold F_X12_next_221
          rw [a1, if_neg (show ¬ (7 : Int32) ≤ nI m from nI_ge (a := m) (b := 7) (by omega) (by omega)), hpk, pu_ob1N, pu_nwN, h248 _ (BYm_fr hB' (FR.sL (ni := []) (na := []) (nl := [])) (by decide) (by decide) (by decide)) a1 a2, if_neg h3]
          rfl
    obtain ⟨U2, s1, s2, s3, s4, s5, s6⟩ := hst
    have h201 : ∀ k, F_X12_next_201 k (nI (tn (sS (b q)))) (nI (tn (alR b q m))) U' = k (nI (tn (sS (b q))), nI (tn (alR b q (m + 1))), U2) := by
      intro k
      unfold F_X12_next_201 F_X12_next_220
      simp only [alR]
      cases hal : alR b q m with
      | false =>
        rw [if_pos (by decide), s1]
        rfl
      | true =>
        rw [if_neg (by decide), hpk, pu_ob1N, hsm, pu_ob1N]
        cases h1 : sS (b (q + m)) <;> cases h2 : sS (b q) <;> rw [h2] at s1
        · rw [if_pos rfl, s1]; rfl
        · rw [if_neg (by decide), s1]; rfl
        · rw [if_neg (by decide), s1]; rfl
        · rw [if_pos rfl, s1]; rfl
    refine ⟨(nI (tn (sS (b q))), nI (tn (alR b q (m + 1))), U2), ⟨U2, rfl, s2, s3, s4, s5, s6⟩, fun k => ?_⟩
    show F_X12_next_181 k (nI (tn (sS (b q)))) (nI (tn (alR b q m))) U' = _
    unfold F_X12_next_181
    rw [hpk, pu_ob1N, hsm, pu_ob1N]
    cases hs1 : sS (b (q + m)) with
    | true => rw [if_neg (by decide)]; exact h201 k
    | false =>
      have hd := (u5 hin hs1).2.2
      rw [hd] at hdg
      rw [if_pos (by decide), pu_ob1N, hdg, pu_ob1N, if_neg (by decide)]
      exact h201 k
  · obtain ⟨U', rfl, a1, a2, a3, a4, a5⟩ := hz
    rw [show q + (re b n q - q) = re b n q from by omega] at a2
    have hB' : BYm U' b n lim := BYm_fr hB a3 (by decide) (by decide) (by decide)
    have hpk := x12_peek hB' a2 (by omega)
    have hend : ∀ k, F_X12_next_181 k (nI (tn (sS (b q)))) (nI (tn (alR b q (re b n q - q)))) U' = if nI (tn (alR b q (re b n q - q))) = 0 then F_X12_next_320 U' else if nI (tn (sS (b q))) = 0 then F_X12_next_317 (nI (tn (sS (b q)))) (U'.1 13) 3 U' else F_X12_next_317 (nI (tn (sS (b q)))) (U'.1 13) 7 U' := by
      intro k
      unfold F_X12_next_181
      rw [hpk, pu_ob1N]
      by_cases hlt : re b n q < n
      · have he := re_end (b := b) (n := n) (q := q) hlt (by omega)
        obtain ⟨v1, v2⟩ := (tab_bl _ (t2 (re b n q))).2.2.1 he
        rw [if_pos hlt, tab_small _ (t2 _), v1, pu_ob1N, if_pos (by decide), pu_ob1N, tab_digit _ (t2 _), v2, pu_ob1N, if_pos (by decide)]
      · rw [if_neg hlt, tab_nO.1, pu_ob1N, if_pos (by decide), pu_ob1N, tab_nO.2, pu_ob1N, if_pos (by decide)]
    have hF : ∀ v, FR [4, 11, 13, 14] [] [] U (sI U' 11 v) := fun v => a3.tr (FR.sI (by decide))
    have hfin : ∀ t, tkd b n q = t → (t = 1 → ct b q (re b n q - q) = re b n q - q ∧ re b n q - q ≤ 7) → (t = 2 → ct b q (re b n q - q) = 0 ∧ re b n q - q ≤ 3) → (∀ k, F_X12_next_181 k (nI (tn (sS (b q)))) (nI (tn (alR b q (re b n q - q)))) U' = some (sI U' 11 (nI t))) → ∃ o, (o.1 4 = nI (re b n q) ∧ o.1 11 = nI (tkd b n q) ∧ (tkd b n q = 1 → o.2.1 17 = lN (r256 (lw b q (re b n q - q)))) ∧ (tkd b n q = 2 → o.1 14 = nI (nv b q (re b n q - q))) ∧ FR [4, 11, 13, 14] [] [] U o) ∧ ∀ k, F_X12_next_181 k (nI (tn (sS (b q)))) (nI (tn (alR b q (re b n q - q)))) U' = some o := by
      intro t ht h1 h2 h3
      refine ⟨sI U' 11 (nI t), ⟨a2, by rw [ht]; rfl, fun e => a4 (h1 (by omega)).1 (h1 (by omega)).2, fun e => a5 (h2 (by omega)).1 (h2 (by omega)).2, hF _⟩, h3⟩
    have hal := alR_iff (b := b) (q := q) (re b n q - q)
    have hcl := ct_le b q (re b n q - q)
    cases hA : alR b q (re b n q - q) with
    | false =>
      have hne : ¬ ∀ j, j < re b n q - q → sS (b (q + j)) = sS (b q) := fun h => by rw [hal.mpr h] at hA; cases hA
      have hk4 : tkd b n q = 4 := by
        unfold tkd
        rw [if_pos hr, if_neg, if_neg]
        · intro h
          have h2 := (ct_none _).mp h.1
          have hz := h2 0 (by omega)
          rw [Nat.add_zero] at hz
          exact hne (fun j hj => by rw [h2 j hj, hz])
        · intro h
          have h2 := (ct_all _).mp h.1
          have hz := h2 0 (by omega)
          rw [Nat.add_zero] at hz
          exact hne (fun j hj => by rw [h2 j hj, hz])
      rw [hA] at hfin
      refine hfin 4 hk4 (fun e => by omega) (fun e => by omega) (fun k => ?_)
      have := hend k
      rw [hA] at this
      rw [this, if_pos (by decide)]
      rfl
    | true =>
      have hall := hal.mp hA
      rw [hA] at hfin
      cases hs : sS (b q) with
      | true =>
        have hct : ct b q (re b n q - q) = re b n q - q := (ct_all _).mpr (fun j hj => by rw [hall j hj, hs])
        rw [hs] at hfin
        by_cases h7 : re b n q - q ≤ 7
        · have hk1 : tkd b n q = 1 := by unfold tkd; rw [if_pos hr, if_pos ⟨hct, h7⟩]
          refine hfin 1 hk1 (fun _ => ⟨hct, h7⟩) (fun e => by omega) (fun k => ?_)
          have := hend k
          rw [hA, hs] at this
          rw [this, if_neg (by decide), if_neg (by decide), a1]
          unfold F_X12_next_317
          rw [if_pos (show nI (re b n q - q) ≤ (7 : Int32) from nI_le (a := re b n q - q) (b := 7) h7 (by omega)), if_neg (by decide)]
          rfl
        · have hk4 : tkd b n q = 4 := by
            unfold tkd
            rw [if_pos hr, if_neg (fun h => h7 h.2), if_neg (fun h => by omega)]
          refine hfin 4 hk4 (fun e => by omega) (fun e => by omega) (fun k => ?_)
          have := hend k
          rw [hA, hs] at this
          rw [this, if_neg (by decide), if_neg (by decide), a1]
          unfold F_X12_next_317
          rw [if_neg (show ¬ nI (re b n q - q) ≤ (7 : Int32) from nI_ge (a := 7) (b := re b n q - q) (by omega) (by omega))]
          rfl
      | false =>
        have hct : ct b q (re b n q - q) = 0 := (ct_none _).mpr (fun j hj => by rw [hall j hj, hs])
        rw [hs] at hfin
        by_cases h3 : re b n q - q ≤ 3
        · have hk2 : tkd b n q = 2 := by unfold tkd; rw [if_pos hr, if_neg (fun h => by omega), if_pos ⟨hct, h3⟩]
          refine hfin 2 hk2 (fun e => by omega) (fun _ => ⟨hct, h3⟩) (fun k => ?_)
          have := hend k
          rw [hA, hs] at this
          rw [this, if_neg (by decide), if_pos (by decide), a1]
          unfold F_X12_next_317
          rw [if_pos (show nI (re b n q - q) ≤ (3 : Int32) from nI_le (a := re b n q - q) (b := 3) h3 (by omega)), if_pos (by decide)]
          rfl
        · have hk4 : tkd b n q = 4 := by
            unfold tkd
            rw [if_pos hr, if_neg (fun h => by omega), if_neg (fun h => h3 h.2)]
          refine hfin 4 hk4 (fun e => by omega) (fun e => by omega) (fun k => ?_)
          have := hend k
          rw [hA, hs] at this
          rw [this, if_neg (by decide), if_pos (by decide), a1]
          unfold F_X12_next_317
          rw [if_neg (show ¬ nI (re b n q - q) ≤ (3 : Int32) from nI_ge (a := 3) (b := re b n q - q) (by omega) (by omega))]
          rfl
end P24
