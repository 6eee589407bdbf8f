/-! tokens: both sides in step -/
section P25
variable {R P M : St} {b : Vt} {n lim k : Nat}
theorem next_80 {U : St} {q : Nat} (hB : BYm U b n lim) (h4 : U.1 4 = nI q) (h12 : U.1 12 = nI q) (h13 : U.1 13 = nI 0) (hq : q < n) : ∃ M', F_X12_next_80 U = some M' ∧ M'.1 12 = nI q ∧ M'.1 4 = nI (nxt b n q) ∧ M'.1 11 = nI (tkd b n q) ∧ (tkd b n q = 1 → M'.2.1 17 = lN (r256 (lw b q (re b n q - q)))) ∧ (tkd b n q = 2 → M'.1 14 = nI (nv b q (re b n q - q))) ∧ (tkd b n q = 3 → M'.1 14 = nI (b q)) ∧ FR [4, 11, 13, 14] [] [] U M' := by
  have t2 := hB.2.1
  have hb := t2 q
  have hn := hB.1
  have hpk := x12_peek hB h4 (by omega)
  rw [if_pos hq] at hpk
  obtain ⟨u1, u2, u3, u4, u5, u6⟩ := tab_bl _ hb
  unfold F_X12_next_80
  rw [hpk, pu_ob1N, if_pos (nI_pos' (by omega)), tab_small _ hb, pu_ob1N]
  cases hr : sR (b q) with
  | true =>
    obtain ⟨M', a1, a2, a3, a4, a5, a6⟩ := next_run hB h4 h13 hq hr
    have hk3 : tkd b n q ≠ 3 := by
      unfold tkd
      rw [if_pos hr]
      repeat' split
      all_goals omega
    refine ⟨M', ?_, by rw [a6.1 12 (by decide)]; exact h12, by unfold nxt; rw [if_pos hr]; exact a2, a3, a4, a5, fun e => absurd e hk3, a6⟩
    cases hs : sS (b q) with
    | true => rw [if_neg (by decide)]; exact a1
    | false =>
      have hd := (u5 hr hs).2.2
      rw [if_pos (by decide), tab_digit _ hb, hd, pu_ob1N, if_neg (by decide)]
      exact a1
  | false =>
    obtain ⟨v1, v2⟩ := u3 hr
    have hnx : nxt b n q = q + 1 := by unfold nxt; rw [if_neg (by rw [hr]; exact Bool.false_ne_true)]
    rw [v1, if_pos (by decide), tab_digit _ hb, v2, pu_ob1N, if_pos (by decide)]
    have h145 : ∀ s1 : Int32, F_X12_next_145 (nI (b q)) s1 U = some (sI (sI (sI U 11 s1) 14 (nI (b q))) 4 (nI (q + 1))) := by
      intro s1
      unfold F_X12_next_145
      simp (disch := omega) only [↓pu_m1, pu_lit, ↓reduceIte, pu_leT, pu_leF, pu_ltT, pu_ltF, pu_eqT, pu_eqF, pu_eqO, pu_eqO2, pu_ltO, pu_leO, pu_subO, pu_subOF, pu_subT, pu_subF, pu_oobF, pu_clamp, pu_add, pu_sub, pu_mul, pu_and, pu_or, pu_xor, pu_xorO, pu_shl, pu_shr, pu_ushr, pu_nb0, pu_nb1, pu_ob1N, pu_ob2N, pu_ob3N, pu_ob4N, pu_nwN, pu_n1, pu_n7, pu_n31, pu_n255, pu_md, pu_one, pu_sI1, pu_sI2, pu_sA1, pu_sA21, pu_sA222, pu_sAe, pu_sAn, pu_sJ1, pu_sJ21, pu_sJ221, pu_sF1, pu_sF21, pu_sF222, pu_sFe, pu_sFn, pu_upe, pu_upn, Nat.reduceAdd, Nat.reduceSub, Nat.reduceMul, Nat.reduceMod, Nat.reduceAnd, Nat.reducePow, Nat.reduceEqDiff, Nat.add_zero, Nat.zero_add, Bool.false_eq_true, Nat.add_sub_cancel, h4]
    have hF : ∀ s1 : Int32, FR [4, 11, 13, 14] [] [] U (sI (sI (sI U 11 s1) 14 (nI (b q))) 4 (nI (q + 1))) := fun s1 => ((FR.sI (by decide)).tr (FR.sI (by decide))).tr (FR.sI (by decide))
    have hfin : ∀ t, tkd b n q = t → (t = 3 ∨ t = 4) → ∃ M', some (sI (sI (sI U 11 (nI t)) 14 (nI (b q))) 4 (nI (q + 1))) = some M' ∧ M'.1 12 = nI q ∧ M'.1 4 = nI (nxt b n q) ∧ M'.1 11 = nI (tkd b n q) ∧ (tkd b n q = 1 → M'.2.1 17 = lN (r256 (lw b q (re b n q - q)))) ∧ (tkd b n q = 2 → M'.1 14 = nI (nv b q (re b n q - q))) ∧ (tkd b n q = 3 → M'.1 14 = nI (b q)) ∧ FR [4, 11, 13, 14] [] [] U M' := by
      intro t ht h34
      exact ⟨_, rfl, h12, by rw [hnx]; rfl, by rw [ht]; rfl, fun e => by omega, fun e => by omega, fun _ => rfl, hF _⟩
    unfold F_X12_next_140 F_X12_next_144
    rw [h145, h145]
    cases hm : sM (b q) with
    | true =>
      have hk3 : tkd b n q = 3 := by unfold tkd; rw [if_neg (by rw [hr]; exact Bool.false_ne_true), if_pos hm]
      have hc : b q = 59 ∨ b q = 40 ∨ b q = 41 ∨ b q = 60 ∨ b q = 61 ∨ b q = 62 := by
        unfold sM at hm
        simp only [Bool.or_eq_true, beq_iff_eq] at hm
        omega
      have := hfin 3 hk3 (Or.inl rfl)
      rcases hc with e | e | e | e | e | e
      all_goals
        rw [e] at this ⊢
        exact this
    | false =>
      have hk4 : tkd b n q = 4 := by unfold tkd; rw [if_neg (by rw [hr]; exact Bool.false_ne_true), if_neg (by rw [hm]; exact Bool.false_ne_true)]
      have hc : b q ≠ 59 ∧ b q ≠ 40 ∧ b q ≠ 41 ∧ b q ≠ 60 ∧ b q ≠ 61 ∧ b q ≠ 62 := by
        unfold sM at hm
        simp only [Bool.or_eq_false_iff, beq_eq_false_iff_ne] at hm
        omega
      have := hfin 4 hk4 (Or.inr rfl)
      rw [if_neg (show ¬ nI (b q) = (59 : Int32) from fun e => hc.1 ((nI_eq (b := 59) (by omega) (by omega)).mp e)), if_neg (show ¬ nI (b q) = (40 : Int32) from fun e => hc.2.1 ((nI_eq (b := 40) (by omega) (by omega)).mp e)), if_neg (show ¬ nI (b q) = (41 : Int32) from fun e => hc.2.2.1 ((nI_eq (b := 41) (by omega) (by omega)).mp e))]
      by_cases h60 : b q < 60
      · rw [if_pos (show nI (b q) < (60 : Int32) from nI_lt (a := b q) (b := 60) h60 (by omega))]
        exact this
      · rw [if_neg (show ¬ nI (b q) < (60 : Int32) from nI_nlt (a := b q) (b := 60) (by omega) (by omega)), if_pos (show (62 : Int32) < nI (b q) from nI_lt (a := 62) (b := b q) (by omega) (by omega))]
        exact this
theorem x12_next {p : Nat} (hB : BYm M b n lim) (h4 : M.1 4 = nI p) (hp : p ≤ n) : ∃ M', F_X12_next M = some M' ∧ TKm M' b n lim (sk b n p) ∧ FR [4, 11, 12, 13, 14] [] [] M M' := by
  obtain ⟨t1, t2, t3, t4, t5, t6⟩ := id hB
  have hq1 := sk_le (b := b) (n := n) (p := p)
  have hq2 := sk_le2 (b := b) hp
  have hnb := sk_nb (b := b) (n := n) (p := p)
  have hBq : ∀ x, BYm (sI M 4 x) b n lim := fun x => BYm_fr hB (FR.sI (ni := [4]) (na := []) (nl := []) (by decide)) (by decide) (by decide) (by decide)
  generalize hqd : sk b n p = q at *
  have hBU : BYm (sI (sI (sI M 4 (nI q)) 12 (nI q)) 13 (nI 0)) b n lim := BYm_fr (hBq (nI q)) ((FR.sI (ni := [12, 13]) (na := []) (nl := []) (by decide)).tr (FR.sI (by decide))) (by decide) (by decide) (by decide)
  have hFU : FR [4, 11, 12, 13, 14] [] [] M (sI (sI (sI M 4 (nI q)) 12 (nI q)) 13 (nI 0)) := ((FR.sI (by decide)).tr (FR.sI (by decide))).tr (FR.sI (by decide))
  have hend : ∀ kk, F_X12_next_0 kk (sI M 4 (nI q)) = if n ≤ lim then F_X12_next_80 (sI (sI (sI M 4 (nI q)) 12 (nI q)) 13 (nI 0)) else if q < lim then F_X12_next_80 (sI (sI (sI M 4 (nI q)) 12 (nI q)) 13 (nI 0)) else some (sI (sI (sI (sI (sI M 4 (nI q)) 12 (nI q)) 13 (nI 0)) 12 (nI lim)) 11 (nI 4)) := by
    intro kk
    have hpk := x12_peek (hBq (nI q)) (p := q) rfl (by omega)
    have hne : ∀ c : Nat, (c = 32 ∨ c = 10) → ¬ (if q < n then nI (b q) else nO) = nI c := by
      intro c hc
      by_cases hlt : q < n
      · rw [if_pos hlt]
        intro e
        have hbq := t2 q
        have e2 := (nI_eq (by omega) (by omega)).mp e
        have := (tab_bl _ hbq).1.mpr (by omega)
        rw [hnb hlt] at this
        cases this
      · rw [if_neg hlt]
        intro e
        rcases hc with rfl | rfl <;> exact absurd e (by decide)
    unfold F_X12_next_0
    rw [hpk, pu_ob1N, if_neg (show ¬ (if q < n then nI (b q) else nO) = (32 : Int32) from hne 32 (Or.inl rfl)), pu_ob1N, if_neg (show ¬ (if q < n then nI (b q) else nO) = (10 : Int32) from hne 10 (Or.inr rfl)), pu_nwN, pu_nwN]
    show (if M.1 3 ≤ M.1 5 then F_X12_next_80 (sI (sI (sI M 4 (nI q)) 12 (nI q)) 13 (nI 0)) else if nI q < M.1 5 then F_X12_next_80 (sI (sI (sI M 4 (nI q)) 12 (nI q)) 13 (nI 0)) else nw (sI (sI (sI (sI M 4 (nI q)) 12 (nI q)) 13 (nI 0)) 12 (M.1 5)) fun U13 => nw (sI U13 11 (4 : Int32)) fun U15 => some U15) = _
    rw [t4, t5]
    by_cases h1 : n ≤ lim
    · rw [if_pos h1, if_pos (nI_le h1 (by omega))]
    · rw [if_neg h1, if_neg (nI_ge (by omega) (by omega))]
      by_cases h2 : q < lim
      · rw [if_pos h2, if_pos (nI_lt h2 (by omega))]
      · rw [if_neg h2, if_neg (nI_nlt (by omega) (by omega)), pu_nwN, pu_nwN]
        rfl
  have hloop : F_X12_next M = F_X12_next_0 (fun _ => none) (sI M 4 (nI q)) := by
    unfold F_X12_next L_X12_next_0
    have key := lp_upO (body := fun kz z => F_X12_next_0 kz z) (fun j => sI M 4 (nI (p + j))) (q - p) (o := F_X12_next_0 (fun _ => none) (sI M 4 (nI q))) (fun j hj kk => ?_) (fun kk => ?_) (pu_FU (by omega : q - p < 1000000))
    · rw [Nat.add_zero, ← h4, sI_same] at key
      exact key
    · have hbl : sB (b (p + j)) = true := by
        have h := fs_no (fun i => !sB (b i)) (n - p) p (p + j) (by omega) (by show p + j < sk b n p; omega)
        cases hc : sB (b (p + j)) with
        | true => rfl
        | false => rw [hc] at h; cases h
      have hpk := x12_peek (hBq (nI (p + j))) (p := p + j) rfl (by omega)
      rw [if_pos (by omega)] at hpk
      have h18 : F_X12_next_18 kk (sI M 4 (nI (p + j))) = kk (sI M 4 (nI (p + (j + 1)))) := by
        unfold F_X12_next_18
        rw [pu_nwN]
        show kk (sI (sI M 4 (nI (p + j))) 4 (nI (p + j) + 1)) = _
        rw [nI_1, sI_sI]
        rfl
      show F_X12_next_0 kk (sI M 4 (nI (p + j))) = _
      unfold F_X12_next_0
      rw [hpk, pu_ob1N]
      rcases (tab_bl _ (t2 (p + j))).1.mp hbl with e | e
      · rw [e, if_pos (show nI 32 = (32 : Int32) from rfl)]
        exact h18
      · rw [e, if_neg (show ¬ nI 10 = (32 : Int32) from by decide), pu_ob1N, if_pos (show nI 10 = (10 : Int32) from rfl)]
        exact h18
    · show F_X12_next_0 kk (sI M 4 (nI (p + (q - p)))) = _
      rw [show p + (q - p) = q from by omega, hend kk, hend]
  rw [hloop, hend]
  by_cases hlive : q < min n lim
  · have hql : q < n := by omega
    obtain ⟨M', a1, a2, a3, a4, a5, a6, a7, a8⟩ := next_80 hBU (q := q) rfl rfl rfl hql
    refine ⟨M', ?_, ⟨fun h => by omega, fun _ => ⟨a2, a3, a4, a5, a6, a7⟩⟩, hFU.tr (a8.mono (by decide) (by decide) (by decide))⟩
    by_cases h1 : n ≤ lim
    · rw [if_pos h1]; exact a1
    · rw [if_neg h1, if_pos (by omega)]; exact a1
  · by_cases h1 : n ≤ lim
    · have hqn : q = n := by omega
      refine ⟨sI (sI (sI (sI M 4 (nI q)) 12 (nI q)) 13 (nI 0)) 11 (nI 0), ?_, ⟨fun _ => ⟨?_, ?_⟩, fun h => by omega⟩, hFU.tr (FR.sI (by decide))⟩
      · rw [if_pos h1]
        have hpk := x12_peek hBU (p := q) rfl (by omega)
        rw [if_neg (by omega)] at hpk
        unfold F_X12_next_80
        rw [hpk, pu_ob1N, if_neg (by decide)]
        rfl
      · show nI q = _
        rw [hqn, Nat.min_eq_left h1]
      · rw [if_neg (by omega)]; rfl
    · refine ⟨sI (sI (sI (sI (sI M 4 (nI q)) 12 (nI q)) 13 (nI 0)) 12 (nI lim)) 11 (nI 4), ?_, ⟨fun _ => ⟨?_, ?_⟩, fun h => by omega⟩, (hFU.tr (FR.sI (by decide))).tr (FR.sI (by decide))⟩
      · rw [if_neg h1, if_neg (by omega)]
      · show nI lim = _
        rw [Nat.min_eq_right (by omega)]
      · rw [if_pos (by omega)]; rfl
/-! where both sides stand -/
def RDk (R M : St) (k : Nat) : Prop := ∃ b n lim, BYm M b n lim ∧ CLS R b n lim ∧ (∀ j, j < k → tq b n j < min n lim) ∧ TKm M b n lim (tq b n k)
theorem rd_tok (h : RDk R M k) : k ≤ 900 ∧ (∃ a, a ≤ 940 ∧ R.2.2.1 2 k = nI a ∧ M.1 12 = nI a) ∧ ((∃ l, OKl l ∧ R.2.2.1 3 k = nI (wsort l) ∧ R.2.2.2 4 k = lN (r32 l) ∧ M.1 11 = nI 1 ∧ M.2.1 17 = lN (r256 l)) ∨ (∃ v, v ≤ 999 ∧ R.2.2.1 3 k = nI 37 ∧ R.2.2.2 4 k = lN v ∧ M.1 11 = nI 2 ∧ M.1 14 = nI v) ∨ (∃ c, c < 256 ∧ R.2.2.1 3 k = nI 38 ∧ R.2.2.2 4 k = lN c ∧ M.1 11 = nI 3 ∧ M.1 14 = nI c) ∨ (R.2.2.1 3 k = nI 39 ∧ M.1 11 = nI 4) ∨ (R.2.2.1 3 k = nI 40 ∧ ((R.1 7 = nI 0 ∧ M.1 11 = nI 0) ∨ (R.1 7 = nI 1 ∧ M.1 11 = nI 4)))) := by
  obtain ⟨b, n, lim, hB, ⟨c0, hC⟩, hl, t1, t2⟩ := h
  obtain ⟨c1, c2, c3⟩ := hC k hl
  have hn := hB.1
  have hb := hB.2.1
  by_cases hlive : tq b n k < min n lim
  · obtain ⟨e1, e2, e3, e4, e5⟩ := c2 hlive
    obtain ⟨d1, d2, d3, d4, d5, d6⟩ := t2 hlive
    refine ⟨c1, ⟨tq b n k, by omega, e1, d1⟩, ?_⟩
    have hcase : tkd b n (tq b n k) = 1 ∨ tkd b n (tq b n k) = 2 ∨ tkd b n (tq b n k) = 3 ∨ tkd b n (tq b n k) = 4 := by
      unfold tkd
      repeat' split
      all_goals omega
    rcases hcase with e | e | e | e
    · left
      have hr : sR (b (tq b n k)) = true ∧ ct b (tq b n k) (re b n (tq b n k) - tq b n k) = re b n (tq b n k) - tq b n k ∧ re b n (tq b n k) - tq b n k ≤ 7 := by
        unfold tkd at e
        by_cases h1 : sR (b (tq b n k)) = true
        · rw [if_pos h1] at e
          by_cases h2 : ct b (tq b n k) (re b n (tq b n k) - tq b n k) = re b n (tq b n k) - tq b n k ∧ re b n (tq b n k) - tq b n k ≤ 7
          · exact ⟨h1, h2⟩
          · rw [if_neg h2] at e
            split at e <;> omega
        · rw [if_neg h1] at e
          split at e <;> omega
      rw [e] at d3
      exact ⟨lw b (tq b n k) (re b n (tq b n k) - tq b n k), ⟨by rw [lw_len]; exact hr.2.2, lw_ok hb hr.2.1⟩, (e2 e).1, (e2 e).2, d3, d4 e⟩
    · right; left
      have hr : sR (b (tq b n k)) = true ∧ ct b (tq b n k) (re b n (tq b n k) - tq b n k) = 0 ∧ re b n (tq b n k) - tq b n k ≤ 3 := by
        unfold tkd at e
        by_cases h1 : sR (b (tq b n k)) = true
        · rw [if_pos h1] at e
          by_cases h2 : ct b (tq b n k) (re b n (tq b n k) - tq b n k) = re b n (tq b n k) - tq b n k ∧ re b n (tq b n k) - tq b n k ≤ 7
          · rw [if_pos h2] at e; omega
          · rw [if_neg h2] at e
            by_cases h3 : ct b (tq b n k) (re b n (tq b n k) - tq b n k) = 0 ∧ re b n (tq b n k) - tq b n k ≤ 3
            · exact ⟨h1, h3⟩
            · rw [if_neg h3] at e; omega
        · rw [if_neg h1] at e
          split at e <;> omega
      have hv := nv_lt (b := b) (q := tq b n k) (re b n (tq b n k) - tq b n k) (fun j hj => by
        have hin := re_in (b := b) (n := n) (q := tq b n k) (j := tq b n k + j) (by omega) (by omega)
        have hns := (ct_none _).mp hr.2.1 j hj
        have := (tab_bl _ (hb (tq b n k + j))).2.2.2.2.1 hin hns
        exact ⟨this.1, this.2.1⟩)
      have hp3 : 10 ^ (re b n (tq b n k) - tq b n k) ≤ 10 ^ 3 := Nat.pow_le_pow_right (by omega) hr.2.2
      rw [e] at d3
      exact ⟨_, by omega, (e3 e).1, (e3 e).2, d3, d5 e⟩
    · right; right; left
      rw [e] at d3
      exact ⟨b (tq b n k), hb _, (e4 e).1, (e4 e).2, d3, d6 e⟩
    · right; right; right; left
      rw [e] at d3
      exact ⟨e5 e, d3⟩
  · obtain ⟨e1, e2⟩ := c3 (by omega)
    obtain ⟨d1, d2⟩ := t1 (by omega)
    refine ⟨c1, ⟨min n lim, by omega, e1, d1⟩, Or.inr (Or.inr (Or.inr (Or.inr ⟨e2, ?_⟩)))⟩
    by_cases h : lim < n
    · rw [if_pos h] at c0 d2; exact Or.inr ⟨c0, d2⟩
    · rw [if_neg h] at c0 d2; exact Or.inl ⟨c0, d2⟩
theorem ps_le {b : Vt} {n : Nat} : ∀ k, ps b n k ≤ n ∨ n ≤ tq b n (k - 1) := by
  intro k
  cases k with
  | zero => exact Or.inl (Nat.zero_le _)
  | succ k =>
    by_cases h : tq b n k < n
    · left
      show nxt b n (tq b n k) ≤ n
      unfold nxt
      split
      · rename_i hr
        exact (re_gt h hr).2
      · omega
    · right
      rw [Nat.add_sub_cancel]; omega
theorem rd_next (h : RDk R M k) (hne : R.2.2.1 3 k ≠ nI 40) : ∃ M', F_X12_next M = some M' ∧ RDk R M' (k + 1) ∧ FR [4, 11, 12, 13, 14] [] [] M M' := by
  obtain ⟨b, n, lim, hB, ⟨c0, hC⟩, hl, t1, t2⟩ := h
  obtain ⟨c1, c2, c3⟩ := hC k hl
  have hlive : tq b n k < min n lim := Nat.lt_of_not_le (fun hge => hne (c3 hge).2)
  obtain ⟨d1, d2, -⟩ := t2 hlive
  have hpn : ps b n (k + 1) ≤ n := by
    rcases ps_le (b := b) (n := n) (k + 1) with h | h
    · exact h
    · rw [Nat.add_sub_cancel] at h; omega
  obtain ⟨M', a1, a2, a3⟩ := x12_next (p := ps b n (k + 1)) hB d2 hpn
  refine ⟨M', a1, ⟨b, n, lim, BYm_fr hB a3 (by decide) (by decide) (by decide), ⟨c0, hC⟩, fun j hj => ?_, a2⟩, a3⟩
  by_cases e : j = k
  · rw [e]; exact hlive
  · exact hl j (by omega)
theorem rd_M {M' : St} {ni na nl : List Nat} (h : RDk R M k) (hf : FR ni na nl M M') (h17 : M'.2.1 17 = M.2.1 17) (h3 : 3 ∉ ni) (h4 : 4 ∉ ni) (h5 : 5 ∉ ni) (h11 : 11 ∉ ni) (h12 : 12 ∉ ni) (h14 : 14 ∉ ni) (h1 : 1 ∉ na) : RDk R M' k := by
  obtain ⟨b, n, lim, hB, hC, hl, t1, t2⟩ := h
  refine ⟨b, n, lim, BYm_fr hB hf h3 h5 h1, hC, hl, fun hge => ?_, fun hlt => ?_⟩
  · rw [hf.1 12 h12, hf.1 11 h11]; exact t1 hge
  · rw [hf.1 12 h12, hf.1 11 h11, hf.1 4 h4, hf.1 14 h14, h17]; exact t2 hlt
theorem rd_R {R' : St} (h : RDk R M k) (h7 : R'.1 7 = R.1 7) (h2 : R'.2 = R.2) : RDk R' M k := by
  obtain ⟨b, n, lim, hB, ⟨c0, hC⟩, hl, ht⟩ := h
  refine ⟨b, n, lim, hB, ⟨by rw [h7]; exact c0, fun j hj => ?_⟩, hl, ht⟩
  obtain ⟨a1, a2, a3⟩ := hC j hj
  refine ⟨a1, fun hlt => ENT_keep (a2 hlt) ⟨by rw [h2], by rw [h2], by rw [h2]⟩, fun hge => by rw [h2]; exact a3 hge⟩
end P25
