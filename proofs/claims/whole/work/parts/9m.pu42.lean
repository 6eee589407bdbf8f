/-! a book told: both sides, as a whole -/
section P42
variable {R M S P B N H T X G : St} {K : KSt} {V : Vt} {k n : Nat}
theorem LR_8 {M' : St} {j : Nat} (h : LR V G M j) (g8 : M'.2.2.1 8 = M.2.2.1 8) : LR V G M' j := by
  obtain ⟨a, f, s, v, l1, l2, l3, l4, l5, l6, l7, l8, l9, l10, l11, l12⟩ := h
  exact ⟨a, f, s, v, l1, l2, l3, l4, by rw [g8]; exact l5, by rw [g8]; exact l6, fun e => by rw [g8]; exact l7 e, l8, fun e => by rw [g8]; exact l9 e, l10, l11, l12⟩
/-- the book lived, the reading behind -/
theorem bk_lived {x1 : Int32} (hx : x1 = nI 0 ∨ x1 = nI 1) (hn : n ≤ 40) (hG : G.1 4 = nI n) (hM38 : M.1 38 = nI n) (hL : ∀ j, j < n → LR V G M j) (hS : RS B V) (hM : RM M V) (hw : WF V) (hH : HR B H K M V) : ∃ r T' H' K' B' M' V', (x1 = nI 0 → ∃ X', F_X11_judge T G B = some (r, T', X') ∧ H' = H ∧ K' = K ∧ B' = B) ∧ (x1 = nI 1 → ∃ r', F_X2_open H K B = some K' ∧ F_X11_judge T G B = some (r, T', B') ∧ F_X11_settleMany T' H (T'.2.2.1 14 (1 : Int32).toNatClampNeg) = some (r', H')) ∧ (ob1 (F_X12_tries M) fun U3 => L_X12_book_89 x1 0 U3) = some (r, M') ∧ RTo T' M' ∧ FR [] [14] [] T T' ∧ RS B' V' ∧ RM M' V' ∧ WF V' ∧ B'.2.2.2 = B.2.2.2 ∧ SV V V' ∧ (∀ k, 77 ≤ k → M'.2.2.1 6 k = M.2.2.1 6 k) ∧ HR B' H' K' M' V' ∧ FR [22, 40] [6, 20, 21, 39] [] M M' := by
  have ht := x12_tries (M := M)
  generalize hM7 : sF M 21 (cpR (M.2.2.1 21) 0 (fun j => M.2.2.1 6 (42 + j)) 35) = M7 at ht
  have hF7 : FR [] [21] [] M M7 := by rw [← hM7]; exact FR.sF (by decide)
  have t7 : TB21 M7 V := fun j hj => by
    rw [← hM7, pu_sFe, cpR_in (by omega) (by omega), Nat.sub_zero]
    exact hM (42 + j) (by omega)
  obtain ⟨M8, l8, z8, hF8⟩ := x12_book89 (M := M7) x1
  have hF78 : FR [22, 40] [6, 20, 21, 39] [] M M8 := (hF7.mono (by decide) (by decide) (by decide)).tr (hF8.mono (by decide) (by decide) (by decide))
  have h68 : M8.2.2.1 6 = M.2.2.1 6 := by rw [hF8.2.1 6 (by decide), hF7.2.1 6 (by decide)]
  have h88 : M8.2.2.1 8 = M.2.2.1 8 := by rw [hF8.2.1 8 (by decide), hF7.2.1 8 (by decide)]
  obtain ⟨w, l, S', M9, W, j1, j2, j3, j4, j5, j6, j7, j8, j9, j10, j11, hF9⟩ := live_all (V := V) (T := T) (G := G) hn hG x1 n 0 B M8 V (by omega) hS (fun j hj => by rw [h68]; exact hM j hj) hw (fun _ _ => rfl) (by rw [hF8.1 38 (by decide), hF7.1 38 (by decide), hM38]) (fun j hj => LR_8 (hL j hj) h88) (z8 0 (by omega)) (z8 1 (by omega)) FU FU (by unfold FU; omega) (by unfold FU; omega)
  obtain ⟨M10, q1, q2, q3, q4, q5, q6, hF10⟩ := x12_book201 (x1 := x1) (x2 := if w = 0 then nO else nI l) j6 j7
  have hjd : F_X11_judge T G B = some (if w = 0 then nO else nI l, sA (sA (sA (sA T 14 (nI 0) (nI w)) 14 (nI 1) (nI l)) 14 (nI 2) (nI (W 42))) 14 (nI 3) (nI (plV W)), S') := by
    unfold F_X11_judge L_X11_judge_4
    have j1 : lp (fun kz (z : Int32 × Int32 × St × St × St) => F_X11_judge_4 kz z.1 z.2.1 z.2.2.1 z.2.2.2.1 z.2.2.2.2) FU (0, 0, T, G, B) = F_X11_judge_38 (nI w) (nI l) T G S' := j1
    rw [j1, x11_judge38 j5.1 j7 j3]
  have hmd : (ob1 (F_X12_tries M) fun U3 => L_X12_book_89 x1 0 U3) = F_X12_book_201 x1 (if w = 0 then nO else nI l) M9 := by
    rw [ht, pu_ob1N, l8]
    unfold L_X12_book_111
    exact j2
  have hF810 : FR [22, 40] [6, 20, 21, 39] [] M M10 := (hF78.tr (hF9.mono (by decide) (by decide) (by decide))).tr (hF10.mono (by decide) (by decide) (by decide))
  have hT' : FR [] [14] [] T (sA (sA (sA (sA T 14 (nI 0) (nI w)) 14 (nI 1) (nI l)) 14 (nI 2) (nI (W 42))) 14 (nI 3) (nI (plV W))) := (((FR.sA (by decide)).tr (FR.sA (by decide))).tr (FR.sA (by decide))).tr (FR.sA (by decide))
  have r0 : (sA (sA (sA (sA T 14 (nI 0) (nI w)) 14 (nI 1) (nI l)) 14 (nI 2) (nI (W 42))) 14 (nI 3) (nI (plV W))).2.2.1 14 0 = nI w := by rw [pu_sAe (by omega), if_neg (by omega), pu_sAe (by omega), if_neg (by omega), pu_sAe (by omega), if_neg (by omega), pu_sAe (by omega), if_pos rfl]
  have r1 : (sA (sA (sA (sA T 14 (nI 0) (nI w)) 14 (nI 1) (nI l)) 14 (nI 2) (nI (W 42))) 14 (nI 3) (nI (plV W))).2.2.1 14 1 = nI l := by rw [pu_sAe (by omega), if_neg (by omega), pu_sAe (by omega), if_neg (by omega), pu_sAe (by omega), if_pos rfl]
  have r2 : (sA (sA (sA (sA T 14 (nI 0) (nI w)) 14 (nI 1) (nI l)) 14 (nI 2) (nI (W 42))) 14 (nI 3) (nI (plV W))).2.2.1 14 2 = nI (W 42) := by rw [pu_sAe (by omega), if_neg (by omega), pu_sAe (by omega), if_pos rfl]
  have r3 : (sA (sA (sA (sA T 14 (nI 0) (nI w)) 14 (nI 1) (nI l)) 14 (nI 2) (nI (W 42))) 14 (nI 3) (nI (plV W))).2.2.1 14 3 = nI (plV W) := by rw [pu_sAe (by omega), if_pos rfl]
  generalize sA (sA (sA (sA T 14 (nI 0) (nI w)) 14 (nI 1) (nI l)) 14 (nI 2) (nI (W 42))) 14 (nI 3) (nI (plV W)) = T' at hjd hT' r0 r1 r2 r3
  have hRTo : ∀ M' : St, M'.1 40 = M10.1 40 → M'.2.2.1 39 = M10.2.2.1 39 → RTo T' M' := fun M' e1 e2 => Or.inr ⟨by rw [e1, q6], fun i hi => by
    rw [e2]
    rcases (show i = 0 ∨ i = 1 ∨ i = 2 ∨ i = 3 by omega) with rfl | rfl | rfl | rfl
    · rw [r0, q2, j9]
    · rw [r1, q3, j10]
    · rw [r2, q4]
    · rw [r3, q5]⟩
  have h77 : ∀ k, 77 ≤ k → M10.2.2.1 6 k = M.2.2.1 6 k := fun k hk => by rw [hF10.2.1 6 (by decide), j11 k hk, h68]
  have hRM10 : RM M10 W := fun j hj => by rw [hF10.2.1 6 (by decide)]; exact j6 j hj
  have t10 : TB21 M10 V := fun j hj => by rw [hF10.2.1 21 (by decide), hF9.2.1 21 (by decide), hF8.2.1 21 (by decide)]; exact t7 j hj
  have e22 : M10.1 22 = M.1 22 := by rw [hF10.1 22 (by decide), hF9.1 22 (by decide), hF8.1 22 (by decide), hF7.1 22 (by decide)]
  have e20 : M10.2.2.1 20 = M.2.2.1 20 := by rw [hF10.2.1 20 (by decide), hF9.2.1 20 (by decide), hF8.2.1 20 (by decide), hF7.2.1 20 (by decide)]
  have hF0 : FR [40] [6, 21, 39] [] M M10 := (((hF7.mono (by decide) (by decide) (by decide)).tr (hF8.mono (by decide) (by decide) (by decide))).tr (hF9.mono (by decide) (by decide) (by decide))).tr (hF10.mono (by decide) (by decide) (by decide))
  generalize (if w = 0 then nO else nI l) = rr at q1 hjd hmd
  rcases hx with rfl | rfl
  · rw [if_neg (show ¬ nI 0 = (1 : Int32) by decide)] at q1
    obtain ⟨M11, b1, b2, b3, hF11⟩ := back_ok t10 hRM10 j8
    refine ⟨_, T', H, K, B, M11, V, fun _ => ⟨S', hjd, rfl, rfl, rfl⟩, fun e => absurd e (by decide), ?_, hRTo M11 (hF11.1 40 (by decide)) (hF11.2.1 39 (by decide)), hT', hS, b2, hw, rfl, fun _ _ => rfl, fun k hk => by rw [b3 k hk]; exact h77 k hk, hH.fr (hF0.tr (hF11.mono (by decide) (by decide) (by decide))) (by decide) (by decide), hF810.tr (hF11.mono (by decide) (by decide) (by decide))⟩
    rw [hmd, q1]
    unfold F_X12_book_283
    rw [if_pos zero_eq, b1, pu_ob1N]
  · rw [if_pos (show nI 1 = (1 : Int32) from rfl), j10] at q1
    obtain ⟨K', k1, k2, nx, k3, k4, k5⟩ := x2_open hH
    have c283 : ∀ x2 M', F_X12_book_283 (nI 1) x2 M' = some (x2, M') := fun x2 M' => by
      unfold F_X12_book_283
      rw [if_neg one_ne]
    have hset : F_X11_settleMany T' H (T'.2.2.1 14 (1 : Int32).toNatClampNeg) = F_X11_settleMany T' H (nI l) := by rw [show T'.2.2.1 14 (1 : Int32).toNatClampNeg = nI l from r1]
    by_cases hl : l = 0
    · subst hl
      rw [if_pos (show nI 0 ≤ (0 : Int32) from Int32.le_refl _), c283] at q1
      refine ⟨_, T', H, K', S', M10, W, fun e => absurd e (by decide), fun _ => ⟨nI 0, k1, hjd, ?_⟩, hmd.trans q1, hRTo M10 rfl rfl, hT', j5.1, hRM10, j7, j5.2, j8, h77, (k2.fr hF0 (by decide) (by decide)).cs j5.2 j8, hF810⟩
      rw [hset]
      unfold F_X11_settleMany
      rw [if_pos (show nI 0 ≤ (0 : Int32) from Int32.le_refl _)]
    · rw [if_neg (show ¬ nI l ≤ (0 : Int32) from nI_nle (by omega) (by omega))] at q1
      have hH10 : HR S' H K M10 W := (hH.fr hF0 (by decide) (by decide)).cs j5.2 j8
      obtain ⟨H', M11, p1, p2, hF11, p3⟩ := hist_keep hH10 j5.1 hRM10 j7 k4 k3
      have hm : ∃ m, m ≤ 8 ∧ H.1 2 = nI m := by
        obtain ⟨m, nx', L, a1, a2, a3, a4, a5, a6⟩ := hH
        exact ⟨m, a1, a4⟩
      obtain ⟨m, m8, hm2⟩ := hm
      obtain ⟨w1, w2⟩ := x2_keepC p1 k4 k3 hm2 m8
      have h22 : M11.1 22 = nI (min 8 (m + 1) - 1 + 1) := by
        obtain ⟨m', nx', L, a1, a2, a3, a4, a5, a6⟩ := p3
        rw [a5, ← a4, w2, show min 8 (m + 1) - 1 + 1 = min 8 (m + 1) by omega]
      obtain ⟨M12, o1, o2, o3, hF12⟩ := x12_over (nI 1) rr (m := min 8 (m + 1) - 1) (by omega) h22
      have hHR := hist_swap (B := B) (V0 := V) (M4 := M12) p3 k3 w1 h22 (by omega) hS j5.2.symm (fun k hk => (j8 k hk).symm) hw (hF12.1 22 (by decide)) (fun i hi => by rw [o2 i hi, hF11.2.1 21 (by decide)]; exact t10 i hi) o3
      refine ⟨_, T', H', K', S', M12, W, fun e => absurd e (by decide), fun _ => ⟨nI l, k1, hjd, ?_⟩, ?_, hRTo M12 (by rw [hF12.1 40 (by decide), hF11.1 40 (by decide)]) (by rw [hF12.2.1 39 (by decide), hF11.2.1 39 (by decide)]), hT', j5.1, fun j hj => by rw [hF12.2.1 6 (by decide), hF11.2.1 6 (by decide)]; exact hRM10 j hj, j7, j5.2, j8, fun k hk => by rw [hF12.2.1 6 (by decide), hF11.2.1 6 (by decide)]; exact h77 k hk, by rw [k5]; exact hHR, (hF810.tr (hF11.mono (by decide) (by decide) (by decide))).tr (hF12.mono (by decide) (by decide) (by decide))⟩
      · rw [hset]
        unfold F_X11_settleMany
        rw [if_neg (show ¬ nI l ≤ (0 : Int32) from nI_nle (by omega) (by omega)), p1, pu_ob1N]
      · rw [hmd, q1, p2, pu_ob1N, o1, c283]
end P42
