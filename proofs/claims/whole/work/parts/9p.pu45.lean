/-! the model's pops -/
section P45
variable {R M S P B N H T X G : St} {V cs cg cu : Vt} {k n o h : Nat} {l : List Nat}
theorem nIp (i : Nat) (hi : i < 1000000) : nI (i + 1) - (1 : Int32) = nI i := by rw [show (1 : Int32) = nI 1 from rfl, pu_sub (by omega), Nat.add_sub_cancel]
theorem x12_notsL {x : Nat} (hx : x < 1000) : ∀ j n M, PD N M cs cg cu n o h (List.replicate j 20 ++ l) → M.1 45 = nI (x + j) → (h + l.length = 0 ∨ ∃ y, y < 100 ∧ y ≠ 20 ∧ M.2.2.1 41 (h + l.length - 1) = nI y) → ∀ K, ∃ M', lp (fun kz z => F_X12_nots_0 kz z) (j + 1 + K) M = some M' ∧ PD N M' cs cg cu (n + j) o h l ∧ M'.1 45 = nI x ∧ FR [42, 44, 45] [8] [] M M' ∧ M'.2.1 = M.2.1 := by
  intro j
  induction j with
  | zero =>
    intro n M hp h45 hs K
    refine ⟨M, ?_, hp, h45, FR.rf, rfl⟩
    rw [show 0 + 1 + K = K + 1 by omega]
    show F_X12_nots_0 (lp (fun kz z => F_X12_nots_0 kz z) K) M = some M
    have h44 : M.1 44 = nI (h + l.length) := hp.2.2.2.2.1
    have hb : h + l.length < 45 := hp.2.2.2.2.2.2.2
    unfold F_X12_nots_0
    rw [h44]
    rcases hs with e | ⟨y, hy, hy2, e⟩
    · rw [e, if_pos (show nI 0 ≤ (0 : Int32) from Int32.le_refl _)]
    · by_cases q : h + l.length = 0
      · rw [q, if_pos (show nI 0 ≤ (0 : Int32) from Int32.le_refl _)]
      · obtain ⟨t, ht⟩ : ∃ t, h + l.length = t + 1 := ⟨h + l.length - 1, by omega⟩
        rw [ht] at e ⊢
        rw [Nat.add_sub_cancel] at e
        have hcp : (nI t).toNatClampNeg = t := pu_clamp (by omega)
        rw [if_neg (show ¬ nI (t + 1) ≤ (0 : Int32) from nI_nle (by omega) (by omega)), nIp t (by omega), if_neg (no_oob (n := 45) (by omega) (by omega))]
        simp only [hcp, e]
        rw [if_neg (show ¬ nI y = (20 : Int32) from fun q => hy2 ((nI_eq (b := 20) (by omega) (by omega)).mp q))]
  | succ j ih =>
    intro n M hp h45 hs K
    have hp' : PD N M cs cg cu n o h (20 :: (List.replicate j 20 ++ l)) := hp
    have h44 : M.1 44 = nI (h + (List.replicate j 20 ++ l).length + 1) := hp'.2.2.2.2.1
    have hb : h + ((List.replicate j 20 ++ l).length + 1) < 45 := hp'.2.2.2.2.2.2.2
    have htop : M.2.2.1 41 (h + (List.replicate j 20 ++ l).length) = nI 20 := hp'.2.2.2.1.1
    have hjb : j < 1000 := by
      have := hb
      simp only [List.length_append, List.length_replicate] at this
      omega
    generalize hq : h + (List.replicate j 20 ++ l).length = t at h44 htop
    obtain ⟨M1, m1, m2, m3, m4⟩ := PD_pop (M1 := sI (sI M 44 (nI t)) 45 (nI (x + j))) hp' ((FR.sI (by decide)).tr (FR.sI (by decide))) (by rw [hq]; rfl)
    have hF1 : FR [42, 44, 45] [8] [] M M1 := ((FR.sI (by decide)).tr (FR.sI (by decide))).tr (m3.mono (by decide) (by decide) (by decide))
    obtain ⟨M', r1, r2, r3, r4, r5⟩ := ih (n + 1) M1 m2 (by rw [m3.1 45 (by decide)]; rfl) (by rw [hF1.2.1 41 (by decide)]; exact hs) K
    refine ⟨M', ?_, by rw [show n + (j + 1) = n + 1 + j by omega]; exact r2, r3, hF1.tr r4, r5.trans m4⟩
    rw [show j + 1 + 1 + K = (j + 1 + K) + 1 by omega]
    show F_X12_nots_0 (lp (fun kz z => F_X12_nots_0 kz z) (j + 1 + K)) M = some M'
    generalize lp (fun kz z => F_X12_nots_0 kz z) (j + 1 + K) = L at r1 ⊢
    have hcp : (nI t).toNatClampNeg = t := pu_clamp (by omega)
    have e45 : (sI M 44 (nI t)).1 45 - (1 : Int32) = nI (x + j) := by show M.1 45 - 1 = _; rw [h45, show x + (j + 1) = x + j + 1 by omega, nIp _ (by omega)]
    have m1 : F_X12_code (sI (sI M 44 (nI t)) 45 (nI (x + j))) 20 0 0 = some M1 := m1
    unfold F_X12_nots_0
    rw [h44, if_neg (show ¬ nI (t + 1) ≤ (0 : Int32) from nI_nle (by omega) (by omega)), nIp t (by omega), if_neg (no_oob (n := 45) (by omega) (by omega))]
    simp only [hcp, htop]
    rw [if_pos (show nI 20 = (20 : Int32) from rfl), pu_nwN, e45, pu_nwN, m1, pu_ob1N]
    exact r1
theorem x12_nots {x j : Nat} (hx : x < 1000) (hj : j < 1000) (hp : PD N M cs cg cu n o h (List.replicate j 20 ++ l)) (h45 : M.1 45 = nI (x + j)) (hs : h + l.length = 0 ∨ ∃ y, y < 100 ∧ y ≠ 20 ∧ M.2.2.1 41 (h + l.length - 1) = nI y) : ∃ M', F_X12_nots M = some M' ∧ PD N M' cs cg cu (n + j) o h l ∧ M'.1 45 = nI x ∧ FR [42, 44, 45] [8] [] M M' ∧ M'.2.1 = M.2.1 := by
  unfold F_X12_nots L_X12_nots_0
  have hF : FU = j + 1 + (FU - 1 - j) := by unfold FU; omega
  rw [hF]
  exact x12_notsL hx j n M hp h45 hs _
theorem x12_joinsL {w : Nat} (hw : w = 21 ∨ w = 22) : ∀ (l : List Nat) n M, PD N M cs cg cu n o h l → (∀ x, x ∈ l → x = 21 ∨ (x = 22 ∧ w = 22)) → (h = 0 ∨ ∃ y, y < 100 ∧ y ≠ 21 ∧ (w = 22 → y ≠ 22) ∧ M.2.2.1 41 (h - 1) = nI y) → ∀ K, ∃ M', lp (fun kz (z : Int32 × St) => F_X12_joins_0 kz z.1 z.2) (l.length + 1 + K) (nI w, M) = some M' ∧ PD N M' cs cg cu (n + l.length) o h [] ∧ FR [42, 44] [8] [] M M' ∧ M'.2.1 = M.2.1 := by
  intro l
  induction l with
  | nil =>
    intro n M hp hl hs K
    refine ⟨M, ?_, hp, FR.rf, rfl⟩
    rw [show ([] : List Nat).length + 1 + K = K + 1 by simp only [List.length_nil]; omega]
    show F_X12_joins_0 (lp (fun kz (z : Int32 × St) => F_X12_joins_0 kz z.1 z.2) K) (nI w) M = some M
    have h44 : M.1 44 = nI h := hp.2.2.2.2.1
    have hb : h < 45 := hp.2.2.2.2.2.2.2
    unfold F_X12_joins_0
    rw [h44]
    by_cases q : h = 0
    · rw [q, if_pos (show nI 0 ≤ (0 : Int32) from Int32.le_refl _)]
    · rcases hs with e | ⟨y, hy, hy2, hy3, e⟩
      · exact absurd e q
      · obtain ⟨t, ht⟩ : ∃ t, h = t + 1 := ⟨h - 1, by omega⟩
        rw [ht] at e ⊢
        rw [Nat.add_sub_cancel] at e
        have hcp : (nI t).toNatClampNeg = t := pu_clamp (by omega)
        have ho := no_oob (i := t) (n := 45) (by omega) (by omega)
        rw [if_neg (show ¬ nI (t + 1) ≤ (0 : Int32) from nI_nle (by omega) (by omega)), nIp t (by omega), if_neg ho, if_neg ho]
        simp only [hcp, e]
        rw [if_neg (show ¬ nI y = (21 : Int32) from fun q => hy2 ((nI_eq (b := 21) (by omega) (by omega)).mp q))]
        by_cases q2 : y = 22
        · rcases hw with rfl | rfl
          · rw [q2, if_pos (show nI 22 = (22 : Int32) from rfl), if_neg (show ¬ nI 21 = (22 : Int32) by decide)]
          · exact absurd q2 (hy3 rfl)
        · rw [if_neg (show ¬ nI y = (22 : Int32) from fun q => q2 ((nI_eq (b := 22) (by omega) (by omega)).mp q))]
  | cons x l ih =>
    intro n M hp hl hs K
    have h44 : M.1 44 = nI (h + l.length + 1) := hp.2.2.2.2.1
    have hb : h + (l.length + 1) < 45 := hp.2.2.2.2.2.2.2
    have htop : M.2.2.1 41 (h + l.length) = nI x := hp.2.2.2.1.1
    have hx := hl x (List.mem_cons_self ..)
    generalize hq : h + l.length = t at h44 htop
    obtain ⟨M1, m1, m2, m3, m4⟩ := PD_pop (M1 := sI M 44 (nI t)) hp (FR.sI (by decide)) (by rw [hq]; rfl)
    have hF1 : FR [42, 44] [8] [] M M1 := (FR.sI (by decide)).tr (m3.mono (by decide) (by decide) (by decide))
    obtain ⟨M', r1, r2, r4, r5⟩ := ih (n + 1) M1 m2 (fun y hy => hl y (List.mem_cons_of_mem _ hy)) (by rw [hF1.2.1 41 (by decide)]; exact hs) K
    refine ⟨M', ?_, by rw [show n + (x :: l).length = n + 1 + l.length by simp only [List.length_cons]; omega]; exact r2, hF1.tr r4, r5.trans m4⟩
    rw [show (x :: l).length + 1 + K = (l.length + 1 + K) + 1 by simp only [List.length_cons]; omega]
    show F_X12_joins_0 (lp (fun kz (z : Int32 × St) => F_X12_joins_0 kz z.1 z.2) (l.length + 1 + K)) (nI w) M = some M'
    generalize lp (fun kz (z : Int32 × St) => F_X12_joins_0 kz z.1 z.2) (l.length + 1 + K) = L at r1 ⊢
    have hcp : (nI t).toNatClampNeg = t := pu_clamp (by omega)
    have ho := no_oob (i := t) (n := 45) (by omega) (by omega)
    have m1 : F_X12_code (sI M 44 (nI t)) (nI x) 0 0 = some M1 := m1
    have hj : F_X12_joins_45 L (nI w) M = some M' := by
      unfold F_X12_joins_45
      have e44 : (sI M 44 (nI t)).1 44 = nI t := rfl
      have e41 : (sI M 44 (nI t)).2.2.1 41 t = nI x := htop
      rw [h44, nIp t (by omega), pu_nwN, e44, if_neg ho]
      simp only [hcp, e41]
      rw [m1, pu_ob1N]
      exact r1
    unfold F_X12_joins_0
    rw [h44, if_neg (show ¬ nI (t + 1) ≤ (0 : Int32) from nI_nle (by omega) (by omega)), nIp t (by omega), if_neg ho, if_neg ho]
    simp only [hcp, htop]
    rcases hx with rfl | ⟨rfl, rfl⟩
    · rw [if_pos (show nI 21 = (21 : Int32) from rfl), hj]
    · rw [if_neg (show ¬ nI 22 = (21 : Int32) by decide), if_pos (show nI 22 = (22 : Int32) from rfl), if_pos (show nI 22 = (22 : Int32) from rfl), hj]
theorem x12_joins {w : Nat} (hw : w = 21 ∨ w = 22) (hp : PD N M cs cg cu n o h l) (hl : ∀ x, x ∈ l → x = 21 ∨ (x = 22 ∧ w = 22)) (hs : h = 0 ∨ ∃ y, y < 100 ∧ y ≠ 21 ∧ (w = 22 → y ≠ 22) ∧ M.2.2.1 41 (h - 1) = nI y) : ∃ M', F_X12_joins M (nI w) = some M' ∧ PD N M' cs cg cu (n + l.length) o h [] ∧ FR [42, 44] [8] [] M M' ∧ M'.2.1 = M.2.1 := by
  unfold F_X12_joins L_X12_joins_0
  have hb : h + l.length < 45 := hp.2.2.2.2.2.2.2
  have hF : FU = l.length + 1 + (FU - 1 - l.length) := by unfold FU; omega
  rw [hF]
  exact x12_joinsL hw l n M hp hl hs _
end P45
