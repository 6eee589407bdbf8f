/-! a book told: both sides -/
section P41
variable {R M S P B N H T X G : St} {K : KSt} {V : Vt} {k n : Nat}
theorem x11_judge38 {w l : Nat} {W : Vt} (hS : RS S W) (hw : WF W) (hw1 : w < 100) : F_X11_judge_38 (nI w) (nI l) T G S = some (if w = 0 then nO else nI l, sA (sA (sA (sA T 14 (nI 0) (nI w)) 14 (nI 1) (nI l)) 14 (nI 2) (nI (W 42))) 14 (nI 3) (nI (plV W)), S) := by
  have h14 : S.1 14 = nI (W 42) := hS.2.2.2.2.1
  unfold F_X11_judge_38
  rw [if_neg (show ¬ oob (0 : Int32) 4 from no_oob (i := 0) (by omega) (by omega)), pu_nwN, if_neg (show ¬ oob (1 : Int32) 4 from no_oob (i := 1) (by omega) (by omega)), pu_nwN, if_neg (show ¬ oob (2 : Int32) 4 from no_oob (i := 2) (by omega) (by omega)), pu_nwN, x8_plV hS hw, pu_ob1N, if_neg (show ¬ oob (3 : Int32) 4 from no_oob (i := 3) (by omega) (by omega)), pu_nwN, h14]
  by_cases q : w = 0
  · rw [q, if_pos zero_eq, if_pos rfl]; rfl
  · rw [if_neg (nI_ne0 (by omega) (by omega)), if_neg q]; rfl
theorem x12_book201 {x1 x2 : Int32} {W : Vt} (hM : RM M W) (hw : WF W) : ∃ M', F_X12_book_201 x1 x2 M = (if x1 = 1 then if M.2.2.1 39 1 ≤ 0 then F_X12_book_283 x1 x2 M' else ob1 (F_X12_keep M') fun U16 => L_X12_book_249 x1 x2 0 U16 else F_X12_book_283 x1 x2 M') ∧ M'.2.2.1 39 0 = M.2.2.1 39 0 ∧ M'.2.2.1 39 1 = M.2.2.1 39 1 ∧ M'.2.2.1 39 2 = nI (W 42) ∧ M'.2.2.1 39 3 = nI (plV W) ∧ M'.1 40 = nI 1 ∧ FR [40] [39] [] M M' := by
  have hM2 : RM (sA M 39 (nI 2) (nI (W 42))) W := fun j hj => by rw [pu_sAn (by omega)]; exact hM j hj
  have h42 := hM 42 (by omega)
  have f1 : (sA (sA M 39 (nI 2) (nI (W 42))) 39 (nI 3) (nI (plV W))).2.2.1 39 1 = M.2.2.1 39 1 := by rw [pu_sAe (by omega), if_neg (by omega), pu_sAe (by omega), if_neg (by omega)]
  refine ⟨sI (sA (sA M 39 (nI 2) (nI (W 42))) 39 (nI 3) (nI (plV W))) 40 (nI 1), ?_, ?_, f1, ?_, ?_, rfl, ((FR.sA (by decide)).tr (FR.sA (by decide))).tr (FR.sI (by decide))⟩
  · unfold F_X12_book_201
    have hp : F_X12_pleased (sA M 39 2 (M.2.2.1 6 (42 : Int32).toNatClampNeg)) = some (nI (plV W)) := by
      have : sA M 39 2 (M.2.2.1 6 (42 : Int32).toNatClampNeg) = sA M 39 (nI 2) (nI (W 42)) := by rw [show M.2.2.1 6 (42 : Int32).toNatClampNeg = nI (W 42) from h42]; rfl
      rw [this]
      exact x12_plV hM2 hw
    rw [if_neg (show ¬ oob (42 : Int32) 258 from no_oob (i := 42) (by omega) (by omega)), if_neg (show ¬ oob (2 : Int32) 4 from no_oob (i := 2) (by omega) (by omega)), pu_nwN, hp, pu_ob1N, if_neg (show ¬ oob (3 : Int32) 4 from no_oob (i := 3) (by omega) (by omega)), pu_nwN, pu_nwN, if_neg (show ¬ oob (1 : Int32) 4 from no_oob (i := 1) (by omega) (by omega)), show M.2.2.1 6 (42 : Int32).toNatClampNeg = nI (W 42) from h42, ← f1]
    rfl
  · show (sA (sA M 39 (nI 2) (nI (W 42))) 39 (nI 3) (nI (plV W))).2.2.1 39 0 = _
    rw [pu_sAe (by omega), if_neg (by omega), pu_sAe (by omega), if_neg (by omega)]
  · show (sA (sA M 39 (nI 2) (nI (W 42))) 39 (nI 3) (nI (plV W))).2.2.1 39 2 = _
    rw [pu_sAe (by omega), if_neg (by omega), pu_sAe (by omega), if_pos rfl]
  · show (sA (sA M 39 (nI 2) (nI (W 42))) 39 (nI 3) (nI (plV W))).2.2.1 39 3 = _
    rw [pu_sAe (by omega), if_pos rfl]
theorem x12_book89 (x1 : Int32) : ∃ M', L_X12_book_89 x1 0 M = L_X12_book_111 x1 nO 0 M' ∧ (∀ j, j < 4 → M'.2.2.1 39 j = nI 0) ∧ FR [] [39] [] M M' := by
  obtain ⟨⟨u1, u2, M1⟩, ⟨e1, e2, e3, e4⟩, l1⟩ := lp_invG (body := fun kz (z : Int32 × Int32 × St) => F_X12_book_89 kz z.1 z.2.1 z.2.2) (fun i z => z.1 = x1 ∧ z.2.1 = nI i ∧ (∀ j, j < i → z.2.2.2.2.1 39 j = nI 0) ∧ FR [] [39] [] M z.2.2) 4 (fun z => L_X12_book_111 z.1 nO 0 z.2.2) (fun i hi z ⟨e1, e2, e3, e4⟩ => by
    refine ⟨(x1, nI (i + 1), sA z.2.2 39 (nI i) 0), ⟨rfl, rfl, fun j hj => ?_, e4.tr (FR.sA (by decide))⟩, fun k => ?_⟩
    · rw [pu_sAe (by omega)]
      by_cases q : j = i
      · rw [if_pos q]; rfl
      · rw [if_neg q]; exact e3 j (by omega)
    · unfold F_X12_book_89
      rw [e2, if_neg (show ¬ (4 : Int32) ≤ nI i from nI_ge (b := 4) (by omega) (by omega)), if_neg (no_oob (n := 4) (by omega) (by omega)), pu_nwN, nIs, e1]) (fun z ⟨e1, e2, e3, e4⟩ k => by
    unfold F_X12_book_89
    rw [e2, if_pos (show (4 : Int32) ≤ nI 4 from Int32.le_refl _)]
    rfl) (x0 := (x1, (0 : Int32), M)) ⟨rfl, rfl, fun j hj => by omega, FR.rf⟩ (N := FU) (by decide)
  have e1 : u1 = x1 := e1
  refine ⟨M1, ?_, e3, e4⟩
  unfold L_X12_book_89
  rw [l1, e1]
end P41
