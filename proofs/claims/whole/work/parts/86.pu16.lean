/-! soonest: the first row, on both sides -/
def nT : Int32 := -2
theorem pu_m2 : (-2 : Int32) = nT := rfl
theorem nT_ne (k : Nat) (h : k < 1000) : nI k ≠ nT := fun e => nI_pos (n := k) (by omega) (by rw [e]; decide)
theorem nT_nO : nO ≠ nT := by decide
theorem dn_all (k : Nat) : nI k + (-1) = nI k - nI 1 := (Int32.sub_eq_add_neg _ _).symm
def tsP (V : Vt) (p : Nat) (F : Vt) (x : Nat) (t : Nat) : Bool := (canV V p / 2 ^ t % 2 == 1) && (F (beh V t x) + 1 == F x)
def tsF (V : Vt) (p : Nat) (F : Vt) (x : Nat) : Nat := fs (tsP V p F x) (V 0) 0
def xs (V : Vt) (p : Nat) (F : Vt) (s : Nat) : Nat → Nat
  | 0 => s
  | i + 1 => beh V (tsF V p F (xs V p F s i)) (xs V p F s i)
theorem ts_ok {V F : Vt} {p x : Nat} (hD : DS V p F) (hx : x < 256) (h0 : 0 < F x) (h1 : F x < 1000000) : cb V p (tsF V p F x) ∧ F (beh V (tsF V p F x) x) + 1 = F x := by
  obtain ⟨t, ht, he⟩ := hD.2.2.2 x hx h0 h1
  have hP : tsP V p F x t = true := by
    unfold tsP
    rw [ht.2, he]
    simp
  have hlt : tsF V p F x < V 0 := by
    apply Nat.lt_of_not_le
    intro hge
    have := fs_no (tsP V p F x) (V 0) 0 t (by omega) (by unfold tsF at hge; have := ht.1; omega)
    rw [hP] at this
    cases this
  have hat := fs_at (tsP V p F x) (V 0) 0 (by unfold tsF at hlt; omega)
  have hat : tsP V p F x (tsF V p F x) = true := hat
  unfold tsP at hat
  simp only [Bool.and_eq_true, beq_iff_eq] at hat
  exact ⟨⟨hlt, hat.1⟩, hat.2⟩
theorem xs_ok {V F : Vt} {p s n : Nat} (hD : DS V p F) (hs : s < 256) (hn : F s = n) (hf : n < 1000000) : ∀ i, i ≤ n → xs V p F s i < 256 ∧ F (xs V p F s i) + i = n := by
  intro i
  induction i with
  | zero => intro _; exact ⟨hs, by rw [Nat.add_zero]; exact hn⟩
  | succ i ih =>
    intro hi
    obtain ⟨h1, h2⟩ := ih (by omega)
    have h3 := ts_ok hD h1 (by omega) (by omega)
    refine ⟨beh_lt V _ h1, ?_⟩
    have h4 := h3.2
    show F (beh V (tsF V p F (xs V p F s i)) (xs V p F s i)) + (i + 1) = n
    omega
section P16
variable {T B M W : St} {V F q : Vt} {p s n sz : Nat}
theorem x12_srow (hM : RM M V) (hw : WF V) (hF : FW M F) (hD : DS V p F) (hs : s < 256) (hn : F s = n) (hf : n ≤ 256) : ∃ M', L_X12_soonest_58 (nI (canV V p)) (nI s) (nI n) 0 M = some (nI n, M') ∧ M'.1 25 = nI n ∧ (∀ i, i < n → M'.2.2.1 24 i = nI (tsF V p F (xs V p F s i))) ∧ FR [25] [24] [] M M' := by
  have w0 := hw.1
  have hcl := can_lt hw p
  have key := lp_inv (body := fun kz z => F_X12_soonest_58 kz z.1 z.2.1 z.2.2.1 z.2.2.2.1 z.2.2.2.2) (fun i z => ∃ M', z = (nI (canV V p), nI (xs V p F s i), nI n, nI i, M') ∧ RM M' V ∧ FW M' F ∧ FR [25] [24] [] M M' ∧ ∀ j, j < i → M'.2.2.1 24 j = nI (tsF V p F (xs V p F s j))) n (fun o => o.1 = nI n ∧ o.2.1 25 = nI n ∧ (∀ i, i < n → o.2.2.2.1 24 i = nI (tsF V p F (xs V p F s i))) ∧ FR [25] [24] [] M o.2) (fun i hi z hz => ?_) (fun z hz => ?_) (x0 := (nI (canV V p), nI s, nI n, nI 0, M)) ⟨M, rfl, hM, hF, FR.rf, fun j hj => by omega⟩ (pu_FU (by omega : n < 1000000))
  · obtain ⟨o, ⟨h1, h2, h3, h4⟩, h5⟩ := key
    refine ⟨o.2, ?_, h2, h3, h4⟩
    rw [show some (nI n, o.2) = some o from by rw [← h1]]
    exact h5
  · obtain ⟨M', rfl, a1, a2, a3, a4⟩ := hz
    obtain ⟨hx, hxF⟩ := xs_ok hD hs hn (by omega) i (by omega)
    obtain ⟨hcb, hst⟩ := ts_ok hD hx (by omega) (by omega)
    have hbl := beh_lt V (tsF V p F (xs V p F s i)) hx
    refine ⟨(nI (canV V p), nI (xs V p F s (i + 1)), nI n, nI (i + 1), sA M' 24 (nI i) (nI (tsF V p F (xs V p F s i)))), ⟨_, rfl, fun k hk => by rw [pu_sAn (by omega)]; exact a1 k hk, fun x hx => by rw [pu_sAn (by omega)]; exact a2 x hx, a3.tr (FR.sA (by decide)), fun j hj => ?_⟩, fun k => ?_⟩
    · rw [pu_sAe (by omega)]
      by_cases e : j = i
      · rw [if_pos e, e]
      · rw [if_neg e]; exact a4 j (by omega)
    · show F_X12_soonest_58 k (nI (canV V p)) (nI (xs V p F s i)) (nI n) (nI i) M' = _
      unfold F_X12_soonest_58 L_X12_soonest_68
      rw [if_neg (nI_ge hi (by omega))]
      have hsub : nI n - nI 1 - nI i = nI (n - 1 - i) := by rw [pu_sub (by omega), pu_sub (by omega)]
      refine lp_upO (fun t => (nI (canV V p), nI (xs V p F s i), nI n, nI i, nI t, M')) (tsF V p F (xs V p F s i)) (fun t ht kk => ?_) (fun kk => ?_) (pu_FU (by have := hcb.1; omega))
      · have htv : t < V 0 := by have := hcb.1; omega
        have hno := fs_no (tsP V p F (xs V p F s i)) (V 0) 0 t (by omega) ht
        have hb := x12_bit (x := canV V p) (v := t) (by omega) (by omega)
        have hbh := x12_behind a1 hw htv hx
        have hb2 := beh_lt V t hx
        have gb := a2 _ hb2
        show F_X12_soonest_68 k kk (nI (canV V p)) (nI (xs V p F s i)) (nI n) (nI i) (nI t) M' = _
        unfold F_X12_soonest_68 F_X12_soonest_99
        rcases Nat.mod_two_eq_zero_or_one (canV V p / 2 ^ t) with h | h
        · rw [h] at hb
          simp (disch := omega) only [↓pu_m1, pu_lit, ↓reduceIte, pu_leT, pu_leF, pu_ltT, pu_ltF, pu_eqT, pu_eqF, pu_eqO, pu_eqO2, pu_ltO, pu_leO, pu_subO, pu_subOF, pu_subT, pu_subF, pu_oobF, pu_clamp, pu_add, pu_sub, pu_mul, pu_and, pu_or, pu_xor, pu_xorO, pu_shl, pu_shr, pu_ushr, pu_nb0, pu_nb1, pu_ob1N, pu_ob2N, pu_ob3N, pu_ob4N, pu_nwN, pu_n1, pu_n7, pu_n31, pu_n255, pu_md, pu_one, pu_sI1, pu_sI2, pu_sA1, pu_sA21, pu_sA222, pu_sAe, pu_sAn, pu_sJ1, pu_sJ21, pu_sJ221, pu_sF1, pu_sF21, pu_sF222, pu_sFe, pu_sFn, pu_upe, pu_upn, Nat.reduceAdd, Nat.reduceSub, Nat.reduceMul, Nat.reduceMod, Nat.reduceAnd, Nat.reducePow, Nat.reduceEqDiff, Nat.add_zero, Nat.zero_add, Bool.false_eq_true, Nat.add_sub_cancel, hb]
        · rw [h] at hb
          have hne : F (beh V t (xs V p F s i)) ≠ n - 1 - i := by
            intro e
            unfold tsP at hno
            rw [h, show F (beh V t (xs V p F s i)) + 1 = F (xs V p F s i) from by omega] at hno
            simp at hno
          have hFl : F (beh V t (xs V p F s i)) ≤ 1000000 := by
            rcases hD.2.2.1 _ hb2 with h1 | h1 <;> omega
          simp (disch := omega) only [pu_lit, pu_ob1N, hb, hbh, pu_eqF, ↓reduceIte, pu_oobF, pu_clamp, gb, hsub, pu_add]
      · have hb := x12_bit (x := canV V p) (v := tsF V p F (xs V p F s i)) (by omega) (by have := hcb.1; omega)
        rw [hcb.2] at hb
        have hbh := x12_behind a1 hw hcb.1 hx
        have hM2 : RM (sA M' 24 (nI i) (nI (tsF V p F (xs V p F s i)))) V := fun k hk => by rw [pu_sAn (by omega)]; exact a1 k hk
        have hbh2 := x12_behind hM2 hw hcb.1 hx
        have gb := a2 _ hbl
        have he : F (beh V (tsF V p F (xs V p F s i)) (xs V p F s i)) = n - 1 - i := by omega
        rw [he] at gb
        show F_X12_soonest_68 k kk (nI (canV V p)) (nI (xs V p F s i)) (nI n) (nI i) (nI (tsF V p F (xs V p F s i))) M' = _
        unfold F_X12_soonest_68
        simp (disch := omega) only [pu_lit, pu_ob1N, pu_nwN, hb, hbh, hbh2, pu_eqF, ↓reduceIte, pu_oobF, pu_clamp, gb, hsub, pu_add, xs]
  · obtain ⟨M', rfl, a1, a2, a3, a4⟩ := hz
    refine ⟨(nI n, sI M' 25 (nI n)), ⟨rfl, rfl, a4, a3.tr (FR.sI (by decide))⟩, fun k => ?_⟩
    show F_X12_soonest_58 k (nI (canV V p)) (nI (xs V p F s n)) (nI n) (nI n) M' = _
    unfold F_X12_soonest_58
    rw [if_pos (nI_le (Nat.le_refl _) (by omega)), pu_nwN]
/-! the class's breadth first -/
def QB (W : St) (q : Vt) (sz : Nat) : Prop := sz ≤ 256 ∧ (∀ j, j < sz → W.2.2.1 0 j = nI (q j) ∧ q j < 256 ∧ W.2.2.1 2 (q j) ≠ nT) ∧ (∀ y, y < 256 → W.2.2.1 2 y = nT ∨ ∃ j, j < sz ∧ q j = y) ∧ cn (fun y => decide (W.2.2.1 2 y ≠ nT)) 256 = sz
def enq (W : St) (y x t sz : Nat) : St := sA (sA (sA W 2 (nI y) (nI t)) 1 (nI y) (nI x)) 0 (nI sz) (nI y)
theorem enq_0 (W : St) {y x t sz : Nat} (hs : sz < 1000) (j : Nat) : (enq W y x t sz).2.2.1 0 j = if j = sz then nI y else W.2.2.1 0 j := by
  unfold enq
  rw [pu_sAe (by omega), pu_sAn (by omega), pu_sAn (by omega)]
theorem enq_1 (W : St) {y x t sz : Nat} (hs : y < 1000) (j : Nat) : (enq W y x t sz).2.2.1 1 j = if j = y then nI x else W.2.2.1 1 j := by
  unfold enq
  rw [pu_sAn (by omega), pu_sAe (by omega), pu_sAn (by omega)]
theorem enq_2 (W : St) {y x t sz : Nat} (hs : y < 1000) (j : Nat) : (enq W y x t sz).2.2.1 2 j = if j = y then nI t else W.2.2.1 2 j := by
  unfold enq
  rw [pu_sAn (by omega), pu_sAn (by omega), pu_sAe (by omega)]
theorem enq_r (W : St) {y x t sz r : Nat} (hr : 3 ≤ r) : (enq W y x t sz).2.2.1 r = W.2.2.1 r := by
  unfold enq
  rw [pu_sAn (by omega), pu_sAn (by omega), pu_sAn (by omega)]
theorem QB_enq (h : QB W q sz) {y x t : Nat} (hy : y < 256) (hu : W.2.2.1 2 y = nT) (ht : t < 8) : sz < 256 ∧ QB (enq W y x t sz) (up q sz y) (sz + 1) := by
  obtain ⟨h1, h2, h3, h4⟩ := h
  have hlt : sz < 256 := by
    have := cn_lt (P := fun y => decide (W.2.2.1 2 y ≠ nT)) (n := 256) hy (by simp [hu])
    omega
  refine ⟨hlt, by omega, fun j hj => ?_, fun z hz => ?_, ?_⟩
  · rw [enq_0 W (by omega), enq_2 W (by omega)]
    by_cases e : j = sz
    · rw [if_pos e, e, pu_upe, if_pos rfl]
      exact ⟨rfl, hy, nT_ne t (by omega)⟩
    · obtain ⟨a1, a2, a3⟩ := h2 j (by omega)
      rw [if_neg e, pu_upn e, if_neg (fun e2 => a3 (by rw [e2]; exact hu))]
      exact ⟨a1, a2, a3⟩
  · rw [enq_2 W (by omega)]
    by_cases e : z = y
    · exact Or.inr ⟨sz, by omega, by rw [pu_upe, e]⟩
    · rw [if_neg e]
      rcases h3 z hz with h5 | ⟨j, hj, e2⟩
      · exact Or.inl h5
      · exact Or.inr ⟨j, by omega, by rw [pu_upn (by omega)]; exact e2⟩
  · rw [cn_up (P := fun y => decide (W.2.2.1 2 y ≠ nT)) (Q := fun z => decide ((enq W y x t sz).2.2.1 2 z ≠ nT)) 256 hy (by simp [hu]) (by rw [decide_eq_true_eq, enq_2 W (by omega), if_pos rfl]; exact nT_ne t (by omega)) (fun z hz => by rw [enq_2 W (by omega), if_neg hz]), h4]
theorem bfs_t (hS : RS B V) (hw : WF V) {x : Nat} (hx : x < 256) (Inv : Nat → St → Vt → Nat → Prop) (h0 : Inv 0 W q sz) (hq : QB W q sz) (hst : ∀ t W q sz, t < V 0 → QB W q sz → Inv t W q sz → (cb V p t → W.2.2.1 2 (beh V t x) = nT → Inv (t + 1) (enq W (beh V t x) x t sz) (up q sz (beh V t x)) (sz + 1)) ∧ ((¬ cb V p t ∨ W.2.2.1 2 (beh V t x) ≠ nT) → Inv (t + 1) W q sz)) (wv : Int32) (i : Nat) : ∃ W' q' sz', QB W' q' sz' ∧ Inv (V 0) W' q' sz' ∧ ∀ K, L_X6_findSoonest_101 K (nI (canV V p)) wv (nI sz) (nI i) (nI x) 0 W B = K (nI (canV V p), wv, nI sz', nI (i + 1), W', B) := by
  have w0 := hw.1
  have e0 := hS.1
  have hcl := can_lt hw p
  have key := lp_invK (body := fun (K : Int32 × Int32 × Int32 × Int32 × St × St → Option (Int32 × St)) kz z => F_X6_findSoonest_101 K kz z.1 z.2.1 z.2.2.1 z.2.2.2.1 z.2.2.2.2.1 z.2.2.2.2.2.1 z.2.2.2.2.2.2.1 z.2.2.2.2.2.2.2) (fun t z => ∃ W' q' sz', z = (nI (canV V p), wv, nI sz', nI i, nI x, nI t, W', B) ∧ QB W' q' sz' ∧ Inv t W' q' sz') (V 0) (fun o => ∃ W' q' sz', o = (nI (canV V p), wv, nI sz', nI (i + 1), W', B) ∧ QB W' q' sz' ∧ Inv (V 0) W' q' sz') (fun t ht z hz => ?_) (fun z hz => ?_) (x0 := (nI (canV V p), wv, nI sz, nI i, nI x, nI 0, W, B)) ⟨W, q, sz, rfl, hq, h0⟩ (pu_FU (by omega : V 0 < 1000000))
  · obtain ⟨o, ⟨W', q', sz', rfl, h1, h2⟩, h3⟩ := key
    exact ⟨W', q', sz', h1, h2, h3⟩
  · obtain ⟨W', q', sz', rfl, a1, a2⟩ := hz
    obtain ⟨b1, b2⟩ := hst t W' q' sz' ht a1 a2
    have hbl := beh_lt V t hx
    have haf := x8_after hS hw ht hx
    have hsz := a1.1
    rcases Nat.mod_two_eq_zero_or_one (canV V p / 2 ^ t) with h | h
    · refine ⟨(nI (canV V p), wv, nI sz', nI i, nI x, nI (t + 1), W', B), ⟨W', q', sz', rfl, a1, b2 (Or.inl (fun hc => by have := hc.2; omega))⟩, fun K k => ?_⟩
      show F_X6_findSoonest_101 K k (nI (canV V p)) wv (nI sz') (nI i) (nI x) (nI t) W' B = _
      unfold F_X6_findSoonest_101 F_X6_findSoonest_180
      simp (disch := omega) only [↓pu_m1, pu_lit, ↓reduceIte, pu_leT, pu_leF, pu_ltT, pu_ltF, pu_eqT, pu_eqF, pu_eqO, pu_eqO2, pu_ltO, pu_leO, pu_subO, pu_subOF, pu_subT, pu_subF, pu_oobF, pu_clamp, pu_add, pu_sub, pu_mul, pu_and, pu_or, pu_xor, pu_xorO, pu_shl, pu_shr, pu_ushr, pu_nb0, pu_nb1, pu_ob1N, pu_ob2N, pu_ob3N, pu_ob4N, pu_nwN, pu_n1, pu_n7, pu_n31, pu_n255, pu_md, pu_one, pu_sI1, pu_sI2, pu_sA1, pu_sA21, pu_sA222, pu_sAe, pu_sAn, pu_sJ1, pu_sJ21, pu_sJ221, pu_sF1, pu_sF21, pu_sF222, pu_sFe, pu_sFn, pu_upe, pu_upn, Nat.reduceAdd, Nat.reduceSub, Nat.reduceMul, Nat.reduceMod, Nat.reduceAnd, Nat.reducePow, Nat.reduceEqDiff, Nat.add_zero, Nat.zero_add, Bool.false_eq_true, Nat.add_sub_cancel, e0, haf, h]
    · by_cases hu : W'.2.2.1 2 (beh V t x) = nT
      · obtain ⟨c1, c2⟩ := QB_enq (x := x) a1 hbl hu (by omega : t < 8)
        refine ⟨(nI (canV V p), wv, nI (sz' + 1), nI i, nI x, nI (t + 1), enq W' (beh V t x) x t sz', B), ⟨_, _, _, rfl, c2, b1 ⟨ht, h⟩ hu⟩, fun K k => ?_⟩
        show F_X6_findSoonest_101 K k (nI (canV V p)) wv (nI sz') (nI i) (nI x) (nI t) W' B = _
        unfold F_X6_findSoonest_101 F_X6_findSoonest_180 enq
        simp (disch := omega) only [↓pu_m1, pu_lit, ↓reduceIte, pu_leT, pu_leF, pu_ltT, pu_ltF, pu_eqT, pu_eqF, pu_eqO, pu_eqO2, pu_ltO, pu_leO, pu_subO, pu_subOF, pu_subT, pu_subF, pu_oobF, pu_clamp, pu_add, pu_sub, pu_mul, pu_and, pu_or, pu_xor, pu_xorO, pu_shl, pu_shr, pu_ushr, pu_nb0, pu_nb1, pu_ob1N, pu_ob2N, pu_ob3N, pu_ob4N, pu_nwN, pu_n1, pu_n7, pu_n31, pu_n255, pu_md, pu_one, pu_sI1, pu_sI2, pu_sA1, pu_sA21, pu_sA222, pu_sAe, pu_sAn, pu_sJ1, pu_sJ21, pu_sJ221, pu_sF1, pu_sF21, pu_sF222, pu_sFe, pu_sFn, pu_upe, pu_upn, Nat.reduceAdd, Nat.reduceSub, Nat.reduceMul, Nat.reduceMod, Nat.reduceAnd, Nat.reducePow, Nat.reduceEqDiff, Nat.add_zero, Nat.zero_add, Bool.false_eq_true, Nat.add_sub_cancel, e0, haf, h, ↓pu_m2, hu]
      · refine ⟨(nI (canV V p), wv, nI sz', nI i, nI x, nI (t + 1), W', B), ⟨W', q', sz', rfl, a1, b2 (Or.inr hu)⟩, fun K k => ?_⟩
        show F_X6_findSoonest_101 K k (nI (canV V p)) wv (nI sz') (nI i) (nI x) (nI t) W' B = _
        unfold F_X6_findSoonest_101 F_X6_findSoonest_180
        simp (disch := omega) only [↓pu_m1, pu_lit, ↓reduceIte, pu_leT, pu_leF, pu_ltT, pu_ltF, pu_eqT, pu_eqF, pu_eqO, pu_eqO2, pu_ltO, pu_leO, pu_subO, pu_subOF, pu_subT, pu_subF, pu_oobF, pu_clamp, pu_add, pu_sub, pu_mul, pu_and, pu_or, pu_xor, pu_xorO, pu_shl, pu_shr, pu_ushr, pu_nb0, pu_nb1, pu_ob1N, pu_ob2N, pu_ob3N, pu_ob4N, pu_nwN, pu_n1, pu_n7, pu_n31, pu_n255, pu_md, pu_one, pu_sI1, pu_sI2, pu_sA1, pu_sA21, pu_sA222, pu_sAe, pu_sAn, pu_sJ1, pu_sJ21, pu_sJ221, pu_sF1, pu_sF21, pu_sF222, pu_sFe, pu_sFn, pu_upe, pu_upn, Nat.reduceAdd, Nat.reduceSub, Nat.reduceMul, Nat.reduceMod, Nat.reduceAnd, Nat.reducePow, Nat.reduceEqDiff, Nat.add_zero, Nat.zero_add, Bool.false_eq_true, Nat.add_sub_cancel, e0, haf, h, ↓pu_m2, hu]
  · obtain ⟨W', q', sz', rfl, a1, a2⟩ := hz
    refine ⟨_, ⟨W', q', sz', rfl, a1, a2⟩, fun K k => ?_⟩
    show F_X6_findSoonest_101 K k (nI (canV V p)) wv (nI sz') (nI i) (nI x) (nI (V 0)) W' B = _
    unfold F_X6_findSoonest_101
    simp (disch := omega) only [↓pu_m1, pu_lit, ↓reduceIte, pu_leT, pu_leF, pu_ltT, pu_ltF, pu_eqT, pu_eqF, pu_eqO, pu_eqO2, pu_ltO, pu_leO, pu_subO, pu_subOF, pu_subT, pu_subF, pu_oobF, pu_clamp, pu_add, pu_sub, pu_mul, pu_and, pu_or, pu_xor, pu_xorO, pu_shl, pu_shr, pu_ushr, pu_nb0, pu_nb1, pu_ob1N, pu_ob2N, pu_ob3N, pu_ob4N, pu_nwN, pu_n1, pu_n7, pu_n31, pu_n255, pu_md, pu_one, pu_sI1, pu_sI2, pu_sA1, pu_sA21, pu_sA222, pu_sAe, pu_sAn, pu_sJ1, pu_sJ21, pu_sJ221, pu_sF1, pu_sF21, pu_sF222, pu_sFe, pu_sFn, pu_upe, pu_upn, Nat.reduceAdd, Nat.reduceSub, Nat.reduceMul, Nat.reduceMod, Nat.reduceAnd, Nat.reducePow, Nat.reduceEqDiff, Nat.add_zero, Nat.zero_add, Bool.false_eq_true, Nat.add_sub_cancel, e0]
/-- the way back -/
theorem keepS (hs : ∀ j, j ≤ n → xs V p F s j < 256) (ht : ∀ j, j < n → tsF V p F (xs V p F s j) < 8) (hn : n < 256) (c0 : W.2.2.1 2 s = nO) (c1 : ∀ j, j < n → W.2.2.1 2 (xs V p F s (j + 1)) = nI (tsF V p F (xs V p F s j)) ∧ W.2.2.1 1 (xs V p F s (j + 1)) = nI (xs V p F s j)) : ∃ W', F_X6_keepSoonest W (nI (xs V p F s n)) = some W' ∧ W'.1 4 = nI n ∧ (∀ i, i < n → W'.2.2.1 3 i = nI (tsF V p F (xs V p F s i))) ∧ W'.1 7 = W.1 7 ∧ W'.2.2.1 6 = W.2.2.1 6 := by
  have k1 : F_X6_keepSoonest W (nI (xs V p F s n)) = F_X6_keepSoonest_34 (nI (xs V p F s n)) (nI n) W := by
    unfold F_X6_keepSoonest L_X6_keepSoonest_4
    refine lp_upO (fun j => (nI (xs V p F s n), nI j, nI (xs V p F s (n - j)), W)) n (fun j hj k => ?_) (fun k => ?_) (pu_FU (by omega))
    · have hx := hs (n - j) (by omega)
      have ht2 := ht (n - j - 1) (by omega)
      have h1 := c1 (n - j - 1) (by omega)
      rw [show n - j - 1 + 1 = n - j from by omega] at h1
      obtain ⟨h1, h2⟩ := h1
      show F_X6_keepSoonest_4 k (nI (xs V p F s n)) (nI j) (nI (xs V p F s (n - j))) W = k (nI (xs V p F s n), nI (j + 1), nI (xs V p F s (n - (j + 1))), W)
      rw [show n - (j + 1) = n - j - 1 from by omega]
      unfold F_X6_keepSoonest_4
      simp (disch := omega) only [↓pu_m1, pu_lit, ↓reduceIte, pu_leT, pu_leF, pu_ltT, pu_ltF, pu_eqT, pu_eqF, pu_eqO, pu_eqO2, pu_ltO, pu_leO, pu_subO, pu_subOF, pu_subT, pu_subF, pu_oobF, pu_clamp, pu_add, pu_sub, pu_mul, pu_and, pu_or, pu_xor, pu_xorO, pu_shl, pu_shr, pu_ushr, pu_nb0, pu_nb1, pu_ob1N, pu_ob2N, pu_ob3N, pu_ob4N, pu_nwN, pu_n1, pu_n7, pu_n31, pu_n255, pu_md, pu_one, pu_sI1, pu_sI2, pu_sA1, pu_sA21, pu_sA222, pu_sAe, pu_sAn, pu_sJ1, pu_sJ21, pu_sJ221, pu_sF1, pu_sF21, pu_sF222, pu_sFe, pu_sFn, pu_upe, pu_upn, Nat.reduceAdd, Nat.reduceSub, Nat.reduceMul, Nat.reduceMod, Nat.reduceAnd, Nat.reducePow, Nat.reduceEqDiff, Nat.add_zero, Nat.zero_add, Bool.false_eq_true, Nat.add_sub_cancel, h1, h2]
    · have hx := hs 0 (by omega)
      have c0' : W.2.2.1 2 (xs V p F s 0) = nO := c0
      show F_X6_keepSoonest_4 k (nI (xs V p F s n)) (nI n) (nI (xs V p F s (n - n))) W = _
      rw [Nat.sub_self]
      unfold F_X6_keepSoonest_4
      simp (disch := omega) only [↓pu_m1, pu_lit, ↓reduceIte, pu_leT, pu_leF, pu_ltT, pu_ltF, pu_eqT, pu_eqF, pu_eqO, pu_eqO2, pu_ltO, pu_leO, pu_subO, pu_subOF, pu_subT, pu_subF, pu_oobF, pu_clamp, pu_add, pu_sub, pu_mul, pu_and, pu_or, pu_xor, pu_xorO, pu_shl, pu_shr, pu_ushr, pu_nb0, pu_nb1, pu_ob1N, pu_ob2N, pu_ob3N, pu_ob4N, pu_nwN, pu_n1, pu_n7, pu_n31, pu_n255, pu_md, pu_one, pu_sI1, pu_sI2, pu_sA1, pu_sA21, pu_sA222, pu_sAe, pu_sAn, pu_sJ1, pu_sJ21, pu_sJ221, pu_sF1, pu_sF21, pu_sF222, pu_sFe, pu_sFn, pu_upe, pu_upn, Nat.reduceAdd, Nat.reduceSub, Nat.reduceMul, Nat.reduceMod, Nat.reduceAnd, Nat.reducePow, Nat.reduceEqDiff, Nat.add_zero, Nat.zero_add, Bool.false_eq_true, Nat.add_sub_cancel, c0']
  have key := lp_inv (body := fun kz z => F_X6_keepSoonest_41 kz z.1 z.2.1 z.2.2.1 z.2.2.2) (fun j z => ∃ W', z = (nI n, nI (xs V p F s (n - j)), nI (n - j) - nI 1, W') ∧ (∀ r, r ≠ 3 → W'.2.2.1 r = W.2.2.1 r) ∧ W'.1 = W.1 ∧ ∀ k, n - j ≤ k → k < n → W'.2.2.1 3 k = nI (tsF V p F (xs V p F s k))) n (fun W' => W'.1 4 = nI n ∧ (∀ i, i < n → W'.2.2.1 3 i = nI (tsF V p F (xs V p F s i))) ∧ W'.1 7 = W.1 7 ∧ W'.2.2.1 6 = W.2.2.1 6) (fun j hj z hz => ?_) (fun z hz => ?_) (x0 := (nI n, nI (xs V p F s (n - 0)), nI (n - 0) - nI 1, W)) ⟨W, rfl, fun _ _ => rfl, rfl, fun k h1 h2 => by omega⟩ (pu_FU (by omega : n < 1000000))
  · obtain ⟨W', h1, h2⟩ := key
    refine ⟨W', ?_, h1⟩
    rw [k1]
    unfold F_X6_keepSoonest_34 L_X6_keepSoonest_41
    exact h2
  · obtain ⟨W', rfl, a1, a2, a3⟩ := hz
    have hx := hs (n - j) (by omega)
    have h1 := c1 (n - j - 1) (by omega)
    rw [show n - j - 1 + 1 = n - j from by omega] at h1
    obtain ⟨h1, h2⟩ := h1
    rw [← a1 2 (by omega)] at h1
    rw [← a1 1 (by omega)] at h2
    have e1 : n - (j + 1) = n - j - 1 := by omega
    refine ⟨(nI n, nI (xs V p F s (n - j - 1)), nI (n - j - 1) - nI 1, sA W' 3 (nI (n - j - 1)) (nI (tsF V p F (xs V p F s (n - j - 1))))), ⟨sA W' 3 (nI (n - j - 1)) (nI (tsF V p F (xs V p F s (n - j - 1)))), by rw [e1], fun r hr => by rw [pu_sAn hr]; exact a1 r hr, a2, fun k h3 h4 => ?_⟩, fun k => ?_⟩
    · rw [pu_sAe (by omega)]
      by_cases e : k = n - j - 1
      · rw [if_pos e, e]
      · rw [if_neg e]; exact a3 k (by omega) h4
    · have hsub : nI (n - j) - nI 1 = nI (n - j - 1) := pu_sub (by omega)
      show F_X6_keepSoonest_41 k (nI n) (nI (xs V p F s (n - j))) (nI (n - j) - nI 1) W' = _
      unfold F_X6_keepSoonest_41
      rw [hsub, if_neg (nI_pos (by omega)), if_neg (by rw [pu_oobF hx (by omega)]; exact id), if_neg (by rw [pu_oobF (by omega) (by omega)]; exact id), pu_nwN, if_neg (by rw [pu_oobF hx (by omega)]; exact id), pu_clamp (by omega), h1, pu_sAn (by omega), h2, dn_all]
  · obtain ⟨W', rfl, a1, a2, a3⟩ := hz
    refine ⟨sI W' 4 (nI n), ⟨rfl, fun i hi => a3 i (by omega) hi, ?_, a1 6 (by omega)⟩, fun k => ?_⟩
    · show W'.1 7 = _
      rw [a2]
    · show F_X6_keepSoonest_41 k (nI n) (nI (xs V p F s (n - n))) (nI (n - n) - nI 1) W' = _
      unfold F_X6_keepSoonest_41
      rw [Nat.sub_self, if_pos (by decide), pu_nwN]
/-- where the class stands: m of the row's sets are found, the last of them at ps -/
def BI (W0 : St) (V : Vt) (p : Nat) (F : Vt) (s n m ps i : Nat) (W : St) (q : Vt) (sz : Nat) : Prop := m ≤ n ∧ m ≤ ps ∧ ps < sz ∧ i ≤ ps ∧ q ps = xs V p F s m ∧ (∀ j, j < sz → n ≤ F (q j) + m) ∧ (∀ j, j < ps → n < F (q j) + m) ∧ W.2.2.1 2 s = nO ∧ (∀ j, j < m → W.2.2.1 2 (xs V p F s (j + 1)) = nI (tsF V p F (xs V p F s j)) ∧ W.2.2.1 1 (xs V p F s (j + 1)) = nI (xs V p F s j)) ∧ W.1 = W0.1 ∧ ∀ r, 3 ≤ r → W.2.2.1 r = W0.2.2.1 r
theorem BI_enq {W0 : St} {m ps i : Nat} (hD : DS V p F) (hs : s < 256) (hn : F s = n) (hf : n ≤ 256) (w0 : V 0 ≤ 7) (h : BI W0 V p F s n m ps i W q sz) (hq : QB W q sz) {y x t : Nat} (hy : y < 256) (hu : W.2.2.1 2 y = nT) (hF : n ≤ F y + m) : BI W0 V p F s n m ps i (enq W y x t sz) (up q sz y) (sz + 1) := by
  obtain ⟨h1, h2, h3, h4, h5, h6, h7, h8, h9, h10, h11⟩ := h
  have hsz := hq.1
  refine ⟨h1, h2, by omega, h4, by rw [pu_upn (by omega)]; exact h5, fun j hj => ?_, fun j hj => ?_, ?_, fun j hj => ?_, h10, fun r hr => by rw [enq_r W hr]; exact h11 r hr⟩
  · by_cases e : j = sz
    · rw [e, pu_upe]; exact hF
    · rw [pu_upn e]; exact h6 j (by omega)
  · rw [pu_upn (by omega)]; exact h7 j hj
  · rw [enq_2 W (by omega), if_neg (fun e => by rw [← e, h8] at hu; exact nT_nO hu)]; exact h8
  · obtain ⟨a1, a2⟩ := h9 j hj
    have hne : xs V p F s (j + 1) ≠ y := fun e => by
      rw [← e, a1] at hu
      have hx := xs_ok hD hs hn (by omega) j (by omega)
      have := (ts_ok hD hx.1 (by omega) (by omega)).1.1
      exact nT_ne _ (by omega) hu
    rw [enq_2 W (by omega), enq_1 W (by omega), if_neg hne, if_neg hne]
    exact ⟨a1, a2⟩
def RSo (W M : St) : Prop := ∃ n, n ≤ 256 ∧ W.1 4 = nI n ∧ (M.1 25 = nI n ∨ (n = 0 ∧ M.1 25 = nO)) ∧ ∀ i, i < n → W.2.2.1 3 i = M.2.2.1 24 i
theorem goal_iff (hw : WF V) (hp : p < V 1) {x : Nat} (hx : x < 256) (hD : DS V p F) : (nI x &&& nI (V (36 + p)) = nI (V (36 + p))) ↔ F x = 0 := by
  have h36 := hw.2.2.2.2.2.2.2.2.2.2.1 p hp
  have ht := plz_tb _ _ h36 hx
  have hl : x &&& V (36 + p) < 256 := and_lt hx
  rw [hD.2.1 x hx, pu_and, nI_eq (by omega) (by omega), ← ht]
  unfold plz
  simp
theorem bfs_fin (hS : RS B V) (hw : WF V) {W0 : St} (hp : p < V 1) (hD : DS V p F) (hs : s < 256) (hn : F s = n) (hf : n ≤ 256) (hq : QB W q sz) (hB : BI W0 V p F s n 0 0 0 W q sz) : ∃ W', L_X6_findSoonest_53 (nI (canV V p)) (nI (V (36 + p))) (nI sz) 0 W B = some (nI n, W') ∧ W'.1 4 = nI n ∧ (∀ i, i < n → W'.2.2.1 3 i = nI (tsF V p F (xs V p F s i))) ∧ W'.1 7 = W0.1 7 ∧ W'.2.2.1 6 = W0.2.2.1 6 ∧ n < 256 := by
  have w0 := hw.1
  have key := lp_inv2 (body := fun kz z => F_X6_findSoonest_53 kz z.1 z.2.1 z.2.2.1 z.2.2.2.1 z.2.2.2.2.1 z.2.2.2.2.2) (fun i z => ∃ W' q' sz' m ps, z = (nI (canV V p), nI (V (36 + p)), nI sz', nI i, W', B) ∧ QB W' q' sz' ∧ BI W0 V p F s n m ps i W' q' sz') 256 (fun o => o.1 = nI n ∧ o.2.1 4 = nI n ∧ (∀ i, i < n → o.2.2.2.1 3 i = nI (tsF V p F (xs V p F s i))) ∧ o.2.1 7 = W0.1 7 ∧ o.2.2.2.1 6 = W0.2.2.1 6 ∧ n < 256) (fun i hi z hz => ?_) (x0 := (nI (canV V p), nI (V (36 + p)), nI sz, nI 0, W, B)) ⟨W, q, sz, 0, 0, rfl, hq, hB⟩ (pu_FU (by omega : 256 < 1000000))
  · obtain ⟨o, ⟨h1, h2⟩, h3⟩ := key
    refine ⟨o.2, ?_, h2⟩
    rw [show some (nI n, o.2) = some o from by rw [← h1]]
    exact h3
  · obtain ⟨W', q', sz', m, ps, rfl, a1, a2⟩ := hz
    have a2' := a2
    obtain ⟨h1, h2, h3, h4, h5, h6, h7, h8, h9, h10, h11⟩ := a2
    have hsz := a1.1
    obtain ⟨b1, b2, b3⟩ := a1.2.1 i (by omega)
    have hg := goal_iff (F := F) hw hp b2 hD
    have hxm := xs_ok hD hs hn (by omega) m h1
    by_cases hend : i = ps ∧ m = n
    · obtain ⟨e1, e2⟩ := hend
      subst e1 e2
      left
      rw [h5] at b1 b2 hg
      have hg0 := hg.mpr (by omega)
      obtain ⟨W2, c1, c2, c3, c4, c5⟩ := keepS (W := W') (fun j hj => (xs_ok hD hs hn (by omega) j hj).1) (fun j hj => by
        have hx := xs_ok hD hs hn (by omega) j (by omega)
        have := (ts_ok hD hx.1 (by omega) (by omega)).1.1
        omega) (by omega : m < 256) h8 h9
      refine ⟨(nI m, W2), ⟨rfl, c2, c3, by rw [c4, h10], by rw [c5, h11 6 (by omega)], by omega⟩, fun k => ?_⟩
      show F_X6_findSoonest_53 k (nI (canV V p)) (nI (V (36 + p))) (nI sz') (nI i) W' B = _
      unfold F_X6_findSoonest_53
      rw [if_neg (nI_ge (by omega) (by omega)), if_neg (show ¬ (256 : Int32) ≤ nI i from nI_ge (a := i) (b := 256) (by omega) (by omega)), if_neg (by rw [pu_oobF (by omega) (by omega)]; exact id), pu_clamp (by omega), b1, if_pos hg0, c1, pu_ob1N, c2]
    · right
      have hng : F (q' i) ≠ 0 := by
        by_cases e : i = ps
        · subst e
          rw [h5]; omega
        · have := h7 i (by omega); omega
      have hng0 : ¬ (nI (q' i) &&& nI (V (36 + p)) = nI (V (36 + p))) := fun e => hng (hg.mp e)
      have hgo : ∀ k, F_X6_findSoonest_53 k (nI (canV V p)) (nI (V (36 + p))) (nI sz') (nI i) W' B = L_X6_findSoonest_101 k (nI (canV V p)) (nI (V (36 + p))) (nI sz') (nI i) (nI (q' i)) 0 W' B := by
        intro k
        unfold F_X6_findSoonest_53
        rw [if_neg (nI_ge (by omega) (by omega)), if_neg (show ¬ (256 : Int32) ≤ nI i from nI_ge (a := i) (b := 256) (by omega) (by omega)), if_neg (by rw [pu_oobF (by omega) (by omega)]; exact id), pu_clamp (by omega), b1, if_neg hng0]
      by_cases e : i = ps
      · subst e
        have hmn : m < n := by
          rcases Nat.lt_or_ge m n with h | h
          · exact h
          · exact absurd ⟨rfl, by omega⟩ hend
        rw [h5] at hgo
        obtain ⟨hcb, hst⟩ := ts_ok hD hxm.1 (by omega) (by omega)
        have bk := bfs_t (p := p) hS hw hxm.1 (fun t W q sz => (t ≤ tsF V p F (xs V p F s m) ∧ BI W0 V p F s n m i i W q sz) ∨ (tsF V p F (xs V p F s m) < t ∧ ∃ ps', BI W0 V p F s n (m + 1) ps' (i + 1) W q sz)) (Or.inl ⟨by omega, a2'⟩) a1 (fun t W q sz ht hQ hI => ?_) (nI (V (36 + p))) i
        · obtain ⟨W2, q2, sz2, d1, d2, d3⟩ := bk
          rcases d2 with ⟨d4, -⟩ | ⟨-, ps', d4⟩
          · have := hcb.1; omega
          · exact ⟨by omega, _, ⟨W2, q2, sz2, m + 1, ps', rfl, d1, d4⟩, fun k => (hgo k).trans (d3 k)⟩
        · have hbl := beh_lt V t hxm.1
          rcases hI with ⟨g1, g2⟩ | ⟨g1, ps', g2⟩
          · by_cases et : t = tsF V p F (xs V p F s m)
            · have hy : beh V t (xs V p F s m) = xs V p F s (m + 1) := by rw [et]; rfl
              have hyF := xs_ok hD hs hn (by omega) (m + 1) (by omega)
              have hun : W.2.2.1 2 (beh V t (xs V p F s m)) = nT := by
                rcases hQ.2.2.1 _ hbl with h | ⟨j, hj, ej⟩
                · exact h
                · have := g2.2.2.2.2.2.1 j hj
                  rw [ej, hy] at this
                  omega
              refine ⟨fun _ _ => Or.inr ⟨by omega, sz, ?_⟩, fun hc => ?_⟩
              · have hsz2 := hQ.1
                obtain ⟨k1, k2, k3, k4, k5, k6, k7, k8, k9, k10, k11⟩ := g2
                have base := BI_enq (t := t) (x := xs V p F s m) hD hs hn hf w0 ⟨k1, k2, k3, k4, k5, k6, k7, k8, k9, k10, k11⟩ hQ hbl hun
                refine ⟨by omega, by omega, by omega, by omega, by rw [pu_upe]; exact hy, fun j hj => ?_, fun j hj => ?_, ?_, fun j hj => ?_, k10, fun r hr => by rw [enq_r W hr]; exact k11 r hr⟩
                · by_cases ej : j = sz
                  · rw [ej, pu_upe, hy]; omega
                  · rw [pu_upn ej]; have := k6 j (by omega); omega
                · rw [pu_upn (by omega)]; have := k6 j hj; omega
                · rw [enq_2 W (by omega), if_neg (fun e => by rw [← e, k8] at hun; exact nT_nO hun)]; exact k8
                · by_cases ej : j = m
                  · rw [enq_2 W (by omega), enq_1 W (by omega), ej, hy, if_pos rfl, if_pos rfl, et]
                    exact ⟨rfl, rfl⟩
                  · obtain ⟨a1, a2⟩ := k9 j (by omega)
                    have hne : xs V p F s (j + 1) ≠ beh V t (xs V p F s m) := fun e => by
                      rw [← e, a1] at hun
                      have hx := xs_ok hD hs hn (by omega) j (by omega)
                      have := (ts_ok hD hx.1 (by omega) (by omega)).1.1
                      exact nT_ne _ (by omega) hun
                    rw [enq_2 W (by omega), enq_1 W (by omega), if_neg hne, if_neg hne]
                    exact ⟨a1, a2⟩
              · exfalso
                rcases hc with hc | hc
                · exact hc (by rw [et]; exact hcb)
                · exact hc hun
            · refine ⟨fun hc hun => Or.inl ⟨by omega, BI_enq hD hs hn hf w0 g2 hQ hbl hun ?_⟩, fun _ => Or.inl ⟨by omega, g2⟩⟩
              have hno := fs_no (tsP V p F (xs V p F s m)) (V 0) 0 t (by omega) (by unfold tsF at g1 et; omega)
              have h12 := hD.1 _ t hxm.1 hc
              have hne : F (beh V t (xs V p F s m)) + 1 ≠ F (xs V p F s m) := by
                intro e2
                unfold tsP at hno
                rw [hc.2, e2] at hno
                simp at hno
              omega
          · refine ⟨fun hc hun => Or.inr ⟨by omega, ps', BI_enq hD hs hn hf w0 g2 hQ hbl hun ?_⟩, fun _ => Or.inr ⟨by omega, ps', g2⟩⟩
            have h12 := hD.1 _ t hxm.1 hc
            omega
      · have bk := bfs_t (p := p) hS hw b2 (fun _ W q sz => BI W0 V p F s n m ps (i + 1) W q sz) ⟨h1, h2, h3, by omega, h5, h6, h7, h8, h9, h10, h11⟩ a1 (fun t W q sz ht hQ hI => ?_) (nI (V (36 + p))) i
        · obtain ⟨W2, q2, sz2, d1, d2, d3⟩ := bk
          exact ⟨by omega, _, ⟨W2, q2, sz2, m, ps, rfl, d1, d2⟩, fun k => (hgo k).trans (d3 k)⟩
        · refine ⟨fun hc hun => BI_enq hD hs hn hf w0 hI hQ (beh_lt V t b2) hun ?_, fun _ => hI⟩
          have h12 := hD.1 _ t b2 hc
          have h13 := h7 i (by omega)
          omega
theorem bfs_inf (hS : RS B V) (hw : WF V) {W0 : St} (hp : p < V 1) (hD : DS V p F) (hq : QB W q sz) (hB : (∀ j, j < sz → F (q j) = 1000000) ∧ W.1 = W0.1 ∧ ∀ r, 3 ≤ r → W.2.2.1 r = W0.2.2.1 r) : ∃ W', L_X6_findSoonest_53 (nI (canV V p)) (nI (V (36 + p))) (nI sz) 0 W B = some (nO, W') ∧ W'.1 = W0.1 ∧ ∀ r, 3 ≤ r → W'.2.2.1 r = W0.2.2.1 r := by
  have key := lp_inv2 (body := fun kz z => F_X6_findSoonest_53 kz z.1 z.2.1 z.2.2.1 z.2.2.2.1 z.2.2.2.2.1 z.2.2.2.2.2) (fun i z => ∃ W' q' sz', z = (nI (canV V p), nI (V (36 + p)), nI sz', nI i, W', B) ∧ QB W' q' sz' ∧ (∀ j, j < sz' → F (q' j) = 1000000) ∧ W'.1 = W0.1 ∧ ∀ r, 3 ≤ r → W'.2.2.1 r = W0.2.2.1 r) 256 (fun o => o.1 = nO ∧ o.2.1 = W0.1 ∧ ∀ r, 3 ≤ r → o.2.2.2.1 r = W0.2.2.1 r) (fun i hi z hz => ?_) (x0 := (nI (canV V p), nI (V (36 + p)), nI sz, nI 0, W, B)) ⟨W, q, sz, rfl, hq, hB⟩ (pu_FU (by omega : 256 < 1000000))
  · obtain ⟨o, ⟨h1, h2⟩, h3⟩ := key
    refine ⟨o.2, ?_, h2⟩
    rw [show some (nO, o.2) = some o from by rw [← h1]]
    exact h3
  · obtain ⟨W', q', sz', rfl, a1, a2, a3, a4⟩ := hz
    have hsz := a1.1
    by_cases hlt : i < sz'
    · right
      obtain ⟨b1, b2, b3⟩ := a1.2.1 i hlt
      have hg := goal_iff (F := F) hw hp b2 hD
      have hFi := a2 i hlt
      have hng0 : ¬ (nI (q' i) &&& nI (V (36 + p)) = nI (V (36 + p))) := fun e => by have := hg.mp e; omega
      have bk := bfs_t (p := p) hS hw b2 (fun _ W q sz => (∀ j, j < sz → F (q j) = 1000000) ∧ W.1 = W0.1 ∧ ∀ r, 3 ≤ r → W.2.2.1 r = W0.2.2.1 r) ⟨a2, a3, a4⟩ a1 (fun t W q sz ht hQ hI => ⟨fun hc hun => ⟨fun j hj => ?_, hI.2.1, fun r hr => by rw [enq_r W hr]; exact hI.2.2 r hr⟩, fun _ => hI⟩) (nI (V (36 + p))) i
      · obtain ⟨W2, q2, sz2, d1, d2, d3⟩ := bk
        refine ⟨by omega, _, ⟨W2, q2, sz2, rfl, d1, d2⟩, fun k => ?_⟩
        show F_X6_findSoonest_53 k (nI (canV V p)) (nI (V (36 + p))) (nI sz') (nI i) W' B = _
        unfold F_X6_findSoonest_53
        rw [if_neg (nI_ge (by omega) (by omega)), if_neg (show ¬ (256 : Int32) ≤ nI i from nI_ge (a := i) (b := 256) (by omega) (by omega)), if_neg (by rw [pu_oobF (by omega) (by omega)]; exact id), pu_clamp (by omega), b1, if_neg hng0]
        exact d3 k
      · by_cases ej : j = sz
        · rw [ej, pu_upe]
          have h12 := hD.1 _ t b2 hc
          rcases hD.2.2.1 _ (beh_lt V t b2) with h | h
          · exact h
          · omega
        · rw [pu_upn ej]; exact hI.1 j (by omega)
    · left
      refine ⟨(nO, W'), ⟨rfl, a3, a4⟩, fun k => ?_⟩
      show F_X6_findSoonest_53 k (nI (canV V p)) (nI (V (36 + p))) (nI sz') (nI i) W' B = _
      unfold F_X6_findSoonest_53
      rw [if_pos (nI_le (by omega) (by omega))]
      rfl
theorem p_soonest (hS : RS B V) (hM : RM M V) (hw : WF V) (hR : RSo W M) (x : Int32) : ∃ r W' M', F_X11_soonest T W B x = some (r, W') ∧ F_X12_soonest M x = some (r, M') ∧ RSo W' M' ∧ W'.1 7 = W.1 7 ∧ W'.2.2.1 6 = W.2.2.1 6 ∧ FR [0, 25] [23, 24] [] M M' := by
  have hM0 := RM_sI hM 0 (nI 0)
  have w1 := hw.2.1
  unfold F_X11_soonest F_X12_soonest
  rcases two_P hS hM0 hw x with ⟨p, hp, rfl, e1, e2⟩ | ⟨e1, e2⟩
  · have h59 := hw.2.2.2.2.2.2.2.2.1 p hp
    have c1 := x8_can hS hw hp
    have c2 := x12_can hM0 hw hp
    have f9 := hS.2.2.2.2.2.2.2.2.1 p hp
    have f10 := hS.2.2.2.2.2.2.2.2.2.1 p hp
    obtain ⟨F, M1, d1, d2, d3, d4, d5⟩ := x12_few hM0 hw hp
    have g59 := d3 (59 + p) (by omega)
    have gF := d2 _ h59
    have hF4 : FR [0, 25] [23, 24] [] M M1 := (FR.sI (by decide)).tr (d4.mono (by decide) (by decide) (by decide))
    have hfind : F_X6_findSoonest W B (nI p) = L_X6_findSoonest_53 (nI (canV V p)) (nI (V (36 + p))) 1 0 (sA (sA (sF W 2 (fun _ => nT)) 0 (nI 0) (nI (V (59 + p)))) 2 (nI (V (59 + p))) nO) B := by
      unfold F_X6_findSoonest
      simp (disch := omega) only [↓pu_m1, pu_lit, ↓reduceIte, pu_leT, pu_leF, pu_ltT, pu_ltF, pu_eqT, pu_eqF, pu_eqO, pu_eqO2, pu_ltO, pu_leO, pu_subO, pu_subOF, pu_subT, pu_subF, pu_oobF, pu_clamp, pu_add, pu_sub, pu_mul, pu_and, pu_or, pu_xor, pu_xorO, pu_shl, pu_shr, pu_ushr, pu_nb0, pu_nb1, pu_ob1N, pu_ob2N, pu_ob3N, pu_ob4N, pu_nwN, pu_n1, pu_n7, pu_n31, pu_n255, pu_md, pu_one, pu_sI1, pu_sI2, pu_sA1, pu_sA21, pu_sA222, pu_sAe, pu_sAn, pu_sJ1, pu_sJ21, pu_sJ221, pu_sF1, pu_sF21, pu_sF222, pu_sFe, pu_sFn, pu_upe, pu_upn, Nat.reduceAdd, Nat.reduceSub, Nat.reduceMul, Nat.reduceMod, Nat.reduceAnd, Nat.reducePow, Nat.reduceEqDiff, Nat.add_zero, Nat.zero_add, Bool.false_eq_true, Nat.add_sub_cancel, c1, f9, f10, ↓pu_m2]
    have r2 : ∀ y, (sA (sA (sF W 2 (fun _ => nT)) 0 (nI 0) (nI (V (59 + p)))) 2 (nI (V (59 + p))) nO).2.2.1 2 y = if y = V (59 + p) then nO else nT := by
      intro y
      rw [pu_sAe (by omega), pu_sAn (by omega), pu_sFe]
    have hQ : QB (sA (sA (sF W 2 (fun _ => nT)) 0 (nI 0) (nI (V (59 + p)))) 2 (nI (V (59 + p))) nO) (fun _ => V (59 + p)) 1 := by
      refine ⟨by omega, fun j hj => ⟨?_, h59, ?_⟩, fun y hy => ?_, ?_⟩
      · rw [pu_sAn (by omega), pu_sAe (by omega), if_pos (by omega)]
      · rw [r2, if_pos rfl]; exact nT_nO
      · rw [r2]
        by_cases e : y = V (59 + p)
        · exact Or.inr ⟨0, by omega, e.symm⟩
        · exact Or.inl (if_neg e)
      · have hz : ∀ n, cn (fun _ => false) n = 0 := by
          intro n
          induction n with
          | zero => rfl
          | succ n ih => simp only [cn]; rw [ih]; rfl
        rw [cn_up (P := fun _ => false) 256 h59 rfl (by rw [decide_eq_true_eq, r2, if_pos rfl]; exact nT_nO) (fun z hz => by rw [decide_eq_false_iff_not, r2, if_neg hz]; exact fun h => h rfl), hz]
    have hfr : (sA (sA (sF W 2 (fun _ => nT)) 0 (nI 0) (nI (V (59 + p)))) 2 (nI (V (59 + p))) nO).1 = W.1 ∧ ∀ r, 3 ≤ r → (sA (sA (sF W 2 (fun _ => nT)) 0 (nI 0) (nI (V (59 + p)))) 2 (nI (V (59 + p))) nO).2.2.1 r = W.2.2.1 r := ⟨rfl, fun r hr => by rw [pu_sAn (by omega), pu_sAn (by omega), pu_sFn (by omega)]⟩
    rcases d5.2.2.1 _ h59 with hinf | hfin
    · obtain ⟨W', a1, a2, a3⟩ := bfs_inf (W0 := W) hS hw hp d5 hQ ⟨fun _ _ => hinf, hfr⟩
      have a1' : L_X6_findSoonest_53 (nI (canV V p)) (nI (V (36 + p))) 1 0 (sA (sA (sF W 2 (fun _ => nT)) 0 (nI 0) (nI (V (59 + p)))) 2 (nI (V (59 + p))) nO) B = some (nO, W') := a1
      rw [← hfind] at a1'
      rw [hinf] at gF
      refine ⟨nO, W', M1, ?_, ?_, ?_, by rw [a2], a3 6 (by omega), hF4⟩
      · simp (disch := omega) only [↓pu_m1, pu_lit, ↓reduceIte, pu_leT, pu_leF, pu_ltT, pu_ltF, pu_eqT, pu_eqF, pu_eqO, pu_eqO2, pu_ltO, pu_leO, pu_subO, pu_subOF, pu_subT, pu_subF, pu_oobF, pu_clamp, pu_add, pu_sub, pu_mul, pu_and, pu_or, pu_xor, pu_xorO, pu_shl, pu_shr, pu_ushr, pu_nb0, pu_nb1, pu_ob1N, pu_ob2N, pu_ob3N, pu_ob4N, pu_nwN, pu_n1, pu_n7, pu_n31, pu_n255, pu_md, pu_one, pu_sI1, pu_sI2, pu_sA1, pu_sA21, pu_sA222, pu_sAe, pu_sAn, pu_sJ1, pu_sJ21, pu_sJ221, pu_sF1, pu_sF21, pu_sF222, pu_sFe, pu_sFn, pu_upe, pu_upn, Nat.reduceAdd, Nat.reduceSub, Nat.reduceMul, Nat.reduceMod, Nat.reduceAnd, Nat.reducePow, Nat.reduceEqDiff, Nat.add_zero, Nat.zero_add, Bool.false_eq_true, Nat.add_sub_cancel, e1, a1']
      · simp (disch := omega) only [↓pu_m1, pu_lit, ↓reduceIte, pu_leT, pu_leF, pu_ltT, pu_ltF, pu_eqT, pu_eqF, pu_eqO, pu_eqO2, pu_ltO, pu_leO, pu_subO, pu_subOF, pu_subT, pu_subF, pu_oobF, pu_clamp, pu_add, pu_sub, pu_mul, pu_and, pu_or, pu_xor, pu_xorO, pu_shl, pu_shr, pu_ushr, pu_nb0, pu_nb1, pu_ob1N, pu_ob2N, pu_ob3N, pu_ob4N, pu_nwN, pu_n1, pu_n7, pu_n31, pu_n255, pu_md, pu_one, pu_sI1, pu_sI2, pu_sA1, pu_sA21, pu_sA222, pu_sAe, pu_sAn, pu_sJ1, pu_sJ21, pu_sJ221, pu_sF1, pu_sF21, pu_sF222, pu_sFe, pu_sFn, pu_upe, pu_upn, Nat.reduceAdd, Nat.reduceSub, Nat.reduceMul, Nat.reduceMod, Nat.reduceAnd, Nat.reducePow, Nat.reduceEqDiff, Nat.add_zero, Nat.zero_add, Bool.false_eq_true, Nat.add_sub_cancel, e2, c2, d1, g59, gF]
      · obtain ⟨n, n1, n2, n3, n4⟩ := hR
        refine ⟨n, n1, by rw [a2]; exact n2, ?_, fun i hi => ?_⟩
        · rw [d4.1 25 (by decide)]; exact n3
        · rw [a3 3 (by omega), d4.2.1 24 (by decide)]; exact n4 i hi
    · obtain ⟨W', a1, a2, a3, a4, a5, a6⟩ := bfs_fin (W0 := W) (s := V (59 + p)) hS hw hp d5 h59 rfl hfin hQ ⟨by omega, by omega, by omega, by omega, rfl, fun j hj => by rw [Nat.add_zero]; exact Nat.le_refl _, fun j hj => by omega, by rw [r2, if_pos rfl], fun j hj => by omega, hfr⟩
      have a1' : L_X6_findSoonest_53 (nI (canV V p)) (nI (V (36 + p))) 1 0 (sA (sA (sF W 2 (fun _ => nT)) 0 (nI 0) (nI (V (59 + p)))) 2 (nI (V (59 + p))) nO) B = some (nI (F (V (59 + p))), W') := a1
      rw [← hfind] at a1'
      obtain ⟨M2, b1, b2, b3, b4⟩ := x12_srow d3 hw d2 d5 h59 rfl hfin
      have b1' : L_X12_soonest_58 (nI (canV V p)) (nI (V (59 + p))) (nI (F (V (59 + p)))) (nI 0) M1 = some (nI (F (V (59 + p))), M2) := b1
      refine ⟨nI (F (V (59 + p))), W', M2, ?_, ?_, ⟨F (V (59 + p)), hfin, a2, Or.inl b2, fun i hi => (a3 i hi).trans (b3 i hi).symm⟩, a4, a5, hF4.tr (b4.mono (by decide) (by decide) (by decide))⟩
      · simp (disch := omega) only [↓pu_m1, pu_lit, ↓reduceIte, pu_leT, pu_leF, pu_ltT, pu_ltF, pu_eqT, pu_eqF, pu_eqO, pu_eqO2, pu_ltO, pu_leO, pu_subO, pu_subOF, pu_subT, pu_subF, pu_oobF, pu_clamp, pu_add, pu_sub, pu_mul, pu_and, pu_or, pu_xor, pu_xorO, pu_shl, pu_shr, pu_ushr, pu_nb0, pu_nb1, pu_ob1N, pu_ob2N, pu_ob3N, pu_ob4N, pu_nwN, pu_n1, pu_n7, pu_n31, pu_n255, pu_md, pu_one, pu_sI1, pu_sI2, pu_sA1, pu_sA21, pu_sA222, pu_sAe, pu_sAn, pu_sJ1, pu_sJ21, pu_sJ221, pu_sF1, pu_sF21, pu_sF222, pu_sFe, pu_sFn, pu_upe, pu_upn, Nat.reduceAdd, Nat.reduceSub, Nat.reduceMul, Nat.reduceMod, Nat.reduceAnd, Nat.reducePow, Nat.reduceEqDiff, Nat.add_zero, Nat.zero_add, Bool.false_eq_true, Nat.add_sub_cancel, e1, a1']
      · simp (disch := omega) only [↓pu_m1, pu_lit, ↓reduceIte, pu_leT, pu_leF, pu_ltT, pu_ltF, pu_eqT, pu_eqF, pu_eqO, pu_eqO2, pu_ltO, pu_leO, pu_subO, pu_subOF, pu_subT, pu_subF, pu_oobF, pu_clamp, pu_add, pu_sub, pu_mul, pu_and, pu_or, pu_xor, pu_xorO, pu_shl, pu_shr, pu_ushr, pu_nb0, pu_nb1, pu_ob1N, pu_ob2N, pu_ob3N, pu_ob4N, pu_nwN, pu_n1, pu_n7, pu_n31, pu_n255, pu_md, pu_one, pu_sI1, pu_sI2, pu_sA1, pu_sA21, pu_sA222, pu_sAe, pu_sAn, pu_sJ1, pu_sJ21, pu_sJ221, pu_sF1, pu_sF21, pu_sF222, pu_sFe, pu_sFn, pu_upe, pu_upn, Nat.reduceAdd, Nat.reduceSub, Nat.reduceMul, Nat.reduceMod, Nat.reduceAnd, Nat.reducePow, Nat.reduceEqDiff, Nat.add_zero, Nat.zero_add, Bool.false_eq_true, Nat.add_sub_cancel, e2, c2, d1, g59, gF, b1']
  · exact ⟨nO, W, sI M 0 (nI 0), by simp (disch := omega) only [↓pu_m1, pu_lit, ↓reduceIte, pu_leT, pu_leF, pu_ltT, pu_ltF, pu_eqT, pu_eqF, pu_eqO, pu_eqO2, pu_ltO, pu_leO, pu_subO, pu_subOF, pu_subT, pu_subF, pu_oobF, pu_clamp, pu_add, pu_sub, pu_mul, pu_and, pu_or, pu_xor, pu_xorO, pu_shl, pu_shr, pu_ushr, pu_nb0, pu_nb1, pu_ob1N, pu_ob2N, pu_ob3N, pu_ob4N, pu_nwN, pu_n1, pu_n7, pu_n31, pu_n255, pu_md, pu_one, pu_sI1, pu_sI2, pu_sA1, pu_sA21, pu_sA222, pu_sAe, pu_sAn, pu_sJ1, pu_sJ21, pu_sJ221, pu_sF1, pu_sF21, pu_sF222, pu_sFe, pu_sFn, pu_upe, pu_upn, Nat.reduceAdd, Nat.reduceSub, Nat.reduceMul, Nat.reduceMod, Nat.reduceAnd, Nat.reducePow, Nat.reduceEqDiff, Nat.add_zero, Nat.zero_add, Bool.false_eq_true, Nat.add_sub_cancel, e1], by simp (disch := omega) only [↓pu_m1, pu_lit, ↓reduceIte, pu_leT, pu_leF, pu_ltT, pu_ltF, pu_eqT, pu_eqF, pu_eqO, pu_eqO2, pu_ltO, pu_leO, pu_subO, pu_subOF, pu_subT, pu_subF, pu_oobF, pu_clamp, pu_add, pu_sub, pu_mul, pu_and, pu_or, pu_xor, pu_xorO, pu_shl, pu_shr, pu_ushr, pu_nb0, pu_nb1, pu_ob1N, pu_ob2N, pu_ob3N, pu_ob4N, pu_nwN, pu_n1, pu_n7, pu_n31, pu_n255, pu_md, pu_one, pu_sI1, pu_sI2, pu_sA1, pu_sA21, pu_sA222, pu_sAe, pu_sAn, pu_sJ1, pu_sJ21, pu_sJ221, pu_sF1, pu_sF21, pu_sF222, pu_sFe, pu_sFn, pu_upe, pu_upn, Nat.reduceAdd, Nat.reduceSub, Nat.reduceMul, Nat.reduceMod, Nat.reduceAnd, Nat.reducePow, Nat.reduceEqDiff, Nat.add_zero, Nat.zero_add, Bool.false_eq_true, Nat.add_sub_cancel, e2], hR, rfl, rfl, FR.sI (by decide)⟩
theorem p_soonestAt (h : RSo W M) (x : Int32) : ∃ r, F_X11_soonestAt T W x = some r ∧ F_X12_soonestAt M x = some (r, sI M 0 (nI 0)) := by
  obtain ⟨n, h0, h1, h2, h3⟩ := h
  unfold F_X11_soonestAt F_X12_soonestAt F_X11_soonestAt_15
  rcases at_two x (M.1 25) n (by omega) h2 with ⟨j, hj, rfl, i1⟩ | ⟨i1, i2⟩ | ⟨i1, i2, i3⟩
  · have h3j := h3 j hj
    exact ⟨W.2.2.1 3 j, by simp (disch := omega) only [↓pu_m1, pu_lit, ↓reduceIte, pu_leT, pu_leF, pu_ltT, pu_ltF, pu_eqT, pu_eqF, pu_eqO, pu_eqO2, pu_ltO, pu_leO, pu_subO, pu_subOF, pu_subT, pu_subF, pu_oobF, pu_clamp, pu_add, pu_sub, pu_mul, pu_and, pu_or, pu_xor, pu_xorO, pu_shl, pu_shr, pu_ushr, pu_nb0, pu_nb1, pu_ob1N, pu_ob2N, pu_ob3N, pu_ob4N, pu_nwN, pu_n1, pu_n7, pu_n31, pu_n255, pu_md, pu_one, pu_sI1, pu_sI2, pu_sA1, pu_sA21, pu_sA222, pu_sAe, pu_sAn, pu_sJ1, pu_sJ21, pu_sJ221, pu_sF1, pu_sF21, pu_sF222, pu_sFe, pu_sFn, pu_upe, pu_upn, Nat.reduceAdd, Nat.reduceSub, Nat.reduceMul, Nat.reduceMod, Nat.reduceAnd, Nat.reducePow, Nat.reduceEqDiff, Nat.add_zero, Nat.zero_add, Bool.false_eq_true, Nat.add_sub_cancel, h1], by simp (disch := omega) only [↓pu_m1, pu_lit, ↓reduceIte, pu_leT, pu_leF, pu_ltT, pu_ltF, pu_eqT, pu_eqF, pu_eqO, pu_eqO2, pu_ltO, pu_leO, pu_subO, pu_subOF, pu_subT, pu_subF, pu_oobF, pu_clamp, pu_add, pu_sub, pu_mul, pu_and, pu_or, pu_xor, pu_xorO, pu_shl, pu_shr, pu_ushr, pu_nb0, pu_nb1, pu_ob1N, pu_ob2N, pu_ob3N, pu_ob4N, pu_nwN, pu_n1, pu_n7, pu_n31, pu_n255, pu_md, pu_one, pu_sI1, pu_sI2, pu_sA1, pu_sA21, pu_sA222, pu_sAe, pu_sAn, pu_sJ1, pu_sJ21, pu_sJ221, pu_sF1, pu_sF21, pu_sF222, pu_sFe, pu_sFn, pu_upe, pu_upn, Nat.reduceAdd, Nat.reduceSub, Nat.reduceMul, Nat.reduceMod, Nat.reduceAnd, Nat.reducePow, Nat.reduceEqDiff, Nat.add_zero, Nat.zero_add, Bool.false_eq_true, Nat.add_sub_cancel, i1, h3j]⟩
  · exact ⟨nO, by simp (disch := omega) only [↓pu_m1, pu_lit, ↓reduceIte, pu_leT, pu_leF, pu_ltT, pu_ltF, pu_eqT, pu_eqF, pu_eqO, pu_eqO2, pu_ltO, pu_leO, pu_subO, pu_subOF, pu_subT, pu_subF, pu_oobF, pu_clamp, pu_add, pu_sub, pu_mul, pu_and, pu_or, pu_xor, pu_xorO, pu_shl, pu_shr, pu_ushr, pu_nb0, pu_nb1, pu_ob1N, pu_ob2N, pu_ob3N, pu_ob4N, pu_nwN, pu_n1, pu_n7, pu_n31, pu_n255, pu_md, pu_one, pu_sI1, pu_sI2, pu_sA1, pu_sA21, pu_sA222, pu_sAe, pu_sAn, pu_sJ1, pu_sJ21, pu_sJ221, pu_sF1, pu_sF21, pu_sF222, pu_sFe, pu_sFn, pu_upe, pu_upn, Nat.reduceAdd, Nat.reduceSub, Nat.reduceMul, Nat.reduceMod, Nat.reduceAnd, Nat.reducePow, Nat.reduceEqDiff, Nat.add_zero, Nat.zero_add, Bool.false_eq_true, Nat.add_sub_cancel, i1], by simp (disch := omega) only [↓pu_m1, pu_lit, ↓reduceIte, pu_leT, pu_leF, pu_ltT, pu_ltF, pu_eqT, pu_eqF, pu_eqO, pu_eqO2, pu_ltO, pu_leO, pu_subO, pu_subOF, pu_subT, pu_subF, pu_oobF, pu_clamp, pu_add, pu_sub, pu_mul, pu_and, pu_or, pu_xor, pu_xorO, pu_shl, pu_shr, pu_ushr, pu_nb0, pu_nb1, pu_ob1N, pu_ob2N, pu_ob3N, pu_ob4N, pu_nwN, pu_n1, pu_n7, pu_n31, pu_n255, pu_md, pu_one, pu_sI1, pu_sI2, pu_sA1, pu_sA21, pu_sA222, pu_sAe, pu_sAn, pu_sJ1, pu_sJ21, pu_sJ221, pu_sF1, pu_sF21, pu_sF222, pu_sFe, pu_sFn, pu_upe, pu_upn, Nat.reduceAdd, Nat.reduceSub, Nat.reduceMul, Nat.reduceMod, Nat.reduceAnd, Nat.reducePow, Nat.reduceEqDiff, Nat.add_zero, Nat.zero_add, Bool.false_eq_true, Nat.add_sub_cancel, i2]⟩
  · exact ⟨nO, by simp (disch := omega) only [↓pu_m1, pu_lit, ↓reduceIte, pu_leT, pu_leF, pu_ltT, pu_ltF, pu_eqT, pu_eqF, pu_eqO, pu_eqO2, pu_ltO, pu_leO, pu_subO, pu_subOF, pu_subT, pu_subF, pu_oobF, pu_clamp, pu_add, pu_sub, pu_mul, pu_and, pu_or, pu_xor, pu_xorO, pu_shl, pu_shr, pu_ushr, pu_nb0, pu_nb1, pu_ob1N, pu_ob2N, pu_ob3N, pu_ob4N, pu_nwN, pu_n1, pu_n7, pu_n31, pu_n255, pu_md, pu_one, pu_sI1, pu_sI2, pu_sA1, pu_sA21, pu_sA222, pu_sAe, pu_sAn, pu_sJ1, pu_sJ21, pu_sJ221, pu_sF1, pu_sF21, pu_sF222, pu_sFe, pu_sFn, pu_upe, pu_upn, Nat.reduceAdd, Nat.reduceSub, Nat.reduceMul, Nat.reduceMod, Nat.reduceAnd, Nat.reducePow, Nat.reduceEqDiff, Nat.add_zero, Nat.zero_add, Bool.false_eq_true, Nat.add_sub_cancel, i1, h1, i2], by simp (disch := omega) only [↓pu_m1, pu_lit, ↓reduceIte, pu_leT, pu_leF, pu_ltT, pu_ltF, pu_eqT, pu_eqF, pu_eqO, pu_eqO2, pu_ltO, pu_leO, pu_subO, pu_subOF, pu_subT, pu_subF, pu_oobF, pu_clamp, pu_add, pu_sub, pu_mul, pu_and, pu_or, pu_xor, pu_xorO, pu_shl, pu_shr, pu_ushr, pu_nb0, pu_nb1, pu_ob1N, pu_ob2N, pu_ob3N, pu_ob4N, pu_nwN, pu_n1, pu_n7, pu_n31, pu_n255, pu_md, pu_one, pu_sI1, pu_sI2, pu_sA1, pu_sA21, pu_sA222, pu_sAe, pu_sAn, pu_sJ1, pu_sJ21, pu_sJ221, pu_sF1, pu_sF21, pu_sF222, pu_sFe, pu_sFn, pu_upe, pu_upn, Nat.reduceAdd, Nat.reduceSub, Nat.reduceMul, Nat.reduceMod, Nat.reduceAnd, Nat.reducePow, Nat.reduceEqDiff, Nat.add_zero, Nat.zero_add, Bool.false_eq_true, Nat.add_sub_cancel, i3]⟩
end P16
