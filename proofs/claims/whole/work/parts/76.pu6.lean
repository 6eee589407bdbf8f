/-! two loops side by side -/
theorem lp_two {α β α' β' : Type} {b1 : (α → Option β) → α → Option β} {b2 : (α' → Option β') → α' → Option β'} (J : Nat → α → α' → Prop) (n : Nat) (Q : β → β' → Prop) (hs : ∀ i, i < n → ∀ x y, J i x y → ∃ x' y', J (i + 1) x' y' ∧ (∀ k, b1 k x = k x') ∧ (∀ k, b2 k y = k y')) (he : ∀ x y, J n x y → ∃ o o', Q o o' ∧ (∀ k, b1 k x = some o) ∧ (∀ k, b2 k y = some o')) {x0 : α} {y0 : α'} (h0 : J 0 x0 y0) {N : Nat} (hN : n < N) : ∃ o o', Q o o' ∧ lp b1 N x0 = some o ∧ lp b2 N y0 = some o' := by
  have h : ∀ d i x y, i + d = n → J i x y → ∀ N, d < N → ∃ o o', Q o o' ∧ lp b1 N x = some o ∧ lp b2 N y = some o' := by
    intro d
    induction d with
    | zero =>
      intro i x y hi hx N hN
      obtain ⟨N, rfl⟩ : ∃ k, N = k + 1 := ⟨N - 1, by omega⟩
      have e : i = n := by omega
      subst e
      obtain ⟨o, o', h1, h2, h3⟩ := he x y hx
      exact ⟨o, o', h1, h2 _, h3 _⟩
    | succ d ih =>
      intro i x y hi hx N hN
      obtain ⟨N, rfl⟩ : ∃ k, N = k + 1 := ⟨N - 1, by omega⟩
      obtain ⟨x', y', h1, h2, h3⟩ := hs i (by omega) x y hx
      obtain ⟨o, o', h4, h5, h6⟩ := ih (i + 1) x' y' (by omega) h1 N (by omega)
      exact ⟨o, o', h4, by show b1 (lp b1 N) x = some o; rw [h2]; exact h5, by show b2 (lp b2 N) y = some o'; rw [h3]; exact h6⟩
  exact h n 0 x0 y0 (by omega) h0 N hN
theorem lp_twoK {α β α' β' γ : Type} {b1 : (α → Option β) → α → Option β} {b2 : (γ → Option β') → (α' → Option β') → α' → Option β'} (J : Nat → α → α' → Prop) (n : Nat) (Q : β → γ → Prop) (hs : ∀ i, i < n → ∀ x y, J i x y → ∃ x' y', J (i + 1) x' y' ∧ (∀ k, b1 k x = k x') ∧ (∀ K k, b2 K k y = k y')) (he : ∀ x y, J n x y → ∃ o o', Q o o' ∧ (∀ k, b1 k x = some o) ∧ (∀ K k, b2 K k y = K o')) {x0 : α} {y0 : α'} (h0 : J 0 x0 y0) {N : Nat} (hN : n < N) : ∃ o o', Q o o' ∧ lp b1 N x0 = some o ∧ ∀ K, lp (b2 K) N y0 = K o' := by
  have h : ∀ d i x y, i + d = n → J i x y → ∀ N, d < N → ∃ o o', Q o o' ∧ lp b1 N x = some o ∧ ∀ K, lp (b2 K) N y = K o' := by
    intro d
    induction d with
    | zero =>
      intro i x y hi hx N hN
      obtain ⟨N, rfl⟩ : ∃ k, N = k + 1 := ⟨N - 1, by omega⟩
      have e : i = n := by omega
      subst e
      obtain ⟨o, o', h1, h2, h3⟩ := he x y hx
      exact ⟨o, o', h1, h2 _, fun K => h3 K _⟩
    | succ d ih =>
      intro i x y hi hx N hN
      obtain ⟨N, rfl⟩ : ∃ k, N = k + 1 := ⟨N - 1, by omega⟩
      obtain ⟨x', y', h1, h2, h3⟩ := hs i (by omega) x y hx
      obtain ⟨o, o', h4, h5, h6⟩ := ih (i + 1) x' y' (by omega) h1 N (by omega)
      exact ⟨o, o', h4, by show b1 (lp b1 N) x = some o; rw [h2]; exact h5, fun K => by show b2 K (lp (b2 K) N) y = K o'; rw [h3]; exact h6 K⟩
  exact h n 0 x0 y0 (by omega) h0 N hN
theorem lp_invK {α β γ : Type} {body : (γ → Option β) → (α → Option β) → α → Option β} (I : Nat → α → Prop) (n : Nat) (Q : γ → Prop) (hs : ∀ i, i < n → ∀ x, I i x → ∃ y, I (i + 1) y ∧ ∀ K k, body K k x = k y) (he : ∀ x, I n x → ∃ o, Q o ∧ ∀ K k, body K k x = K o) {x0 : α} (h0 : I 0 x0) {N : Nat} (hN : n < N) : ∃ o, Q o ∧ ∀ K, lp (body K) N x0 = K o := by
  have h : ∀ d i x, i + d = n → I i x → ∀ N, d < N → ∃ o, Q o ∧ ∀ K, lp (body K) N x = K o := by
    intro d
    induction d with
    | zero =>
      intro i x hi hx N hN
      obtain ⟨N, rfl⟩ : ∃ k, N = k + 1 := ⟨N - 1, by omega⟩
      have e : i = n := by omega
      subst e
      obtain ⟨o, h1, h2⟩ := he x hx
      exact ⟨o, h1, fun K => h2 K _⟩
    | succ d ih =>
      intro i x hi hx N hN
      obtain ⟨N, rfl⟩ : ∃ k, N = k + 1 := ⟨N - 1, by omega⟩
      obtain ⟨y, h1, h2⟩ := hs i (by omega) x hx
      obtain ⟨o, h3, h4⟩ := ih (i + 1) y (by omega) h1 N (by omega)
      exact ⟨o, h3, fun K => by show body K (lp (body K) N) x = K o; rw [h2]; exact h4 K⟩
  exact h n 0 x0 (by omega) h0 N hN
/-! draws -/
def MD (M M' : St) (V' : Vt) : Prop := (∃ z f, M' = sF (sI M 37 z) 6 f) ∧ RM M' V' ∧ ∀ k, 77 ≤ k → M'.2.2.1 6 k = M.2.2.1 6 k
theorem sI_same (M : St) (k : Nat) : sI M k (M.1 k) = M := by
  show (va_up M.1 k (M.1 k), M.2) = M
  have : va_up M.1 k (M.1 k) = M.1 := by
    funext j
    by_cases h : j = k
    · subst h; simp [va_up]
    · simp [va_up, h]
  rw [this]
theorem MD.of {M M' : St} {V' : Vt} (h : MS M M' V') : MD M M' V' := by
  obtain ⟨⟨f, e⟩, h2, h3⟩ := h
  exact ⟨⟨M.1 37, f, by rw [sI_same]; exact e⟩, h2, h3⟩
theorem MD.tr {M M1 M2 : St} {V1 V2 : Vt} (h : MD M M1 V1) (h2 : MD M1 M2 V2) : MD M M2 V2 := by
  obtain ⟨⟨z, f, rfl⟩, h3, h4⟩ := h
  obtain ⟨⟨y, g, rfl⟩, h5, h6⟩ := h2
  refine ⟨⟨y, g, ?_⟩, h5, fun k hk => (h6 k hk).trans (h4 k hk)⟩
  show (va_up (va_up M.1 37 z) 37 y, M.2.1, va_up (va_up M.2.2.1 6 f) 6 g, M.2.2.2) = (va_up M.1 37 y, M.2.1, va_up M.2.2.1 6 g, M.2.2.2)
  rw [bx_uu, bx_uu]
theorem MD.seed {M : St} {V : Vt} (h : RM M V) (z : Int32) : MD M (sI M 37 z) V := ⟨⟨z, M.2.2.1 6, (pu_sFsame (S := sI M 37 z) (f := 6)).symm⟩, h, fun _ _ => rfl⟩
theorem pu_of (x : Int32) : ∃ w, w < 4294967296 ∧ x = nI w := by
  refine ⟨x.toBitVec.toNat, x.toBitVec.isLt, ?_⟩
  apply Int32.toBitVec_inj.1
  show _ = BitVec.ofNat 32 x.toBitVec.toNat
  simp
section P6
variable {S M D : St} {V : Vt}
def drN (x : Int32) : Int32 := x * 1103515245 + 12345
theorem draw_v (x : Int32) {n : Nat} (h0 : 0 < n) (hn : n < 1000) : ∃ j, j < n ∧ ((x.toUInt32 >>> ((8 : Int32).toUInt32 &&& Int32.toUInt32 31)).toInt32 - (x.toUInt32 >>> ((8 : Int32).toUInt32 &&& Int32.toUInt32 31)).toInt32 / nI n * nI n) = nI j := by
  obtain ⟨w, hw, rfl⟩ := pu_of x
  have h1 : ((nI w).toUInt32 >>> ((8 : Int32).toUInt32 &&& Int32.toUInt32 31)).toInt32 = nI (w / 2 ^ 8) := pu_ushr (i := 8) (by omega) hw
  rw [h1, pk_rem (by omega) h0 (by omega)]
  exact ⟨w / 2 ^ 8 % n, Nat.mod_lt _ h0, rfl⟩
theorem draw_2 (hd : D.1 0 = M.1 37) {n : Nat} (h0 : 0 < n) (hn : n < 1000) : ∃ j, j < n ∧ F_X1_draw D (nI n) = some (nI j, sI D 0 (drN (D.1 0))) ∧ F_X12_draw M (nI n) = some (nI j, sI M 37 (drN (M.1 37))) := by
  obtain ⟨j, hj, e⟩ := draw_v (drN (D.1 0)) h0 hn
  refine ⟨j, hj, ?_, ?_⟩
  · unfold F_X1_draw
    simp only [pu_nw]
    rw [if_neg (show ¬ nI n ≤ 0 from nI_nle h0 (by omega)), if_neg (show ¬ nI n = 0 from nI_ne0 h0 (by omega))]
    rw [show (sI D 0 (D.1 0 * 1103515245 + 12345)).1 0 = drN (D.1 0) from rfl, e]
    rfl
  · unfold F_X12_draw
    simp only [pu_nw]
    rw [if_neg (show ¬ nI n = 0 from nI_ne0 h0 (by omega))]
    rw [show (sI M 37 (M.1 37 * 1103515245 + 12345)).1 37 = drN (M.1 37) from rfl, ← hd, e]
    rfl
theorem RM_sI (hM : RM M V) (k : Nat) (z : Int32) : RM (sI M k z) V := hM
def DR (D M S : St) (D' M' S' : St) (V V' : Vt) : Prop := D'.1 0 = M'.1 37 ∧ CS S S' V' ∧ MD M M' V' ∧ WF V' ∧ SV V V' ∧ V' 42 = V 42
theorem draw_act (hd : D.1 0 = M.1 37) (hS : RS S V) (hM : RM M V) (hw : WF V) {p : Nat} (hp : p < V 1) : ∃ D' S' M' V', F_X1_drawAct D S (nI p) = some (D', S') ∧ F_X12_drawPerson M (nI p) = some M' ∧ DR D M S D' M' S' V V' := by
  have w0 := hw.1
  have w1 := hw.2.1
  have e0 := hS.1
  have e7 := hS.2.1
  obtain ⟨a, ha, c1, m1⟩ := draw_2 hd (n := 4) (by omega) (by omega)
  have hM1 := RM_sI hM 37 (drN (M.1 37))
  have d1 : (sI D 0 (drN (D.1 0))).1 0 = (sI M 37 (drN (M.1 37))).1 37 := by show drN (D.1 0) = drN (M.1 37); rw [hd]
  have s1 := MD.seed hM (drN (M.1 37))
  generalize sI D 0 (drN (D.1 0)) = D1 at c1 d1
  generalize sI M 37 (drN (M.1 37)) = M1 at m1 d1 s1 hM1
  unfold F_X1_drawAct F_X12_drawPerson F_X12_drawPerson_46 F_X12_drawPerson_61
  have c1 : F_X1_draw D 4 = some (nI a, D1) := c1
  have m1 : F_X12_draw M 4 = some (nI a, M1) := m1
  rw [c1, m1]
  have g0 := hM1 0 (by omega)
  have g1 := hM1 1 (by omega)
  by_cases h2 : a = 2
  · obtain ⟨S', k1, k2⟩ := x8_comeDown hS hw hp
    refine ⟨D1, S', sA M1 6 (nI (65 + p)) (nI 0), up V (65 + p) 0, ?_, ?_, d1, k2, s1.tr (MD.of (MS.up hM1 (by omega))), WF_65 hw hp (by omega), SV.rf.up (by omega), pu_upn (by omega)⟩
    · subst h2; simp (disch := omega) only [↓pu_m1, pu_lit, ↓reduceIte, pu_leT, pu_leF, pu_ltT, pu_ltF, pu_eqT, pu_eqF, pu_eqO, pu_eqO2, pu_ltO, pu_leO, pu_subO, pu_subOF, pu_subT, pu_subF, pu_oobF, pu_clamp, pu_add, pu_sub, pu_mul, pu_and, pu_or, pu_xor, pu_xorO, pu_shl, pu_shr, pu_ushr, pu_nb0, pu_nb1, pu_ob1, pu_ob2, pu_ob3, pu_ob4, pu_nw, pu_n1, pu_n7, pu_n31, pu_n255, pu_md, pu_one, pu_sI1, pu_sI2, pu_sA1, pu_sA21, pu_sA222, pu_sAe, pu_sAn, pu_sJ1, pu_sJ21, pu_sJ221, pu_sF1, pu_sF21, pu_sF222, pu_sFe, pu_sFn, pu_upe, pu_upn, Nat.reduceAdd, Nat.reduceSub, Nat.reduceMul, Nat.reduceMod, Nat.reduceAnd, Nat.reducePow, Nat.reduceEqDiff, Nat.add_zero, Nat.zero_add, Bool.false_eq_true, k1]
    · subst h2; simp (disch := omega) only [↓pu_m1, pu_lit, ↓reduceIte, pu_leT, pu_leF, pu_ltT, pu_ltF, pu_eqT, pu_eqF, pu_eqO, pu_eqO2, pu_ltO, pu_leO, pu_subO, pu_subOF, pu_subT, pu_subF, pu_oobF, pu_clamp, pu_add, pu_sub, pu_mul, pu_and, pu_or, pu_xor, pu_xorO, pu_shl, pu_shr, pu_ushr, pu_nb0, pu_nb1, pu_ob1, pu_ob2, pu_ob3, pu_ob4, pu_nw, pu_n1, pu_n7, pu_n31, pu_n255, pu_md, pu_one, pu_sI1, pu_sI2, pu_sA1, pu_sA21, pu_sA222, pu_sAe, pu_sAn, pu_sJ1, pu_sJ21, pu_sJ221, pu_sF1, pu_sF21, pu_sF222, pu_sFe, pu_sFn, pu_upe, pu_upn, Nat.reduceAdd, Nat.reduceSub, Nat.reduceMul, Nat.reduceMod, Nat.reduceAnd, Nat.reducePow, Nat.reduceEqDiff, Nat.add_zero, Nat.zero_add, Bool.false_eq_true]
  · by_cases h3 : a = 3
    · obtain ⟨q, hq, c2, m2⟩ := draw_2 d1 (n := V 1) (by omega) (by omega)
      have hM2 := RM_sI hM1 37 (drN (M1.1 37))
      have d2 : (sI D1 0 (drN (D1.1 0))).1 0 = (sI M1 37 (drN (M1.1 37))).1 37 := by show drN (D1.1 0) = drN (M1.1 37); rw [d1]
      have s2 := s1.tr (MD.seed hM1 (drN (M1.1 37)))
      generalize sI D1 0 (drN (D1.1 0)) = D2 at c2 d2
      generalize sI M1 37 (drN (M1.1 37)) = M2 at m2 d2 s2 hM2
      obtain ⟨v, hv, c3, m3⟩ := draw_2 d2 (n := 8) (by omega) (by omega)
      have hM3 := RM_sI hM2 37 (drN (M2.1 37))
      have d3 : (sI D2 0 (drN (D2.1 0))).1 0 = (sI M2 37 (drN (M2.1 37))).1 37 := by show drN (D2.1 0) = drN (M2.1 37); rw [d2]
      have s3 := s2.tr (MD.seed hM2 (drN (M2.1 37)))
      generalize sI D2 0 (drN (D2.1 0)) = D3 at c3 d3
      generalize sI M2 37 (drN (M2.1 37)) = M3 at m3 d3 s3 hM3
      obtain ⟨S', k1, k2⟩ := x8_passOn hS hw hp hq hv
      have k3 := x12_whyT hM3 hw hp hq hv
      have gq := hM3 (59 + q) (by omega)
      have hq9 := hw.2.2.2.2.2.2.2.2.1 q hq
      have k5 : whyT V p q v < 4 := by
        unfold whyT
        repeat' split
        all_goals omega
      by_cases h4 : whyT V p q v = 0
      · rw [h4, if_pos rfl] at k2
        refine ⟨D3, S', sA M3 6 (nI (59 + q)) (nI (hav (V (59 + q)) v)), teV V q v, ?_, ?_, d3, k2, s3.tr (MD.of (MS.up hM3 (by omega))), teV_WF hw hq hv, SV.rf.up (by omega), pu_upn (by omega)⟩
        · subst h3; simp (disch := omega) only [↓pu_m1, pu_lit, ↓reduceIte, pu_leT, pu_leF, pu_ltT, pu_ltF, pu_eqT, pu_eqF, pu_eqO, pu_eqO2, pu_ltO, pu_leO, pu_subO, pu_subOF, pu_subT, pu_subF, pu_oobF, pu_clamp, pu_add, pu_sub, pu_mul, pu_and, pu_or, pu_xor, pu_xorO, pu_shl, pu_shr, pu_ushr, pu_nb0, pu_nb1, pu_ob1, pu_ob2, pu_ob3, pu_ob4, pu_nw, pu_n1, pu_n7, pu_n31, pu_n255, pu_md, pu_one, pu_sI1, pu_sI2, pu_sA1, pu_sA21, pu_sA222, pu_sAe, pu_sAn, pu_sJ1, pu_sJ21, pu_sJ221, pu_sF1, pu_sF21, pu_sF222, pu_sFe, pu_sFn, pu_upe, pu_upn, Nat.reduceAdd, Nat.reduceSub, Nat.reduceMul, Nat.reduceMod, Nat.reduceAnd, Nat.reducePow, Nat.reduceEqDiff, Nat.add_zero, Nat.zero_add, Bool.false_eq_true, e7, c2, c3, k1]
        · subst h3; simp (disch := omega) only [↓pu_m1, pu_lit, ↓reduceIte, pu_leT, pu_leF, pu_ltT, pu_ltF, pu_eqT, pu_eqF, pu_eqO, pu_eqO2, pu_ltO, pu_leO, pu_subO, pu_subOF, pu_subT, pu_subF, pu_oobF, pu_clamp, pu_add, pu_sub, pu_mul, pu_and, pu_or, pu_xor, pu_xorO, pu_shl, pu_shr, pu_ushr, pu_nb0, pu_nb1, pu_ob1, pu_ob2, pu_ob3, pu_ob4, pu_nw, pu_n1, pu_n7, pu_n31, pu_n255, pu_md, pu_one, pu_sI1, pu_sI2, pu_sA1, pu_sA21, pu_sA222, pu_sAe, pu_sAn, pu_sJ1, pu_sJ21, pu_sJ221, pu_sF1, pu_sF21, pu_sF222, pu_sFe, pu_sFn, pu_upe, pu_upn, Nat.reduceAdd, Nat.reduceSub, Nat.reduceMul, Nat.reduceMod, Nat.reduceAnd, Nat.reducePow, Nat.reduceEqDiff, Nat.add_zero, Nat.zero_add, Bool.false_eq_true, g1, m2, m3, k3, h4, gq, x12_hav hq9 hv]
      · rw [if_neg h4] at k2
        refine ⟨D3, S', M3, V, ?_, ?_, d3, k2, s3, hw, SV.rf, rfl⟩
        · subst h3; simp (disch := omega) only [↓pu_m1, pu_lit, ↓reduceIte, pu_leT, pu_leF, pu_ltT, pu_ltF, pu_eqT, pu_eqF, pu_eqO, pu_eqO2, pu_ltO, pu_leO, pu_subO, pu_subOF, pu_subT, pu_subF, pu_oobF, pu_clamp, pu_add, pu_sub, pu_mul, pu_and, pu_or, pu_xor, pu_xorO, pu_shl, pu_shr, pu_ushr, pu_nb0, pu_nb1, pu_ob1, pu_ob2, pu_ob3, pu_ob4, pu_nw, pu_n1, pu_n7, pu_n31, pu_n255, pu_md, pu_one, pu_sI1, pu_sI2, pu_sA1, pu_sA21, pu_sA222, pu_sAe, pu_sAn, pu_sJ1, pu_sJ21, pu_sJ221, pu_sF1, pu_sF21, pu_sF222, pu_sFe, pu_sFn, pu_upe, pu_upn, Nat.reduceAdd, Nat.reduceSub, Nat.reduceMul, Nat.reduceMod, Nat.reduceAnd, Nat.reducePow, Nat.reduceEqDiff, Nat.add_zero, Nat.zero_add, Bool.false_eq_true, e7, c2, c3, k1]
        · subst h3; simp (disch := omega) only [↓pu_m1, pu_lit, ↓reduceIte, pu_leT, pu_leF, pu_ltT, pu_ltF, pu_eqT, pu_eqF, pu_eqO, pu_eqO2, pu_ltO, pu_leO, pu_subO, pu_subOF, pu_subT, pu_subF, pu_oobF, pu_clamp, pu_add, pu_sub, pu_mul, pu_and, pu_or, pu_xor, pu_xorO, pu_shl, pu_shr, pu_ushr, pu_nb0, pu_nb1, pu_ob1, pu_ob2, pu_ob3, pu_ob4, pu_nw, pu_n1, pu_n7, pu_n31, pu_n255, pu_md, pu_one, pu_sI1, pu_sI2, pu_sA1, pu_sA21, pu_sA222, pu_sAe, pu_sAn, pu_sJ1, pu_sJ21, pu_sJ221, pu_sF1, pu_sF21, pu_sF222, pu_sFe, pu_sFn, pu_upe, pu_upn, Nat.reduceAdd, Nat.reduceSub, Nat.reduceMul, Nat.reduceMod, Nat.reduceAnd, Nat.reducePow, Nat.reduceEqDiff, Nat.add_zero, Nat.zero_add, Bool.false_eq_true, g1, m2, m3, k3]
    · by_cases h0 : V 0 = 0
      · refine ⟨D1, S, M1, V, ?_, ?_, d1, CS.rf hS, s1, hw, SV.rf, rfl⟩
        · simp (disch := omega) only [↓pu_m1, pu_lit, ↓reduceIte, pu_leT, pu_leF, pu_ltT, pu_ltF, pu_eqT, pu_eqF, pu_eqO, pu_eqO2, pu_ltO, pu_leO, pu_subO, pu_subOF, pu_subT, pu_subF, pu_oobF, pu_clamp, pu_add, pu_sub, pu_mul, pu_and, pu_or, pu_xor, pu_xorO, pu_shl, pu_shr, pu_ushr, pu_nb0, pu_nb1, pu_ob1, pu_ob2, pu_ob3, pu_ob4, pu_nw, pu_n1, pu_n7, pu_n31, pu_n255, pu_md, pu_one, pu_sI1, pu_sI2, pu_sA1, pu_sA21, pu_sA222, pu_sAe, pu_sAn, pu_sJ1, pu_sJ21, pu_sJ221, pu_sF1, pu_sF21, pu_sF222, pu_sFe, pu_sFn, pu_upe, pu_upn, Nat.reduceAdd, Nat.reduceSub, Nat.reduceMul, Nat.reduceMod, Nat.reduceAnd, Nat.reducePow, Nat.reduceEqDiff, Nat.add_zero, Nat.zero_add, Bool.false_eq_true, e0, h0]
        · simp (disch := omega) only [↓pu_m1, pu_lit, ↓reduceIte, pu_leT, pu_leF, pu_ltT, pu_ltF, pu_eqT, pu_eqF, pu_eqO, pu_eqO2, pu_ltO, pu_leO, pu_subO, pu_subOF, pu_subT, pu_subF, pu_oobF, pu_clamp, pu_add, pu_sub, pu_mul, pu_and, pu_or, pu_xor, pu_xorO, pu_shl, pu_shr, pu_ushr, pu_nb0, pu_nb1, pu_ob1, pu_ob2, pu_ob3, pu_ob4, pu_nw, pu_n1, pu_n7, pu_n31, pu_n255, pu_md, pu_one, pu_sI1, pu_sI2, pu_sA1, pu_sA21, pu_sA222, pu_sAe, pu_sAn, pu_sJ1, pu_sJ21, pu_sJ221, pu_sF1, pu_sF21, pu_sF222, pu_sFe, pu_sFn, pu_upe, pu_upn, Nat.reduceAdd, Nat.reduceSub, Nat.reduceMul, Nat.reduceMod, Nat.reduceAnd, Nat.reducePow, Nat.reduceEqDiff, Nat.add_zero, Nat.zero_add, Bool.false_eq_true, g0, h0]
      · obtain ⟨t, ht, c2, m2⟩ := draw_2 d1 (n := V 0) (by omega) (by omega)
        have hM2 := RM_sI hM1 37 (drN (M1.1 37))
        have d2 : (sI D1 0 (drN (D1.1 0))).1 0 = (sI M1 37 (drN (M1.1 37))).1 37 := by show drN (D1.1 0) = drN (M1.1 37); rw [d1]
        have s2 := s1.tr (MD.seed hM1 (drN (M1.1 37)))
        generalize sI D1 0 (drN (D1.1 0)) = D2 at c2 d2
        generalize sI M1 37 (drN (M1.1 37)) = M2 at m2 d2 s2 hM2
        obtain ⟨S', k1, k2⟩ := x8_goUp hS hw hp ht
        have k3 := x12_whyC hM2 hw hp ht
        have k5 : whyC V p t < 5 := by
          unfold whyC
          repeat' split
          all_goals omega
        by_cases h4 : whyC V p t = 0
        · obtain ⟨M3, k6, k7⟩ := x12_climbs hM2 hw hp ht
          rw [h4, if_pos rfl] at k2
          have hd3 : D2.1 0 = M3.1 37 := by
            obtain ⟨⟨f, rfl⟩, -⟩ := k7
            exact d2
          refine ⟨D2, S', M3, clV V p t, ?_, ?_, hd3, k2, s2.tr (MD.of k7), clV_WF hw hp ht, clV_SV p t, ?_⟩
          · simp (disch := omega) only [↓pu_m1, pu_lit, ↓reduceIte, pu_leT, pu_leF, pu_ltT, pu_ltF, pu_eqT, pu_eqF, pu_eqO, pu_eqO2, pu_ltO, pu_leO, pu_subO, pu_subOF, pu_subT, pu_subF, pu_oobF, pu_clamp, pu_add, pu_sub, pu_mul, pu_and, pu_or, pu_xor, pu_xorO, pu_shl, pu_shr, pu_ushr, pu_nb0, pu_nb1, pu_ob1, pu_ob2, pu_ob3, pu_ob4, pu_nw, pu_n1, pu_n7, pu_n31, pu_n255, pu_md, pu_one, pu_sI1, pu_sI2, pu_sA1, pu_sA21, pu_sA222, pu_sAe, pu_sAn, pu_sJ1, pu_sJ21, pu_sJ221, pu_sF1, pu_sF21, pu_sF222, pu_sFe, pu_sFn, pu_upe, pu_upn, Nat.reduceAdd, Nat.reduceSub, Nat.reduceMul, Nat.reduceMod, Nat.reduceAnd, Nat.reducePow, Nat.reduceEqDiff, Nat.add_zero, Nat.zero_add, Bool.false_eq_true, e0, c2, k1]
          · simp (disch := omega) only [↓pu_m1, pu_lit, ↓reduceIte, pu_leT, pu_leF, pu_ltT, pu_ltF, pu_eqT, pu_eqF, pu_eqO, pu_eqO2, pu_ltO, pu_leO, pu_subO, pu_subOF, pu_subT, pu_subF, pu_oobF, pu_clamp, pu_add, pu_sub, pu_mul, pu_and, pu_or, pu_xor, pu_xorO, pu_shl, pu_shr, pu_ushr, pu_nb0, pu_nb1, pu_ob1, pu_ob2, pu_ob3, pu_ob4, pu_nw, pu_n1, pu_n7, pu_n31, pu_n255, pu_md, pu_one, pu_sI1, pu_sI2, pu_sA1, pu_sA21, pu_sA222, pu_sAe, pu_sAn, pu_sJ1, pu_sJ21, pu_sJ221, pu_sF1, pu_sF21, pu_sF222, pu_sFe, pu_sFn, pu_upe, pu_upn, Nat.reduceAdd, Nat.reduceSub, Nat.reduceMul, Nat.reduceMod, Nat.reduceAnd, Nat.reducePow, Nat.reduceEqDiff, Nat.add_zero, Nat.zero_add, Bool.false_eq_true, g0, m2, k3, h4, k6]
          · unfold clV
            rw [pu_upn (by omega), pu_upn (by omega), pu_upn (by omega), pu_upn (by omega)]
        · rw [if_neg h4] at k2
          refine ⟨D2, S', M2, V, ?_, ?_, d2, k2, s2, hw, SV.rf, rfl⟩
          · simp (disch := omega) only [↓pu_m1, pu_lit, ↓reduceIte, pu_leT, pu_leF, pu_ltT, pu_ltF, pu_eqT, pu_eqF, pu_eqO, pu_eqO2, pu_ltO, pu_leO, pu_subO, pu_subOF, pu_subT, pu_subF, pu_oobF, pu_clamp, pu_add, pu_sub, pu_mul, pu_and, pu_or, pu_xor, pu_xorO, pu_shl, pu_shr, pu_ushr, pu_nb0, pu_nb1, pu_ob1, pu_ob2, pu_ob3, pu_ob4, pu_nw, pu_n1, pu_n7, pu_n31, pu_n255, pu_md, pu_one, pu_sI1, pu_sI2, pu_sA1, pu_sA21, pu_sA222, pu_sAe, pu_sAn, pu_sJ1, pu_sJ21, pu_sJ221, pu_sF1, pu_sF21, pu_sF222, pu_sFe, pu_sFn, pu_upe, pu_upn, Nat.reduceAdd, Nat.reduceSub, Nat.reduceMul, Nat.reduceMod, Nat.reduceAnd, Nat.reducePow, Nat.reduceEqDiff, Nat.add_zero, Nat.zero_add, Bool.false_eq_true, e0, c2, k1]
          · simp (disch := omega) only [↓pu_m1, pu_lit, ↓reduceIte, pu_leT, pu_leF, pu_ltT, pu_ltF, pu_eqT, pu_eqF, pu_eqO, pu_eqO2, pu_ltO, pu_leO, pu_subO, pu_subOF, pu_subT, pu_subF, pu_oobF, pu_clamp, pu_add, pu_sub, pu_mul, pu_and, pu_or, pu_xor, pu_xorO, pu_shl, pu_shr, pu_ushr, pu_nb0, pu_nb1, pu_ob1, pu_ob2, pu_ob3, pu_ob4, pu_nw, pu_n1, pu_n7, pu_n31, pu_n255, pu_md, pu_one, pu_sI1, pu_sI2, pu_sA1, pu_sA21, pu_sA222, pu_sAe, pu_sAn, pu_sJ1, pu_sJ21, pu_sJ221, pu_sF1, pu_sF21, pu_sF222, pu_sFe, pu_sFn, pu_upe, pu_upn, Nat.reduceAdd, Nat.reduceSub, Nat.reduceMul, Nat.reduceMod, Nat.reduceAnd, Nat.reducePow, Nat.reduceEqDiff, Nat.add_zero, Nat.zero_add, Bool.false_eq_true, g0, m2, k3]
theorem draw_day (hd : D.1 0 = M.1 37) (hS : RS S V) (hM : RM M V) (hw : WF V) (h42 : V 42 < 400) (n i : Nat) (hn : n ≤ 60) (hi : i < n) : ∃ D' S' M' V', F_X1_drawOneDay D S = some (D', S') ∧ (∀ k, F_X12_draws_7 k (nI n) (nI i) M = k (nI n, nI (i + 1), M')) ∧ D'.1 0 = M'.1 37 ∧ CS S S' V' ∧ MD M M' V' ∧ WF V' ∧ SV V V' ∧ V' 42 = V 42 + 1 := by
  have w0 := hw.1
  have w1 := hw.2.1
  have g42 := hM 42 (by omega)
  -- the persons
  have pers : ∀ (D1 S1 M1 : St) (V1 : Vt), DR D M S D1 M1 S1 V V1 → ∃ D' S' M' V', F_X1_drawOneDay_22 D1 S1 = some (D', S') ∧ (∀ k, F_X12_draws_46 k (nI n) (nI i) M1 = k (nI n, nI (i + 1), M')) ∧ D'.1 0 = M'.1 37 ∧ CS S S' V' ∧ MD M M' V' ∧ WF V' ∧ SV V V' ∧ V' 42 = V 42 + 1 := by
    intro D1 S1 M1 V1 h1
    have hp1 : V1 1 = V 1 := h1.2.2.2.2.1 1 (by omega)
    have key := lp_twoK (b1 := fun kz z => F_X1_drawOneDay_24 kz z.1 z.2.1 z.2.2) (b2 := fun (K : Int32 × Int32 × St → Option (Int32 × St)) kz z => F_X12_draws_49 K kz z.1 z.2.1 z.2.2.1 z.2.2.2) (fun j x y => ∃ D2 S2 M2 V2, x = (nI j, D2, S2) ∧ y = (nI n, nI i, nI j, M2) ∧ DR D M S D2 M2 S2 V V2) (V 1) (fun o o' => ∃ M' V', o' = (nI n, nI (i + 1), M') ∧ o.1.1 0 = M'.1 37 ∧ CS S o.2 V' ∧ MD M M' V' ∧ WF V' ∧ SV V V' ∧ V' 42 = V 42 + 1) (fun j hj x y hxy => ?_) (fun x y hxy => ?_) (x0 := (nI 0, D1, S1)) (y0 := (nI n, nI i, nI 0, M1)) ⟨D1, S1, M1, V1, rfl, rfl, h1⟩ (pu_FU (by omega : V 1 < 1000000))
    · obtain ⟨o, o', ⟨M', V', rfl, h2⟩, h3, h4⟩ := key
      exact ⟨o.1, o.2, M', V', h3, h4, h2⟩
    · obtain ⟨D2, S2, M2, V2, rfl, rfl, a1, a2, a3, a4, a5, a6⟩ := hxy
      have hv1 : V2 1 = V 1 := a5 1 (by omega)
      obtain ⟨D3, S3, M3, V3, b1, b2, b3, b4, b5, b6, b7, b8⟩ := draw_act a1 a2.1 a3.2.1 a4 (p := j) (by omega)
      have e7 := a2.1.2.1
      have g1 := a3.2.1 1 (by omega)
      rw [hv1] at e7 g1
      refine ⟨(nI (j + 1), D3, S3), (nI n, nI i, nI (j + 1), M3), ⟨D3, S3, M3, V3, rfl, rfl, b3, a2.tr b4, a3.tr b5, b6, a5.tr b7, b8.trans a6⟩, fun k => ?_, fun K k => ?_⟩
      · show F_X1_drawOneDay_24 k (nI j) D2 S2 = _
        unfold F_X1_drawOneDay_24
        simp (disch := omega) only [↓pu_m1, pu_lit, ↓reduceIte, pu_leT, pu_leF, pu_ltT, pu_ltF, pu_eqT, pu_eqF, pu_eqO, pu_eqO2, pu_ltO, pu_leO, pu_subO, pu_subOF, pu_subT, pu_subF, pu_oobF, pu_clamp, pu_add, pu_sub, pu_mul, pu_and, pu_or, pu_xor, pu_xorO, pu_shl, pu_shr, pu_ushr, pu_nb0, pu_nb1, pu_ob1, pu_ob2, pu_ob3, pu_ob4, pu_nw, pu_n1, pu_n7, pu_n31, pu_n255, pu_md, pu_one, pu_sI1, pu_sI2, pu_sA1, pu_sA21, pu_sA222, pu_sAe, pu_sAn, pu_sJ1, pu_sJ21, pu_sJ221, pu_sF1, pu_sF21, pu_sF222, pu_sFe, pu_sFn, pu_upe, pu_upn, Nat.reduceAdd, Nat.reduceSub, Nat.reduceMul, Nat.reduceMod, Nat.reduceAnd, Nat.reducePow, Nat.reduceEqDiff, Nat.add_zero, Nat.zero_add, Bool.false_eq_true, e7, b1]
      · show F_X12_draws_49 K k (nI n) (nI i) (nI j) M2 = _
        unfold F_X12_draws_49
        simp (disch := omega) only [↓pu_m1, pu_lit, ↓reduceIte, pu_leT, pu_leF, pu_ltT, pu_ltF, pu_eqT, pu_eqF, pu_eqO, pu_eqO2, pu_ltO, pu_leO, pu_subO, pu_subOF, pu_subT, pu_subF, pu_oobF, pu_clamp, pu_add, pu_sub, pu_mul, pu_and, pu_or, pu_xor, pu_xorO, pu_shl, pu_shr, pu_ushr, pu_nb0, pu_nb1, pu_ob1, pu_ob2, pu_ob3, pu_ob4, pu_nw, pu_n1, pu_n7, pu_n31, pu_n255, pu_md, pu_one, pu_sI1, pu_sI2, pu_sA1, pu_sA21, pu_sA222, pu_sAe, pu_sAn, pu_sJ1, pu_sJ21, pu_sJ221, pu_sF1, pu_sF21, pu_sF222, pu_sFe, pu_sFn, pu_upe, pu_upn, Nat.reduceAdd, Nat.reduceSub, Nat.reduceMul, Nat.reduceMod, Nat.reduceAnd, Nat.reducePow, Nat.reduceEqDiff, Nat.add_zero, Nat.zero_add, Bool.false_eq_true, g1, b2]
    · obtain ⟨D2, S2, M2, V2, rfl, rfl, a1, a2, a3, a4, a5, a6⟩ := hxy
      have hv1 : V2 1 = V 1 := a5 1 (by omega)
      have e7 := a2.1.2.1
      have g1 := a3.2.1 1 (by omega)
      rw [hv1] at e7 g1
      obtain ⟨S3, b1, b2⟩ := x8_passDay a2.1 a4
      obtain ⟨M3, b3, b4⟩ := x12_day a3.2.1 a4
      have hd3 : D2.1 0 = M3.1 37 := by
        obtain ⟨⟨f, rfl⟩, -⟩ := b4
        exact a1
      refine ⟨(D2, S3), (nI n, nI (i + 1), M3), ⟨M3, dyV V2, rfl, hd3, a2.tr b2, a3.tr (MD.of b4), dyV_WF a4 (by omega), a5.tr dyV_SV, by rw [dyV_42, a6]⟩, fun k => ?_, fun K k => ?_⟩
      · show F_X1_drawOneDay_24 k (nI (V 1)) D2 S2 = _
        unfold F_X1_drawOneDay_24
        simp (disch := omega) only [↓pu_m1, pu_lit, ↓reduceIte, pu_leT, pu_leF, pu_ltT, pu_ltF, pu_eqT, pu_eqF, pu_eqO, pu_eqO2, pu_ltO, pu_leO, pu_subO, pu_subOF, pu_subT, pu_subF, pu_oobF, pu_clamp, pu_add, pu_sub, pu_mul, pu_and, pu_or, pu_xor, pu_xorO, pu_shl, pu_shr, pu_ushr, pu_nb0, pu_nb1, pu_ob1, pu_ob2, pu_ob3, pu_ob4, pu_nw, pu_n1, pu_n7, pu_n31, pu_n255, pu_md, pu_one, pu_sI1, pu_sI2, pu_sA1, pu_sA21, pu_sA222, pu_sAe, pu_sAn, pu_sJ1, pu_sJ21, pu_sJ221, pu_sF1, pu_sF21, pu_sF222, pu_sFe, pu_sFn, pu_upe, pu_upn, Nat.reduceAdd, Nat.reduceSub, Nat.reduceMul, Nat.reduceMod, Nat.reduceAnd, Nat.reducePow, Nat.reduceEqDiff, Nat.add_zero, Nat.zero_add, Bool.false_eq_true, e7, b1]
      · show F_X12_draws_49 K k (nI n) (nI i) (nI (V 1)) M2 = _
        unfold F_X12_draws_49
        simp (disch := omega) only [↓pu_m1, pu_lit, ↓reduceIte, pu_leT, pu_leF, pu_ltT, pu_ltF, pu_eqT, pu_eqF, pu_eqO, pu_eqO2, pu_ltO, pu_leO, pu_subO, pu_subOF, pu_subT, pu_subF, pu_oobF, pu_clamp, pu_add, pu_sub, pu_mul, pu_and, pu_or, pu_xor, pu_xorO, pu_shl, pu_shr, pu_ushr, pu_nb0, pu_nb1, pu_ob1, pu_ob2, pu_ob3, pu_ob4, pu_nw, pu_n1, pu_n7, pu_n31, pu_n255, pu_md, pu_one, pu_sI1, pu_sI2, pu_sA1, pu_sA21, pu_sA222, pu_sAe, pu_sAn, pu_sJ1, pu_sJ21, pu_sJ221, pu_sF1, pu_sF21, pu_sF222, pu_sFe, pu_sFn, pu_upe, pu_upn, Nat.reduceAdd, Nat.reduceSub, Nat.reduceMul, Nat.reduceMod, Nat.reduceAnd, Nat.reducePow, Nat.reduceEqDiff, Nat.add_zero, Nat.zero_add, Bool.false_eq_true, g1, b3]
  obtain ⟨a, ha, c1, m1⟩ := draw_2 hd (n := 12) (by omega) (by omega)
  have hM1 := RM_sI hM 37 (drN (M.1 37))
  have d1 : (sI D 0 (drN (D.1 0))).1 0 = (sI M 37 (drN (M.1 37))).1 37 := by show drN (D.1 0) = drN (M.1 37); rw [hd]
  have s1 := MD.seed hM (drN (M.1 37))
  generalize sI D 0 (drN (D.1 0)) = D1 at c1 d1
  generalize sI M 37 (drN (M.1 37)) = M1 at m1 d1 s1 hM1
  have c1 : F_X1_draw D 12 = some (nI a, D1) := c1
  have m1 : F_X12_draw M 12 = some (nI a, M1) := m1
  unfold F_X1_drawOneDay F_X12_draws_7
  rw [c1, m1]
  by_cases h0 : a = 0
  · obtain ⟨b, hb, c2, m2⟩ := draw_2 d1 (n := 60) (by omega) (by omega)
    have hM2 := RM_sI hM1 37 (drN (M1.1 37))
    have d2 : (sI D1 0 (drN (D1.1 0))).1 0 = (sI M1 37 (drN (M1.1 37))).1 37 := by show drN (D1.1 0) = drN (M1.1 37); rw [d1]
    have s2 := s1.tr (MD.seed hM1 (drN (M1.1 37)))
    generalize sI D1 0 (drN (D1.1 0)) = D2 at c2 d2
    generalize sI M1 37 (drN (M1.1 37)) = M2 at m2 d2 s2 hM2
    obtain ⟨S', k1, k2⟩ := x8_blow hS hw (n := b + 1) (by omega)
    obtain ⟨M3, k3, k4⟩ := x12_storms hM2 hw (n := b + 1) (by omega)
    have hd3 : D2.1 0 = M3.1 37 := by
      obtain ⟨⟨f, rfl⟩, -⟩ := k4
      exact d2
    obtain ⟨D', S'', M', V', q1, q2, q3⟩ := pers D2 S' M3 (stV V (b + 1)) ⟨hd3, k2, s2.tr (MD.of k4), stA_WF hw (by omega) (V 0) (Nat.le_refl _), stA_SV _ _, stA_out V _ _ 42 (by omega)⟩
    refine ⟨D', S'', M', V', ?_, fun k => ?_, q3⟩
    · simp (disch := omega) only [↓pu_m1, pu_lit, ↓reduceIte, pu_leT, pu_leF, pu_ltT, pu_ltF, pu_eqT, pu_eqF, pu_eqO, pu_eqO2, pu_ltO, pu_leO, pu_subO, pu_subOF, pu_subT, pu_subF, pu_oobF, pu_clamp, pu_add, pu_sub, pu_mul, pu_and, pu_or, pu_xor, pu_xorO, pu_shl, pu_shr, pu_ushr, pu_nb0, pu_nb1, pu_ob1, pu_ob2, pu_ob3, pu_ob4, pu_nw, pu_n1, pu_n7, pu_n31, pu_n255, pu_md, pu_one, pu_sI1, pu_sI2, pu_sA1, pu_sA21, pu_sA222, pu_sAe, pu_sAn, pu_sJ1, pu_sJ21, pu_sJ221, pu_sF1, pu_sF21, pu_sF222, pu_sFe, pu_sFn, pu_upe, pu_upn, Nat.reduceAdd, Nat.reduceSub, Nat.reduceMul, Nat.reduceMod, Nat.reduceAnd, Nat.reducePow, Nat.reduceEqDiff, Nat.add_zero, Nat.zero_add, Bool.false_eq_true, h0, c2, k1, q1]
    · simp (disch := omega) only [↓pu_m1, pu_lit, ↓reduceIte, pu_leT, pu_leF, pu_ltT, pu_ltF, pu_eqT, pu_eqF, pu_eqO, pu_eqO2, pu_ltO, pu_leO, pu_subO, pu_subOF, pu_subT, pu_subF, pu_oobF, pu_clamp, pu_add, pu_sub, pu_mul, pu_and, pu_or, pu_xor, pu_xorO, pu_shl, pu_shr, pu_ushr, pu_nb0, pu_nb1, pu_ob1, pu_ob2, pu_ob3, pu_ob4, pu_nw, pu_n1, pu_n7, pu_n31, pu_n255, pu_md, pu_one, pu_sI1, pu_sI2, pu_sA1, pu_sA21, pu_sA222, pu_sAe, pu_sAn, pu_sJ1, pu_sJ21, pu_sJ221, pu_sF1, pu_sF21, pu_sF222, pu_sFe, pu_sFn, pu_upe, pu_upn, Nat.reduceAdd, Nat.reduceSub, Nat.reduceMul, Nat.reduceMod, Nat.reduceAnd, Nat.reducePow, Nat.reduceEqDiff, Nat.add_zero, Nat.zero_add, Bool.false_eq_true, g42, h0, m2, k3, q2]
  · obtain ⟨D', S'', M', V', q1, q2, q3⟩ := pers D1 S M1 V ⟨d1, CS.rf hS, s1, hw, SV.rf, rfl⟩
    refine ⟨D', S'', M', V', ?_, fun k => ?_, q3⟩
    · simp (disch := omega) only [↓pu_m1, pu_lit, ↓reduceIte, pu_leT, pu_leF, pu_ltT, pu_ltF, pu_eqT, pu_eqF, pu_eqO, pu_eqO2, pu_ltO, pu_leO, pu_subO, pu_subOF, pu_subT, pu_subF, pu_oobF, pu_clamp, pu_add, pu_sub, pu_mul, pu_and, pu_or, pu_xor, pu_xorO, pu_shl, pu_shr, pu_ushr, pu_nb0, pu_nb1, pu_ob1, pu_ob2, pu_ob3, pu_ob4, pu_nw, pu_n1, pu_n7, pu_n31, pu_n255, pu_md, pu_one, pu_sI1, pu_sI2, pu_sA1, pu_sA21, pu_sA222, pu_sAe, pu_sAn, pu_sJ1, pu_sJ21, pu_sJ221, pu_sF1, pu_sF21, pu_sF222, pu_sFe, pu_sFn, pu_upe, pu_upn, Nat.reduceAdd, Nat.reduceSub, Nat.reduceMul, Nat.reduceMod, Nat.reduceAnd, Nat.reducePow, Nat.reduceEqDiff, Nat.add_zero, Nat.zero_add, Bool.false_eq_true, h0, q1]
    · simp (disch := omega) only [↓pu_m1, pu_lit, ↓reduceIte, pu_leT, pu_leF, pu_ltT, pu_ltF, pu_eqT, pu_eqF, pu_eqO, pu_eqO2, pu_ltO, pu_leO, pu_subO, pu_subOF, pu_subT, pu_subF, pu_oobF, pu_clamp, pu_add, pu_sub, pu_mul, pu_and, pu_or, pu_xor, pu_xorO, pu_shl, pu_shr, pu_ushr, pu_nb0, pu_nb1, pu_ob1, pu_ob2, pu_ob3, pu_ob4, pu_nw, pu_n1, pu_n7, pu_n31, pu_n255, pu_md, pu_one, pu_sI1, pu_sI2, pu_sA1, pu_sA21, pu_sA222, pu_sAe, pu_sAn, pu_sJ1, pu_sJ21, pu_sJ221, pu_sF1, pu_sF21, pu_sF222, pu_sFe, pu_sFn, pu_upe, pu_upn, Nat.reduceAdd, Nat.reduceSub, Nat.reduceMul, Nat.reduceMod, Nat.reduceAnd, Nat.reducePow, Nat.reduceEqDiff, Nat.add_zero, Nat.zero_add, Bool.false_eq_true, g42, h0, q2]
/-- days by draws, on both sides -/
theorem draw_days (hS : RS S V) (hM : RM M V) (hw : WF V) (x : Int32) {n : Nat} (hn : n ≤ 60) : ∃ D' S' M' V', F_X1_drawDays D S (nI n) x = some (nI (min n (400 - V 42)), D', S') ∧ F_X12_draws M (nI n) x = some (nI (min n (400 - V 42)), M') ∧ CS S S' V' ∧ MD M M' V' ∧ WF V' ∧ SV V V' := by
  have w42 := hw.2.2.2.2.1
  have e14 := hS.2.2.2.2.1
  unfold F_X1_drawDays F_X12_draws F_X8_daysLeft L_X1_drawDays_18 L_X12_draws_7
  have hm : (if (400 : Int32) - S.1 14 < nI n then (400 : Int32) - S.1 14 else nI n) = nI (min n (400 - V 42)) := by
    by_cases h : 400 - V 42 < n
    · rw [Nat.min_eq_right (by omega)]
      simp (disch := omega) only [↓pu_m1, pu_lit, ↓reduceIte, pu_leT, pu_leF, pu_ltT, pu_ltF, pu_eqT, pu_eqF, pu_eqO, pu_eqO2, pu_ltO, pu_leO, pu_subO, pu_subOF, pu_subT, pu_subF, pu_oobF, pu_clamp, pu_add, pu_sub, pu_mul, pu_and, pu_or, pu_xor, pu_xorO, pu_shl, pu_shr, pu_ushr, pu_nb0, pu_nb1, pu_ob1, pu_ob2, pu_ob3, pu_ob4, pu_nw, pu_n1, pu_n7, pu_n31, pu_n255, pu_md, pu_one, pu_sI1, pu_sI2, pu_sA1, pu_sA21, pu_sA222, pu_sAe, pu_sAn, pu_sJ1, pu_sJ21, pu_sJ221, pu_sF1, pu_sF21, pu_sF222, pu_sFe, pu_sFn, pu_upe, pu_upn, Nat.reduceAdd, Nat.reduceSub, Nat.reduceMul, Nat.reduceMod, Nat.reduceAnd, Nat.reducePow, Nat.reduceEqDiff, Nat.add_zero, Nat.zero_add, Bool.false_eq_true, e14]
    · rw [Nat.min_eq_left (by omega)]
      simp (disch := omega) only [↓pu_m1, pu_lit, ↓reduceIte, pu_leT, pu_leF, pu_ltT, pu_ltF, pu_eqT, pu_eqF, pu_eqO, pu_eqO2, pu_ltO, pu_leO, pu_subO, pu_subOF, pu_subT, pu_subF, pu_oobF, pu_clamp, pu_add, pu_sub, pu_mul, pu_and, pu_or, pu_xor, pu_xorO, pu_shl, pu_shr, pu_ushr, pu_nb0, pu_nb1, pu_ob1, pu_ob2, pu_ob3, pu_ob4, pu_nw, pu_n1, pu_n7, pu_n31, pu_n255, pu_md, pu_one, pu_sI1, pu_sI2, pu_sA1, pu_sA21, pu_sA222, pu_sAe, pu_sAn, pu_sJ1, pu_sJ21, pu_sJ221, pu_sF1, pu_sF21, pu_sF222, pu_sFe, pu_sFn, pu_upe, pu_upn, Nat.reduceAdd, Nat.reduceSub, Nat.reduceMul, Nat.reduceMod, Nat.reduceAnd, Nat.reducePow, Nat.reduceEqDiff, Nat.add_zero, Nat.zero_add, Bool.false_eq_true, e14]
  simp only [pu_nw, pu_ob1, hm]
  have hmm : V 42 + min n (400 - V 42) ≤ 400 := by omega
  have hm6 : min n (400 - V 42) ≤ n := by omega
  have hm7 : min n (400 - V 42) = n ∨ V 42 + min n (400 - V 42) = 400 := by omega
  generalize min n (400 - V 42) = g at hmm hm6 hm7 ⊢
  have key := lp_two (b1 := fun kz z => F_X1_drawDays_18 kz z.1 z.2.1 z.2.2.1 z.2.2.2) (b2 := fun kz z => F_X12_draws_7 kz z.1 z.2.1 z.2.2) (fun i a b => ∃ D2 S2 M2 V2, a = (nI g, nI i, D2, S2) ∧ b = (nI n, nI i, M2) ∧ D2.1 0 = M2.1 37 ∧ CS S S2 V2 ∧ MD M M2 V2 ∧ WF V2 ∧ SV V V2 ∧ V2 42 = V 42 + i) g (fun o o' => ∃ D' S' M' V', o = (nI g, D', S') ∧ o' = (nI g, M') ∧ CS S S' V' ∧ MD M M' V' ∧ WF V' ∧ SV V V') (fun i hi a b hab => ?_) (fun a b hab => ?_) (x0 := (nI g, nI 0, sI D 0 x, S)) (y0 := (nI n, nI 0, sI M 37 x)) ⟨_, _, _, V, rfl, rfl, rfl, CS.rf hS, MD.seed hM x, hw, SV.rf, rfl⟩ (pu_FU (by omega : g < 1000000))
  · obtain ⟨o, o', ⟨D', S', M', V', rfl, rfl, h1⟩, h2, h3⟩ := key
    exact ⟨D', S', M', V', h2, h3, h1⟩
  · obtain ⟨D2, S2, M2, V2, rfl, rfl, a1, a2, a3, a4, a5, a6⟩ := hab
    obtain ⟨D3, S3, M3, V3, b1, b2, b3, b4, b5, b6, b7, b8⟩ := draw_day a1 a2.1 a3.2.1 a4 (by omega) n i hn (by omega)
    refine ⟨(nI g, nI (i + 1), D3, S3), (nI n, nI (i + 1), M3), ⟨D3, S3, M3, V3, rfl, rfl, b3, a2.tr b4, a3.tr b5, b6, a5.tr b7, by rw [b8, a6]; omega⟩, fun k => ?_, fun k => b2 k⟩
    show F_X1_drawDays_18 k (nI g) (nI i) D2 S2 = _
    unfold F_X1_drawDays_18
    simp (disch := omega) only [↓pu_m1, pu_lit, ↓reduceIte, pu_leT, pu_leF, pu_ltT, pu_ltF, pu_eqT, pu_eqF, pu_eqO, pu_eqO2, pu_ltO, pu_leO, pu_subO, pu_subOF, pu_subT, pu_subF, pu_oobF, pu_clamp, pu_add, pu_sub, pu_mul, pu_and, pu_or, pu_xor, pu_xorO, pu_shl, pu_shr, pu_ushr, pu_nb0, pu_nb1, pu_ob1, pu_ob2, pu_ob3, pu_ob4, pu_nw, pu_n1, pu_n7, pu_n31, pu_n255, pu_md, pu_one, pu_sI1, pu_sI2, pu_sA1, pu_sA21, pu_sA222, pu_sAe, pu_sAn, pu_sJ1, pu_sJ21, pu_sJ221, pu_sF1, pu_sF21, pu_sF222, pu_sFe, pu_sFn, pu_upe, pu_upn, Nat.reduceAdd, Nat.reduceSub, Nat.reduceMul, Nat.reduceMod, Nat.reduceAnd, Nat.reducePow, Nat.reduceEqDiff, Nat.add_zero, Nat.zero_add, Bool.false_eq_true, b1]
  · obtain ⟨D2, S2, M2, V2, rfl, rfl, a1, a2, a3, a4, a5, a6⟩ := hab
    have g42 := a3.2.1 42 (by omega)
    rw [a6] at g42
    refine ⟨(nI g, D2, S2), (nI g, M2), ⟨D2, S2, M2, V2, rfl, rfl, a2, a3, a4, a5⟩, fun k => ?_, fun k => ?_⟩
    · show F_X1_drawDays_18 k (nI g) (nI g) D2 S2 = _
      unfold F_X1_drawDays_18
      simp (disch := omega) only [↓pu_m1, pu_lit, ↓reduceIte, pu_leT, pu_leF, pu_ltT, pu_ltF, pu_eqT, pu_eqF, pu_eqO, pu_eqO2, pu_ltO, pu_leO, pu_subO, pu_subOF, pu_subT, pu_subF, pu_oobF, pu_clamp, pu_add, pu_sub, pu_mul, pu_and, pu_or, pu_xor, pu_xorO, pu_shl, pu_shr, pu_ushr, pu_nb0, pu_nb1, pu_ob1, pu_ob2, pu_ob3, pu_ob4, pu_nw, pu_n1, pu_n7, pu_n31, pu_n255, pu_md, pu_one, pu_sI1, pu_sI2, pu_sA1, pu_sA21, pu_sA222, pu_sAe, pu_sAn, pu_sJ1, pu_sJ21, pu_sJ221, pu_sF1, pu_sF21, pu_sF222, pu_sFe, pu_sFn, pu_upe, pu_upn, Nat.reduceAdd, Nat.reduceSub, Nat.reduceMul, Nat.reduceMod, Nat.reduceAnd, Nat.reducePow, Nat.reduceEqDiff, Nat.add_zero, Nat.zero_add, Bool.false_eq_true]
    · show F_X12_draws_7 k (nI n) (nI g) M2 = _
      unfold F_X12_draws_7
      rcases hm7 with h | h
      · simp (disch := omega) only [↓pu_m1, pu_lit, ↓reduceIte, pu_leT, pu_leF, pu_ltT, pu_ltF, pu_eqT, pu_eqF, pu_eqO, pu_eqO2, pu_ltO, pu_leO, pu_subO, pu_subOF, pu_subT, pu_subF, pu_oobF, pu_clamp, pu_add, pu_sub, pu_mul, pu_and, pu_or, pu_xor, pu_xorO, pu_shl, pu_shr, pu_ushr, pu_nb0, pu_nb1, pu_ob1, pu_ob2, pu_ob3, pu_ob4, pu_nw, pu_n1, pu_n7, pu_n31, pu_n255, pu_md, pu_one, pu_sI1, pu_sI2, pu_sA1, pu_sA21, pu_sA222, pu_sAe, pu_sAn, pu_sJ1, pu_sJ21, pu_sJ221, pu_sF1, pu_sF21, pu_sF222, pu_sFe, pu_sFn, pu_upe, pu_upn, Nat.reduceAdd, Nat.reduceSub, Nat.reduceMul, Nat.reduceMod, Nat.reduceAnd, Nat.reducePow, Nat.reduceEqDiff, Nat.add_zero, Nat.zero_add, Bool.false_eq_true, g42, h]
      · by_cases h2 : g = n
        · simp (disch := omega) only [↓pu_m1, pu_lit, ↓reduceIte, pu_leT, pu_leF, pu_ltT, pu_ltF, pu_eqT, pu_eqF, pu_eqO, pu_eqO2, pu_ltO, pu_leO, pu_subO, pu_subOF, pu_subT, pu_subF, pu_oobF, pu_clamp, pu_add, pu_sub, pu_mul, pu_and, pu_or, pu_xor, pu_xorO, pu_shl, pu_shr, pu_ushr, pu_nb0, pu_nb1, pu_ob1, pu_ob2, pu_ob3, pu_ob4, pu_nw, pu_n1, pu_n7, pu_n31, pu_n255, pu_md, pu_one, pu_sI1, pu_sI2, pu_sA1, pu_sA21, pu_sA222, pu_sAe, pu_sAn, pu_sJ1, pu_sJ21, pu_sJ221, pu_sF1, pu_sF21, pu_sF222, pu_sFe, pu_sFn, pu_upe, pu_upn, Nat.reduceAdd, Nat.reduceSub, Nat.reduceMul, Nat.reduceMod, Nat.reduceAnd, Nat.reducePow, Nat.reduceEqDiff, Nat.add_zero, Nat.zero_add, Bool.false_eq_true, g42, h2]
        · simp (disch := omega) only [↓pu_m1, pu_lit, ↓reduceIte, pu_leT, pu_leF, pu_ltT, pu_ltF, pu_eqT, pu_eqF, pu_eqO, pu_eqO2, pu_ltO, pu_leO, pu_subO, pu_subOF, pu_subT, pu_subF, pu_oobF, pu_clamp, pu_add, pu_sub, pu_mul, pu_and, pu_or, pu_xor, pu_xorO, pu_shl, pu_shr, pu_ushr, pu_nb0, pu_nb1, pu_ob1, pu_ob2, pu_ob3, pu_ob4, pu_nw, pu_n1, pu_n7, pu_n31, pu_n255, pu_md, pu_one, pu_sI1, pu_sI2, pu_sA1, pu_sA21, pu_sA222, pu_sAe, pu_sAn, pu_sJ1, pu_sJ21, pu_sJ221, pu_sF1, pu_sF21, pu_sF222, pu_sFe, pu_sFn, pu_upe, pu_upn, Nat.reduceAdd, Nat.reduceSub, Nat.reduceMul, Nat.reduceMod, Nat.reduceAnd, Nat.reducePow, Nat.reduceEqDiff, Nat.add_zero, Nat.zero_add, Bool.false_eq_true, g42, h]
end P6
