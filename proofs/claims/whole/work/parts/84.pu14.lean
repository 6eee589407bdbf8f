/-! what can have made a face -/
theorem lp_two2 {α β α' β' γ γ' : Type} {b1 : (γ → Option β) → (α → Option β) → α → Option β} {b2 : (γ' → Option β') → (α' → Option β') → α' → Option β'} (J : Nat → α → α' → Prop) (n : Nat) (Q : γ → γ' → Prop) (hs : ∀ i, i < n → ∀ x y, J i x y → ∃ x' y', J (i + 1) x' y' ∧ (∀ K k, b1 K k x = k x') ∧ (∀ K k, b2 K k y = k y')) (he : ∀ x y, J n x y → ∃ o o', Q o o' ∧ (∀ K k, b1 K k x = K o) ∧ (∀ K k, b2 K k y = K o')) {x0 : α} {y0 : α'} (h0 : J 0 x0 y0) {N : Nat} (hN : n < N) : ∃ o o', Q o o' ∧ (∀ K, lp (b1 K) N x0 = K o) ∧ (∀ K, lp (b2 K) N y0 = K o') := by
  have h : ∀ d i x y, i + d = n → J i x y → ∀ N, d < N → ∃ o o', Q o o' ∧ (∀ K, lp (b1 K) N x = K o) ∧ (∀ K, lp (b2 K) N y = K o') := by
    intro d
    induction d with
    | zero =>
      intro i x y hi hx N hN
      obtain ⟨N, rfl⟩ : ∃ k, N = k + 1 := ⟨N - 1, by omega⟩
      have e : i = n := by omega
      subst e
      obtain ⟨o, o', h1, h2, h3⟩ := he x y hx
      exact ⟨o, o', h1, fun K => h2 K _, fun K => h3 K _⟩
    | succ d ih =>
      intro i x y hi hx N hN
      obtain ⟨N, rfl⟩ : ∃ k, N = k + 1 := ⟨N - 1, by omega⟩
      obtain ⟨x', y', h1, h2, h3⟩ := hs i (by omega) x y hx
      obtain ⟨o, o', h4, h5, h6⟩ := ih (i + 1) x' y' (by omega) h1 N (by omega)
      refine ⟨o, o', h4, fun K => ?_, fun K => ?_⟩
      · show b1 K (lp (b1 K) N) x = K o
        rw [h2]; exact h5 K
      · show b2 K (lp (b2 K) N) y = K o'
        rw [h3]; exact h6 K
  exact h n 0 x0 y0 (by omega) h0 N hN
def RMd (W M : St) : Prop := ∃ n, n ≤ 3 ∧ W.1 7 = nI n ∧ (M.1 27 = nI n ∨ (n = 0 ∧ M.1 27 = nO)) ∧ ∀ i, i < n → W.2.2.1 6 i = M.2.2.1 26 i
/-- what of the Rows made() leaves as it was -/
def WS (W W' : St) : Prop := W'.1 4 = W.1 4 ∧ W'.2.2.1 3 = W.2.2.1 3
theorem pow_dn {n k i : Nat} (hn : 0 < n) (hi : i < k) : n ^ (k - i) / n = n ^ (k - 1 - i) := by
  have e : k - i = k - 1 - i + 1 := by omega
  rw [e, Nat.pow_succ, Nat.mul_div_cancel _ hn]
theorem pow_3 {n k : Nat} (hn : n ≤ 7) (hk : k ≤ 3) : n ^ k ≤ 343 := by
  rcases (by omega : k = 0 ∨ k = 1 ∨ k = 2 ∨ k = 3) with e | e | e | e <;> subst e
  · rw [Nat.pow_zero]; omega
  · rw [Nat.pow_one]; omega
  · exact Nat.le_trans (Nat.pow_le_pow_left hn 2) (by decide)
  · exact Nat.le_trans (Nat.pow_le_pow_left hn 3) (by decide)
theorem dg_lt {n : Nat} (hn : 0 < n) (k c i : Nat) : dg n k c i < n := Nat.mod_lt _ hn
section P14
variable {T B M W P : St} {V : Vt}
theorem x6_digits (hS : RS B V) (hw : WF V) (h0 : 0 < V 0) {a k c : Nat} (hk : k ≤ 3) (hc : c < 1000) : ∃ W', (∀ j, j < k → W'.2.2.1 5 j = nI (dg (V 0) k c j)) ∧ (∀ r, r ≠ 5 → W'.2.2.1 r = W.2.2.1 r) ∧ W'.1 = W.1 ∧ F_X6_climbTried W B (nI a) (nI k) (nI c) = L_X6_climbTried_55 (nI k) (nI a) 0 W' B := by
  have w0 := hw.1
  have e0 := hS.1
  have key := lp_invG (body := fun kz z => F_X6_climbTried_19 kz z.1 z.2.1 z.2.2.1 z.2.2.2.1 z.2.2.2.2.1 z.2.2.2.2.2.1 z.2.2.2.2.2.2) (fun i z => ∃ W', z = (nI a, nI k, nI (V 0), nI (c / V 0 ^ i), nI (k - i) - nI 1, W', B) ∧ (∀ j, k - i ≤ j → j < k → W'.2.2.1 5 j = nI (dg (V 0) k c j)) ∧ (∀ r, r ≠ 5 → W'.2.2.1 r = W.2.2.1 r) ∧ W'.1 = W.1) k (fun z => L_X6_climbTried_55 z.2.1 z.1 0 z.2.2.2.2.2.1 z.2.2.2.2.2.2) (fun i hi z hz => ?_) (fun z hz kk => ?_) (x0 := (nI a, nI k, nI (V 0), nI (c / V 0 ^ 0), nI (k - 0) - nI 1, W, B)) ⟨W, rfl, fun j h1 h2 => by omega, fun _ _ => rfl, rfl⟩ (pu_FU (by omega : k < 1000000))
  · obtain ⟨y, ⟨W', rfl, h1, h2, h3⟩, h4⟩ := key
    refine ⟨W', fun j hj => h1 j (by omega) hj, h2, h3, ?_⟩
    unfold F_X6_climbTried L_X6_climbTried_19
    rw [Nat.pow_zero, Nat.div_one, Nat.sub_zero] at h4
    simp (disch := omega) only [pu_lit, e0, pu_ltF, ↓reduceIte, pu_nwN]
    exact h4
  · obtain ⟨W', rfl, a1, a2, a3⟩ := hz
    have e1 : k - (i + 1) = k - i - 1 := by omega
    have hq : c / V 0 ^ i < 1000 := Nat.lt_of_le_of_lt (Nat.div_le_self _ _) hc
    have hr := pk_rem (a := c / V 0 ^ i) (d := V 0) (by omega) h0 (by omega)
    have hd := pk_div (a := c / V 0 ^ i) (d := V 0) (by omega) h0 (by omega)
    have hdd : c / V 0 ^ i / V 0 = c / V 0 ^ (i + 1) := by rw [Nat.div_div_eq_div_mul, Nat.pow_succ]
    rw [hdd] at hd
    have hs : nI (k - i) - nI 1 = nI (k - i - 1) := pu_sub (by omega)
    refine ⟨(nI a, nI k, nI (V 0), nI (c / V 0 ^ (i + 1)), nI (k - i - 1) - nI 1, sA W' 5 (nI (k - i - 1)) (nI (c / V 0 ^ i % V 0)), B), ⟨sA W' 5 (nI (k - i - 1)) (nI (c / V 0 ^ i % V 0)), by rw [e1], fun j h1 h2 => ?_, fun r hr => by rw [pu_sAn hr]; exact a2 r hr, a3⟩, fun kk => ?_⟩
    · rw [pu_sAe (by omega)]
      by_cases e : j = k - i - 1
      · rw [if_pos e, e]
        unfold dg
        rw [show k - 1 - (k - i - 1) = i from by omega]
      · rw [if_neg e]; exact a1 j (by omega) h2
    · show F_X6_climbTried_19 kk (nI a) (nI k) (nI (V 0)) (nI (c / V 0 ^ i)) (nI (k - i) - nI 1) W' B = _
      unfold F_X6_climbTried_19
      rw [hs, if_neg (nI_pos (by omega)), if_neg (nI_ne0 h0 (by omega)), if_neg (by rw [pu_oobF (by omega) (by omega)]; exact id), pu_nwN, if_neg (nI_ne0 h0 (by omega)), hr, hd, dn_tab (k - i - 1) (by omega)]
  · obtain ⟨W', rfl, a1, a2, a3⟩ := hz
    show F_X6_climbTried_19 kk (nI a) (nI k) (nI (V 0)) (nI (c / V 0 ^ k)) (nI (k - k) - nI 1) W' B = _
    unfold F_X6_climbTried_19
    rw [Nat.sub_self, if_pos (by decide)]
theorem x6_tried (hS : RS B V) (hw : WF V) (h0 : 0 < V 0) {a k c : Nat} (ha : a < 256) (hk : k ≤ 3) (hc : c < 1000) : ∃ W', (∀ j, j < k → W'.2.2.1 5 j = nI (dg (V 0) k c j)) ∧ (∀ r, r ≠ 5 → W'.2.2.1 r = W.2.2.1 r) ∧ W'.1 = W.1 ∧ F_X6_climbTried W B (nI a) (nI k) (nI c) = some (nI (mvA V k c a k), W') := by
  obtain ⟨W', h1, h2, h3, h4⟩ := x6_digits (W := W) (a := a) hS hw h0 hk hc
  refine ⟨W', h1, h2, h3, ?_⟩
  rw [h4]
  unfold L_X6_climbTried_55
  refine lp_up (fun i => (nI k, nI (mvA V k c a i), nI i, W', B)) k (fun i hi kk => ?_) (fun kk => ?_) (pu_FU (by omega))
  · have g := h1 i hi
    have hb := x8_after hS hw (dg_lt h0 k c i) (mvA_lt V k c ha i)
    show F_X6_climbTried_55 kk (nI k) (nI (mvA V k c a i)) (nI i) W' B = _
    unfold F_X6_climbTried_55
    simp (disch := omega) only [↓pu_m1, pu_lit, ↓reduceIte, pu_leT, pu_leF, pu_ltT, pu_ltF, pu_eqT, pu_eqF, pu_eqO, pu_eqO2, pu_ltO, pu_leO, pu_subO, pu_subOF, pu_subT, pu_subF, pu_oobF, pu_clamp, pu_add, pu_sub, pu_mul, pu_and, pu_or, pu_xor, pu_xorO, pu_shl, pu_shr, pu_ushr, pu_nb0, pu_nb1, pu_ob1N, pu_ob2N, pu_ob3N, pu_ob4N, pu_nwN, pu_n1, pu_n7, pu_n31, pu_n255, pu_md, pu_one, pu_sI1, pu_sI2, pu_sA1, pu_sA21, pu_sA222, pu_sAe, pu_sAn, pu_sJ1, pu_sJ21, pu_sJ221, pu_sF1, pu_sF21, pu_sF222, pu_sFe, pu_sFn, pu_upe, pu_upn, Nat.reduceAdd, Nat.reduceSub, Nat.reduceMul, Nat.reduceMod, Nat.reduceAnd, Nat.reducePow, Nat.reduceEqDiff, Nat.add_zero, Nat.zero_add, Bool.false_eq_true, Nat.add_sub_cancel, g, hb, mvA]
  · show F_X6_climbTried_55 kk (nI k) (nI (mvA V k c a k)) (nI k) W' B = _
    unfold F_X6_climbTried_55
    simp (disch := omega) only [↓pu_m1, pu_lit, ↓reduceIte, pu_leT, pu_leF, pu_ltT, pu_ltF, pu_eqT, pu_eqF, pu_eqO, pu_eqO2, pu_ltO, pu_leO, pu_subO, pu_subOF, pu_subT, pu_subF, pu_oobF, pu_clamp, pu_add, pu_sub, pu_mul, pu_and, pu_or, pu_xor, pu_xorO, pu_shl, pu_shr, pu_ushr, pu_nb0, pu_nb1, pu_ob1N, pu_ob2N, pu_ob3N, pu_ob4N, pu_nwN, pu_n1, pu_n7, pu_n31, pu_n255, pu_md, pu_one, pu_sI1, pu_sI2, pu_sA1, pu_sA21, pu_sA222, pu_sAe, pu_sAn, pu_sJ1, pu_sJ21, pu_sJ221, pu_sF1, pu_sF21, pu_sF222, pu_sFe, pu_sFn, pu_upe, pu_upn, Nat.reduceAdd, Nat.reduceSub, Nat.reduceMul, Nat.reduceMod, Nat.reduceAnd, Nat.reducePow, Nat.reduceEqDiff, Nat.add_zero, Nat.zero_add, Bool.false_eq_true, Nat.add_sub_cancel]
theorem x12_keeps (h0 : 0 < V 0) (w0 : V 0 ≤ 7) {k c : Nat} (hk : k ≤ 3) (hc : c < 1000) : ∃ M', F_X12_keepsRow M (nI c) (nI k) (nI (V 0)) = some M' ∧ M'.1 27 = nI k ∧ (∀ j, j < k → M'.2.2.1 26 j = nI (dg (V 0) k c j)) ∧ FR [27] [26] [] M M' := by
  have key := lp_inv (body := fun kz z => F_X12_keepsRow_13 kz z.1 z.2.1 z.2.2.1 z.2.2.2) (fun i z => ∃ M', z = (nI (V 0), nI (c / V 0 ^ i), nI (k - i) - nI 1, M') ∧ (∀ j, k - i ≤ j → j < k → M'.2.2.1 26 j = nI (dg (V 0) k c j)) ∧ FR [27] [26] [] M M' ∧ M'.1 27 = nI k) k (fun M' => M'.1 27 = nI k ∧ (∀ j, j < k → M'.2.2.1 26 j = nI (dg (V 0) k c j)) ∧ FR [27] [26] [] M M') (fun i hi z hz => ?_) (fun z hz => ?_) (x0 := (nI (V 0), nI (c / V 0 ^ 0), nI (k - 0) - nI 1, sI M 27 (nI k))) ⟨_, rfl, fun j h1 h2 => by omega, FR.sI (by decide), rfl⟩ (pu_FU (by omega : k < 1000000))
  · obtain ⟨M', h1, h2⟩ := key
    refine ⟨M', ?_, h1⟩
    unfold F_X12_keepsRow L_X12_keepsRow_13
    rw [Nat.pow_zero, Nat.div_one, Nat.sub_zero] at h2
    rw [pu_nwN]
    exact h2
  · obtain ⟨M', rfl, a1, a2, a3⟩ := hz
    have e1 : k - (i + 1) = k - i - 1 := by omega
    have hq : c / V 0 ^ i < 1000 := Nat.lt_of_le_of_lt (Nat.div_le_self _ _) hc
    have hr := pk_rem (a := c / V 0 ^ i) (d := V 0) (by omega) h0 (by omega)
    have hd := pk_div (a := c / V 0 ^ i) (d := V 0) (by omega) h0 (by omega)
    have hdd : c / V 0 ^ i / V 0 = c / V 0 ^ (i + 1) := by rw [Nat.div_div_eq_div_mul, Nat.pow_succ]
    rw [hdd] at hd
    have hs : nI (k - i) - nI 1 = nI (k - i - 1) := pu_sub (by omega)
    refine ⟨(nI (V 0), nI (c / V 0 ^ (i + 1)), nI (k - i - 1) - nI 1, sA M' 26 (nI (k - i - 1)) (nI (c / V 0 ^ i % V 0))), ⟨sA M' 26 (nI (k - i - 1)) (nI (c / V 0 ^ i % V 0)), by rw [e1], fun j h1 h2 => ?_, a2.tr (FR.sA (by decide)), a3⟩, fun kk => ?_⟩
    · rw [pu_sAe (by omega)]
      by_cases e : j = k - i - 1
      · rw [if_pos e, e]
        unfold dg
        rw [show k - 1 - (k - i - 1) = i from by omega]
      · rw [if_neg e]; exact a1 j (by omega) h2
    · show F_X12_keepsRow_13 kk (nI (V 0)) (nI (c / V 0 ^ i)) (nI (k - i) - nI 1) M' = _
      unfold F_X12_keepsRow_13
      rw [hs, if_neg (nI_pos (by omega)), if_neg (nI_ne0 h0 (by omega)), if_neg (by rw [pu_oobF (by omega) (by omega)]; exact id), pu_nwN, if_neg (nI_ne0 h0 (by omega)), hr, hd, dn_tab (k - i - 1) (by omega)]
  · obtain ⟨M', rfl, a1, a2, a3⟩ := hz
    refine ⟨M', ⟨a3, fun j hj => a1 j (by omega) hj, a2⟩, fun kk => ?_⟩
    show F_X12_keepsRow_13 kk (nI (V 0)) (nI (c / V 0 ^ k)) (nI (k - k) - nI 1) M' = _
    unfold F_X12_keepsRow_13
    rw [Nat.sub_self, if_pos (by decide)]
/-- the end of one row of climbs in the reference -/
def mdE (K49 : Int32 × Int32 × Int32 × Int32 × Int32 × St → Option (Int32 × St)) (V : Vt) (m k c e b : Nat) (M : St) : Option (Int32 × St) := if e = b then (if m = 0 then ob1 (F_X12_keepsRow M (nI c) (nI k) (nI (V 0))) fun U => K49 (nI (m + 1), nI (V 0), nI (V 0 ^ k), nI k, nI (c + 1), U) else K49 (nI (m + 1), nI (V 0), nI (V 0 ^ k), nI k, nI (c + 1), M)) else K49 (nI m, nI (V 0), nI (V 0 ^ k), nI k, nI (c + 1), M)
theorem x12_mvs (hM : RM M V) (hw : WF V) (h0 : 0 < V 0) {a b m k c : Nat} (ha : a < 256) (hb : b < 256) (hk : k ≤ 3) (hc : c < V 0 ^ k) (hm : m < 100000) (o1 : F_X12_octet M 1 = some (nI b)) (K36 : Int32 × Int32 × Int32 × Int32 × St → Option (Int32 × St)) (K49 : Int32 × Int32 × Int32 × Int32 × Int32 × St → Option (Int32 × St)) : L_X12_made_68 K36 K49 (nI m) (nI (V 0)) (nI (V 0 ^ k)) (nI k) (nI c) (nI a) (nI (V 0 ^ k)) 0 M = mdE K49 V m k c (mvA V k c a k) b M := by
  have w0 := hw.1
  have hp := pow_3 w0 hk
  unfold L_X12_made_68
  have key := lp_upO (body := fun kz z => F_X12_made_68 K36 K49 kz z.1 z.2.1 z.2.2.1 z.2.2.2.1 z.2.2.2.2.1 z.2.2.2.2.2.1 z.2.2.2.2.2.2.1 z.2.2.2.2.2.2.2.1 z.2.2.2.2.2.2.2.2) (fun i => (nI m, nI (V 0), nI (V 0 ^ k), nI k, nI c, nI (mvA V k c a i), nI (V 0 ^ (k - i)), nI i, M)) k (o := mdE K49 V m k c (mvA V k c a k) b M) (fun i hi kk => ?_) (fun kk => ?_) (pu_FU (by omega : k < 1000000))
  · exact key
  · have hpi := pow_3 w0 (by omega : k - i ≤ 3)
    have hpj := pow_3 w0 (by omega : k - 1 - i ≤ 3)
    have hpp : 0 < V 0 ^ (k - 1 - i) := Nat.pow_pos h0
    have hd := pk_div (a := V 0 ^ (k - i)) (d := V 0) (by omega) h0 (by omega)
    rw [pow_dn h0 hi] at hd
    have hd2 := pk_div (a := c) (d := V 0 ^ (k - 1 - i)) (by omega) hpp (by omega)
    have hcl : c / V 0 ^ (k - 1 - i) < 1000 := Nat.lt_of_le_of_lt (Nat.div_le_self _ _) (by omega)
    have hr := pk_rem (a := c / V 0 ^ (k - 1 - i)) (d := V 0) (by omega) h0 (by omega)
    have hg : c / V 0 ^ (k - 1 - i) % V 0 = dg (V 0) k c i := rfl
    rw [hg] at hr
    have hb := x12_behind hM hw (dg_lt h0 k c i) (mvA_lt V k c ha i)
    have e1 : k - (i + 1) = k - 1 - i := by omega
    show F_X12_made_68 K36 K49 kk (nI m) (nI (V 0)) (nI (V 0 ^ k)) (nI k) (nI c) (nI (mvA V k c a i)) (nI (V 0 ^ (k - i))) (nI i) M = kk (nI m, nI (V 0), nI (V 0 ^ k), nI k, nI c, nI (mvA V k c a (i + 1)), nI (V 0 ^ (k - (i + 1))), nI (i + 1), M)
    unfold F_X12_made_68
    rw [if_neg (nI_ge hi (by omega)), if_neg (nI_ne0 h0 (by omega)), hd, if_neg (nI_ne0 hpp (by omega)), if_neg (nI_ne0 h0 (by omega)), hd2, hr, hb, pu_ob1N, e1, nI_1]
    rfl
  · have hl := mvA_lt V k c ha k
    show F_X12_made_68 K36 K49 kk (nI m) (nI (V 0)) (nI (V 0 ^ k)) (nI k) (nI c) (nI (mvA V k c a k)) (nI (V 0 ^ (k - k))) (nI k) M = _
    unfold F_X12_made_68 F_X12_made_128 F_X12_made_131 mdE
    rw [if_pos (nI_le (Nat.le_refl _) (by omega)), o1, pu_ob1N]
    by_cases h1 : mvA V k c a k = b
    · rw [if_pos (by rw [h1]), if_pos h1]
      by_cases h2 : m = 0
      · rw [if_pos (by rw [h2]; rfl), if_pos h2]
        simp only [nI_1]
      · rw [if_neg (nI_ne0 (by omega) (by omega)), if_neg h2]
        simp only [nI_1]
    · rw [if_neg (fun e => h1 ((nI_eq (by omega) (by omega)).mp e)), if_neg h1]
      simp only [nI_1]
theorem made_in (hS : RS B V) (hM : RM M V) (hw : WF V) {a b m k : Nat} (ha : a < 256) (hb : b < 256) (hk : k ≤ 3) (h1k : 1 ≤ k) (hm : m < 10000) (o0 : F_X12_octet M 0 = some (nI a)) (o1 : F_X12_octet M 1 = some (nI b)) (hR : RMd W M) : ∃ m' W' M', m' ≤ m + V 0 ^ k ∧ RMd W' M' ∧ WS W W' ∧ FR [27] [26] [] M M' ∧ (∀ K, L_X6_countMade_27 K (nI a) (nI b) (nI m) (nI (V 0 ^ k)) (nI k) 0 W B = K (nI a, nI b, nI m', nI (V 0 ^ k), nI (k + 1), W', B)) ∧ ∀ K, L_X12_made_49 K (nI m) (nI (V 0)) (nI (V 0 ^ k)) (nI k) 0 M = K (nI m', nI (V 0), nI (V 0 ^ k), nI (k + 1), M') := by
  have w0 := hw.1
  have hp := pow_3 w0 hk
  have key := lp_two2 (b1 := fun K kz z => F_X6_countMade_27 K kz z.1 z.2.1 z.2.2.1 z.2.2.2.1 z.2.2.2.2.1 z.2.2.2.2.2.1 z.2.2.2.2.2.2.1 z.2.2.2.2.2.2.2) (b2 := fun K kz z => F_X12_made_49 K kz z.1 z.2.1 z.2.2.1 z.2.2.2.1 z.2.2.2.2.1 z.2.2.2.2.2) (fun i x y => ∃ m' W' M', x = (nI a, nI b, nI m', nI (V 0 ^ k), nI k, nI i, W', B) ∧ y = (nI m', nI (V 0), nI (V 0 ^ k), nI k, nI i, M') ∧ m' ≤ m + i ∧ RMd W' M' ∧ WS W W' ∧ FR [27] [26] [] M M') (V 0 ^ k) (fun o o' => ∃ m' W' M', o = (nI a, nI b, nI m', nI (V 0 ^ k), nI (k + 1), W', B) ∧ o' = (nI m', nI (V 0), nI (V 0 ^ k), nI (k + 1), M') ∧ m' ≤ m + V 0 ^ k ∧ RMd W' M' ∧ WS W W' ∧ FR [27] [26] [] M M') (fun i hi x y hxy => ?_) (fun x y hxy => ?_) (x0 := (nI a, nI b, nI m, nI (V 0 ^ k), nI k, nI 0, W, B)) (y0 := (nI m, nI (V 0), nI (V 0 ^ k), nI k, nI 0, M)) ⟨m, W, M, rfl, rfl, by omega, hR, ⟨rfl, rfl⟩, FR.rf⟩ (pu_FU (by omega : V 0 ^ k < 1000000))
  · obtain ⟨o, o', ⟨m', W', M', rfl, rfl, h1, h2, h3, h4⟩, h5, h6⟩ := key
    exact ⟨m', W', M', h1, h2, h3, h4, h5, h6⟩
  · obtain ⟨m', W', M', rfl, rfl, a1, a2, a3, a4⟩ := hxy
    have h0 : 0 < V 0 := Nat.pos_of_ne_zero (fun e => by rw [e, Nat.zero_pow (by omega)] at hi; omega)
    have hM' : RM M' V := fun j hj => by rw [a4.2.1 6 (by decide)]; exact hM j hj
    have p0 : F_X12_octet M' 0 = some (nI a) := by unfold F_X12_octet at o0 ⊢; rw [a4.2.1 1 (by decide)]; exact o0
    have p1 : F_X12_octet M' 1 = some (nI b) := by unfold F_X12_octet at o1 ⊢; rw [a4.2.1 1 (by decide)]; exact o1
    obtain ⟨W2, b1, b2, b3, b4⟩ := x6_tried (W := W') hS hw h0 ha hk (by omega : i < 1000)
    have hl := mvA_lt V k i ha k
    have c1 := fun K36 K49 => x12_mvs hM' hw h0 (m := m') ha hb hk hi (by omega) p1 K36 K49
    have hcl : ∀ K kk, F_X6_countMade_27 K kk (nI a) (nI b) (nI m') (nI (V 0 ^ k)) (nI k) (nI i) W' B = if mvA V k i a k = b then (if m' = 0 then kk (nI a, nI b, nI (m' + 1), nI (V 0 ^ k), nI k, nI (i + 1), sI (sF W2 6 (W2.2.2.1 5)) 7 (nI k), B) else kk (nI a, nI b, nI (m' + 1), nI (V 0 ^ k), nI k, nI (i + 1), W2, B)) else kk (nI a, nI b, nI m', nI (V 0 ^ k), nI k, nI (i + 1), W2, B) := by
      intro K kk
      unfold F_X6_countMade_27 F_X6_countMade_73 F_X6_countMade_76
      by_cases h1 : mvA V k i a k = b
      · rw [if_pos h1]
        rw [h1] at b4
        by_cases h2 : m' = 0
        · rw [if_pos h2]
          simp (disch := omega) only [↓pu_m1, pu_lit, ↓reduceIte, pu_leT, pu_leF, pu_ltT, pu_ltF, pu_eqT, pu_eqF, pu_eqO, pu_eqO2, pu_ltO, pu_leO, pu_subO, pu_subOF, pu_subT, pu_subF, pu_oobF, pu_clamp, pu_add, pu_sub, pu_mul, pu_and, pu_or, pu_xor, pu_xorO, pu_shl, pu_shr, pu_ushr, pu_nb0, pu_nb1, pu_ob1N, pu_ob2N, pu_ob3N, pu_ob4N, pu_nwN, pu_n1, pu_n7, pu_n31, pu_n255, pu_md, pu_one, pu_sI1, pu_sI2, pu_sA1, pu_sA21, pu_sA222, pu_sAe, pu_sAn, pu_sJ1, pu_sJ21, pu_sJ221, pu_sF1, pu_sF21, pu_sF222, pu_sFe, pu_sFn, pu_upe, pu_upn, Nat.reduceAdd, Nat.reduceSub, Nat.reduceMul, Nat.reduceMod, Nat.reduceAnd, Nat.reducePow, Nat.reduceEqDiff, Nat.add_zero, Nat.zero_add, Bool.false_eq_true, Nat.add_sub_cancel, b4, h2]
        · rw [if_neg h2]
          simp (disch := omega) only [↓pu_m1, pu_lit, ↓reduceIte, pu_leT, pu_leF, pu_ltT, pu_ltF, pu_eqT, pu_eqF, pu_eqO, pu_eqO2, pu_ltO, pu_leO, pu_subO, pu_subOF, pu_subT, pu_subF, pu_oobF, pu_clamp, pu_add, pu_sub, pu_mul, pu_and, pu_or, pu_xor, pu_xorO, pu_shl, pu_shr, pu_ushr, pu_nb0, pu_nb1, pu_ob1N, pu_ob2N, pu_ob3N, pu_ob4N, pu_nwN, pu_n1, pu_n7, pu_n31, pu_n255, pu_md, pu_one, pu_sI1, pu_sI2, pu_sA1, pu_sA21, pu_sA222, pu_sAe, pu_sAn, pu_sJ1, pu_sJ21, pu_sJ221, pu_sF1, pu_sF21, pu_sF222, pu_sFe, pu_sFn, pu_upe, pu_upn, Nat.reduceAdd, Nat.reduceSub, Nat.reduceMul, Nat.reduceMod, Nat.reduceAnd, Nat.reducePow, Nat.reduceEqDiff, Nat.add_zero, Nat.zero_add, Bool.false_eq_true, Nat.add_sub_cancel, b4, h2]
      · rw [if_neg h1]
        simp (disch := omega) only [↓pu_m1, pu_lit, ↓reduceIte, pu_leT, pu_leF, pu_ltT, pu_ltF, pu_eqT, pu_eqF, pu_eqO, pu_eqO2, pu_ltO, pu_leO, pu_subO, pu_subOF, pu_subT, pu_subF, pu_oobF, pu_clamp, pu_add, pu_sub, pu_mul, pu_and, pu_or, pu_xor, pu_xorO, pu_shl, pu_shr, pu_ushr, pu_nb0, pu_nb1, pu_ob1N, pu_ob2N, pu_ob3N, pu_ob4N, pu_nwN, pu_n1, pu_n7, pu_n31, pu_n255, pu_md, pu_one, pu_sI1, pu_sI2, pu_sA1, pu_sA21, pu_sA222, pu_sAe, pu_sAn, pu_sJ1, pu_sJ21, pu_sJ221, pu_sF1, pu_sF21, pu_sF222, pu_sFe, pu_sFn, pu_upe, pu_upn, Nat.reduceAdd, Nat.reduceSub, Nat.reduceMul, Nat.reduceMod, Nat.reduceAnd, Nat.reducePow, Nat.reduceEqDiff, Nat.add_zero, Nat.zero_add, Bool.false_eq_true, Nat.add_sub_cancel, b4, h1]
    have hml : ∀ K kk, F_X12_made_49 K kk (nI m') (nI (V 0)) (nI (V 0 ^ k)) (nI k) (nI i) M' = mdE kk V m' k i (mvA V k i a k) b M' := by
      intro K kk
      unfold F_X12_made_49
      rw [if_neg (nI_ge hi (by omega)), p0, pu_ob1N]
      exact c1 K kk
    have hws : WS W' W2 := ⟨by rw [b3], b2 3 (by omega)⟩
    by_cases h1 : mvA V k i a k = b
    · by_cases h2 : m' = 0
      · obtain ⟨M2, d1, d2, d3, d4⟩ := x12_keeps (M := M') h0 w0 hk (by omega : i < 1000)
        refine ⟨(nI a, nI b, nI (m' + 1), nI (V 0 ^ k), nI k, nI (i + 1), sI (sF W2 6 (W2.2.2.1 5)) 7 (nI k), B), (nI (m' + 1), nI (V 0), nI (V 0 ^ k), nI k, nI (i + 1), M2), ⟨m' + 1, _, M2, rfl, rfl, by omega, ⟨k, hk, rfl, Or.inl d2, fun j hj => ?_⟩, ⟨?_, ?_⟩, a4.tr d4⟩, fun K kk => ?_, fun K kk => ?_⟩
        · show (sF W2 6 (W2.2.2.1 5)).2.2.1 6 j = _
          rw [pu_sFe, b1 j hj, d3 j hj]
        · show W2.1 4 = _
          rw [b3]; exact a3.1
        · show (sF W2 6 (W2.2.2.1 5)).2.2.1 3 = _
          rw [pu_sFn (by omega), b2 3 (by omega)]; exact a3.2
        · exact (hcl K kk).trans (by rw [if_pos h1, if_pos h2])
        · refine (hml K kk).trans ?_
          unfold mdE
          rw [if_pos h1, if_pos h2, d1, pu_ob1N]
      · refine ⟨(nI a, nI b, nI (m' + 1), nI (V 0 ^ k), nI k, nI (i + 1), W2, B), (nI (m' + 1), nI (V 0), nI (V 0 ^ k), nI k, nI (i + 1), M'), ⟨m' + 1, W2, M', rfl, rfl, by omega, ?_, ⟨hws.1.trans a3.1, hws.2.trans a3.2⟩, a4⟩, fun K kk => ?_, fun K kk => ?_⟩
        · obtain ⟨n, n1, n2, n3, n4⟩ := a2
          exact ⟨n, n1, by rw [b3]; exact n2, n3, fun j hj => by rw [b2 6 (by omega)]; exact n4 j hj⟩
        · exact (hcl K kk).trans (by rw [if_pos h1, if_neg h2])
        · refine (hml K kk).trans ?_
          unfold mdE
          rw [if_pos h1, if_neg h2]
    · refine ⟨(nI a, nI b, nI m', nI (V 0 ^ k), nI k, nI (i + 1), W2, B), (nI m', nI (V 0), nI (V 0 ^ k), nI k, nI (i + 1), M'), ⟨m', W2, M', rfl, rfl, by omega, ?_, ⟨hws.1.trans a3.1, hws.2.trans a3.2⟩, a4⟩, fun K kk => ?_, fun K kk => ?_⟩
      · obtain ⟨n, n1, n2, n3, n4⟩ := a2
        exact ⟨n, n1, by rw [b3]; exact n2, n3, fun j hj => by rw [b2 6 (by omega)]; exact n4 j hj⟩
      · exact (hcl K kk).trans (by rw [if_neg h1])
      · refine (hml K kk).trans ?_
        unfold mdE
        rw [if_neg h1]
  · obtain ⟨m', W', M', rfl, rfl, a1, a2, a3, a4⟩ := hxy
    refine ⟨_, _, ⟨m', W', M', rfl, rfl, a1, a2, a3, a4⟩, fun K kk => ?_, fun K kk => ?_⟩
    · show F_X6_countMade_27 K kk (nI a) (nI b) (nI m') (nI (V 0 ^ k)) (nI k) (nI (V 0 ^ k)) W' B = _
      unfold F_X6_countMade_27
      rw [if_pos (nI_le (Nat.le_refl _) (by omega)), nI_1]
    · show F_X12_made_49 K kk (nI m') (nI (V 0)) (nI (V 0 ^ k)) (nI k) (nI (V 0 ^ k)) M' = _
      unfold F_X12_made_49
      rw [if_pos (nI_le (Nat.le_refl _) (by omega)), nI_1]
theorem made_all (hS : RS B V) (hM : RM M V) (hw : WF V) {a b : Nat} (ha : a < 256) (hb : b < 256) (o0 : F_X12_octet M 0 = some (nI a)) (o1 : F_X12_octet M 1 = some (nI b)) (hR : RMd W M) : ∃ r W' M', F_X6_countMade W B (nI a) (nI b) = some (r, W') ∧ L_X12_made_36 0 (nI (V 0)) 1 1 M = some (r, M') ∧ RMd W' M' ∧ WS W W' ∧ FR [27] [26] [] M M' := by
  have w0 := hw.1
  have e0 := hS.1
  have key := lp_two (b1 := fun kz z => F_X6_countMade_9 kz z.1 z.2.1 z.2.2.1 z.2.2.2.1 z.2.2.2.2.1 z.2.2.2.2.2.1 z.2.2.2.2.2.2) (b2 := fun kz z => F_X12_made_36 kz z.1 z.2.1 z.2.2.1 z.2.2.2.1 z.2.2.2.2) (fun i x y => ∃ m' W' M', x = (nI a, nI b, nI m', nI (V 0 ^ i), nI (i + 1), W', B) ∧ y = (nI m', nI (V 0), nI (V 0 ^ i), nI (i + 1), M') ∧ m' ≤ 343 * i ∧ RMd W' M' ∧ WS W W' ∧ FR [27] [26] [] M M') 3 (fun o o' => o.1 = o'.1 ∧ RMd o.2 o'.2 ∧ WS W o.2 ∧ FR [27] [26] [] M o'.2) (fun i hi x y hxy => ?_) (fun x y hxy => ?_) (x0 := (nI a, nI b, nI 0, nI (V 0 ^ 0), nI 1, W, B)) (y0 := (nI 0, nI (V 0), nI (V 0 ^ 0), nI 1, M)) ⟨0, W, M, rfl, rfl, by omega, hR, ⟨rfl, rfl⟩, FR.rf⟩ (pu_FU (by omega : 3 < 1000000))
  · obtain ⟨o, o', ⟨h1, h2, h3, h4⟩, h5, h6⟩ := key
    refine ⟨o.1, o.2, o'.2, ?_, ?_, h2, h3, h4⟩
    · exact h5
    · rw [h1]; exact h6
  · obtain ⟨m', W', M', rfl, rfl, a1, a2, a3, a4⟩ := hxy
    have hM' : RM M' V := fun j hj => by rw [a4.2.1 6 (by decide)]; exact hM j hj
    have p0 : F_X12_octet M' 0 = some (nI a) := by unfold F_X12_octet at o0 ⊢; rw [a4.2.1 1 (by decide)]; exact o0
    have p1 : F_X12_octet M' 1 = some (nI b) := by unfold F_X12_octet at o1 ⊢; rw [a4.2.1 1 (by decide)]; exact o1
    have hp := pow_3 w0 (by omega : i + 1 ≤ 3)
    obtain ⟨m2, W2, M2, b1, b2, b3, b4, b5, b6⟩ := made_in (W := W') (m := m') (k := i + 1) hS hM' hw ha hb (by omega) (by omega) (by omega) p0 p1 a2
    refine ⟨(nI a, nI b, nI m2, nI (V 0 ^ (i + 1)), nI (i + 1 + 1), W2, B), (nI m2, nI (V 0), nI (V 0 ^ (i + 1)), nI (i + 1 + 1), M2), ⟨m2, W2, M2, rfl, rfl, by omega, b2, ⟨b3.1.trans a3.1, b3.2.trans a3.2⟩, a4.tr b4⟩, fun kk => ?_, fun kk => ?_⟩
    · show F_X6_countMade_9 kk (nI a) (nI b) (nI m') (nI (V 0 ^ i)) (nI (i + 1)) W' B = _
      unfold F_X6_countMade_9
      rw [if_neg (show ¬ (3 : Int32) < nI (i + 1) from nI_nlt (a := 3) (b := i + 1) (by omega) (by omega)), e0, pu_mul, ← Nat.pow_succ]
      exact b5 kk
    · show F_X12_made_36 kk (nI m') (nI (V 0)) (nI (V 0 ^ i)) (nI (i + 1)) M' = _
      unfold F_X12_made_36
      rw [if_neg (show ¬ (4 : Int32) ≤ nI (i + 1) from nI_ge (a := i + 1) (b := 4) (by omega) (by omega)), pu_mul, ← Nat.pow_succ]
      exact b6 kk
  · obtain ⟨m', W', M', rfl, rfl, a1, a2, a3, a4⟩ := hxy
    refine ⟨(nI m', W'), (nI m', M'), ⟨rfl, a2, a3, a4⟩, fun kk => ?_, fun kk => ?_⟩
    · show F_X6_countMade_9 kk (nI a) (nI b) (nI m') (nI (V 0 ^ 3)) (nI 4) W' B = _
      unfold F_X6_countMade_9
      rw [if_pos (by decide)]
    · show F_X12_made_36 kk (nI m') (nI (V 0)) (nI (V 0 ^ 3)) (nI 4) M' = _
      unfold F_X12_made_36
      rw [if_pos (by decide)]
theorem p_made (hS : RS B V) (hM : RM M V) (hw : WF V) (hT : RT P M) (hR : RMd W M) : ∃ r W' P' M', F_X11_made T W B P = some (r, W', P') ∧ F_X12_made M = some (r, M') ∧ RT P' M' ∧ RMd W' M' ∧ WS W W' ∧ FR [0, 2, 3, 4, 5, 27] [26] [] M M' := by
  obtain ⟨n, h0, h1, h2, h3⟩ := hT
  have g0 := hM 0 (by omega)
  have hF : FR [0, 2, 3, 4, 5, 27] [26] [] M (sI (sI (sI (sI (sI M 0 (nI 0)) 3 (nI n)) 2 (nI 0)) 4 (nI 0)) 5 (nI 940)) := ((((FR.sI (by decide)).tr (FR.sI (by decide))).tr (FR.sI (by decide))).tr (FR.sI (by decide))).tr (FR.sI (by decide))
  have hR1 : RMd W (sI (sI (sI (sI (sI M 0 (nI 0)) 3 (nI n)) 2 (nI 0)) 4 (nI 0)) 5 (nI 940)) := hR
  have hM1 : RM (sI (sI (sI (sI (sI M 0 (nI 0)) 3 (nI n)) 2 (nI 0)) 4 (nI 0)) 5 (nI 940)) V := hM
  unfold F_X11_made F_X11_made_16 F_X12_made F_X12_taken
  by_cases hn : n = 2
  · subst hn
    obtain ⟨t0, a, ha, u0⟩ := h3 0 (by omega)
    obtain ⟨t1, b, hb, u1⟩ := h3 1 (by omega)
    obtain ⟨r, W', M', c1, c2, c3, c4, c5⟩ := made_all (W := W) (a := a) (b := b) hS hM1 hw ha hb (by unfold F_X12_octet; simp (disch := omega) only [↓pu_m1, pu_lit, ↓reduceIte, pu_leT, pu_leF, pu_ltT, pu_ltF, pu_eqT, pu_eqF, pu_eqO, pu_eqO2, pu_ltO, pu_leO, pu_subO, pu_subOF, pu_subT, pu_subF, pu_oobF, pu_clamp, pu_add, pu_sub, pu_mul, pu_and, pu_or, pu_xor, pu_xorO, pu_shl, pu_shr, pu_ushr, pu_nb0, pu_nb1, pu_ob1N, pu_ob2N, pu_ob3N, pu_ob4N, pu_nwN, pu_n1, pu_n7, pu_n31, pu_n255, pu_md, pu_one, pu_sI1, pu_sI2, pu_sA1, pu_sA21, pu_sA222, pu_sAe, pu_sAn, pu_sJ1, pu_sJ21, pu_sJ221, pu_sF1, pu_sF21, pu_sF222, pu_sFe, pu_sFn, pu_upe, pu_upn, Nat.reduceAdd, Nat.reduceSub, Nat.reduceMul, Nat.reduceMod, Nat.reduceAnd, Nat.reducePow, Nat.reduceEqDiff, Nat.add_zero, Nat.zero_add, Bool.false_eq_true, Nat.add_sub_cancel, t0, u0]) (by unfold F_X12_octet; simp (disch := omega) only [↓pu_m1, pu_lit, ↓reduceIte, pu_leT, pu_leF, pu_ltT, pu_ltF, pu_eqT, pu_eqF, pu_eqO, pu_eqO2, pu_ltO, pu_leO, pu_subO, pu_subOF, pu_subT, pu_subF, pu_oobF, pu_clamp, pu_add, pu_sub, pu_mul, pu_and, pu_or, pu_xor, pu_xorO, pu_shl, pu_shr, pu_ushr, pu_nb0, pu_nb1, pu_ob1N, pu_ob2N, pu_ob3N, pu_ob4N, pu_nwN, pu_n1, pu_n7, pu_n31, pu_n255, pu_md, pu_one, pu_sI1, pu_sI2, pu_sA1, pu_sA21, pu_sA222, pu_sAe, pu_sAn, pu_sJ1, pu_sJ21, pu_sJ221, pu_sF1, pu_sF21, pu_sF222, pu_sFe, pu_sFn, pu_upe, pu_upn, Nat.reduceAdd, Nat.reduceSub, Nat.reduceMul, Nat.reduceMod, Nat.reduceAnd, Nat.reducePow, Nat.reduceEqDiff, Nat.add_zero, Nat.zero_add, Bool.false_eq_true, Nat.add_sub_cancel, t1, u1]) hR1
    refine ⟨r, W', sI P 1 (nI 0), M', ?_, ?_, ⟨0, by omega, rfl, ?_, fun i hi => by omega⟩, c3, c4, hF.tr (c5.mono (by decide) (by decide) (by decide))⟩
    · simp (disch := omega) only [↓pu_m1, pu_lit, ↓reduceIte, pu_leT, pu_leF, pu_ltT, pu_ltF, pu_eqT, pu_eqF, pu_eqO, pu_eqO2, pu_ltO, pu_leO, pu_subO, pu_subOF, pu_subT, pu_subF, pu_oobF, pu_clamp, pu_add, pu_sub, pu_mul, pu_and, pu_or, pu_xor, pu_xorO, pu_shl, pu_shr, pu_ushr, pu_nb0, pu_nb1, pu_ob1N, pu_ob2N, pu_ob3N, pu_ob4N, pu_nwN, pu_n1, pu_n7, pu_n31, pu_n255, pu_md, pu_one, pu_sI1, pu_sI2, pu_sA1, pu_sA21, pu_sA222, pu_sAe, pu_sAn, pu_sJ1, pu_sJ21, pu_sJ221, pu_sF1, pu_sF21, pu_sF222, pu_sFe, pu_sFn, pu_upe, pu_upn, Nat.reduceAdd, Nat.reduceSub, Nat.reduceMul, Nat.reduceMod, Nat.reduceAnd, Nat.reducePow, Nat.reduceEqDiff, Nat.add_zero, Nat.zero_add, Bool.false_eq_true, Nat.add_sub_cancel, h1, u0, u1, c1]
    · have c2' : L_X12_made_36 (nI 0) (nI (V 0)) (nI 1) (nI 1) (sI (sI (sI (sI (sI M 0 (nI 0)) 3 (nI 2)) 2 (nI 0)) 4 (nI 0)) 5 (nI 940)) = some (r, M') := c2
      simp (disch := omega) only [↓pu_m1, pu_lit, ↓reduceIte, pu_leT, pu_leF, pu_ltT, pu_ltF, pu_eqT, pu_eqF, pu_eqO, pu_eqO2, pu_ltO, pu_leO, pu_subO, pu_subOF, pu_subT, pu_subF, pu_oobF, pu_clamp, pu_add, pu_sub, pu_mul, pu_and, pu_or, pu_xor, pu_xorO, pu_shl, pu_shr, pu_ushr, pu_nb0, pu_nb1, pu_ob1N, pu_ob2N, pu_ob3N, pu_ob4N, pu_nwN, pu_n1, pu_n7, pu_n31, pu_n255, pu_md, pu_one, pu_sI1, pu_sI2, pu_sA1, pu_sA21, pu_sA222, pu_sAe, pu_sAn, pu_sJ1, pu_sJ21, pu_sJ221, pu_sF1, pu_sF21, pu_sF222, pu_sFe, pu_sFn, pu_upe, pu_upn, Nat.reduceAdd, Nat.reduceSub, Nat.reduceMul, Nat.reduceMod, Nat.reduceAnd, Nat.reducePow, Nat.reduceEqDiff, Nat.add_zero, Nat.zero_add, Bool.false_eq_true, Nat.add_sub_cancel, h2, g0, c2']
    · rw [c5.1 2 (by decide)]; rfl
  · refine ⟨nO, W, sI P 1 (nI 0), sI (sI (sI (sI (sI M 0 (nI 0)) 3 (nI n)) 2 (nI 0)) 4 (nI 0)) 5 (nI 940), ?_, ?_, ⟨0, by omega, rfl, rfl, fun i hi => by omega⟩, hR1, ⟨rfl, rfl⟩, hF⟩
    · simp (disch := omega) only [↓pu_m1, pu_lit, ↓reduceIte, pu_leT, pu_leF, pu_ltT, pu_ltF, pu_eqT, pu_eqF, pu_eqO, pu_eqO2, pu_ltO, pu_leO, pu_subO, pu_subOF, pu_subT, pu_subF, pu_oobF, pu_clamp, pu_add, pu_sub, pu_mul, pu_and, pu_or, pu_xor, pu_xorO, pu_shl, pu_shr, pu_ushr, pu_nb0, pu_nb1, pu_ob1N, pu_ob2N, pu_ob3N, pu_ob4N, pu_nwN, pu_n1, pu_n7, pu_n31, pu_n255, pu_md, pu_one, pu_sI1, pu_sI2, pu_sA1, pu_sA21, pu_sA222, pu_sAe, pu_sAn, pu_sJ1, pu_sJ21, pu_sJ221, pu_sF1, pu_sF21, pu_sF222, pu_sFe, pu_sFn, pu_upe, pu_upn, Nat.reduceAdd, Nat.reduceSub, Nat.reduceMul, Nat.reduceMod, Nat.reduceAnd, Nat.reducePow, Nat.reduceEqDiff, Nat.add_zero, Nat.zero_add, Bool.false_eq_true, Nat.add_sub_cancel, h1, hn]
    · simp (disch := omega) only [↓pu_m1, pu_lit, ↓reduceIte, pu_leT, pu_leF, pu_ltT, pu_ltF, pu_eqT, pu_eqF, pu_eqO, pu_eqO2, pu_ltO, pu_leO, pu_subO, pu_subOF, pu_subT, pu_subF, pu_oobF, pu_clamp, pu_add, pu_sub, pu_mul, pu_and, pu_or, pu_xor, pu_xorO, pu_shl, pu_shr, pu_ushr, pu_nb0, pu_nb1, pu_ob1N, pu_ob2N, pu_ob3N, pu_ob4N, pu_nwN, pu_n1, pu_n7, pu_n31, pu_n255, pu_md, pu_one, pu_sI1, pu_sI2, pu_sA1, pu_sA21, pu_sA222, pu_sAe, pu_sAn, pu_sJ1, pu_sJ21, pu_sJ221, pu_sF1, pu_sF21, pu_sF222, pu_sFe, pu_sFn, pu_upe, pu_upn, Nat.reduceAdd, Nat.reduceSub, Nat.reduceMul, Nat.reduceMod, Nat.reduceAnd, Nat.reducePow, Nat.reduceEqDiff, Nat.add_zero, Nat.zero_add, Bool.false_eq_true, Nat.add_sub_cancel, h2, hn]
theorem p_madeAt (h : RMd W M) (x : Int32) : ∃ r, F_X11_madeAt T W x = some r ∧ F_X12_madeAt M x = some (r, sI M 0 (nI 0)) := by
  obtain ⟨n, h0, h1, h2, h3⟩ := h
  unfold F_X11_madeAt F_X12_madeAt F_X11_madeAt_15
  rcases at_two x (M.1 27) n (by omega) h2 with ⟨j, hj, rfl, i1⟩ | ⟨i1, i2⟩ | ⟨i1, i2, i3⟩
  · have h3j := h3 j hj
    exact ⟨W.2.2.1 6 j, by simp (disch := omega) only [↓pu_m1, pu_lit, ↓reduceIte, pu_leT, pu_leF, pu_ltT, pu_ltF, pu_eqT, pu_eqF, pu_eqO, pu_eqO2, pu_ltO, pu_leO, pu_subO, pu_subOF, pu_subT, pu_subF, pu_oobF, pu_clamp, pu_add, pu_sub, pu_mul, pu_and, pu_or, pu_xor, pu_xorO, pu_shl, pu_shr, pu_ushr, pu_nb0, pu_nb1, pu_ob1N, pu_ob2N, pu_ob3N, pu_ob4N, pu_nwN, pu_n1, pu_n7, pu_n31, pu_n255, pu_md, pu_one, pu_sI1, pu_sI2, pu_sA1, pu_sA21, pu_sA222, pu_sAe, pu_sAn, pu_sJ1, pu_sJ21, pu_sJ221, pu_sF1, pu_sF21, pu_sF222, pu_sFe, pu_sFn, pu_upe, pu_upn, Nat.reduceAdd, Nat.reduceSub, Nat.reduceMul, Nat.reduceMod, Nat.reduceAnd, Nat.reducePow, Nat.reduceEqDiff, Nat.add_zero, Nat.zero_add, Bool.false_eq_true, Nat.add_sub_cancel, h1], by simp (disch := omega) only [↓pu_m1, pu_lit, ↓reduceIte, pu_leT, pu_leF, pu_ltT, pu_ltF, pu_eqT, pu_eqF, pu_eqO, pu_eqO2, pu_ltO, pu_leO, pu_subO, pu_subOF, pu_subT, pu_subF, pu_oobF, pu_clamp, pu_add, pu_sub, pu_mul, pu_and, pu_or, pu_xor, pu_xorO, pu_shl, pu_shr, pu_ushr, pu_nb0, pu_nb1, pu_ob1N, pu_ob2N, pu_ob3N, pu_ob4N, pu_nwN, pu_n1, pu_n7, pu_n31, pu_n255, pu_md, pu_one, pu_sI1, pu_sI2, pu_sA1, pu_sA21, pu_sA222, pu_sAe, pu_sAn, pu_sJ1, pu_sJ21, pu_sJ221, pu_sF1, pu_sF21, pu_sF222, pu_sFe, pu_sFn, pu_upe, pu_upn, Nat.reduceAdd, Nat.reduceSub, Nat.reduceMul, Nat.reduceMod, Nat.reduceAnd, Nat.reducePow, Nat.reduceEqDiff, Nat.add_zero, Nat.zero_add, Bool.false_eq_true, Nat.add_sub_cancel, i1, h3j]⟩
  · exact ⟨nO, by simp (disch := omega) only [↓pu_m1, pu_lit, ↓reduceIte, pu_leT, pu_leF, pu_ltT, pu_ltF, pu_eqT, pu_eqF, pu_eqO, pu_eqO2, pu_ltO, pu_leO, pu_subO, pu_subOF, pu_subT, pu_subF, pu_oobF, pu_clamp, pu_add, pu_sub, pu_mul, pu_and, pu_or, pu_xor, pu_xorO, pu_shl, pu_shr, pu_ushr, pu_nb0, pu_nb1, pu_ob1N, pu_ob2N, pu_ob3N, pu_ob4N, pu_nwN, pu_n1, pu_n7, pu_n31, pu_n255, pu_md, pu_one, pu_sI1, pu_sI2, pu_sA1, pu_sA21, pu_sA222, pu_sAe, pu_sAn, pu_sJ1, pu_sJ21, pu_sJ221, pu_sF1, pu_sF21, pu_sF222, pu_sFe, pu_sFn, pu_upe, pu_upn, Nat.reduceAdd, Nat.reduceSub, Nat.reduceMul, Nat.reduceMod, Nat.reduceAnd, Nat.reducePow, Nat.reduceEqDiff, Nat.add_zero, Nat.zero_add, Bool.false_eq_true, Nat.add_sub_cancel, i1], by simp (disch := omega) only [↓pu_m1, pu_lit, ↓reduceIte, pu_leT, pu_leF, pu_ltT, pu_ltF, pu_eqT, pu_eqF, pu_eqO, pu_eqO2, pu_ltO, pu_leO, pu_subO, pu_subOF, pu_subT, pu_subF, pu_oobF, pu_clamp, pu_add, pu_sub, pu_mul, pu_and, pu_or, pu_xor, pu_xorO, pu_shl, pu_shr, pu_ushr, pu_nb0, pu_nb1, pu_ob1N, pu_ob2N, pu_ob3N, pu_ob4N, pu_nwN, pu_n1, pu_n7, pu_n31, pu_n255, pu_md, pu_one, pu_sI1, pu_sI2, pu_sA1, pu_sA21, pu_sA222, pu_sAe, pu_sAn, pu_sJ1, pu_sJ21, pu_sJ221, pu_sF1, pu_sF21, pu_sF222, pu_sFe, pu_sFn, pu_upe, pu_upn, Nat.reduceAdd, Nat.reduceSub, Nat.reduceMul, Nat.reduceMod, Nat.reduceAnd, Nat.reducePow, Nat.reduceEqDiff, Nat.add_zero, Nat.zero_add, Bool.false_eq_true, Nat.add_sub_cancel, i2]⟩
  · exact ⟨nO, by simp (disch := omega) only [↓pu_m1, pu_lit, ↓reduceIte, pu_leT, pu_leF, pu_ltT, pu_ltF, pu_eqT, pu_eqF, pu_eqO, pu_eqO2, pu_ltO, pu_leO, pu_subO, pu_subOF, pu_subT, pu_subF, pu_oobF, pu_clamp, pu_add, pu_sub, pu_mul, pu_and, pu_or, pu_xor, pu_xorO, pu_shl, pu_shr, pu_ushr, pu_nb0, pu_nb1, pu_ob1N, pu_ob2N, pu_ob3N, pu_ob4N, pu_nwN, pu_n1, pu_n7, pu_n31, pu_n255, pu_md, pu_one, pu_sI1, pu_sI2, pu_sA1, pu_sA21, pu_sA222, pu_sAe, pu_sAn, pu_sJ1, pu_sJ21, pu_sJ221, pu_sF1, pu_sF21, pu_sF222, pu_sFe, pu_sFn, pu_upe, pu_upn, Nat.reduceAdd, Nat.reduceSub, Nat.reduceMul, Nat.reduceMod, Nat.reduceAnd, Nat.reducePow, Nat.reduceEqDiff, Nat.add_zero, Nat.zero_add, Bool.false_eq_true, Nat.add_sub_cancel, i1, h1, i2], by simp (disch := omega) only [↓pu_m1, pu_lit, ↓reduceIte, pu_leT, pu_leF, pu_ltT, pu_ltF, pu_eqT, pu_eqF, pu_eqO, pu_eqO2, pu_ltO, pu_leO, pu_subO, pu_subOF, pu_subT, pu_subF, pu_oobF, pu_clamp, pu_add, pu_sub, pu_mul, pu_and, pu_or, pu_xor, pu_xorO, pu_shl, pu_shr, pu_ushr, pu_nb0, pu_nb1, pu_ob1N, pu_ob2N, pu_ob3N, pu_ob4N, pu_nwN, pu_n1, pu_n7, pu_n31, pu_n255, pu_md, pu_one, pu_sI1, pu_sI2, pu_sA1, pu_sA21, pu_sA222, pu_sAe, pu_sAn, pu_sJ1, pu_sJ21, pu_sJ221, pu_sF1, pu_sF21, pu_sF222, pu_sFe, pu_sFn, pu_upe, pu_upn, Nat.reduceAdd, Nat.reduceSub, Nat.reduceMul, Nat.reduceMod, Nat.reduceAnd, Nat.reducePow, Nat.reduceEqDiff, Nat.add_zero, Nat.zero_add, Bool.false_eq_true, Nat.add_sub_cancel, i3]⟩
end P14
