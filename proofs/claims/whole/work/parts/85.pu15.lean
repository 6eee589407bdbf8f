/-! soonest: the reference's distances -/
def cb (V : Vt) (p t : Nat) : Prop := t < V 0 ∧ canV V p / 2 ^ t % 2 = 1
/-- how many of the first numbers have it -/
def cn (P : Nat → Bool) : Nat → Nat
  | 0 => 0
  | n + 1 => cn P n + (if P n = true then 1 else 0)
theorem cn_le (P : Nat → Bool) : ∀ n, cn P n ≤ n := by
  intro n
  induction n with
  | zero => exact Nat.le_refl _
  | succ n ih => simp only [cn]; split <;> omega
theorem cn_mono {P Q : Nat → Bool} : ∀ n, (∀ x, x < n → P x = true → Q x = true) → cn P n ≤ cn Q n := by
  intro n
  induction n with
  | zero => intro _; exact Nat.le_refl _
  | succ n ih =>
    intro h
    have h1 := ih (fun x hx => h x (by omega))
    have h2 := h n (by omega)
    simp only [cn]
    by_cases hp : P n = true
    · rw [if_pos hp, if_pos (h2 hp)]; omega
    · rw [if_neg hp]; split <;> omega
theorem cn_more {P Q : Nat → Bool} : ∀ n, (∀ x, x < n → P x = true → Q x = true) → (∃ y, y < n ∧ P y = false ∧ Q y = true) → cn P n + 1 ≤ cn Q n := by
  intro n
  induction n with
  | zero => rintro _ ⟨y, hy, -⟩; omega
  | succ n ih =>
    rintro h ⟨y, hy, h1, h2⟩
    simp only [cn]
    by_cases e : y = n
    · subst e
      have h3 := cn_mono y (fun x hx => h x (by omega))
      rw [h1, h2, if_neg Bool.false_ne_true, if_pos rfl]; omega
    · have h3 := ih (fun x hx => h x (by omega)) ⟨y, by omega, h1, h2⟩
      have h4 := h n (by omega)
      by_cases hp : P n = true
      · rw [if_pos hp, if_pos (h4 hp)]; omega
      · rw [if_neg hp]; split <;> omega
theorem cn_lt {P : Nat → Bool} {n y : Nat} (hy : y < n) (h : P y = false) : cn P n < n := by
  have h1 := cn_more (P := P) (Q := fun _ => true) n (fun _ _ _ => rfl) ⟨y, hy, h, rfl⟩
  have h2 := cn_le (fun _ => true) n
  omega
theorem cn_up {P Q : Nat → Bool} {y : Nat} : ∀ n, y < n → P y = false → Q y = true → (∀ x, x ≠ y → Q x = P x) → cn Q n = cn P n + 1 := by
  intro n
  induction n with
  | zero => intro hy; omega
  | succ n ih =>
    intro hy h1 h2 h3
    simp only [cn]
    by_cases e : y = n
    · subst e
      have h4 : ∀ m, m ≤ y → cn Q m = cn P m := by
        intro m
        induction m with
        | zero => intro _; rfl
        | succ m ihm => intro hm; simp only [cn]; rw [ihm (by omega), h3 m (by omega)]
      rw [h4 y (Nat.le_refl _), h1, h2, if_pos rfl, if_neg Bool.false_ne_true]
    · rw [ih (by omega) h1 h2 h3, h3 n (by omega)]; omega
def Rk (V : Vt) (p : Nat) : Nat → Nat → Prop
  | 0, x => plz V p x = true
  | k + 1, x => Rk V p k x ∨ ∃ t, cb V p t ∧ Rk V p k (beh V t x)
theorem Rk_mono {V : Vt} {p x : Nat} : ∀ {j k}, j ≤ k → Rk V p j x → Rk V p k x := by
  intro j k h
  induction k with
  | zero => intro hx; rw [show j = 0 from by omega] at hx; exact hx
  | succ k ih =>
    intro hx
    by_cases e : j = k + 1
    · rw [e] at hx; exact hx
    · exact Or.inl (ih (by omega) hx)
theorem Rk_stab {V : Vt} {p j : Nat} (h : ∀ x, x < 256 → Rk V p (j + 1) x → Rk V p j x) : ∀ d x, x < 256 → Rk V p (j + d) x → Rk V p j x := by
  intro d
  induction d with
  | zero => intro x _ hx; exact hx
  | succ d ih =>
    intro x hx hr
    rcases hr with hr | ⟨t, ht, hr⟩
    · exact ih x hx hr
    · exact h x hx (Or.inr ⟨t, ht, ih _ (beh_lt V t hx) hr⟩)
noncomputable def RB (V : Vt) (p k x : Nat) : Bool := @decide (Rk V p k x) (Classical.propDecidable _)
theorem RB_iff (V : Vt) (p k x : Nat) : RB V p k x = true ↔ Rk V p k x := by
  unfold RB
  rw [@decide_eq_true_eq _ (Classical.propDecidable _)]
theorem Rk_256 {V : Vt} {p : Nat} : ∀ k x, x < 256 → Rk V p k x → Rk V p 256 x := by
  have hcases : (∃ j, j ≤ 256 ∧ ∀ x, x < 256 → Rk V p (j + 1) x → Rk V p j x) ∨ ∀ j, j ≤ 256 → j ≤ cn (RB V p j) 256 := by
    by_cases hex : ∃ j, j ≤ 256 ∧ ∀ x, x < 256 → Rk V p (j + 1) x → Rk V p j x
    · exact Or.inl hex
    · right
      intro j
      induction j with
      | zero => intro _; exact Nat.zero_le _
      | succ j ih =>
        intro hj
        have h1 := ih (by omega)
        have h2 : ¬ ∀ x, x < 256 → Rk V p (j + 1) x → Rk V p j x := fun h => hex ⟨j, by omega, h⟩
        have h3 : ∃ x, x < 256 ∧ Rk V p (j + 1) x ∧ ¬ Rk V p j x := by
          apply Classical.byContradiction
          intro h
          apply h2
          intro x hx hr
          apply Classical.byContradiction
          intro hn
          exact h ⟨x, hx, hr, hn⟩
        obtain ⟨y, hy, hy1, hy2⟩ := h3
        have h4 := cn_more (P := RB V p j) (Q := RB V p (j + 1)) 256 (fun x _ hx => (RB_iff V p (j + 1) x).mpr (Or.inl ((RB_iff V p j x).mp hx))) ⟨y, hy, by
          cases hb : RB V p j y with
          | false => rfl
          | true => exact absurd ((RB_iff V p j y).mp hb) hy2, (RB_iff V p (j + 1) y).mpr hy1⟩
        omega
  intro k x hx hr
  rcases hcases with ⟨j, hj, h⟩ | h
  · by_cases hk : k ≤ j
    · exact Rk_mono (by omega) hr
    · have := Rk_stab h (k - j) x hx (by rw [show j + (k - j) = k from by omega]; exact hr)
      exact Rk_mono hj this
  · have h1 := h 256 (Nat.le_refl _)
    cases hb : RB V p 256 x with
    | true => exact (RB_iff V p 256 x).mp hb
    | false =>
      have := cn_lt hx hb
      omega
def SN (V : Vt) (p : Nat) (F : Vt) : Prop := ∀ x, x < 256 → F x = 1000000 ∨ (F x < 1000000 ∧ Rk V p (F x) x)
def FX (V : Vt) (p : Nat) (F : Vt) : Prop := ∀ x t, x < 256 → cb V p t → F x ≤ F (beh V t x) + 1
def BF (V : Vt) (p : Nat) (j : Nat) (F : Vt) : Prop := ∀ x k, x < 256 → k ≤ j → Rk V p k x → F x ≤ k
theorem SN_le {V F : Vt} {p : Nat} (h : SN V p F) {x : Nat} (hx : x < 256) : F x ≤ 1000000 := by
  rcases h x hx with h | h <;> omega
theorem BF_FX {V F : Vt} {p : Nat} (h : BF V p 256 F) (hs : SN V p F) : FX V p F := by
  intro x t hx ht
  have hl := SN_le hs hx
  rcases hs _ (beh_lt V t hx) with h1 | ⟨h1, h2⟩
  · omega
  · by_cases hk : F (beh V t x) + 1 ≤ 256
    · exact h x _ hx hk (Or.inr ⟨t, ht, h2⟩)
    · have := h x 256 hx (Nat.le_refl _) (Rk_256 (F (beh V t x) + 1) x hx (Or.inr ⟨t, ht, h2⟩))
      omega
theorem FX_BF {V F : Vt} {p : Nat} (h : FX V p F) (h0 : ∀ x, x < 256 → plz V p x = true → F x = 0) : ∀ k x, x < 256 → Rk V p k x → F x ≤ k := by
  intro k
  induction k with
  | zero => intro x hx hr; rw [h0 x hx hr]; exact Nat.le_refl _
  | succ k ih =>
    intro x hx hr
    rcases hr with hr | ⟨t, ht, hr⟩
    · have := ih x hx hr; omega
    · have h1 := h x t hx ht
      have h2 := ih _ (beh_lt V t hx) hr
      omega
section P15
variable {B M W : St} {V F : Vt}
def FW (M : St) (F : Vt) : Prop := ∀ x, x < 256 → M.2.2.1 23 x = nI (F x)
/-- how far a pass has come: what was F is now G -/
def PJ (V F : Vt) (p x t c : Nat) (G : Vt) : Prop := (∀ y, y < 256 → G y ≤ F y) ∧ SN V p G ∧ (∀ y, y < x → ∀ t', cb V p t' → G y ≤ F (beh V t' y) + 1) ∧ (∀ t', t' < t → cb V p t' → G x ≤ F (beh V t' x) + 1) ∧ (c = 0 ∨ c = 1) ∧ (c = 0 → G = F) ∧ (FX V p F → c = 0)
theorem few_t (hM : RM M V) (hw : WF V) {p : Nat} {c x : Nat} {G : Vt} (hx : x < 256) (hG : FW M G) (hJ : PJ V F p x 0 c G) : ∃ c' G' M', FW M' G' ∧ RM M' V ∧ FR [] [23] [] M M' ∧ PJ V F p x (V 0) c' G' ∧ ∀ K39 K48, L_X12_laysFew_59 K39 K48 (nI (canV V p)) (nI c) (nI x) 0 M = K48 (nI (canV V p), nI c', nI (x + 1), M') := by
  have w0 := hw.1
  have hcl := can_lt hw p
  have key := lp_invK (body := fun (K : Int32 × Int32 × Int32 × St → Option St) kz z => F_X12_laysFew_59 (fun _ => none) K kz z.1 z.2.1 z.2.2.1 z.2.2.2.1 z.2.2.2.2) (fun i z => ∃ c' G' M', z = (nI (canV V p), nI c', nI x, nI i, M') ∧ FW M' G' ∧ RM M' V ∧ FR [] [23] [] M M' ∧ PJ V F p x i c' G') (V 0) (fun o => ∃ c' G' M', o = (nI (canV V p), nI c', nI (x + 1), M') ∧ FW M' G' ∧ RM M' V ∧ FR [] [23] [] M M' ∧ PJ V F p x (V 0) c' G') (fun i hi z hz => ?_) (fun z hz => ?_) (x0 := (nI (canV V p), nI c, nI x, nI 0, M)) ⟨c, G, M, rfl, hG, hM, FR.rf, hJ⟩ (pu_FU (by omega : V 0 < 1000000))
  · obtain ⟨o, ⟨c', G', M', rfl, h1, h2, h3, h4⟩, h5⟩ := key
    exact ⟨c', G', M', h1, h2, h3, h4, fun K39 K48 => h5 K48⟩
  · obtain ⟨c', G', M', rfl, a1, a2, a3, a4⟩ := hz
    have hbl := beh_lt V i hx
    have hb := x12_bit (x := canV V p) (v := i) (by omega) (by omega)
    have hbh := x12_behind a2 hw hi hx
    have g0 := a2 0 (by omega)
    have gx := a1 x hx
    have gb := a1 _ hbl
    have lx := SN_le a4.2.1 hx
    have lb := SN_le a4.2.1 hbl
    obtain ⟨j1, j2, j3, j4, j5, j6, j7⟩ := a4
    rcases Nat.mod_two_eq_zero_or_one (canV V p / 2 ^ i) with h | h
    · rw [h] at hb
      refine ⟨(nI (canV V p), nI c', nI x, nI (i + 1), M'), ⟨c', G', M', rfl, a1, a2, a3, j1, j2, j3, fun t' ht' hc' => ?_, j5, j6, j7⟩, fun K k => ?_⟩
      · by_cases e : t' = i
        · subst e; exact absurd hc'.2 (by omega)
        · exact j4 t' (by omega) hc'
      · show F_X12_laysFew_59 (fun _ => none) K k (nI (canV V p)) (nI c') (nI x) (nI i) M' = _
        unfold F_X12_laysFew_59 F_X12_laysFew_131
        simp (disch := omega) only [↓pu_m1, pu_lit, ↓reduceIte, pu_leT, pu_leF, pu_ltT, pu_ltF, pu_eqT, pu_eqF, pu_eqO, pu_eqO2, pu_ltO, pu_leO, pu_subO, pu_subOF, pu_subT, pu_subF, pu_oobF, pu_clamp, pu_add, pu_sub, pu_mul, pu_and, pu_or, pu_xor, pu_xorO, pu_shl, pu_shr, pu_ushr, pu_nb0, pu_nb1, pu_ob1N, pu_ob2N, pu_ob3N, pu_ob4N, pu_nwN, pu_n1, pu_n7, pu_n31, pu_n255, pu_md, pu_one, pu_sI1, pu_sI2, pu_sA1, pu_sA21, pu_sA222, pu_sAe, pu_sAn, pu_sJ1, pu_sJ21, pu_sJ221, pu_sF1, pu_sF21, pu_sF222, pu_sFe, pu_sFn, pu_upe, pu_upn, Nat.reduceAdd, Nat.reduceSub, Nat.reduceMul, Nat.reduceMod, Nat.reduceAnd, Nat.reducePow, Nat.reduceEqDiff, Nat.add_zero, Nat.zero_add, Bool.false_eq_true, Nat.add_sub_cancel, g0, hb]
    · rw [h] at hb
      have hcb : cb V p i := ⟨hi, h⟩
      by_cases hlt : G' (beh V i x) + 1 < G' x
      · have hne : beh V i x ≠ x := fun e => by rw [e] at hlt; omega
        have hfin : G' (beh V i x) < 1000000 := by omega
        have hR : Rk V p (G' (beh V i x)) (beh V i x) := by
          rcases j2 _ hbl with h1 | h1
          · omega
          · exact h1.2
        refine ⟨(nI (canV V p), nI 1, nI x, nI (i + 1), sA M' 23 (nI x) (nI (G' (beh V i x) + 1))), ⟨1, up G' x (G' (beh V i x) + 1), _, rfl, fun y hy => ?_, fun k hk => by rw [pu_sAn (by omega)]; exact a2 k hk, a3.tr (FR.sA (by decide)), fun y hy => ?_, fun y hy => ?_, fun y hy t' hc' => ?_, fun t' ht' hc' => ?_, Or.inr rfl, fun e => by omega, fun hf => ?_⟩, fun K k => ?_⟩
        · rw [pu_sAe (by omega)]
          by_cases e : y = x
          · rw [if_pos e, e, pu_upe]
          · rw [if_neg e, pu_upn e]; exact a1 y hy
        · by_cases e : y = x
          · have := j1 x hx
            rw [e, pu_upe]; omega
          · rw [pu_upn e]; exact j1 y hy
        · by_cases e : y = x
          · rw [e, pu_upe]
            by_cases h3 : G' (beh V i x) + 1 < 1000000
            · exact Or.inr ⟨h3, Or.inr ⟨i, hcb, hR⟩⟩
            · exact Or.inl (by omega)
          · rw [pu_upn e]; exact j2 y hy
        · rw [pu_upn (by omega)]; exact j3 y hy t' hc'
        · rw [pu_upe]
          by_cases e : t' = i
          · have := j1 _ hbl
            rw [e]; omega
          · have := j4 t' (by omega) hc'
            omega
        · exfalso
          have hc0 := j7 hf
          have hGF := j6 hc0
          have := hf x i hx hcb
          rw [hGF] at hlt
          omega
        · show F_X12_laysFew_59 (fun _ => none) K k (nI (canV V p)) (nI c') (nI x) (nI i) M' = _
          unfold F_X12_laysFew_59 F_X12_laysFew_131
          simp (disch := omega) only [↓pu_m1, pu_lit, ↓reduceIte, pu_leT, pu_leF, pu_ltT, pu_ltF, pu_eqT, pu_eqF, pu_eqO, pu_eqO2, pu_ltO, pu_leO, pu_subO, pu_subOF, pu_subT, pu_subF, pu_oobF, pu_clamp, pu_add, pu_sub, pu_mul, pu_and, pu_or, pu_xor, pu_xorO, pu_shl, pu_shr, pu_ushr, pu_nb0, pu_nb1, pu_ob1N, pu_ob2N, pu_ob3N, pu_ob4N, pu_nwN, pu_n1, pu_n7, pu_n31, pu_n255, pu_md, pu_one, pu_sI1, pu_sI2, pu_sA1, pu_sA21, pu_sA222, pu_sAe, pu_sAn, pu_sJ1, pu_sJ21, pu_sJ221, pu_sF1, pu_sF21, pu_sF222, pu_sFe, pu_sFn, pu_upe, pu_upn, Nat.reduceAdd, Nat.reduceSub, Nat.reduceMul, Nat.reduceMod, Nat.reduceAnd, Nat.reducePow, Nat.reduceEqDiff, Nat.add_zero, Nat.zero_add, Bool.false_eq_true, Nat.add_sub_cancel, g0, hb, hbh, gb, gx]
      · refine ⟨(nI (canV V p), nI c', nI x, nI (i + 1), M'), ⟨c', G', M', rfl, a1, a2, a3, j1, j2, j3, fun t' ht' hc' => ?_, j5, j6, j7⟩, fun K k => ?_⟩
        · by_cases e : t' = i
          · have := j1 _ hbl
            rw [e]; omega
          · exact j4 t' (by omega) hc'
        · show F_X12_laysFew_59 (fun _ => none) K k (nI (canV V p)) (nI c') (nI x) (nI i) M' = _
          unfold F_X12_laysFew_59 F_X12_laysFew_131
          simp (disch := omega) only [↓pu_m1, pu_lit, ↓reduceIte, pu_leT, pu_leF, pu_ltT, pu_ltF, pu_eqT, pu_eqF, pu_eqO, pu_eqO2, pu_ltO, pu_leO, pu_subO, pu_subOF, pu_subT, pu_subF, pu_oobF, pu_clamp, pu_add, pu_sub, pu_mul, pu_and, pu_or, pu_xor, pu_xorO, pu_shl, pu_shr, pu_ushr, pu_nb0, pu_nb1, pu_ob1N, pu_ob2N, pu_ob3N, pu_ob4N, pu_nwN, pu_n1, pu_n7, pu_n31, pu_n255, pu_md, pu_one, pu_sI1, pu_sI2, pu_sA1, pu_sA21, pu_sA222, pu_sAe, pu_sAn, pu_sJ1, pu_sJ21, pu_sJ221, pu_sF1, pu_sF21, pu_sF222, pu_sFe, pu_sFn, pu_upe, pu_upn, Nat.reduceAdd, Nat.reduceSub, Nat.reduceMul, Nat.reduceMod, Nat.reduceAnd, Nat.reducePow, Nat.reduceEqDiff, Nat.add_zero, Nat.zero_add, Bool.false_eq_true, Nat.add_sub_cancel, g0, hb, hbh, gb, gx]
  · obtain ⟨c', G', M', rfl, a1, a2, a3, a4⟩ := hz
    have g0 := a2 0 (by omega)
    refine ⟨_, ⟨c', G', M', rfl, a1, a2, a3, a4⟩, fun K k => ?_⟩
    show F_X12_laysFew_59 (fun _ => none) K k (nI (canV V p)) (nI c') (nI x) (nI (V 0)) M' = _
    unfold F_X12_laysFew_59
    simp (disch := omega) only [↓pu_m1, pu_lit, ↓reduceIte, pu_leT, pu_leF, pu_ltT, pu_ltF, pu_eqT, pu_eqF, pu_eqO, pu_eqO2, pu_ltO, pu_leO, pu_subO, pu_subOF, pu_subT, pu_subF, pu_oobF, pu_clamp, pu_add, pu_sub, pu_mul, pu_and, pu_or, pu_xor, pu_xorO, pu_shl, pu_shr, pu_ushr, pu_nb0, pu_nb1, pu_ob1N, pu_ob2N, pu_ob3N, pu_ob4N, pu_nwN, pu_n1, pu_n7, pu_n31, pu_n255, pu_md, pu_one, pu_sI1, pu_sI2, pu_sA1, pu_sA21, pu_sA222, pu_sAe, pu_sAn, pu_sJ1, pu_sJ21, pu_sJ221, pu_sF1, pu_sF21, pu_sF222, pu_sFe, pu_sFn, pu_upe, pu_upn, Nat.reduceAdd, Nat.reduceSub, Nat.reduceMul, Nat.reduceMod, Nat.reduceAnd, Nat.reducePow, Nat.reduceEqDiff, Nat.add_zero, Nat.zero_add, Bool.false_eq_true, Nat.add_sub_cancel, g0]
theorem few_pass (hM : RM M V) (hw : WF V) {p : Nat} (hF : FW M F) (hs : SN V p F) : ∃ c G M', FW M' G ∧ RM M' V ∧ FR [] [23] [] M M' ∧ PJ V F p 256 0 c G ∧ ∀ K39, L_X12_laysFew_48 K39 (nI (canV V p)) 0 0 M = K39 (nI (canV V p), nI c, M') := by
  have key := lp_invK (body := fun (K : Int32 × Int32 × St → Option St) kz z => F_X12_laysFew_48 K kz z.1 z.2.1 z.2.2.1 z.2.2.2) (fun i z => ∃ c' G' M', z = (nI (canV V p), nI c', nI i, M') ∧ FW M' G' ∧ RM M' V ∧ FR [] [23] [] M M' ∧ PJ V F p i 0 c' G') 256 (fun o => ∃ c' G' M', o = (nI (canV V p), nI c', M') ∧ FW M' G' ∧ RM M' V ∧ FR [] [23] [] M M' ∧ PJ V F p 256 0 c' G') (fun i hi z hz => ?_) (fun z hz => ?_) (x0 := (nI (canV V p), nI 0, nI 0, M)) ⟨0, F, M, rfl, hF, hM, FR.rf, fun _ _ => Nat.le_refl _, hs, fun y hy => by omega, fun t' ht' => by omega, Or.inl rfl, fun _ => rfl, fun _ => rfl⟩ (pu_FU (by omega : 256 < 1000000))
  · obtain ⟨o, ⟨c', G', M', rfl, h1, h2, h3, h4⟩, h5⟩ := key
    exact ⟨c', G', M', h1, h2, h3, h4, h5⟩
  · obtain ⟨c', G', M', rfl, a1, a2, a3, a4⟩ := hz
    obtain ⟨c2, G2, M2, b1, b2, b3, b4, b5⟩ := few_t a2 hw hi a1 a4
    refine ⟨(nI (canV V p), nI c2, nI (i + 1), M2), ⟨c2, G2, M2, rfl, b1, b2, a3.tr b3, b4.1, b4.2.1, fun y hy t' hc' => ?_, fun t' ht' => by omega, b4.2.2.2.2⟩, fun K k => ?_⟩
    · by_cases e : y = i
      · subst e; exact b4.2.2.2.1 t' hc'.1 hc'
      · exact b4.2.2.1 y (by omega) t' hc'
    · show F_X12_laysFew_48 K k (nI (canV V p)) (nI c') (nI i) M' = _
      unfold F_X12_laysFew_48
      rw [if_neg (show ¬ (256 : Int32) ≤ nI i from nI_ge (a := i) (b := 256) hi (by omega))]
      exact b5 K k
  · obtain ⟨c', G', M', rfl, a1, a2, a3, a4⟩ := hz
    refine ⟨_, ⟨c', G', M', rfl, a1, a2, a3, a4⟩, fun K k => ?_⟩
    show F_X12_laysFew_48 K k (nI (canV V p)) (nI c') (nI 256) M' = _
    unfold F_X12_laysFew_48
    rw [if_pos (by decide)]
/-- the distances: what they are -/
def DS (V : Vt) (p : Nat) (F : Vt) : Prop := FX V p F ∧ (∀ x, x < 256 → (F x = 0 ↔ plz V p x = true)) ∧ (∀ x, x < 256 → F x = 1000000 ∨ F x ≤ 256) ∧ ∀ x, x < 256 → 0 < F x → F x < 1000000 → ∃ t, cb V p t ∧ F (beh V t x) + 1 = F x
theorem DS_of {p : Nat} (h : FX V p F) (hs : SN V p F) (h0 : ∀ x, x < 256 → plz V p x = true → F x = 0) : DS V p F := by
  have hb := FX_BF h h0
  refine ⟨h, fun x hx => ⟨fun e => ?_, h0 x hx⟩, fun x hx => ?_, fun x hx h1 h2 => ?_⟩
  · rcases hs x hx with h1 | ⟨h1, h2⟩
    · omega
    · rw [e] at h2; exact h2
  · rcases hs x hx with h1 | ⟨h1, h2⟩
    · exact Or.inl h1
    · exact Or.inr (hb 256 x hx (Rk_256 _ x hx h2))
  · rcases hs x hx with h3 | ⟨h3, h4⟩
    · omega
    · obtain ⟨v, hv⟩ : ∃ v, F x = v + 1 := ⟨F x - 1, by omega⟩
      rw [hv] at h4
      rcases h4 with h4 | ⟨t, ht, h4⟩
      · have := hb v x hx h4; omega
      · have h5 := hb v _ (beh_lt V t hx) h4
        have h6 := h x t hx ht
        exact ⟨t, ht, by omega⟩
theorem x12_few (hM : RM M V) (hw : WF V) {p : Nat} (hp : p < V 1) : ∃ F M', F_X12_laysFew M (nI p) (nI (canV V p)) = some M' ∧ FW M' F ∧ RM M' V ∧ FR [] [23] [] M M' ∧ DS V p F := by
  have k1 := lp_invG (body := fun kz z => F_X12_laysFew_2 kz z.1 z.2.1 z.2.2.1 z.2.2.2) (fun i z => ∃ M', z = (nI p, nI (canV V p), nI i, M') ∧ RM M' V ∧ FR [] [23] [] M M' ∧ ∀ x, x < i → M'.2.2.1 23 x = nI (if plz V p x = true then 0 else 1000000)) 256 (fun z => L_X12_laysFew_39 z.2.1 1 z.2.2.2) (fun i hi z hz => ?_) (fun z hz k => ?_) (x0 := (nI p, nI (canV V p), nI 0, M)) ⟨M, rfl, hM, FR.rf, fun x hx => by omega⟩ (pu_FU (by omega : 256 < 1000000))
  · obtain ⟨y, ⟨M1, rfl, a1, a2, a3⟩, a4⟩ := k1
    have key := lp_inv2 (body := fun kz z => F_X12_laysFew_39 kz z.1 z.2.1 z.2.2) (fun i z => ∃ c G M', z = (nI (canV V p), nI c, M') ∧ FW M' G ∧ RM M' V ∧ FR [] [23] [] M1 M' ∧ SN V p G ∧ BF V p i G ∧ (c = 0 ∨ c = 1) ∧ (c = 0 → FX V p G) ∧ (256 < i → c = 0)) 257 (fun M' => ∃ G, FW M' G ∧ RM M' V ∧ FR [] [23] [] M1 M' ∧ DS V p G) (fun i hi z hz => ?_) (x0 := (nI (canV V p), nI 1, M1)) ⟨1, fun x => if plz V p x = true then 0 else 1000000, M1, rfl, fun x hx => a3 x hx, a1, FR.rf, fun x hx => ?_, fun x k hx hk hr => ?_, Or.inr rfl, fun e => by omega, fun e => by omega⟩ (pu_FU (by omega : 257 < 1000000))
    · obtain ⟨M', ⟨G, h1, h2, h3, h4⟩, h5⟩ := key
      refine ⟨G, M', ?_, h1, h2, a2.tr h3, h4⟩
      unfold F_X12_laysFew L_X12_laysFew_2
      exact a4.trans h5
    · obtain ⟨c, G, M', rfl, b1, b2, b3, b4, b5, b6, b7, b8⟩ := hz
      by_cases hc : c = 0
      · left
        refine ⟨M', ⟨G, b1, b2, b3, DS_of (b7 hc) b4 (fun x hx hr => ?_)⟩, fun k => ?_⟩
        · have := b5 x 0 hx (by omega) hr; omega
        · show F_X12_laysFew_39 k (nI (canV V p)) (nI c) M' = _
          unfold F_X12_laysFew_39
          rw [hc, if_pos (by decide)]
      · right
        have hi256 : i ≤ 256 := Nat.le_of_not_lt (fun h => hc (b8 h))
        have hc1 : c = 1 := by omega
        subst hc1
        obtain ⟨c2, G2, M2, d1, d2, d3, d4, d5⟩ := few_pass b2 hw b1 b4
        refine ⟨by omega, (nI (canV V p), nI c2, M2), ⟨c2, G2, M2, rfl, d1, d2, b3.tr d3, d4.2.1, fun x k hx hk hr => ?_, d4.2.2.2.2.1, fun e => ?_, fun e => ?_⟩, fun k => ?_⟩
        · have h1 := d4.1 x hx
          by_cases hk2 : k ≤ i
          · have := b5 x k hx hk2 hr; omega
          · have ek : k = i + 1 := by omega
            subst ek
            rcases hr with hr | ⟨t, ht, hr⟩
            · have := b5 x i hx (Nat.le_refl _) hr; omega
            · have h2 := d4.2.2.1 x hx t ht
              have h3 := b5 _ i (beh_lt V t hx) (Nat.le_refl _) hr
              omega
        · have hGF := d4.2.2.2.2.2.1 e
          intro x t hx ht
          have h2 := d4.2.2.1 x hx t ht
          rw [hGF] at h2 ⊢
          exact h2
        · have ei : i = 256 := by omega
          subst ei
          exact d4.2.2.2.2.2.2 (BF_FX b5 b4)
        · show F_X12_laysFew_39 k (nI (canV V p)) (nI 1) M' = _
          unfold F_X12_laysFew_39
          rw [if_neg (show ¬ nI 1 = 0 from by decide)]
          exact d5 k
    · dsimp only
      by_cases h : plz V p x = true
      · exact Or.inr ⟨by rw [if_pos h]; omega, by rw [if_pos h]; exact h⟩
      · exact Or.inl (by rw [if_neg h])
    · have e : k = 0 := by omega
      subst e
      have hr : plz V p x = true := hr
      dsimp only
      rw [if_pos hr]
      exact Nat.le_refl _
  · obtain ⟨M', rfl, a1, a2, a3⟩ := hz
    have hz := x12_plz a1 hw hp hi
    refine ⟨(nI p, nI (canV V p), nI (i + 1), sA M' 23 (nI i) (nI (if plz V p i = true then 0 else 1000000))), ⟨_, rfl, fun k hk => by rw [pu_sAn (by omega)]; exact a1 k hk, a2.tr (FR.sA (by decide)), fun x hx => ?_⟩, fun k => ?_⟩
    · rw [pu_sAe (by omega)]
      by_cases e : x = i
      · rw [if_pos e, e]
      · rw [if_neg e]; exact a3 x (by omega)
    · show F_X12_laysFew_2 k (nI p) (nI (canV V p)) (nI i) M' = _
      unfold F_X12_laysFew_2 F_X12_laysFew_30
      by_cases h : plz V p i = true
      · rw [if_pos h] at hz ⊢
        simp (disch := omega) only [↓pu_m1, pu_lit, ↓reduceIte, pu_leT, pu_leF, pu_ltT, pu_ltF, pu_eqT, pu_eqF, pu_eqO, pu_eqO2, pu_ltO, pu_leO, pu_subO, pu_subOF, pu_subT, pu_subF, pu_oobF, pu_clamp, pu_add, pu_sub, pu_mul, pu_and, pu_or, pu_xor, pu_xorO, pu_shl, pu_shr, pu_ushr, pu_nb0, pu_nb1, pu_ob1N, pu_ob2N, pu_ob3N, pu_ob4N, pu_nwN, pu_n1, pu_n7, pu_n31, pu_n255, pu_md, pu_one, pu_sI1, pu_sI2, pu_sA1, pu_sA21, pu_sA222, pu_sAe, pu_sAn, pu_sJ1, pu_sJ21, pu_sJ221, pu_sF1, pu_sF21, pu_sF222, pu_sFe, pu_sFn, pu_upe, pu_upn, Nat.reduceAdd, Nat.reduceSub, Nat.reduceMul, Nat.reduceMod, Nat.reduceAnd, Nat.reducePow, Nat.reduceEqDiff, Nat.add_zero, Nat.zero_add, Bool.false_eq_true, Nat.add_sub_cancel, hz]
      · rw [if_neg h] at hz ⊢
        simp (disch := omega) only [↓pu_m1, pu_lit, ↓reduceIte, pu_leT, pu_leF, pu_ltT, pu_ltF, pu_eqT, pu_eqF, pu_eqO, pu_eqO2, pu_ltO, pu_leO, pu_subO, pu_subOF, pu_subT, pu_subF, pu_oobF, pu_clamp, pu_add, pu_sub, pu_mul, pu_and, pu_or, pu_xor, pu_xorO, pu_shl, pu_shr, pu_ushr, pu_nb0, pu_nb1, pu_ob1N, pu_ob2N, pu_ob3N, pu_ob4N, pu_nwN, pu_n1, pu_n7, pu_n31, pu_n255, pu_md, pu_one, pu_sI1, pu_sI2, pu_sA1, pu_sA21, pu_sA222, pu_sAe, pu_sAn, pu_sJ1, pu_sJ21, pu_sJ221, pu_sF1, pu_sF21, pu_sF222, pu_sFe, pu_sFn, pu_upe, pu_upn, Nat.reduceAdd, Nat.reduceSub, Nat.reduceMul, Nat.reduceMod, Nat.reduceAnd, Nat.reducePow, Nat.reduceEqDiff, Nat.add_zero, Nat.zero_add, Bool.false_eq_true, Nat.add_sub_cancel, hz]
  · obtain ⟨M', rfl, a1, a2, a3⟩ := hz
    show F_X12_laysFew_2 k (nI p) (nI (canV V p)) (nI 256) M' = _
    unfold F_X12_laysFew_2
    rw [if_pos (by decide)]
end P15
