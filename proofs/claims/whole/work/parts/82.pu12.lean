/-! party -/
theorem lp_invG {α β : Type} {body : (α → Option β) → α → Option β} (I : Nat → α → Prop) (n : Nat) (G : α → Option β) (hs : ∀ i, i < n → ∀ x, I i x → ∃ y, I (i + 1) y ∧ ∀ k, body k x = k y) (he : ∀ x, I n x → ∀ k, body k x = G x) {x0 : α} (h0 : I 0 x0) {N : Nat} (hN : n < N) : ∃ y, I n y ∧ lp body N x0 = G y := by
  have h : ∀ d i x, i + d = n → I i x → ∀ N, d < N → ∃ y, I n y ∧ lp body N x = G y := by
    intro d
    induction d with
    | zero =>
      intro i x hi hx N hN
      obtain ⟨N, rfl⟩ : ∃ k, N = k + 1 := ⟨N - 1, by omega⟩
      have e : i = n := by omega
      subst e
      exact ⟨x, hx, he x hx _⟩
    | succ d ih =>
      intro i x hi hx N hN
      obtain ⟨N, rfl⟩ : ∃ k, N = k + 1 := ⟨N - 1, by omega⟩
      obtain ⟨y, h1, h2⟩ := hs i (by omega) x hx
      obtain ⟨o, h3, h4⟩ := ih (i + 1) y (by omega) h1 N (by omega)
      exact ⟨o, h3, by show body (lp body N) x = G o; rw [h2]; exact h4⟩
  exact h n 0 x0 (by omega) h0 N hN
theorem fs_snoc (P : Nat → Bool) : ∀ n i, fs P (n + 1) i = if fs P n i < i + n then fs P n i else if P (i + n) = true then i + n else i + n + 1 := by
  intro n
  induction n with
  | zero => intro i; simp only [fs, Nat.add_zero, Nat.lt_irrefl, if_false]
  | succ n ih =>
    intro i
    rw [fs]
    by_cases hp : P i = true
    · rw [if_pos hp]
      have : fs P (n + 1) i = i := by rw [fs, if_pos hp]
      rw [this, if_pos (by omega)]
    · rw [if_neg hp, ih (i + 1)]
      have : fs P (n + 1) i = fs P n (i + 1) := by rw [fs, if_neg hp]
      rw [this, show i + 1 + n = i + (n + 1) from by omega]
theorem fs_ext (P : Nat → Bool) {m : Nat} (h : ∀ t, m ≤ t → P t = false) : ∀ d, wI (m + d) (fs P (m + d) 0) = wI m (fs P m 0) := by
  intro d
  induction d with
  | zero => rfl
  | succ d ih =>
    rw [← ih]
    show wI (m + d + 1) (fs P (m + d + 1) 0) = _
    have hl := (fs_le P (m + d) 0).2
    rw [fs_snoc]
    by_cases h1 : fs P (m + d) 0 < 0 + (m + d)
    · rw [if_pos h1, wI_lt (by omega), wI_lt (by omega)]
    · rw [if_neg h1, if_neg (by rw [h (0 + (m + d)) (by omega)]; exact Bool.false_ne_true), wI_ge (by omega), wI_ge (by omega)]
def pT (V : Vt) (p t : Nat) : Nat := if plz V p (beh V t (V (59 + p))) = true then 1 else 0
def pN (V : Vt) (p : Nat) : Nat := if plz V p (V (59 + p)) = true then 1 else 0
def fre (V : Vt) (p s : Nat) : Nat := canV V p &&& (s ^^^ 4294967295)
def boA (V : Vt) (W : Nat → Nat) (p s : Nat) : Nat → Nat
  | 0 => pN V p + W s
  | t + 1 => if fre V p s / 2 ^ t % 2 = 1 then max (boA V W p s t) (pT V p t + W (s ||| 2 ^ t)) else boA V W p s t
def tb (V : Vt) : Nat → Nat → Nat
  | 0 => fun _ => 0
  | d + 1 => fun s => boA V (tb V d) (V 1 - 1 - d) s 7
theorem pT_le (V : Vt) (p t : Nat) : pT V p t ≤ 1 := by unfold pT; split <;> omega
theorem pN_le (V : Vt) (p : Nat) : pN V p ≤ 1 := by unfold pN; split <;> omega
theorem boA_le {V : Vt} {W : Nat → Nat} {d : Nat} (hW : ∀ s, W s ≤ d) (p s : Nat) : ∀ t, boA V W p s t ≤ d + 1 := by
  intro t
  induction t with
  | zero =>
    have := pN_le V p
    have := hW s
    simp only [boA]; omega
  | succ t ih =>
    have := pT_le V p t
    have := hW (s ||| 2 ^ t)
    simp only [boA]
    split
    · omega
    · exact ih
theorem tb_le (V : Vt) : ∀ d s, tb V d s ≤ d := by
  intro d
  induction d with
  | zero => intro s; exact Nat.le_refl _
  | succ d ih => intro s; exact boA_le ih _ _ _
theorem can_lt {V : Vt} (hw : WF V) (p : Nat) : canV V p < 128 := Nat.lt_of_lt_of_le (bA_lt _ _) (pow_le7 hw.1)
theorem fre_lt {V : Vt} (hw : WF V) (p s : Nat) : fre V p s < 128 := Nat.lt_of_le_of_lt Nat.and_le_left (can_lt hw p)
theorem fre_0 {V : Vt} (p s : Nat) {t : Nat} (h : V 0 ≤ t) : fre V p s / 2 ^ t % 2 = 0 := by
  have h1 : fre V p s < 2 ^ t := Nat.lt_of_le_of_lt Nat.and_le_left (Nat.lt_of_lt_of_le (bA_lt _ _) (Nat.pow_le_pow_right (by omega) h))
  rw [Nat.div_eq_of_lt h1]
theorem boA_ext {V : Vt} {W : Nat → Nat} (p s : Nat) : ∀ d, boA V W p s (V 0 + d) = boA V W p s (V 0) := by
  intro d
  induction d with
  | zero => rfl
  | succ d ih =>
    rw [← ih]
    show boA V W p s (V 0 + d + 1) = _
    simp only [boA]
    rw [fre_0 p s (by omega), if_neg (by omega)]
theorem orp_lt {s t : Nat} (hs : s < 128) (ht : t < 7) : s ||| 2 ^ t < 128 := Nat.or_lt_two_pow (n := 7) hs (Nat.pow_lt_pow_right (by omega) ht)
theorem max_if (a b : Nat) (ha : a < 1000) (hb : b < 1000) : (if nI a < nI b then nI b else nI a) = nI (max a b) := by
  by_cases h : a < b
  · rw [if_pos (nI_lt h (by omega)), Nat.max_eq_right (by omega)]
  · rw [if_neg (nI_nlt (by omega) (by omega)), Nat.max_eq_left (by omega)]
theorem max_gr (a b : Nat) (ha : a < 1000) (hb : b < 1000) : F_X12_greater (nI a) (nI b) = some (nI (max a b)) := by
  unfold F_X12_greater
  by_cases h : a ≤ b
  · rw [if_pos (nI_le h (by omega)), Nat.max_eq_right (by omega)]
  · rw [if_neg (nI_ge (by omega) (by omega)), Nat.max_eq_left (by omega)]
theorem upd_upd (f : Nat → Int32) (i : Nat) (a b : Int32) : upd (upd f i a) i b = upd f i b := by
  funext k
  unfold upd
  by_cases e : k = i
  · rw [if_pos e, if_pos e]
  · rw [if_neg e, if_neg e, if_neg e]
theorem sA_sA {S : St} {f i : Nat} {a b : Int32} (h : i < 2147483648) : sA (sA S f (nI i) a) f (nI i) b = sA S f (nI i) b := by
  rw [pu_sAF (S := S) (v := a) h, sA_sF h, upd_upd, pu_sAF h]
section P12
variable {T B Q M : St} {V : Vt}
/-- the class's rows from a person on -/
def PQ (Q : St) (V : Vt) (q : Nat) : Prop := (∀ r s, q ≤ r → r ≤ V 1 → s < 128 → Q.2.2.1 0 (128 * r + s) = nI (tb V (V 1 - r) s)) ∧ ∀ r, q ≤ r → r < V 1 → Q.2.2.1 1 r = nI (canV V r) ∧ Q.2.2.1 2 r = nI (bA (fun t => plz V r (beh V t (V (59 + r)))) (V 0)) ∧ Q.2.2.1 3 r = nI (pN V r)
def PM (M : St) (V : Vt) (q : Nat) : Prop := ∀ r s, q ≤ r → r ≤ V 1 → s < 128 → M.2.2.1 30 (128 * r + s) = nI (tb V (V 1 - r) s)
theorem x4_weigh (hS : RS B V) (hw : WF V) {p : Nat} (hp : p < V 1) : ∃ Q', F_X4_weigh Q B (nI p) = some Q' ∧ Q'.2.2.1 0 = Q.2.2.1 0 ∧ Q'.2.2.1 4 = Q.2.2.1 4 ∧ (∀ r, r ≠ p → Q'.2.2.1 1 r = Q.2.2.1 1 r ∧ Q'.2.2.1 2 r = Q.2.2.1 2 r ∧ Q'.2.2.1 3 r = Q.2.2.1 3 r) ∧ Q'.2.2.1 1 p = nI (canV V p) ∧ Q'.2.2.1 2 p = nI (bA (fun t => plz V p (beh V t (V (59 + p)))) (V 0)) ∧ Q'.2.2.1 3 p = nI (pN V p) := by
  have hS' := hS
  have hw' := hw
  obtain ⟨e0, e7, e5, e6, e14, f2, f3, f4, f9, f10, f11, f12, f13⟩ := hS
  obtain ⟨w0, w1, w23, w44, w42, w2, w45, w52, w59, wop, w36, w24, w65, wsm⟩ := hw
  have h36 := w36 p hp
  have h59 := w59 p hp
  have c1 := x8_can hS' hw' hp
  have c2 := x8_plz hS' hw' hp
  have g10 := f10 p hp
  have g9 := f9 p hp
  have key : ∀ Y : St, L_X4_weigh_47 (nI p) (nI (V (36 + p))) 0 (sA Y 2 (nI p) (nI 0)) B = some (sA Y 2 (nI p) (nI (bA (fun t => plz V p (beh V t (V (59 + p)))) (V 0)))) := by
    intro Y
    unfold L_X4_weigh_47
    refine lp_up (fun i => (nI p, nI (V (36 + p)), nI i, sA Y 2 (nI p) (nI (bA (fun t => plz V p (beh V t (V (59 + p)))) i)), B)) (V 0) (fun i hi k => ?_) (fun k => ?_) (pu_FU (by omega))
    · have ha := x8_after hS' hw' hi h59
      have hb := beh_lt V i h59
      have hl : beh V i (V (59 + p)) &&& V (36 + p) < 256 := and_lt hb
      have ht := plz_tb _ _ h36 hb
      show F_X4_weigh_47 k (nI p) (nI (V (36 + p))) (nI i) (sA Y 2 (nI p) (nI (bA (fun t => plz V p (beh V t (V (59 + p)))) i))) B = _
      unfold F_X4_weigh_47 F_X4_weigh_87
      rw [bAs]
      by_cases hz : plz V p (beh V i (V (59 + p))) = true
      · have h2 : beh V i (V (59 + p)) &&& V (36 + p) = V (36 + p) := ht.mp (by unfold plz at hz; simpa using hz)
        simp (disch := omega) only [↓pu_m1, pu_lit, ↓reduceIte, pu_leT, pu_leF, pu_ltT, pu_ltF, pu_eqT, pu_eqF, pu_eqO, pu_eqO2, pu_ltO, pu_leO, pu_subO, pu_subOF, pu_subT, pu_subF, pu_oobF, pu_clamp, pu_add, pu_sub, pu_mul, pu_and, pu_or, pu_xor, pu_xorO, pu_shl, pu_shr, pu_ushr, pu_nb0, pu_nb1, pu_ob1N, pu_ob2N, pu_ob3N, pu_ob4N, pu_nwN, pu_n1, pu_n7, pu_n31, pu_n255, pu_md, pu_one, pu_sI1, pu_sI2, pu_sA1, pu_sA21, pu_sA222, pu_sAe, pu_sAn, pu_sJ1, pu_sJ21, pu_sJ221, pu_sF1, pu_sF21, pu_sF222, pu_sFe, pu_sFn, pu_upe, pu_upn, Nat.reduceAdd, Nat.reduceSub, Nat.reduceMul, Nat.reduceMod, Nat.reduceAnd, Nat.reducePow, Nat.reduceEqDiff, Nat.add_zero, Nat.zero_add, Bool.false_eq_true, Nat.add_sub_cancel, e0, g9, ha, h2, hz, sA_sA]
      · have h2 : beh V i (V (59 + p)) &&& V (36 + p) ≠ V (36 + p) := fun e => hz (by unfold plz; simpa using ht.mpr e)
        simp (disch := omega) only [↓pu_m1, pu_lit, ↓reduceIte, pu_leT, pu_leF, pu_ltT, pu_ltF, pu_eqT, pu_eqF, pu_eqO, pu_eqO2, pu_ltO, pu_leO, pu_subO, pu_subOF, pu_subT, pu_subF, pu_oobF, pu_clamp, pu_add, pu_sub, pu_mul, pu_and, pu_or, pu_xor, pu_xorO, pu_shl, pu_shr, pu_ushr, pu_nb0, pu_nb1, pu_ob1N, pu_ob2N, pu_ob3N, pu_ob4N, pu_nwN, pu_n1, pu_n7, pu_n31, pu_n255, pu_md, pu_one, pu_sI1, pu_sI2, pu_sA1, pu_sA21, pu_sA222, pu_sAe, pu_sAn, pu_sJ1, pu_sJ21, pu_sJ221, pu_sF1, pu_sF21, pu_sF222, pu_sFe, pu_sFn, pu_upe, pu_upn, Nat.reduceAdd, Nat.reduceSub, Nat.reduceMul, Nat.reduceMod, Nat.reduceAnd, Nat.reducePow, Nat.reduceEqDiff, Nat.add_zero, Nat.zero_add, Bool.false_eq_true, Nat.add_sub_cancel, e0, g9, ha, h2, hz, or0]
    · show F_X4_weigh_47 k (nI p) (nI (V (36 + p))) (nI (V 0)) _ B = _
      unfold F_X4_weigh_47
      simp (disch := omega) only [↓pu_m1, pu_lit, ↓reduceIte, pu_leT, pu_leF, pu_ltT, pu_ltF, pu_eqT, pu_eqF, pu_eqO, pu_eqO2, pu_ltO, pu_leO, pu_subO, pu_subOF, pu_subT, pu_subF, pu_oobF, pu_clamp, pu_add, pu_sub, pu_mul, pu_and, pu_or, pu_xor, pu_xorO, pu_shl, pu_shr, pu_ushr, pu_nb0, pu_nb1, pu_ob1N, pu_ob2N, pu_ob3N, pu_ob4N, pu_nwN, pu_n1, pu_n7, pu_n31, pu_n255, pu_md, pu_one, pu_sI1, pu_sI2, pu_sA1, pu_sA21, pu_sA222, pu_sAe, pu_sAn, pu_sJ1, pu_sJ21, pu_sJ221, pu_sF1, pu_sF21, pu_sF222, pu_sFe, pu_sFn, pu_upe, pu_upn, Nat.reduceAdd, Nat.reduceSub, Nat.reduceMul, Nat.reduceMod, Nat.reduceAnd, Nat.reducePow, Nat.reduceEqDiff, Nat.add_zero, Nat.zero_add, Bool.false_eq_true, Nat.add_sub_cancel, e0]
  refine ⟨sA (sA (sA Q 1 (nI p) (nI (canV V p))) 3 (nI p) (nI (pN V p))) 2 (nI p) (nI (bA (fun t => plz V p (beh V t (V (59 + p)))) (V 0))), ?_, ?_, ?_, fun r hr => ⟨?_, ?_, ?_⟩, ?_, ?_, ?_⟩
  · have k1 := key (sA (sA Q 1 (nI p) (nI (canV V p))) 3 (nI p) (nI (pN V p)))
    unfold F_X4_weigh F_X4_weigh_36
    unfold pN at k1 ⊢
    by_cases hz : plz V p (V (59 + p)) = true
    · rw [if_pos hz] at c2 k1 ⊢
      simp (disch := omega) only [↓pu_m1, pu_lit, ↓reduceIte, pu_leT, pu_leF, pu_ltT, pu_ltF, pu_eqT, pu_eqF, pu_eqO, pu_eqO2, pu_ltO, pu_leO, pu_subO, pu_subOF, pu_subT, pu_subF, pu_oobF, pu_clamp, pu_add, pu_sub, pu_mul, pu_and, pu_or, pu_xor, pu_xorO, pu_shl, pu_shr, pu_ushr, pu_nb0, pu_nb1, pu_ob1N, pu_ob2N, pu_ob3N, pu_ob4N, pu_nwN, pu_n1, pu_n7, pu_n31, pu_n255, pu_md, pu_one, pu_sI1, pu_sI2, pu_sA1, pu_sA21, pu_sA222, pu_sAe, pu_sAn, pu_sJ1, pu_sJ21, pu_sJ221, pu_sF1, pu_sF21, pu_sF222, pu_sFe, pu_sFn, pu_upe, pu_upn, Nat.reduceAdd, Nat.reduceSub, Nat.reduceMul, Nat.reduceMod, Nat.reduceAnd, Nat.reducePow, Nat.reduceEqDiff, Nat.add_zero, Nat.zero_add, Bool.false_eq_true, Nat.add_sub_cancel, g10, c1, c2]
      exact k1
    · rw [if_neg hz] at c2 k1 ⊢
      simp (disch := omega) only [↓pu_m1, pu_lit, ↓reduceIte, pu_leT, pu_leF, pu_ltT, pu_ltF, pu_eqT, pu_eqF, pu_eqO, pu_eqO2, pu_ltO, pu_leO, pu_subO, pu_subOF, pu_subT, pu_subF, pu_oobF, pu_clamp, pu_add, pu_sub, pu_mul, pu_and, pu_or, pu_xor, pu_xorO, pu_shl, pu_shr, pu_ushr, pu_nb0, pu_nb1, pu_ob1N, pu_ob2N, pu_ob3N, pu_ob4N, pu_nwN, pu_n1, pu_n7, pu_n31, pu_n255, pu_md, pu_one, pu_sI1, pu_sI2, pu_sA1, pu_sA21, pu_sA222, pu_sAe, pu_sAn, pu_sJ1, pu_sJ21, pu_sJ221, pu_sF1, pu_sF21, pu_sF222, pu_sFe, pu_sFn, pu_upe, pu_upn, Nat.reduceAdd, Nat.reduceSub, Nat.reduceMul, Nat.reduceMod, Nat.reduceAnd, Nat.reducePow, Nat.reduceEqDiff, Nat.add_zero, Nat.zero_add, Bool.false_eq_true, Nat.add_sub_cancel, g10, c1, c2]
      exact k1
  · rw [pu_sAn (by omega), pu_sAn (by omega), pu_sAn (by omega)]
  · rw [pu_sAn (by omega), pu_sAn (by omega), pu_sAn (by omega)]
  · rw [pu_sAn (by omega), pu_sAn (by omega), pu_sAe (by omega), if_neg hr]
  · rw [pu_sAe (by omega), if_neg hr, pu_sAn (by omega), pu_sAn (by omega)]
  · rw [pu_sAn (by omega), pu_sAe (by omega), if_neg hr, pu_sAn (by omega)]
  · rw [pu_sAn (by omega), pu_sAn (by omega), pu_sAe (by omega), if_pos rfl]
  · rw [pu_sAe (by omega), if_pos rfl]
  · rw [pu_sAn (by omega), pu_sAe (by omega), if_pos rfl]
theorem x4_bestWith (hw : WF V) {p s t : Nat} (hp : p < V 1) (hs : s < 128) (ht : t < V 0) (h0 : ∀ s, s < 128 → Q.2.2.1 0 (128 * (p + 1) + s) = nI (tb V (V 1 - (p + 1)) s)) (h2 : Q.2.2.1 2 p = nI (bA (fun t => plz V p (beh V t (V (59 + p)))) (V 0))) : F_X4_bestWith Q (nI p) (nI s) (nI t) = some (nI (pT V p t + tb V (V 1 - (p + 1)) (s ||| 2 ^ t))) := by
  have w0 := hw.1
  have w1 := hw.2.1
  have ho := orp_lt hs (by omega : t < 7)
  have g0 := h0 _ ho
  have hb := bA_b1 (fun t => plz V p (beh V t (V (59 + p)))) (V 0) t ht
  have hl : bA (fun t => plz V p (beh V t (V (59 + p)))) (V 0) < 128 := Nat.lt_of_lt_of_le (bA_lt _ _) (pow_le7 w0)
  have hc : (p + 1) * 128 = 128 * (p + 1) := Nat.mul_comm _ _
  have hp' : pT V p t = if plz V p (beh V t (V (59 + p))) = true then 1 else 0 := rfl
  rw [hp', ← hb]
  unfold F_X4_bestWith
  simp (disch := omega) only [↓pu_m1, pu_lit, ↓reduceIte, pu_leT, pu_leF, pu_ltT, pu_ltF, pu_eqT, pu_eqF, pu_eqO, pu_eqO2, pu_ltO, pu_leO, pu_subO, pu_subOF, pu_subT, pu_subF, pu_oobF, pu_clamp, pu_add, pu_sub, pu_mul, pu_and, pu_or, pu_xor, pu_xorO, pu_shl, pu_shr, pu_ushr, pu_nb0, pu_nb1, pu_ob1N, pu_ob2N, pu_ob3N, pu_ob4N, pu_nwN, pu_n1, pu_n7, pu_n31, pu_n255, pu_md, pu_one, pu_sI1, pu_sI2, pu_sA1, pu_sA21, pu_sA222, pu_sAe, pu_sAn, pu_sJ1, pu_sJ21, pu_sJ221, pu_sF1, pu_sF21, pu_sF222, pu_sFe, pu_sFn, pu_upe, pu_upn, Nat.reduceAdd, Nat.reduceSub, Nat.reduceMul, Nat.reduceMod, Nat.reduceAnd, Nat.reducePow, Nat.reduceEqDiff, Nat.add_zero, Nat.zero_add, Bool.false_eq_true, Nat.add_sub_cancel, h2, hc, g0]
theorem x4_bestOf (hw : WF V) {p s : Nat} (hp : p < V 1) (hs : s < 128) (h0 : ∀ s, s < 128 → Q.2.2.1 0 (128 * (p + 1) + s) = nI (tb V (V 1 - (p + 1)) s)) (h1 : Q.2.2.1 1 p = nI (canV V p)) (h2 : Q.2.2.1 2 p = nI (bA (fun t => plz V p (beh V t (V (59 + p)))) (V 0))) (h3 : Q.2.2.1 3 p = nI (pN V p)) : F_X4_bestOf Q (nI p) (nI s) = some (nI (tb V (V 1 - p) s)) := by
  have w0 := hw.1
  have w1 := hw.2.1
  have g0 := h0 s hs
  have hc : (p + 1) * 128 = 128 * (p + 1) := Nat.mul_comm _ _
  have hfl := fre_lt hw p s
  have hfe : canV V p &&& (s ^^^ 4294967295) = fre V p s := rfl
  have hbl : ∀ t, boA V (tb V (V 1 - (p + 1))) p s t ≤ V 1 - (p + 1) + 1 := boA_le (tb_le V _) p s
  have he : tb V (V 1 - p) s = boA V (tb V (V 1 - (p + 1))) p s 7 := by
    have e1 : V 1 - p = (V 1 - (p + 1)) + 1 := by omega
    have e2 : V 1 - 1 - (V 1 - (p + 1)) = p := by omega
    rw [e1]
    show boA V (tb V (V 1 - (p + 1))) (V 1 - 1 - (V 1 - (p + 1))) s 7 = _
    rw [e2]
  rw [he]
  have hb0 : boA V (tb V (V 1 - (p + 1))) p s 0 = pN V p + tb V (V 1 - (p + 1)) s := rfl
  have key : L_X4_bestOf_37 (nI p) (nI s) (nI (boA V (tb V (V 1 - (p + 1))) p s 0)) (nI (fre V p s)) 0 Q = some (nI (boA V (tb V (V 1 - (p + 1))) p s 7)) := by
    unfold L_X4_bestOf_37
    refine lp_up (fun i => (nI p, nI s, nI (boA V (tb V (V 1 - (p + 1))) p s i), nI (fre V p s), nI i, Q)) 7 (fun i hi k => ?_) (fun k => ?_) (pu_FU (by omega))
    · show F_X4_bestOf_37 k (nI p) (nI s) (nI (boA V (tb V (V 1 - (p + 1))) p s i)) (nI (fre V p s)) (nI i) Q = _
      unfold F_X4_bestOf_37 F_X4_bestOf_68
      simp only [boA]
      rcases Nat.mod_two_eq_zero_or_one (fre V p s / 2 ^ i) with h | h
      · simp (disch := omega) only [↓pu_m1, pu_lit, ↓reduceIte, pu_leT, pu_leF, pu_ltT, pu_ltF, pu_eqT, pu_eqF, pu_eqO, pu_eqO2, pu_ltO, pu_leO, pu_subO, pu_subOF, pu_subT, pu_subF, pu_oobF, pu_clamp, pu_add, pu_sub, pu_mul, pu_and, pu_or, pu_xor, pu_xorO, pu_shl, pu_shr, pu_ushr, pu_nb0, pu_nb1, pu_ob1N, pu_ob2N, pu_ob3N, pu_ob4N, pu_nwN, pu_n1, pu_n7, pu_n31, pu_n255, pu_md, pu_one, pu_sI1, pu_sI2, pu_sA1, pu_sA21, pu_sA222, pu_sAe, pu_sAn, pu_sJ1, pu_sJ21, pu_sJ221, pu_sF1, pu_sF21, pu_sF222, pu_sFe, pu_sFn, pu_upe, pu_upn, Nat.reduceAdd, Nat.reduceSub, Nat.reduceMul, Nat.reduceMod, Nat.reduceAnd, Nat.reducePow, Nat.reduceEqDiff, Nat.add_zero, Nat.zero_add, Bool.false_eq_true, Nat.add_sub_cancel, h]
      · have hi0 : i < V 0 := Nat.lt_of_not_le (fun hle => by have := fre_0 (V := V) p s hle; omega)
        have hbw := x4_bestWith hw hp hs hi0 h0 h2
        have ha := hbl i
        have hb1 := pT_le V p i
        have hb2 := tb_le V (V 1 - (p + 1)) (s ||| 2 ^ i)
        have hm := max_if (boA V (tb V (V 1 - (p + 1))) p s i) (pT V p i + tb V (V 1 - (p + 1)) (s ||| 2 ^ i)) (by omega) (by omega)
        simp (disch := omega) only [↓pu_m1, pu_lit, ↓reduceIte, pu_leT, pu_leF, pu_ltT, pu_ltF, pu_eqT, pu_eqF, pu_eqO, pu_eqO2, pu_ltO, pu_leO, pu_subO, pu_subOF, pu_subT, pu_subF, pu_oobF, pu_clamp, pu_add, pu_sub, pu_mul, pu_and, pu_or, pu_xor, pu_xorO, pu_shl, pu_shr, pu_ushr, pu_nb0, pu_nb1, pu_ob1N, pu_ob2N, pu_ob3N, pu_ob4N, pu_nwN, pu_n1, pu_n7, pu_n31, pu_n255, pu_md, pu_one, pu_sI1, pu_sI2, pu_sA1, pu_sA21, pu_sA222, pu_sAe, pu_sAn, pu_sJ1, pu_sJ21, pu_sJ221, pu_sF1, pu_sF21, pu_sF222, pu_sFe, pu_sFn, pu_upe, pu_upn, Nat.reduceAdd, Nat.reduceSub, Nat.reduceMul, Nat.reduceMod, Nat.reduceAnd, Nat.reducePow, Nat.reduceEqDiff, Nat.add_zero, Nat.zero_add, Bool.false_eq_true, Nat.add_sub_cancel, h, hbw]
        rw [hm]
    · show F_X4_bestOf_37 k (nI p) (nI s) (nI (boA V (tb V (V 1 - (p + 1))) p s 7)) (nI (fre V p s)) (nI 7) Q = _
      unfold F_X4_bestOf_37
      rw [if_pos (by decide)]
  unfold F_X4_bestOf
  rw [hb0] at key
  simp (disch := omega) only [↓pu_m1, pu_lit, ↓reduceIte, pu_leT, pu_leF, pu_ltT, pu_ltF, pu_eqT, pu_eqF, pu_eqO, pu_eqO2, pu_ltO, pu_leO, pu_subO, pu_subOF, pu_subT, pu_subF, pu_oobF, pu_clamp, pu_add, pu_sub, pu_mul, pu_and, pu_or, pu_xor, pu_xorO, pu_shl, pu_shr, pu_ushr, pu_nb0, pu_nb1, pu_ob1N, pu_ob2N, pu_ob3N, pu_ob4N, pu_nwN, pu_n1, pu_n7, pu_n31, pu_n255, pu_md, pu_one, pu_sI1, pu_sI2, pu_sA1, pu_sA21, pu_sA222, pu_sAe, pu_sAn, pu_sJ1, pu_sJ21, pu_sJ221, pu_sF1, pu_sF21, pu_sF222, pu_sFe, pu_sFn, pu_upe, pu_upn, Nat.reduceAdd, Nat.reduceSub, Nat.reduceMul, Nat.reduceMod, Nat.reduceAnd, Nat.reducePow, Nat.reduceEqDiff, Nat.add_zero, Nat.zero_add, Bool.false_eq_true, Nat.add_sub_cancel, h3, hc, g0, h1, hfe]
  exact key
def chP (V : Vt) (q s t : Nat) : Bool := fre V q s / 2 ^ t % 2 == 1 && (pT V q t + tb V (V 1 - (q + 1)) (s ||| 2 ^ t) == tb V (V 1 - q) s)
theorem chP_0 {V : Vt} (q s t : Nat) (h : V 0 ≤ t) : chP V q s t = false := by
  unfold chP
  rw [fre_0 q s h]
  rfl
theorem x4_firstBest (hw : WF V) (hQ : PQ Q V 0) {p s : Nat} (hp : p < V 1) (hs : s < 128) : F_X4_firstBest Q (nI p) (nI s) = some (wI (V 0) (fs (chP V p s) (V 0) 0)) := by
  have w0 := hw.1
  have w1 := hw.2.1
  obtain ⟨q0, q1⟩ := hQ
  obtain ⟨h1, h2, h3⟩ := q1 p (by omega) hp
  have g0 := q0 p s (by omega) (by omega) hs
  have hc : p * 128 = 128 * p := Nat.mul_comm _ _
  have hfl := fre_lt hw p s
  have hfe : canV V p &&& (s ^^^ 4294967295) = fre V p s := rfl
  have htl := tb_le V (V 1 - p) s
  have e7 : V 0 + (7 - V 0) = 7 := by omega
  rw [← fs_ext (chP V p s) (chP_0 p s) (7 - V 0), e7]
  have key : L_X4_firstBest_28 (nI p) (nI s) (nI (fre V p s)) (nI (tb V (V 1 - p) s)) 0 Q = some (wI 7 (fs (chP V p s) 7 0)) := by
    unfold L_X4_firstBest_28
    refine lp_fs (chP V p s) (fun i => (nI p, nI s, nI (fre V p s), nI (tb V (V 1 - p) s), nI i, Q)) 7 (fun r => r) (fun i hi hP k => ?_) (fun i hi hP k => ?_) (fun k => ?_) (pu_FU (by omega))
    · show F_X4_firstBest_28 k (nI p) (nI s) (nI (fre V p s)) (nI (tb V (V 1 - p) s)) (nI i) Q = _
      unfold F_X4_firstBest_28
      unfold chP at hP
      simp only [Bool.and_eq_true, beq_iff_eq] at hP
      have hi0 : i < V 0 := Nat.lt_of_not_le (fun hle => by have := fre_0 (V := V) p s hle; omega)
      have hbw := x4_bestWith hw hp hs hi0 (fun s hs => q0 (p + 1) s (by omega) (by omega) hs) h2
      rw [hP.2] at hbw
      have h := hP.1
      simp (disch := omega) only [↓pu_m1, pu_lit, ↓reduceIte, pu_leT, pu_leF, pu_ltT, pu_ltF, pu_eqT, pu_eqF, pu_eqO, pu_eqO2, pu_ltO, pu_leO, pu_subO, pu_subOF, pu_subT, pu_subF, pu_oobF, pu_clamp, pu_add, pu_sub, pu_mul, pu_and, pu_or, pu_xor, pu_xorO, pu_shl, pu_shr, pu_ushr, pu_nb0, pu_nb1, pu_ob1N, pu_ob2N, pu_ob3N, pu_ob4N, pu_nwN, pu_n1, pu_n7, pu_n31, pu_n255, pu_md, pu_one, pu_sI1, pu_sI2, pu_sA1, pu_sA21, pu_sA222, pu_sAe, pu_sAn, pu_sJ1, pu_sJ21, pu_sJ221, pu_sF1, pu_sF21, pu_sF222, pu_sFe, pu_sFn, pu_upe, pu_upn, Nat.reduceAdd, Nat.reduceSub, Nat.reduceMul, Nat.reduceMod, Nat.reduceAnd, Nat.reducePow, Nat.reduceEqDiff, Nat.add_zero, Nat.zero_add, Bool.false_eq_true, Nat.add_sub_cancel, h, hbw]
    · show F_X4_firstBest_28 k (nI p) (nI s) (nI (fre V p s)) (nI (tb V (V 1 - p) s)) (nI i) Q = _
      unfold F_X4_firstBest_28 F_X4_firstBest_61
      rcases Nat.mod_two_eq_zero_or_one (fre V p s / 2 ^ i) with h | h
      · simp (disch := omega) only [↓pu_m1, pu_lit, ↓reduceIte, pu_leT, pu_leF, pu_ltT, pu_ltF, pu_eqT, pu_eqF, pu_eqO, pu_eqO2, pu_ltO, pu_leO, pu_subO, pu_subOF, pu_subT, pu_subF, pu_oobF, pu_clamp, pu_add, pu_sub, pu_mul, pu_and, pu_or, pu_xor, pu_xorO, pu_shl, pu_shr, pu_ushr, pu_nb0, pu_nb1, pu_ob1N, pu_ob2N, pu_ob3N, pu_ob4N, pu_nwN, pu_n1, pu_n7, pu_n31, pu_n255, pu_md, pu_one, pu_sI1, pu_sI2, pu_sA1, pu_sA21, pu_sA222, pu_sAe, pu_sAn, pu_sJ1, pu_sJ21, pu_sJ221, pu_sF1, pu_sF21, pu_sF222, pu_sFe, pu_sFn, pu_upe, pu_upn, Nat.reduceAdd, Nat.reduceSub, Nat.reduceMul, Nat.reduceMod, Nat.reduceAnd, Nat.reducePow, Nat.reduceEqDiff, Nat.add_zero, Nat.zero_add, Bool.false_eq_true, Nat.add_sub_cancel, h]
      · have hi0 : i < V 0 := Nat.lt_of_not_le (fun hle => by have := fre_0 (V := V) p s hle; omega)
        have hbw := x4_bestWith hw hp hs hi0 (fun s hs => q0 (p + 1) s (by omega) (by omega) hs) h2
        have hb1 := pT_le V p i
        have hb2 := tb_le V (V 1 - (p + 1)) (s ||| 2 ^ i)
        have hne : pT V p i + tb V (V 1 - (p + 1)) (s ||| 2 ^ i) ≠ tb V (V 1 - p) s := by
          intro e
          unfold chP at hP
          rw [h, e] at hP
          simp at hP
        simp (disch := omega) only [↓pu_m1, pu_lit, ↓reduceIte, pu_leT, pu_leF, pu_ltT, pu_ltF, pu_eqT, pu_eqF, pu_eqO, pu_eqO2, pu_ltO, pu_leO, pu_subO, pu_subOF, pu_subT, pu_subF, pu_oobF, pu_clamp, pu_add, pu_sub, pu_mul, pu_and, pu_or, pu_xor, pu_xorO, pu_shl, pu_shr, pu_ushr, pu_nb0, pu_nb1, pu_ob1N, pu_ob2N, pu_ob3N, pu_ob4N, pu_nwN, pu_n1, pu_n7, pu_n31, pu_n255, pu_md, pu_one, pu_sI1, pu_sI2, pu_sA1, pu_sA21, pu_sA222, pu_sAe, pu_sAn, pu_sJ1, pu_sJ21, pu_sJ221, pu_sF1, pu_sF21, pu_sF222, pu_sFe, pu_sFn, pu_upe, pu_upn, Nat.reduceAdd, Nat.reduceSub, Nat.reduceMul, Nat.reduceMod, Nat.reduceAnd, Nat.reducePow, Nat.reduceEqDiff, Nat.add_zero, Nat.zero_add, Bool.false_eq_true, Nat.add_sub_cancel, h, hbw]
    · show F_X4_firstBest_28 k (nI p) (nI s) (nI (fre V p s)) (nI (tb V (V 1 - p) s)) (nI 7) Q = _
      unfold F_X4_firstBest_28
      rw [if_pos (by decide)]
      rfl
  unfold F_X4_firstBest
  simp (disch := omega) only [↓pu_m1, pu_lit, ↓reduceIte, pu_leT, pu_leF, pu_ltT, pu_ltF, pu_eqT, pu_eqF, pu_eqO, pu_eqO2, pu_ltO, pu_leO, pu_subO, pu_subOF, pu_subT, pu_subF, pu_oobF, pu_clamp, pu_add, pu_sub, pu_mul, pu_and, pu_or, pu_xor, pu_xorO, pu_shl, pu_shr, pu_ushr, pu_nb0, pu_nb1, pu_ob1N, pu_ob2N, pu_ob3N, pu_ob4N, pu_nwN, pu_n1, pu_n7, pu_n31, pu_n255, pu_md, pu_one, pu_sI1, pu_sI2, pu_sA1, pu_sA21, pu_sA222, pu_sAe, pu_sAn, pu_sJ1, pu_sJ21, pu_sJ221, pu_sF1, pu_sF21, pu_sF222, pu_sFe, pu_sFn, pu_upe, pu_upn, Nat.reduceAdd, Nat.reduceSub, Nat.reduceMul, Nat.reduceMod, Nat.reduceAnd, Nat.reducePow, Nat.reduceEqDiff, Nat.add_zero, Nat.zero_add, Bool.false_eq_true, Nat.add_sub_cancel, h1, hfe, hc, g0]
  exact key
theorem dn_tab : ∀ k, k < 7 → nI k + (-1) = nI k - nI 1 := by decide
/-- a row of the class's table -/
theorem x4_row (hw : WF V) {p : Nat} (hp : p < V 1) (hQ : (∀ r s, p + 1 ≤ r → r ≤ V 1 → s < 128 → Q.2.2.1 0 (128 * r + s) = nI (tb V (V 1 - r) s))) (h1 : Q.2.2.1 1 p = nI (canV V p)) (h2 : Q.2.2.1 2 p = nI (bA (fun t => plz V p (beh V t (V (59 + p)))) (V 0))) (h3 : Q.2.2.1 3 p = nI (pN V p)) (x : Int32) : ∃ Q', (∀ r s, p ≤ r → r ≤ V 1 → s < 128 → Q'.2.2.1 0 (128 * r + s) = nI (tb V (V 1 - r) s)) ∧ (∀ k, k ≠ 0 → Q'.2.2.1 k = Q.2.2.1 k) ∧ ∀ K, L_X4_plan_38 K x (nI p) 0 Q B = K (x, nI p + (-1), Q', B) := by
  have w1 := hw.2.1
  have key := lp_invK (body := fun K kz z => F_X4_plan_38 K kz z.1 z.2.1 z.2.2.1 z.2.2.2.1 z.2.2.2.2) (fun i z => ∃ Q', z = (x, nI p, nI i, Q', B) ∧ (∀ r s, p ≤ r → r ≤ V 1 → s < 128 → (p < r ∨ s < i) → Q'.2.2.1 0 (128 * r + s) = nI (tb V (V 1 - r) s)) ∧ (∀ k, k ≠ 0 → Q'.2.2.1 k = Q.2.2.1 k)) 128 (fun o => ∃ Q', o = (x, nI p + (-1), Q', B) ∧ (∀ r s, p ≤ r → r ≤ V 1 → s < 128 → Q'.2.2.1 0 (128 * r + s) = nI (tb V (V 1 - r) s)) ∧ (∀ k, k ≠ 0 → Q'.2.2.1 k = Q.2.2.1 k)) (fun i hi z hz => ?_) (fun z hz => ?_) (x0 := (x, nI p, nI 0, Q, B)) ⟨Q, rfl, fun r s a b c d => hQ r s (by omega) b c, fun _ _ => rfl⟩ (pu_FU (by omega : 128 < 1000000))
  · obtain ⟨o, ⟨Q', rfl, h4, h5⟩, h6⟩ := key
    exact ⟨Q', h4, h5, h6⟩
  · obtain ⟨Q', rfl, a1, a2⟩ := hz
    have hb := x4_bestOf (Q := Q') hw hp hi (fun s hs => a1 (p + 1) s (by omega) (by omega) hs (by omega)) (by rw [a2 1 (by omega)]; exact h1) (by rw [a2 2 (by omega)]; exact h2) (by rw [a2 3 (by omega)]; exact h3)
    have hc : p * 128 = 128 * p := Nat.mul_comm _ _
    refine ⟨(x, nI p, nI (i + 1), sA Q' 0 (nI (128 * p + i)) (nI (tb V (V 1 - p) i)), B), ⟨_, rfl, fun r s b1 b2 b3 b4 => ?_, fun k hk => ?_⟩, fun K k => ?_⟩
    · rw [pu_sAe (by omega)]
      by_cases e : 128 * r + s = 128 * p + i
      · have e1 : r = p := by omega
        have e2 : s = i := by omega
        subst e1 e2
        rw [if_pos rfl]
      · rw [if_neg e]
        exact a1 r s b1 b2 b3 (by omega)
    · rw [pu_sAn hk]; exact a2 k hk
    · show F_X4_plan_38 K k x (nI p) (nI i) Q' B = _
      unfold F_X4_plan_38
      simp (disch := omega) only [↓pu_m1, pu_lit, ↓reduceIte, pu_leT, pu_leF, pu_ltT, pu_ltF, pu_eqT, pu_eqF, pu_eqO, pu_eqO2, pu_ltO, pu_leO, pu_subO, pu_subOF, pu_subT, pu_subF, pu_oobF, pu_clamp, pu_add, pu_sub, pu_mul, pu_and, pu_or, pu_xor, pu_xorO, pu_shl, pu_shr, pu_ushr, pu_nb0, pu_nb1, pu_ob1N, pu_ob2N, pu_ob3N, pu_ob4N, pu_nwN, pu_n1, pu_n7, pu_n31, pu_n255, pu_md, pu_one, pu_sI1, pu_sI2, pu_sA1, pu_sA21, pu_sA222, pu_sAe, pu_sAn, pu_sJ1, pu_sJ21, pu_sJ221, pu_sF1, pu_sF21, pu_sF222, pu_sFe, pu_sFn, pu_upe, pu_upn, Nat.reduceAdd, Nat.reduceSub, Nat.reduceMul, Nat.reduceMod, Nat.reduceAnd, Nat.reducePow, Nat.reduceEqDiff, Nat.add_zero, Nat.zero_add, Bool.false_eq_true, Nat.add_sub_cancel, hb, hc]
  · obtain ⟨Q', rfl, a1, a2⟩ := hz
    refine ⟨_, ⟨Q', rfl, fun r s b1 b2 b3 => a1 r s b1 b2 b3 (by omega), a2⟩, fun K k => ?_⟩
    show F_X4_plan_38 K k x (nI p) (nI 128) Q' B = _
    unfold F_X4_plan_38
    rw [if_pos (by decide)]
theorem x4_table (hS : RS B V) (hw : WF V) : ∃ Q', F_X4_plan Q B = L_X4_plan_83 (nI (V 1)) 0 0 Q' B ∧ PQ Q' V 0 ∧ Q'.2.2.1 4 = fun _ => nO := by
  have w1 := hw.2.1
  have e7 := hS.2.1
  have key := lp_invG (body := fun kz z => F_X4_plan_25 kz z.1 z.2.1 z.2.2.1 z.2.2.2) (fun i z => ∃ Q', z = (nI (V 1), nI (V 1 - i) - nI 1, Q', B) ∧ PQ Q' V (V 1 - i) ∧ Q'.2.2.1 4 = fun _ => nO) (V 1) (fun z => L_X4_plan_83 z.1 0 0 z.2.2.1 z.2.2.2) (fun i hi z hz => ?_) (fun z hz k => ?_) (x0 := (nI (V 1), nI (V 1 - 0) - nI 1, sF (sF Q 4 (fun _ => nO)) 0 (fun _ => nI 0), B)) ⟨_, rfl, ⟨fun r s a b c => ?_, fun r a b => by omega⟩, ?_⟩ (pu_FU (by omega : V 1 < 1000000))
  · obtain ⟨y, ⟨Q', rfl, h1, h2⟩, h3⟩ := key
    rw [Nat.sub_self] at h1
    refine ⟨Q', ?_, h1, h2⟩
    unfold F_X4_plan L_X4_plan_25
    rw [e7]
    exact h3
  · obtain ⟨Q', rfl, a1, a2⟩ := hz
    obtain ⟨p, hp⟩ : ∃ p, V 1 - i = p + 1 := ⟨V 1 - i - 1, by omega⟩
    have hp1 : V 1 - (i + 1) = p := by omega
    have hpv : p < V 1 := by omega
    rw [hp] at a1 ⊢
    rw [hp1]
    obtain ⟨Q1, b1, b2, b3, b4, b5, b6, b7⟩ := x4_weigh (Q := Q') hS hw hpv
    obtain ⟨Q2, c1, c2, c3⟩ := x4_row (Q := Q1) (B := B) hw hpv (fun r s d1 d2 d3 => by rw [b2]; exact a1.1 r s d1 d2 d3) b5 b6 b7 (nI (V 1))
    refine ⟨(nI (V 1), nI p - nI 1, Q2, B), ⟨Q2, rfl, ⟨c1, fun r d1 d2 => ?_⟩, ?_⟩, fun k => ?_⟩
    · rw [c2 1 (by omega), c2 2 (by omega), c2 3 (by omega)]
      by_cases e : r = p
      · subst e
        exact ⟨b5, b6, b7⟩
      · obtain ⟨d3, d4, d5⟩ := b4 r e
        rw [d3, d4, d5]
        exact a1.2 r (by omega) d2
    · rw [c2 4 (by omega), b3]; exact a2
    · show F_X4_plan_25 k (nI (V 1)) (nI (p + 1) - nI 1) Q' B = _
      unfold F_X4_plan_25
      rw [pu_sub (by omega), Nat.add_sub_cancel, if_neg (nI_pos (by omega)), b1, pu_ob1, c3 k, dn_tab p (by omega)]
  · obtain ⟨Q', rfl, a1, a2⟩ := hz
    show F_X4_plan_25 k (nI (V 1)) (nI (V 1 - V 1) - nI 1) Q' B = _
    unfold F_X4_plan_25
    rw [Nat.sub_self, if_pos (by decide)]
  · have e1 : r = V 1 := by omega
    subst e1
    rw [pu_sFe, Nat.sub_self]
    rfl
  · rw [pu_sFn (by omega), pu_sFe]
/-! the reference's -/
theorem x12_mostBy (hM : RM M V) (hw : WF V) {p s t : Nat} (hp : p < V 1) (hs : s < 128) (ht : t < V 0) (h0 : ∀ s, s < 128 → M.2.2.1 30 (128 * (p + 1) + s) = nI (tb V (V 1 - (p + 1)) s)) : F_X12_mostBy M (nI p) (nI s) (nI t) = some (nI (pT V p t + tb V (V 1 - (p + 1)) (s ||| 2 ^ t))) := by
  have w0 := hw.1
  have w1 := hw.2.1
  have h59 := hw.2.2.2.2.2.2.2.2.1 p hp
  have ho := orp_lt hs (by omega : t < 7)
  have g0 := h0 _ ho
  have g59 := hM (59 + p) (by omega)
  have hb := x12_behind hM hw ht h59
  have hz := x12_plz hM hw hp (beh_lt V t h59)
  unfold F_X12_mostBy F_X12_mostBy_30 F_X12_mostBy_47 pT
  by_cases h : plz V p (beh V t (V (59 + p))) = true
  · rw [if_pos h] at hz ⊢
    simp (disch := omega) only [↓pu_m1, pu_lit, ↓reduceIte, pu_leT, pu_leF, pu_ltT, pu_ltF, pu_eqT, pu_eqF, pu_eqO, pu_eqO2, pu_ltO, pu_leO, pu_subO, pu_subOF, pu_subT, pu_subF, pu_oobF, pu_clamp, pu_add, pu_sub, pu_mul, pu_and, pu_or, pu_xor, pu_xorO, pu_shl, pu_shr, pu_ushr, pu_nb0, pu_nb1, pu_ob1N, pu_ob2N, pu_ob3N, pu_ob4N, pu_nwN, pu_n1, pu_n7, pu_n31, pu_n255, pu_md, pu_one, pu_sI1, pu_sI2, pu_sA1, pu_sA21, pu_sA222, pu_sAe, pu_sAn, pu_sJ1, pu_sJ21, pu_sJ221, pu_sF1, pu_sF21, pu_sF222, pu_sFe, pu_sFn, pu_upe, pu_upn, Nat.reduceAdd, Nat.reduceSub, Nat.reduceMul, Nat.reduceMod, Nat.reduceAnd, Nat.reducePow, Nat.reduceEqDiff, Nat.add_zero, Nat.zero_add, Bool.false_eq_true, Nat.add_sub_cancel, g59, hb, hz, g0]
  · rw [if_neg h] at hz ⊢
    simp (disch := omega) only [↓pu_m1, pu_lit, ↓reduceIte, pu_leT, pu_leF, pu_ltT, pu_ltF, pu_eqT, pu_eqF, pu_eqO, pu_eqO2, pu_ltO, pu_leO, pu_subO, pu_subOF, pu_subT, pu_subF, pu_oobF, pu_clamp, pu_add, pu_sub, pu_mul, pu_and, pu_or, pu_xor, pu_xorO, pu_shl, pu_shr, pu_ushr, pu_nb0, pu_nb1, pu_ob1N, pu_ob2N, pu_ob3N, pu_ob4N, pu_nwN, pu_n1, pu_n7, pu_n31, pu_n255, pu_md, pu_one, pu_sI1, pu_sI2, pu_sA1, pu_sA21, pu_sA222, pu_sAe, pu_sAn, pu_sJ1, pu_sJ21, pu_sJ221, pu_sF1, pu_sF21, pu_sF222, pu_sFe, pu_sFn, pu_upe, pu_upn, Nat.reduceAdd, Nat.reduceSub, Nat.reduceMul, Nat.reduceMod, Nat.reduceAnd, Nat.reducePow, Nat.reduceEqDiff, Nat.add_zero, Nat.zero_add, Bool.false_eq_true, Nat.add_sub_cancel, g59, hb, hz, g0]
theorem x12_mostByN (hM : RM M V) (hw : WF V) {p s : Nat} (hp : p < V 1) (hs : s < 128) (h0 : ∀ s, s < 128 → M.2.2.1 30 (128 * (p + 1) + s) = nI (tb V (V 1 - (p + 1)) s)) : F_X12_mostBy M (nI p) (nI s) nO = some (nI (pN V p + tb V (V 1 - (p + 1)) s)) := by
  have w1 := hw.2.1
  have h59 := hw.2.2.2.2.2.2.2.2.1 p hp
  have g0 := h0 _ hs
  have g59 := hM (59 + p) (by omega)
  have hz := x12_plz hM hw hp h59
  have hn : ¬ nI 0 ≤ nO := by decide
  unfold F_X12_mostBy F_X12_mostBy_30 F_X12_mostBy_47 pN
  by_cases h : plz V p (V (59 + p)) = true
  · rw [if_pos h] at hz ⊢
    simp (disch := omega) only [↓pu_m1, pu_lit, ↓reduceIte, pu_leT, pu_leF, pu_ltT, pu_ltF, pu_eqT, pu_eqF, pu_eqO, pu_eqO2, pu_ltO, pu_leO, pu_subO, pu_subOF, pu_subT, pu_subF, pu_oobF, pu_clamp, pu_add, pu_sub, pu_mul, pu_and, pu_or, pu_xor, pu_xorO, pu_shl, pu_shr, pu_ushr, pu_nb0, pu_nb1, pu_ob1N, pu_ob2N, pu_ob3N, pu_ob4N, pu_nwN, pu_n1, pu_n7, pu_n31, pu_n255, pu_md, pu_one, pu_sI1, pu_sI2, pu_sA1, pu_sA21, pu_sA222, pu_sAe, pu_sAn, pu_sJ1, pu_sJ21, pu_sJ221, pu_sF1, pu_sF21, pu_sF222, pu_sFe, pu_sFn, pu_upe, pu_upn, Nat.reduceAdd, Nat.reduceSub, Nat.reduceMul, Nat.reduceMod, Nat.reduceAnd, Nat.reducePow, Nat.reduceEqDiff, Nat.add_zero, Nat.zero_add, Bool.false_eq_true, Nat.add_sub_cancel, g59, hn, hz, g0]
  · rw [if_neg h] at hz ⊢
    simp (disch := omega) only [↓pu_m1, pu_lit, ↓reduceIte, pu_leT, pu_leF, pu_ltT, pu_ltF, pu_eqT, pu_eqF, pu_eqO, pu_eqO2, pu_ltO, pu_leO, pu_subO, pu_subOF, pu_subT, pu_subF, pu_oobF, pu_clamp, pu_add, pu_sub, pu_mul, pu_and, pu_or, pu_xor, pu_xorO, pu_shl, pu_shr, pu_ushr, pu_nb0, pu_nb1, pu_ob1N, pu_ob2N, pu_ob3N, pu_ob4N, pu_nwN, pu_n1, pu_n7, pu_n31, pu_n255, pu_md, pu_one, pu_sI1, pu_sI2, pu_sA1, pu_sA21, pu_sA222, pu_sAe, pu_sAn, pu_sJ1, pu_sJ21, pu_sJ221, pu_sF1, pu_sF21, pu_sF222, pu_sFe, pu_sFn, pu_upe, pu_upn, Nat.reduceAdd, Nat.reduceSub, Nat.reduceMul, Nat.reduceMod, Nat.reduceAnd, Nat.reducePow, Nat.reduceEqDiff, Nat.add_zero, Nat.zero_add, Bool.false_eq_true, Nat.add_sub_cancel, g59, hn, hz, g0]
theorem x12_pin (hM : RM M V) (hw : WF V) {p s : Nat} (hp : p < V 1) (hs : s < 128) (h0 : ∀ s, s < 128 → M.2.2.1 30 (128 * (p + 1) + s) = nI (tb V (V 1 - (p + 1)) s)) (x : Int32) (K44 : Int32 × Int32 × St → Option (Int32 × St)) (K : Int32 × Int32 × Int32 × Int32 × St → Option (Int32 × St)) : L_X12_party_78 K44 K x (nI p) (nI (canV V p)) (nI s) (nI (pN V p + tb V (V 1 - (p + 1)) s)) 0 M = K (x, nI p, nI (canV V p), nI (s + 1), sA M 30 (nI (128 * p + s)) (nI (tb V (V 1 - p) s))) := by
  have w0 := hw.1
  have w1 := hw.2.1
  have g0 := hM 0 (by omega)
  have hfl := fre_lt hw p s
  have hfe : canV V p &&& (s ^^^ 4294967295) = fre V p s := rfl
  have hbl : ∀ t, boA V (tb V (V 1 - (p + 1))) p s t ≤ V 1 - (p + 1) + 1 := boA_le (tb_le V _) p s
  have he : tb V (V 1 - p) s = boA V (tb V (V 1 - (p + 1))) p s (V 0) := by
    have e1 : V 1 - p = (V 1 - (p + 1)) + 1 := by omega
    have e2 : V 1 - 1 - (V 1 - (p + 1)) = p := by omega
    rw [e1]
    show boA V (tb V (V 1 - (p + 1))) (V 1 - 1 - (V 1 - (p + 1))) s 7 = _
    rw [e2, ← boA_ext p s (7 - V 0), show V 0 + (7 - V 0) = 7 from by omega]
  unfold L_X12_party_78
  refine lp_upO (fun i => (x, nI p, nI (canV V p), nI s, nI (boA V (tb V (V 1 - (p + 1))) p s i), nI i, M)) (V 0) (fun i hi k => ?_) (fun k => ?_) (pu_FU (by omega))
  · show F_X12_party_78 K44 K k x (nI p) (nI (canV V p)) (nI s) (nI (boA V (tb V (V 1 - (p + 1))) p s i)) (nI i) M = _
    have hb := x12_bit (x := fre V p s) (v := i) (by omega) (by omega)
    unfold F_X12_party_78 F_X12_party_119
    simp only [boA]
    rcases Nat.mod_two_eq_zero_or_one (fre V p s / 2 ^ i) with h | h
    · rw [h] at hb
      simp (disch := omega) only [↓pu_m1, pu_lit, ↓reduceIte, pu_leT, pu_leF, pu_ltT, pu_ltF, pu_eqT, pu_eqF, pu_eqO, pu_eqO2, pu_ltO, pu_leO, pu_subO, pu_subOF, pu_subT, pu_subF, pu_oobF, pu_clamp, pu_add, pu_sub, pu_mul, pu_and, pu_or, pu_xor, pu_xorO, pu_shl, pu_shr, pu_ushr, pu_nb0, pu_nb1, pu_ob1N, pu_ob2N, pu_ob3N, pu_ob4N, pu_nwN, pu_n1, pu_n7, pu_n31, pu_n255, pu_md, pu_one, pu_sI1, pu_sI2, pu_sA1, pu_sA21, pu_sA222, pu_sAe, pu_sAn, pu_sJ1, pu_sJ21, pu_sJ221, pu_sF1, pu_sF21, pu_sF222, pu_sFe, pu_sFn, pu_upe, pu_upn, Nat.reduceAdd, Nat.reduceSub, Nat.reduceMul, Nat.reduceMod, Nat.reduceAnd, Nat.reducePow, Nat.reduceEqDiff, Nat.add_zero, Nat.zero_add, Bool.false_eq_true, Nat.add_sub_cancel, g0, hfe, hb, h]
    · rw [h] at hb
      have hbw := x12_mostBy hM hw hp hs hi h0
      have ha := hbl i
      have hb1 := pT_le V p i
      have hb2 := tb_le V (V 1 - (p + 1)) (s ||| 2 ^ i)
      have hm := max_gr (boA V (tb V (V 1 - (p + 1))) p s i) (pT V p i + tb V (V 1 - (p + 1)) (s ||| 2 ^ i)) (by omega) (by omega)
      simp (disch := omega) only [↓pu_m1, pu_lit, ↓reduceIte, pu_leT, pu_leF, pu_ltT, pu_ltF, pu_eqT, pu_eqF, pu_eqO, pu_eqO2, pu_ltO, pu_leO, pu_subO, pu_subOF, pu_subT, pu_subF, pu_oobF, pu_clamp, pu_add, pu_sub, pu_mul, pu_and, pu_or, pu_xor, pu_xorO, pu_shl, pu_shr, pu_ushr, pu_nb0, pu_nb1, pu_ob1N, pu_ob2N, pu_ob3N, pu_ob4N, pu_nwN, pu_n1, pu_n7, pu_n31, pu_n255, pu_md, pu_one, pu_sI1, pu_sI2, pu_sA1, pu_sA21, pu_sA222, pu_sAe, pu_sAn, pu_sJ1, pu_sJ21, pu_sJ221, pu_sF1, pu_sF21, pu_sF222, pu_sFe, pu_sFn, pu_upe, pu_upn, Nat.reduceAdd, Nat.reduceSub, Nat.reduceMul, Nat.reduceMod, Nat.reduceAnd, Nat.reducePow, Nat.reduceEqDiff, Nat.add_zero, Nat.zero_add, Bool.false_eq_true, Nat.add_sub_cancel, g0, hfe, hb, h, hbw, hm]
  · show F_X12_party_78 K44 K k x (nI p) (nI (canV V p)) (nI s) (nI (boA V (tb V (V 1 - (p + 1))) p s (V 0))) (nI (V 0)) M = _
    unfold F_X12_party_78
    rw [he]
    simp (disch := omega) only [↓pu_m1, pu_lit, ↓reduceIte, pu_leT, pu_leF, pu_ltT, pu_ltF, pu_eqT, pu_eqF, pu_eqO, pu_eqO2, pu_ltO, pu_leO, pu_subO, pu_subOF, pu_subT, pu_subF, pu_oobF, pu_clamp, pu_add, pu_sub, pu_mul, pu_and, pu_or, pu_xor, pu_xorO, pu_shl, pu_shr, pu_ushr, pu_nb0, pu_nb1, pu_ob1N, pu_ob2N, pu_ob3N, pu_ob4N, pu_nwN, pu_n1, pu_n7, pu_n31, pu_n255, pu_md, pu_one, pu_sI1, pu_sI2, pu_sA1, pu_sA21, pu_sA222, pu_sAe, pu_sAn, pu_sJ1, pu_sJ21, pu_sJ221, pu_sF1, pu_sF21, pu_sF222, pu_sFe, pu_sFn, pu_upe, pu_upn, Nat.reduceAdd, Nat.reduceSub, Nat.reduceMul, Nat.reduceMod, Nat.reduceAnd, Nat.reducePow, Nat.reduceEqDiff, Nat.add_zero, Nat.zero_add, Bool.false_eq_true, Nat.add_sub_cancel, g0]
theorem x12_row (hM : RM M V) (hw : WF V) {p : Nat} (hp : p < V 1) (hQ : PM M V (p + 1)) (x : Int32) : ∃ M', PM M' V p ∧ RM M' V ∧ FR [] [30] [] M M' ∧ ∀ K, L_X12_party_57 K x (nI p) (nI (canV V p)) 0 M = K (x, nI p + (-1), M') := by
  have w1 := hw.2.1
  have key := lp_invK (body := fun K kz z => F_X12_party_57 K kz z.1 z.2.1 z.2.2.1 z.2.2.2.1 z.2.2.2.2) (fun i z => ∃ M', z = (x, nI p, nI (canV V p), nI i, M') ∧ (∀ r s, p ≤ r → r ≤ V 1 → s < 128 → (p < r ∨ s < i) → M'.2.2.1 30 (128 * r + s) = nI (tb V (V 1 - r) s)) ∧ RM M' V ∧ FR [] [30] [] M M') 128 (fun o => ∃ M', o = (x, nI p + (-1), M') ∧ PM M' V p ∧ RM M' V ∧ FR [] [30] [] M M') (fun i hi z hz => ?_) (fun z hz => ?_) (x0 := (x, nI p, nI (canV V p), nI 0, M)) ⟨M, rfl, fun r s a b c d => hQ r s (by omega) b c, hM, FR.rf⟩ (pu_FU (by omega : 128 < 1000000))
  · obtain ⟨o, ⟨M', rfl, h4, h5, h6⟩, h7⟩ := key
    exact ⟨M', h4, h5, h6, h7⟩
  · obtain ⟨M', rfl, a1, a2, a3⟩ := hz
    have h0 : ∀ s, s < 128 → M'.2.2.1 30 (128 * (p + 1) + s) = nI (tb V (V 1 - (p + 1)) s) := fun s hs => a1 (p + 1) s (by omega) (by omega) hs (by omega)
    have hn := x12_mostByN a2 hw hp hi h0
    refine ⟨(x, nI p, nI (canV V p), nI (i + 1), sA M' 30 (nI (128 * p + i)) (nI (tb V (V 1 - p) i))), ⟨_, rfl, fun r s b1 b2 b3 b4 => ?_, fun k hk => ?_, a3.tr (FR.sA (by decide))⟩, fun K k => ?_⟩
    · rw [pu_sAe (by omega)]
      by_cases e : 128 * r + s = 128 * p + i
      · have e1 : r = p := by omega
        have e2 : s = i := by omega
        subst e1 e2
        rw [if_pos rfl]
      · rw [if_neg e]
        exact a1 r s b1 b2 b3 (by omega)
    · rw [pu_sAn (by omega)]; exact a2 k hk
    · show F_X12_party_57 K k x (nI p) (nI (canV V p)) (nI i) M' = _
      unfold F_X12_party_57
      rw [if_neg (show ¬ (128 : Int32) ≤ nI i from nI_ge (a := i) (b := 128) hi (by omega)), show (-1 : Int32) = nO from rfl, hn, pu_ob1]
      exact x12_pin a2 hw hp hi h0 x K k
  · obtain ⟨M', rfl, a1, a2, a3⟩ := hz
    refine ⟨_, ⟨M', rfl, fun r s b1 b2 b3 => a1 r s b1 b2 b3 (by omega), a2, a3⟩, fun K k => ?_⟩
    show F_X12_party_57 K k x (nI p) (nI (canV V p)) (nI 128) M' = _
    unfold F_X12_party_57
    rw [if_pos (by decide)]
theorem x12_table (hM : RM M V) (hw : WF V) : ∃ M', F_X12_party M = L_X12_party_161 (nI (V 1)) 0 0 M' ∧ PM M' V 0 ∧ RM M' V ∧ FR [0, 32] [30] [] M M' ∧ M'.1 32 = nI (V 1) := by
  have w1 := hw.2.1
  have g1 := hM 1 (by omega)
  have hM0 := RM_sI hM 0 (nI 0)
  have key := lp_invG (body := fun kz z => F_X12_party_44 kz z.1 z.2.1 z.2.2) (fun i z => ∃ M', z = (nI (V 1), nI (V 1 - i) - nI 1, M') ∧ PM M' V (V 1 - i) ∧ RM M' V ∧ FR [0] [30] [] M M') (V 1) (fun z => L_X12_party_161 z.1 0 0 (sI z.2.2 32 z.1)) (fun i hi z hz => ?_) (fun z hz k => ?_) (x0 := (nI (V 1), nI (V 1 - 0) - nI 1, sF (sI M 0 (nI 0)) 30 (cpR (M.2.2.1 30) (128 * V 1) (fun _ => nI 0) 128))) ⟨_, rfl, fun r s a b c => ?_, fun k hk => by rw [pu_sFn (by omega)]; exact hM k hk, (FR.sI (by decide)).tr (FR.sF (by decide))⟩ (pu_FU (by omega : V 1 < 1000000))
  · obtain ⟨y, ⟨M', rfl, h1, h2, h4⟩, h3⟩ := key
    rw [Nat.sub_self] at h1
    refine ⟨sI M' 32 (nI (V 1)), ?_, h1, h2, (h4.mono (by decide) (by decide) (by decide)).tr (FR.sI (by decide)), rfl⟩
    have k2 := lp_upO (body := fun kz z => F_X12_party_14 kz z.1 z.2.1 z.2.2) (fun i => (nI (V 1), nI i, sF (sI M 0 (nI 0)) 30 (cpR (M.2.2.1 30) (128 * V 1) (fun _ => nI 0) i))) 128 (o := L_X12_party_44 (nI (V 1)) (nI (V 1) - nI 1) (sF (sI M 0 (nI 0)) 30 (cpR (M.2.2.1 30) (128 * V 1) (fun _ => nI 0) 128))) (fun i hi k => ?_) (fun k => ?_) (pu_FU (by omega : 128 < 1000000))
    · rw [cpR0] at k2
      have e : sF (sI M 0 (nI 0)) 30 (M.2.2.1 30) = sI M 0 (nI 0) := pu_sFsame (S := sI M 0 (nI 0)) (f := 30)
      rw [e] at k2
      unfold F_X12_party
      simp (disch := omega) only [pu_lit, pu_nwN, pu_sI2, pu_clamp, pu_oobF, g1, ↓reduceIte]
      exact k2.trans h3
    · show F_X12_party_14 k (nI (V 1)) (nI i) _ = _
      unfold F_X12_party_14
      have e := cpRs (M.2.2.1 30) (128 * V 1) (fun _ => nI 0) i
      simp (disch := omega) only [↓pu_m1, pu_lit, ↓reduceIte, pu_leT, pu_leF, pu_ltT, pu_ltF, pu_eqT, pu_eqF, pu_eqO, pu_eqO2, pu_ltO, pu_leO, pu_subO, pu_subOF, pu_subT, pu_subF, pu_oobF, pu_clamp, pu_add, pu_sub, pu_mul, pu_and, pu_or, pu_xor, pu_xorO, pu_shl, pu_shr, pu_ushr, pu_nb0, pu_nb1, pu_ob1N, pu_ob2N, pu_ob3N, pu_ob4N, pu_nwN, pu_n1, pu_n7, pu_n31, pu_n255, pu_md, pu_one, pu_sI1, pu_sI2, pu_sA1, pu_sA21, pu_sA222, pu_sAe, pu_sAn, pu_sJ1, pu_sJ21, pu_sJ221, pu_sF1, pu_sF21, pu_sF222, pu_sFe, pu_sFn, pu_upe, pu_upn, Nat.reduceAdd, Nat.reduceSub, Nat.reduceMul, Nat.reduceMod, Nat.reduceAnd, Nat.reducePow, Nat.reduceEqDiff, Nat.add_zero, Nat.zero_add, Bool.false_eq_true, Nat.add_sub_cancel, sA_sF, e]
    · show F_X12_party_14 k (nI (V 1)) (nI 128) _ = _
      unfold F_X12_party_14
      rw [if_pos (by decide)]
      rfl
  · obtain ⟨M', rfl, a1, a2, a3⟩ := hz
    obtain ⟨p, hp⟩ : ∃ p, V 1 - i = p + 1 := ⟨V 1 - i - 1, by omega⟩
    have hp1 : V 1 - (i + 1) = p := by omega
    have hpv : p < V 1 := by omega
    rw [hp] at a1 ⊢
    rw [hp1]
    obtain ⟨M2, c1, c2, c3, c4⟩ := x12_row a2 hw hpv a1 (nI (V 1))
    refine ⟨(nI (V 1), nI p - nI 1, M2), ⟨M2, rfl, c1, c2, a3.tr (c3.mono (by decide) (by decide) (by decide))⟩, fun k => ?_⟩
    show F_X12_party_44 k (nI (V 1)) (nI (p + 1) - nI 1) M' = _
    unfold F_X12_party_44
    rw [pu_sub (by omega), Nat.add_sub_cancel, if_neg (nI_pos (by omega)), x12_can a2 hw hpv, pu_ob1, c4 k, dn_tab p (by omega)]
  · obtain ⟨M', rfl, a1, a2, a3⟩ := hz
    show F_X12_party_44 k (nI (V 1)) (nI (V 1 - V 1) - nI 1) M' = _
    unfold F_X12_party_44
    rw [Nat.sub_self, if_pos (by decide), pu_nwN]
  · have e1 : r = V 1 := by omega
    subst e1
    rw [pu_sFe, Nat.sub_self, cpR_in (by omega) (by omega)]
    rfl
end P12
