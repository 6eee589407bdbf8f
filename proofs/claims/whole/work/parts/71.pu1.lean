/-! the SUBURB as a row of numbers (the reference's own places), the two sides' states over it -/
def opn (x : Nat) : Bool := (x % 16) &&& (x / 16) == 0
def smT (V : Vt) : Nat → Nat
  | 0 => 0
  | n + 1 => smT V n + V (71 + n)
def RS (S : St) (V : Vt) : Prop := S.1 0 = nI (V 0) ∧ S.1 7 = nI (V 1) ∧ S.1 5 = nI (V 23) ∧ S.1 6 = nI (V 44) ∧ S.1 14 = nI (V 42) ∧ (∀ t, t < V 0 → S.2.2.1 2 t = nI (V (2 + t))) ∧ (∀ t, t < V 0 → S.2.2.1 3 t = nI (V (45 + t))) ∧ (∀ t, t < V 0 → S.2.2.1 4 t = nI (V (52 + t))) ∧ (∀ p, p < V 1 → S.2.2.1 9 p = nI (V (59 + p))) ∧ (∀ p, p < V 1 → S.2.2.1 10 p = nI (V (36 + p))) ∧ (∀ p, p < V 1 → S.2.2.1 11 p = nI (V (24 + p))) ∧ (∀ p, p < V 1 → S.2.2.1 12 p = nI (V (65 + p)) - nI 1) ∧ (∀ p, p < V 1 → S.2.2.1 13 p = nI (V (71 + p)))
def RM (M : St) (V : Vt) : Prop := ∀ k, k < 77 → M.2.2.1 6 k = nI (V k)
def WF (V : Vt) : Prop := V 0 ≤ 7 ∧ V 1 ≤ 6 ∧ V 23 < 128 ∧ V 44 < 128 ∧ V 42 ≤ 400 ∧ (∀ t, t < V 0 → V (2 + t) < 4) ∧ (∀ t, t < V 0 → V (45 + t) < 8) ∧ (∀ t, t < V 0 → V (52 + t) ≤ 60) ∧ (∀ p, p < V 1 → V (59 + p) < 256) ∧ (∀ p, p < V 1 → opn (V (59 + p)) = true) ∧ (∀ p, p < V 1 → V (36 + p) < 256) ∧ (∀ p, p < V 1 → V (24 + p) ≤ 60) ∧ (∀ p, p < V 1 → V (65 + p) ≤ V 0) ∧ smT V (V 1) = V 43
/-! what is so -/
def mny (V : Vt) (t : Nat) : Nat := if V (2 + t) = 0 then 1 else if V (2 + t) = 1 then 3 else 8
def lk (V : Vt) (t k : Nat) : Nat := if V (2 + t) = 3 then (V (45 + t) + 8 - k) % 8 else if V (2 + t) = 2 then (V (45 + t) + k) % 8 else if k = 0 then V (45 + t) % 8 else if k = 1 then (V (45 + t) + 7) % 8 else (V (45 + t) + 1) % 8
def hav (s v : Nat) : Nat := (s ||| 2 ^ v) &&& (2 ^ ((v + 4) % 8) ^^^ 4294967295)
def behA (V : Vt) (t x : Nat) : Nat → Nat
  | 0 => x
  | k + 1 => hav (behA V t x k) (lk V t k)
def beh (V : Vt) (t x : Nat) : Nat := behA V t x (mny V t)
def lookA (V : Vt) (t : Nat) : Nat → Nat
  | 0 => 0
  | k + 1 => lookA V t k ||| 2 ^ lk V t k
def lookB (V : Vt) (t : Nat) : Nat := lookA V t (mny V t)
def who (V : Vt) (t : Nat) : Nat := fs (fun p => V (65 + p) == t + 1) (V 1) 0
def ccl (V : Vt) (p t : Nat) : Bool := V 44 / 2 ^ t % 2 == 0 && decide (V (52 + t) ≤ V (24 + p)) && (decide (V 1 ≤ who V t) || who V t == p)
def canV (V : Vt) (p : Nat) : Nat := bA (ccl V p) (V 0)
def opp (x : Nat) : Nat := (x * 16) % 256 ||| x / 16
def frd (V : Vt) (p : Nat) (q : Nat) : Bool := !(q == p) && (V (59 + q) &&& opp (V (59 + p)) == 0) && !(V (59 + q) &&& V (59 + p) == 0)
def frV (V : Vt) (p : Nat) : Nat := bA (frd V p) (V 1)
def plz (V : Vt) (p x : Nat) : Bool := V (36 + p) &&& (x ^^^ 4294967295) == 0
def plV (V : Vt) : Nat := bA (fun p => plz V p (V (59 + p))) (V 1)
def upV (V : Vt) : Nat := bA (fun p => !(V (65 + p) == 0)) (V 1)
def mildV (V : Vt) : Nat := bA (fun p => V (59 + p) == 0) (V 1)
theorem lk_lt (V : Vt) (t k : Nat) : lk V t k < 8 := by
  unfold lk
  repeat' split
  all_goals omega
theorem mny_le (V : Vt) (t : Nat) : mny V t ≤ 8 := by
  unfold mny
  repeat' split
  all_goals omega
theorem hav_tab : ∀ s, s < 256 → ∀ v, v < 8 → hav s v < 256 ∧ (s &&& (2 ^ (v ^^^ 4) ^^^ 4294967295)) ||| 2 ^ v = hav s v := by decide +kernel
theorem hav_lt {s v : Nat} (hs : s < 256) (hv : v < 8) : hav s v < 256 := (hav_tab s hs v hv).1
theorem hav_opn : ∀ s, s < 256 → opn s = true → ∀ v, v < 8 → opn (hav s v) = true := by decide +kernel
theorem behA_lt (V : Vt) (t : Nat) {x : Nat} (hx : x < 256) : ∀ k, behA V t x k < 256 := by
  intro k
  induction k with
  | zero => exact hx
  | succ k ih => exact hav_lt ih (lk_lt V t k)
theorem beh_lt (V : Vt) (t : Nat) {x : Nat} (hx : x < 256) : beh V t x < 256 := behA_lt V t hx _
theorem behA_opn (V : Vt) (t : Nat) {x : Nat} (hx : x < 256) (ho : opn x = true) : ∀ k, opn (behA V t x k) = true := by
  intro k
  induction k with
  | zero => exact ho
  | succ k ih => exact hav_opn _ (behA_lt V t hx k) ih _ (lk_lt V t k)
theorem lookA_lt (V : Vt) (t : Nat) : ∀ k, lookA V t k < 256 := by
  intro k
  induction k with
  | zero => exact (by decide : 0 < 256)
  | succ k ih => exact Nat.or_lt_two_pow (n := 8) ih (Nat.pow_lt_pow_right (by omega) (lk_lt V t k))
theorem who_le (V : Vt) (t : Nat) : who V t ≤ V 1 := by
  have := fs_le (fun p => V (65 + p) == t + 1) (V 1) 0
  unfold who
  omega
theorem beh_cong {V W : Vt} {t : Nat} (h2 : V (2 + t) = W (2 + t)) (h45 : V (45 + t) = W (45 + t)) (x : Nat) : beh V t x = beh W t x := by
  have hl : ∀ k, lk V t k = lk W t k := fun k => by unfold lk; rw [h2, h45]
  have : ∀ k, behA V t x k = behA W t x k := by
    intro k
    induction k with
    | zero => rfl
    | succ k ih => simp only [behA]; rw [ih, hl]
  unfold beh mny
  rw [this, h2]
/-! both sides' small methods -/
section P1
variable {S M : St} {V : Vt}
theorem x8_hasT (hS : RS S V) (hw : WF V) (x : Int32) : (∃ t, t < V 0 ∧ x = nI t ∧ F_X8_hasTurret S x = some 1) ∨ ((¬ ∃ t, t < V 0 ∧ x = nI t) ∧ F_X8_hasTurret S x = some 0) := by
  obtain ⟨e0, -⟩ := hS
  obtain ⟨w0, -⟩ := hw
  unfold F_X8_hasTurret
  rw [e0]
  rcases pk_ix x (n := V 0) (by omega) with h | h | ⟨j, hj, rfl⟩
  · right; rw [if_pos h]
    exact ⟨fun ⟨t, ht, e⟩ => nI_pos (n := t) (by omega) (by rw [← e]; exact h), rfl⟩
  · right
    refine ⟨fun ⟨t, ht, e⟩ => nI_ge ht (by omega) (by rw [← e]; exact h), ?_⟩
    by_cases h0 : x < 0
    · rw [if_pos h0]
    · rw [if_neg h0, if_pos h]
  · left; refine ⟨j, hj, rfl, ?_⟩
    rw [if_neg (nI_pos (by omega)), if_neg (nI_ge hj (by omega))]
theorem x8_hasP (hS : RS S V) (hw : WF V) (x : Int32) : (∃ t, t < V 1 ∧ x = nI t ∧ F_X8_hasPerson S x = some 1) ∨ ((¬ ∃ t, t < V 1 ∧ x = nI t) ∧ F_X8_hasPerson S x = some 0) := by
  obtain ⟨-, e0, -⟩ := hS
  obtain ⟨-, w0, -⟩ := hw
  unfold F_X8_hasPerson
  rw [e0]
  rcases pk_ix x (n := V 1) (by omega) with h | h | ⟨j, hj, rfl⟩
  · right; rw [if_pos h]
    exact ⟨fun ⟨t, ht, e⟩ => nI_pos (n := t) (by omega) (by rw [← e]; exact h), rfl⟩
  · right
    refine ⟨fun ⟨t, ht, e⟩ => nI_ge ht (by omega) (by rw [← e]; exact h), ?_⟩
    by_cases h0 : x < 0
    · rw [if_pos h0]
    · rw [if_neg h0, if_pos h]
  · left; refine ⟨j, hj, rfl, ?_⟩
    rw [if_neg (nI_pos (by omega)), if_neg (nI_ge hj (by omega))]
/-- a number from a to b -/
theorem x12_isIn (x : Int32) (b : Nat) (hb : b < 1000000) : (∃ t, t < b ∧ x = nI t ∧ F_X12_isIn x 0 (nI b - nI 1) = some 1) ∨ ((¬ ∃ t, t < b ∧ x = nI t) ∧ F_X12_isIn x 0 (nI b - nI 1) = some 0) := by
  unfold F_X12_isIn
  rcases pk_ix x (n := b) (by omega) with h | h | ⟨j, hj, rfl⟩
  · right; rw [if_pos h]
    exact ⟨fun ⟨t, ht, e⟩ => nI_pos (n := t) (by omega) (by rw [← e]; exact h), rfl⟩
  · right
    refine ⟨fun ⟨t, ht, e⟩ => nI_ge ht (by omega) (by rw [← e]; exact h), ?_⟩
    by_cases h0 : x < 0
    · rw [if_pos h0]
    · rw [if_neg h0, if_pos]
      have h1 := Int32.le_iff_toInt_le.mp h
      rw [nI_toInt (by omega)] at h1
      rw [Int32.lt_iff_toInt_lt]
      have := pk_sub_toInt (a := b) (b := 1) (by omega) (by omega)
      rw [this]
      omega
  · left; refine ⟨j, hj, rfl, ?_⟩
    rw [if_neg (nI_pos (by omega)), if_neg]
    rw [pk_sub (by omega)]
    exact nI_nlt (by omega) (by omega)
theorem x12_isT (hM : RM M V) (hw : WF V) (x : Int32) : (∃ t, t < V 0 ∧ x = nI t ∧ F_X12_isTurret M x = some 1) ∨ ((¬ ∃ t, t < V 0 ∧ x = nI t) ∧ F_X12_isTurret M x = some 0) := by
  obtain ⟨w0, -⟩ := hw
  have h : ∀ r, (r = 0 ∨ r = 1) → F_X12_isIn x 0 (nI (V 0) - nI 1) = some r → F_X12_isTurret M x = some r := by
    intro r hr h
    unfold F_X12_isTurret
    rw [if_neg (by decide), show M.2.2.1 6 (0 : Int32).toNatClampNeg - 1 = nI (V 0) - nI 1 from by rw [show (0 : Int32).toNatClampNeg = 0 from by decide, hM 0 (by omega)]; rfl, h]
    show (if nb r then none else some r) = some r
    rw [if_neg (fun h => h hr)]
  rcases x12_isIn x (V 0) (by omega) with ⟨t, ht, e, h1⟩ | ⟨hn, h1⟩
  · exact Or.inl ⟨t, ht, e, h 1 (Or.inr rfl) h1⟩
  · exact Or.inr ⟨hn, h 0 (Or.inl rfl) h1⟩
theorem x12_isP (hM : RM M V) (hw : WF V) (x : Int32) : (∃ t, t < V 1 ∧ x = nI t ∧ F_X12_isPerson M x = some 1) ∨ ((¬ ∃ t, t < V 1 ∧ x = nI t) ∧ F_X12_isPerson M x = some 0) := by
  obtain ⟨-, w0, -⟩ := hw
  have h : ∀ r, (r = 0 ∨ r = 1) → F_X12_isIn x 0 (nI (V 1) - nI 1) = some r → F_X12_isPerson M x = some r := by
    intro r hr h
    unfold F_X12_isPerson
    rw [if_neg (by decide), show M.2.2.1 6 (1 : Int32).toNatClampNeg - 1 = nI (V 1) - nI 1 from by rw [show (1 : Int32).toNatClampNeg = 1 from by decide, hM 1 (by omega)]; rfl, h]
    show (if nb r then none else some r) = some r
    rw [if_neg (fun h => h hr)]
  rcases x12_isIn x (V 1) (by omega) with ⟨t, ht, e, h1⟩ | ⟨hn, h1⟩
  · exact Or.inl ⟨t, ht, e, h 1 (Or.inr rfl) h1⟩
  · exact Or.inr ⟨hn, h 0 (Or.inl rfl) h1⟩
theorem x8_who (hS : RS S V) (hw : WF V) {t : Nat} (ht : t < 8) : F_X8_whoIsUp S (nI t) = some (wI (V 1) (who V t)) := by
  obtain ⟨e0, e7, e5, e6, e14, f2, f3, f4, f9, f10, f11, f12, f13⟩ := hS
  obtain ⟨w0, w1, w23, w44, w42, w2, w45, w52, w59, wop, w36, w24, w65, wsm⟩ := hw
  unfold F_X8_whoIsUp L_X8_whoIsUp_2
  refine lp_fs (fun p => V (65 + p) == t + 1) (fun i => (nI t, nI i, S)) (V 1) (fun r => r) (fun i hi hp k => ?_) (fun i hi hp k => ?_) (fun k => ?_) (pu_FU (by omega))
  · have h1 := w65 i hi
    have hp : V (65 + i) = t + 1 := by simpa using hp
    show F_X8_whoIsUp_2 k (nI t) (nI i) S = _
    unfold F_X8_whoIsUp_2
    simp (disch := omega) only [↓pu_m1, pu_lit, ↓reduceIte, pu_leT, pu_leF, pu_ltT, pu_ltF, pu_eqT, pu_eqF, pu_eqO, pu_eqO2, pu_ltO, pu_leO, pu_subO, pu_subOF, pu_subT, pu_subF, pu_oobF, pu_clamp, pu_add, pu_sub, pu_mul, pu_and, pu_or, pu_xor, pu_xorO, pu_shl, pu_shr, pu_ushr, pu_nb0, pu_nb1, pu_ob1, pu_ob2, pu_ob3, pu_ob4, pu_nw, pu_n1, pu_n7, pu_n31, pu_n255, pu_md, pu_one, pu_sI1, pu_sI2, pu_sA1, pu_sA21, pu_sA222, pu_sAe, pu_sAn, pu_sJ1, pu_sJ21, pu_sJ221, pu_sF1, pu_sF21, pu_sF222, pu_sFe, pu_sFn, pu_upe, pu_upn, Nat.reduceAdd, Nat.reduceSub, Nat.reduceMul, Nat.reduceMod, Nat.reduceAnd, Nat.reducePow, Nat.reduceEqDiff, Nat.add_zero, Nat.zero_add, Bool.false_eq_true, e7, f12]
  · have h1 := w65 i hi
    have hp : V (65 + i) ≠ t + 1 := by simpa using hp
    show F_X8_whoIsUp_2 k (nI t) (nI i) S = _
    unfold F_X8_whoIsUp_2
    simp (disch := omega) only [↓pu_m1, pu_lit, ↓reduceIte, pu_leT, pu_leF, pu_ltT, pu_ltF, pu_eqT, pu_eqF, pu_eqO, pu_eqO2, pu_ltO, pu_leO, pu_subO, pu_subOF, pu_subT, pu_subF, pu_oobF, pu_clamp, pu_add, pu_sub, pu_mul, pu_and, pu_or, pu_xor, pu_xorO, pu_shl, pu_shr, pu_ushr, pu_nb0, pu_nb1, pu_ob1, pu_ob2, pu_ob3, pu_ob4, pu_nw, pu_n1, pu_n7, pu_n31, pu_n255, pu_md, pu_one, pu_sI1, pu_sI2, pu_sA1, pu_sA21, pu_sA222, pu_sAe, pu_sAn, pu_sJ1, pu_sJ21, pu_sJ221, pu_sF1, pu_sF21, pu_sF222, pu_sFe, pu_sFn, pu_upe, pu_upn, Nat.reduceAdd, Nat.reduceSub, Nat.reduceMul, Nat.reduceMod, Nat.reduceAnd, Nat.reducePow, Nat.reduceEqDiff, Nat.add_zero, Nat.zero_add, Bool.false_eq_true, e7, f12]
  · show F_X8_whoIsUp_2 k (nI t) (nI (V 1)) S = _
    unfold F_X8_whoIsUp_2
    simp (disch := omega) only [↓pu_m1, pu_lit, ↓reduceIte, pu_leT, pu_leF, pu_ltT, pu_ltF, pu_eqT, pu_eqF, pu_eqO, pu_eqO2, pu_ltO, pu_leO, pu_subO, pu_subOF, pu_subT, pu_subF, pu_oobF, pu_clamp, pu_add, pu_sub, pu_mul, pu_and, pu_or, pu_xor, pu_xorO, pu_shl, pu_shr, pu_ushr, pu_nb0, pu_nb1, pu_ob1, pu_ob2, pu_ob3, pu_ob4, pu_nw, pu_n1, pu_n7, pu_n31, pu_n255, pu_md, pu_one, pu_sI1, pu_sI2, pu_sA1, pu_sA21, pu_sA222, pu_sAe, pu_sAn, pu_sJ1, pu_sJ21, pu_sJ221, pu_sF1, pu_sF21, pu_sF222, pu_sFe, pu_sFn, pu_upe, pu_upn, Nat.reduceAdd, Nat.reduceSub, Nat.reduceMul, Nat.reduceMod, Nat.reduceAnd, Nat.reducePow, Nat.reduceEqDiff, Nat.add_zero, Nat.zero_add, Bool.false_eq_true, e7]
theorem x12_who (hM : RM M V) (hw : WF V) {t : Nat} (ht : t < 8) : F_X12_whoIsUp M (nI t) = some (wI (V 1) (who V t)) := by
  obtain ⟨w0, w1, w23, w44, w42, w2, w45, w52, w59, wop, w36, w24, w65, wsm⟩ := hw
  unfold F_X12_whoIsUp L_X12_whoIsUp_2
  refine lp_fs (fun p => V (65 + p) == t + 1) (fun i => (nI t, nI i, M)) (V 1) (fun r => r) (fun i hi hp k => ?_) (fun i hi hp k => ?_) (fun k => ?_) (pu_FU (by omega))
  · have h1 := w65 i hi
    have hp : V (65 + i) = t + 1 := by simpa using hp
    show F_X12_whoIsUp_2 k (nI t) (nI i) M = _
    unfold F_X12_whoIsUp_2
    simp (disch := omega) only [↓pu_m1, pu_lit, ↓reduceIte, pu_leT, pu_leF, pu_ltT, pu_ltF, pu_eqT, pu_eqF, pu_eqO, pu_eqO2, pu_ltO, pu_leO, pu_subO, pu_subOF, pu_subT, pu_subF, pu_oobF, pu_clamp, pu_add, pu_sub, pu_mul, pu_and, pu_or, pu_xor, pu_xorO, pu_shl, pu_shr, pu_ushr, pu_nb0, pu_nb1, pu_ob1, pu_ob2, pu_ob3, pu_ob4, pu_nw, pu_n1, pu_n7, pu_n31, pu_n255, pu_md, pu_one, pu_sI1, pu_sI2, pu_sA1, pu_sA21, pu_sA222, pu_sAe, pu_sAn, pu_sJ1, pu_sJ21, pu_sJ221, pu_sF1, pu_sF21, pu_sF222, pu_sFe, pu_sFn, pu_upe, pu_upn, Nat.reduceAdd, Nat.reduceSub, Nat.reduceMul, Nat.reduceMod, Nat.reduceAnd, Nat.reducePow, Nat.reduceEqDiff, Nat.add_zero, Nat.zero_add, Bool.false_eq_true, hM 1 (by omega), hM (65 + i) (by omega)]
  · have h1 := w65 i hi
    have hp : V (65 + i) ≠ t + 1 := by simpa using hp
    show F_X12_whoIsUp_2 k (nI t) (nI i) M = _
    unfold F_X12_whoIsUp_2
    simp (disch := omega) only [↓pu_m1, pu_lit, ↓reduceIte, pu_leT, pu_leF, pu_ltT, pu_ltF, pu_eqT, pu_eqF, pu_eqO, pu_eqO2, pu_ltO, pu_leO, pu_subO, pu_subOF, pu_subT, pu_subF, pu_oobF, pu_clamp, pu_add, pu_sub, pu_mul, pu_and, pu_or, pu_xor, pu_xorO, pu_shl, pu_shr, pu_ushr, pu_nb0, pu_nb1, pu_ob1, pu_ob2, pu_ob3, pu_ob4, pu_nw, pu_n1, pu_n7, pu_n31, pu_n255, pu_md, pu_one, pu_sI1, pu_sI2, pu_sA1, pu_sA21, pu_sA222, pu_sAe, pu_sAn, pu_sJ1, pu_sJ21, pu_sJ221, pu_sF1, pu_sF21, pu_sF222, pu_sFe, pu_sFn, pu_upe, pu_upn, Nat.reduceAdd, Nat.reduceSub, Nat.reduceMul, Nat.reduceMod, Nat.reduceAnd, Nat.reducePow, Nat.reduceEqDiff, Nat.add_zero, Nat.zero_add, Bool.false_eq_true, hM 1 (by omega), hM (65 + i) (by omega)]
  · show F_X12_whoIsUp_2 k (nI t) (nI (V 1)) M = _
    unfold F_X12_whoIsUp_2
    simp (disch := omega) only [↓pu_m1, pu_lit, ↓reduceIte, pu_leT, pu_leF, pu_ltT, pu_ltF, pu_eqT, pu_eqF, pu_eqO, pu_eqO2, pu_ltO, pu_leO, pu_subO, pu_subOF, pu_subT, pu_subF, pu_oobF, pu_clamp, pu_add, pu_sub, pu_mul, pu_and, pu_or, pu_xor, pu_xorO, pu_shl, pu_shr, pu_ushr, pu_nb0, pu_nb1, pu_ob1, pu_ob2, pu_ob3, pu_ob4, pu_nw, pu_n1, pu_n7, pu_n31, pu_n255, pu_md, pu_one, pu_sI1, pu_sI2, pu_sA1, pu_sA21, pu_sA222, pu_sAe, pu_sAn, pu_sJ1, pu_sJ21, pu_sJ221, pu_sF1, pu_sF21, pu_sF222, pu_sFe, pu_sFn, pu_upe, pu_upn, Nat.reduceAdd, Nat.reduceSub, Nat.reduceMul, Nat.reduceMod, Nat.reduceAnd, Nat.reducePow, Nat.reduceEqDiff, Nat.add_zero, Nat.zero_add, Bool.false_eq_true, hM 1 (by omega)]
theorem x8_many (hS : RS S V) (hw : WF V) {t : Nat} (ht : t < V 0) : F_X8_lookCount S (nI t) = some (nI (mny V t)) := by
  obtain ⟨e0, e7, e5, e6, e14, f2, -⟩ := hS
  obtain ⟨w0, w1, w23, w44, w42, w2, -⟩ := hw
  have h1 := w2 t ht
  unfold F_X8_lookCount mny
  by_cases h2 : V (2 + t) = 0
  · simp (disch := omega) only [↓pu_m1, pu_lit, ↓reduceIte, pu_leT, pu_leF, pu_ltT, pu_ltF, pu_eqT, pu_eqF, pu_eqO, pu_eqO2, pu_ltO, pu_leO, pu_subO, pu_subOF, pu_subT, pu_subF, pu_oobF, pu_clamp, pu_add, pu_sub, pu_mul, pu_and, pu_or, pu_xor, pu_xorO, pu_shl, pu_shr, pu_ushr, pu_nb0, pu_nb1, pu_ob1, pu_ob2, pu_ob3, pu_ob4, pu_nw, pu_n1, pu_n7, pu_n31, pu_n255, pu_md, pu_one, pu_sI1, pu_sI2, pu_sA1, pu_sA21, pu_sA222, pu_sAe, pu_sAn, pu_sJ1, pu_sJ21, pu_sJ221, pu_sF1, pu_sF21, pu_sF222, pu_sFe, pu_sFn, pu_upe, pu_upn, Nat.reduceAdd, Nat.reduceSub, Nat.reduceMul, Nat.reduceMod, Nat.reduceAnd, Nat.reducePow, Nat.reduceEqDiff, Nat.add_zero, Nat.zero_add, Bool.false_eq_true, f2, h2]
  · by_cases h3 : V (2 + t) = 1
    · simp (disch := omega) only [↓pu_m1, pu_lit, ↓reduceIte, pu_leT, pu_leF, pu_ltT, pu_ltF, pu_eqT, pu_eqF, pu_eqO, pu_eqO2, pu_ltO, pu_leO, pu_subO, pu_subOF, pu_subT, pu_subF, pu_oobF, pu_clamp, pu_add, pu_sub, pu_mul, pu_and, pu_or, pu_xor, pu_xorO, pu_shl, pu_shr, pu_ushr, pu_nb0, pu_nb1, pu_ob1, pu_ob2, pu_ob3, pu_ob4, pu_nw, pu_n1, pu_n7, pu_n31, pu_n255, pu_md, pu_one, pu_sI1, pu_sI2, pu_sA1, pu_sA21, pu_sA222, pu_sAe, pu_sAn, pu_sJ1, pu_sJ21, pu_sJ221, pu_sF1, pu_sF21, pu_sF222, pu_sFe, pu_sFn, pu_upe, pu_upn, Nat.reduceAdd, Nat.reduceSub, Nat.reduceMul, Nat.reduceMod, Nat.reduceAnd, Nat.reducePow, Nat.reduceEqDiff, Nat.add_zero, Nat.zero_add, Bool.false_eq_true, f2, h3]
    · simp (disch := omega) only [↓pu_m1, pu_lit, ↓reduceIte, pu_leT, pu_leF, pu_ltT, pu_ltF, pu_eqT, pu_eqF, pu_eqO, pu_eqO2, pu_ltO, pu_leO, pu_subO, pu_subOF, pu_subT, pu_subF, pu_oobF, pu_clamp, pu_add, pu_sub, pu_mul, pu_and, pu_or, pu_xor, pu_xorO, pu_shl, pu_shr, pu_ushr, pu_nb0, pu_nb1, pu_ob1, pu_ob2, pu_ob3, pu_ob4, pu_nw, pu_n1, pu_n7, pu_n31, pu_n255, pu_md, pu_one, pu_sI1, pu_sI2, pu_sA1, pu_sA21, pu_sA222, pu_sAe, pu_sAn, pu_sJ1, pu_sJ21, pu_sJ221, pu_sF1, pu_sF21, pu_sF222, pu_sFe, pu_sFn, pu_upe, pu_upn, Nat.reduceAdd, Nat.reduceSub, Nat.reduceMul, Nat.reduceMod, Nat.reduceAnd, Nat.reducePow, Nat.reduceEqDiff, Nat.add_zero, Nat.zero_add, Bool.false_eq_true, f2, h2, h3]
theorem x12_many (hM : RM M V) (hw : WF V) {t : Nat} (ht : t < V 0) : F_X12_manyOf M (nI t) = some (nI (mny V t)) := by
  obtain ⟨w0, w1, w23, w44, w42, w2, -⟩ := hw
  have h1 := w2 t ht
  unfold F_X12_manyOf mny
  by_cases h2 : V (2 + t) = 0
  · simp (disch := omega) only [↓pu_m1, pu_lit, ↓reduceIte, pu_leT, pu_leF, pu_ltT, pu_ltF, pu_eqT, pu_eqF, pu_eqO, pu_eqO2, pu_ltO, pu_leO, pu_subO, pu_subOF, pu_subT, pu_subF, pu_oobF, pu_clamp, pu_add, pu_sub, pu_mul, pu_and, pu_or, pu_xor, pu_xorO, pu_shl, pu_shr, pu_ushr, pu_nb0, pu_nb1, pu_ob1, pu_ob2, pu_ob3, pu_ob4, pu_nw, pu_n1, pu_n7, pu_n31, pu_n255, pu_md, pu_one, pu_sI1, pu_sI2, pu_sA1, pu_sA21, pu_sA222, pu_sAe, pu_sAn, pu_sJ1, pu_sJ21, pu_sJ221, pu_sF1, pu_sF21, pu_sF222, pu_sFe, pu_sFn, pu_upe, pu_upn, Nat.reduceAdd, Nat.reduceSub, Nat.reduceMul, Nat.reduceMod, Nat.reduceAnd, Nat.reducePow, Nat.reduceEqDiff, Nat.add_zero, Nat.zero_add, Bool.false_eq_true, hM (2 + t) (by omega), h2]
  · by_cases h3 : V (2 + t) = 1
    · simp (disch := omega) only [↓pu_m1, pu_lit, ↓reduceIte, pu_leT, pu_leF, pu_ltT, pu_ltF, pu_eqT, pu_eqF, pu_eqO, pu_eqO2, pu_ltO, pu_leO, pu_subO, pu_subOF, pu_subT, pu_subF, pu_oobF, pu_clamp, pu_add, pu_sub, pu_mul, pu_and, pu_or, pu_xor, pu_xorO, pu_shl, pu_shr, pu_ushr, pu_nb0, pu_nb1, pu_ob1, pu_ob2, pu_ob3, pu_ob4, pu_nw, pu_n1, pu_n7, pu_n31, pu_n255, pu_md, pu_one, pu_sI1, pu_sI2, pu_sA1, pu_sA21, pu_sA222, pu_sAe, pu_sAn, pu_sJ1, pu_sJ21, pu_sJ221, pu_sF1, pu_sF21, pu_sF222, pu_sFe, pu_sFn, pu_upe, pu_upn, Nat.reduceAdd, Nat.reduceSub, Nat.reduceMul, Nat.reduceMod, Nat.reduceAnd, Nat.reducePow, Nat.reduceEqDiff, Nat.add_zero, Nat.zero_add, Bool.false_eq_true, hM (2 + t) (by omega), h3]
    · simp (disch := omega) only [↓pu_m1, pu_lit, ↓reduceIte, pu_leT, pu_leF, pu_ltT, pu_ltF, pu_eqT, pu_eqF, pu_eqO, pu_eqO2, pu_ltO, pu_leO, pu_subO, pu_subOF, pu_subT, pu_subF, pu_oobF, pu_clamp, pu_add, pu_sub, pu_mul, pu_and, pu_or, pu_xor, pu_xorO, pu_shl, pu_shr, pu_ushr, pu_nb0, pu_nb1, pu_ob1, pu_ob2, pu_ob3, pu_ob4, pu_nw, pu_n1, pu_n7, pu_n31, pu_n255, pu_md, pu_one, pu_sI1, pu_sI2, pu_sA1, pu_sA21, pu_sA222, pu_sAe, pu_sAn, pu_sJ1, pu_sJ21, pu_sJ221, pu_sF1, pu_sF21, pu_sF222, pu_sFe, pu_sFn, pu_upe, pu_upn, Nat.reduceAdd, Nat.reduceSub, Nat.reduceMul, Nat.reduceMod, Nat.reduceAnd, Nat.reducePow, Nat.reduceEqDiff, Nat.add_zero, Nat.zero_add, Bool.false_eq_true, hM (2 + t) (by omega), h2, h3]
theorem sub8 : ∀ a, a < 8 → ∀ k, k < 8 → (nI a - nI k) &&& nI 7 = nI ((a + 8 - k) % 8) ∧ (nI a + -nI k) &&& nI 7 = nI ((a + 8 - k) % 8) := by decide +kernel
theorem sub8m : ∀ a, a < 8 → (nI a - nI 1) &&& nI 7 = nI ((a + 7) % 8) ∧ (nI a + nO) &&& nI 7 = nI ((a + 7) % 8) := by decide +kernel
theorem x8_look (hS : RS S V) (hw : WF V) {t k : Nat} (ht : t < V 0) (hk : k < mny V t) : F_X8_lookAt S (nI t) (nI k) = some (nI (lk V t k)) := by
  have hm := mny_le V t
  obtain ⟨e0, e7, e5, e6, e14, f2, f3, -⟩ := hS
  obtain ⟨w0, w1, w23, w44, w42, w2, w45, -⟩ := hw
  have h1 := w2 t ht
  have h45 := w45 t ht
  have hk8 : k < 8 := by omega
  unfold mny at hk
  unfold F_X8_lookAt F_X8_lookAt_64 F_X11_allRound lk
  rcases (by omega : V (2 + t) = 0 ∨ V (2 + t) = 1 ∨ V (2 + t) = 2 ∨ V (2 + t) = 3) with h2 | h2 | h2 | h2
  · simp only [h2, if_true] at hk
    have hk0 : k = 0 := by omega
    subst hk0
    simp (disch := omega) only [↓pu_m1, pu_lit, ↓reduceIte, pu_leT, pu_leF, pu_ltT, pu_ltF, pu_eqT, pu_eqF, pu_eqO, pu_eqO2, pu_ltO, pu_leO, pu_subO, pu_subOF, pu_subT, pu_subF, pu_oobF, pu_clamp, pu_add, pu_sub, pu_mul, pu_and, pu_or, pu_xor, pu_xorO, pu_shl, pu_shr, pu_ushr, pu_nb0, pu_nb1, pu_ob1, pu_ob2, pu_ob3, pu_ob4, pu_nw, pu_n1, pu_n7, pu_n31, pu_n255, pu_md, pu_one, pu_sI1, pu_sI2, pu_sA1, pu_sA21, pu_sA222, pu_sAe, pu_sAn, pu_sJ1, pu_sJ21, pu_sJ221, pu_sF1, pu_sF21, pu_sF222, pu_sFe, pu_sFn, pu_upe, pu_upn, Nat.reduceAdd, Nat.reduceSub, Nat.reduceMul, Nat.reduceMod, Nat.reduceAnd, Nat.reducePow, Nat.reduceEqDiff, Nat.add_zero, Nat.zero_add, Bool.false_eq_true, f2, f3, h2]
  · simp only [h2, if_true, if_false, Nat.one_ne_zero] at hk
    rcases (by omega : k = 0 ∨ k = 1 ∨ k = 2) with e | e | e <;> subst e
    · simp (disch := omega) only [↓pu_m1, pu_lit, ↓reduceIte, pu_leT, pu_leF, pu_ltT, pu_ltF, pu_eqT, pu_eqF, pu_eqO, pu_eqO2, pu_ltO, pu_leO, pu_subO, pu_subOF, pu_subT, pu_subF, pu_oobF, pu_clamp, pu_add, pu_sub, pu_mul, pu_and, pu_or, pu_xor, pu_xorO, pu_shl, pu_shr, pu_ushr, pu_nb0, pu_nb1, pu_ob1, pu_ob2, pu_ob3, pu_ob4, pu_nw, pu_n1, pu_n7, pu_n31, pu_n255, pu_md, pu_one, pu_sI1, pu_sI2, pu_sA1, pu_sA21, pu_sA222, pu_sAe, pu_sAn, pu_sJ1, pu_sJ21, pu_sJ221, pu_sF1, pu_sF21, pu_sF222, pu_sFe, pu_sFn, pu_upe, pu_upn, Nat.reduceAdd, Nat.reduceSub, Nat.reduceMul, Nat.reduceMod, Nat.reduceAnd, Nat.reducePow, Nat.reduceEqDiff, Nat.add_zero, Nat.zero_add, Bool.false_eq_true, f2, f3, h2]
    · simp (disch := omega) only [↓pu_m1, pu_lit, ↓reduceIte, pu_leT, pu_leF, pu_ltT, pu_ltF, pu_eqT, pu_eqF, pu_eqO, pu_eqO2, pu_ltO, pu_leO, pu_subO, pu_subOF, pu_subT, pu_subF, pu_oobF, pu_clamp, pu_add, pu_sub, pu_mul, pu_and, pu_or, pu_xor, pu_xorO, pu_shl, pu_shr, pu_ushr, pu_nb0, pu_nb1, pu_ob1, pu_ob2, pu_ob3, pu_ob4, pu_nw, pu_n1, pu_n7, pu_n31, pu_n255, pu_md, pu_one, pu_sI1, pu_sI2, pu_sA1, pu_sA21, pu_sA222, pu_sAe, pu_sAn, pu_sJ1, pu_sJ21, pu_sJ221, pu_sF1, pu_sF21, pu_sF222, pu_sFe, pu_sFn, pu_upe, pu_upn, Nat.reduceAdd, Nat.reduceSub, Nat.reduceMul, Nat.reduceMod, Nat.reduceAnd, Nat.reducePow, Nat.reduceEqDiff, Nat.add_zero, Nat.zero_add, Bool.false_eq_true, f2, f3, h2]
      rw [(sub8m _ h45).1]
    · simp (disch := omega) only [↓pu_m1, pu_lit, ↓reduceIte, pu_leT, pu_leF, pu_ltT, pu_ltF, pu_eqT, pu_eqF, pu_eqO, pu_eqO2, pu_ltO, pu_leO, pu_subO, pu_subOF, pu_subT, pu_subF, pu_oobF, pu_clamp, pu_add, pu_sub, pu_mul, pu_and, pu_or, pu_xor, pu_xorO, pu_shl, pu_shr, pu_ushr, pu_nb0, pu_nb1, pu_ob1, pu_ob2, pu_ob3, pu_ob4, pu_nw, pu_n1, pu_n7, pu_n31, pu_n255, pu_md, pu_one, pu_sI1, pu_sI2, pu_sA1, pu_sA21, pu_sA222, pu_sAe, pu_sAn, pu_sJ1, pu_sJ21, pu_sJ221, pu_sF1, pu_sF21, pu_sF222, pu_sFe, pu_sFn, pu_upe, pu_upn, Nat.reduceAdd, Nat.reduceSub, Nat.reduceMul, Nat.reduceMod, Nat.reduceAnd, Nat.reducePow, Nat.reduceEqDiff, Nat.add_zero, Nat.zero_add, Bool.false_eq_true, f2, f3, h2]
  · simp (disch := omega) only [↓pu_m1, pu_lit, ↓reduceIte, pu_leT, pu_leF, pu_ltT, pu_ltF, pu_eqT, pu_eqF, pu_eqO, pu_eqO2, pu_ltO, pu_leO, pu_subO, pu_subOF, pu_subT, pu_subF, pu_oobF, pu_clamp, pu_add, pu_sub, pu_mul, pu_and, pu_or, pu_xor, pu_xorO, pu_shl, pu_shr, pu_ushr, pu_nb0, pu_nb1, pu_ob1, pu_ob2, pu_ob3, pu_ob4, pu_nw, pu_n1, pu_n7, pu_n31, pu_n255, pu_md, pu_one, pu_sI1, pu_sI2, pu_sA1, pu_sA21, pu_sA222, pu_sAe, pu_sAn, pu_sJ1, pu_sJ21, pu_sJ221, pu_sF1, pu_sF21, pu_sF222, pu_sFe, pu_sFn, pu_upe, pu_upn, Nat.reduceAdd, Nat.reduceSub, Nat.reduceMul, Nat.reduceMod, Nat.reduceAnd, Nat.reducePow, Nat.reduceEqDiff, Nat.add_zero, Nat.zero_add, Bool.false_eq_true, f2, f3, h2]
  · have h8 := (sub8 _ h45 k hk8).1
    simp (disch := omega) only [↓pu_m1, pu_lit, ↓reduceIte, pu_leT, pu_leF, pu_ltT, pu_ltF, pu_eqT, pu_eqF, pu_eqO, pu_eqO2, pu_ltO, pu_leO, pu_subO, pu_subOF, pu_subT, pu_subF, pu_oobF, pu_clamp, pu_add, pu_sub, pu_mul, pu_and, pu_or, pu_xor, pu_xorO, pu_shl, pu_shr, pu_ushr, pu_nb0, pu_nb1, pu_ob1, pu_ob2, pu_ob3, pu_ob4, pu_nw, pu_n1, pu_n7, pu_n31, pu_n255, pu_md, pu_one, pu_sI1, pu_sI2, pu_sA1, pu_sA21, pu_sA222, pu_sAe, pu_sAn, pu_sJ1, pu_sJ21, pu_sJ221, pu_sF1, pu_sF21, pu_sF222, pu_sFe, pu_sFn, pu_upe, pu_upn, Nat.reduceAdd, Nat.reduceSub, Nat.reduceMul, Nat.reduceMod, Nat.reduceAnd, Nat.reducePow, Nat.reduceEqDiff, Nat.add_zero, Nat.zero_add, Bool.false_eq_true, f2, f3, h2, h8]
theorem x12_look (hM : RM M V) (hw : WF V) {t k : Nat} (ht : t < V 0) (hk : k < mny V t) : F_X12_lookOf M (nI t) (nI k) = some (nI (lk V t k)) := by
  have hm := mny_le V t
  obtain ⟨w0, w1, w23, w44, w42, w2, w45, -⟩ := hw
  have h1 := w2 t ht
  have h45 := w45 t ht
  have g2 := hM (2 + t) (by omega)
  have g45 := hM (45 + t) (by omega)
  have hk8 : k < 8 := by omega
  unfold mny at hk
  unfold F_X12_lookOf F_X12_lookOf_51 lk
  rcases (by omega : V (2 + t) = 0 ∨ V (2 + t) = 1 ∨ V (2 + t) = 2 ∨ V (2 + t) = 3) with h2 | h2 | h2 | h2
  · simp only [h2, if_true] at hk
    have hk0 : k = 0 := by omega
    subst hk0
    simp (disch := omega) only [↓pu_m1, pu_lit, ↓reduceIte, pu_leT, pu_leF, pu_ltT, pu_ltF, pu_eqT, pu_eqF, pu_eqO, pu_eqO2, pu_ltO, pu_leO, pu_subO, pu_subOF, pu_subT, pu_subF, pu_oobF, pu_clamp, pu_add, pu_sub, pu_mul, pu_and, pu_or, pu_xor, pu_xorO, pu_shl, pu_shr, pu_ushr, pu_nb0, pu_nb1, pu_ob1, pu_ob2, pu_ob3, pu_ob4, pu_nw, pu_n1, pu_n7, pu_n31, pu_n255, pu_md, pu_one, pu_sI1, pu_sI2, pu_sA1, pu_sA21, pu_sA222, pu_sAe, pu_sAn, pu_sJ1, pu_sJ21, pu_sJ221, pu_sF1, pu_sF21, pu_sF222, pu_sFe, pu_sFn, pu_upe, pu_upn, Nat.reduceAdd, Nat.reduceSub, Nat.reduceMul, Nat.reduceMod, Nat.reduceAnd, Nat.reducePow, Nat.reduceEqDiff, Nat.add_zero, Nat.zero_add, Bool.false_eq_true, g2, g45, h2]
  · simp only [h2, if_true, if_false, Nat.one_ne_zero] at hk
    rcases (by omega : k = 0 ∨ k = 1 ∨ k = 2) with e | e | e <;> subst e
    · simp (disch := omega) only [↓pu_m1, pu_lit, ↓reduceIte, pu_leT, pu_leF, pu_ltT, pu_ltF, pu_eqT, pu_eqF, pu_eqO, pu_eqO2, pu_ltO, pu_leO, pu_subO, pu_subOF, pu_subT, pu_subF, pu_oobF, pu_clamp, pu_add, pu_sub, pu_mul, pu_and, pu_or, pu_xor, pu_xorO, pu_shl, pu_shr, pu_ushr, pu_nb0, pu_nb1, pu_ob1, pu_ob2, pu_ob3, pu_ob4, pu_nw, pu_n1, pu_n7, pu_n31, pu_n255, pu_md, pu_one, pu_sI1, pu_sI2, pu_sA1, pu_sA21, pu_sA222, pu_sAe, pu_sAn, pu_sJ1, pu_sJ21, pu_sJ221, pu_sF1, pu_sF21, pu_sF222, pu_sFe, pu_sFn, pu_upe, pu_upn, Nat.reduceAdd, Nat.reduceSub, Nat.reduceMul, Nat.reduceMod, Nat.reduceAnd, Nat.reducePow, Nat.reduceEqDiff, Nat.add_zero, Nat.zero_add, Bool.false_eq_true, g2, g45, h2]
    · simp (disch := omega) only [↓pu_m1, pu_lit, ↓reduceIte, pu_leT, pu_leF, pu_ltT, pu_ltF, pu_eqT, pu_eqF, pu_eqO, pu_eqO2, pu_ltO, pu_leO, pu_subO, pu_subOF, pu_subT, pu_subF, pu_oobF, pu_clamp, pu_add, pu_sub, pu_mul, pu_and, pu_or, pu_xor, pu_xorO, pu_shl, pu_shr, pu_ushr, pu_nb0, pu_nb1, pu_ob1, pu_ob2, pu_ob3, pu_ob4, pu_nw, pu_n1, pu_n7, pu_n31, pu_n255, pu_md, pu_one, pu_sI1, pu_sI2, pu_sA1, pu_sA21, pu_sA222, pu_sAe, pu_sAn, pu_sJ1, pu_sJ21, pu_sJ221, pu_sF1, pu_sF21, pu_sF222, pu_sFe, pu_sFn, pu_upe, pu_upn, Nat.reduceAdd, Nat.reduceSub, Nat.reduceMul, Nat.reduceMod, Nat.reduceAnd, Nat.reducePow, Nat.reduceEqDiff, Nat.add_zero, Nat.zero_add, Bool.false_eq_true, g2, g45, h2, (sub8m _ h45).2]
    · simp (disch := omega) only [↓pu_m1, pu_lit, ↓reduceIte, pu_leT, pu_leF, pu_ltT, pu_ltF, pu_eqT, pu_eqF, pu_eqO, pu_eqO2, pu_ltO, pu_leO, pu_subO, pu_subOF, pu_subT, pu_subF, pu_oobF, pu_clamp, pu_add, pu_sub, pu_mul, pu_and, pu_or, pu_xor, pu_xorO, pu_shl, pu_shr, pu_ushr, pu_nb0, pu_nb1, pu_ob1, pu_ob2, pu_ob3, pu_ob4, pu_nw, pu_n1, pu_n7, pu_n31, pu_n255, pu_md, pu_one, pu_sI1, pu_sI2, pu_sA1, pu_sA21, pu_sA222, pu_sAe, pu_sAn, pu_sJ1, pu_sJ21, pu_sJ221, pu_sF1, pu_sF21, pu_sF222, pu_sFe, pu_sFn, pu_upe, pu_upn, Nat.reduceAdd, Nat.reduceSub, Nat.reduceMul, Nat.reduceMod, Nat.reduceAnd, Nat.reducePow, Nat.reduceEqDiff, Nat.add_zero, Nat.zero_add, Bool.false_eq_true, g2, g45, h2]
  · simp (disch := omega) only [↓pu_m1, pu_lit, ↓reduceIte, pu_leT, pu_leF, pu_ltT, pu_ltF, pu_eqT, pu_eqF, pu_eqO, pu_eqO2, pu_ltO, pu_leO, pu_subO, pu_subOF, pu_subT, pu_subF, pu_oobF, pu_clamp, pu_add, pu_sub, pu_mul, pu_and, pu_or, pu_xor, pu_xorO, pu_shl, pu_shr, pu_ushr, pu_nb0, pu_nb1, pu_ob1, pu_ob2, pu_ob3, pu_ob4, pu_nw, pu_n1, pu_n7, pu_n31, pu_n255, pu_md, pu_one, pu_sI1, pu_sI2, pu_sA1, pu_sA21, pu_sA222, pu_sAe, pu_sAn, pu_sJ1, pu_sJ21, pu_sJ221, pu_sF1, pu_sF21, pu_sF222, pu_sFe, pu_sFn, pu_upe, pu_upn, Nat.reduceAdd, Nat.reduceSub, Nat.reduceMul, Nat.reduceMod, Nat.reduceAnd, Nat.reducePow, Nat.reduceEqDiff, Nat.add_zero, Nat.zero_add, Bool.false_eq_true, g2, g45, h2]
  · have h8 := (sub8 _ h45 k hk8).2
    simp (disch := omega) only [↓pu_m1, pu_lit, ↓reduceIte, pu_leT, pu_leF, pu_ltT, pu_ltF, pu_eqT, pu_eqF, pu_eqO, pu_eqO2, pu_ltO, pu_leO, pu_subO, pu_subOF, pu_subT, pu_subF, pu_oobF, pu_clamp, pu_add, pu_sub, pu_mul, pu_and, pu_or, pu_xor, pu_xorO, pu_shl, pu_shr, pu_ushr, pu_nb0, pu_nb1, pu_ob1, pu_ob2, pu_ob3, pu_ob4, pu_nw, pu_n1, pu_n7, pu_n31, pu_n255, pu_md, pu_one, pu_sI1, pu_sI2, pu_sA1, pu_sA21, pu_sA222, pu_sAe, pu_sAn, pu_sJ1, pu_sJ21, pu_sJ221, pu_sF1, pu_sF21, pu_sF222, pu_sFe, pu_sFn, pu_upe, pu_upn, Nat.reduceAdd, Nat.reduceSub, Nat.reduceMul, Nat.reduceMod, Nat.reduceAnd, Nat.reducePow, Nat.reduceEqDiff, Nat.add_zero, Nat.zero_add, Bool.false_eq_true, g2, g45, h2, h8]
theorem x11_hav {s v : Nat} (hs : s < 256) (hv : v < 8) : F_X11_having (nI s) (nI v) = some (nI (hav s v)) := by
  unfold F_X11_having F_X11_opposite hav
  simp (disch := omega) only [↓pu_m1, pu_lit, ↓reduceIte, pu_leT, pu_leF, pu_ltT, pu_ltF, pu_eqT, pu_eqF, pu_eqO, pu_eqO2, pu_ltO, pu_leO, pu_subO, pu_subOF, pu_subT, pu_subF, pu_oobF, pu_clamp, pu_add, pu_sub, pu_mul, pu_and, pu_or, pu_xor, pu_xorO, pu_shl, pu_shr, pu_ushr, pu_nb0, pu_nb1, pu_ob1, pu_ob2, pu_ob3, pu_ob4, pu_nw, pu_n1, pu_n7, pu_n31, pu_n255, pu_md, pu_one, pu_sI1, pu_sI2, pu_sA1, pu_sA21, pu_sA222, pu_sAe, pu_sAn, pu_sJ1, pu_sJ21, pu_sJ221, pu_sF1, pu_sF21, pu_sF222, pu_sFe, pu_sFn, pu_upe, pu_upn, Nat.reduceAdd, Nat.reduceSub, Nat.reduceMul, Nat.reduceMod, Nat.reduceAnd, Nat.reducePow, Nat.reduceEqDiff, Nat.add_zero, Nat.zero_add, Bool.false_eq_true]
theorem x12_hav {s v : Nat} (hs : s < 256) (hv : v < 8) : F_X12_having (nI s) (nI v) = some (nI (hav s v)) := by
  have h4 : v ^^^ 4 < 8 := Nat.xor_lt_two_pow (n := 3) hv (by decide)
  unfold F_X12_having
  simp (disch := omega) only [↓pu_m1, pu_lit, ↓reduceIte, pu_leT, pu_leF, pu_ltT, pu_ltF, pu_eqT, pu_eqF, pu_eqO, pu_eqO2, pu_ltO, pu_leO, pu_subO, pu_subOF, pu_subT, pu_subF, pu_oobF, pu_clamp, pu_add, pu_sub, pu_mul, pu_and, pu_or, pu_xor, pu_xorO, pu_shl, pu_shr, pu_ushr, pu_nb0, pu_nb1, pu_ob1, pu_ob2, pu_ob3, pu_ob4, pu_nw, pu_n1, pu_n7, pu_n31, pu_n255, pu_md, pu_one, pu_sI1, pu_sI2, pu_sA1, pu_sA21, pu_sA222, pu_sAe, pu_sAn, pu_sJ1, pu_sJ21, pu_sJ221, pu_sF1, pu_sF21, pu_sF222, pu_sFe, pu_sFn, pu_upe, pu_upn, Nat.reduceAdd, Nat.reduceSub, Nat.reduceMul, Nat.reduceMod, Nat.reduceAnd, Nat.reducePow, Nat.reduceEqDiff, Nat.add_zero, Nat.zero_add, Bool.false_eq_true, (hav_tab s hs v hv).2]
theorem x8_after (hS : RS S V) (hw : WF V) {t x : Nat} (ht : t < V 0) (hx : x < 256) : F_X8_afterClimb S (nI x) (nI t) = some (nI (beh V t x)) := by
  have hm := mny_le V t
  unfold F_X8_afterClimb L_X8_afterClimb_12
  rw [x8_many hS hw ht]
  rw [pu_ob1]
  refine lp_up (fun i => (nI t, nI (behA V t x i), nI (mny V t), nI i, S)) (mny V t) (fun i hi k => ?_) (fun k => ?_) (pu_FU (by omega))
  · have h1 := behA_lt V t hx i
    have h2 := lk_lt V t i
    show F_X8_afterClimb_12 k (nI t) (nI (behA V t x i)) (nI (mny V t)) (nI i) S = _
    unfold F_X8_afterClimb_12
    simp (disch := omega) only [↓pu_m1, pu_lit, ↓reduceIte, pu_leT, pu_leF, pu_ltT, pu_ltF, pu_eqT, pu_eqF, pu_eqO, pu_eqO2, pu_ltO, pu_leO, pu_subO, pu_subOF, pu_subT, pu_subF, pu_oobF, pu_clamp, pu_add, pu_sub, pu_mul, pu_and, pu_or, pu_xor, pu_xorO, pu_shl, pu_shr, pu_ushr, pu_nb0, pu_nb1, pu_ob1, pu_ob2, pu_ob3, pu_ob4, pu_nw, pu_n1, pu_n7, pu_n31, pu_n255, pu_md, pu_one, pu_sI1, pu_sI2, pu_sA1, pu_sA21, pu_sA222, pu_sAe, pu_sAn, pu_sJ1, pu_sJ21, pu_sJ221, pu_sF1, pu_sF21, pu_sF222, pu_sFe, pu_sFn, pu_upe, pu_upn, Nat.reduceAdd, Nat.reduceSub, Nat.reduceMul, Nat.reduceMod, Nat.reduceAnd, Nat.reducePow, Nat.reduceEqDiff, Nat.add_zero, Nat.zero_add, Bool.false_eq_true, x8_look hS hw ht hi, x11_hav h1 h2, behA]
  · show F_X8_afterClimb_12 k (nI t) (nI (behA V t x (mny V t))) (nI (mny V t)) (nI (mny V t)) S = _
    unfold F_X8_afterClimb_12
    simp (disch := omega) only [↓pu_m1, pu_lit, ↓reduceIte, pu_leT, pu_leF, pu_ltT, pu_ltF, pu_eqT, pu_eqF, pu_eqO, pu_eqO2, pu_ltO, pu_leO, pu_subO, pu_subOF, pu_subT, pu_subF, pu_oobF, pu_clamp, pu_add, pu_sub, pu_mul, pu_and, pu_or, pu_xor, pu_xorO, pu_shl, pu_shr, pu_ushr, pu_nb0, pu_nb1, pu_ob1, pu_ob2, pu_ob3, pu_ob4, pu_nw, pu_n1, pu_n7, pu_n31, pu_n255, pu_md, pu_one, pu_sI1, pu_sI2, pu_sA1, pu_sA21, pu_sA222, pu_sAe, pu_sAn, pu_sJ1, pu_sJ21, pu_sJ221, pu_sF1, pu_sF21, pu_sF222, pu_sFe, pu_sFn, pu_upe, pu_upn, Nat.reduceAdd, Nat.reduceSub, Nat.reduceMul, Nat.reduceMod, Nat.reduceAnd, Nat.reducePow, Nat.reduceEqDiff, Nat.add_zero, Nat.zero_add, Bool.false_eq_true, beh]
theorem x12_behind (hM : RM M V) (hw : WF V) {t x : Nat} (ht : t < V 0) (hx : x < 256) : F_X12_behindOf M (nI x) (nI t) = some (nI (beh V t x)) := by
  have hm := mny_le V t
  unfold F_X12_behindOf L_X12_behindOf_5
  refine lp_up (fun i => (nI t, nI (behA V t x i), nI i, M)) (mny V t) (fun i hi k => ?_) (fun k => ?_) (pu_FU (by omega))
  · have h1 := behA_lt V t hx i
    have h2 := lk_lt V t i
    show F_X12_behindOf_5 k (nI t) (nI (behA V t x i)) (nI i) M = _
    unfold F_X12_behindOf_5
    simp (disch := omega) only [↓pu_m1, pu_lit, ↓reduceIte, pu_leT, pu_leF, pu_ltT, pu_ltF, pu_eqT, pu_eqF, pu_eqO, pu_eqO2, pu_ltO, pu_leO, pu_subO, pu_subOF, pu_subT, pu_subF, pu_oobF, pu_clamp, pu_add, pu_sub, pu_mul, pu_and, pu_or, pu_xor, pu_xorO, pu_shl, pu_shr, pu_ushr, pu_nb0, pu_nb1, pu_ob1, pu_ob2, pu_ob3, pu_ob4, pu_nw, pu_n1, pu_n7, pu_n31, pu_n255, pu_md, pu_one, pu_sI1, pu_sI2, pu_sA1, pu_sA21, pu_sA222, pu_sAe, pu_sAn, pu_sJ1, pu_sJ21, pu_sJ221, pu_sF1, pu_sF21, pu_sF222, pu_sFe, pu_sFn, pu_upe, pu_upn, Nat.reduceAdd, Nat.reduceSub, Nat.reduceMul, Nat.reduceMod, Nat.reduceAnd, Nat.reducePow, Nat.reduceEqDiff, Nat.add_zero, Nat.zero_add, Bool.false_eq_true, x12_many hM hw ht, x12_look hM hw ht hi, x12_hav h1 h2, behA]
  · show F_X12_behindOf_5 k (nI t) (nI (behA V t x (mny V t))) (nI (mny V t)) M = _
    unfold F_X12_behindOf_5
    simp (disch := omega) only [↓pu_m1, pu_lit, ↓reduceIte, pu_leT, pu_leF, pu_ltT, pu_ltF, pu_eqT, pu_eqF, pu_eqO, pu_eqO2, pu_ltO, pu_leO, pu_subO, pu_subOF, pu_subT, pu_subF, pu_oobF, pu_clamp, pu_add, pu_sub, pu_mul, pu_and, pu_or, pu_xor, pu_xorO, pu_shl, pu_shr, pu_ushr, pu_nb0, pu_nb1, pu_ob1, pu_ob2, pu_ob3, pu_ob4, pu_nw, pu_n1, pu_n7, pu_n31, pu_n255, pu_md, pu_one, pu_sI1, pu_sI2, pu_sA1, pu_sA21, pu_sA222, pu_sAe, pu_sAn, pu_sJ1, pu_sJ21, pu_sJ221, pu_sF1, pu_sF21, pu_sF222, pu_sFe, pu_sFn, pu_upe, pu_upn, Nat.reduceAdd, Nat.reduceSub, Nat.reduceMul, Nat.reduceMod, Nat.reduceAnd, Nat.reducePow, Nat.reduceEqDiff, Nat.add_zero, Nat.zero_add, Bool.false_eq_true, x12_many hM hw ht, beh]
theorem x8_lookB (hS : RS S V) (hw : WF V) {t : Nat} (ht : t < V 0) : F_X8_lookBits S (nI t) = some (nI (lookB V t)) := by
  have hm := mny_le V t
  unfold F_X8_lookBits L_X8_lookBits_11
  rw [x8_many hS hw ht]
  rw [pu_ob1]
  refine lp_up (fun i => (nI t, nI (lookA V t i), nI (mny V t), nI i, S)) (mny V t) (fun i hi k => ?_) (fun k => ?_) (pu_FU (by omega))
  · have h2 := lk_lt V t i
    show F_X8_lookBits_11 k (nI t) (nI (lookA V t i)) (nI (mny V t)) (nI i) S = _
    unfold F_X8_lookBits_11
    simp (disch := omega) only [↓pu_m1, pu_lit, ↓reduceIte, pu_leT, pu_leF, pu_ltT, pu_ltF, pu_eqT, pu_eqF, pu_eqO, pu_eqO2, pu_ltO, pu_leO, pu_subO, pu_subOF, pu_subT, pu_subF, pu_oobF, pu_clamp, pu_add, pu_sub, pu_mul, pu_and, pu_or, pu_xor, pu_xorO, pu_shl, pu_shr, pu_ushr, pu_nb0, pu_nb1, pu_ob1, pu_ob2, pu_ob3, pu_ob4, pu_nw, pu_n1, pu_n7, pu_n31, pu_n255, pu_md, pu_one, pu_sI1, pu_sI2, pu_sA1, pu_sA21, pu_sA222, pu_sAe, pu_sAn, pu_sJ1, pu_sJ21, pu_sJ221, pu_sF1, pu_sF21, pu_sF222, pu_sFe, pu_sFn, pu_upe, pu_upn, Nat.reduceAdd, Nat.reduceSub, Nat.reduceMul, Nat.reduceMod, Nat.reduceAnd, Nat.reducePow, Nat.reduceEqDiff, Nat.add_zero, Nat.zero_add, Bool.false_eq_true, x8_look hS hw ht hi, lookA]
  · show F_X8_lookBits_11 k (nI t) (nI (lookA V t (mny V t))) (nI (mny V t)) (nI (mny V t)) S = _
    unfold F_X8_lookBits_11
    simp (disch := omega) only [↓pu_m1, pu_lit, ↓reduceIte, pu_leT, pu_leF, pu_ltT, pu_ltF, pu_eqT, pu_eqF, pu_eqO, pu_eqO2, pu_ltO, pu_leO, pu_subO, pu_subOF, pu_subT, pu_subF, pu_oobF, pu_clamp, pu_add, pu_sub, pu_mul, pu_and, pu_or, pu_xor, pu_xorO, pu_shl, pu_shr, pu_ushr, pu_nb0, pu_nb1, pu_ob1, pu_ob2, pu_ob3, pu_ob4, pu_nw, pu_n1, pu_n7, pu_n31, pu_n255, pu_md, pu_one, pu_sI1, pu_sI2, pu_sA1, pu_sA21, pu_sA222, pu_sAe, pu_sAn, pu_sJ1, pu_sJ21, pu_sJ221, pu_sF1, pu_sF21, pu_sF222, pu_sFe, pu_sFn, pu_upe, pu_upn, Nat.reduceAdd, Nat.reduceSub, Nat.reduceMul, Nat.reduceMod, Nat.reduceAnd, Nat.reducePow, Nat.reduceEqDiff, Nat.add_zero, Nat.zero_add, Bool.false_eq_true, lookB]
theorem x12_lookB (hM : RM M V) (hw : WF V) {t : Nat} (ht : t < V 0) : F_X12_looksOf M (nI t) = some (nI (lookB V t)) := by
  have hm := mny_le V t
  unfold F_X12_looksOf L_X12_looksOf_4
  refine lp_up (fun i => (nI t, nI (lookA V t i), nI i, M)) (mny V t) (fun i hi k => ?_) (fun k => ?_) (pu_FU (by omega))
  · have h2 := lk_lt V t i
    show F_X12_looksOf_4 k (nI t) (nI (lookA V t i)) (nI i) M = _
    unfold F_X12_looksOf_4
    simp (disch := omega) only [↓pu_m1, pu_lit, ↓reduceIte, pu_leT, pu_leF, pu_ltT, pu_ltF, pu_eqT, pu_eqF, pu_eqO, pu_eqO2, pu_ltO, pu_leO, pu_subO, pu_subOF, pu_subT, pu_subF, pu_oobF, pu_clamp, pu_add, pu_sub, pu_mul, pu_and, pu_or, pu_xor, pu_xorO, pu_shl, pu_shr, pu_ushr, pu_nb0, pu_nb1, pu_ob1, pu_ob2, pu_ob3, pu_ob4, pu_nw, pu_n1, pu_n7, pu_n31, pu_n255, pu_md, pu_one, pu_sI1, pu_sI2, pu_sA1, pu_sA21, pu_sA222, pu_sAe, pu_sAn, pu_sJ1, pu_sJ21, pu_sJ221, pu_sF1, pu_sF21, pu_sF222, pu_sFe, pu_sFn, pu_upe, pu_upn, Nat.reduceAdd, Nat.reduceSub, Nat.reduceMul, Nat.reduceMod, Nat.reduceAnd, Nat.reducePow, Nat.reduceEqDiff, Nat.add_zero, Nat.zero_add, Bool.false_eq_true, x12_many hM hw ht, x12_look hM hw ht hi, lookA]
  · show F_X12_looksOf_4 k (nI t) (nI (lookA V t (mny V t))) (nI (mny V t)) M = _
    unfold F_X12_looksOf_4
    simp (disch := omega) only [↓pu_m1, pu_lit, ↓reduceIte, pu_leT, pu_leF, pu_ltT, pu_ltF, pu_eqT, pu_eqF, pu_eqO, pu_eqO2, pu_ltO, pu_leO, pu_subO, pu_subOF, pu_subT, pu_subF, pu_oobF, pu_clamp, pu_add, pu_sub, pu_mul, pu_and, pu_or, pu_xor, pu_xorO, pu_shl, pu_shr, pu_ushr, pu_nb0, pu_nb1, pu_ob1, pu_ob2, pu_ob3, pu_ob4, pu_nw, pu_n1, pu_n7, pu_n31, pu_n255, pu_md, pu_one, pu_sI1, pu_sI2, pu_sA1, pu_sA21, pu_sA222, pu_sAe, pu_sAn, pu_sJ1, pu_sJ21, pu_sJ221, pu_sF1, pu_sF21, pu_sF222, pu_sFe, pu_sFn, pu_upe, pu_upn, Nat.reduceAdd, Nat.reduceSub, Nat.reduceMul, Nat.reduceMod, Nat.reduceAnd, Nat.reducePow, Nat.reduceEqDiff, Nat.add_zero, Nat.zero_add, Bool.false_eq_true, x12_many hM hw ht, lookB]
end P1
