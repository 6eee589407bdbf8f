/-! tokens: what both sides split a text into -/
def sS (c : Nat) : Bool := decide (97 ≤ c) && decide (c ≤ 122)
def sD (c : Nat) : Bool := decide (48 ≤ c) && decide (c ≤ 57)
def sR (c : Nat) : Bool := sS c || sD c
def sB (c : Nat) : Bool := c == 32 || c == 10
def sM (c : Nat) : Bool := c == 59 || c == 40 || c == 41 || c == 60 || c == 61 || c == 62
theorem tab_run : ∀ c, c < 256 → F_X5_isRunSign (nI c) = some (nI (tn (sR c))) := by decide +kernel
theorem tab_mark : ∀ c, c < 256 → F_X5_isMarkSign (nI c) = some (nI (tn (sM c))) := by decide +kernel
theorem tab_small : ∀ c, c < 256 → F_X12_isSmall (nI c) = some (nI (tn (sS c))) := by decide +kernel
theorem tab_digit : ∀ c, c < 256 → F_X12_isDigit (nI c) = some (nI (tn (sD c))) := by decide +kernel
theorem tab_nO : F_X12_isSmall nO = some (nI 0) ∧ F_X12_isDigit nO = some (nI 0) := by decide
theorem tab_bl : ∀ c, c < 256 → (sB c = true ↔ (c = 32 ∨ c = 10)) ∧ (sB c = true → sR c = false) ∧ (sR c = false → sS c = false ∧ sD c = false) ∧ (sS c = true → 97 ≤ c ∧ c ≤ 122) ∧ (sR c = true → sS c = false → 48 ≤ c ∧ c ≤ 57 ∧ sD c = true) ∧ (c < 97 ∨ sR c = false ∨ sS c = true) := by decide +kernel
/-- where the next token begins; where a run ends; what comes behind a token -/
def sk (b : Vt) (n p : Nat) : Nat := fs (fun i => !sB (b i)) (n - p) p
def re (b : Vt) (n q : Nat) : Nat := fs (fun i => !sR (b i)) (n - q) q
def nxt (b : Vt) (n q : Nat) : Nat := if sR (b q) = true then re b n q else q + 1
def ps (b : Vt) (n : Nat) : Nat → Nat
  | 0 => 0
  | k + 1 => nxt b n (sk b n (ps b n k))
def tq (b : Vt) (n k : Nat) : Nat := sk b n (ps b n k)
theorem sk_ge {b : Vt} {n p : Nat} (h : n ≤ p) : sk b n p = p := by
  unfold sk
  rw [show n - p = 0 from by omega]
  rfl
theorem sk_blank {b : Vt} {n p : Nat} (h : p < n) (hb : sB (b p) = true) : sk b n p = sk b n (p + 1) := by
  unfold sk
  rw [show n - p = (n - (p + 1)) + 1 from by omega, fs, if_neg (by rw [hb]; exact Bool.false_ne_true)]
theorem sk_at {b : Vt} {n p : Nat} (h : p < n) (hb : sB (b p) = false) : sk b n p = p := by
  unfold sk
  rw [show n - p = (n - (p + 1)) + 1 from by omega, fs, if_pos (by rw [hb]; rfl)]
theorem sk_le {b : Vt} {n p : Nat} : p ≤ sk b n p := (fs_le _ _ _).1
theorem sk_le2 {b : Vt} {n p : Nat} (h : p ≤ n) : sk b n p ≤ n := by
  have := (fs_le (fun i => !sB (b i)) (n - p) p).2
  unfold sk
  omega
theorem sk_nb {b : Vt} {n p : Nat} (h : sk b n p < n) : sB (b (sk b n p)) = false := by
  by_cases hp : p ≤ n
  · have := fs_at (fun i => !sB (b i)) (n - p) p (by unfold sk at h; omega)
    have h2 : (!sB (b (sk b n p))) = true := this
    cases hc : sB (b (sk b n p)) with
    | false => rfl
    | true => rw [hc] at h2; cases h2
  · rw [sk_ge (by omega)] at h; omega
theorem re_gt {b : Vt} {n q : Nat} (hq : q < n) (h : sR (b q) = true) : q < re b n q ∧ re b n q ≤ n := by
  unfold re
  rw [show n - q = (n - (q + 1)) + 1 from by omega, fs, if_neg (by rw [h]; exact Bool.false_ne_true)]
  have := fs_le (fun i => !sR (b i)) (n - (q + 1)) (q + 1)
  omega
theorem re_in {b : Vt} {n q j : Nat} (h1 : q ≤ j) (h2 : j < re b n q) : sR (b j) = true := by
  have := fs_no (fun i => !sR (b i)) (n - q) q j h1 h2
  cases hc : sR (b j) with
  | true => rfl
  | false => rw [hc] at this; cases this
theorem re_end {b : Vt} {n q : Nat} (h : re b n q < n) (hq : q ≤ n) : sR (b (re b n q)) = false := by
  have := fs_at (fun i => !sR (b i)) (n - q) q (by unfold re at h; omega)
  have h2 : (!sR (b (re b n q))) = true := this
  cases hc : sR (b (re b n q)) with
  | false => rfl
  | true => rw [hc] at h2; cases h2
/-- the letters of a run, the last one first; its digits' number; how many letters -/
def lw (b : Vt) (q : Nat) : Nat → List Nat
  | 0 => []
  | m + 1 => (b (q + m) - 96) :: lw b q m
def nv (b : Vt) (q : Nat) : Nat → Nat
  | 0 => 0
  | m + 1 => 10 * nv b q m + (b (q + m) - 48)
def ct (b : Vt) (q : Nat) : Nat → Nat
  | 0 => 0
  | m + 1 => ct b q m + tn (sS (b (q + m)))
theorem lw_len (b : Vt) (q : Nat) : ∀ m, (lw b q m).length = m := by
  intro m
  induction m with
  | zero => rfl
  | succ m ih => simp only [lw, List.length_cons]; rw [ih]
theorem ct_le (b : Vt) (q : Nat) : ∀ m, ct b q m ≤ m := by
  intro m
  induction m with
  | zero => exact Nat.le_refl _
  | succ m ih => have := tn_le (sS (b (q + m))); simp only [ct]; omega
theorem ct_all {b : Vt} {q : Nat} : ∀ m, ct b q m = m ↔ ∀ j, j < m → sS (b (q + j)) = true := by
  intro m
  induction m with
  | zero => exact ⟨fun _ j hj => by omega, fun _ => rfl⟩
  | succ m ih =>
    have h1 := ct_le b q m
    have h2 := tn_le (sS (b (q + m)))
    simp only [ct]
    constructor
    · intro h j hj
      have h3 : ct b q m = m := by omega
      by_cases e : j = m
      · subst e
        cases hc : sS (b (q + j)) with
        | true => rfl
        | false => rw [hc] at h; simp only [tn, Bool.false_eq_true, if_false] at h; omega
      · exact ih.mp h3 j (by omega)
    · intro h
      have h3 := ih.mpr (fun j hj => h j (by omega))
      rw [h m (by omega), h3]; rfl
theorem ct_none {b : Vt} {q : Nat} : ∀ m, ct b q m = 0 ↔ ∀ j, j < m → sS (b (q + j)) = false := by
  intro m
  induction m with
  | zero => exact ⟨fun _ j hj => by omega, fun _ => rfl⟩
  | succ m ih =>
    simp only [ct]
    constructor
    · intro h j hj
      have h3 : ct b q m = 0 := by omega
      by_cases e : j = m
      · subst e
        cases hc : sS (b (q + j)) with
        | false => rfl
        | true => rw [hc] at h; simp only [tn, if_true] at h; omega
      · exact ih.mp h3 j (by omega)
    · intro h
      have h3 := ih.mpr (fun j hj => h j (by omega))
      rw [h m (by omega), h3]; rfl
theorem lw_ok {b : Vt} {q m : Nat} (hb : ∀ i, b i < 256) (h : ct b q m = m) : ∀ c, c ∈ lw b q m → 1 ≤ c ∧ c ≤ 26 := by
  induction m with
  | zero => intro c hc; cases hc
  | succ m ih =>
    have h2 := (ct_all (m + 1)).mp h
    intro c hc
    simp only [lw, List.mem_cons] at hc
    rcases hc with rfl | hc
    · have := ((tab_bl _ (hb (q + m))).2.2.2.1) (h2 m (by omega))
      omega
    · exact ih ((ct_all m).mpr (fun j hj => h2 j (by omega))) c hc
theorem nv_lt {b : Vt} {q : Nat} : ∀ m, (∀ j, j < m → 48 ≤ b (q + j) ∧ b (q + j) ≤ 57) → nv b q m < 10 ^ m := by
  intro m
  induction m with
  | zero => intro _; exact Nat.one_pos
  | succ m ih =>
    intro h
    have h1 := ih (fun j hj => h j (by omega))
    have h2 := h m (by omega)
    simp only [nv, Nat.pow_succ]
    omega
def wsort (l : List Nat) : Nat := fs (fun i => wl i == l) 36 0
theorem wsort_le (l : List Nat) : wsort l ≤ 36 := by have := (fs_le (fun i => wl i == l) 36 0).2; unfold wsort; omega
/-- what a token that begins at q is: 1 a word, 2 a number, 3 a mark, 4 none -/
def tkd (b : Vt) (n q : Nat) : Nat := if sR (b q) = true then (if ct b q (re b n q - q) = re b n q - q ∧ re b n q - q ≤ 7 then 1 else if ct b q (re b n q - q) = 0 ∧ re b n q - q ≤ 3 then 2 else 4) else if sM (b q) = true then 3 else 4
section P23
variable {R P M : St} {b : Vt} {n lim : Nat}
def TPc (P : St) (b : Vt) (n : Nat) : Prop := n ≤ 940 ∧ (∀ i, b i < 256) ∧ P.1 1 = nI n ∧ ∀ i, i < n → P.2.2.1 0 i = nI (b i)
/-- the entry of the class's rows for a token that begins at q -/
def ENT (R : St) (b : Vt) (n k q : Nat) : Prop := R.2.2.1 2 k = nI q ∧ (tkd b n q = 1 → R.2.2.1 3 k = nI (wsort (lw b q (re b n q - q))) ∧ R.2.2.2 4 k = lN (r32 (lw b q (re b n q - q)))) ∧ (tkd b n q = 2 → R.2.2.1 3 k = nI 37 ∧ R.2.2.2 4 k = lN (nv b q (re b n q - q))) ∧ (tkd b n q = 3 → R.2.2.1 3 k = nI 38 ∧ R.2.2.2 4 k = lN (b q)) ∧ (tkd b n q = 4 → R.2.2.1 3 k = nI 39)
theorem x5_add {k : Nat} (h : R.1 5 = nI k) (hk : k < 901) (x y : Int32) (v : Int64) : ∃ R', F_X5_addToken R x y v = some R' ∧ R'.1 5 = nI (k + 1) ∧ (∀ j, R'.2.2.1 2 j = if j = k then x else R.2.2.1 2 j) ∧ (∀ j, R'.2.2.1 3 j = if j = k then y else R.2.2.1 3 j) ∧ (∀ j, R'.2.2.2 4 j = if j = k then v else R.2.2.2 4 j) ∧ R'.2.2.2 1 = R.2.2.2 1 := by
  refine ⟨sI (sJ (sA (sA R 2 (nI k) x) 3 (nI k) y) 4 (nI k) v) 5 (nI (k + 1)), ?_, rfl, fun j => ?_, fun j => ?_, fun j => ?_, ?_⟩
  · unfold F_X5_addToken
    simp (disch := omega) only [↓pu_m1, pu_lit, ↓reduceIte, pu_leT, pu_leF, pu_ltT, pu_ltF, pu_eqT, pu_eqF, pu_eqO, pu_eqO2, pu_ltO, pu_leO, pu_subO, pu_subOF, pu_subT, pu_subF, pu_oobF, pu_clamp, pu_add, pu_sub, pu_mul, pu_and, pu_or, pu_xor, pu_xorO, pu_shl, pu_shr, pu_ushr, pu_nb0, pu_nb1, pu_ob1N, pu_ob2N, pu_ob3N, pu_ob4N, pu_nwN, pu_n1, pu_n7, pu_n31, pu_n255, pu_md, pu_one, pu_sI1, pu_sI2, pu_sA1, pu_sA21, pu_sA222, pu_sAe, pu_sAn, pu_sJ1, pu_sJ21, pu_sJ221, pu_sF1, pu_sF21, pu_sF222, pu_sFe, pu_sFn, pu_upe, pu_upn, Nat.reduceAdd, Nat.reduceSub, Nat.reduceMul, Nat.reduceMod, Nat.reduceAnd, Nat.reducePow, Nat.reduceEqDiff, Nat.add_zero, Nat.zero_add, Bool.false_eq_true, Nat.add_sub_cancel, h]
  · rw [pu_sI2, pu_sJ221, pu_sAn (by omega), pu_sAe (by omega)]
  · rw [pu_sI2, pu_sJ221, pu_sAe (by omega), pu_sAn (by omega)]
  · rw [pu_sI2, pu_sJe (by omega)]; rfl
  · rw [pu_sI2, pu_sJn (by omega)]; rfl
theorem x5_sort (hR : RW R) {l : List Nat} (ho : OKl l) : F_X5_wordSort R (lN (r32 l)) = some (nI (wsort l)) := by
  unfold F_X5_wordSort L_X5_wordSort_2 wsort
  have hlt := OK_32 ho
  have hcmp : ∀ i, i < 36 → (lg_cmp (R.2.2.2 1 i) (lN (r32 l)) = 0 ↔ (wl i == l) = true) := by
    intro i hi
    have h1 := OK_32 (wl_OK hi)
    rw [lgc, hR i hi, pk_lEQ (by omega) (by omega), beq_iff_eq]
    exact ⟨fun e => r32_inj _ _ (wl_OK hi).2 ho.2 e, fun e => by rw [e]⟩
  refine lp_fsG (fun i => wl i == l) (fun i => (lN (r32 l), nI i, R)) 36 (fun r => some (nI r)) (fun i hi hP k => ?_) (fun i hi hP k => ?_) (fun k => ?_) (pu_FU (by omega))
  · show F_X5_wordSort_2 k (lN (r32 l)) (nI i) R = _
    have hc := (hcmp i hi).mpr hP
    unfold F_X5_wordSort_2
    rw [if_neg (show ¬ (36 : Int32) ≤ nI i from nI_ge (a := i) (b := 36) hi (by omega)), if_neg (by rw [pu_oobF hi (by omega)]; exact id), pu_clamp (by omega), if_pos hc]
  · show F_X5_wordSort_2 k (lN (r32 l)) (nI i) R = _
    have hc : ¬ lg_cmp (R.2.2.2 1 i) (lN (r32 l)) = 0 := fun e => by have := (hcmp i hi).mp e; rw [hP] at this; cases this
    unfold F_X5_wordSort_2
    rw [if_neg (show ¬ (36 : Int32) ≤ nI i from nI_ge (a := i) (b := 36) hi (by omega)), if_neg (by rw [pu_oobF hi (by omega)]; exact id), pu_clamp (by omega), if_neg hc, nI_1]
  · show F_X5_wordSort_2 k (lN (r32 l)) (nI 36) R = _
    unfold F_X5_wordSort_2
    rw [if_pos (by decide)]
    rfl
/-- the class's sums over a run -/
def wv (b : Vt) (q : Nat) : Nat → Int64
  | 0 => 0
  | m + 1 => wv b q m * 32 + (nI (b (q + m)) - 96).toInt64
def dv (b : Vt) (q : Nat) : Nat → Int64
  | 0 => 0
  | m + 1 => dv b q m * 10 + (nI (b (q + m)) - 48).toInt64
theorem wv_ok {q : Nat} (hb : ∀ i, b i < 256) : ∀ m, ct b q m = m → wv b q m = lN (r32 (lw b q m)) := by
  intro m
  induction m with
  | zero => intro _; rfl
  | succ m ih =>
    intro h
    have h2 := (ct_all (m + 1)).mp h
    have h3 := ih ((ct_all m).mpr (fun j hj => h2 j (by omega)))
    have h4 := ((tab_bl _ (hb (q + m))).2.2.2.1) (h2 m (by omega))
    simp only [wv, lw, r32]
    rw [h3, show nI (b (q + m)) - 96 = nI (b (q + m) - 96) from pu_sub (a := b (q + m)) (b := 96) (by omega), nI_l (by omega), show (32 : Int64) = lN 32 from rfl, lN_mul, lN_add, Nat.add_comm, Nat.mul_comm]
theorem dv_ok {q : Nat} (hb : ∀ i, b i < 256) : ∀ m, (∀ j, j < m → 48 ≤ b (q + j) ∧ b (q + j) ≤ 57) → dv b q m = lN (nv b q m) := by
  intro m
  induction m with
  | zero => intro _; rfl
  | succ m ih =>
    intro h
    have h3 := ih (fun j hj => h j (by omega))
    have h4 := h m (by omega)
    simp only [dv, nv]
    rw [h3, show nI (b (q + m)) - 48 = nI (b (q + m) - 48) from pu_sub (a := b (q + m)) (b := 48) (by omega), nI_l (by omega), show (10 : Int64) = lN 10 from rfl, lN_mul, lN_add, Nat.mul_comm]
theorem x5_run {k q : Nat} (hT : TPc P b n) (hR : RW R) (h5 : R.1 5 = nI k) (hk : k < 901) (hq : q < n) (hr : sR (b q) = true) : ∃ R', F_X5_splitRun R P (nI q) = some (nI (re b n q), R') ∧ ENT R' b n k q ∧ R'.1 5 = nI (k + 1) ∧ (∀ j, j ≠ k → R'.2.2.1 2 j = R.2.2.1 2 j ∧ R'.2.2.1 3 j = R.2.2.1 3 j ∧ R'.2.2.2 4 j = R.2.2.2 4 j) ∧ R'.2.2.2 1 = R.2.2.2 1 := by
  obtain ⟨t1, t2, t3, t4⟩ := hT
  obtain ⟨r1, r2⟩ := re_gt hq hr
  have hlp : F_X5_splitRun R P (nI q) = F_X5_splitRun_99 (nI q) (nI (ct b q (re b n q - q))) (wv b q (re b n q - q)) (dv b q (re b n q - q)) (nI (re b n q)) R P := by
    unfold F_X5_splitRun L_X5_splitRun_10
    have key := lp_upO (body := fun kz z => F_X5_splitRun_10 kz z.1 z.2.1 z.2.2.1 z.2.2.2.1 z.2.2.2.2.1 z.2.2.2.2.2.1 z.2.2.2.2.2.2) (fun m => (nI q, nI (ct b q m), wv b q m, dv b q m, nI (q + m), R, P)) (re b n q - q) (o := F_X5_splitRun_99 (nI q) (nI (ct b q (re b n q - q))) (wv b q (re b n q - q)) (dv b q (re b n q - q)) (nI (re b n q)) R P) (fun m hm kk => ?_) (fun kk => ?_) (pu_FU (by omega : re b n q - q < 1000000))
    · exact key
    · have hin := re_in (b := b) (n := n) (q := q) (j := q + m) (by omega) (by omega)
      have g := t4 (q + m) (by omega)
      have hrs := tab_run _ (t2 (q + m))
      rw [hin] at hrs
      have hrs : F_X5_isRunSign (nI (b (q + m))) = some (nI 1) := hrs
      have h97 := (tab_bl _ (t2 (q + m))).2.2.2.2.2
      have h97b := (tab_bl _ (t2 (q + m))).2.2.2.1
      have hb := t2 (q + m)
      show F_X5_splitRun_10 kk (nI q) (nI (ct b q m)) (wv b q m) (dv b q m) (nI (q + m)) R P = kk (nI q, nI (ct b q (m + 1)), wv b q (m + 1), dv b q (m + 1), nI (q + (m + 1)), R, P)
      unfold F_X5_splitRun_10 F_X5_splitRun_63
      simp only [ct, wv, dv]
      have hcp : (nI (q + m)).toNatClampNeg = q + m := pu_clamp (by omega)
      rw [t3, if_neg (nI_ge (by omega) (by omega)), if_neg (by rw [pu_oobF (by omega) (by omega)]; exact id)]
      simp only [hcp, g, hrs, pu_ob1N]
      rw [if_neg (show ¬ nI 1 = 0 from by decide), if_neg (by rw [pu_oobF (by omega) (by omega)]; exact id)]
      cases hc : sS (b (q + m)) with
      | true =>
        have := h97b hc
        rw [if_neg (show ¬ nI (b (q + m)) < (97 : Int32) from nI_nlt (a := b (q + m)) (b := 97) (by omega) (by omega)), pu_nwN, pu_nwN]
        simp only [nI_1]
        rfl
      | false =>
        have h9 : b (q + m) < 97 := by
          rcases h97 with h | h | h
          · exact h
          · rw [hin] at h; cases h
          · rw [hc] at h; cases h
        rw [if_pos (show nI (b (q + m)) < (97 : Int32) from nI_lt (a := b (q + m)) (b := 97) h9 (by omega)), pu_nwN, pu_nwN, show nI (ct b q m) + 0 = nI (ct b q m + 0) from nI_add _ 0, nI_1]
        rfl
    · show F_X5_splitRun_10 kk (nI q) (nI (ct b q (re b n q - q))) (wv b q (re b n q - q)) (dv b q (re b n q - q)) (nI (q + (re b n q - q))) R P = _
      rw [show q + (re b n q - q) = re b n q from by omega]
      unfold F_X5_splitRun_10
      rw [t3]
      by_cases hen : re b n q = n
      · rw [if_pos (nI_le (by omega) (by omega))]
      · have hen2 := re_end (b := b) (n := n) (q := q) (by omega) (by omega)
        have g := t4 (re b n q) (by omega)
        have hrs := tab_run _ (t2 (re b n q))
        rw [hen2] at hrs
        have hrs : F_X5_isRunSign (nI (b (re b n q))) = some (nI 0) := hrs
        have hcp : (nI (re b n q)).toNatClampNeg = re b n q := pu_clamp (by omega)
        rw [if_neg (nI_ge (by omega) (by omega)), if_neg (by rw [pu_oobF (by omega) (by omega)]; exact id)]
        simp only [hcp, g, hrs, pu_ob1N]
        rw [if_pos (by decide)]
  have hsub : nI (re b n q) - nI q = nI (re b n q - q) := pu_sub (by omega)
  have hcl := ct_le b q (re b n q - q)
  rw [hlp]
  unfold F_X5_splitRun_99 F_X5_splitRun_132 F_X5_splitRun_154
  rw [hsub]
  have hfin : ∀ (y : Int32) (v : Int64), (∀ R', (∀ j, R'.2.2.1 2 j = if j = k then nI q else R.2.2.1 2 j) → (∀ j, R'.2.2.1 3 j = if j = k then y else R.2.2.1 3 j) → (∀ j, R'.2.2.2 4 j = if j = k then v else R.2.2.2 4 j) → ENT R' b n k q) → ∃ R', (ob1 (F_X5_addToken R (nI q) y v) fun U => some (nI (re b n q), U)) = some (nI (re b n q), R') ∧ ENT R' b n k q ∧ R'.1 5 = nI (k + 1) ∧ (∀ j, j ≠ k → R'.2.2.1 2 j = R.2.2.1 2 j ∧ R'.2.2.1 3 j = R.2.2.1 3 j ∧ R'.2.2.2 4 j = R.2.2.2 4 j) ∧ R'.2.2.2 1 = R.2.2.2 1 := by
    intro y v hE
    obtain ⟨R', a1, a2, a3, a4, a5, a6⟩ := x5_add h5 hk (nI q) y v
    exact ⟨R', by rw [a1, pu_ob1N], hE R' a3 a4 a5, a2, fun j hj => ⟨by rw [a3, if_neg hj], by rw [a4, if_neg hj], by rw [a5, if_neg hj]⟩, a6⟩
  by_cases hall : ct b q (re b n q - q) = re b n q - q
  · rw [hall, if_pos rfl]
    by_cases h7 : re b n q - q ≤ 7
    · have hk1 : tkd b n q = 1 := by unfold tkd; rw [if_pos hr, if_pos ⟨hall, h7⟩]
      have ho : OKl (lw b q (re b n q - q)) := ⟨by rw [lw_len]; exact h7, lw_ok t2 hall⟩
      rw [if_neg (show ¬ (7 : Int32) < nI (re b n q - q) from nI_nlt (a := 7) (b := re b n q - q) h7 (by omega)), wv_ok t2 _ hall, x5_sort hR ho, pu_ob1N]
      refine hfin _ _ (fun R' e2 e3 e4 => ⟨by rw [e2, if_pos rfl], fun _ => ⟨by rw [e3, if_pos rfl], by rw [e4, if_pos rfl]⟩, fun e => by omega, fun e => by omega, fun e => by omega⟩)
    · have hk4 : tkd b n q = 4 := by
        unfold tkd
        rw [if_pos hr, if_neg (fun h => h7 h.2), if_neg (fun h => by omega)]
      rw [if_pos (show (7 : Int32) < nI (re b n q - q) from nI_lt (a := 7) (b := re b n q - q) (by omega) (by omega)), if_neg (nI_ne0 (by omega) (by omega))]
      refine hfin _ _ (fun R' e2 e3 e4 => ⟨by rw [e2, if_pos rfl], fun e => by omega, fun e => by omega, fun e => by omega, fun _ => by rw [e3, if_pos rfl]; rfl⟩)
  · rw [if_neg (fun e => hall ((nI_eq (by omega) (by omega)).mp e))]
    by_cases h0 : ct b q (re b n q - q) = 0
    · rw [h0, if_pos (by decide)]
      by_cases h3 : re b n q - q ≤ 3
      · have hk2 : tkd b n q = 2 := by unfold tkd; rw [if_pos hr, if_neg (fun h => hall h.1), if_pos ⟨h0, h3⟩]
        have hdig : ∀ j, j < re b n q - q → 48 ≤ b (q + j) ∧ b (q + j) ≤ 57 := fun j hj => by
          have hin := re_in (b := b) (n := n) (q := q) (j := q + j) (by omega) (by omega)
          have hns := (ct_none _).mp h0 j hj
          have := (tab_bl _ (t2 (q + j))).2.2.2.2.1 hin hns
          exact ⟨this.1, this.2.1⟩
        rw [if_neg (show ¬ (3 : Int32) < nI (re b n q - q) from nI_nlt (a := 3) (b := re b n q - q) h3 (by omega)), dv_ok t2 _ hdig]
        refine hfin _ _ (fun R' e2 e3 e4 => ⟨by rw [e2, if_pos rfl], fun e => by omega, fun _ => ⟨by rw [e3, if_pos rfl]; rfl, by rw [e4, if_pos rfl]⟩, fun e => by omega, fun e => by omega⟩)
      · have hk4 : tkd b n q = 4 := by
          unfold tkd
          rw [if_pos hr, if_neg (fun h => hall h.1), if_neg (fun h => h3 h.2)]
        rw [if_pos (show (3 : Int32) < nI (re b n q - q) from nI_lt (a := 3) (b := re b n q - q) (by omega) (by omega))]
        refine hfin _ _ (fun R' e2 e3 e4 => ⟨by rw [e2, if_pos rfl], fun e => by omega, fun e => by omega, fun e => by omega, fun _ => by rw [e3, if_pos rfl]; rfl⟩)
    · have hk4 : tkd b n q = 4 := by
        unfold tkd
        rw [if_pos hr, if_neg (fun h => hall h.1), if_neg (fun h => h0 h.1)]
      rw [if_neg (nI_ne0 (by omega) (by omega))]
      refine hfin _ _ (fun R' e2 e3 e4 => ⟨by rw [e2, if_pos rfl], fun e => by omega, fun e => by omega, fun e => by omega, fun _ => by rw [e3, if_pos rfl]; rfl⟩)
theorem x5_split {k i : Nat} (hT : TPc P b n) (hR : RW R) (h5 : R.1 5 = nI k) (hk : k < 901) (hi : i < n) : (sB (b i) = true ∧ F_X5_splitAt R P (nI i) = some (nI (i + 1), R)) ∨ (sB (b i) = false ∧ ∃ R', F_X5_splitAt R P (nI i) = some (nI (nxt b n i), R') ∧ ENT R' b n k i ∧ R'.1 5 = nI (k + 1) ∧ (∀ j, j ≠ k → R'.2.2.1 2 j = R.2.2.1 2 j ∧ R'.2.2.1 3 j = R.2.2.1 3 j ∧ R'.2.2.2 4 j = R.2.2.2 4 j) ∧ R'.2.2.2 1 = R.2.2.2 1) := by
  have hT' := hT
  obtain ⟨t1, t2, t3, t4⟩ := hT
  have g := t4 i hi
  have hb := t2 i
  have hrs := tab_run _ hb
  obtain ⟨u1, u2, u3, u4, u5, u6⟩ := tab_bl _ hb
  unfold F_X5_splitAt
  have hcp : (nI i).toNatClampNeg = i := pu_clamp (by omega)
  rw [if_neg (by rw [pu_oobF (by omega) (by omega)]; exact id)]
  simp only [hcp, g, hrs, pu_ob1N]
  cases hsb : sB (b i) with
  | true =>
    left
    refine ⟨rfl, ?_⟩
    rw [u2 hsb]
    rw [if_pos (by decide)]
    rcases u1.mp hsb with e | e
    · rw [e, if_pos (by decide), show (1 : Int32) = nI 1 from rfl, nI_add]
    · rw [e, if_neg (by decide), if_pos (by decide), show (1 : Int32) = nI 1 from rfl, nI_add]
  | false =>
    right
    refine ⟨rfl, ?_⟩
    have n1 : b i ≠ 32 := fun e => by have := u1.mpr (Or.inl e); rw [hsb] at this; cases this
    have n2 : b i ≠ 10 := fun e => by have := u1.mpr (Or.inr e); rw [hsb] at this; cases this
    cases hr : sR (b i) with
    | true =>
      obtain ⟨R', a1, a2⟩ := x5_run hT' hR h5 hk hi hr
      refine ⟨R', ?_, a2⟩
      rw [if_neg (by decide), a1, pu_ob2N]
      unfold nxt
      rw [if_pos hr]
    | false =>
      have hnx : nxt b n i = i + 1 := by unfold nxt; rw [if_neg (by rw [hr]; exact Bool.false_ne_true)]
      rw [if_pos (by decide), if_neg (show ¬ nI (b i) = (32 : Int32) from fun e => n1 ((nI_eq (b := 32) (by omega) (by omega)).mp e)), if_neg (show ¬ nI (b i) = (10 : Int32) from fun e => n2 ((nI_eq (b := 10) (by omega) (by omega)).mp e)), tab_mark _ hb, pu_ob1N, hnx]
      unfold F_X5_splitAt_51
      rw [nI_l (by omega)]
      cases hm : sM (b i) with
      | true =>
        have hk3 : tkd b n i = 3 := by unfold tkd; rw [if_neg (by rw [hr]; exact Bool.false_ne_true), if_pos hm]
        rw [if_neg (by decide)]
        obtain ⟨R', a1, a2, a3, a4, a5, a6⟩ := x5_add h5 hk (nI i) 38 (lN (b i))
        refine ⟨R', by rw [a1, pu_ob1N, show (1 : Int32) = nI 1 from rfl, nI_add], ⟨by rw [a3, if_pos rfl], fun e => by omega, fun e => by omega, fun _ => ⟨by rw [a4, if_pos rfl]; rfl, by rw [a5, if_pos rfl]⟩, fun e => by omega⟩, a2, fun j hj => ⟨by rw [a3, if_neg hj], by rw [a4, if_neg hj], by rw [a5, if_neg hj]⟩, a6⟩
      | false =>
        have hk4 : tkd b n i = 4 := by unfold tkd; rw [if_neg (by rw [hr]; exact Bool.false_ne_true), if_neg (by rw [hm]; exact Bool.false_ne_true)]
        rw [if_pos (by decide)]
        obtain ⟨R', a1, a2, a3, a4, a5, a6⟩ := x5_add h5 hk (nI i) 39 (lN (b i))
        refine ⟨R', by rw [a1, pu_ob1N, show (1 : Int32) = nI 1 from rfl, nI_add], ⟨by rw [a3, if_pos rfl], fun e => by omega, fun e => by omega, fun e => by omega, fun _ => by rw [a4, if_pos rfl]; rfl⟩, a2, fun j hj => ⟨by rw [a3, if_neg hj], by rw [a4, if_neg hj], by rw [a5, if_neg hj]⟩, a6⟩
/-- all of the class's rows -/
def CLS (R : St) (b : Vt) (n lim : Nat) : Prop := (R.1 7 = if lim < n then nI 1 else nI 0) ∧ ∀ k, (∀ j, j < k → tq b n j < min n lim) → k ≤ 900 ∧ (tq b n k < min n lim → ENT R b n k (tq b n k)) ∧ (min n lim ≤ tq b n k → R.2.2.1 2 k = nI (min n lim) ∧ R.2.2.1 3 k = nI 40)
theorem ENT_keep {R R' : St} {k q : Nat} (h : ENT R b n k q) (e : R'.2.2.1 2 k = R.2.2.1 2 k ∧ R'.2.2.1 3 k = R.2.2.1 3 k ∧ R'.2.2.2 4 k = R.2.2.2 4 k) : ENT R' b n k q := by
  obtain ⟨h1, h2, h3, h4, h5⟩ := h
  obtain ⟨e1, e2, e3⟩ := e
  exact ⟨by rw [e1]; exact h1, fun e => by rw [e2, e3]; exact h2 e, fun e => by rw [e2, e3]; exact h3 e, fun e => by rw [e2, e3]; exact h4 e, fun e => by rw [e2]; exact h5 e⟩
theorem x5_begin (hT : TPc P b n) (hR : RW R) (hl : lim ≤ 900) : ∃ R', F_X5_begin R P (nI lim) = some R' ∧ CLS R' b n lim ∧ R'.1 6 = nI 0 ∧ R'.1 8 = nI 0 ∧ R'.1 9 = nI 0 ∧ R'.2.2.2 1 = R.2.2.2 1 := by
  have hT' := hT
  obtain ⟨t1, t2, t3, t4⟩ := hT
  have hmin : (if nI lim < P.1 1 then nI lim else P.1 1) = nI (min n lim) := by
    rw [t3]
    by_cases h : lim < n
    · rw [if_pos (nI_lt h (by omega)), Nat.min_eq_right (by omega)]
    · rw [if_neg (nI_nlt (by omega) (by omega)), Nat.min_eq_left (by omega)]
  have hml : min n lim ≤ n := Nat.min_le_left _ _
  have hm9 : min n lim ≤ 900 := by omega
  have key := lp_inv (body := fun kz z => F_X5_begin_22 kz z.1 z.2.1 z.2.2.1 z.2.2.2.1 z.2.2.2.2.1 z.2.2.2.2.2) (fun i z => ∃ k s R', z = (nI lim, nI (min n lim), nI s, nI i, R', P) ∧ k ≤ i ∧ s ≤ n ∧ tq b n k = sk b n (max i s) ∧ (∀ j, j < k → tq b n j < min n lim ∧ ENT R' b n j (tq b n j)) ∧ R'.1 5 = nI k ∧ R'.2.2.2 1 = R.2.2.2 1) (min n lim) (fun R' => CLS R' b n lim ∧ R'.1 6 = nI 0 ∧ R'.1 8 = nI 0 ∧ R'.1 9 = nI 0 ∧ R'.2.2.2 1 = R.2.2.2 1) (fun i hi z hz => ?_) (fun z hz => ?_) (x0 := (nI lim, nI (min n lim), nI 0, nI 0, sI R 5 (nI 0), P)) ⟨0, 0, _, rfl, by omega, by omega, rfl, fun j hj => by omega, rfl, rfl⟩ (pu_FU (by omega : min n lim < 1000000))
  · obtain ⟨R', h1, h2⟩ := key
    refine ⟨R', ?_, h1⟩
    unfold F_X5_begin L_X5_begin_22
    rw [hmin, pu_nwN, pu_nwN]
    exact h2
  · obtain ⟨k, s, R', rfl, a1, a2, a3, a4, a5, a6⟩ := hz
    by_cases his : i < s
    · refine ⟨(nI lim, nI (min n lim), nI s, nI (i + 1), R', P), ⟨k, s, R', rfl, by omega, a2, ?_, a4, a5, a6⟩, fun kk => ?_⟩
      · rw [show max (i + 1) s = max i s from by omega]; exact a3
      · show F_X5_begin_22 kk (nI lim) (nI (min n lim)) (nI s) (nI i) R' P = _
        unfold F_X5_begin_22 F_X5_begin_41
        rw [if_neg (nI_ge hi (by omega)), if_pos (nI_lt his (by omega)), nI_1]
    · rw [show max i s = i from by omega] at a3
      have hgo : ∀ kk, F_X5_begin_22 kk (nI lim) (nI (min n lim)) (nI s) (nI i) R' P = ob2 (F_X5_splitAt R' P (nI i)) fun r7 U8 => kk (nI lim, nI (min n lim), r7, nI (i + 1), U8, P) := by
        intro kk
        unfold F_X5_begin_22 F_X5_begin_41
        rw [if_neg (nI_ge hi (by omega)), if_neg (nI_nlt (by omega) (by omega))]
        simp only [nI_1]
      rcases x5_split (R := R') hT' (fun j hj => by rw [a6]; exact hR j hj) a5 (by omega) (by omega : i < n) with ⟨b1, b2⟩ | ⟨b1, R2, b2, b3, b4, b5, b6⟩
      · refine ⟨(nI lim, nI (min n lim), nI (i + 1), nI (i + 1), R', P), ⟨k, i + 1, R', rfl, by omega, by omega, ?_, a4, a5, a6⟩, fun kk => ?_⟩
        · rw [Nat.max_self, a3, sk_blank (by omega) b1]
        · exact (hgo kk).trans (by rw [b2, pu_ob2N])
      · have hqk : tq b n k = i := by rw [a3, sk_at (by omega) b1]
        have hnx : nxt b n i ≤ n ∧ i + 1 ≤ nxt b n i := by
          unfold nxt
          split
          · rename_i hr
            have := re_gt (n := n) (by omega : i < n) hr
            omega
          · omega
        refine ⟨(nI lim, nI (min n lim), nI (nxt b n i), nI (i + 1), R2, P), ⟨k + 1, nxt b n i, R2, rfl, by omega, hnx.1, ?_, fun j hj => ?_, b4, b6.trans a6⟩, fun kk => ?_⟩
        · rw [show max (i + 1) (nxt b n i) = nxt b n i from by omega]
          show sk b n (nxt b n (tq b n k)) = _
          rw [hqk]
        · by_cases e : j = k
          · subst e
            rw [hqk]
            exact ⟨hi, b3⟩
          · obtain ⟨c1, c2⟩ := a4 j (by omega)
            exact ⟨c1, ENT_keep c2 (b5 j e)⟩
        · exact (hgo kk).trans (by rw [b2, pu_ob2N])
  · obtain ⟨k, s, R', rfl, a1, a2, a3, a4, a5, a6⟩ := hz
    have hge : min n lim ≤ tq b n k := by
      rw [a3]
      have := sk_le (b := b) (n := n) (p := max (min n lim) s)
      omega
    obtain ⟨R2, c1, c2, c3, c4, c5, c6⟩ := x5_add a5 (by omega) (nI (min n lim)) 40 (0 : Int64)
    have hcls : ∀ R3 : St, R3.2.2.1 2 = R2.2.2.1 2 → R3.2.2.1 3 = R2.2.2.1 3 → R3.2.2.2 4 = R2.2.2.2 4 → ∀ k', (∀ j, j < k' → tq b n j < min n lim) → k' ≤ 900 ∧ (tq b n k' < min n lim → ENT R3 b n k' (tq b n k')) ∧ (min n lim ≤ tq b n k' → R3.2.2.1 2 k' = nI (min n lim) ∧ R3.2.2.1 3 k' = nI 40) := by
      intro R3 d1 d2 d3 k' hk'
      have hkk : k' ≤ k := Nat.le_of_not_lt (fun h => by have := hk' k h; omega)
      refine ⟨by omega, fun hlt => ?_, fun hge2 => ?_⟩
      · have hne : k' ≠ k := fun e => by rw [e] at hlt; omega
        obtain ⟨-, e2⟩ := a4 k' (by omega)
        exact ENT_keep e2 ⟨by rw [d1, c3, if_neg hne], by rw [d2, c4, if_neg hne], by rw [d3, c5, if_neg hne]⟩
      · have he : k' = k := by
          apply Classical.byContradiction
          intro hne
          have := (a4 k' (by omega)).1
          omega
        rw [d1, d2, c3, c4, if_pos he, if_pos he]
        exact ⟨rfl, rfl⟩
    have hgo : ∀ kk, F_X5_begin_22 kk (nI lim) (nI (min n lim)) (nI s) (nI (min n lim)) R' P = if n ≤ lim then F_X5_begin_72 0 R2 P else F_X5_begin_72 1 R2 P := by
      intro kk
      unfold F_X5_begin_22
      rw [if_pos (nI_le (Nat.le_refl _) (by omega)), c1, pu_ob1N, t3]
      by_cases h : n ≤ lim
      · rw [if_pos h, if_pos (nI_le h (by omega))]
      · rw [if_neg h, if_neg (nI_ge (by omega) (by omega))]
    by_cases h : n ≤ lim
    · refine ⟨sI (sI (sI (sI R2 7 (nI 0)) 6 (nI 0)) 8 (nI 0)) 9 (nI 0), ⟨⟨?_, hcls _ rfl rfl rfl⟩, rfl, rfl, rfl, c6.trans a6⟩, fun kk => ?_⟩
      · rw [if_neg (by omega)]; rfl
      · refine (hgo kk).trans ?_
        rw [if_pos h]
        unfold F_X5_begin_72
        rw [if_neg (by intro h; exact h (Or.inl rfl))]
        rfl
    · refine ⟨sI (sI (sI (sI R2 7 (nI 1)) 6 (nI 0)) 8 (nI 0)) 9 (nI 0), ⟨⟨?_, hcls _ rfl rfl rfl⟩, rfl, rfl, rfl, c6.trans a6⟩, fun kk => ?_⟩
      · rw [if_pos (by omega)]; rfl
      · refine (hgo kk).trans ?_
        rw [if_neg h]
        unfold F_X5_begin_72
        rw [if_neg (by intro h; exact h (Or.inr rfl))]
        rfl
end P23
