/-! the pure part: numbers as nI n, loops by their course -/
def nO : Int32 := -1
theorem pu_m1 : (-1 : Int32) = nO := rfl
theorem pu_lit (n : Nat) : (OfNat.ofNat n : Int32) = nI (OfNat.ofNat n) := rfl
theorem pu_leT {a b : Nat} (h : a ≤ b) (hb : b < 2147483648) : (nI a ≤ nI b) = True := eq_true (nI_le h hb)
theorem pu_leF {a b : Nat} (h : b < a) (ha : a < 2147483648) : (nI a ≤ nI b) = False := eq_false (nI_ge h ha)
theorem pu_ltT {a b : Nat} (h : a < b) (hb : b < 2147483648) : (nI a < nI b) = True := eq_true (nI_lt h hb)
theorem pu_ltF {a b : Nat} (h : b ≤ a) (ha : a < 2147483648) : (nI a < nI b) = False := eq_false (nI_nlt h ha)
theorem pu_eqT {a b : Nat} (h : a = b) : (nI a = nI b) = True := eq_true (by rw [h])
theorem pu_eqF {a b : Nat} (h : a ≠ b) (ha : a < 2147483648) (hb : b < 2147483648) : (nI a = nI b) = False := eq_false (fun e => h ((nI_eq ha hb).mp e))
theorem pu_nOneg : nO < 0 := by decide
theorem pu_eqO {a : Nat} (ha : a < 2147483648) : (nI a = nO) = False := eq_false (fun e => nI_pos ha (by rw [e]; exact pu_nOneg))
theorem pu_eqO2 {a : Nat} (ha : a < 2147483648) : (nO = nI a) = False := eq_false (fun e => nI_pos ha (by rw [← e]; exact pu_nOneg))
theorem pu_toO : nO.toInt = -1 := by decide
theorem pu_ltO {a : Nat} (ha : a < 2147483648) : (nO < nI a) = True := eq_true (by rw [Int32.lt_iff_toInt_lt, nI_toInt ha, pu_toO]; omega)
theorem pu_leO {a : Nat} (ha : a < 2147483648) : (nI a ≤ nO) = False := eq_false (by rw [Int32.le_iff_toInt_le, nI_toInt ha, pu_toO]; omega)
theorem pu_leO2 {a : Nat} (ha : a < 2147483648) : (nO ≤ nI a) = True := eq_true (by rw [Int32.le_iff_toInt_le, nI_toInt ha, pu_toO]; omega)
theorem pu_ltO2 {a : Nat} (ha : a < 2147483648) : (nI a < nO) = False := eq_false (by rw [Int32.lt_iff_toInt_lt, nI_toInt ha, pu_toO]; omega)
theorem pu_add (a b : Nat) : nI a + nI b = nI (a + b) := nI_add a b
theorem pu_mul (a b : Nat) : nI a * nI b = nI (a * b) := pk_mul a b
theorem pu_sub {a b : Nat} (h : b ≤ a) : nI a - nI b = nI (a - b) := pk_sub h
theorem pu_sub0 : nI 0 - nI 1 = nO := by decide
theorem pu_subO {u : Nat} (h : u = 0) : (nI u - nI 1 = nO) = True := eq_true (by rw [h]; exact pu_sub0)
theorem pu_subOF {u : Nat} (h : 0 < u) (hu : u < 2147483648) : (nI u - nI 1 = nO) = False := eq_false (by rw [pu_sub (by omega : 1 ≤ u)]; rw [pu_eqO (by omega)]; exact id)
theorem pu_subT {u t : Nat} (h : u = t + 1) : (nI u - nI 1 = nI t) = True := eq_true (by rw [h, pu_sub (by omega)]; rfl)
theorem pu_subF {u t : Nat} (h : u ≠ t + 1) (hu : u < 2147483648) (ht : t < 2147483648) : (nI u - nI 1 = nI t) = False := by
  by_cases h0 : u = 0
  · subst h0; rw [pu_sub0]; exact pu_eqO2 ht
  · rw [pu_sub (by omega : 1 ≤ u)]; exact pu_eqF (by omega) (by omega) ht
theorem pu_clamp {n : Nat} (h : n < 2147483648) : (nI n).toNatClampNeg = n := nI_clamp h
theorem pu_oobF {i n : Nat} (h : i < n) (hi : i < 2147483648) : (oob (nI i) n) = False := eq_false (fun h1 => by
  rcases h1 with h1 | h1
  · exact nI_pos hi h1
  · rw [pu_clamp hi] at h1; omega)
theorem pu_and (a b : Nat) : nI a &&& nI b = nI (a &&& b) := by
  apply Int32.toBitVec_inj.1
  show BitVec.ofNat 32 a &&& BitVec.ofNat 32 b = BitVec.ofNat 32 (a &&& b)
  apply BitVec.eq_of_getLsbD_eq
  intro i hi
  simp [hi]
theorem pu_or (a b : Nat) : nI a ||| nI b = nI (a ||| b) := by
  apply Int32.toBitVec_inj.1
  show BitVec.ofNat 32 a ||| BitVec.ofNat 32 b = BitVec.ofNat 32 (a ||| b)
  apply BitVec.eq_of_getLsbD_eq
  intro i hi
  simp [hi]
theorem pu_xor (a b : Nat) : nI a ^^^ nI b = nI (a ^^^ b) := by
  apply Int32.toBitVec_inj.1
  show BitVec.ofNat 32 a ^^^ BitVec.ofNat 32 b = BitVec.ofNat 32 (a ^^^ b)
  apply BitVec.eq_of_getLsbD_eq
  intro i hi
  simp [hi]
theorem pu_nOn : nO = nI 4294967295 := by decide
theorem pu_xorO (a : Nat) : nI a ^^^ nO = nI (a ^^^ 4294967295) := by rw [pu_nOn, pu_xor]
theorem pu_sm : ∀ k, k < 32 → ((nI k).toBitVec.smod 32).toNat = k := by decide +kernel
theorem pu_su : ∀ k, k < 32 → (((nI k).toUInt32 &&& (nI 31).toUInt32).toBitVec % 32).toNat = k := by decide +kernel
theorem pu_p32 {n k : Nat} (h : n * 2 ^ k < 4294967296) : n * 2 ^ k < 2 ^ 32 := h
theorem pu_shl {a i : Nat} (hi : i < 32) : nI a <<< nI i = nI (a * 2 ^ i) := by
  have h := pk_shl (nI a) (nI i) i (pu_sm i hi)
  apply Int32.toBitVec_inj.1
  apply BitVec.eq_of_toNat_eq
  rw [h]
  show (BitVec.ofNat 32 a).toNat * 2 ^ i % 2 ^ 32 = (BitVec.ofNat 32 (a * 2 ^ i)).toNat
  rw [BitVec.toNat_ofNat, BitVec.toNat_ofNat, Nat.mod_mul_mod]
theorem pu_shr {n i : Nat} (hi : i < 32) (hn : n < 2147483648) : nI n >>> nI i = nI (n / 2 ^ i) := pk_shrN hn (nI i) i (pu_sm i hi)
theorem pu_ushr {n i : Nat} (hi : i < 32) (hn : n < 4294967296) : ((nI n).toUInt32 >>> ((nI i).toUInt32 &&& (nI 31).toUInt32)).toInt32 = nI (n / 2 ^ i) := pk_ushrN hn (nI i) i (pu_su i hi)
theorem pu_nb0 : nb (nI 0) = False := eq_false (by decide)
theorem pu_nb1 : nb (nI 1) = False := eq_false (by decide)
theorem pu_ob1 {α β : Type} (a : α) (k : α → Option β) : ob1 (some a) k = k a := rfl
theorem pu_ob2 {α γ β : Type} (a : α) (c : γ) (k : α → γ → Option β) : ob2 (some (a, c)) k = k a c := rfl
theorem pu_ob3 {α γ δ β : Type} (a : α) (c : γ) (d : δ) (k : α → γ → δ → Option β) : ob3 (some (a, c, d)) k = k a c d := rfl
theorem pu_ob4 {α γ δ ε β : Type} (a : α) (c : γ) (d : δ) (e : ε) (k : α → γ → δ → ε → Option β) : ob4 (some (a, c, d, e)) k = k a c d e := rfl
theorem pu_nw {α β : Type} (a : α) (k : α → β) : nw a k = k a := rfl
theorem pu_n1 (n : Nat) : n &&& 1 = n % 2 := Nat.and_two_pow_sub_one_eq_mod n 1
theorem pu_n7 (n : Nat) : n &&& 7 = n % 8 := Nat.and_two_pow_sub_one_eq_mod n 3
theorem pu_n31 (n : Nat) : n &&& 31 = n % 32 := Nat.and_two_pow_sub_one_eq_mod n 5
theorem pu_n255 (n : Nat) : n &&& 255 = n % 256 := Nat.and_two_pow_sub_one_eq_mod n 8
theorem pu_md {a b : Nat} (h : a < b) : a % b = a := Nat.mod_eq_of_lt h
theorem pu_one (a : Nat) : 1 * a = a := Nat.one_mul a
/-! reading new states -/
section PR
variable {S : St} {f g : Nat} {i : Int32} {v : Int32} {w : Int64} {F : Nat → Int32}
theorem pu_sI1 (S : St) (k : Nat) (v : Int32) (j : Nat) : (sI S k v).1 j = if j = k then v else S.1 j := rfl
theorem pu_sI2 : (sI S f v).2 = S.2 := rfl
theorem pu_sA1 : (sA S f i v).1 = S.1 := rfl
theorem pu_sA21 : (sA S f i v).2.1 = S.2.1 := rfl
theorem pu_sA222 : (sA S f i v).2.2.2 = S.2.2.2 := rfl
theorem pu_sAe {n : Nat} (hn : n < 2147483648) (j : Nat) : (sA S f (nI n) v).2.2.1 f j = if j = n then v else S.2.2.1 f j := by
  show va_up S.2.2.1 f (upd (S.2.2.1 f) (nI n).toNatClampNeg v) f j = _
  rw [pu_clamp hn]
  simp [va_up, upd]
theorem pu_sAn (h : g ≠ f) : (sA S f i v).2.2.1 g = S.2.2.1 g := by
  show va_up S.2.2.1 f _ g = _
  simp [va_up, h]
theorem pu_sJ1 : (sJ S f i w).1 = S.1 := rfl
theorem pu_sJ21 : (sJ S f i w).2.1 = S.2.1 := rfl
theorem pu_sJ221 : (sJ S f i w).2.2.1 = S.2.2.1 := rfl
theorem pu_sJe {n : Nat} (hn : n < 2147483648) (j : Nat) : (sJ S f (nI n) w).2.2.2 f j = if j = n then w else S.2.2.2 f j := by
  show va_up S.2.2.2 f (vp_updL (S.2.2.2 f) (nI n).toNatClampNeg w) f j = _
  rw [pu_clamp hn]
  simp [va_up, vp_updL]
theorem pu_sJn (h : g ≠ f) : (sJ S f i w).2.2.2 g = S.2.2.2 g := by
  show va_up S.2.2.2 f _ g = _
  simp [va_up, h]
theorem pu_sF1 : (sF S f F).1 = S.1 := rfl
theorem pu_sF21 : (sF S f F).2.1 = S.2.1 := rfl
theorem pu_sF222 : (sF S f F).2.2.2 = S.2.2.2 := rfl
theorem pu_sFe : (sF S f F).2.2.1 f = F := by show va_up S.2.2.1 f F f = F; simp [va_up]
theorem pu_sFn (h : g ≠ f) : (sF S f F).2.2.1 g = S.2.2.1 g := by show va_up S.2.2.1 f F g = _; simp [va_up, h]
theorem pu_sFF (G : Nat → Int32) : sF (sF S f F) f G = sF S f G := by
  show (S.1, S.2.1, va_up (va_up S.2.2.1 f F) f G, S.2.2.2) = (S.1, S.2.1, va_up S.2.2.1 f G, S.2.2.2)
  rw [bx_uu]
theorem pu_sFsame : sF S f (S.2.2.1 f) = S := by
  show (S.1, S.2.1, va_up S.2.2.1 f (S.2.2.1 f), S.2.2.2) = S
  have : va_up S.2.2.1 f (S.2.2.1 f) = S.2.2.1 := by
    funext j
    by_cases h : j = f
    · subst h; simp [va_up]
    · simp [va_up, h]
  rw [this]
theorem pu_sAF {n : Nat} (hn : n < 2147483648) : sA S f (nI n) v = sF S f (upd (S.2.2.1 f) n v) := by
  show sF S f (upd (S.2.2.1 f) (nI n).toNatClampNeg v) = _
  rw [pu_clamp hn]
end PR
/-! numbers kept as a row -/
abbrev Vt : Type := Nat → Nat
def up (V : Vt) (k v : Nat) : Vt := fun j => if j = k then v else V j
theorem pu_upe (V : Vt) (k v : Nat) : up V k v k = v := by simp [up]
theorem pu_upn {V : Vt} {k v j : Nat} (h : j ≠ k) : up V k v j = V j := by simp [up, h]
/-! loops -/
theorem pu_FU {n : Nat} (h : n < 1000000) : n < FU := h
theorem lp_up {α β : Type} {body : (α → Option β) → α → Option β} (f : Nat → α) (n : Nat) {o : β} (hs : ∀ i, i < n → ∀ k, body k (f i) = k (f (i + 1))) (he : ∀ k, body k (f n) = some o) {N : Nat} (hN : n < N) : lp body N (f 0) = some o := by
  have h : ∀ d i, i + d = n → ∀ N, d < N → lp body N (f i) = some o := by
    intro d
    induction d with
    | zero =>
      intro i hi N hN
      obtain ⟨N, rfl⟩ : ∃ k, N = k + 1 := ⟨N - 1, by omega⟩
      have e : i = n := by omega
      subst e
      exact he _
    | succ d ih =>
      intro i hi N hN
      obtain ⟨N, rfl⟩ : ∃ k, N = k + 1 := ⟨N - 1, by omega⟩
      show body (lp body N) (f i) = some o
      rw [hs i (by omega)]
      exact ih (i + 1) (by omega) N (by omega)
  exact h n 0 (by omega) N hN
/-- the first of n numbers from i on that has it; behind all of them, if none has -/
def fs (P : Nat → Bool) : Nat → Nat → Nat
  | 0, i => i
  | d + 1, i => if P i = true then i else fs P d (i + 1)
theorem fs_le (P : Nat → Bool) : ∀ d i, i ≤ fs P d i ∧ fs P d i ≤ i + d := by
  intro d
  induction d with
  | zero => intro i; exact ⟨Nat.le_refl _, Nat.le_refl _⟩
  | succ d ih =>
    intro i
    have h := ih (i + 1)
    simp only [fs]
    split <;> omega
theorem fs_at (P : Nat → Bool) : ∀ d i, fs P d i < i + d → P (fs P d i) = true := by
  intro d
  induction d with
  | zero => intro i h; simp only [fs] at h; omega
  | succ d ih =>
    intro i h
    by_cases hp : P i = true
    · simp only [fs, hp, if_true]
    · rw [fs, if_neg hp] at h ⊢
      exact ih (i + 1) (by omega)
theorem fs_no (P : Nat → Bool) : ∀ d i j, i ≤ j → j < fs P d i → P j = false := by
  intro d
  induction d with
  | zero => intro i j h1 h2; simp only [fs] at h2; omega
  | succ d ih =>
    intro i j h1 h2
    by_cases hp : P i = true
    · simp only [fs, hp, if_true] at h2; omega
    · by_cases e : j = i
      · subst e; simpa using hp
      · rw [fs, if_neg hp] at h2
        exact ih (i + 1) j (by omega) h2
theorem fs_cong {P Q : Nat → Bool} : ∀ d i, (∀ j, i ≤ j → j < i + d → P j = Q j) → fs P d i = fs Q d i := by
  intro d
  induction d with
  | zero => intro i _; rfl
  | succ d ih =>
    intro i h
    simp only [fs]
    rw [h i (by omega) (by omega), ih (i + 1) (fun j h1 h2 => h j (by omega) (by omega))]
theorem fs_succ (P : Nat → Bool) (n : Nat) : fs P (n + 1) 0 < n + 1 ↔ (fs P n 0 < n ∨ P n = true) := by
  constructor
  · intro h
    have h1 := fs_at P (n + 1) 0 (by omega)
    by_cases e : fs P n 0 < n
    · exact Or.inl e
    · right
      have h2 := (fs_le P n 0).2
      have h3 : fs P n 0 = n := by omega
      by_cases h4 : fs P (n + 1) 0 = n
      · rw [h4] at h1; exact h1
      · have := fs_no P n 0 (fs P (n + 1) 0) (Nat.zero_le _) (by omega)
        rw [this] at h1; cases h1
  · intro h
    have h2 := (fs_le P (n + 1) 0).2
    by_cases e : fs P (n + 1) 0 < n + 1
    · exact e
    · have e2 : fs P (n + 1) 0 = n + 1 := by omega
      rcases h with h | h
      · have h3 := fs_at P n 0 (by omega)
        rw [fs_no P (n + 1) 0 (fs P n 0) (Nat.zero_le _) (by omega)] at h3; cases h3
      · rw [fs_no P (n + 1) 0 n (Nat.zero_le _) (by omega)] at h; cases h
def wI (n r : Nat) : Int32 := if r < n then nI r else nO
theorem wI_lt {n r : Nat} (h : r < n) : wI n r = nI r := by simp [wI, h]
theorem wI_ge {n r : Nat} (h : n ≤ r) : wI n r = nO := by simp [wI, Nat.not_lt.mpr h]
theorem lp_fs {α β : Type} {body : (α → Option β) → α → Option β} (P : Nat → Bool) (f : Nat → α) (n : Nat) (g : Int32 → β) (hf : ∀ i, i < n → P i = true → ∀ k, body k (f i) = some (g (nI i))) (hs : ∀ i, i < n → P i = false → ∀ k, body k (f i) = k (f (i + 1))) (he : ∀ k, body k (f n) = some (g nO)) {N : Nat} (hN : n < N) : lp body N (f 0) = some (g (wI n (fs P n 0))) := by
  have h : ∀ d i, i + d = n → ∀ N, d < N → lp body N (f i) = some (g (wI n (fs P d i))) := by
    intro d
    induction d with
    | zero =>
      intro i hi N hN
      obtain ⟨N, rfl⟩ : ∃ k, N = k + 1 := ⟨N - 1, by omega⟩
      have e : i = n := by omega
      subst e
      simp only [fs, wI, Nat.lt_irrefl, if_false]
      exact he _
    | succ d ih =>
      intro i hi N hN
      obtain ⟨N, rfl⟩ : ∃ k, N = k + 1 := ⟨N - 1, by omega⟩
      show body (lp body N) (f i) = some (g (wI n (fs P (d + 1) i)))
      by_cases hp : P i = true
      · rw [hf i (by omega) hp]
        simp only [fs, hp, if_true, wI, (by omega : i < n)]
      · rw [hs i (by omega) (by simpa using hp)]
        simp only [fs, hp, if_false]
        exact ih (i + 1) (by omega) N (by omega)
  exact h n 0 (by omega) N hN
/-- bits gathered -/
def bA (P : Nat → Bool) : Nat → Nat
  | 0 => 0
  | t + 1 => bA P t ||| (if P t = true then 2 ^ t else 0)
theorem bA_cong {P Q : Nat → Bool} : ∀ n, (∀ t, t < n → P t = Q t) → bA P n = bA Q n := by
  intro n
  induction n with
  | zero => intro _; rfl
  | succ n ih => intro h; simp only [bA]; rw [ih (fun t ht => h t (by omega)), h n (by omega)]
theorem bA_lt (P : Nat → Bool) : ∀ n, bA P n < 2 ^ n := by
  intro n
  induction n with
  | zero => exact Nat.one_pos
  | succ n ih =>
    simp only [bA]
    have h1 : bA P n < 2 ^ (n + 1) := Nat.lt_trans ih (by rw [Nat.pow_succ]; have := Nat.two_pow_pos n; omega)
    refine Nat.or_lt_two_pow h1 ?_
    split
    · exact Nat.pow_lt_pow_right (by omega) (by omega)
    · exact Nat.two_pow_pos _
theorem bA_bit (P : Nat → Bool) : ∀ n j, (bA P n).testBit j = (decide (j < n) && P j) := by
  intro n
  induction n with
  | zero => intro j; simp [bA]
  | succ n ih =>
    intro j
    simp only [bA, Nat.testBit_or, ih]
    by_cases hp : P n = true
    · simp only [hp, if_true, Nat.testBit_two_pow]
      by_cases e : n = j
      · subst e; simp [hp]
      · have : (j < n + 1) = (j < n) := propext ⟨fun h => by omega, fun h => by omega⟩
        simp [e, this]
    · simp only [hp, if_false, Nat.zero_testBit, Bool.or_false]
      by_cases e : n = j
      · subst e; simp at hp; simp [hp]
      · have : (j < n + 1) = (j < n) := propext ⟨fun h => by omega, fun h => by omega⟩
        simp [this]
theorem bit_tb (w t : Nat) : (w / 2 ^ t % 2 = 1) ↔ w.testBit t = true := by
  rw [Nat.testBit_eq_decide_div_mod_eq, decide_eq_true_eq]
theorem bA_b1 (P : Nat → Bool) (n j : Nat) (h : j < n) : bA P n / 2 ^ j % 2 = if P j = true then 1 else 0 := by
  have h1 := bit_tb (bA P n) j
  rw [bA_bit] at h1
  have h2 := Nat.mod_two_eq_zero_or_one (bA P n / 2 ^ j)
  by_cases hp : P j = true
  · rw [if_pos hp]; exact h1.mpr (by simp [h, hp])
  · rw [if_neg hp]
    rcases h2 with h2 | h2
    · exact h2
    · have := h1.mp h2; simp [hp] at this
