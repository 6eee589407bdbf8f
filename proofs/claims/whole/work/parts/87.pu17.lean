/-! names: letters, the last one first; numbers to the base of 32 in the class, of 256 in the reference -/
theorem wb_tb (n : Nat) : (lN n).toBitVec = BitVec.ofNat 64 n := rfl
theorem wb_inj {a b : Int64} (h : a.toBitVec = b.toBitVec) : a = b := Int64.toBitVec_inj.mp h
theorem wb_tn {n : Nat} (h : n < 2 ^ 64) : (lN n).toBitVec.toNat = n := by rw [wb_tb, BitVec.toNat_ofNat, Nat.mod_eq_of_lt h]
theorem wb_c : ∀ k, k < 64 → ((nI k).toInt64 &&& 63) = lN k := by decide +kernel
theorem wb_cu : ∀ k, k < 64 → ((nI k).toInt64.toUInt64 &&& Int64.toUInt64 63) = UInt64.ofNat k := by decide +kernel
theorem wb_sm : ∀ k, k < 64 → (BitVec.ofNat 64 k).smod 64 = BitVec.ofNat 64 k := by decide +kernel
theorem wb_lt2 {a b : Nat} (h : a < b) : 2 ^ a < 2 ^ b := Nat.pow_lt_pow_right (by decide) h
theorem wb_shr {n k : Nat} (hn : n < 2 ^ 64) (hk : k < 64) : ((lN n).toUInt64 >>> ((nI k).toInt64.toUInt64 &&& Int64.toUInt64 63)).toInt64 = lN (n / 2 ^ k) := by
  rw [wb_cu k hk]
  apply wb_inj
  apply BitVec.eq_of_toNat_eq
  show ((lN n).toUInt64 >>> UInt64.ofNat k).toNat = (BitVec.ofNat 64 _).toNat
  have h1 : (UInt64.ofNat k).toNat = k := by
    show (BitVec.ofNat 64 k).toNat = k
    rw [BitVec.toNat_ofNat, Nat.mod_eq_of_lt (by omega)]
  have h2 : (lN n).toUInt64.toNat = n := wb_tn hn
  rw [UInt64.toNat_shiftRight, h1, h2, Nat.mod_eq_of_lt hk, Nat.shiftRight_eq_div_pow, BitVec.toNat_ofNat, Nat.mod_eq_of_lt (Nat.lt_of_le_of_lt (Nat.div_le_self _ _) hn)]
theorem wb_shl (n : Nat) {k : Nat} (hk : k < 64) : lN n <<< ((nI k).toInt64 &&& 63) = lN (n * 2 ^ k) := by
  rw [wb_c k hk]
  apply wb_inj
  rw [Int64.toBitVec_shiftLeft, wb_tb, wb_tb, wb_tb, wb_sm k hk]
  apply BitVec.eq_of_toNat_eq
  rw [BitVec.shiftLeft_eq', BitVec.toNat_shiftLeft, BitVec.toNat_ofNat, BitVec.toNat_ofNat, BitVec.toNat_ofNat, Nat.mod_eq_of_lt (show k < 2 ^ 64 by omega), Nat.shiftLeft_eq, Nat.mul_mod, Nat.mod_mod, ← Nat.mul_mod]
theorem wb_and {a b : Nat} (ha : a < 2 ^ 64) (hb : b < 2 ^ 64) : lN a &&& lN b = lN (a &&& b) := by
  apply wb_inj
  rw [Int64.toBitVec_and, wb_tb, wb_tb, wb_tb]
  apply BitVec.eq_of_toNat_eq
  rw [BitVec.toNat_and, BitVec.toNat_ofNat, BitVec.toNat_ofNat, BitVec.toNat_ofNat, Nat.mod_eq_of_lt ha, Nat.mod_eq_of_lt hb, Nat.mod_eq_of_lt (Nat.and_lt_two_pow _ hb)]
theorem wb_or {a b : Nat} (ha : a < 2 ^ 64) (hb : b < 2 ^ 64) : lN a ||| lN b = lN (a ||| b) := by
  apply wb_inj
  rw [Int64.toBitVec_or, wb_tb, wb_tb, wb_tb]
  apply BitVec.eq_of_toNat_eq
  rw [BitVec.toNat_or, BitVec.toNat_ofNat, BitVec.toNat_ofNat, BitVec.toNat_ofNat, Nat.mod_eq_of_lt ha, Nat.mod_eq_of_lt hb, Nat.mod_eq_of_lt (Nat.or_lt_two_pow ha hb)]
theorem wb_mask {n k : Nat} (hn : n < 2 ^ 64) (hk : k < 64) : lN n &&& lN (2 ^ k - 1) = lN (n % 2 ^ k) := by
  rw [wb_and hn (by have := wb_lt2 hk; omega), Nat.and_two_pow_sub_one_eq_mod]
theorem pf_lI {a : Nat} (h : a < 2 ^ 63) : (lN a).toInt = (a : Int) := lg_ofNat_toInt h
theorem pf_shr {a d : Nat} {D : Int64} (hD : (D.toBitVec.smod 64).toNat = d) (h : a < 2 ^ 62) : lN a >>> D = lN (a / 2 ^ d) := by
  have hd : a / 2 ^ d ≤ a := Nat.div_le_self _ _
  apply Int64.toInt_inj.mp
  have e : (lN a >>> D).toInt = (lN a).toInt >>> d := by
    rw [← hD]
    exact BitVec.toInt_sshiftRight ..
  rw [e, Int.shiftRight_eq_div_pow, pf_lI (by omega), pf_lI (by omega)]
  rfl
theorem lgc (x y : Int64) : lg_cmp x y = 0 ↔ x = y := by
  unfold lg_cmp
  by_cases h : x = y
  · subst h
    rw [if_neg (Int64.lt_irrefl), if_pos rfl]
    simp
  · by_cases h2 : x > y
    · rw [if_pos h2]
      exact ⟨fun e => absurd e (by decide), fun e => absurd e h⟩
    · rw [if_neg h2, if_neg h]
      exact ⟨fun e => absurd e (by decide), fun e => absurd e h⟩
def r32 : List Nat → Nat
  | [] => 0
  | c :: l => c + 32 * r32 l
def r256 : List Nat → Nat
  | [] => 0
  | c :: l => (c + 96) + 256 * r256 l
def OKl (l : List Nat) : Prop := l.length ≤ 7 ∧ ∀ c, c ∈ l → 1 ≤ c ∧ c ≤ 26
theorem r32_inj : ∀ l l', (∀ c, c ∈ l → 1 ≤ c ∧ c ≤ 26) → (∀ c, c ∈ l' → 1 ≤ c ∧ c ≤ 26) → r32 l = r32 l' → l = l' := by
  intro l
  induction l with
  | nil =>
    intro l' _ h' e
    cases l' with
    | nil => rfl
    | cons c l' => have := h' c (List.mem_cons_self ..); simp only [r32] at e; omega
  | cons c l ih =>
    intro l' h h' e
    have hc := h c (List.mem_cons_self ..)
    cases l' with
    | nil => simp only [r32] at e; omega
    | cons c' l' =>
      have hc' := h' c' (List.mem_cons_self ..)
      simp only [r32] at e
      have e1 : c = c' := by omega
      have e2 : r32 l = r32 l' := by omega
      rw [e1, ih l' (fun x hx => h x (List.mem_cons_of_mem _ hx)) (fun x hx => h' x (List.mem_cons_of_mem _ hx)) e2]
theorem r256_inj : ∀ l l', (∀ c, c ∈ l → 1 ≤ c ∧ c ≤ 26) → (∀ c, c ∈ l' → 1 ≤ c ∧ c ≤ 26) → r256 l = r256 l' → l = l' := by
  intro l
  induction l with
  | nil =>
    intro l' _ h' e
    cases l' with
    | nil => rfl
    | cons c l' => have := h' c (List.mem_cons_self ..); simp only [r256] at e; omega
  | cons c l ih =>
    intro l' h h' e
    have hc := h c (List.mem_cons_self ..)
    cases l' with
    | nil => simp only [r256] at e; omega
    | cons c' l' =>
      have hc' := h' c' (List.mem_cons_self ..)
      simp only [r256] at e
      have e1 : c = c' := by omega
      have e2 : r256 l = r256 l' := by omega
      rw [e1, ih l' (fun x hx => h x (List.mem_cons_of_mem _ hx)) (fun x hx => h' x (List.mem_cons_of_mem _ hx)) e2]
theorem r32_lt : ∀ l, (∀ c, c ∈ l → 1 ≤ c ∧ c ≤ 26) → r32 l < 32 ^ l.length := by
  intro l
  induction l with
  | nil => intro _; exact Nat.one_pos
  | cons c l ih =>
    intro h
    have hc := h c (List.mem_cons_self ..)
    have := ih (fun x hx => h x (List.mem_cons_of_mem _ hx))
    simp only [r32, List.length_cons, Nat.pow_succ]
    omega
theorem r256_lt : ∀ l, (∀ c, c ∈ l → 1 ≤ c ∧ c ≤ 26) → r256 l < 256 ^ l.length := by
  intro l
  induction l with
  | nil => intro _; exact Nat.one_pos
  | cons c l ih =>
    intro h
    have hc := h c (List.mem_cons_self ..)
    have := ih (fun x hx => h x (List.mem_cons_of_mem _ hx))
    simp only [r256, List.length_cons, Nat.pow_succ]
    omega
theorem OK_32 {l : List Nat} (h : OKl l) : r32 l < 34359738368 := Nat.lt_of_lt_of_le (r32_lt l h.2) (Nat.pow_le_pow_right (by omega) h.1 : 32 ^ l.length ≤ 32 ^ 7)
theorem OK_256 {l : List Nat} (h : OKl l) : r256 l < 72057594037927936 := Nat.lt_of_lt_of_le (r256_lt l h.2) (Nat.pow_le_pow_right (by omega) h.1 : 256 ^ l.length ≤ 256 ^ 7)
def NM (a b : Int64) : Prop := ∃ l, OKl l ∧ a = lN (r32 l) ∧ b = lN (r256 l)
theorem NM_eq {a b a' b' : Int64} (h : NM a b) (h' : NM a' b') : a = a' ↔ b = b' := by
  obtain ⟨l, h1, rfl, rfl⟩ := h
  obtain ⟨l', h1', rfl, rfl⟩ := h'
  have a1 := OK_32 h1
  have a2 := OK_32 h1'
  have a3 := OK_256 h1
  have a4 := OK_256 h1'
  rw [pk_lEQ (by omega) (by omega), pk_lEQ (by omega) (by omega)]
  exact ⟨fun e => by rw [r32_inj l l' h1.2 h1'.2 e], fun e => by rw [r256_inj l l' h1.2 h1'.2 e]⟩
theorem r32_dg : ∀ l, (∀ c, c ∈ l → 1 ≤ c ∧ c ≤ 26) → ∀ i, r32 l / 32 ^ i % 32 = l.getD i 0 := by
  intro l
  induction l with
  | nil => intro _ i; simp [r32]
  | cons c l ih =>
    intro h i
    have hc := h c (List.mem_cons_self ..)
    cases i with
    | zero => simp only [r32, Nat.pow_zero, Nat.div_one, List.getD_cons_zero]; omega
    | succ i =>
      rw [List.getD_cons_succ, ← ih (fun x hx => h x (List.mem_cons_of_mem _ hx)) i, Nat.pow_succ, Nat.mul_comm (32 ^ i) 32, ← Nat.div_div_eq_div_mul]
      simp only [r32]
      rw [show (c + 32 * r32 l) / 32 = r32 l from by omega]
theorem r256_dg : ∀ l, (∀ c, c ∈ l → 1 ≤ c ∧ c ≤ 26) → ∀ i, r256 l / 256 ^ i % 256 = if i < l.length then l.getD i 0 + 96 else 0 := by
  intro l
  induction l with
  | nil => intro _ i; simp [r256]
  | cons c l ih =>
    intro h i
    have hc := h c (List.mem_cons_self ..)
    cases i with
    | zero => simp only [r256, Nat.pow_zero, Nat.div_one, List.getD_cons_zero, List.length_cons]; rw [if_pos (by omega)]; omega
    | succ i =>
      have hi := ih (fun x hx => h x (List.mem_cons_of_mem _ hx)) i
      rw [List.getD_cons_succ, Nat.pow_succ, Nat.mul_comm (256 ^ i) 256, ← Nat.div_div_eq_div_mul]
      simp only [r256, List.length_cons]
      rw [show (c + 96 + 256 * r256 l) / 256 = r256 l from by omega, hi]
      by_cases e : i < l.length
      · rw [if_pos e, if_pos (by omega)]
      · rw [if_neg e, if_neg (by omega)]
/-- the words that are no names, by the class's numbers -/
def wl (i : Nat) : List Nat := [[20, 5, 18, 18, 21, 20], [14, 15, 19, 18, 5, 16], [19, 11, 14, 9, 8, 20], [19, 20, 14, 1, 23], [5, 14, 1, 22], [20, 9, 12, 19], [23, 15, 2], [4, 14, 21, 15, 18], [14, 15, 7, 1, 20, 3, 15], [25, 20, 21, 4], [1, 5, 19], [20, 6, 9, 18, 8, 20], [19, 7, 15, 4], [5, 22, 15, 12], [18, 1, 23], [3, 9, 19, 21, 13], [1, 5, 20], [19, 2, 13, 9, 12, 3], [19, 4, 14, 1, 12], [19, 12, 12, 5, 20], [13, 18, 15, 20, 19], [12, 12, 1, 23], [12, 12, 1, 23, 14, 21], [25, 1, 4], [18, 15], [4, 14, 1], [20, 15, 14], [16, 21], [4, 12, 9, 13], [4, 5, 19, 1, 5, 12, 16], [19, 1, 8], [14, 15], [19, 23, 5, 9, 22], [5, 22, 18, 5, 14], [4, 5, 2, 13, 9, 12, 3], [18, 5, 2, 13, 21, 14]].getD i []
/-- the class's number of the reference's word -/
def pm (i : Nat) : Nat := [0, 5, 6, 7, 8, 9, 10, 11, 12, 13, 14, 15, 16, 4, 1, 2, 3, 17, 18, 19, 20, 21, 22, 23, 24, 25, 26, 27, 28, 29, 30, 31, 32, 33, 34, 35].getD i 0
theorem wl_ok : ∀ i, i < 36 → (wl i).length ≤ 7 ∧ (wl i).all (fun c => decide (1 ≤ c ∧ c ≤ 26)) = true := by decide
theorem wl_OK {i : Nat} (h : i < 36) : OKl (wl i) := by
  obtain ⟨h1, h2⟩ := wl_ok i h
  refine ⟨h1, fun c hc => ?_⟩
  have := List.all_eq_true.mp h2 c hc
  simpa using this
theorem pm_lt : ∀ i, i < 36 → pm i < 36 := by decide
theorem pm_v : ∀ v, v < 8 → pm (5 + v) = 9 + v := by decide
/-! texts as rows of bytes -/
def TXc (L : St) (bs : List Nat) : Prop := L.1 1 = nI bs.length ∧ ∀ i, i < bs.length → L.2.2.1 0 i = nI (bs.getD i 0)
def TXm (M : St) (bs : List Nat) : Prop := M.1 36 = nI bs.length ∧ ∀ i, i < bs.length → M.2.2.1 35 i = nI (bs.getD i 0)
theorem gd_l {bs : List Nat} {b i : Nat} (h : i < bs.length) : (bs ++ [b]).getD i 0 = bs.getD i 0 := by
  rw [List.getD_eq_getElem?_getD, List.getD_eq_getElem?_getD, List.getElem?_append_left h]
theorem gd_r (bs : List Nat) (b : Nat) : (bs ++ [b]).getD bs.length 0 = b := by
  rw [List.getD_eq_getElem?_getD, List.getElem?_append_right (Nat.le_refl _)]
  simp
def sp (l : List Nat) : List Nat := l.reverse.map (fun c => c + 96)
theorem sp_cons (c : Nat) (l : List Nat) : sp (c :: l) = sp l ++ [c + 96] := by
  unfold sp
  rw [List.reverse_cons, List.map_append]
  rfl
theorem sp_len (l : List Nat) : (sp l).length = l.length := by
  unfold sp
  rw [List.length_map, List.length_reverse]
theorem drop_dn (l : List Nat) (j : Nat) : (j < l.length ∧ l.drop j = l.getD j 0 :: l.drop (j + 1)) ∨ (l.length ≤ j ∧ l.drop j = [] ∧ l.drop (j + 1) = []) := by
  by_cases h : j < l.length
  · left
    refine ⟨h, ?_⟩
    rw [List.drop_eq_getElem_cons h, List.getD_eq_getElem?_getD, List.getElem?_eq_getElem h]
    rfl
  · right
    exact ⟨by omega, List.drop_eq_nil_of_le (by omega), List.drop_eq_nil_of_le (by omega)⟩
theorem b128 : ∀ b, b < 128 → (nI b).toInt8.toInt32 = nI b := by decide +kernel
section P17
variable {T B M L R : St} {V : Vt}
theorem x9_byte {bs : List Nat} {b : Nat} (h : TXc L bs) (hl : bs.length < 96) : ∃ L', F_X9_addByte 96 L (nI b) = some L' ∧ TXc L' (bs ++ [b]) := by
  obtain ⟨h1, h2⟩ := h
  refine ⟨sI (sA L 0 (nI bs.length) (nI b)) 1 (nI (bs.length + 1)), ?_, ?_, fun i hi => ?_⟩
  · unfold F_X9_addByte
    have c1 : ¬ Int32.ofNat 96 ≤ nI bs.length := nI_ge (a := bs.length) (b := 96) hl (by omega)
    rw [h1, if_neg c1, if_neg (by rw [pu_oobF (by omega) (by omega)]; exact id), pu_nwN, pu_nwN]
    show some (sI (sA L 0 (nI bs.length) (nI b)) 1 ((sA L 0 (nI bs.length) (nI b)).1 1 + 1)) = _
    rw [pu_sA1, h1, nI_1]
  · rw [pu_sI1, if_pos rfl, List.length_append]; rfl
  · rw [List.length_append] at hi
    have hi : i < bs.length + 1 := hi
    rw [pu_sI2, pu_sAe (by omega)]
    by_cases e : i = bs.length
    · rw [if_pos e, e, gd_r]
    · rw [if_neg e, gd_l (by omega)]; exact h2 i (by omega)
theorem x12_lay {bs : List Nat} {b : Nat} (h : TXm M bs) (hl : bs.length < 64) (hb : b < 128) : ∃ M', F_X12_lays M (nI b) = some M' ∧ TXm M' (bs ++ [b]) ∧ FR [36] [35] [] M M' := by
  obtain ⟨h1, h2⟩ := h
  refine ⟨sI (sA M 35 (nI bs.length) (nI b)) 36 (nI (bs.length + 1)), ?_, ⟨?_, fun i hi => ?_⟩, (FR.sA (by decide)).tr (FR.sI (by decide))⟩
  · unfold F_X12_lays
    rw [h1, if_neg (by rw [pu_oobF (by omega) (by omega)]; exact id), pk_vb, b128 b hb, pu_nwN, pu_nwN]
    show some (sI (sA M 35 (nI bs.length) (nI b)) 36 ((sA M 35 (nI bs.length) (nI b)).1 36 + 1)) = _
    rw [pu_sA1, h1, nI_1]
  · rw [pu_sI1, if_pos rfl, List.length_append]; rfl
  · rw [List.length_append] at hi
    have hi : i < bs.length + 1 := hi
    rw [pu_sI2, pu_sAe (by omega)]
    by_cases e : i = bs.length
    · rw [if_pos e, e, gd_r]
    · rw [if_neg e, gd_l (by omega)]; exact h2 i (by omega)
def sh5 (i : Nat) : Int32 := nI 30 - nI (5 * i)
theorem sh5_tab : ∀ i, i < 7 → sh5 i = nI (30 - 5 * i) ∧ sh5 i + (-5) = sh5 (i + 1) ∧ 2 ^ (30 - 5 * i) = 32 ^ (6 - i) := by decide
def sh8 (i : Nat) : Int32 := nI 56 - nI (8 * i)
theorem sh8_tab : ∀ i, i < 8 → sh8 i = nI (56 - 8 * i) ∧ sh8 i + (-8) = sh8 (i + 1) ∧ 2 ^ (56 - 8 * i) = 256 ^ (7 - i) := by decide
theorem sm64 : ∀ k, k < 64 → ((lN k).toBitVec.smod 64).toNat = k := by decide +kernel
theorem x9_word {bs l : List Nat} (h : TXc L bs) (hl : bs.length < 80) (ho : OKl l) : ∃ L', F_X9_addWord 96 L (lN (r32 l)) = some L' ∧ TXc L' (bs ++ sp l) := by
  have hn := OK_32 ho
  unfold F_X9_addWord L_X9_addWord_3
  have key := lp_inv (body := fun kz z => F_X9_addWord_3 96 kz z.1 z.2.1 z.2.2) (fun i z => ∃ L', z = (lN (r32 l), sh5 i, L') ∧ TXc L' (bs ++ sp (l.drop (7 - i)))) 7 (fun L' => TXc L' (bs ++ sp l)) (fun i hi z hz => ?_) (fun z hz => ?_) (x0 := (lN (r32 l), sh5 0, L)) ⟨L, rfl, ?_⟩ (pu_FU (by omega : 7 < 1000000))
  · obtain ⟨L', h1, h2⟩ := key
    exact ⟨L', h2, h1⟩
  · obtain ⟨L', rfl, a1⟩ := hz
    obtain ⟨t1, t2, t3⟩ := sh5_tab i hi
    have hv : ((lN (r32 l)).toUInt64 >>> ((sh5 i).toInt64.toUInt64 &&& Int64.toUInt64 63)).toInt64.toInt32 &&& 31 = nI (l.getD (6 - i) 0) := by
      rw [t1, wb_shr (by omega) (by omega), lN_i, t3, ← r32_dg l ho.2 (6 - i)]
      show nI _ &&& nI 31 = _
      rw [pu_and, pu_n31]
    have e7 : 7 - i = 6 - i + 1 := by omega
    have e6 : 7 - (i + 1) = 6 - i := by omega
    have hneg : ¬ sh5 i < 0 := by rw [t1]; exact nI_pos (by omega)
    rw [e7] at a1
    rcases drop_dn l (6 - i) with ⟨d1, d2⟩ | ⟨d1, d2, d3⟩
    · have hm : l.getD (6 - i) 0 ∈ l := by
        rw [List.getD_eq_getElem?_getD, List.getElem?_eq_getElem d1]
        exact List.getElem_mem d1
      have hc := ho.2 _ hm
      have hlen : (bs ++ sp (l.drop (6 - i + 1))).length < 96 := by
        rw [List.length_append, sp_len, List.length_drop]; have := ho.1; omega
      obtain ⟨L2, b1, b2⟩ := x9_byte (b := l.getD (6 - i) 0 + 96) a1 hlen
      refine ⟨(lN (r32 l), sh5 (i + 1), L2), ⟨L2, rfl, ?_⟩, fun k => ?_⟩
      · rw [e6, d2, sp_cons, ← List.append_assoc]; exact b2
      · show F_X9_addWord_3 96 k (lN (r32 l)) (sh5 i) L' = _
        unfold F_X9_addWord_3 F_X9_addWord_30
        rw [if_neg hneg, hv, pu_nwN, if_neg (nI_ne0 (by omega) (by omega)), show nI (l.getD (6 - i) 0) + 96 = nI (l.getD (6 - i) 0 + 96) from nI_add _ 96, b1, pu_ob1N, t2]
    · have hz : l.getD (6 - i) 0 = 0 := by rw [List.getD_eq_getElem?_getD, List.getElem?_eq_none d1]; rfl
      rw [hz] at hv
      refine ⟨(lN (r32 l), sh5 (i + 1), L'), ⟨L', rfl, ?_⟩, fun k => ?_⟩
      · rw [e6, d2]; rw [d3] at a1; exact a1
      · show F_X9_addWord_3 96 k (lN (r32 l)) (sh5 i) L' = _
        unfold F_X9_addWord_3 F_X9_addWord_30
        rw [if_neg hneg, hv, pu_nwN, if_pos (by decide), t2]
  · obtain ⟨L', rfl, a1⟩ := hz
    refine ⟨L', a1, fun k => ?_⟩
    show F_X9_addWord_3 96 k (lN (r32 l)) (sh5 7) L' = _
    unfold F_X9_addWord_3
    rw [if_pos (by decide)]
  · rw [List.drop_eq_nil_of_le (by have := ho.1; omega)]
    show TXc L (bs ++ [])
    rw [List.append_nil]; exact h
theorem x12_spell {bs l : List Nat} (h : TXm M bs) (hl : bs.length + l.length ≤ 64) (ho : OKl l) : ∃ M', F_X12_spells M (lN (r256 l)) = some M' ∧ TXm M' (bs ++ sp l) ∧ FR [36] [35] [] M M' := by
  have hn := OK_256 ho
  unfold F_X12_spells L_X12_spells_3
  have key := lp_inv (body := fun kz z => F_X12_spells_3 kz z.1 z.2.1 z.2.2) (fun i z => ∃ M', z = (lN (r256 l), sh8 i, M') ∧ TXm M' (bs ++ sp (l.drop (8 - i))) ∧ FR [36] [35] [] M M') 8 (fun M' => TXm M' (bs ++ sp l) ∧ FR [36] [35] [] M M') (fun i hi z hz => ?_) (fun z hz => ?_) (x0 := (lN (r256 l), sh8 0, M)) ⟨M, rfl, ?_, FR.rf⟩ (pu_FU (by omega : 8 < 1000000))
  · obtain ⟨M', h1, h2⟩ := key
    exact ⟨M', h2, h1⟩
  · obtain ⟨M', rfl, a1, a2⟩ := hz
    obtain ⟨t1, t2, t3⟩ := sh8_tab i hi
    have hv : (lN (r256 l) >>> ((sh8 i).toInt64 &&& 63)) &&& 255 = lN (if 7 - i < l.length then l.getD (7 - i) 0 + 96 else 0) := by
      have hd : r256 l / 2 ^ (56 - 8 * i) ≤ r256 l := Nat.div_le_self _ _
      rw [t1, wb_c _ (by omega), pf_shr (d := 56 - 8 * i) (sm64 _ (by omega)) (by omega)]
      show lN _ &&& lN (2 ^ 8 - 1) = _
      rw [wb_mask (by omega) (by omega), t3, ← r256_dg l ho.2 (7 - i)]
    have e7 : 8 - i = 7 - i + 1 := by omega
    have e6 : 8 - (i + 1) = 7 - i := by omega
    have hneg : ¬ sh8 i < 0 := by rw [t1]; exact nI_pos (by omega)
    rw [e7] at a1
    rcases drop_dn l (7 - i) with ⟨d1, d2⟩ | ⟨d1, d2, d3⟩
    · have hm : l.getD (7 - i) 0 ∈ l := by
        rw [List.getD_eq_getElem?_getD, List.getElem?_eq_getElem d1]
        exact List.getElem_mem d1
      have hc := ho.2 _ hm
      rw [if_pos d1] at hv
      have hlen : (bs ++ sp (l.drop (7 - i + 1))).length < 64 := by
        rw [List.length_append, sp_len, List.length_drop]; omega
      obtain ⟨M2, b1, b2, b3⟩ := x12_lay (b := l.getD (7 - i) 0 + 96) a1 hlen (by omega)
      refine ⟨(lN (r256 l), sh8 (i + 1), M2), ⟨M2, rfl, ?_, a2.tr b3⟩, fun k => ?_⟩
      · rw [e6, d2, sp_cons, ← List.append_assoc]; exact b2
      · show F_X12_spells_3 k (lN (r256 l)) (sh8 i) M' = _
        unfold F_X12_spells_3 F_X12_spells_31
        have hne : ¬ lg_cmp (lN (l.getD (7 - i) 0 + 96)) 0 = 0 := fun e => by
          have := (lgc _ _).mp e
          have h2 : l.getD (7 - i) 0 + 96 = 0 := (pk_lEQ (by omega) (by omega)).mp this
          omega
        rw [if_neg hneg, hv, if_neg hne, lN_i, b1, pu_ob1N, t2]
    · rw [if_neg (by omega)] at hv
      refine ⟨(lN (r256 l), sh8 (i + 1), M'), ⟨M', rfl, ?_, a2⟩, fun k => ?_⟩
      · rw [e6, d2]; rw [d3] at a1; exact a1
      · show F_X12_spells_3 k (lN (r256 l)) (sh8 i) M' = _
        unfold F_X12_spells_3 F_X12_spells_31
        rw [if_neg hneg, hv, if_pos (by decide), t2]
  · obtain ⟨M', rfl, a1, a2⟩ := hz
    refine ⟨M', ⟨a1, a2⟩, fun k => ?_⟩
    show F_X12_spells_3 k (lN (r256 l)) (sh8 8) M' = _
    unfold F_X12_spells_3
    rw [if_pos (by decide)]
  · rw [List.drop_eq_nil_of_le (by have := ho.1; omega)]
    show TXm M (bs ++ [])
    rw [List.append_nil]; exact h
theorem x12_say {bs l : List Nat} (h : TXm M bs) (hl : bs.length + 1 + l.length ≤ 64) (ho : OKl l) : ∃ M', F_X12_says M (lN (r256 l)) = some M' ∧ TXm M' (bs ++ ([32] ++ sp l)) ∧ FR [36] [35] [] M M' := by
  obtain ⟨M1, a1, a2, a3⟩ := x12_lay (b := 32) h (by omega) (by omega)
  obtain ⟨M2, b1, b2, b3⟩ := x12_spell a2 (by rw [List.length_append]; show bs.length + 1 + l.length ≤ 64; omega) ho
  refine ⟨M2, ?_, ?_, a3.tr b3⟩
  · unfold F_X12_says
    rw [show (32 : Int32) = nI 32 from rfl, a1, pu_ob1N, b1, pu_ob1N]
  · rw [← List.append_assoc]; exact b2
/-- the class's own texts -/
def tx (t : Nat) : List Nat := (List.range (slen.getD t 0)).map (fun i => (sch t (nI i)).toNatClampNeg)
theorem tx_tab : ∀ t, t < 9 → slen.getD t 0 < 1000 := by decide +kernel
theorem sch_tab : ∀ t, t = 3 ∨ t = 4 ∨ t = 5 ∨ t = 6 → slen.getD t 0 ≤ 8 ∧ ∀ i, i < 8 → i < slen.getD t 0 → sch t (nI i) = nI (sch t (nI i)).toNatClampNeg := by
  intro t ht
  rcases ht with e | e | e | e <;> subst e <;> decide +kernel
theorem x9_text {bs : List Nat} {t : Nat} (h : TXc L bs) (hl : bs.length < 80) (ht : t = 3 ∨ t = 4 ∨ t = 5 ∨ t = 6) : ∃ L', F_X9_addText 96 L t = some L' ∧ TXc L' (bs ++ tx t) := by
  obtain ⟨s1, s2⟩ := sch_tab t ht
  have ht9 : ¬ 9 ≤ t := by omega
  unfold F_X9_addText L_X9_addText_2
  have key := lp_inv (body := fun kz z => F_X9_addText_2 96 kz z.1 z.2.1 z.2.2) (fun i z => ∃ L', z = (t, nI i, L') ∧ TXc L' (bs ++ (List.range i).map (fun i => (sch t (nI i)).toNatClampNeg))) (slen.getD t 0) (fun L' => TXc L' (bs ++ tx t)) (fun i hi z hz => ?_) (fun z hz => ?_) (x0 := (t, nI 0, L)) ⟨L, rfl, by rw [List.range_zero, List.map_nil, List.append_nil]; exact h⟩ (pu_FU (by omega : slen.getD t 0 < 1000000))
  · obtain ⟨L', h1, h2⟩ := key
    exact ⟨L', h2, h1⟩
  · obtain ⟨L', rfl, a1⟩ := hz
    have hlen : (bs ++ (List.range i).map (fun i => (sch t (nI i)).toNatClampNeg)).length < 96 := by
      rw [List.length_append, List.length_map, List.length_range]; omega
    obtain ⟨L2, b1, b2⟩ := x9_byte (b := (sch t (nI i)).toNatClampNeg) a1 hlen
    rw [← s2 i (by omega) hi] at b1
    refine ⟨(t, nI (i + 1), L2), ⟨L2, rfl, ?_⟩, fun k => ?_⟩
    · rw [List.range_succ, List.map_append, ← List.append_assoc]; exact b2
    · show F_X9_addText_2 96 k t (nI i) L' = _
      unfold F_X9_addText_2 F_J0_length F_J0_charAt
      rw [if_neg ht9, pu_ob1N, if_neg (nI_ge hi (by omega)), if_neg ht9, if_neg (by rw [pu_oobF hi (by omega)]; exact id), pu_ob1N, b1, pu_ob1N, nI_1]
  · obtain ⟨L', rfl, a1⟩ := hz
    refine ⟨L', a1, fun k => ?_⟩
    show F_X9_addText_2 96 k t (nI (slen.getD t 0)) L' = _
    unfold F_X9_addText_2 F_J0_length
    rw [if_neg ht9, pu_ob1N, if_pos (nI_le (Nat.le_refl _) (by omega))]
theorem tx_3 : tx 3 = [32] ++ sp [14, 15] ++ [32] := by decide +kernel
theorem tx_4 : tx 4 = [32] ++ sp (wl 2) := by decide +kernel
theorem tx_5 : tx 5 = [32] ++ sp [7, 14, 9, 8, 20, 15, 14] := by decide +kernel
theorem tx_6 : tx 6 = [32] := by decide +kernel
end P17
