/-! what the reader and the model know at the start, and that all agrees there -/
abbrev LB : (Nat × Int32 × Int64 × Int32 × St → Option St) → Nat × Int32 × Int64 × Int32 × St → Option St := fun kz z => F_X5_learn_8 kz z.1 z.2.1 z.2.2.1 z.2.2.2.1 z.2.2.2.2
def wAt (t i p : Nat) : Bool := (List.range (wl i).length).all (fun j => decide (sch t (nI (p + j)) = nI (96 + (wl i).reverse.getD j 0)) && decide (1 ≤ (wl i).reverse.getD j 0) && decide ((wl i).reverse.getD j 0 ≤ 26)) && decide (sch t (nI (p + (wl i).length)) = nI 32) && decide (p + (wl i).length < slen.getD t 0)
def chk (t : Nat) : Nat → Nat → Nat → Bool
  | 0, _, p => p == slen.getD t 0
  | m + 1, i, p => wAt t i p && chk t m (i + 1) (p + (wl i).length + 1)
section P65
variable {S : St} {t p i : Nat} {x3 : Int32}
theorem lrn_len (ht : t < 9) : F_J0_length t = some (nI (slen.getD t 0)) := by
  unfold F_J0_length
  rw [if_neg (by omega)]
theorem lrn_at (ht : t < 9) (hp : p < slen.getD t 0) (hl : slen.getD t 0 ≤ 1000) : F_J0_charAt t (nI p) = some (sch t (nI p)) := by
  unfold F_J0_charAt
  rw [if_neg (by omega), if_neg (no_oob hp (by omega))]
theorem lrn_letter (ht : t < 9) (hp : p < slen.getD t 0) (hl : slen.getD t 0 ≤ 1000) {a c : Nat} (hc : sch t (nI p) = nI (96 + c)) (h1 : 1 ≤ c) (h2 : c ≤ 26) (n : Nat) : lp LB (n + 1) (t, x3, lN a, nI p, S) = lp LB n (t, x3, lN (c + 32 * a), nI (p + 1), S) := by
  show F_X5_learn_8 (lp LB n) t x3 (lN a) (nI p) S = _
  generalize lp LB n = L
  have ev : lN a * (32 : Int64) + (nI (96 + c) - (96 : Int32)).toInt64 = lN (c + 32 * a) := by
    rw [show nI (96 + c) - 96 = nI (96 + c - 96) from pu_sub (a := 96 + c) (b := 96) (by omega), show 96 + c - 96 = c by omega, nI_l (by omega), show (32 : Int64) = lN 32 from rfl, lN_mul, lN_add, Nat.add_comm, Nat.mul_comm]
  unfold F_X5_learn_8 F_X5_learn_70
  rw [lrn_len ht, pu_ob1N, if_neg (show ¬ nI (slen.getD t 0) ≤ nI p from nI_ge hp (by omega)), lrn_at ht hp hl, hc, pu_ob1N, if_neg (show ¬ nI (96 + c) = (32 : Int32) from fun e => by have := (nI_eq (a := 96 + c) (b := 32) (by omega) (by omega)).mp e; omega), ev, pu_nwN, nIs]
theorem lrn_space (ht : t < 9) (hp : p < slen.getD t 0) (hl : slen.getD t 0 ≤ 1000) (hi : i < 36) {v : Int64} (hc : sch t (nI p) = nI 32) (n : Nat) : lp LB (n + 1) (t, nI i, v, nI p, S) = lp LB n (t, nI (i + 1), 0, nI (p + 1), sJ S 1 (nI i) v) := by
  show F_X5_learn_8 (lp LB n) t (nI i) v (nI p) S = _
  generalize lp LB n = L
  unfold F_X5_learn_8 F_X5_learn_70
  rw [lrn_len ht, pu_ob1N, if_neg (show ¬ nI (slen.getD t 0) ≤ nI p from nI_ge hp (by omega)), lrn_at ht hp hl, hc, pu_ob1N, if_pos (show nI 32 = (32 : Int32) from rfl), if_neg (show ¬ (36 : Int32) ≤ nI i from nI_ge (b := 36) hi (by omega)), if_neg (no_oob hi (by omega)), pu_nwN, nIs, nIs]
theorem lrn_word (ht : t < 9) (hl : slen.getD t 0 ≤ 1000) : ∀ (f acc : List Nat) (p n : Nat), (∀ j, j < f.length → sch t (nI (p + j)) = nI (96 + f.getD j 0) ∧ 1 ≤ f.getD j 0 ∧ f.getD j 0 ≤ 26) → p + f.length ≤ slen.getD t 0 → lp LB (f.length + n) (t, x3, lN (r32 acc), nI p, S) = lp LB n (t, x3, lN (r32 (f.reverse ++ acc)), nI (p + f.length), S) := by
  intro f
  induction f with
  | nil => intro acc p n _ _; rw [show ([] : List Nat).length + n = n by simp]; rfl
  | cons c f ih =>
    intro acc p n h hp
    have h0 := h 0 (by simp)
    have e0 : (c :: f).getD 0 0 = c := rfl
    rw [e0, Nat.add_zero] at h0
    simp only [List.length_cons] at hp
    rw [show (c :: f).length + n = (f.length + n) + 1 by simp only [List.length_cons]; omega, lrn_letter ht (by omega) hl h0.1 h0.2.1 h0.2.2, show c + 32 * r32 acc = r32 (c :: acc) from rfl, ih (c :: acc) (p + 1) n (fun j hj => by
      have := h (j + 1) (by simp only [List.length_cons]; omega)
      rw [show p + (j + 1) = p + 1 + j by omega] at this
      exact this) (by omega), List.reverse_cons, List.append_assoc, show p + 1 + f.length = p + (c :: f).length by simp only [List.length_cons]; omega]
    rfl
theorem lrn_many (ht : t < 9) (hl : slen.getD t 0 ≤ 1000) : ∀ (m i p : Nat) (S : St), chk t m i p = true → i + m ≤ 36 → ∃ S' s, s + p = slen.getD t 0 ∧ (∀ n, lp LB (s + n) (t, nI i, 0, nI p, S) = lp LB n (t, nI (i + m), 0, nI (slen.getD t 0), S')) ∧ (∀ k, i ≤ k → k < i + m → S'.2.2.2 1 k = lN (r32 (wl k))) ∧ (∀ k, k < i ∨ i + m ≤ k → S'.2.2.2 1 k = S.2.2.2 1 k) := by
  intro m
  induction m with
  | zero =>
    intro i p S h hi
    have e : p = slen.getD t 0 := by simpa [chk] using h
    refine ⟨S, 0, by omega, fun n => ?_, fun k h1 h2 => by omega, fun k _ => rfl⟩
    rw [Nat.zero_add, ← e, Nat.add_zero]
  | succ m ih =>
    intro i p S h hi
    have h : (wAt t i p && chk t m (i + 1) (p + (wl i).length + 1)) = true := h
    rw [Bool.and_eq_true] at h
    obtain ⟨hw, hr⟩ := h
    unfold wAt at hw
    rw [Bool.and_eq_true, Bool.and_eq_true] at hw
    obtain ⟨⟨hw1, hw2⟩, hw3⟩ := hw
    have hw2 := of_decide_eq_true hw2
    have hw3 := of_decide_eq_true hw3
    have hlet : ∀ j, j < (wl i).reverse.length → sch t (nI (p + j)) = nI (96 + (wl i).reverse.getD j 0) ∧ 1 ≤ (wl i).reverse.getD j 0 ∧ (wl i).reverse.getD j 0 ≤ 26 := fun j hj => by
      have := List.all_eq_true.mp hw1 j (List.mem_range.mpr (by rw [List.length_reverse] at hj; exact hj))
      rw [Bool.and_eq_true, Bool.and_eq_true] at this
      exact ⟨of_decide_eq_true this.1.1, of_decide_eq_true this.1.2, of_decide_eq_true this.2⟩
    obtain ⟨S', s, e1, e2, e3, e4⟩ := ih (i + 1) (p + (wl i).length + 1) (sJ S 1 (nI i) (lN (r32 (wl i)))) hr (by omega)
    refine ⟨S', (wl i).length + 1 + s, by omega, fun n => ?_, fun k h1 h2 => ?_, fun k h1 => ?_⟩
    · have w1 := lrn_word (S := S) (x3 := nI i) ht hl (wl i).reverse [] p (1 + s + n) hlet (by rw [List.length_reverse]; omega)
      rw [List.length_reverse, List.reverse_reverse, List.append_nil] at w1
      have w0 : lN (r32 []) = 0 := rfl
      rw [w0] at w1
      rw [show (wl i).length + 1 + s + n = (wl i).length + (1 + s + n) by omega, w1, show 1 + s + n = (s + n) + 1 by omega, lrn_space ht hw3 hl (by omega) hw2, e2 n, show i + 1 + m = i + (m + 1) by omega]
    · by_cases q : k = i
      · rw [e4 k (by omega), pu_sJe (by omega), if_pos q, q]
      · exact e3 k (by omega) (by omega)
    · rw [e4 k (by omega), pu_sJe (by omega), if_neg (by omega)]
theorem lrn_text (ht : t < 9) (hl : slen.getD t 0 ≤ 1000) {m : Nat} (h : chk t m i 0 = true) (hi : i + m ≤ 36) : ∃ S', F_X5_learn S t (nI i) = some S' ∧ (∀ k, i ≤ k → k < i + m → S'.2.2.2 1 k = lN (r32 (wl k))) ∧ (∀ k, k < i ∨ i + m ≤ k → S'.2.2.2 1 k = S.2.2.2 1 k) := by
  obtain ⟨S', s, e1, e2, e3, e4⟩ := lrn_many ht hl m i 0 S h hi
  refine ⟨S', ?_, e3, e4⟩
  unfold F_X5_learn L_X5_learn_8
  have hF : FU = s + ((FU - s - 1) + 1) := by unfold FU; omega
  rw [hF]
  show lp LB _ (t, nI i, 0, nI 0, S) = _
  rw [e2]
  show F_X5_learn_8 (lp LB (FU - s - 1)) t (nI (i + m)) 0 (nI (slen.getD t 0)) S' = _
  generalize lp LB (FU - s - 1) = L
  unfold F_X5_learn_8
  rw [lrn_len ht, pu_ob1N, if_pos (Int32.le_refl _)]
theorem lrn_all : ∃ R0, F_X5_init_53 Z0 Z0 = some R0 ∧ RW R0 := by
  obtain ⟨R1, a1, a2, a3⟩ := lrn_text (S := Z0) (t := 0) (i := 0) (m := 17) (by omega) (by decide) (by decide +kernel) (by omega)
  obtain ⟨R2, b1, b2, b3⟩ := lrn_text (S := R1) (t := 1) (i := 17) (m := 7) (by omega) (by decide) (by decide +kernel) (by omega)
  obtain ⟨R3, c1, c2, c3⟩ := lrn_text (S := R2) (t := 2) (i := 24) (m := 12) (by omega) (by decide) (by decide +kernel) (by omega)
  have a1 : F_X5_learn Z0 0 0 = some R1 := a1
  have b1 : F_X5_learn R1 1 17 = some R2 := b1
  have c1 : F_X5_learn R2 2 24 = some R3 := c1
  refine ⟨R3, ?_, fun k hk => ?_⟩
  · unfold F_X5_init_53
    rw [a1, pu_ob1N, b1, pu_ob1N, c1, pu_ob1N]
  · by_cases q1 : k < 17
    · rw [c3 k (by omega), b3 k (by omega), a2 k (by omega) (by omega)]
    · by_cases q2 : k < 24
      · rw [c3 k (by omega), b2 k (by omega) (by omega)]
      · exact c2 k (by omega) (by omega)
end P65
def mwl : List Int64 := [128047780095348, 1936484724, 6451063, 491496238692, 31353073916407662, 1685419129, 7562593, 127991944930932, 1685022579, 1819244133, 7823730, 470121933155, 7628129, 1986096741, 123581014175598, 127991794264947, 512735736947, 109317276394099, 465491092595, 499917810803, 495874699885, 2002873452, 129117309725804, 6578553, 28530, 6385252, 7237492, 30064, 1835625572, 31644380074042724, 6840691, 28526, 508574398323, 474148402789, 27985222756885860, 121450625394034]
section P65b
variable {M : St}
def WP (M : St) (k : Nat) (U : St) : Prop := U.1 = M.1 ∧ U.2.1 = M.2.1 ∧ U.2.2.1 = M.2.2.1 ∧ ∀ j, j < k → U.2.2.2 10 j = mwl.getD j 0
theorem WP_s {U : St} {k : Nat} {i : Int32} {v : Int64} (h : WP M k U) (hk : k < 36) (hi : i = nI k) (hv : mwl.getD k 0 = v) : WP M (k + 1) (sJ U 10 i v) := by
  obtain ⟨a1, a2, a3, a4⟩ := h
  refine ⟨a1, a2, a3, fun j hj => ?_⟩
  rw [hi, pu_sJe (by omega)]
  by_cases q : j = k
  · rw [if_pos q, q, hv]
  · rw [if_neg q]; exact a4 j (by omega)
theorem x12_words : ∃ U, F_X12_init_197 M = ob1 (F_X12_clears U) (fun U110 => L_X12_init_557 (0 : Int32) U110) ∧ WP M 36 U := by
  have o0 : ¬ oob (0 : Int32) 36 := no_oob (i := 0) (by omega) (by omega)
  have o1 : ¬ oob (1 : Int32) 36 := no_oob (i := 1) (by omega) (by omega)
  have o2 : ¬ oob (2 : Int32) 36 := no_oob (i := 2) (by omega) (by omega)
  have o3 : ¬ oob (3 : Int32) 36 := no_oob (i := 3) (by omega) (by omega)
  have o4 : ¬ oob (4 : Int32) 36 := no_oob (i := 4) (by omega) (by omega)
  have o5 : ¬ oob (5 : Int32) 36 := no_oob (i := 5) (by omega) (by omega)
  have o6 : ¬ oob (6 : Int32) 36 := no_oob (i := 6) (by omega) (by omega)
  have o7 : ¬ oob (7 : Int32) 36 := no_oob (i := 7) (by omega) (by omega)
  have o8 : ¬ oob (8 : Int32) 36 := no_oob (i := 8) (by omega) (by omega)
  have o9 : ¬ oob (9 : Int32) 36 := no_oob (i := 9) (by omega) (by omega)
  have o10 : ¬ oob (10 : Int32) 36 := no_oob (i := 10) (by omega) (by omega)
  have o11 : ¬ oob (11 : Int32) 36 := no_oob (i := 11) (by omega) (by omega)
  have o12 : ¬ oob (12 : Int32) 36 := no_oob (i := 12) (by omega) (by omega)
  have o13 : ¬ oob (13 : Int32) 36 := no_oob (i := 13) (by omega) (by omega)
  have o14 : ¬ oob (14 : Int32) 36 := no_oob (i := 14) (by omega) (by omega)
  have o15 : ¬ oob (15 : Int32) 36 := no_oob (i := 15) (by omega) (by omega)
  have o16 : ¬ oob (16 : Int32) 36 := no_oob (i := 16) (by omega) (by omega)
  have o17 : ¬ oob (17 : Int32) 36 := no_oob (i := 17) (by omega) (by omega)
  have o18 : ¬ oob (18 : Int32) 36 := no_oob (i := 18) (by omega) (by omega)
  have o19 : ¬ oob (19 : Int32) 36 := no_oob (i := 19) (by omega) (by omega)
  have o20 : ¬ oob (20 : Int32) 36 := no_oob (i := 20) (by omega) (by omega)
  have o21 : ¬ oob (21 : Int32) 36 := no_oob (i := 21) (by omega) (by omega)
  have o22 : ¬ oob (22 : Int32) 36 := no_oob (i := 22) (by omega) (by omega)
  have o23 : ¬ oob (23 : Int32) 36 := no_oob (i := 23) (by omega) (by omega)
  have o24 : ¬ oob (24 : Int32) 36 := no_oob (i := 24) (by omega) (by omega)
  have o25 : ¬ oob (25 : Int32) 36 := no_oob (i := 25) (by omega) (by omega)
  have o26 : ¬ oob (26 : Int32) 36 := no_oob (i := 26) (by omega) (by omega)
  have o27 : ¬ oob (27 : Int32) 36 := no_oob (i := 27) (by omega) (by omega)
  have o28 : ¬ oob (28 : Int32) 36 := no_oob (i := 28) (by omega) (by omega)
  have o29 : ¬ oob (29 : Int32) 36 := no_oob (i := 29) (by omega) (by omega)
  have o30 : ¬ oob (30 : Int32) 36 := no_oob (i := 30) (by omega) (by omega)
  have o31 : ¬ oob (31 : Int32) 36 := no_oob (i := 31) (by omega) (by omega)
  have o32 : ¬ oob (32 : Int32) 36 := no_oob (i := 32) (by omega) (by omega)
  have o33 : ¬ oob (33 : Int32) 36 := no_oob (i := 33) (by omega) (by omega)
  have o34 : ¬ oob (34 : Int32) 36 := no_oob (i := 34) (by omega) (by omega)
  have o35 : ¬ oob (35 : Int32) 36 := no_oob (i := 35) (by omega) (by omega)
  have p0 : WP M 0 M := ⟨rfl, rfl, rfl, fun j hj => absurd hj (Nat.not_lt_zero j)⟩
  have p1 := WP_s (i := (0 : Int32)) (v := (128047780095348 : Int64)) p0 (by omega) rfl rfl
  have p2 := WP_s (i := (1 : Int32)) (v := (1936484724 : Int64)) p1 (by omega) rfl rfl
  have p3 := WP_s (i := (2 : Int32)) (v := (6451063 : Int64)) p2 (by omega) rfl rfl
  have p4 := WP_s (i := (3 : Int32)) (v := (491496238692 : Int64)) p3 (by omega) rfl rfl
  have p5 := WP_s (i := (4 : Int32)) (v := (31353073916407662 : Int64)) p4 (by omega) rfl rfl
  have p6 := WP_s (i := (5 : Int32)) (v := (1685419129 : Int64)) p5 (by omega) rfl rfl
  have p7 := WP_s (i := (6 : Int32)) (v := (7562593 : Int64)) p6 (by omega) rfl rfl
  have p8 := WP_s (i := (7 : Int32)) (v := (127991944930932 : Int64)) p7 (by omega) rfl rfl
  have p9 := WP_s (i := (8 : Int32)) (v := (1685022579 : Int64)) p8 (by omega) rfl rfl
  have p10 := WP_s (i := (9 : Int32)) (v := (1819244133 : Int64)) p9 (by omega) rfl rfl
  have p11 := WP_s (i := (10 : Int32)) (v := (7823730 : Int64)) p10 (by omega) rfl rfl
  have p12 := WP_s (i := (11 : Int32)) (v := (470121933155 : Int64)) p11 (by omega) rfl rfl
  have p13 := WP_s (i := (12 : Int32)) (v := (7628129 : Int64)) p12 (by omega) rfl rfl
  have p14 := WP_s (i := (13 : Int32)) (v := (1986096741 : Int64)) p13 (by omega) rfl rfl
  have p15 := WP_s (i := (14 : Int32)) (v := (123581014175598 : Int64)) p14 (by omega) rfl rfl
  have p16 := WP_s (i := (15 : Int32)) (v := (127991794264947 : Int64)) p15 (by omega) rfl rfl
  have p17 := WP_s (i := (16 : Int32)) (v := (512735736947 : Int64)) p16 (by omega) rfl rfl
  have p18 := WP_s (i := (17 : Int32)) (v := (109317276394099 : Int64)) p17 (by omega) rfl rfl
  have p19 := WP_s (i := (18 : Int32)) (v := (465491092595 : Int64)) p18 (by omega) rfl rfl
  have p20 := WP_s (i := (19 : Int32)) (v := (499917810803 : Int64)) p19 (by omega) rfl rfl
  have p21 := WP_s (i := (20 : Int32)) (v := (495874699885 : Int64)) p20 (by omega) rfl rfl
  have p22 := WP_s (i := (21 : Int32)) (v := (2002873452 : Int64)) p21 (by omega) rfl rfl
  have p23 := WP_s (i := (22 : Int32)) (v := (129117309725804 : Int64)) p22 (by omega) rfl rfl
  have p24 := WP_s (i := (23 : Int32)) (v := (6578553 : Int64)) p23 (by omega) rfl rfl
  have p25 := WP_s (i := (24 : Int32)) (v := (28530 : Int64)) p24 (by omega) rfl rfl
  have p26 := WP_s (i := (25 : Int32)) (v := (6385252 : Int64)) p25 (by omega) rfl rfl
  have p27 := WP_s (i := (26 : Int32)) (v := (7237492 : Int64)) p26 (by omega) rfl rfl
  have p28 := WP_s (i := (27 : Int32)) (v := (30064 : Int64)) p27 (by omega) rfl rfl
  have p29 := WP_s (i := (28 : Int32)) (v := (1835625572 : Int64)) p28 (by omega) rfl rfl
  have p30 := WP_s (i := (29 : Int32)) (v := (31644380074042724 : Int64)) p29 (by omega) rfl rfl
  have p31 := WP_s (i := (30 : Int32)) (v := (6840691 : Int64)) p30 (by omega) rfl rfl
  have p32 := WP_s (i := (31 : Int32)) (v := (28526 : Int64)) p31 (by omega) rfl rfl
  have p33 := WP_s (i := (32 : Int32)) (v := (508574398323 : Int64)) p32 (by omega) rfl rfl
  have p34 := WP_s (i := (33 : Int32)) (v := (474148402789 : Int64)) p33 (by omega) rfl rfl
  have p35 := WP_s (i := (34 : Int32)) (v := (27985222756885860 : Int64)) p34 (by omega) rfl rfl
  have p36 := WP_s (i := (35 : Int32)) (v := (121450625394034 : Int64)) p35 (by omega) rfl rfl
  refine ⟨_, ?_, p36⟩
  unfold F_X12_init_197
  rw [if_neg o0, pu_nwN, if_neg o1, pu_nwN, if_neg o2, pu_nwN, if_neg o3, pu_nwN, if_neg o4, pu_nwN, if_neg o5, pu_nwN, if_neg o6, pu_nwN, if_neg o7, pu_nwN, if_neg o8, pu_nwN, if_neg o9, pu_nwN, if_neg o10, pu_nwN, if_neg o11, pu_nwN, if_neg o12, pu_nwN, if_neg o13, pu_nwN, if_neg o14, pu_nwN, if_neg o15, pu_nwN, if_neg o16, pu_nwN, if_neg o17, pu_nwN, if_neg o18, pu_nwN, if_neg o19, pu_nwN, if_neg o20, pu_nwN, if_neg o21, pu_nwN, if_neg o22, pu_nwN, if_neg o23, pu_nwN, if_neg o24, pu_nwN, if_neg o25, pu_nwN, if_neg o26, pu_nwN, if_neg o27, pu_nwN, if_neg o28, pu_nwN, if_neg o29, pu_nwN, if_neg o30, pu_nwN, if_neg o31, pu_nwN, if_neg o32, pu_nwN, if_neg o33, pu_nwN, if_neg o34, pu_nwN, if_neg o35, pu_nwN]
theorem mwl_ok : ∀ j, j < 36 → mwl.getD j 0 = lN (r256 (wl (pm j))) := by decide +kernel
theorem x12_copy0 (h7 : ∀ j, j < 42 → M.2.2.1 7 j = nI 0) : ∃ M', L_X12_init_557 0 M = some M' ∧ (∀ j, j < 42 → M'.2.2.1 6 j = nI 0) ∧ (∀ j, 42 ≤ j → M'.2.2.1 6 j = M.2.2.1 6 j) ∧ FR [] [6] [] M M' := by
  unfold L_X12_init_557
  obtain ⟨M', ⟨q1, q2, q3⟩, hl⟩ := lp_inv (body := fun kz (z : Int32 × St) => F_X12_init_557 kz z.1 z.2) (fun i z => z.1 = nI i ∧ (∀ j, j < i → z.2.2.2.1 6 j = nI 0) ∧ (∀ j, 42 ≤ j → z.2.2.2.1 6 j = M.2.2.1 6 j) ∧ FR [] [6] [] M z.2) 42 (fun w => (∀ j, j < 42 → w.2.2.1 6 j = nI 0) ∧ (∀ j, 42 ≤ j → w.2.2.1 6 j = M.2.2.1 6 j) ∧ FR [] [6] [] M w) (fun i hi z ⟨e1, e2, e3, e4⟩ => by
    have e7 : z.2.2.2.1 7 = M.2.2.1 7 := e4.2.1 7 (by decide)
    refine ⟨(nI (i + 1), sA z.2 6 (nI i) (nI 0)), ⟨rfl, fun j hj => ?_, fun j hj => ?_, e4.tr (FR.sA (by decide))⟩, fun k => ?_⟩
    · rw [pu_sAe (by omega)]
      by_cases q : j = i
      · rw [if_pos q]
      · rw [if_neg q]; exact e2 j (by omega)
    · rw [pu_sAe (by omega), if_neg (by omega)]; exact e3 j hj
    · have hcp : (nI i).toNatClampNeg = i := pu_clamp (by omega)
      unfold F_X12_init_557
      rw [e1, if_neg (show ¬ (42 : Int32) ≤ nI i from nI_ge (b := 42) hi (by omega)), if_neg (no_oob hi (by omega)), if_neg (no_oob (n := 258) (by omega) (by omega)), hcp, e7, h7 i hi, pu_nwN, nIs]) (fun z ⟨e1, e2, e3, e4⟩ => by
    refine ⟨z.2, ⟨e2, e3, e4⟩, fun k => ?_⟩
    unfold F_X12_init_557
    rw [e1, if_pos (show (42 : Int32) ≤ nI 42 from Int32.le_refl _)]) (x0 := ((0 : Int32), M)) ⟨rfl, fun j hj => absurd hj (Nat.not_lt_zero j), fun j hj => rfl, FR.rf⟩ (N := FU) (pu_FU (by omega))
  exact ⟨M', hl, q1, q2, q3⟩
theorem x12_start : ∃ M0, F_X12_init_197 Z12 = some M0 ∧ MW M0 ∧ (∀ j, M0.2.2.1 6 j = nI 0) ∧ M0.1 = Z12.1 ∧ M0.2.2.1 50 = Z12.2.2.1 50 := by
  obtain ⟨U, a1, a2, a3, a4, a5⟩ := x12_words (M := Z12)
  obtain ⟨M1, b1, b2, b3⟩ := x12_clears (M := U)
  obtain ⟨M2, c1, c2, c3, c4⟩ := x12_copy0 b2
  refine ⟨M2, by rw [a1, b1, pu_ob1N, c1], fun i hi => ?_, fun j => ?_, ?_, ?_⟩
  · rw [c4.2.2 10 (by decide), b3.2.2 10 (by decide), a5 i hi, mwl_ok i hi]
  · by_cases q : j < 42
    · exact c2 j q
    · rw [c3 j (by omega), b3.2.1 6 (by decide), a4]; rfl
  · have e1 : M2.1 = M1.1 := funext (fun k => c4.1 k (by exact List.not_mem_nil))
    have e2 : M1.1 = U.1 := funext (fun k => b3.1 k (by exact List.not_mem_nil))
    rw [e1, e2, a2]
  · rw [c4.2.1 50 (by decide), b3.2.1 50 (by decide), a4]
theorem rel_start {R0 M0 : St} (hR : RW R0) (hW : MW M0) (h6 : ∀ j, M0.2.2.1 6 j = nI 0) (h1 : M0.1 = Z12.1) (h50 : M0.2.2.1 50 = Z12.2.2.1 50) : REL Z11 R0 Z0 Z0 Z0 Z0 (fun _ => Z0) Z0 Z0 Z0 Z0 Z0 Z0 Z0 (sF Z0 4 (fun _ => (-1 : Int32))) Z0 Z0 M0 (fun _ => 0) := by
  have i22 : M0.1 22 = nI 0 := by rw [h1]; rfl
  have i2 : M0.1 2 = nI 0 := by rw [h1]; rfl
  have i15 : M0.1 15 = nI 0 := by rw [h1]; rfl
  have i29 : M0.1 29 = nI 0 := by rw [h1]; rfl
  have i40 : M0.1 40 = nI 0 := by rw [h1]; rfl
  have i25 : M0.1 25 = nO := by rw [h1]; rfl
  have i27 : M0.1 27 = nO := by rw [h1]; rfl
  have i32 : M0.1 32 = nO := by rw [h1]; rfl
  have i34 : M0.1 34 = nO := by rw [h1]; rfl
  have i36 : M0.1 36 = nI 0 := by rw [h1]; rfl
  have i50 : ∀ k, M0.2.2.1 50 k = nI 0 := fun k => by rw [h50]; rfl
  have nt : ∀ {P : Prop} (t : Nat), t < 0 → P := fun t ht => absurd ht (Nat.not_lt_zero t)
  refine ⟨⟨⟨rfl, rfl, rfl, rfl, rfl, fun t ht => nt t ht, fun t ht => nt t ht, fun t ht => nt t ht, fun t ht => nt t ht, fun t ht => nt t ht, fun t ht => nt t ht, fun t ht => nt t ht, fun t ht => nt t ht⟩, fun k _ => h6 k, ⟨Nat.zero_le _, Nat.zero_le _, by decide, by decide, Nat.zero_le _, fun t ht => nt t ht, fun t ht => nt t ht, fun t ht => nt t ht, fun t ht => nt t ht, fun t ht => nt t ht, fun t ht => nt t ht, fun t ht => nt t ht, fun t ht => nt t ht, rfl⟩, ⟨fun t ht => nt t ht, fun t ht => nt t ht⟩, ⟨0, fun _ => 0, fun _ => 0, fun _ => 0, by omega, rfl, h6 77, ⟨0, rfl, by omega, by omega⟩, fun i hi => nt i hi, fun i hi => nt i hi, fun h => absurd h (Nat.lt_irrefl 0)⟩, ⟨0, 0, fun _ _ => 0, by omega, by omega, rfl, rfl, i22, fun j hj => nt j hj⟩⟩, ⟨0, by omega, rfl, i2, fun i hi => nt i hi⟩, i15.symm, Or.inl ⟨i29, rfl⟩, Or.inl ⟨i40, fun i _ => rfl⟩, ⟨0, by omega, rfl, Or.inr ⟨rfl, i25⟩, fun i hi => nt i hi⟩, ⟨0, by omega, rfl, Or.inr ⟨rfl, i27⟩, fun i hi => nt i hi⟩, ⟨0, by omega, Or.inr ⟨rfl, i32⟩, fun i hi => nt i hi, fun q _ => rfl⟩, ⟨0, by omega, rfl, Or.inr ⟨rfl, i34⟩, fun i hi => nt i hi⟩, ⟨[], by decide, ⟨rfl, fun i hi => nt i hi⟩, ⟨i36, fun i hi => nt i hi⟩⟩, hR, hW, Or.inl ⟨rfl, i50 0⟩, Or.inl ⟨rfl, i50 1⟩⟩
end P65b
