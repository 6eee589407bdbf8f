/-! what a step leaves as it is; what can be undone -/
theorem lp_upO {α β : Type} {body : (α → Option β) → α → Option β} (f : Nat → α) (n : Nat) {o : Option β} (hs : ∀ i, i < n → ∀ k, body k (f i) = k (f (i + 1))) (he : ∀ k, body k (f n) = o) {N : Nat} (hN : n < N) : lp body N (f 0) = o := by
  have h : ∀ d i, i + d = n → ∀ N, d < N → lp body N (f i) = o := by
    intro d
    induction d with
    | zero =>
      intro i hi N hN
      obtain ⟨N, rfl⟩ : ∃ k, N = k + 1 := ⟨N - 1, by omega⟩
      have e : i = n := by omega
      subst e
      exact he _
    | succ d ih =>
      intro i hi N hN
      obtain ⟨N, rfl⟩ : ∃ k, N = k + 1 := ⟨N - 1, by omega⟩
      show body (lp body N) (f i) = o
      rw [hs i (by omega)]
      exact ih (i + 1) (by omega) N (by omega)
  exact h n 0 (by omega) N hN
def cpR (f : Nat → Int32) (o : Nat) (src : Nat → Int32) (i : Nat) : Nat → Int32 := fun k => if o ≤ k ∧ k < o + i then src (k - o) else f k
theorem cpR0 (f : Nat → Int32) (o : Nat) (src : Nat → Int32) : cpR f o src 0 = f := by
  funext k
  unfold cpR
  rw [if_neg (by omega)]
theorem cpRs (f : Nat → Int32) (o : Nat) (src : Nat → Int32) (i : Nat) : upd (cpR f o src i) (o + i) (src i) = cpR f o src (i + 1) := by
  funext k
  unfold cpR upd
  dsimp only
  by_cases e : k = o + i
  · rw [if_pos e, if_pos (by omega), e, Nat.add_sub_cancel_left]
  · rw [if_neg e]
    by_cases e2 : o ≤ k ∧ k < o + i
    · rw [if_pos e2, if_pos (by omega)]
    · rw [if_neg e2, if_neg (by omega)]
theorem cpR_in {f : Nat → Int32} {o : Nat} {src : Nat → Int32} {n k : Nat} (h1 : o ≤ k) (h2 : k < o + n) : cpR f o src n k = src (k - o) := if_pos ⟨h1, h2⟩
theorem cpR_out {f : Nat → Int32} {o : Nat} {src : Nat → Int32} {n k : Nat} (h : k < o ∨ o + n ≤ k) : cpR f o src n k = f k := if_neg (by omega)
theorem va_upn {α : Type} {f : Nat → α} {k j : Nat} {v : α} (h : j ≠ k) : va_up f k v j = f j := if_neg h
theorem va_upe {α : Type} {f : Nat → α} {k : Nat} {v : α} : va_up f k v k = v := if_pos rfl
def FR (ni na nl : List Nat) (M M' : St) : Prop := (∀ k, k ∉ ni → M'.1 k = M.1 k) ∧ (∀ k, k ∉ na → M'.2.2.1 k = M.2.2.1 k) ∧ (∀ k, k ∉ nl → M'.2.2.2 k = M.2.2.2 k)
theorem FR.rf {ni na nl : List Nat} {M : St} : FR ni na nl M M := ⟨fun _ _ => rfl, fun _ _ => rfl, fun _ _ => rfl⟩
theorem FR.tr {ni na nl : List Nat} {M M1 M2 : St} (h : FR ni na nl M M1) (h2 : FR ni na nl M1 M2) : FR ni na nl M M2 := ⟨fun k hk => (h2.1 k hk).trans (h.1 k hk), fun k hk => (h2.2.1 k hk).trans (h.2.1 k hk), fun k hk => (h2.2.2 k hk).trans (h.2.2 k hk)⟩
theorem FR.mono {ni na nl mi ma ml : List Nat} {M M' : St} (h : FR ni na nl M M') (h1 : ∀ k, k ∈ ni → k ∈ mi) (h2 : ∀ k, k ∈ na → k ∈ ma) (h3 : ∀ k, k ∈ nl → k ∈ ml) : FR mi ma ml M M' := ⟨fun k hk => h.1 k (fun z => hk (h1 k z)), fun k hk => h.2.1 k (fun z => hk (h2 k z)), fun k hk => h.2.2 k (fun z => hk (h3 k z))⟩
theorem FR.sI {ni na nl : List Nat} {M : St} {k : Nat} {v : Int32} (h : k ∈ ni) : FR ni na nl M (sI M k v) := ⟨fun j hj => by rw [pu_sI1, if_neg (fun e => hj (by rw [e]; exact h))], fun _ _ => rfl, fun _ _ => rfl⟩
theorem FR.sL {ni na nl : List Nat} {M : St} {k : Nat} {v : Int64} : FR ni na nl M (sL M k v) := ⟨fun _ _ => rfl, fun _ _ => rfl, fun _ _ => rfl⟩
theorem FR.sF {ni na nl : List Nat} {M : St} {k : Nat} {f : Nat → Int32} (h : k ∈ na) : FR ni na nl M (sF M k f) := ⟨fun _ _ => rfl, fun j hj => pu_sFn (fun e => hj (by rw [e]; exact h)), fun _ _ => rfl⟩
theorem FR.sA {ni na nl : List Nat} {M : St} {k : Nat} {i v : Int32} (h : k ∈ na) : FR ni na nl M (sA M k i v) := ⟨fun _ _ => rfl, fun j hj => pu_sAn (fun e => hj (by rw [e]; exact h)), fun _ _ => rfl⟩
theorem FR.sJ {ni na nl : List Nat} {M : St} {k : Nat} {i : Int32} {v : Int64} (h : k ∈ nl) : FR ni na nl M (sJ M k i v) := ⟨fun _ _ => rfl, fun _ _ => rfl, fun j hj => pu_sJn (fun e => hj (by rw [e]; exact h))⟩
theorem MS.fr {M M' : St} {V' : Vt} (h : MS M M' V') : FR [] [6] [] M M' := by
  obtain ⟨⟨f, rfl⟩, -⟩ := h
  exact FR.sF (by decide)
theorem MD.fr {M M' : St} {V' : Vt} (h : MD M M' V') : FR [37] [6] [] M M' := by
  obtain ⟨⟨z, f, rfl⟩, -⟩ := h
  exact (FR.sI (by decide)).tr (FR.sF (by decide))
theorem sA_sF {M : St} {f i : Nat} {g : Nat → Int32} {v : Int32} (h : i < 2147483648) : sA (sF M f g) f (nI i) v = sF M f (upd g i v) := by rw [pu_sAF h, pu_sFe, pu_sFF]
theorem sI_sF {M : St} {f k : Nat} {g : Nat → Int32} {v : Int32} : sI (sF M f g) k v = sF (sI M k v) f g := rfl
def HR (S H : St) (K : KSt) (M : St) (V : Vt) : Prop := ∃ (m nx : Nat) (L : Nat → Vt), m ≤ 8 ∧ nx < 9 ∧ H.1 1 = nI nx ∧ H.1 2 = nI m ∧ M.1 22 = nI m ∧ ∀ j, j < m → RS (K ((nx + 9 - m + j) % 9)) (L j) ∧ (K ((nx + 9 - m + j) % 9)).2.2.2 = S.2.2.2 ∧ SV V (L j) ∧ WF (L j) ∧ ∀ i, i < 35 → M.2.2.1 20 (35 * j + i) = nI (L j (42 + i))
section P7
variable {S H M : St} {K : KSt} {V : Vt}
theorem HR.fr {M' : St} {ni na nl : List Nat} (h : HR S H K M V) (hf : FR ni na nl M M') (h1 : 22 ∉ ni) (h2 : 20 ∉ na) : HR S H K M' V := by
  obtain ⟨m, nx, L, a1, a2, a3, a4, a5, a6⟩ := h
  exact ⟨m, nx, L, a1, a2, a3, a4, (hf.1 22 h1).trans a5, fun j hj => by rw [hf.2.1 20 h2]; exact a6 j hj⟩
theorem HR.cs {S' : St} {V' : Vt} (h : HR S H K M V) (hs : S'.2.2.2 = S.2.2.2) (hv : SV V V') : HR S' H K M V' := by
  obtain ⟨m, nx, L, a1, a2, a3, a4, a5, a6⟩ := h
  exact ⟨m, nx, L, a1, a2, a3, a4, a5, fun j hj => ⟨(a6 j hj).1, by rw [hs]; exact (a6 j hj).2.1, fun k hk => ((a6 j hj).2.2.1 k hk).trans (hv k hk).symm, (a6 j hj).2.2.2⟩⟩
/-- an act that was not done: only the open place has changed -/
theorem x2_open (h : HR S H K M V) : ∃ K', F_X2_open H K S = some K' ∧ HR S H K' M V ∧ ∃ nx, nx < 9 ∧ H.1 1 = nI nx ∧ K' = va_up K nx S := by
  obtain ⟨m, nx, L, a1, a2, a3, a4, a5, a6⟩ := h
  refine ⟨va_up K nx S, ?_, ⟨m, nx, L, a1, a2, a3, a4, a5, fun j hj => ?_⟩, nx, a2, a3, rfl⟩
  · unfold F_X2_open
    simp (disch := omega) only [↓pu_m1, pu_lit, ↓reduceIte, pu_leT, pu_leF, pu_ltT, pu_ltF, pu_eqT, pu_eqF, pu_eqO, pu_eqO2, pu_ltO, pu_leO, pu_subO, pu_subOF, pu_subT, pu_subF, pu_oobF, pu_clamp, pu_add, pu_sub, pu_mul, pu_and, pu_or, pu_xor, pu_xorO, pu_shl, pu_shr, pu_ushr, pu_nb0, pu_nb1, pu_ob1, pu_ob2, pu_ob3, pu_ob4, pu_nw, pu_n1, pu_n7, pu_n31, pu_n255, pu_md, pu_one, pu_sI1, pu_sI2, pu_sA1, pu_sA21, pu_sA222, pu_sAe, pu_sAn, pu_sJ1, pu_sJ21, pu_sJ221, pu_sF1, pu_sF21, pu_sF222, pu_sFe, pu_sFn, pu_upe, pu_upn, Nat.reduceAdd, Nat.reduceSub, Nat.reduceMul, Nat.reduceMod, Nat.reduceAnd, Nat.reducePow, Nat.reduceEqDiff, Nat.add_zero, Nat.zero_add, Bool.false_eq_true, a3]
  · have : (nx + 9 - m + j) % 9 ≠ nx := by omega
    rw [va_upn this]
    exact a6 j hj
theorem x2_forget (h : M.1 22 = nI 0) : ∃ H', F_X2_forget H = some H' ∧ ((∃ nx, nx < 9 ∧ H.1 1 = nI nx) → HR S H' K M V) := by
  refine ⟨sI H 2 0, by unfold F_X2_forget; rfl, fun ⟨nx, h1, h2⟩ => ⟨0, nx, fun _ => V, by omega, h1, ?_, ?_, h, fun j hj => by omega⟩⟩
  · rw [pu_sI1, if_neg (by omega)]; exact h2
  · rw [pu_sI1, if_pos rfl]; rfl
theorem HR.nx (h : HR S H K M V) : ∃ nx, nx < 9 ∧ H.1 1 = nI nx := by
  obtain ⟨m, nx, L, a1, a2, a3, a4, a5, a6⟩ := h
  exact ⟨nx, a2, a3⟩
/-- the reference's row of what was -/
theorem x12_keep47 {m : Nat} (hm : m < 8) (h : M.1 22 = nI m) : F_X12_keep_45 M = some (sI (sF M 20 (cpR (M.2.2.1 20) (35 * m) (fun j => M.2.2.1 6 (42 + j)) 35)) 22 (nI (m + 1))) := by
  unfold F_X12_keep_45 L_X12_keep_47
  have key := lp_up (body := fun kz z => F_X12_keep_47 kz z.1 z.2) (fun i => (nI i, sF M 20 (cpR (M.2.2.1 20) (35 * m) (fun j => M.2.2.1 6 (42 + j)) i))) 35 (o := sI (sF M 20 (cpR (M.2.2.1 20) (35 * m) (fun j => M.2.2.1 6 (42 + j)) 35)) 22 (nI (m + 1))) (fun i hi k => ?_) (fun k => ?_) (pu_FU (by omega : 35 < 1000000))
  · rw [cpR0, pu_sFsame] at key
    exact key
  · show F_X12_keep_47 k (nI i) (sF M 20 _) = _
    unfold F_X12_keep_47
    have e := cpRs (M.2.2.1 20) (35 * m) (fun j => M.2.2.1 6 (42 + j)) i
    simp (disch := omega) only [↓pu_m1, pu_lit, ↓reduceIte, pu_leT, pu_leF, pu_ltT, pu_ltF, pu_eqT, pu_eqF, pu_eqO, pu_eqO2, pu_ltO, pu_leO, pu_subO, pu_subOF, pu_subT, pu_subF, pu_oobF, pu_clamp, pu_add, pu_sub, pu_mul, pu_and, pu_or, pu_xor, pu_xorO, pu_shl, pu_shr, pu_ushr, pu_nb0, pu_nb1, pu_ob1, pu_ob2, pu_ob3, pu_ob4, pu_nw, pu_n1, pu_n7, pu_n31, pu_n255, pu_md, pu_one, pu_sI1, pu_sI2, pu_sA1, pu_sA21, pu_sA222, pu_sAe, pu_sAn, pu_sJ1, pu_sJ21, pu_sJ221, pu_sF1, pu_sF21, pu_sF222, pu_sFe, pu_sFn, pu_upe, pu_upn, Nat.reduceAdd, Nat.reduceSub, Nat.reduceMul, Nat.reduceMod, Nat.reduceAnd, Nat.reducePow, Nat.reduceEqDiff, Nat.add_zero, Nat.zero_add, Bool.false_eq_true, h, sA_sF, e]
  · show F_X12_keep_47 k (nI 35) (sF M 20 _) = _
    unfold F_X12_keep_47
    simp (disch := omega) only [↓pu_m1, pu_lit, ↓reduceIte, pu_leT, pu_leF, pu_ltT, pu_ltF, pu_eqT, pu_eqF, pu_eqO, pu_eqO2, pu_ltO, pu_leO, pu_subO, pu_subOF, pu_subT, pu_subF, pu_oobF, pu_clamp, pu_add, pu_sub, pu_mul, pu_and, pu_or, pu_xor, pu_xorO, pu_shl, pu_shr, pu_ushr, pu_nb0, pu_nb1, pu_ob1, pu_ob2, pu_ob3, pu_ob4, pu_nw, pu_n1, pu_n7, pu_n31, pu_n255, pu_md, pu_one, pu_sI1, pu_sI2, pu_sA1, pu_sA21, pu_sA222, pu_sAe, pu_sAn, pu_sJ1, pu_sJ21, pu_sJ221, pu_sF1, pu_sF21, pu_sF222, pu_sFe, pu_sFn, pu_upe, pu_upn, Nat.reduceAdd, Nat.reduceSub, Nat.reduceMul, Nat.reduceMod, Nat.reduceAnd, Nat.reducePow, Nat.reduceEqDiff, Nat.add_zero, Nat.zero_add, Bool.false_eq_true, h]
theorem x12_k11e (k : Int32 × St → Option St) (Y : St) : F_X12_keep_11 k (nI 245) Y = F_X12_keep_45 (sI Y 22 (nI 7)) := by
  unfold F_X12_keep_11
  rw [if_pos (by decide), pu_nw]
  exact congrArg (fun z => F_X12_keep_45 (sI Y 22 z)) (rfl : (7 : Int32) = nI 7)
theorem x12_keep11 (h : M.1 22 = nI 8) : F_X12_keep M = F_X12_keep_45 (sI (sF M 20 (cpR (M.2.2.1 20) 0 (fun j => M.2.2.1 20 (j + 35)) 245)) 22 (nI 7)) := by
  unfold F_X12_keep L_X12_keep_11
  rw [if_pos (by rw [h]; rfl)]
  have key := lp_upO (body := fun kz z => F_X12_keep_11 kz z.1 z.2) (fun i => (nI i, sF M 20 (cpR (M.2.2.1 20) 0 (fun j => M.2.2.1 20 (j + 35)) i))) 245 (o := F_X12_keep_45 (sI (sF M 20 (cpR (M.2.2.1 20) 0 (fun j => M.2.2.1 20 (j + 35)) 245)) 22 (nI 7))) (fun i hi k => ?_) (fun k => ?_) (pu_FU (by omega : 245 < 1000000))
  · rw [cpR0, pu_sFsame] at key
    exact key
  · show F_X12_keep_11 k (nI i) (sF M 20 _) = _
    unfold F_X12_keep_11
    have e := cpRs (M.2.2.1 20) 0 (fun j => M.2.2.1 20 (j + 35)) i
    rw [Nat.zero_add] at e
    have h1 : cpR (M.2.2.1 20) 0 (fun j => M.2.2.1 20 (j + 35)) i (i + 35) = M.2.2.1 20 (i + 35) := cpR_out (by omega)
    simp (disch := omega) only [↓pu_m1, pu_lit, ↓reduceIte, pu_leT, pu_leF, pu_ltT, pu_ltF, pu_eqT, pu_eqF, pu_eqO, pu_eqO2, pu_ltO, pu_leO, pu_subO, pu_subOF, pu_subT, pu_subF, pu_oobF, pu_clamp, pu_add, pu_sub, pu_mul, pu_and, pu_or, pu_xor, pu_xorO, pu_shl, pu_shr, pu_ushr, pu_nb0, pu_nb1, pu_ob1, pu_ob2, pu_ob3, pu_ob4, pu_nw, pu_n1, pu_n7, pu_n31, pu_n255, pu_md, pu_one, pu_sI1, pu_sI2, pu_sA1, pu_sA21, pu_sA222, pu_sAe, pu_sAn, pu_sJ1, pu_sJ21, pu_sJ221, pu_sF1, pu_sF21, pu_sF222, pu_sFe, pu_sFn, pu_upe, pu_upn, Nat.reduceAdd, Nat.reduceSub, Nat.reduceMul, Nat.reduceMod, Nat.reduceAnd, Nat.reducePow, Nat.reduceEqDiff, Nat.add_zero, Nat.zero_add, Bool.false_eq_true, h, sA_sF, h1, e]
  · show F_X12_keep_11 k (nI 245) (sF M 20 _) = _
    exact x12_k11e k _
theorem x2_keep {m nx : Nat} (hm : m ≤ 8) (hx : nx < 9) (h1 : H.1 1 = nI nx) (h2 : H.1 2 = nI m) : ∃ H', F_X2_keep H = some H' ∧ H'.1 1 = nI ((nx + 1) % 9) ∧ H'.1 2 = nI (min (m + 1) 8) := by
  have key : ∀ s, F_X2_keep_20 s H = some (sI (sI H 1 s) 2 (nI (min (m + 1) 8))) := by
    intro s
    unfold F_X2_keep_20
    by_cases h : m = 8
    · rw [Nat.min_eq_right (by omega)]
      simp (disch := omega) only [↓pu_m1, pu_lit, ↓reduceIte, pu_leT, pu_leF, pu_ltT, pu_ltF, pu_eqT, pu_eqF, pu_eqO, pu_eqO2, pu_ltO, pu_leO, pu_subO, pu_subOF, pu_subT, pu_subF, pu_oobF, pu_clamp, pu_add, pu_sub, pu_mul, pu_and, pu_or, pu_xor, pu_xorO, pu_shl, pu_shr, pu_ushr, pu_nb0, pu_nb1, pu_ob1, pu_ob2, pu_ob3, pu_ob4, pu_nw, pu_n1, pu_n7, pu_n31, pu_n255, pu_md, pu_one, pu_sI1, pu_sI2, pu_sA1, pu_sA21, pu_sA222, pu_sAe, pu_sAn, pu_sJ1, pu_sJ21, pu_sJ221, pu_sF1, pu_sF21, pu_sF222, pu_sFe, pu_sFn, pu_upe, pu_upn, Nat.reduceAdd, Nat.reduceSub, Nat.reduceMul, Nat.reduceMod, Nat.reduceAnd, Nat.reducePow, Nat.reduceEqDiff, Nat.add_zero, Nat.zero_add, Bool.false_eq_true, h2, h]
    · rw [Nat.min_eq_left (by omega)]
      simp (disch := omega) only [↓pu_m1, pu_lit, ↓reduceIte, pu_leT, pu_leF, pu_ltT, pu_ltF, pu_eqT, pu_eqF, pu_eqO, pu_eqO2, pu_ltO, pu_leO, pu_subO, pu_subOF, pu_subT, pu_subF, pu_oobF, pu_clamp, pu_add, pu_sub, pu_mul, pu_and, pu_or, pu_xor, pu_xorO, pu_shl, pu_shr, pu_ushr, pu_nb0, pu_nb1, pu_ob1, pu_ob2, pu_ob3, pu_ob4, pu_nw, pu_n1, pu_n7, pu_n31, pu_n255, pu_md, pu_one, pu_sI1, pu_sI2, pu_sA1, pu_sA21, pu_sA222, pu_sAe, pu_sAn, pu_sJ1, pu_sJ21, pu_sJ221, pu_sF1, pu_sF21, pu_sF222, pu_sFe, pu_sFn, pu_upe, pu_upn, Nat.reduceAdd, Nat.reduceSub, Nat.reduceMul, Nat.reduceMod, Nat.reduceAnd, Nat.reducePow, Nat.reduceEqDiff, Nat.add_zero, Nat.zero_add, Bool.false_eq_true, h2]
  unfold F_X2_keep
  by_cases h : nx = 8
  · refine ⟨sI (sI H 1 (nI 0)) 2 (nI (min (m + 1) 8)), ?_, ?_, ?_⟩
    · rw [if_pos (by rw [h1, h]; rfl), key]; rfl
    · rw [pu_sI1, if_neg (by omega), pu_sI1, if_pos rfl, h]
    · rw [pu_sI1, if_pos rfl]
  · refine ⟨sI (sI H 1 (nI (nx + 1))) 2 (nI (min (m + 1) 8)), ?_, ?_, ?_⟩
    · rw [if_neg (by rw [h1, pu_lit]; rw [pu_eqF h (by omega) (by omega)]; exact id), key, h1]
      simp (disch := omega) only [↓pu_m1, pu_lit, ↓reduceIte, pu_leT, pu_leF, pu_ltT, pu_ltF, pu_eqT, pu_eqF, pu_eqO, pu_eqO2, pu_ltO, pu_leO, pu_subO, pu_subOF, pu_subT, pu_subF, pu_oobF, pu_clamp, pu_add, pu_sub, pu_mul, pu_and, pu_or, pu_xor, pu_xorO, pu_shl, pu_shr, pu_ushr, pu_nb0, pu_nb1, pu_ob1, pu_ob2, pu_ob3, pu_ob4, pu_nw, pu_n1, pu_n7, pu_n31, pu_n255, pu_md, pu_one, pu_sI1, pu_sI2, pu_sA1, pu_sA21, pu_sA222, pu_sAe, pu_sAn, pu_sJ1, pu_sJ21, pu_sJ221, pu_sF1, pu_sF21, pu_sF222, pu_sFe, pu_sFn, pu_upe, pu_upn, Nat.reduceAdd, Nat.reduceSub, Nat.reduceMul, Nat.reduceMod, Nat.reduceAnd, Nat.reducePow, Nat.reduceEqDiff, Nat.add_zero, Nat.zero_add, Bool.false_eq_true]
    · rw [pu_sI1, if_neg (by omega), pu_sI1, if_pos rfl, Nat.mod_eq_of_lt (by omega)]
    · rw [pu_sI1, if_pos rfl]
/-- an act that was done: the open place is kept, on both sides -/
theorem hist_keep (h : HR S H K M V) (hS : RS S V) (hM : RM M V) (hw : WF V) {nx : Nat} (hx : H.1 1 = nI nx) (hx9 : nx < 9) : ∃ H' M', F_X2_keep H = some H' ∧ F_X12_keep M = some M' ∧ FR [22] [20] [] M M' ∧ HR S H' (va_up K nx S) M' V := by
  obtain ⟨m, nx', L, a1, a2, a3, a4, a5, a6⟩ := h
  have e : nx' = nx := (nI_eq (by omega) (by omega)).mp (a3.symm.trans hx)
  subst e
  obtain ⟨H', b1, b2, b3⟩ := x2_keep a1 a2 a3 a4
  by_cases h8 : m = 8
  · subst h8
    have k1 := x12_keep11 a5
    have k2 := x12_keep47 (M := sI (sF M 20 (cpR (M.2.2.1 20) 0 (fun j => M.2.2.1 20 (j + 35)) 245)) 22 (nI 7)) (m := 7) (by omega) rfl
    have k3 := k1.trans k2
    clear k1 k2
    refine ⟨H', _, b1, k3, ((FR.sF (by decide)).tr (FR.sI (by decide))).tr ((FR.sF (by decide)).tr (FR.sI (by decide))), 8, (nx' + 1) % 9, fun j => if j < 7 then L (j + 1) else V, by omega, by omega, b2, b3, rfl, fun j hj => ?_⟩
    by_cases h7 : j < 7
    · have hi : ((nx' + 1) % 9 + 9 - 8 + j) % 9 = (nx' + 9 - 8 + (j + 1)) % 9 := by omega
      have hne : (nx' + 9 - 8 + (j + 1)) % 9 ≠ nx' := by omega
      rw [hi, va_upn hne]; dsimp only; rw [if_pos h7]
      obtain ⟨c1, c2, c3, c4, c5⟩ := a6 (j + 1) (by omega)
      refine ⟨c1, c2, c3, c4, fun i hi2 => ?_⟩
      rw [← c5 i hi2]
      simp only [pu_sI2, pu_sFe]
      rw [cpR_out (by omega), cpR_in (by omega) (by omega)]
      refine congrArg (M.2.2.1 20) ?_
      omega
    · have e7 : j = 7 := by omega
      subst e7
      have hi : ((nx' + 1) % 9 + 9 - 8 + 7) % 9 = nx' := by omega
      rw [hi, va_upe]; dsimp only; rw [if_neg (by omega)]
      refine ⟨hS, rfl, SV.rf, hw, fun i hi2 => ?_⟩
      rw [← hM (42 + i) (by omega)]
      simp only [pu_sI2, pu_sFe]
      rw [cpR_in (by omega) (by omega), pu_sFn (by omega)]
      refine congrArg (M.2.2.1 6) ?_
      omega
  · have hk : F_X12_keep M = F_X12_keep_45 M := by
      unfold F_X12_keep
      rw [if_neg (by rw [a5, pu_lit]; rw [pu_eqF h8 (by omega) (by omega)]; exact id)]
    have k1 := x12_keep47 (by omega : m < 8) a5
    rw [Nat.min_eq_left (by omega)] at b3
    refine ⟨H', _, b1, hk.trans k1, (FR.sF (by decide)).tr (FR.sI (by decide)), m + 1, (nx' + 1) % 9, fun j => if j < m then L j else V, by omega, by omega, b2, b3, rfl, fun j hj => ?_⟩
    by_cases hjm : j < m
    · have hi : ((nx' + 1) % 9 + 9 - (m + 1) + j) % 9 = (nx' + 9 - m + j) % 9 := by omega
      have hne : (nx' + 9 - m + j) % 9 ≠ nx' := by omega
      rw [hi, va_upn hne]; dsimp only; rw [if_pos hjm]
      obtain ⟨c1, c2, c3, c4, c5⟩ := a6 j hjm
      refine ⟨c1, c2, c3, c4, fun i hi2 => ?_⟩
      rw [← c5 i hi2]
      simp only [pu_sI2, pu_sFe]
      rw [cpR_out (by omega)]
    · have e7 : j = m := by omega
      subst e7
      have hi : ((nx' + 1) % 9 + 9 - (j + 1) + j) % 9 = nx' := by omega
      rw [hi, va_upe]; dsimp only; rw [if_neg (by omega)]
      refine ⟨hS, rfl, SV.rf, hw, fun i hi2 => ?_⟩
      rw [← hM (42 + i) (by omega)]
      simp only [pu_sI2, pu_sFe]
      rw [cpR_in (by omega) (by omega)]
      refine congrArg (M.2.2.1 6) ?_
      omega
end P7
