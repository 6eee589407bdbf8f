/-! said, image, restore -/
section P20
variable {T B H M N : St} {K : KSt} {V : Vt} {cs cg cu : Vt} {p n : Nat}
theorem stp_bits (s : Nat) (b : Bool) (st : List Bool) (hl : st.length ≤ 20) : (s = 24 → 2 ≤ st.length → hv (stp s b st) = (hv st / 2) ||| (hv st % 2)) ∧ (s = 25 → 2 ≤ st.length → hv (stp s b st) = (hv st / 2) &&& ((hv st % 2) ||| 4294967294)) ∧ (s = 26 → 1 ≤ st.length → hv (stp s b st) = hv st ^^^ 1) ∧ (26 < s → hv (stp s b st) = tn b + 2 * hv st) := by
  refine ⟨fun e h => ?_, fun e h => ?_, fun e h => ?_, fun e => ?_⟩
  · subst e
    match st, h with
    | a :: c :: l, _ =>
      have ha := tn_le a
      have hc := tn_le c
      show hv ((c || a) :: l) = _
      simp only [hv]
      rw [show (tn a + 2 * (tn c + 2 * hv l)) / 2 = tn c + 2 * hv l from by omega, show (tn a + 2 * (tn c + 2 * hv l)) % 2 = tn a from by omega, or_bit _ _ _ ha hc]
      cases a <;> cases c <;> rfl
  · subst e
    match st, h, hl with
    | a :: c :: l, _, hl =>
      have ha := tn_le a
      have hc := tn_le c
      have hL : hv l < 1048576 := Nat.lt_of_lt_of_le (hv_lt l) (Nat.pow_le_pow_right (by omega) (by simp only [List.length_cons] at hl; omega) : 2 ^ l.length ≤ 2 ^ 20)
      show hv ((c && a) :: l) = _
      simp only [hv]
      rw [show (tn a + 2 * (tn c + 2 * hv l)) / 2 = tn c + 2 * hv l from by omega, show (tn a + 2 * (tn c + 2 * hv l)) % 2 = tn a from by omega, and_bit _ _ _ ha hc hL]
      cases a <;> cases c <;> rfl
  · subst e
    match st, h with
    | a :: l, _ =>
      have ha := tn_le a
      show hv ((!a) :: l) = _
      simp only [hv]
      rw [xor_bit _ _ ha]
      cases a <;> rfl
  · have e1 : stp s b st = b :: st := by
      unfold stp
      rw [if_neg (by omega), if_neg (by omega), if_neg (by omega)]
    rw [e1]
    rfl
theorem x7_holds (hS : RS B V) (hw : WF V) (hp : p < V 1) (hn : n ≤ 39) (h3 : N.1 3 = nI n) (hc : ∀ i, i < n → N.2.2.1 0 i = nI (cs i) ∧ N.2.2.1 1 i = nI (cg i) ∧ N.2.2.1 2 i = nI (cu i)) (hW : WC cs cg cu n) : F_X7_holdsOf N B (nI p) = some (nI (hv (evS V p cs cg cu n) % 2)) := by
  have hlen := fun i hi => evS_len (V := V) (p := p) hW i hi
  have hd20 : ∀ i, i ≤ n → dpt cs i ≤ 21 := by
    intro i hi
    cases i with
    | zero => exact Nat.zero_le _
    | succ i =>
      have := (hW i (by omega)).2.2.2.2.2.2
      simp only [dpt]
      repeat' split
      all_goals omega
  have hb : ∀ i, i ≤ n → hv (evS V p cs cg cu i) < 2097152 := fun i hi => by
    have h1 := hlen i hi
    have h2 := hd20 i hi
    exact Nat.lt_of_lt_of_le (hv_lt _) (Nat.pow_le_pow_right (by omega) (by omega) : 2 ^ (evS V p cs cg cu i).length ≤ 2 ^ 21)
  unfold F_X7_holdsOf L_X7_holdsOf_5
  refine lp_up (fun i => (nI p, nI (hv (evS V p cs cg cu i)), nI i, N, B)) n (fun i hi k => ?_) (fun k => ?_) (pu_FU (by omega))
  · obtain ⟨c0, c1, c2⟩ := hc i hi
    obtain ⟨⟨d1, d2⟩, d3, d4, d5, d6, d7, d8⟩ := hW i hi
    have hl := hlen i (by omega)
    have hbi := hb i (by omega)
    obtain ⟨s1, s2, s3, s4⟩ := stp_bits (cs i) (lvB V p (cs i) (cg i) (cu i)) (evS V p cs cg cu i) (by omega)
    rw [hl] at s1 s2 s3
    show F_X7_holdsOf_5 k (nI p) (nI (hv (evS V p cs cg cu i))) (nI i) N B = k (nI p, nI (hv (stp (cs i) (lvB V p (cs i) (cg i) (cu i)) (evS V p cs cg cu i))), nI (i + 1), N, B)
    unfold F_X7_holdsOf_5 F_X7_holdsOf_104 F_X7_holdsOf_106
    rcases (by omega : cs i = 24 ∨ cs i = 25 ∨ cs i = 26 ∨ 26 < cs i) with e | e | e | e
    · rw [s1 e (d4 (by omega))]
      rw [e] at c0
      simp (disch := omega) only [↓pu_m1, pu_lit, ↓reduceIte, pu_leT, pu_leF, pu_ltT, pu_ltF, pu_eqT, pu_eqF, pu_eqO, pu_eqO2, pu_ltO, pu_leO, pu_subO, pu_subOF, pu_subT, pu_subF, pu_oobF, pu_clamp, pu_add, pu_sub, pu_mul, pu_and, pu_or, pu_xor, pu_xorO, pu_shl, pu_shr, pu_ushr, pu_nb0, pu_nb1, pu_ob1N, pu_ob2N, pu_ob3N, pu_ob4N, pu_nwN, pu_n1, pu_n7, pu_n31, pu_n255, pu_md, pu_one, pu_sI1, pu_sI2, pu_sA1, pu_sA21, pu_sA222, pu_sAe, pu_sAn, pu_sJ1, pu_sJ21, pu_sJ221, pu_sF1, pu_sF21, pu_sF222, pu_sFe, pu_sFn, pu_upe, pu_upn, Nat.reduceAdd, Nat.reduceSub, Nat.reduceMul, Nat.reduceMod, Nat.reduceAnd, Nat.reducePow, Nat.reduceEqDiff, Nat.add_zero, Nat.zero_add, Bool.false_eq_true, Nat.add_sub_cancel, h3, c0, Nat.pow_one]
    · rw [s2 e (d4 (by omega))]
      rw [e] at c0
      simp (disch := omega) only [↓pu_m1, pu_lit, ↓reduceIte, pu_leT, pu_leF, pu_ltT, pu_ltF, pu_eqT, pu_eqF, pu_eqO, pu_eqO2, pu_ltO, pu_leO, pu_subO, pu_subOF, pu_subT, pu_subF, pu_oobF, pu_clamp, pu_add, pu_sub, pu_mul, pu_and, pu_or, pu_xor, pu_xorO, pu_shl, pu_shr, pu_ushr, pu_nb0, pu_nb1, pu_ob1N, pu_ob2N, pu_ob3N, pu_ob4N, pu_nwN, pu_n1, pu_n7, pu_n31, pu_n255, pu_md, pu_one, pu_sI1, pu_sI2, pu_sA1, pu_sA21, pu_sA222, pu_sAe, pu_sAn, pu_sJ1, pu_sJ21, pu_sJ221, pu_sF1, pu_sF21, pu_sF222, pu_sFe, pu_sFn, pu_upe, pu_upn, Nat.reduceAdd, Nat.reduceSub, Nat.reduceMul, Nat.reduceMod, Nat.reduceAnd, Nat.reducePow, Nat.reduceEqDiff, Nat.add_zero, Nat.zero_add, Bool.false_eq_true, Nat.add_sub_cancel, h3, c0, Nat.pow_one, ↓pu_m2, show nT = nI 4294967294 from rfl]
    · rw [s3 e (d3 e)]
      rw [e] at c0
      simp (disch := omega) only [↓pu_m1, pu_lit, ↓reduceIte, pu_leT, pu_leF, pu_ltT, pu_ltF, pu_eqT, pu_eqF, pu_eqO, pu_eqO2, pu_ltO, pu_leO, pu_subO, pu_subOF, pu_subT, pu_subF, pu_oobF, pu_clamp, pu_add, pu_sub, pu_mul, pu_and, pu_or, pu_xor, pu_xorO, pu_shl, pu_shr, pu_ushr, pu_nb0, pu_nb1, pu_ob1N, pu_ob2N, pu_ob3N, pu_ob4N, pu_nwN, pu_n1, pu_n7, pu_n31, pu_n255, pu_md, pu_one, pu_sI1, pu_sI2, pu_sA1, pu_sA21, pu_sA222, pu_sAe, pu_sAn, pu_sJ1, pu_sJ21, pu_sJ221, pu_sF1, pu_sF21, pu_sF222, pu_sFe, pu_sFn, pu_upe, pu_upn, Nat.reduceAdd, Nat.reduceSub, Nat.reduceMul, Nat.reduceMod, Nat.reduceAnd, Nat.reducePow, Nat.reduceEqDiff, Nat.add_zero, Nat.zero_add, Bool.false_eq_true, Nat.add_sub_cancel, h3, c0]
    · rw [s4 e]
      have hso := x7_isSo (N := N) hS hw hp (i := i) (s := cs i) (g := cg i) (u := cu i) (by omega) c0 c1 c2 (by omega) d5 d6 d7
      have hm : hv (evS V p cs cg cu i) * 2 = 2 * hv (evS V p cs cg cu i) := Nat.mul_comm _ _
      cases hbb : lvB V p (cs i) (cg i) (cu i) with
      | false =>
        rw [hbb] at hso
        have hso : F_X7_isSo N B (nI p) (nI i) = some (nI 0) := hso
        have e0 : tn false + 2 * hv (evS V p cs cg cu i) = 2 * hv (evS V p cs cg cu i) := by show 0 + _ = _; omega
        rw [e0]
        simp (disch := omega) only [↓pu_m1, pu_lit, ↓reduceIte, pu_leT, pu_leF, pu_ltT, pu_ltF, pu_eqT, pu_eqF, pu_eqO, pu_eqO2, pu_ltO, pu_leO, pu_subO, pu_subOF, pu_subT, pu_subF, pu_oobF, pu_clamp, pu_add, pu_sub, pu_mul, pu_and, pu_or, pu_xor, pu_xorO, pu_shl, pu_shr, pu_ushr, pu_nb0, pu_nb1, pu_ob1N, pu_ob2N, pu_ob3N, pu_ob4N, pu_nwN, pu_n1, pu_n7, pu_n31, pu_n255, pu_md, pu_one, pu_sI1, pu_sI2, pu_sA1, pu_sA21, pu_sA222, pu_sAe, pu_sAn, pu_sJ1, pu_sJ21, pu_sJ221, pu_sF1, pu_sF21, pu_sF222, pu_sFe, pu_sFn, pu_upe, pu_upn, Nat.reduceAdd, Nat.reduceSub, Nat.reduceMul, Nat.reduceMod, Nat.reduceAnd, Nat.reducePow, Nat.reduceEqDiff, Nat.add_zero, Nat.zero_add, Bool.false_eq_true, Nat.add_sub_cancel, h3, c0, hso, Nat.pow_one, hm, or0]
      | true =>
        rw [hbb] at hso
        have hso : F_X7_isSo N B (nI p) (nI i) = some (nI 1) := hso
        have e1 : 2 * hv (evS V p cs cg cu i) ||| 1 = 2 * hv (evS V p cs cg cu i) + 1 := by
          have := or_bit 1 0 (hv (evS V p cs cg cu i)) (by omega) (by omega)
          rw [Nat.zero_add, if_pos (Or.inr rfl)] at this
          omega
        have e0 : tn true + 2 * hv (evS V p cs cg cu i) = 2 * hv (evS V p cs cg cu i) + 1 := by show 1 + _ = _; omega
        rw [e0]
        simp (disch := omega) only [↓pu_m1, pu_lit, ↓reduceIte, pu_leT, pu_leF, pu_ltT, pu_ltF, pu_eqT, pu_eqF, pu_eqO, pu_eqO2, pu_ltO, pu_leO, pu_subO, pu_subOF, pu_subT, pu_subF, pu_oobF, pu_clamp, pu_add, pu_sub, pu_mul, pu_and, pu_or, pu_xor, pu_xorO, pu_shl, pu_shr, pu_ushr, pu_nb0, pu_nb1, pu_ob1N, pu_ob2N, pu_ob3N, pu_ob4N, pu_nwN, pu_n1, pu_n7, pu_n31, pu_n255, pu_md, pu_one, pu_sI1, pu_sI2, pu_sA1, pu_sA21, pu_sA222, pu_sAe, pu_sAn, pu_sJ1, pu_sJ21, pu_sJ221, pu_sF1, pu_sF21, pu_sF222, pu_sFe, pu_sFn, pu_upe, pu_upn, Nat.reduceAdd, Nat.reduceSub, Nat.reduceMul, Nat.reduceMod, Nat.reduceAnd, Nat.reducePow, Nat.reduceEqDiff, Nat.add_zero, Nat.zero_add, Bool.false_eq_true, Nat.add_sub_cancel, h3, c0, hso, Nat.pow_one, hm, e1]
  · show F_X7_holdsOf_5 k (nI p) (nI (hv (evS V p cs cg cu n))) (nI n) N B = _
    have hbi := hb n (Nat.le_refl _)
    unfold F_X7_holdsOf_5
    rcases Nat.mod_two_eq_zero_or_one (hv (evS V p cs cg cu n)) with h | h
    · simp (disch := omega) only [↓pu_m1, pu_lit, ↓reduceIte, pu_leT, pu_leF, pu_ltT, pu_ltF, pu_eqT, pu_eqF, pu_eqO, pu_eqO2, pu_ltO, pu_leO, pu_subO, pu_subOF, pu_subT, pu_subF, pu_oobF, pu_clamp, pu_add, pu_sub, pu_mul, pu_and, pu_or, pu_xor, pu_xorO, pu_shl, pu_shr, pu_ushr, pu_nb0, pu_nb1, pu_ob1N, pu_ob2N, pu_ob3N, pu_ob4N, pu_nwN, pu_n1, pu_n7, pu_n31, pu_n255, pu_md, pu_one, pu_sI1, pu_sI2, pu_sA1, pu_sA21, pu_sA222, pu_sAe, pu_sAn, pu_sJ1, pu_sJ21, pu_sJ221, pu_sF1, pu_sF21, pu_sF222, pu_sFe, pu_sFn, pu_upe, pu_upn, Nat.reduceAdd, Nat.reduceSub, Nat.reduceMul, Nat.reduceMod, Nat.reduceAnd, Nat.reducePow, Nat.reduceEqDiff, Nat.add_zero, Nat.zero_add, Bool.false_eq_true, Nat.add_sub_cancel, h3, h]
    · simp (disch := omega) only [↓pu_m1, pu_lit, ↓reduceIte, pu_leT, pu_leF, pu_ltT, pu_ltF, pu_eqT, pu_eqF, pu_eqO, pu_eqO2, pu_ltO, pu_leO, pu_subO, pu_subOF, pu_subT, pu_subF, pu_oobF, pu_clamp, pu_add, pu_sub, pu_mul, pu_and, pu_or, pu_xor, pu_xorO, pu_shl, pu_shr, pu_ushr, pu_nb0, pu_nb1, pu_ob1N, pu_ob2N, pu_ob3N, pu_ob4N, pu_nwN, pu_n1, pu_n7, pu_n31, pu_n255, pu_md, pu_one, pu_sI1, pu_sI2, pu_sA1, pu_sA21, pu_sA222, pu_sAe, pu_sAn, pu_sJ1, pu_sJ21, pu_sJ221, pu_sF1, pu_sF21, pu_sF222, pu_sFe, pu_sFn, pu_upe, pu_upn, Nat.reduceAdd, Nat.reduceSub, Nat.reduceMul, Nat.reduceMod, Nat.reduceAnd, Nat.reducePow, Nat.reduceEqDiff, Nat.add_zero, Nat.zero_add, Bool.false_eq_true, Nat.add_sub_cancel, h3, h]
/-- the reference's row of truths, the bottom first -/
def TR (M : St) (st : List Bool) : Prop := ∀ j, j < st.length → M.2.2.1 47 j = nI (tn (st.getD (st.length - 1 - j) false))
theorem TR_push {st : List Bool} {b : Bool} (h : TR M st) (hl : st.length ≤ 20) : TR (sA M 47 (nI st.length) (nI (tn b))) (b :: st) := by
  intro j hj
  rw [List.length_cons] at hj
  rw [pu_sAe (by omega), List.length_cons, Nat.add_sub_cancel]
  by_cases e : j = st.length
  · rw [if_pos e, e, Nat.sub_self, List.getD_cons_zero]
  · rw [if_neg e, h j (by omega), show st.length - j = (st.length - 1 - j) + 1 from by omega, List.getD_cons_succ]
theorem TR_top {a b : Bool} {l : List Bool} (h : TR M (a :: l)) (hl : l.length ≤ 20) : TR (sA M 47 (nI l.length) (nI (tn b))) (b :: l) := by
  intro j hj
  rw [List.length_cons] at hj
  have hj2 := h j (by rw [List.length_cons]; exact hj)
  rw [pu_sAe (by omega)]
  rw [List.length_cons, Nat.add_sub_cancel] at hj2 ⊢
  by_cases e : j = l.length
  · rw [if_pos e, e, Nat.sub_self, List.getD_cons_zero]
  · rw [if_neg e, hj2, show l.length - j = (l.length - 1 - j) + 1 from by omega, List.getD_cons_succ, List.getD_cons_succ]
theorem TR_pop {a : Bool} {l : List Bool} (h : TR M (a :: l)) : TR M l := by
  intro j hj
  have hj2 := h j (by rw [List.length_cons]; omega)
  rw [List.length_cons, Nat.add_sub_cancel, show l.length - j = (l.length - 1 - j) + 1 from by omega, List.getD_cons_succ] at hj2
  exact hj2
theorem TR_at {a : Bool} {l : List Bool} (h : TR M (a :: l)) : M.2.2.1 47 l.length = nI (tn a) := by
  have := h l.length (by rw [List.length_cons]; omega)
  rw [List.length_cons, Nat.add_sub_cancel, Nat.sub_self, List.getD_cons_zero] at this
  exact this
theorem nar_b (b : Bool) : vp_nar .boolean (nI (tn b)) = nI (tn b) := by cases b <;> decide
theorem nar_0 : vp_nar .boolean (nI 0) = nI 0 := by decide
theorem nar_1 : vp_nar .boolean (nI 1) = nI 1 := by decide
theorem x12_holds (hM : RM M V) (hw : WF V) (hp : p < V 1) (hn : n ≤ 39) (h3 : M.2.2.1 6 77 = nI n) (hc : ∀ i, i < n → M.2.2.1 6 (78 + 3 * i) = nI (mcd (cs i)) ∧ M.2.2.1 6 (78 + 3 * i + 1) = nI (cg i) ∧ M.2.2.1 6 (78 + 3 * i + 2) = nI (cu i)) (hW : WC cs cg cu n) (h1 : dpt cs n = 1) : ∃ M', F_X12_isSaid M (nI p) = some (nI (hv (evS V p cs cg cu n) % 2), M') ∧ FR [] [47] [] M M' := by
  have hlen := fun i hi => evS_len (V := V) (p := p) hW i hi
  have key := lp_inv (body := fun kz z => F_X12_isSaid_4 kz z.1 z.2.1 z.2.2.1 z.2.2.2) (fun i z => ∃ M', z = (nI p, nI (dpt cs i), nI i, M') ∧ FR [] [47] [] M M' ∧ TR M' (evS V p cs cg cu i)) n (fun o => o.1 = nI (hv (evS V p cs cg cu n) % 2) ∧ FR [] [47] [] M o.2) (fun i hi z hz => ?_) (fun z hz => ?_) (x0 := (nI p, nI 0, nI 0, M)) ⟨M, rfl, FR.rf, fun j hj => by cases hj⟩ (pu_FU (by omega : n < 1000000))
  · obtain ⟨o, ⟨a1, a2⟩, a3⟩ := key
    refine ⟨o.2, ?_, a2⟩
    rw [← a1]
    exact a3
  · obtain ⟨M', rfl, a1, a2⟩ := hz
    obtain ⟨c0, c1, c2⟩ := hc i hi
    obtain ⟨⟨d1, d2⟩, d3, d4, d5, d6, d7, d8⟩ := hW i hi
    have hl := hlen i (by omega)
    have r6 : M'.2.2.1 6 = M.2.2.1 6 := a1.2.1 6 (by decide)
    have hM' : RM M' V := fun k hk => by rw [r6]; exact hM k hk
    rw [← r6] at c0 c1 c2
    have h3' : M'.2.2.1 6 77 = nI n := by rw [r6]; exact h3
    simp only [evS, dpt]
    generalize hst : evS V p cs cg cu i = st at *
    rcases (by omega : cs i = 24 ∨ cs i = 25 ∨ cs i = 26 ∨ 26 < cs i) with e | e | e | e
    · have hd := d4 (by omega)
      match st, hl, a2 with
      | [], hl, _ => simp only [List.length_nil] at hl; omega
      | [a], hl, _ => simp only [List.length_cons, List.length_nil] at hl; omega
      | a :: c :: l, hl, a2 =>
        simp only [List.length_cons] at hl
        have hta := TR_at a2
        have htc := TR_at (TR_pop a2)
        simp only [List.length_cons] at hta
        have hm : mcd (cs i) = 22 := by rw [e]; rfl
        rw [hm] at c0
        refine ⟨(nI p, nI (dpt cs i - 1), nI (i + 1), sA M' 47 (nI l.length) (nI (tn (c || a)))), ⟨_, by rw [if_neg (by omega), if_pos (by omega)], a1.tr (FR.sA (by decide)), ?_⟩, fun k => ?_⟩
        · rw [e]; exact TR_top (TR_pop a2) (by omega)
        · show F_X12_isSaid_4 k (nI p) (nI (dpt cs i)) (nI i) M' = _
          have hx1 : nI (dpt cs i) + (-1) = nI (l.length + 1) := by rw [dn_all, pu_sub (by omega)]; congr 1; omega
          have e9 : dpt cs i - 1 = l.length + 1 := by omega
          rw [e9]
          unfold F_X12_isSaid_4 F_X12_isSaid_86 F_X12_isSaid_156 F_X12_isSaid_161 F_X12_isSaid_204
          cases a <;> cases c
          all_goals
            simp only [tn, Bool.false_eq_true, if_false, if_true, Bool.or_false, Bool.false_or, Bool.or_true, Bool.true_or] at hta htc ⊢
            simp (disch := omega) only [↓pu_m1, pu_lit, ↓reduceIte, pu_leT, pu_leF, pu_ltT, pu_ltF, pu_eqT, pu_eqF, pu_eqO, pu_eqO2, pu_ltO, pu_leO, pu_subO, pu_subOF, pu_subT, pu_subF, pu_oobF, pu_clamp, pu_add, pu_sub, pu_mul, pu_and, pu_or, pu_xor, pu_xorO, pu_shl, pu_shr, pu_ushr, pu_nb0, pu_nb1, pu_ob1N, pu_ob2N, pu_ob3N, pu_ob4N, pu_nwN, pu_n1, pu_n7, pu_n31, pu_n255, pu_md, pu_one, pu_sI1, pu_sI2, pu_sA1, pu_sA21, pu_sA222, pu_sAe, pu_sAn, pu_sJ1, pu_sJ21, pu_sJ221, pu_sF1, pu_sF21, pu_sF222, pu_sFe, pu_sFn, pu_upe, pu_upn, Nat.reduceAdd, Nat.reduceSub, Nat.reduceMul, Nat.reduceMod, Nat.reduceAnd, Nat.reducePow, Nat.reduceEqDiff, Nat.add_zero, Nat.zero_add, Bool.false_eq_true, Nat.add_sub_cancel, ↓hx1, h3', c0, hta, htc, nar_0, nar_1]
    · have hd := d4 (by omega)
      match st, hl, a2 with
      | [], hl, _ => simp only [List.length_nil] at hl; omega
      | [a], hl, _ => simp only [List.length_cons, List.length_nil] at hl; omega
      | a :: c :: l, hl, a2 =>
        simp only [List.length_cons] at hl
        have hta := TR_at a2
        have htc := TR_at (TR_pop a2)
        simp only [List.length_cons] at hta
        have hm : mcd (cs i) = 21 := by rw [e]; rfl
        rw [hm] at c0
        refine ⟨(nI p, nI (dpt cs i - 1), nI (i + 1), sA M' 47 (nI l.length) (nI (tn (c && a)))), ⟨_, by rw [if_neg (by omega), if_pos (by omega)], a1.tr (FR.sA (by decide)), ?_⟩, fun k => ?_⟩
        · rw [e]; exact TR_top (TR_pop a2) (by omega)
        · show F_X12_isSaid_4 k (nI p) (nI (dpt cs i)) (nI i) M' = _
          have hx1 : nI (dpt cs i) + (-1) = nI (l.length + 1) := by rw [dn_all, pu_sub (by omega)]; congr 1; omega
          have e9 : dpt cs i - 1 = l.length + 1 := by omega
          rw [e9]
          unfold F_X12_isSaid_4 F_X12_isSaid_86 F_X12_isSaid_132 F_X12_isSaid_161 F_X12_isSaid_204
          cases a <;> cases c
          all_goals
            simp only [tn, Bool.false_eq_true, if_false, if_true, Bool.and_false, Bool.false_and, Bool.and_true, Bool.true_and] at hta htc ⊢
            simp (disch := omega) only [↓pu_m1, pu_lit, ↓reduceIte, pu_leT, pu_leF, pu_ltT, pu_ltF, pu_eqT, pu_eqF, pu_eqO, pu_eqO2, pu_ltO, pu_leO, pu_subO, pu_subOF, pu_subT, pu_subF, pu_oobF, pu_clamp, pu_add, pu_sub, pu_mul, pu_and, pu_or, pu_xor, pu_xorO, pu_shl, pu_shr, pu_ushr, pu_nb0, pu_nb1, pu_ob1N, pu_ob2N, pu_ob3N, pu_ob4N, pu_nwN, pu_n1, pu_n7, pu_n31, pu_n255, pu_md, pu_one, pu_sI1, pu_sI2, pu_sA1, pu_sA21, pu_sA222, pu_sAe, pu_sAn, pu_sJ1, pu_sJ21, pu_sJ221, pu_sF1, pu_sF21, pu_sF222, pu_sFe, pu_sFn, pu_upe, pu_upn, Nat.reduceAdd, Nat.reduceSub, Nat.reduceMul, Nat.reduceMod, Nat.reduceAnd, Nat.reducePow, Nat.reduceEqDiff, Nat.add_zero, Nat.zero_add, Bool.false_eq_true, Nat.add_sub_cancel, ↓hx1, h3', c0, hta, htc, nar_0, nar_1]
    · have hd := d3 e
      match st, hl, a2 with
      | [], hl, _ => simp only [List.length_nil] at hl; omega
      | a :: l, hl, a2 =>
        simp only [List.length_cons] at hl
        have hta := TR_at a2
        have hm : mcd (cs i) = 20 := by rw [e]; rfl
        rw [hm] at c0
        refine ⟨(nI p, nI (dpt cs i), nI (i + 1), sA M' 47 (nI l.length) (nI (tn (!a)))), ⟨_, by rw [if_pos e], a1.tr (FR.sA (by decide)), ?_⟩, fun k => ?_⟩
        · rw [e]; exact TR_top a2 (by omega)
        · show F_X12_isSaid_4 k (nI p) (nI (dpt cs i)) (nI i) M' = _
          have e9 : dpt cs i = l.length + 1 := by omega
          rw [e9]
          unfold F_X12_isSaid_4 F_X12_isSaid_58 F_X12_isSaid_204
          cases a
          all_goals
            simp only [tn, Bool.false_eq_true, if_false, if_true, Bool.not_false, Bool.not_true] at hta ⊢
            simp (disch := omega) only [↓pu_m1, pu_lit, ↓reduceIte, pu_leT, pu_leF, pu_ltT, pu_ltF, pu_eqT, pu_eqF, pu_eqO, pu_eqO2, pu_ltO, pu_leO, pu_subO, pu_subOF, pu_subT, pu_subF, pu_oobF, pu_clamp, pu_add, pu_sub, pu_mul, pu_and, pu_or, pu_xor, pu_xorO, pu_shl, pu_shr, pu_ushr, pu_nb0, pu_nb1, pu_ob1N, pu_ob2N, pu_ob3N, pu_ob4N, pu_nwN, pu_n1, pu_n7, pu_n31, pu_n255, pu_md, pu_one, pu_sI1, pu_sI2, pu_sA1, pu_sA21, pu_sA222, pu_sAe, pu_sAn, pu_sJ1, pu_sJ21, pu_sJ221, pu_sF1, pu_sF21, pu_sF222, pu_sFe, pu_sFn, pu_upe, pu_upn, Nat.reduceAdd, Nat.reduceSub, Nat.reduceMul, Nat.reduceMod, Nat.reduceAnd, Nat.reducePow, Nat.reduceEqDiff, Nat.add_zero, Nat.zero_add, Bool.false_eq_true, Nat.add_sub_cancel, h3', c0, hta, nar_0, nar_1]
    · have hlf := x12_isLeaf hM' hw hp (s := cs i) (g := cg i) (u := cu i) (by omega) d5 d6 d7
      have hst2 : stp (cs i) (lvB V p (cs i) (cg i) (cu i)) st = lvB V p (cs i) (cg i) (cu i) :: st := by
        unfold stp
        rw [if_neg (by omega), if_neg (by omega), if_neg (by omega)]
      have hm : mcd (cs i) = cs i - 27 := by unfold mcd; rw [if_neg (by omega), if_neg (by omega), if_neg (by omega)]
      rw [hm] at c0 hlf
      have hnb := nar_b (lvB V p (cs i) (cg i) (cu i))
      rw [hst2]
      refine ⟨(nI p, nI (dpt cs i + 1), nI (i + 1), sA M' 47 (nI (dpt cs i)) (nI (tn (lvB V p (cs i) (cg i) (cu i))))), ⟨_, by rw [if_neg (by omega), if_neg (by omega)], a1.tr (FR.sA (by decide)), ?_⟩, fun k => ?_⟩
      · rw [← hl]; exact TR_push a2 (by omega)
      · show F_X12_isSaid_4 k (nI p) (nI (dpt cs i)) (nI i) M' = _
        unfold F_X12_isSaid_4 F_X12_isSaid_204
        simp (disch := omega) only [↓pu_m1, pu_lit, ↓reduceIte, pu_leT, pu_leF, pu_ltT, pu_ltF, pu_eqT, pu_eqF, pu_eqO, pu_eqO2, pu_ltO, pu_leO, pu_subO, pu_subOF, pu_subT, pu_subF, pu_oobF, pu_clamp, pu_add, pu_sub, pu_mul, pu_and, pu_or, pu_xor, pu_xorO, pu_shl, pu_shr, pu_ushr, pu_nb0, pu_nb1, pu_ob1N, pu_ob2N, pu_ob3N, pu_ob4N, pu_nwN, pu_n1, pu_n7, pu_n31, pu_n255, pu_md, pu_one, pu_sI1, pu_sI2, pu_sA1, pu_sA21, pu_sA222, pu_sAe, pu_sAn, pu_sJ1, pu_sJ21, pu_sJ221, pu_sF1, pu_sF21, pu_sF222, pu_sFe, pu_sFn, pu_upe, pu_upn, Nat.reduceAdd, Nat.reduceSub, Nat.reduceMul, Nat.reduceMod, Nat.reduceAnd, Nat.reducePow, Nat.reduceEqDiff, Nat.add_zero, Nat.zero_add, Bool.false_eq_true, Nat.add_sub_cancel, h3', c0, c1, c2, hlf, hnb]
  · obtain ⟨M', rfl, a1, a2⟩ := hz
    have hl := hlen n (Nat.le_refl _)
    rw [h1] at hl
    have r6 : M'.2.2.1 6 = M.2.2.1 6 := a1.2.1 6 (by decide)
    have h3' : M'.2.2.1 6 77 = nI n := by rw [r6]; exact h3
    refine ⟨(nI (hv (evS V p cs cg cu n) % 2), M'), ⟨rfl, a1⟩, fun k => ?_⟩
    show F_X12_isSaid_4 k (nI p) (nI (dpt cs n)) (nI n) M' = _
    generalize evS V p cs cg cu n = st at *
    match st, hl, a2 with
    | [a], hl, a2 =>
      have hta := TR_at a2
      simp only [List.length_nil] at hta
      have hv1 : hv [a] % 2 = tn a := by
        have := tn_le a
        simp only [hv]; omega
      rw [hv1]
      unfold F_X12_isSaid_4
      cases a
      all_goals
        simp only [tn, Bool.false_eq_true, if_false, if_true] at hta ⊢
        simp (disch := omega) only [↓pu_m1, pu_lit, ↓reduceIte, pu_leT, pu_leF, pu_ltT, pu_ltF, pu_eqT, pu_eqF, pu_eqO, pu_eqO2, pu_ltO, pu_leO, pu_subO, pu_subOF, pu_subT, pu_subF, pu_oobF, pu_clamp, pu_add, pu_sub, pu_mul, pu_and, pu_or, pu_xor, pu_xorO, pu_shl, pu_shr, pu_ushr, pu_nb0, pu_nb1, pu_ob1N, pu_ob2N, pu_ob3N, pu_ob4N, pu_nwN, pu_n1, pu_n7, pu_n31, pu_n255, pu_md, pu_one, pu_sI1, pu_sI2, pu_sA1, pu_sA21, pu_sA222, pu_sAe, pu_sAn, pu_sJ1, pu_sJ21, pu_sJ221, pu_sF1, pu_sF21, pu_sF222, pu_sFe, pu_sFn, pu_upe, pu_upn, Nat.reduceAdd, Nat.reduceSub, Nat.reduceMul, Nat.reduceMod, Nat.reduceAnd, Nat.reducePow, Nat.reduceEqDiff, Nat.add_zero, Nat.zero_add, Bool.false_eq_true, Nat.add_sub_cancel, h3', hta]
theorem p_said (hS : RS B V) (hM : RM M V) (hw : WF V) (hC : CR N (M.2.2.1 6)) (x : Int32) : ∃ r M', F_X11_said T N B x = some r ∧ F_X12_said M x = some (r, M') ∧ FR [0] [47] [] M M' := by
  have w1 := hw.2.1
  have e7 := hS.2.1
  obtain ⟨n, cs, cg, cu, h1, h2, h3, ⟨o, h4, h5, h6⟩, h7, h8, h9⟩ := hC
  unfold F_X11_said F_X12_said
  by_cases hn : n = 0
  · have ho : o = 0 := h6.mpr hn
    exact ⟨nO, sI M 0 (nI 0), by simp (disch := omega) only [↓pu_m1, pu_lit, ↓reduceIte, pu_leT, pu_leF, pu_ltT, pu_ltF, pu_eqT, pu_eqF, pu_eqO, pu_eqO2, pu_ltO, pu_leO, pu_subO, pu_subOF, pu_subT, pu_subF, pu_oobF, pu_clamp, pu_add, pu_sub, pu_mul, pu_and, pu_or, pu_xor, pu_xorO, pu_shl, pu_shr, pu_ushr, pu_nb0, pu_nb1, pu_ob1N, pu_ob2N, pu_ob3N, pu_ob4N, pu_nwN, pu_n1, pu_n7, pu_n31, pu_n255, pu_md, pu_one, pu_sI1, pu_sI2, pu_sA1, pu_sA21, pu_sA222, pu_sAe, pu_sAn, pu_sJ1, pu_sJ21, pu_sJ221, pu_sF1, pu_sF21, pu_sF222, pu_sFe, pu_sFn, pu_upe, pu_upn, Nat.reduceAdd, Nat.reduceSub, Nat.reduceMul, Nat.reduceMod, Nat.reduceAnd, Nat.reducePow, Nat.reduceEqDiff, Nat.add_zero, Nat.zero_add, Bool.false_eq_true, Nat.add_sub_cancel, h4, ho], by simp (disch := omega) only [↓pu_m1, pu_lit, ↓reduceIte, pu_leT, pu_leF, pu_ltT, pu_ltF, pu_eqT, pu_eqF, pu_eqO, pu_eqO2, pu_ltO, pu_leO, pu_subO, pu_subOF, pu_subT, pu_subF, pu_oobF, pu_clamp, pu_add, pu_sub, pu_mul, pu_and, pu_or, pu_xor, pu_xorO, pu_shl, pu_shr, pu_ushr, pu_nb0, pu_nb1, pu_ob1N, pu_ob2N, pu_ob3N, pu_ob4N, pu_nwN, pu_n1, pu_n7, pu_n31, pu_n255, pu_md, pu_one, pu_sI1, pu_sI2, pu_sA1, pu_sA21, pu_sA222, pu_sAe, pu_sAn, pu_sJ1, pu_sJ21, pu_sJ221, pu_sF1, pu_sF21, pu_sF222, pu_sFe, pu_sFn, pu_upe, pu_upn, Nat.reduceAdd, Nat.reduceSub, Nat.reduceMul, Nat.reduceMod, Nat.reduceAnd, Nat.reducePow, Nat.reduceEqDiff, Nat.add_zero, Nat.zero_add, Bool.false_eq_true, Nat.add_sub_cancel, h3, hn], FR.sI (by decide)⟩
  · have ho : o ≠ 0 := fun e => hn (h6.mp e)
    by_cases hx : nO ≤ x
    · have key := lp_twoE (b1 := fun kz z => F_X11_said_21 kz z.1 z.2.1 z.2.2.1 z.2.2.2.1 z.2.2.2.2.1 z.2.2.2.2.2) (b2 := fun kz z => F_X12_said_26 kz z.1 z.2.1 z.2.2.1 z.2.2.2) (fun i a b => ∃ m M', a = (x, nI m, nI i, T, N, B) ∧ b = (x, nI m, nI i, M') ∧ FR [0] [47] [] M M') (V 1) (fun o o' => o = o'.1 ∧ FR [0] [47] [] M o'.2) (fun i hi a b hab => ?_) (x0 := (x, nI 0, nI 0, T, N, B)) (y0 := (x, nI 0, nI 0, sI M 0 (nI 0))) ⟨0, _, rfl, rfl, FR.sI (by decide)⟩ (pu_FU (by omega : V 1 < 1000000))
      · obtain ⟨r, o', ⟨q1, q2⟩, q3, q4⟩ := key
        refine ⟨r, o'.2, ?_, ?_, q2⟩
        · unfold L_X11_said_21
          simp (disch := omega) only [↓pu_m1, pu_lit, ↓reduceIte, pu_leT, pu_leF, pu_ltT, pu_ltF, pu_eqT, pu_eqF, pu_eqO, pu_eqO2, pu_ltO, pu_leO, pu_subO, pu_subOF, pu_subT, pu_subF, pu_oobF, pu_clamp, pu_add, pu_sub, pu_mul, pu_and, pu_or, pu_xor, pu_xorO, pu_shl, pu_shr, pu_ushr, pu_nb0, pu_nb1, pu_ob1N, pu_ob2N, pu_ob3N, pu_ob4N, pu_nwN, pu_n1, pu_n7, pu_n31, pu_n255, pu_md, pu_one, pu_sI1, pu_sI2, pu_sA1, pu_sA21, pu_sA222, pu_sAe, pu_sAn, pu_sJ1, pu_sJ21, pu_sJ221, pu_sF1, pu_sF21, pu_sF222, pu_sFe, pu_sFn, pu_upe, pu_upn, Nat.reduceAdd, Nat.reduceSub, Nat.reduceMul, Nat.reduceMod, Nat.reduceAnd, Nat.reducePow, Nat.reduceEqDiff, Nat.add_zero, Nat.zero_add, Bool.false_eq_true, Nat.add_sub_cancel, h4, ho, hx]
          exact q3
        · unfold L_X12_said_26
          simp (disch := omega) only [↓pu_m1, pu_lit, ↓reduceIte, pu_leT, pu_leF, pu_ltT, pu_ltF, pu_eqT, pu_eqF, pu_eqO, pu_eqO2, pu_ltO, pu_leO, pu_subO, pu_subOF, pu_subT, pu_subF, pu_oobF, pu_clamp, pu_add, pu_sub, pu_mul, pu_and, pu_or, pu_xor, pu_xorO, pu_shl, pu_shr, pu_ushr, pu_nb0, pu_nb1, pu_ob1N, pu_ob2N, pu_ob3N, pu_ob4N, pu_nwN, pu_n1, pu_n7, pu_n31, pu_n255, pu_md, pu_one, pu_sI1, pu_sI2, pu_sA1, pu_sA21, pu_sA222, pu_sAe, pu_sAn, pu_sJ1, pu_sJ21, pu_sJ221, pu_sF1, pu_sF21, pu_sF222, pu_sFe, pu_sFn, pu_upe, pu_upn, Nat.reduceAdd, Nat.reduceSub, Nat.reduceMul, Nat.reduceMod, Nat.reduceAnd, Nat.reducePow, Nat.reduceEqDiff, Nat.add_zero, Nat.zero_add, Bool.false_eq_true, Nat.add_sub_cancel, h3, hn, hx]
          rw [q1]
          exact q4
      · obtain ⟨m, M', rfl, rfl, a1⟩ := hab
        have r6 : M'.2.2.1 6 = M.2.2.1 6 := a1.2.1 6 (by decide)
        have g1 : M'.2.2.1 6 1 = nI (V 1) := by rw [r6]; exact hM 1 (by omega)
        by_cases hi2 : i = V 1
        · left
          by_cases hxo : x = nO
          · refine ⟨nI m, (nI m, M'), ⟨rfl, a1⟩, fun k => ?_, fun k => ?_⟩
            · show F_X11_said_21 k x (nI m) (nI i) T N B = _
              unfold F_X11_said_21
              simp (disch := omega) only [↓pu_m1, pu_lit, ↓reduceIte, pu_leT, pu_leF, pu_ltT, pu_ltF, pu_eqT, pu_eqF, pu_eqO, pu_eqO2, pu_ltO, pu_leO, pu_subO, pu_subOF, pu_subT, pu_subF, pu_oobF, pu_clamp, pu_add, pu_sub, pu_mul, pu_and, pu_or, pu_xor, pu_xorO, pu_shl, pu_shr, pu_ushr, pu_nb0, pu_nb1, pu_ob1N, pu_ob2N, pu_ob3N, pu_ob4N, pu_nwN, pu_n1, pu_n7, pu_n31, pu_n255, pu_md, pu_one, pu_sI1, pu_sI2, pu_sA1, pu_sA21, pu_sA222, pu_sAe, pu_sAn, pu_sJ1, pu_sJ21, pu_sJ221, pu_sF1, pu_sF21, pu_sF222, pu_sFe, pu_sFn, pu_upe, pu_upn, Nat.reduceAdd, Nat.reduceSub, Nat.reduceMul, Nat.reduceMod, Nat.reduceAnd, Nat.reducePow, Nat.reduceEqDiff, Nat.add_zero, Nat.zero_add, Bool.false_eq_true, Nat.add_sub_cancel, e7, hi2, hxo]
            · show F_X12_said_26 k x (nI m) (nI i) M' = _
              unfold F_X12_said_26
              simp (disch := omega) only [↓pu_m1, pu_lit, ↓reduceIte, pu_leT, pu_leF, pu_ltT, pu_ltF, pu_eqT, pu_eqF, pu_eqO, pu_eqO2, pu_ltO, pu_leO, pu_subO, pu_subOF, pu_subT, pu_subF, pu_oobF, pu_clamp, pu_add, pu_sub, pu_mul, pu_and, pu_or, pu_xor, pu_xorO, pu_shl, pu_shr, pu_ushr, pu_nb0, pu_nb1, pu_ob1N, pu_ob2N, pu_ob3N, pu_ob4N, pu_nwN, pu_n1, pu_n7, pu_n31, pu_n255, pu_md, pu_one, pu_sI1, pu_sI2, pu_sA1, pu_sA21, pu_sA222, pu_sAe, pu_sAn, pu_sJ1, pu_sJ21, pu_sJ221, pu_sF1, pu_sF21, pu_sF222, pu_sFe, pu_sFn, pu_upe, pu_upn, Nat.reduceAdd, Nat.reduceSub, Nat.reduceMul, Nat.reduceMod, Nat.reduceAnd, Nat.reducePow, Nat.reduceEqDiff, Nat.add_zero, Nat.zero_add, Bool.false_eq_true, Nat.add_sub_cancel, g1, hi2, hxo]
          · refine ⟨nO, (nO, M'), ⟨rfl, a1⟩, fun k => ?_, fun k => ?_⟩
            · show F_X11_said_21 k x (nI m) (nI i) T N B = _
              unfold F_X11_said_21
              simp (disch := omega) only [↓pu_m1, pu_lit, ↓reduceIte, pu_leT, pu_leF, pu_ltT, pu_ltF, pu_eqT, pu_eqF, pu_eqO, pu_eqO2, pu_ltO, pu_leO, pu_subO, pu_subOF, pu_subT, pu_subF, pu_oobF, pu_clamp, pu_add, pu_sub, pu_mul, pu_and, pu_or, pu_xor, pu_xorO, pu_shl, pu_shr, pu_ushr, pu_nb0, pu_nb1, pu_ob1N, pu_ob2N, pu_ob3N, pu_ob4N, pu_nwN, pu_n1, pu_n7, pu_n31, pu_n255, pu_md, pu_one, pu_sI1, pu_sI2, pu_sA1, pu_sA21, pu_sA222, pu_sAe, pu_sAn, pu_sJ1, pu_sJ21, pu_sJ221, pu_sF1, pu_sF21, pu_sF222, pu_sFe, pu_sFn, pu_upe, pu_upn, Nat.reduceAdd, Nat.reduceSub, Nat.reduceMul, Nat.reduceMod, Nat.reduceAnd, Nat.reducePow, Nat.reduceEqDiff, Nat.add_zero, Nat.zero_add, Bool.false_eq_true, Nat.add_sub_cancel, e7, hi2, hxo]
            · show F_X12_said_26 k x (nI m) (nI i) M' = _
              unfold F_X12_said_26
              simp (disch := omega) only [↓pu_m1, pu_lit, ↓reduceIte, pu_leT, pu_leF, pu_ltT, pu_ltF, pu_eqT, pu_eqF, pu_eqO, pu_eqO2, pu_ltO, pu_leO, pu_subO, pu_subOF, pu_subT, pu_subF, pu_oobF, pu_clamp, pu_add, pu_sub, pu_mul, pu_and, pu_or, pu_xor, pu_xorO, pu_shl, pu_shr, pu_ushr, pu_nb0, pu_nb1, pu_ob1N, pu_ob2N, pu_ob3N, pu_ob4N, pu_nwN, pu_n1, pu_n7, pu_n31, pu_n255, pu_md, pu_one, pu_sI1, pu_sI2, pu_sA1, pu_sA21, pu_sA222, pu_sAe, pu_sAn, pu_sJ1, pu_sJ21, pu_sJ221, pu_sF1, pu_sF21, pu_sF222, pu_sFe, pu_sFn, pu_upe, pu_upn, Nat.reduceAdd, Nat.reduceSub, Nat.reduceMul, Nat.reduceMod, Nat.reduceAnd, Nat.reducePow, Nat.reduceEqDiff, Nat.add_zero, Nat.zero_add, Bool.false_eq_true, Nat.add_sub_cancel, g1, hi2, hxo]
        · have hiv : i < V 1 := by omega
          have c1 := x7_holds (N := N) hS hw hiv h1 h2 (fun j hj => ⟨(h7 j hj).1, (h7 j hj).2.1, (h7 j hj).2.2.1⟩) h8
          obtain ⟨M2, c2, c3⟩ := x12_holds (M := M') (fun k hk => by rw [r6]; exact hM k hk) hw hiv h1 (by rw [r6]; exact h3) (fun j hj => by rw [r6]; exact (h7 j hj).2.2.2) h8 (h9 (by omega))
          have hF2 : FR [0] [47] [] M M2 := a1.tr (c3.mono (by decide) (by decide) (by decide))
          rcases Nat.mod_two_eq_zero_or_one (hv (evS V i cs cg cu n)) with h | h
          · rw [h] at c1 c2
            right
            refine ⟨hiv, (x, nI m, nI (i + 1), T, N, B), (x, nI m, nI (i + 1), M2), ⟨m, M2, rfl, rfl, hF2⟩, fun k => ?_, fun k => ?_⟩
            · show F_X11_said_21 k x (nI m) (nI i) T N B = _
              unfold F_X11_said_21 F_X11_said_57
              simp (disch := omega) only [↓pu_m1, pu_lit, ↓reduceIte, pu_leT, pu_leF, pu_ltT, pu_ltF, pu_eqT, pu_eqF, pu_eqO, pu_eqO2, pu_ltO, pu_leO, pu_subO, pu_subOF, pu_subT, pu_subF, pu_oobF, pu_clamp, pu_add, pu_sub, pu_mul, pu_and, pu_or, pu_xor, pu_xorO, pu_shl, pu_shr, pu_ushr, pu_nb0, pu_nb1, pu_ob1N, pu_ob2N, pu_ob3N, pu_ob4N, pu_nwN, pu_n1, pu_n7, pu_n31, pu_n255, pu_md, pu_one, pu_sI1, pu_sI2, pu_sA1, pu_sA21, pu_sA222, pu_sAe, pu_sAn, pu_sJ1, pu_sJ21, pu_sJ221, pu_sF1, pu_sF21, pu_sF222, pu_sFe, pu_sFn, pu_upe, pu_upn, Nat.reduceAdd, Nat.reduceSub, Nat.reduceMul, Nat.reduceMod, Nat.reduceAnd, Nat.reducePow, Nat.reduceEqDiff, Nat.add_zero, Nat.zero_add, Bool.false_eq_true, Nat.add_sub_cancel, e7, c1]
            · show F_X12_said_26 k x (nI m) (nI i) M' = _
              unfold F_X12_said_26 F_X12_said_57
              simp (disch := omega) only [↓pu_m1, pu_lit, ↓reduceIte, pu_leT, pu_leF, pu_ltT, pu_ltF, pu_eqT, pu_eqF, pu_eqO, pu_eqO2, pu_ltO, pu_leO, pu_subO, pu_subOF, pu_subT, pu_subF, pu_oobF, pu_clamp, pu_add, pu_sub, pu_mul, pu_and, pu_or, pu_xor, pu_xorO, pu_shl, pu_shr, pu_ushr, pu_nb0, pu_nb1, pu_ob1N, pu_ob2N, pu_ob3N, pu_ob4N, pu_nwN, pu_n1, pu_n7, pu_n31, pu_n255, pu_md, pu_one, pu_sI1, pu_sI2, pu_sA1, pu_sA21, pu_sA222, pu_sAe, pu_sAn, pu_sJ1, pu_sJ21, pu_sJ221, pu_sF1, pu_sF21, pu_sF222, pu_sFe, pu_sFn, pu_upe, pu_upn, Nat.reduceAdd, Nat.reduceSub, Nat.reduceMul, Nat.reduceMod, Nat.reduceAnd, Nat.reducePow, Nat.reduceEqDiff, Nat.add_zero, Nat.zero_add, Bool.false_eq_true, Nat.add_sub_cancel, g1, c2]
          · rw [h] at c1 c2
            by_cases hm : nI m = x
            · left
              refine ⟨nI i, (nI i, M2), ⟨rfl, hF2⟩, fun k => ?_, fun k => ?_⟩
              · show F_X11_said_21 k x (nI m) (nI i) T N B = _
                unfold F_X11_said_21
                simp (disch := omega) only [↓pu_m1, pu_lit, ↓reduceIte, pu_leT, pu_leF, pu_ltT, pu_ltF, pu_eqT, pu_eqF, pu_eqO, pu_eqO2, pu_ltO, pu_leO, pu_subO, pu_subOF, pu_subT, pu_subF, pu_oobF, pu_clamp, pu_add, pu_sub, pu_mul, pu_and, pu_or, pu_xor, pu_xorO, pu_shl, pu_shr, pu_ushr, pu_nb0, pu_nb1, pu_ob1N, pu_ob2N, pu_ob3N, pu_ob4N, pu_nwN, pu_n1, pu_n7, pu_n31, pu_n255, pu_md, pu_one, pu_sI1, pu_sI2, pu_sA1, pu_sA21, pu_sA222, pu_sAe, pu_sAn, pu_sJ1, pu_sJ21, pu_sJ221, pu_sF1, pu_sF21, pu_sF222, pu_sFe, pu_sFn, pu_upe, pu_upn, Nat.reduceAdd, Nat.reduceSub, Nat.reduceMul, Nat.reduceMod, Nat.reduceAnd, Nat.reducePow, Nat.reduceEqDiff, Nat.add_zero, Nat.zero_add, Bool.false_eq_true, Nat.add_sub_cancel, e7, c1, hm]
              · show F_X12_said_26 k x (nI m) (nI i) M' = _
                unfold F_X12_said_26
                simp (disch := omega) only [↓pu_m1, pu_lit, ↓reduceIte, pu_leT, pu_leF, pu_ltT, pu_ltF, pu_eqT, pu_eqF, pu_eqO, pu_eqO2, pu_ltO, pu_leO, pu_subO, pu_subOF, pu_subT, pu_subF, pu_oobF, pu_clamp, pu_add, pu_sub, pu_mul, pu_and, pu_or, pu_xor, pu_xorO, pu_shl, pu_shr, pu_ushr, pu_nb0, pu_nb1, pu_ob1N, pu_ob2N, pu_ob3N, pu_ob4N, pu_nwN, pu_n1, pu_n7, pu_n31, pu_n255, pu_md, pu_one, pu_sI1, pu_sI2, pu_sA1, pu_sA21, pu_sA222, pu_sAe, pu_sAn, pu_sJ1, pu_sJ21, pu_sJ221, pu_sF1, pu_sF21, pu_sF222, pu_sFe, pu_sFn, pu_upe, pu_upn, Nat.reduceAdd, Nat.reduceSub, Nat.reduceMul, Nat.reduceMod, Nat.reduceAnd, Nat.reducePow, Nat.reduceEqDiff, Nat.add_zero, Nat.zero_add, Bool.false_eq_true, Nat.add_sub_cancel, g1, c2, hm]
            · right
              refine ⟨hiv, (x, nI (m + 1), nI (i + 1), T, N, B), (x, nI (m + 1), nI (i + 1), M2), ⟨m + 1, M2, rfl, rfl, hF2⟩, fun k => ?_, fun k => ?_⟩
              · show F_X11_said_21 k x (nI m) (nI i) T N B = _
                unfold F_X11_said_21 F_X11_said_57
                simp (disch := omega) only [↓pu_m1, pu_lit, ↓reduceIte, pu_leT, pu_leF, pu_ltT, pu_ltF, pu_eqT, pu_eqF, pu_eqO, pu_eqO2, pu_ltO, pu_leO, pu_subO, pu_subOF, pu_subT, pu_subF, pu_oobF, pu_clamp, pu_add, pu_sub, pu_mul, pu_and, pu_or, pu_xor, pu_xorO, pu_shl, pu_shr, pu_ushr, pu_nb0, pu_nb1, pu_ob1N, pu_ob2N, pu_ob3N, pu_ob4N, pu_nwN, pu_n1, pu_n7, pu_n31, pu_n255, pu_md, pu_one, pu_sI1, pu_sI2, pu_sA1, pu_sA21, pu_sA222, pu_sAe, pu_sAn, pu_sJ1, pu_sJ21, pu_sJ221, pu_sF1, pu_sF21, pu_sF222, pu_sFe, pu_sFn, pu_upe, pu_upn, Nat.reduceAdd, Nat.reduceSub, Nat.reduceMul, Nat.reduceMod, Nat.reduceAnd, Nat.reducePow, Nat.reduceEqDiff, Nat.add_zero, Nat.zero_add, Bool.false_eq_true, Nat.add_sub_cancel, e7, c1, hm]
              · show F_X12_said_26 k x (nI m) (nI i) M' = _
                unfold F_X12_said_26 F_X12_said_57
                simp (disch := omega) only [↓pu_m1, pu_lit, ↓reduceIte, pu_leT, pu_leF, pu_ltT, pu_ltF, pu_eqT, pu_eqF, pu_eqO, pu_eqO2, pu_ltO, pu_leO, pu_subO, pu_subOF, pu_subT, pu_subF, pu_oobF, pu_clamp, pu_add, pu_sub, pu_mul, pu_and, pu_or, pu_xor, pu_xorO, pu_shl, pu_shr, pu_ushr, pu_nb0, pu_nb1, pu_ob1N, pu_ob2N, pu_ob3N, pu_ob4N, pu_nwN, pu_n1, pu_n7, pu_n31, pu_n255, pu_md, pu_one, pu_sI1, pu_sI2, pu_sA1, pu_sA21, pu_sA222, pu_sAe, pu_sAn, pu_sJ1, pu_sJ21, pu_sJ221, pu_sF1, pu_sF21, pu_sF222, pu_sFe, pu_sFn, pu_upe, pu_upn, Nat.reduceAdd, Nat.reduceSub, Nat.reduceMul, Nat.reduceMod, Nat.reduceAnd, Nat.reducePow, Nat.reduceEqDiff, Nat.add_zero, Nat.zero_add, Bool.false_eq_true, Nat.add_sub_cancel, g1, c2, hm]
    · exact ⟨nO, sI M 0 (nI 0), by simp (disch := omega) only [↓pu_m1, pu_lit, ↓reduceIte, pu_leT, pu_leF, pu_ltT, pu_ltF, pu_eqT, pu_eqF, pu_eqO, pu_eqO2, pu_ltO, pu_leO, pu_subO, pu_subOF, pu_subT, pu_subF, pu_oobF, pu_clamp, pu_add, pu_sub, pu_mul, pu_and, pu_or, pu_xor, pu_xorO, pu_shl, pu_shr, pu_ushr, pu_nb0, pu_nb1, pu_ob1N, pu_ob2N, pu_ob3N, pu_ob4N, pu_nwN, pu_n1, pu_n7, pu_n31, pu_n255, pu_md, pu_one, pu_sI1, pu_sI2, pu_sA1, pu_sA21, pu_sA222, pu_sAe, pu_sAn, pu_sJ1, pu_sJ21, pu_sJ221, pu_sF1, pu_sF21, pu_sF222, pu_sFe, pu_sFn, pu_upe, pu_upn, Nat.reduceAdd, Nat.reduceSub, Nat.reduceMul, Nat.reduceMod, Nat.reduceAnd, Nat.reducePow, Nat.reduceEqDiff, Nat.add_zero, Nat.zero_add, Bool.false_eq_true, Nat.add_sub_cancel, h4, ho, hx], by simp (disch := omega) only [↓pu_m1, pu_lit, ↓reduceIte, pu_leT, pu_leF, pu_ltT, pu_ltF, pu_eqT, pu_eqF, pu_eqO, pu_eqO2, pu_ltO, pu_leO, pu_subO, pu_subOF, pu_subT, pu_subF, pu_oobF, pu_clamp, pu_add, pu_sub, pu_mul, pu_and, pu_or, pu_xor, pu_xorO, pu_shl, pu_shr, pu_ushr, pu_nb0, pu_nb1, pu_ob1N, pu_ob2N, pu_ob3N, pu_ob4N, pu_nwN, pu_n1, pu_n7, pu_n31, pu_n255, pu_md, pu_one, pu_sI1, pu_sI2, pu_sA1, pu_sA21, pu_sA222, pu_sAe, pu_sAn, pu_sJ1, pu_sJ21, pu_sJ221, pu_sF1, pu_sF21, pu_sF222, pu_sFe, pu_sFn, pu_upe, pu_upn, Nat.reduceAdd, Nat.reduceSub, Nat.reduceMul, Nat.reduceMod, Nat.reduceAnd, Nat.reducePow, Nat.reduceEqDiff, Nat.add_zero, Nat.zero_add, Bool.false_eq_true, Nat.add_sub_cancel, h3, hn, hx], FR.sI (by decide)⟩
end P20
