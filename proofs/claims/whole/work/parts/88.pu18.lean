/-! cards; what was told; odds -/
def vwA (x : Nat) : Nat → List Nat
  | 0 => []
  | v + 1 => if x / 2 ^ v % 2 = 1 then vwA x v ++ ([32] ++ sp (wl (9 + v))) else vwA x v
theorem vw_tab : ∀ x, x < 256 → opn x = true → (vwA x 8).length ≤ 21 := by decide +kernel
theorem vw_mono (x : Nat) : ∀ d v, (vwA x v).length ≤ (vwA x (v + d)).length := by
  intro d
  induction d with
  | zero => intro v; exact Nat.le_refl _
  | succ d ih =>
    intro v
    refine Nat.le_trans (ih v) ?_
    show (vwA x (v + d)).length ≤ (vwA x (v + d + 1)).length
    simp only [vwA]
    split
    · rw [List.length_append]; omega
    · exact Nat.le_refl _
theorem vw_le {x v : Nat} (hx : x < 256) (ho : opn x = true) (hv : v ≤ 8) : (vwA x v).length ≤ 21 := by
  have h1 := vw_mono x (8 - v) v
  rw [show v + (8 - v) = 8 from by omega] at h1
  have := vw_tab x hx ho
  omega
def RLt (L M : St) : Prop := ∃ bs : List Nat, bs.length ≤ 64 ∧ TXc L bs ∧ TXm M bs
def RNm (B M : St) (V : Vt) : Prop := (∀ t, t < V 0 → NM (B.2.2.2 1 t) (M.2.2.2 9 t)) ∧ ∀ p, p < V 1 → NM (B.2.2.2 8 p) (M.2.2.2 9 (7 + p))
def RW (R : St) : Prop := ∀ i, i < 36 → R.2.2.2 1 i = lN (r32 (wl i))
def MW (M : St) : Prop := ∀ i, i < 36 → M.2.2.2 10 i = lN (r256 (wl (pm i)))
section P18
variable {T B M L R D S : St} {V : Vt}
theorem x11_views {bs : List Nat} {x : Nat} (h : TXc L bs) (hR : RW R) (hl : bs.length ≤ 25) (hx : x < 256) (ho : opn x = true) : ∃ L', F_X11_addViews T L R (nI x) = some L' ∧ TXc L' (bs ++ (if x = 0 then tx 5 else []) ++ vwA x 8) := by
  have hloop : ∀ (L1 : St) (b1 : List Nat), TXc L1 b1 → b1.length ≤ 40 → ∃ L', F_X11_addViews_14 (nI x) T L1 R = some L' ∧ TXc L' (b1 ++ vwA x 8) := by
    intro L1 b1 h1 hl1
    have key := lp_inv (body := fun kz z => F_X11_addViews_16 kz z.1 z.2.1 z.2.2.1 z.2.2.2.1 z.2.2.2.2) (fun i z => ∃ L', z = (nI x, nI i, T, L', R) ∧ TXc L' (b1 ++ vwA x i)) 8 (fun L' => TXc L' (b1 ++ vwA x 8)) (fun i hi z hz => ?_) (fun z hz => ?_) (x0 := (nI x, nI 0, T, L1, R)) ⟨L1, rfl, by show TXc L1 (b1 ++ []); rw [List.append_nil]; exact h1⟩ (pu_FU (by omega : 8 < 1000000))
    · obtain ⟨L', a1, a2⟩ := key
      exact ⟨L', a2, a1⟩
    · obtain ⟨L', rfl, a1⟩ := hz
      have hvl := vw_le hx ho (by omega : i ≤ 8)
      have gw := hR (9 + i) (by omega)
      rcases Nat.mod_two_eq_zero_or_one (x / 2 ^ i) with h0 | h0
      · refine ⟨(nI x, nI (i + 1), T, L', R), ⟨L', rfl, ?_⟩, fun k => ?_⟩
        · simp only [vwA]; rw [if_neg (by omega)]; exact a1
        · show F_X11_addViews_16 k (nI x) (nI i) T L' R = _
          unfold F_X11_addViews_16 F_X11_addViews_60
          simp (disch := omega) only [↓pu_m1, pu_lit, ↓reduceIte, pu_leT, pu_leF, pu_ltT, pu_ltF, pu_eqT, pu_eqF, pu_eqO, pu_eqO2, pu_ltO, pu_leO, pu_subO, pu_subOF, pu_subT, pu_subF, pu_oobF, pu_clamp, pu_add, pu_sub, pu_mul, pu_and, pu_or, pu_xor, pu_xorO, pu_shl, pu_shr, pu_ushr, pu_nb0, pu_nb1, pu_ob1N, pu_ob2N, pu_ob3N, pu_ob4N, pu_nwN, pu_n1, pu_n7, pu_n31, pu_n255, pu_md, pu_one, pu_sI1, pu_sI2, pu_sA1, pu_sA21, pu_sA222, pu_sAe, pu_sAn, pu_sJ1, pu_sJ21, pu_sJ221, pu_sF1, pu_sF21, pu_sF222, pu_sFe, pu_sFn, pu_upe, pu_upn, Nat.reduceAdd, Nat.reduceSub, Nat.reduceMul, Nat.reduceMod, Nat.reduceAnd, Nat.reducePow, Nat.reduceEqDiff, Nat.add_zero, Nat.zero_add, Bool.false_eq_true, Nat.add_sub_cancel, h0]
      · obtain ⟨L2, b1', b2⟩ := x9_text (t := 6) a1 (by rw [List.length_append]; omega) (by omega)
        obtain ⟨L3, c1, c2⟩ := x9_word b2 (by rw [List.length_append, List.length_append, tx_6]; show b1.length + (vwA x i).length + 1 < 80; omega) (wl_OK (by omega : 9 + i < 36))
        refine ⟨(nI x, nI (i + 1), T, L3, R), ⟨L3, rfl, ?_⟩, fun k => ?_⟩
        · simp only [vwA]
          rw [if_pos h0]
          rw [tx_6] at c2
          rw [← List.append_assoc, ← List.append_assoc]
          exact c2
        · show F_X11_addViews_16 k (nI x) (nI i) T L' R = _
          unfold F_X11_addViews_16 F_X11_addViews_60
          simp (disch := omega) only [↓pu_m1, pu_lit, ↓reduceIte, pu_leT, pu_leF, pu_ltT, pu_ltF, pu_eqT, pu_eqF, pu_eqO, pu_eqO2, pu_ltO, pu_leO, pu_subO, pu_subOF, pu_subT, pu_subF, pu_oobF, pu_clamp, pu_add, pu_sub, pu_mul, pu_and, pu_or, pu_xor, pu_xorO, pu_shl, pu_shr, pu_ushr, pu_nb0, pu_nb1, pu_ob1N, pu_ob2N, pu_ob3N, pu_ob4N, pu_nwN, pu_n1, pu_n7, pu_n31, pu_n255, pu_md, pu_one, pu_sI1, pu_sI2, pu_sA1, pu_sA21, pu_sA222, pu_sAe, pu_sAn, pu_sJ1, pu_sJ21, pu_sJ221, pu_sF1, pu_sF21, pu_sF222, pu_sFe, pu_sFn, pu_upe, pu_upn, Nat.reduceAdd, Nat.reduceSub, Nat.reduceMul, Nat.reduceMod, Nat.reduceAnd, Nat.reducePow, Nat.reduceEqDiff, Nat.add_zero, Nat.zero_add, Bool.false_eq_true, Nat.add_sub_cancel, h0, b1', gw, c1]
    · obtain ⟨L', rfl, a1⟩ := hz
      refine ⟨L', a1, fun k => ?_⟩
      show F_X11_addViews_16 k (nI x) (nI 8) T L' R = _
      unfold F_X11_addViews_16
      rw [if_pos (by decide)]
  unfold F_X11_addViews
  by_cases h0 : x = 0
  · obtain ⟨L1, a1, a2⟩ := x9_text (t := 5) h (by omega) (by omega)
    obtain ⟨L2, b1, b2⟩ := hloop L1 _ a2 (by rw [List.length_append, tx_5]; show bs.length + 8 ≤ 40; omega)
    refine ⟨L2, ?_, by rw [if_pos h0]; exact b2⟩
    rw [if_pos (by rw [h0]; rfl), a1, pu_ob1N]
    exact b1
  · obtain ⟨L2, b1, b2⟩ := hloop L _ h (by omega)
    refine ⟨L2, ?_, by rw [if_neg h0, List.append_nil]; exact b2⟩
    rw [if_neg (nI_ne0 (by omega) (by omega))]
    exact b1
theorem p_card (hS : RS B V) (hM : RM M V) (hw : WF V) (hN : RNm B M V) (hR : RW R) (hW : MW M) (hL : RLt L M) (x : Int32) : ∃ r L' M', F_X11_card T L R B x = some (r, L') ∧ F_X12_card M x = some (r, M') ∧ RLt L' M' ∧ FR [0, 36] [35] [] M M' := by
  have hM0 := RM_sI hM 0 (nI 0)
  have w0 := hw.1
  have w1 := hw.2.1
  unfold F_X11_card F_X12_card
  rcases two_P hS hM0 hw x with ⟨p, hp, rfl, e1, e2⟩ | ⟨e1, e2⟩
  · have h59 := hw.2.2.2.2.2.2.2.2.1 p hp
    have hop := hw.2.2.2.2.2.2.2.2.2.1 p hp
    have h65 := hw.2.2.2.2.2.2.2.2.2.2.2.2.1 p hp
    have f9 := hS.2.2.2.2.2.2.2.2.1 p hp
    have f12 := hS.2.2.2.2.2.2.2.2.2.2.2.1 p hp
    obtain ⟨ln, hln, n1, n2⟩ := hN.2 p hp
    obtain ⟨L1, a1, a2⟩ := x9_word (L := sI L 1 (nI 0)) (bs := []) ⟨rfl, fun i hi => by cases hi⟩ (by show 0 < 80; omega) hln
    obtain ⟨M1, b1, b2, b3⟩ := x12_spell (M := sI (sI M 0 (nI 0)) 36 (nI 0)) (bs := []) ⟨rfl, fun i hi => by cases hi⟩ (by show 0 + ln.length ≤ 64; have := hln.1; omega) hln
    have hl7 := hln.1
    have a2 : TXc L1 (sp ln) := a2
    have b2 : TXm M1 (sp ln) := b2
    have hF1 : FR [0, 36] [35] [] M M1 := ((FR.sI (by decide)).tr (FR.sI (by decide))).tr (b3.mono (by decide) (by decide) (by decide))
    have hM1 : RM M1 V := fun k hk => by rw [hF1.2.1 6 (by decide)]; exact hM k hk
    have hmid : ∃ L2 M2 bs, bs.length ≤ 18 ∧ TXc L2 bs ∧ TXm M2 bs ∧ FR [0, 36] [35] [] M M2 ∧ (nw (sI L 1 (0 : Int32)) fun U4 => if oob (nI p) 6 then none else ob1 (F_X9_addWord 96 U4 (B.2.2.2 8 (nI p).toNatClampNeg)) fun U8 => if oob (nI p) 6 then none else if (B.2.2.1 12 (nI p).toNatClampNeg) = (-1 : Int32) then (F_X11_card_78 (nI p) T U8 R B) else (ob1 (F_X9_addText 96 U8 3) fun U12 => if oob (B.2.2.1 12 (nI p).toNatClampNeg) 7 then none else ob1 (F_X9_addWord 96 U12 (B.2.2.2 1 (B.2.2.1 12 (nI p).toNatClampNeg).toNatClampNeg)) fun U15 => F_X11_card_78 (nI p) T U15 R B)) = F_X11_card_78 (nI p) T L2 R B ∧ (nw (sI (sI M 0 (nI 0)) 36 (0 : Int32)) fun U6 => if oob ((7 : Int32) + nI p) 26 then none else ob1 (F_X12_spells U6 (U6.2.2.2 9 ((7 : Int32) + nI p).toNatClampNeg)) fun U10 => ob1 (F_X12_isUp U10 (nI p)) fun r12 => if r12 = 0 then (F_X12_card_68 (nI p) U10) else (ob1 (F_X12_says U10 (28526 : Int64)) fun U15 => if oob ((65 : Int32) + nI p) 258 then none else if oob ((U15.2.2.1 6 ((65 : Int32) + nI p).toNatClampNeg) - (1 : Int32)) 26 then none else ob1 (F_X12_says U15 (U15.2.2.2 9 ((U15.2.2.1 6 ((65 : Int32) + nI p).toNatClampNeg) - (1 : Int32)).toNatClampNeg)) fun U19 => F_X12_card_68 (nI p) U19)) = F_X12_card_68 (nI p) M2 := by
      have hu1 := x12_up hM1 hw hp
      have n2' : M.2.2.2 9 (7 + p) = lN (r256 ln) := n2
      by_cases hu : V (65 + p) = 0
      · rw [if_pos hu] at hu1
        rw [hu, pu_sub0] at f12
        refine ⟨L1, M1, sp ln, by rw [sp_len]; omega, a2, b2, hF1, ?_, ?_⟩
        · simp (disch := omega) only [↓pu_m1, pu_lit, ↓reduceIte, pu_leT, pu_leF, pu_ltT, pu_ltF, pu_eqT, pu_eqF, pu_eqO, pu_eqO2, pu_ltO, pu_leO, pu_subO, pu_subOF, pu_subT, pu_subF, pu_oobF, pu_clamp, pu_add, pu_sub, pu_mul, pu_and, pu_or, pu_xor, pu_xorO, pu_shl, pu_shr, pu_ushr, pu_nb0, pu_nb1, pu_ob1N, pu_ob2N, pu_ob3N, pu_ob4N, pu_nwN, pu_n1, pu_n7, pu_n31, pu_n255, pu_md, pu_one, pu_sI1, pu_sI2, pu_sA1, pu_sA21, pu_sA222, pu_sAe, pu_sAn, pu_sJ1, pu_sJ21, pu_sJ221, pu_sF1, pu_sF21, pu_sF222, pu_sFe, pu_sFn, pu_upe, pu_upn, Nat.reduceAdd, Nat.reduceSub, Nat.reduceMul, Nat.reduceMod, Nat.reduceAnd, Nat.reducePow, Nat.reduceEqDiff, Nat.add_zero, Nat.zero_add, Bool.false_eq_true, Nat.add_sub_cancel, n1, a1, f12]
        · simp (disch := omega) only [↓pu_m1, pu_lit, ↓reduceIte, pu_leT, pu_leF, pu_ltT, pu_ltF, pu_eqT, pu_eqF, pu_eqO, pu_eqO2, pu_ltO, pu_leO, pu_subO, pu_subOF, pu_subT, pu_subF, pu_oobF, pu_clamp, pu_add, pu_sub, pu_mul, pu_and, pu_or, pu_xor, pu_xorO, pu_shl, pu_shr, pu_ushr, pu_nb0, pu_nb1, pu_ob1N, pu_ob2N, pu_ob3N, pu_ob4N, pu_nwN, pu_n1, pu_n7, pu_n31, pu_n255, pu_md, pu_one, pu_sI1, pu_sI2, pu_sA1, pu_sA21, pu_sA222, pu_sAe, pu_sAn, pu_sJ1, pu_sJ21, pu_sJ221, pu_sF1, pu_sF21, pu_sF222, pu_sFe, pu_sFn, pu_upe, pu_upn, Nat.reduceAdd, Nat.reduceSub, Nat.reduceMul, Nat.reduceMod, Nat.reduceAnd, Nat.reducePow, Nat.reduceEqDiff, Nat.add_zero, Nat.zero_add, Bool.false_eq_true, Nat.add_sub_cancel, n2', b1, hu1]
      · rw [if_neg hu] at hu1
        obtain ⟨t, ht⟩ : ∃ t, V (65 + p) = t + 1 := ⟨V (65 + p) - 1, by omega⟩
        rw [ht, pu_sub (by omega), Nat.add_sub_cancel] at f12
        obtain ⟨lt, hlt, t1, t2⟩ := hN.1 t (by omega)
        have hl8 := hlt.1
        obtain ⟨L2, c1, c2⟩ := x9_text (t := 3) a2 (by rw [sp_len]; omega) (by omega)
        obtain ⟨L3, d1, d2⟩ := x9_word c2 (by rw [List.length_append, sp_len, tx_3]; show ln.length + 4 < 80; omega) hlt
        obtain ⟨M2, g1, g2, g3⟩ := x12_say (l := [14, 15]) b2 (by rw [sp_len]; show ln.length + 1 + 2 ≤ 64; omega) ⟨by decide, by decide⟩
        have g1' : F_X12_says M1 (28526 : Int64) = some M2 := g1
        have g65 : M2.2.2.1 6 (65 + p) = nI (t + 1) := by
          rw [g3.2.1 6 (by decide), hM1 (65 + p) (by omega), ht]
        have gnm : M2.2.2.2 9 t = lN (r256 lt) := by
          rw [g3.2.2 9 (by decide), hF1.2.2 9 (by decide)]; exact t2
        obtain ⟨M3, k1, k2, k3⟩ := x12_say g2 (by rw [List.length_append, List.length_append, sp_len, sp_len]; show ln.length + (1 + 2) + 1 + lt.length ≤ 64; omega) hlt
        refine ⟨L3, M3, sp ln ++ tx 3 ++ sp lt, ?_, d2, ?_, (hF1.tr (g3.mono (by decide) (by decide) (by decide))).tr (k3.mono (by decide) (by decide) (by decide)), ?_, ?_⟩
        · rw [List.length_append, List.length_append, sp_len, sp_len, tx_3]
          show ln.length + 4 + lt.length ≤ 18
          omega
        · rw [tx_3]
          simp only [List.append_assoc] at k2 ⊢
          exact k2
        · simp (disch := omega) only [↓pu_m1, pu_lit, ↓reduceIte, pu_leT, pu_leF, pu_ltT, pu_ltF, pu_eqT, pu_eqF, pu_eqO, pu_eqO2, pu_ltO, pu_leO, pu_subO, pu_subOF, pu_subT, pu_subF, pu_oobF, pu_clamp, pu_add, pu_sub, pu_mul, pu_and, pu_or, pu_xor, pu_xorO, pu_shl, pu_shr, pu_ushr, pu_nb0, pu_nb1, pu_ob1N, pu_ob2N, pu_ob3N, pu_ob4N, pu_nwN, pu_n1, pu_n7, pu_n31, pu_n255, pu_md, pu_one, pu_sI1, pu_sI2, pu_sA1, pu_sA21, pu_sA222, pu_sAe, pu_sAn, pu_sJ1, pu_sJ21, pu_sJ221, pu_sF1, pu_sF21, pu_sF222, pu_sFe, pu_sFn, pu_upe, pu_upn, Nat.reduceAdd, Nat.reduceSub, Nat.reduceMul, Nat.reduceMod, Nat.reduceAnd, Nat.reducePow, Nat.reduceEqDiff, Nat.add_zero, Nat.zero_add, Bool.false_eq_true, Nat.add_sub_cancel, n1, a1, f12, c1, t1, d1]
        · have hsub : nI (t + 1) - nI 1 = nI t := by rw [pu_sub (by omega), Nat.add_sub_cancel]
          simp (disch := omega) only [pu_lit, pu_nwN, pu_ob1N, pu_sI2, pu_add, pu_oobF, pu_clamp, ↓reduceIte, n2', b1, hu1, pu_eqF]
          rw [show (28526 : Int64) = lN (r256 [14, 15]) from rfl, g1, pu_ob1N]
          simp (disch := omega) only [g65, hsub, pu_oobF, pu_clamp, ↓reduceIte, gnm, k1, pu_ob1N]
    obtain ⟨L2, M2, bs, hbl, t1, t2, t3, t4, t5⟩ := hmid
    have hM2 : RM M2 V := fun k hk => by rw [t3.2.1 6 (by decide)]; exact hM k hk
    obtain ⟨L3, c1, c2⟩ := x9_text (t := 4) t1 (by omega) (by omega)
    have hl3 : (bs ++ tx 4).length ≤ 25 := by rw [List.length_append, tx_4]; show bs.length + 7 ≤ 25; omega
    obtain ⟨L4, d1, d2⟩ := x11_views (T := T) c2 hR hl3 h59 hop
    obtain ⟨M3, g1, g2, g3⟩ := x12_say (l := wl 2) t2 (by show bs.length + 1 + 6 ≤ 64; omega) (wl_OK (by omega))
    rw [← tx_4] at g2
    have hM3 : RM M3 V := fun k hk => by rw [g3.2.1 6 (by decide)]; exact hM2 k hk
    have g59 := hM3 (59 + p) (by omega)
    have hloop : ∀ (M4 : St) (b1 : List Nat), TXm M4 b1 → b1.length ≤ 40 → RM M4 V → MW M4 → ∃ M', F_X12_card_94 (nI p) M4 = some (nI (b1 ++ vwA (V (59 + p)) 8).length, M') ∧ TXm M' (b1 ++ vwA (V (59 + p)) 8) ∧ FR [36] [35] [] M4 M' := by
      intro M4 b1 h1 hl1 hr1 hw1
      have key := lp_inv (body := fun kz z => F_X12_card_96 kz z.1 z.2.1 z.2.2) (fun i z => ∃ M', z = (nI p, nI i, M') ∧ TXm M' (b1 ++ vwA (V (59 + p)) i) ∧ FR [36] [35] [] M4 M') 8 (fun o => o.1 = nI (b1 ++ vwA (V (59 + p)) 8).length ∧ TXm o.2 (b1 ++ vwA (V (59 + p)) 8) ∧ FR [36] [35] [] M4 o.2) (fun i hi z hz => ?_) (fun z hz => ?_) (x0 := (nI p, nI 0, M4)) ⟨M4, rfl, by show TXm M4 (b1 ++ []); rw [List.append_nil]; exact h1, FR.rf⟩ (pu_FU (by omega : 8 < 1000000))
      · obtain ⟨o, ⟨h2, h3, h4⟩, h5⟩ := key
        refine ⟨o.2, ?_, h3, h4⟩
        rw [← h2]
        exact h5
      · obtain ⟨M', rfl, q1, q2⟩ := hz
        have hvl := vw_le h59 hop (by omega : i + 1 ≤ 8)
        have q59 : M'.2.2.1 6 (59 + p) = nI (V (59 + p)) := by rw [q2.2.1 6 (by decide)]; exact hr1 (59 + p) (by omega)
        have gw : M'.2.2.2 10 (5 + i) = lN (r256 (wl (9 + i))) := by rw [q2.2.2 10 (by decide), hw1 (5 + i) (by omega), pm_v i hi]
        have hb := x12_bit (x := V (59 + p)) (v := i) (by omega) (by omega)
        rcases Nat.mod_two_eq_zero_or_one (V (59 + p) / 2 ^ i) with h0 | h0
        · rw [h0] at hb
          refine ⟨(nI p, nI (i + 1), M'), ⟨M', rfl, ?_, q2⟩, fun k => ?_⟩
          · simp only [vwA]; rw [if_neg (by omega)]; exact q1
          · show F_X12_card_96 k (nI p) (nI i) M' = _
            unfold F_X12_card_96 F_X12_card_130
            simp (disch := omega) only [↓pu_m1, pu_lit, ↓reduceIte, pu_leT, pu_leF, pu_ltT, pu_ltF, pu_eqT, pu_eqF, pu_eqO, pu_eqO2, pu_ltO, pu_leO, pu_subO, pu_subOF, pu_subT, pu_subF, pu_oobF, pu_clamp, pu_add, pu_sub, pu_mul, pu_and, pu_or, pu_xor, pu_xorO, pu_shl, pu_shr, pu_ushr, pu_nb0, pu_nb1, pu_ob1N, pu_ob2N, pu_ob3N, pu_ob4N, pu_nwN, pu_n1, pu_n7, pu_n31, pu_n255, pu_md, pu_one, pu_sI1, pu_sI2, pu_sA1, pu_sA21, pu_sA222, pu_sAe, pu_sAn, pu_sJ1, pu_sJ21, pu_sJ221, pu_sF1, pu_sF21, pu_sF222, pu_sFe, pu_sFn, pu_upe, pu_upn, Nat.reduceAdd, Nat.reduceSub, Nat.reduceMul, Nat.reduceMod, Nat.reduceAnd, Nat.reducePow, Nat.reduceEqDiff, Nat.add_zero, Nat.zero_add, Bool.false_eq_true, Nat.add_sub_cancel, q59, hb]
        · rw [h0] at hb
          simp only [vwA] at hvl
          rw [if_pos h0, List.length_append, List.length_append, sp_len] at hvl
          obtain ⟨M5, r1, r2, r3⟩ := x12_say (l := wl (9 + i)) q1 (by rw [List.length_append]; have : [32].length = 1 := rfl; omega) (wl_OK (by omega))
          refine ⟨(nI p, nI (i + 1), M5), ⟨M5, rfl, ?_, q2.tr r3⟩, fun k => ?_⟩
          · simp only [vwA]; rw [if_pos h0, ← List.append_assoc]; exact r2
          · show F_X12_card_96 k (nI p) (nI i) M' = _
            unfold F_X12_card_96 F_X12_card_130
            simp (disch := omega) only [↓pu_m1, pu_lit, ↓reduceIte, pu_leT, pu_leF, pu_ltT, pu_ltF, pu_eqT, pu_eqF, pu_eqO, pu_eqO2, pu_ltO, pu_leO, pu_subO, pu_subOF, pu_subT, pu_subF, pu_oobF, pu_clamp, pu_add, pu_sub, pu_mul, pu_and, pu_or, pu_xor, pu_xorO, pu_shl, pu_shr, pu_ushr, pu_nb0, pu_nb1, pu_ob1N, pu_ob2N, pu_ob3N, pu_ob4N, pu_nwN, pu_n1, pu_n7, pu_n31, pu_n255, pu_md, pu_one, pu_sI1, pu_sI2, pu_sA1, pu_sA21, pu_sA222, pu_sAe, pu_sAn, pu_sJ1, pu_sJ21, pu_sJ221, pu_sF1, pu_sF21, pu_sF222, pu_sFe, pu_sFn, pu_upe, pu_upn, Nat.reduceAdd, Nat.reduceSub, Nat.reduceMul, Nat.reduceMod, Nat.reduceAnd, Nat.reducePow, Nat.reduceEqDiff, Nat.add_zero, Nat.zero_add, Bool.false_eq_true, Nat.add_sub_cancel, q59, hb, gw, r1]
      · obtain ⟨M', rfl, q1, q2⟩ := hz
        refine ⟨(nI (b1 ++ vwA (V (59 + p)) 8).length, M'), ⟨rfl, q1, q2⟩, fun k => ?_⟩
        show F_X12_card_96 k (nI p) (nI 8) M' = _
        unfold F_X12_card_96
        rw [if_pos (by decide), q1.1]
    have hW3 : MW M3 := fun i hi => by rw [g3.2.2 10 (by decide), t3.2.2 10 (by decide)]; exact hW i hi
    have hmod : ∃ M', F_X12_card_68 (nI p) M2 = some (nI (bs ++ tx 4 ++ (if V (59 + p) = 0 then tx 5 else []) ++ vwA (V (59 + p)) 8).length, M') ∧ TXm M' (bs ++ tx 4 ++ (if V (59 + p) = 0 then tx 5 else []) ++ vwA (V (59 + p)) 8) ∧ FR [36] [35] [] M2 M' := by
      unfold F_X12_card_68
      rw [show (127991794264947 : Int64) = lN (r256 (wl 2)) from rfl, g1, pu_ob1N]
      by_cases h0 : V (59 + p) = 0
      · obtain ⟨M4, r1, r2, r3⟩ := x12_say (l := [7, 14, 9, 8, 20, 15, 14]) g2 (by show (bs ++ tx 4).length + 1 + 7 ≤ 64; omega) ⟨by decide, by decide⟩
        rw [← tx_5] at r2
        obtain ⟨M5, s1, s2, s3⟩ := hloop M4 _ r2 (by rw [List.length_append, tx_5]; show (bs ++ tx 4).length + 8 ≤ 40; omega) (fun k hk => by rw [r3.2.1 6 (by decide)]; exact hM3 k hk) (fun i hi => by rw [r3.2.2 10 (by decide)]; exact hW3 i hi)
        refine ⟨M5, ?_, by rw [if_pos h0]; exact s2, (g3.tr r3).tr s3⟩
        rw [if_pos h0]
        rw [h0] at g59
        rw [show (59 : Int32) + nI p = nI (59 + p) from nI_add 59 p, if_neg (by rw [pu_oobF (by omega) (by omega)]; exact id), pu_clamp (by omega), g59, if_pos (by decide), show (31084793196801639 : Int64) = lN (r256 [7, 14, 9, 8, 20, 15, 14]) from rfl, r1, pu_ob1N]
        exact s1
      · obtain ⟨M5, s1, s2, s3⟩ := hloop M3 _ g2 (by omega) hM3 hW3
        refine ⟨M5, ?_, by rw [if_neg h0, List.append_nil]; exact s2, g3.tr s3⟩
        rw [if_neg h0, List.append_nil]
        rw [show (59 : Int32) + nI p = nI (59 + p) from nI_add 59 p, if_neg (by rw [pu_oobF (by omega) (by omega)]; exact id), pu_clamp (by omega), g59, if_neg (nI_ne0 (by omega) (by omega))]
        exact s1
    obtain ⟨M6, u1, u2, u3⟩ := hmod
    have hvl := vw_le h59 hop (by omega : 8 ≤ 8)
    refine ⟨nI (bs ++ tx 4 ++ (if V (59 + p) = 0 then tx 5 else []) ++ vwA (V (59 + p)) 8).length, L4, M6, ?_, ?_, ⟨_, ?_, d2, u2⟩, t3.tr (u3.mono (by decide) (by decide) (by decide))⟩
    · rw [e1, pu_ob1N, if_neg (show ¬ nI 1 = 0 from by decide), t4]
      unfold F_X11_card_78
      rw [c1, pu_ob1N, if_neg (by rw [pu_oobF (by omega) (by omega)]; exact id), pu_clamp (by omega), f9, d1, pu_ob1N, d2.1]
    · rw [pu_nwN, show sI M 0 (0 : Int32) = sI M 0 (nI 0) from rfl, e2, pu_ob1N, if_neg (show ¬ nI 1 = 0 from by decide), t5, u1]
    · rw [List.length_append, List.length_append]
      have : (if V (59 + p) = 0 then tx 5 else []).length ≤ 8 := by
        split
        · rw [tx_5]; decide
        · decide
      omega
  · refine ⟨nO, L, sI M 0 (nI 0), by simp (disch := omega) only [↓pu_m1, pu_lit, ↓reduceIte, pu_leT, pu_leF, pu_ltT, pu_ltF, pu_eqT, pu_eqF, pu_eqO, pu_eqO2, pu_ltO, pu_leO, pu_subO, pu_subOF, pu_subT, pu_subF, pu_oobF, pu_clamp, pu_add, pu_sub, pu_mul, pu_and, pu_or, pu_xor, pu_xorO, pu_shl, pu_shr, pu_ushr, pu_nb0, pu_nb1, pu_ob1N, pu_ob2N, pu_ob3N, pu_ob4N, pu_nwN, pu_n1, pu_n7, pu_n31, pu_n255, pu_md, pu_one, pu_sI1, pu_sI2, pu_sA1, pu_sA21, pu_sA222, pu_sAe, pu_sAn, pu_sJ1, pu_sJ21, pu_sJ221, pu_sF1, pu_sF21, pu_sF222, pu_sFe, pu_sFn, pu_upe, pu_upn, Nat.reduceAdd, Nat.reduceSub, Nat.reduceMul, Nat.reduceMod, Nat.reduceAnd, Nat.reducePow, Nat.reduceEqDiff, Nat.add_zero, Nat.zero_add, Bool.false_eq_true, Nat.add_sub_cancel, e1], by simp (disch := omega) only [↓pu_m1, pu_lit, ↓reduceIte, pu_leT, pu_leF, pu_ltT, pu_ltF, pu_eqT, pu_eqF, pu_eqO, pu_eqO2, pu_ltO, pu_leO, pu_subO, pu_subOF, pu_subT, pu_subF, pu_oobF, pu_clamp, pu_add, pu_sub, pu_mul, pu_and, pu_or, pu_xor, pu_xorO, pu_shl, pu_shr, pu_ushr, pu_nb0, pu_nb1, pu_ob1N, pu_ob2N, pu_ob3N, pu_ob4N, pu_nwN, pu_n1, pu_n7, pu_n31, pu_n255, pu_md, pu_one, pu_sI1, pu_sI2, pu_sA1, pu_sA21, pu_sA222, pu_sAe, pu_sAn, pu_sJ1, pu_sJ21, pu_sJ221, pu_sF1, pu_sF21, pu_sF222, pu_sFe, pu_sFn, pu_upe, pu_upn, Nat.reduceAdd, Nat.reduceSub, Nat.reduceMul, Nat.reduceMod, Nat.reduceAnd, Nat.reducePow, Nat.reduceEqDiff, Nat.add_zero, Nat.zero_add, Bool.false_eq_true, Nat.add_sub_cancel, e2], hL, FR.sI (by decide)⟩
theorem p_byteAt (h : RLt L M) (x : Int32) : ∃ r, F_X11_byteAt T L x = some r ∧ F_X12_byteAt M x = some (r, sI M 0 (nI 0)) := by
  obtain ⟨bs, h0, ⟨h1, h2⟩, h3, h4⟩ := h
  unfold F_X11_byteAt F_X12_byteAt F_X11_byteAt_15
  rcases at_two x (M.1 36) bs.length (by omega) (Or.inl h3) with ⟨j, hj, rfl, i1⟩ | ⟨i1, i2⟩ | ⟨i1, i2, i3⟩
  · have g2 := h2 j hj
    have g4 := h4 j hj
    exact ⟨nI (bs.getD j 0), by simp (disch := omega) only [↓pu_m1, pu_lit, ↓reduceIte, pu_leT, pu_leF, pu_ltT, pu_ltF, pu_eqT, pu_eqF, pu_eqO, pu_eqO2, pu_ltO, pu_leO, pu_subO, pu_subOF, pu_subT, pu_subF, pu_oobF, pu_clamp, pu_add, pu_sub, pu_mul, pu_and, pu_or, pu_xor, pu_xorO, pu_shl, pu_shr, pu_ushr, pu_nb0, pu_nb1, pu_ob1N, pu_ob2N, pu_ob3N, pu_ob4N, pu_nwN, pu_n1, pu_n7, pu_n31, pu_n255, pu_md, pu_one, pu_sI1, pu_sI2, pu_sA1, pu_sA21, pu_sA222, pu_sAe, pu_sAn, pu_sJ1, pu_sJ21, pu_sJ221, pu_sF1, pu_sF21, pu_sF222, pu_sFe, pu_sFn, pu_upe, pu_upn, Nat.reduceAdd, Nat.reduceSub, Nat.reduceMul, Nat.reduceMod, Nat.reduceAnd, Nat.reducePow, Nat.reduceEqDiff, Nat.add_zero, Nat.zero_add, Bool.false_eq_true, Nat.add_sub_cancel, h1, g2], by simp (disch := omega) only [↓pu_m1, pu_lit, ↓reduceIte, pu_leT, pu_leF, pu_ltT, pu_ltF, pu_eqT, pu_eqF, pu_eqO, pu_eqO2, pu_ltO, pu_leO, pu_subO, pu_subOF, pu_subT, pu_subF, pu_oobF, pu_clamp, pu_add, pu_sub, pu_mul, pu_and, pu_or, pu_xor, pu_xorO, pu_shl, pu_shr, pu_ushr, pu_nb0, pu_nb1, pu_ob1N, pu_ob2N, pu_ob3N, pu_ob4N, pu_nwN, pu_n1, pu_n7, pu_n31, pu_n255, pu_md, pu_one, pu_sI1, pu_sI2, pu_sA1, pu_sA21, pu_sA222, pu_sAe, pu_sAn, pu_sJ1, pu_sJ21, pu_sJ221, pu_sF1, pu_sF21, pu_sF222, pu_sFe, pu_sFn, pu_upe, pu_upn, Nat.reduceAdd, Nat.reduceSub, Nat.reduceMul, Nat.reduceMod, Nat.reduceAnd, Nat.reducePow, Nat.reduceEqDiff, Nat.add_zero, Nat.zero_add, Bool.false_eq_true, Nat.add_sub_cancel, i1, g4]⟩
  · exact ⟨nO, by simp (disch := omega) only [↓pu_m1, pu_lit, ↓reduceIte, pu_leT, pu_leF, pu_ltT, pu_ltF, pu_eqT, pu_eqF, pu_eqO, pu_eqO2, pu_ltO, pu_leO, pu_subO, pu_subOF, pu_subT, pu_subF, pu_oobF, pu_clamp, pu_add, pu_sub, pu_mul, pu_and, pu_or, pu_xor, pu_xorO, pu_shl, pu_shr, pu_ushr, pu_nb0, pu_nb1, pu_ob1N, pu_ob2N, pu_ob3N, pu_ob4N, pu_nwN, pu_n1, pu_n7, pu_n31, pu_n255, pu_md, pu_one, pu_sI1, pu_sI2, pu_sA1, pu_sA21, pu_sA222, pu_sAe, pu_sAn, pu_sJ1, pu_sJ21, pu_sJ221, pu_sF1, pu_sF21, pu_sF222, pu_sFe, pu_sFn, pu_upe, pu_upn, Nat.reduceAdd, Nat.reduceSub, Nat.reduceMul, Nat.reduceMod, Nat.reduceAnd, Nat.reducePow, Nat.reduceEqDiff, Nat.add_zero, Nat.zero_add, Bool.false_eq_true, Nat.add_sub_cancel, i1], by simp (disch := omega) only [↓pu_m1, pu_lit, ↓reduceIte, pu_leT, pu_leF, pu_ltT, pu_ltF, pu_eqT, pu_eqF, pu_eqO, pu_eqO2, pu_ltO, pu_leO, pu_subO, pu_subOF, pu_subT, pu_subF, pu_oobF, pu_clamp, pu_add, pu_sub, pu_mul, pu_and, pu_or, pu_xor, pu_xorO, pu_shl, pu_shr, pu_ushr, pu_nb0, pu_nb1, pu_ob1N, pu_ob2N, pu_ob3N, pu_ob4N, pu_nwN, pu_n1, pu_n7, pu_n31, pu_n255, pu_md, pu_one, pu_sI1, pu_sI2, pu_sA1, pu_sA21, pu_sA222, pu_sAe, pu_sAn, pu_sJ1, pu_sJ21, pu_sJ221, pu_sF1, pu_sF21, pu_sF222, pu_sFe, pu_sFn, pu_upe, pu_upn, Nat.reduceAdd, Nat.reduceSub, Nat.reduceMul, Nat.reduceMod, Nat.reduceAnd, Nat.reducePow, Nat.reduceEqDiff, Nat.add_zero, Nat.zero_add, Bool.false_eq_true, Nat.add_sub_cancel, i2]⟩
  · exact ⟨nO, by simp (disch := omega) only [↓pu_m1, pu_lit, ↓reduceIte, pu_leT, pu_leF, pu_ltT, pu_ltF, pu_eqT, pu_eqF, pu_eqO, pu_eqO2, pu_ltO, pu_leO, pu_subO, pu_subOF, pu_subT, pu_subF, pu_oobF, pu_clamp, pu_add, pu_sub, pu_mul, pu_and, pu_or, pu_xor, pu_xorO, pu_shl, pu_shr, pu_ushr, pu_nb0, pu_nb1, pu_ob1N, pu_ob2N, pu_ob3N, pu_ob4N, pu_nwN, pu_n1, pu_n7, pu_n31, pu_n255, pu_md, pu_one, pu_sI1, pu_sI2, pu_sA1, pu_sA21, pu_sA222, pu_sAe, pu_sAn, pu_sJ1, pu_sJ21, pu_sJ221, pu_sF1, pu_sF21, pu_sF222, pu_sFe, pu_sFn, pu_upe, pu_upn, Nat.reduceAdd, Nat.reduceSub, Nat.reduceMul, Nat.reduceMod, Nat.reduceAnd, Nat.reducePow, Nat.reduceEqDiff, Nat.add_zero, Nat.zero_add, Bool.false_eq_true, Nat.add_sub_cancel, i1, h1, i2], by simp (disch := omega) only [↓pu_m1, pu_lit, ↓reduceIte, pu_leT, pu_leF, pu_ltT, pu_ltF, pu_eqT, pu_eqF, pu_eqO, pu_eqO2, pu_ltO, pu_leO, pu_subO, pu_subOF, pu_subT, pu_subF, pu_oobF, pu_clamp, pu_add, pu_sub, pu_mul, pu_and, pu_or, pu_xor, pu_xorO, pu_shl, pu_shr, pu_ushr, pu_nb0, pu_nb1, pu_ob1N, pu_ob2N, pu_ob3N, pu_ob4N, pu_nwN, pu_n1, pu_n7, pu_n31, pu_n255, pu_md, pu_one, pu_sI1, pu_sI2, pu_sA1, pu_sA21, pu_sA222, pu_sAe, pu_sAn, pu_sJ1, pu_sJ21, pu_sJ221, pu_sF1, pu_sF21, pu_sF222, pu_sFe, pu_sFn, pu_upe, pu_upn, Nat.reduceAdd, Nat.reduceSub, Nat.reduceMul, Nat.reduceMod, Nat.reduceAnd, Nat.reducePow, Nat.reduceEqDiff, Nat.add_zero, Nat.zero_add, Bool.false_eq_true, Nat.add_sub_cancel, i3]⟩
def RTo (T M : St) : Prop := (M.1 40 = nI 0 ∧ ∀ i, i < 4 → T.2.2.1 14 i = nO) ∨ (M.1 40 = nI 1 ∧ ∀ i, i < 4 → T.2.2.1 14 i = M.2.2.1 39 i)
theorem p_told (h : RTo T M) (x : Int32) : ∃ r, F_X11_told T x = some r ∧ F_X12_told M x = some (r, sI M 0 (nI 0)) := by
  unfold F_X11_told F_X12_told F_X11_told_13
  rcases two_in x 0 3 (by omega) (by omega) with ⟨n, -, hn, rfl⟩ | ⟨i1, i2⟩ | ⟨i1, i2, i3, i4⟩
  · have i4 := in_ok (Nat.zero_le n) hn (by omega)
    rcases h with ⟨h1, h2⟩ | ⟨h1, h2⟩
    · have g := h2 n (by omega)
      exact ⟨nO, by simp (disch := omega) only [↓pu_m1, pu_lit, ↓reduceIte, pu_leT, pu_leF, pu_ltT, pu_ltF, pu_eqT, pu_eqF, pu_eqO, pu_eqO2, pu_ltO, pu_leO, pu_subO, pu_subOF, pu_subT, pu_subF, pu_oobF, pu_clamp, pu_add, pu_sub, pu_mul, pu_and, pu_or, pu_xor, pu_xorO, pu_shl, pu_shr, pu_ushr, pu_nb0, pu_nb1, pu_ob1N, pu_ob2N, pu_ob3N, pu_ob4N, pu_nwN, pu_n1, pu_n7, pu_n31, pu_n255, pu_md, pu_one, pu_sI1, pu_sI2, pu_sA1, pu_sA21, pu_sA222, pu_sAe, pu_sAn, pu_sJ1, pu_sJ21, pu_sJ221, pu_sF1, pu_sF21, pu_sF222, pu_sFe, pu_sFn, pu_upe, pu_upn, Nat.reduceAdd, Nat.reduceSub, Nat.reduceMul, Nat.reduceMod, Nat.reduceAnd, Nat.reducePow, Nat.reduceEqDiff, Nat.add_zero, Nat.zero_add, Bool.false_eq_true, Nat.add_sub_cancel, g], by simp (disch := omega) only [↓pu_m1, pu_lit, ↓reduceIte, pu_leT, pu_leF, pu_ltT, pu_ltF, pu_eqT, pu_eqF, pu_eqO, pu_eqO2, pu_ltO, pu_leO, pu_subO, pu_subOF, pu_subT, pu_subF, pu_oobF, pu_clamp, pu_add, pu_sub, pu_mul, pu_and, pu_or, pu_xor, pu_xorO, pu_shl, pu_shr, pu_ushr, pu_nb0, pu_nb1, pu_ob1N, pu_ob2N, pu_ob3N, pu_ob4N, pu_nwN, pu_n1, pu_n7, pu_n31, pu_n255, pu_md, pu_one, pu_sI1, pu_sI2, pu_sA1, pu_sA21, pu_sA222, pu_sAe, pu_sAn, pu_sJ1, pu_sJ21, pu_sJ221, pu_sF1, pu_sF21, pu_sF222, pu_sFe, pu_sFn, pu_upe, pu_upn, Nat.reduceAdd, Nat.reduceSub, Nat.reduceMul, Nat.reduceMod, Nat.reduceAnd, Nat.reducePow, Nat.reduceEqDiff, Nat.add_zero, Nat.zero_add, Bool.false_eq_true, Nat.add_sub_cancel, h1]⟩
    · have g := h2 n (by omega)
      exact ⟨M.2.2.1 39 n, by simp (disch := omega) only [↓pu_m1, pu_lit, ↓reduceIte, pu_leT, pu_leF, pu_ltT, pu_ltF, pu_eqT, pu_eqF, pu_eqO, pu_eqO2, pu_ltO, pu_leO, pu_subO, pu_subOF, pu_subT, pu_subF, pu_oobF, pu_clamp, pu_add, pu_sub, pu_mul, pu_and, pu_or, pu_xor, pu_xorO, pu_shl, pu_shr, pu_ushr, pu_nb0, pu_nb1, pu_ob1N, pu_ob2N, pu_ob3N, pu_ob4N, pu_nwN, pu_n1, pu_n7, pu_n31, pu_n255, pu_md, pu_one, pu_sI1, pu_sI2, pu_sA1, pu_sA21, pu_sA222, pu_sAe, pu_sAn, pu_sJ1, pu_sJ21, pu_sJ221, pu_sF1, pu_sF21, pu_sF222, pu_sFe, pu_sFn, pu_upe, pu_upn, Nat.reduceAdd, Nat.reduceSub, Nat.reduceMul, Nat.reduceMod, Nat.reduceAnd, Nat.reducePow, Nat.reduceEqDiff, Nat.add_zero, Nat.zero_add, Bool.false_eq_true, Nat.add_sub_cancel, g], by simp (disch := omega) only [↓pu_m1, pu_lit, ↓reduceIte, pu_leT, pu_leF, pu_ltT, pu_ltF, pu_eqT, pu_eqF, pu_eqO, pu_eqO2, pu_ltO, pu_leO, pu_subO, pu_subOF, pu_subT, pu_subF, pu_oobF, pu_clamp, pu_add, pu_sub, pu_mul, pu_and, pu_or, pu_xor, pu_xorO, pu_shl, pu_shr, pu_ushr, pu_nb0, pu_nb1, pu_ob1N, pu_ob2N, pu_ob3N, pu_ob4N, pu_nwN, pu_n1, pu_n7, pu_n31, pu_n255, pu_md, pu_one, pu_sI1, pu_sI2, pu_sA1, pu_sA21, pu_sA222, pu_sAe, pu_sAn, pu_sJ1, pu_sJ21, pu_sJ221, pu_sF1, pu_sF21, pu_sF222, pu_sFe, pu_sFn, pu_upe, pu_upn, Nat.reduceAdd, Nat.reduceSub, Nat.reduceMul, Nat.reduceMod, Nat.reduceAnd, Nat.reducePow, Nat.reduceEqDiff, Nat.add_zero, Nat.zero_add, Bool.false_eq_true, Nat.add_sub_cancel, h1, i4]⟩
  · refine ⟨nO, by simp (disch := omega) only [↓pu_m1, pu_lit, ↓reduceIte, pu_leT, pu_leF, pu_ltT, pu_ltF, pu_eqT, pu_eqF, pu_eqO, pu_eqO2, pu_ltO, pu_leO, pu_subO, pu_subOF, pu_subT, pu_subF, pu_oobF, pu_clamp, pu_add, pu_sub, pu_mul, pu_and, pu_or, pu_xor, pu_xorO, pu_shl, pu_shr, pu_ushr, pu_nb0, pu_nb1, pu_ob1N, pu_ob2N, pu_ob3N, pu_ob4N, pu_nwN, pu_n1, pu_n7, pu_n31, pu_n255, pu_md, pu_one, pu_sI1, pu_sI2, pu_sA1, pu_sA21, pu_sA222, pu_sAe, pu_sAn, pu_sJ1, pu_sJ21, pu_sJ221, pu_sF1, pu_sF21, pu_sF222, pu_sFe, pu_sFn, pu_upe, pu_upn, Nat.reduceAdd, Nat.reduceSub, Nat.reduceMul, Nat.reduceMod, Nat.reduceAnd, Nat.reducePow, Nat.reduceEqDiff, Nat.add_zero, Nat.zero_add, Bool.false_eq_true, Nat.add_sub_cancel, i1], ?_⟩
    rcases h with ⟨h1, h2⟩ | ⟨h1, h2⟩
    · simp (disch := omega) only [↓pu_m1, pu_lit, ↓reduceIte, pu_leT, pu_leF, pu_ltT, pu_ltF, pu_eqT, pu_eqF, pu_eqO, pu_eqO2, pu_ltO, pu_leO, pu_subO, pu_subOF, pu_subT, pu_subF, pu_oobF, pu_clamp, pu_add, pu_sub, pu_mul, pu_and, pu_or, pu_xor, pu_xorO, pu_shl, pu_shr, pu_ushr, pu_nb0, pu_nb1, pu_ob1N, pu_ob2N, pu_ob3N, pu_ob4N, pu_nwN, pu_n1, pu_n7, pu_n31, pu_n255, pu_md, pu_one, pu_sI1, pu_sI2, pu_sA1, pu_sA21, pu_sA222, pu_sAe, pu_sAn, pu_sJ1, pu_sJ21, pu_sJ221, pu_sF1, pu_sF21, pu_sF222, pu_sFe, pu_sFn, pu_upe, pu_upn, Nat.reduceAdd, Nat.reduceSub, Nat.reduceMul, Nat.reduceMod, Nat.reduceAnd, Nat.reducePow, Nat.reduceEqDiff, Nat.add_zero, Nat.zero_add, Bool.false_eq_true, Nat.add_sub_cancel, h1]
    · simp (disch := omega) only [↓pu_m1, pu_lit, ↓reduceIte, pu_leT, pu_leF, pu_ltT, pu_ltF, pu_eqT, pu_eqF, pu_eqO, pu_eqO2, pu_ltO, pu_leO, pu_subO, pu_subOF, pu_subT, pu_subF, pu_oobF, pu_clamp, pu_add, pu_sub, pu_mul, pu_and, pu_or, pu_xor, pu_xorO, pu_shl, pu_shr, pu_ushr, pu_nb0, pu_nb1, pu_ob1N, pu_ob2N, pu_ob3N, pu_ob4N, pu_nwN, pu_n1, pu_n7, pu_n31, pu_n255, pu_md, pu_one, pu_sI1, pu_sI2, pu_sA1, pu_sA21, pu_sA222, pu_sAe, pu_sAn, pu_sJ1, pu_sJ21, pu_sJ221, pu_sF1, pu_sF21, pu_sF222, pu_sFe, pu_sFn, pu_upe, pu_upn, Nat.reduceAdd, Nat.reduceSub, Nat.reduceMul, Nat.reduceMod, Nat.reduceAnd, Nat.reducePow, Nat.reduceEqDiff, Nat.add_zero, Nat.zero_add, Bool.false_eq_true, Nat.add_sub_cancel, h1, i2]
  · have i5 : ¬ x < nI 4 := by
      rw [Int32.lt_iff_toInt_lt, nI_toInt (by omega)] at i3 ⊢
      omega
    refine ⟨nO, by simp (disch := omega) only [↓pu_m1, pu_lit, ↓reduceIte, pu_leT, pu_leF, pu_ltT, pu_ltF, pu_eqT, pu_eqF, pu_eqO, pu_eqO2, pu_ltO, pu_leO, pu_subO, pu_subOF, pu_subT, pu_subF, pu_oobF, pu_clamp, pu_add, pu_sub, pu_mul, pu_and, pu_or, pu_xor, pu_xorO, pu_shl, pu_shr, pu_ushr, pu_nb0, pu_nb1, pu_ob1N, pu_ob2N, pu_ob3N, pu_ob4N, pu_nwN, pu_n1, pu_n7, pu_n31, pu_n255, pu_md, pu_one, pu_sI1, pu_sI2, pu_sA1, pu_sA21, pu_sA222, pu_sAe, pu_sAn, pu_sJ1, pu_sJ21, pu_sJ221, pu_sF1, pu_sF21, pu_sF222, pu_sFe, pu_sFn, pu_upe, pu_upn, Nat.reduceAdd, Nat.reduceSub, Nat.reduceMul, Nat.reduceMod, Nat.reduceAnd, Nat.reducePow, Nat.reduceEqDiff, Nat.add_zero, Nat.zero_add, Bool.false_eq_true, Nat.add_sub_cancel, i1, i5], ?_⟩
    rcases h with ⟨h1, h2⟩ | ⟨h1, h2⟩
    · simp (disch := omega) only [↓pu_m1, pu_lit, ↓reduceIte, pu_leT, pu_leF, pu_ltT, pu_ltF, pu_eqT, pu_eqF, pu_eqO, pu_eqO2, pu_ltO, pu_leO, pu_subO, pu_subOF, pu_subT, pu_subF, pu_oobF, pu_clamp, pu_add, pu_sub, pu_mul, pu_and, pu_or, pu_xor, pu_xorO, pu_shl, pu_shr, pu_ushr, pu_nb0, pu_nb1, pu_ob1N, pu_ob2N, pu_ob3N, pu_ob4N, pu_nwN, pu_n1, pu_n7, pu_n31, pu_n255, pu_md, pu_one, pu_sI1, pu_sI2, pu_sA1, pu_sA21, pu_sA222, pu_sAe, pu_sAn, pu_sJ1, pu_sJ21, pu_sJ221, pu_sF1, pu_sF21, pu_sF222, pu_sFe, pu_sFn, pu_upe, pu_upn, Nat.reduceAdd, Nat.reduceSub, Nat.reduceMul, Nat.reduceMod, Nat.reduceAnd, Nat.reducePow, Nat.reduceEqDiff, Nat.add_zero, Nat.zero_add, Bool.false_eq_true, Nat.add_sub_cancel, h1]
    · simp (disch := omega) only [↓pu_m1, pu_lit, ↓reduceIte, pu_leT, pu_leF, pu_ltT, pu_ltF, pu_eqT, pu_eqF, pu_eqO, pu_eqO2, pu_ltO, pu_leO, pu_subO, pu_subOF, pu_subT, pu_subF, pu_oobF, pu_clamp, pu_add, pu_sub, pu_mul, pu_and, pu_or, pu_xor, pu_xorO, pu_shl, pu_shr, pu_ushr, pu_nb0, pu_nb1, pu_ob1N, pu_ob2N, pu_ob3N, pu_ob4N, pu_nwN, pu_n1, pu_n7, pu_n31, pu_n255, pu_md, pu_one, pu_sI1, pu_sI2, pu_sA1, pu_sA21, pu_sA222, pu_sAe, pu_sAn, pu_sJ1, pu_sJ21, pu_sJ221, pu_sF1, pu_sF21, pu_sF222, pu_sFe, pu_sFn, pu_upe, pu_upn, Nat.reduceAdd, Nat.reduceSub, Nat.reduceMul, Nat.reduceMod, Nat.reduceAnd, Nat.reducePow, Nat.reduceEqDiff, Nat.add_zero, Nat.zero_add, Bool.false_eq_true, Nat.add_sub_cancel, h1, i4]
theorem p_fault (h : T.1 15 = M.1 15) : ∃ r, F_X11_fault T = some r ∧ F_X12_fault M = some (r, sI M 0 (nI 0)) := by
  unfold F_X11_fault F_X12_fault
  exact ⟨M.1 15, by rw [h], by simp (disch := omega) only [↓pu_m1, pu_lit, ↓reduceIte, pu_leT, pu_leF, pu_ltT, pu_ltF, pu_eqT, pu_eqF, pu_eqO, pu_eqO2, pu_ltO, pu_leO, pu_subO, pu_subOF, pu_subT, pu_subF, pu_oobF, pu_clamp, pu_add, pu_sub, pu_mul, pu_and, pu_or, pu_xor, pu_xorO, pu_shl, pu_shr, pu_ushr, pu_nb0, pu_nb1, pu_ob1N, pu_ob2N, pu_ob3N, pu_ob4N, pu_nwN, pu_n1, pu_n7, pu_n31, pu_n255, pu_md, pu_one, pu_sI1, pu_sI2, pu_sA1, pu_sA21, pu_sA222, pu_sAe, pu_sAn, pu_sJ1, pu_sJ21, pu_sJ221, pu_sF1, pu_sF21, pu_sF222, pu_sFe, pu_sFn, pu_upe, pu_upn, Nat.reduceAdd, Nat.reduceSub, Nat.reduceMul, Nat.reduceMod, Nat.reduceAnd, Nat.reducePow, Nat.reduceEqDiff, Nat.add_zero, Nat.zero_add, Bool.false_eq_true, Nat.add_sub_cancel]⟩
/-! trying, and back again -/
theorem x12_tries : F_X12_tries M = some (sF M 21 (cpR (M.2.2.1 21) 0 (fun j => M.2.2.1 6 (42 + j)) 35)) := by
  unfold F_X12_tries L_X12_tries_2
  have key := lp_up (body := fun kz z => F_X12_tries_2 kz z.1 z.2) (fun i => (nI i, sF M 21 (cpR (M.2.2.1 21) 0 (fun j => M.2.2.1 6 (42 + j)) i))) 35 (o := sF M 21 (cpR (M.2.2.1 21) 0 (fun j => M.2.2.1 6 (42 + j)) 35)) (fun i hi k => ?_) (fun k => ?_) (pu_FU (by omega : 35 < 1000000))
  · rw [cpR0, pu_sFsame] at key
    exact key
  · show F_X12_tries_2 k (nI i) (sF M 21 _) = _
    unfold F_X12_tries_2
    have e := cpRs (M.2.2.1 21) 0 (fun j => M.2.2.1 6 (42 + j)) i
    rw [Nat.zero_add] at e
    simp (disch := omega) only [↓pu_m1, pu_lit, ↓reduceIte, pu_leT, pu_leF, pu_ltT, pu_ltF, pu_eqT, pu_eqF, pu_eqO, pu_eqO2, pu_ltO, pu_leO, pu_subO, pu_subOF, pu_subT, pu_subF, pu_oobF, pu_clamp, pu_add, pu_sub, pu_mul, pu_and, pu_or, pu_xor, pu_xorO, pu_shl, pu_shr, pu_ushr, pu_nb0, pu_nb1, pu_ob1N, pu_ob2N, pu_ob3N, pu_ob4N, pu_nwN, pu_n1, pu_n7, pu_n31, pu_n255, pu_md, pu_one, pu_sI1, pu_sI2, pu_sA1, pu_sA21, pu_sA222, pu_sAe, pu_sAn, pu_sJ1, pu_sJ21, pu_sJ221, pu_sF1, pu_sF21, pu_sF222, pu_sFe, pu_sFn, pu_upe, pu_upn, Nat.reduceAdd, Nat.reduceSub, Nat.reduceMul, Nat.reduceMod, Nat.reduceAnd, Nat.reducePow, Nat.reduceEqDiff, Nat.add_zero, Nat.zero_add, Bool.false_eq_true, Nat.add_sub_cancel, sA_sF, e]
  · show F_X12_tries_2 k (nI 35) _ = _
    unfold F_X12_tries_2
    rw [if_pos (by decide)]
theorem x12_back : F_X12_back M = some (sF M 6 (cpR (M.2.2.1 6) 42 (fun j => M.2.2.1 21 j) 35)) := by
  unfold F_X12_back L_X12_back_2
  have key := lp_up (body := fun kz z => F_X12_back_2 kz z.1 z.2) (fun i => (nI i, sF M 6 (cpR (M.2.2.1 6) 42 (fun j => M.2.2.1 21 j) i))) 35 (o := sF M 6 (cpR (M.2.2.1 6) 42 (fun j => M.2.2.1 21 j) 35)) (fun i hi k => ?_) (fun k => ?_) (pu_FU (by omega : 35 < 1000000))
  · rw [cpR0, pu_sFsame] at key
    exact key
  · show F_X12_back_2 k (nI i) (sF M 6 _) = _
    unfold F_X12_back_2
    have e := cpRs (M.2.2.1 6) 42 (fun j => M.2.2.1 21 j) i
    simp (disch := omega) only [↓pu_m1, pu_lit, ↓reduceIte, pu_leT, pu_leF, pu_ltT, pu_ltF, pu_eqT, pu_eqF, pu_eqO, pu_eqO2, pu_ltO, pu_leO, pu_subO, pu_subOF, pu_subT, pu_subF, pu_oobF, pu_clamp, pu_add, pu_sub, pu_mul, pu_and, pu_or, pu_xor, pu_xorO, pu_shl, pu_shr, pu_ushr, pu_nb0, pu_nb1, pu_ob1N, pu_ob2N, pu_ob3N, pu_ob4N, pu_nwN, pu_n1, pu_n7, pu_n31, pu_n255, pu_md, pu_one, pu_sI1, pu_sI2, pu_sA1, pu_sA21, pu_sA222, pu_sAe, pu_sAn, pu_sJ1, pu_sJ21, pu_sJ221, pu_sF1, pu_sF21, pu_sF222, pu_sFe, pu_sFn, pu_upe, pu_upn, Nat.reduceAdd, Nat.reduceSub, Nat.reduceMul, Nat.reduceMod, Nat.reduceAnd, Nat.reducePow, Nat.reduceEqDiff, Nat.add_zero, Nat.zero_add, Bool.false_eq_true, Nat.add_sub_cancel, sA_sF, e]
  · show F_X12_back_2 k (nI 35) _ = _
    unfold F_X12_back_2
    rw [if_pos (by decide)]
/-- what was tried from, kept by the reference -/
def TB21 (M : St) (V : Vt) : Prop := ∀ j, j < 35 → M.2.2.1 21 j = nI (V (42 + j))
theorem back_ok {V' : Vt} (h : TB21 M V) (hM : RM M V') (hv : SV V V') : ∃ M', F_X12_back M = some M' ∧ RM M' V ∧ (∀ k, 77 ≤ k → M'.2.2.1 6 k = M.2.2.1 6 k) ∧ FR [] [6] [] M M' := by
  refine ⟨_, x12_back, fun k hk => ?_, fun k hk => ?_, FR.sF (by decide)⟩
  · rw [pu_sFe]
    by_cases e : 42 ≤ k
    · rw [cpR_in e (by omega), h (k - 42) (by omega), show 42 + (k - 42) = k from by omega]
    · rw [cpR_out (by omega), ← hv k (by omega)]; exact hM k hk
  · rw [pu_sFe, cpR_out (by omega)]
theorem p_odds (hS : RS B V) (hM : RM M V) (hw : WF V) (x y z : Int32) : ∃ r D' S' M', F_X11_odds T D S B x y z = some (r, D', S') ∧ F_X12_odds M x y z = some (r, M') ∧ RM M' V ∧ (∀ k, 77 ≤ k → M'.2.2.1 6 k = M.2.2.1 6 k) ∧ FR [0, 37] [6, 21] [] M M' := by
  have hM0 := RM_sI hM 0 (nI 0)
  have w1 := hw.2.1
  unfold F_X11_odds F_X12_odds
  rcases two_P hS hM0 hw x with ⟨p, hp, rfl, e1, e2⟩ | ⟨e1, e2⟩
  · rcases two_in y 1 30 (by omega) (by omega) with ⟨n, h1, hn, rfl⟩ | ⟨i1, i2⟩ | ⟨i1, i2, i3, i4⟩
    · have i4 := in_ok h1 hn (by omega)
      have ht := x12_tries (M := sI M 0 (nI 0))
      have hM1 : RM (sF (sI M 0 (nI 0)) 21 (cpR ((sI M 0 (nI 0)).2.2.1 21) 0 (fun j => (sI M 0 (nI 0)).2.2.1 6 (42 + j)) 35)) V := fun k hk => by rw [pu_sFn (by omega)]; exact hM k hk
      have hT1 : TB21 (sF (sI M 0 (nI 0)) 21 (cpR ((sI M 0 (nI 0)).2.2.1 21) 0 (fun j => (sI M 0 (nI 0)).2.2.1 6 (42 + j)) 35)) V := fun j hj => by
        rw [pu_sFe, cpR_in (by omega) (by omega)]
        exact hM (42 + (j - 0)) (by omega)
      have hF1 : FR [0, 37] [6, 21] [] M (sF (sI M 0 (nI 0)) 21 (cpR ((sI M 0 (nI 0)).2.2.1 21) 0 (fun j => (sI M 0 (nI 0)).2.2.1 6 (42 + j)) 35)) := (FR.sI (by decide)).tr (FR.sF (by decide))
      have h77 : ∀ k, 77 ≤ k → (sF (sI M 0 (nI 0)) 21 (cpR ((sI M 0 (nI 0)).2.2.1 21) 0 (fun j => (sI M 0 (nI 0)).2.2.1 6 (42 + j)) 35)).2.2.1 6 k = M.2.2.1 6 k := fun k hk => by rw [pu_sFn (by omega)]; rfl
      generalize sF (sI M 0 (nI 0)) 21 (cpR ((sI M 0 (nI 0)).2.2.1 21) 0 (fun j => (sI M 0 (nI 0)).2.2.1 6 (42 + j)) 35) = M1 at ht hM1 hT1 hF1 h77
      have key := lp_two (b1 := fun kz z => F_X11_odds_30 kz z.1 z.2.1 z.2.2.1 z.2.2.2.1 z.2.2.2.2.1 z.2.2.2.2.2.1 z.2.2.2.2.2.2.1 z.2.2.2.2.2.2.2.1 z.2.2.2.2.2.2.2.2) (b2 := fun kz z => F_X12_odds_35 kz z.1 z.2.1 z.2.2.1 z.2.2.2.1 z.2.2.2.2.1 z.2.2.2.2.2) (fun i a b => ∃ m D' S' M', a = (nI p, nI n, z, nI m, nI i, T, D', S', B) ∧ b = (nI p, nI n, z, nI m, nI i, M') ∧ RM M' V ∧ TB21 M' V ∧ (∀ k, 77 ≤ k → M'.2.2.1 6 k = M.2.2.1 6 k) ∧ FR [0, 37] [6, 21] [] M M') n (fun o o' => ∃ D' S' M' r, o = (r, D', S') ∧ o' = (r, M') ∧ RM M' V ∧ (∀ k, 77 ≤ k → M'.2.2.1 6 k = M.2.2.1 6 k) ∧ FR [0, 37] [6, 21] [] M M') (fun i hi a b hab => ?_) (fun a b hab => ?_) (x0 := (nI p, nI n, z, nI 0, nI 0, T, D, S, B)) (y0 := (nI p, nI n, z, nI 0, nI 0, M1)) ⟨0, D, S, M1, rfl, rfl, hM1, hT1, h77, hF1⟩ (pu_FU (by omega : n < 1000000))
      · obtain ⟨o, o', ⟨D', S', M', r, rfl, rfl, q1, q2, q3⟩, q4, q5⟩ := key
        refine ⟨r, D', S', M', ?_, ?_, q1, q2, q3⟩
        · unfold L_X11_odds_30
          simp (disch := omega) only [↓pu_m1, pu_lit, ↓reduceIte, pu_leT, pu_leF, pu_ltT, pu_ltF, pu_eqT, pu_eqF, pu_eqO, pu_eqO2, pu_ltO, pu_leO, pu_subO, pu_subOF, pu_subT, pu_subF, pu_oobF, pu_clamp, pu_add, pu_sub, pu_mul, pu_and, pu_or, pu_xor, pu_xorO, pu_shl, pu_shr, pu_ushr, pu_nb0, pu_nb1, pu_ob1N, pu_ob2N, pu_ob3N, pu_ob4N, pu_nwN, pu_n1, pu_n7, pu_n31, pu_n255, pu_md, pu_one, pu_sI1, pu_sI2, pu_sA1, pu_sA21, pu_sA222, pu_sAe, pu_sAn, pu_sJ1, pu_sJ21, pu_sJ221, pu_sF1, pu_sF21, pu_sF222, pu_sFe, pu_sFn, pu_upe, pu_upn, Nat.reduceAdd, Nat.reduceSub, Nat.reduceMul, Nat.reduceMod, Nat.reduceAnd, Nat.reducePow, Nat.reduceEqDiff, Nat.add_zero, Nat.zero_add, Bool.false_eq_true, Nat.add_sub_cancel, e1]
          exact q4
        · unfold L_X12_odds_35
          simp (disch := omega) only [↓pu_m1, pu_lit, ↓reduceIte, pu_leT, pu_leF, pu_ltT, pu_ltF, pu_eqT, pu_eqF, pu_eqO, pu_eqO2, pu_ltO, pu_leO, pu_subO, pu_subOF, pu_subT, pu_subF, pu_oobF, pu_clamp, pu_add, pu_sub, pu_mul, pu_and, pu_or, pu_xor, pu_xorO, pu_shl, pu_shr, pu_ushr, pu_nb0, pu_nb1, pu_ob1N, pu_ob2N, pu_ob3N, pu_ob4N, pu_nwN, pu_n1, pu_n7, pu_n31, pu_n255, pu_md, pu_one, pu_sI1, pu_sI2, pu_sA1, pu_sA21, pu_sA222, pu_sAe, pu_sAn, pu_sJ1, pu_sJ21, pu_sJ221, pu_sF1, pu_sF21, pu_sF222, pu_sFe, pu_sFn, pu_upe, pu_upn, Nat.reduceAdd, Nat.reduceSub, Nat.reduceMul, Nat.reduceMod, Nat.reduceAnd, Nat.reducePow, Nat.reduceEqDiff, Nat.add_zero, Nat.zero_add, Bool.false_eq_true, Nat.add_sub_cancel, e2, i4, ht]
          exact q5
      · obtain ⟨m, D', S', M', rfl, rfl, a1, a2, a3, a4⟩ := hab
        obtain ⟨D2, S2, M2, V2, b1, b2, b3, b4, b5, b6⟩ := draw_days (D := D') hS a1 hw (z + nI i) (by omega : 20 ≤ 60)
        have hp2 : p < V2 1 := by rw [b6 1 (by omega)]; exact hp
        have c1 := x8_plz b3.1 b5 hp2
        have g59 := b4.2.1 (59 + p) (by omega)
        have h59 := b5.2.2.2.2.2.2.2.2.1 p hp2
        have c2 := x12_plz b4.2.1 b5 hp2 h59
        have hT2 : TB21 M2 V := fun j hj => by rw [b4.fr.2.1 21 (by decide)]; exact a2 j hj
        obtain ⟨M3, d1, d2, d3, d4⟩ := back_ok hT2 b4.2.1 b6
        have hT3 : TB21 M3 V := fun j hj => by rw [d4.2.1 21 (by decide)]; exact hT2 j hj
        have hF3 : FR [0, 37] [6, 21] [] M M3 := (a4.tr (b4.fr.mono (by decide) (by decide) (by decide))).tr (d4.mono (by decide) (by decide) (by decide))
        have h773 : ∀ k, 77 ≤ k → M3.2.2.1 6 k = M.2.2.1 6 k := fun k hk => by rw [d3 k hk, b4.2.2 k hk, a3 k hk]
        refine ⟨(nI p, nI n, z, nI (m + (if plz V2 p (V2 (59 + p)) = true then 1 else 0)), nI (i + 1), T, D2, S2, B), (nI p, nI n, z, nI (m + (if plz V2 p (V2 (59 + p)) = true then 1 else 0)), nI (i + 1), M3), ⟨_, D2, S2, M3, rfl, rfl, d2, hT3, h773, hF3⟩, fun k => ?_, fun k => ?_⟩
        · show F_X11_odds_30 k (nI p) (nI n) z (nI m) (nI i) T D' S' B = _
          unfold F_X11_odds_30 F_X11_odds_79 F_X8_copyN
          by_cases hz : plz V2 p (V2 (59 + p)) = true
          · rw [if_pos hz] at c1 ⊢
            simp (disch := omega) only [↓pu_m1, pu_lit, ↓reduceIte, pu_leT, pu_leF, pu_ltT, pu_ltF, pu_eqT, pu_eqF, pu_eqO, pu_eqO2, pu_ltO, pu_leO, pu_subO, pu_subOF, pu_subT, pu_subF, pu_oobF, pu_clamp, pu_add, pu_sub, pu_mul, pu_and, pu_or, pu_xor, pu_xorO, pu_shl, pu_shr, pu_ushr, pu_nb0, pu_nb1, pu_ob1N, pu_ob2N, pu_ob3N, pu_ob4N, pu_nwN, pu_n1, pu_n7, pu_n31, pu_n255, pu_md, pu_one, pu_sI1, pu_sI2, pu_sA1, pu_sA21, pu_sA222, pu_sAe, pu_sAn, pu_sJ1, pu_sJ21, pu_sJ221, pu_sF1, pu_sF21, pu_sF222, pu_sFe, pu_sFn, pu_upe, pu_upn, Nat.reduceAdd, Nat.reduceSub, Nat.reduceMul, Nat.reduceMod, Nat.reduceAnd, Nat.reducePow, Nat.reduceEqDiff, Nat.add_zero, Nat.zero_add, Bool.false_eq_true, Nat.add_sub_cancel, b1, c1]
          · rw [if_neg hz] at c1 ⊢
            simp (disch := omega) only [↓pu_m1, pu_lit, ↓reduceIte, pu_leT, pu_leF, pu_ltT, pu_ltF, pu_eqT, pu_eqF, pu_eqO, pu_eqO2, pu_ltO, pu_leO, pu_subO, pu_subOF, pu_subT, pu_subF, pu_oobF, pu_clamp, pu_add, pu_sub, pu_mul, pu_and, pu_or, pu_xor, pu_xorO, pu_shl, pu_shr, pu_ushr, pu_nb0, pu_nb1, pu_ob1N, pu_ob2N, pu_ob3N, pu_ob4N, pu_nwN, pu_n1, pu_n7, pu_n31, pu_n255, pu_md, pu_one, pu_sI1, pu_sI2, pu_sA1, pu_sA21, pu_sA222, pu_sAe, pu_sAn, pu_sJ1, pu_sJ21, pu_sJ221, pu_sF1, pu_sF21, pu_sF222, pu_sFe, pu_sFn, pu_upe, pu_upn, Nat.reduceAdd, Nat.reduceSub, Nat.reduceMul, Nat.reduceMod, Nat.reduceAnd, Nat.reducePow, Nat.reduceEqDiff, Nat.add_zero, Nat.zero_add, Bool.false_eq_true, Nat.add_sub_cancel, b1, c1]
        · show F_X12_odds_35 k (nI p) (nI n) z (nI m) (nI i) M' = _
          unfold F_X12_odds_35 F_X12_odds_76
          by_cases hz : plz V2 p (V2 (59 + p)) = true
          · rw [if_pos hz] at c2 ⊢
            simp (disch := omega) only [↓pu_m1, pu_lit, ↓reduceIte, pu_leT, pu_leF, pu_ltT, pu_ltF, pu_eqT, pu_eqF, pu_eqO, pu_eqO2, pu_ltO, pu_leO, pu_subO, pu_subOF, pu_subT, pu_subF, pu_oobF, pu_clamp, pu_add, pu_sub, pu_mul, pu_and, pu_or, pu_xor, pu_xorO, pu_shl, pu_shr, pu_ushr, pu_nb0, pu_nb1, pu_ob1N, pu_ob2N, pu_ob3N, pu_ob4N, pu_nwN, pu_n1, pu_n7, pu_n31, pu_n255, pu_md, pu_one, pu_sI1, pu_sI2, pu_sA1, pu_sA21, pu_sA222, pu_sAe, pu_sAn, pu_sJ1, pu_sJ21, pu_sJ221, pu_sF1, pu_sF21, pu_sF222, pu_sFe, pu_sFn, pu_upe, pu_upn, Nat.reduceAdd, Nat.reduceSub, Nat.reduceMul, Nat.reduceMod, Nat.reduceAnd, Nat.reducePow, Nat.reduceEqDiff, Nat.add_zero, Nat.zero_add, Bool.false_eq_true, Nat.add_sub_cancel, b2, g59, c2, d1]
          · rw [if_neg hz] at c2 ⊢
            simp (disch := omega) only [↓pu_m1, pu_lit, ↓reduceIte, pu_leT, pu_leF, pu_ltT, pu_ltF, pu_eqT, pu_eqF, pu_eqO, pu_eqO2, pu_ltO, pu_leO, pu_subO, pu_subOF, pu_subT, pu_subF, pu_oobF, pu_clamp, pu_add, pu_sub, pu_mul, pu_and, pu_or, pu_xor, pu_xorO, pu_shl, pu_shr, pu_ushr, pu_nb0, pu_nb1, pu_ob1N, pu_ob2N, pu_ob3N, pu_ob4N, pu_nwN, pu_n1, pu_n7, pu_n31, pu_n255, pu_md, pu_one, pu_sI1, pu_sI2, pu_sA1, pu_sA21, pu_sA222, pu_sAe, pu_sAn, pu_sJ1, pu_sJ21, pu_sJ221, pu_sF1, pu_sF21, pu_sF222, pu_sFe, pu_sFn, pu_upe, pu_upn, Nat.reduceAdd, Nat.reduceSub, Nat.reduceMul, Nat.reduceMod, Nat.reduceAnd, Nat.reducePow, Nat.reduceEqDiff, Nat.add_zero, Nat.zero_add, Bool.false_eq_true, Nat.add_sub_cancel, b2, g59, c2, d1]
      · obtain ⟨m, D', S', M', rfl, rfl, a1, a2, a3, a4⟩ := hab
        refine ⟨_, _, ⟨D', S', M', nI m, rfl, rfl, a1, a3, a4⟩, fun k => ?_, fun k => ?_⟩
        · show F_X11_odds_30 k (nI p) (nI n) z (nI m) (nI n) T D' S' B = _
          unfold F_X11_odds_30
          simp (disch := omega) only [↓pu_m1, pu_lit, ↓reduceIte, pu_leT, pu_leF, pu_ltT, pu_ltF, pu_eqT, pu_eqF, pu_eqO, pu_eqO2, pu_ltO, pu_leO, pu_subO, pu_subOF, pu_subT, pu_subF, pu_oobF, pu_clamp, pu_add, pu_sub, pu_mul, pu_and, pu_or, pu_xor, pu_xorO, pu_shl, pu_shr, pu_ushr, pu_nb0, pu_nb1, pu_ob1N, pu_ob2N, pu_ob3N, pu_ob4N, pu_nwN, pu_n1, pu_n7, pu_n31, pu_n255, pu_md, pu_one, pu_sI1, pu_sI2, pu_sA1, pu_sA21, pu_sA222, pu_sAe, pu_sAn, pu_sJ1, pu_sJ21, pu_sJ221, pu_sF1, pu_sF21, pu_sF222, pu_sFe, pu_sFn, pu_upe, pu_upn, Nat.reduceAdd, Nat.reduceSub, Nat.reduceMul, Nat.reduceMod, Nat.reduceAnd, Nat.reducePow, Nat.reduceEqDiff, Nat.add_zero, Nat.zero_add, Bool.false_eq_true, Nat.add_sub_cancel]
        · show F_X12_odds_35 k (nI p) (nI n) z (nI m) (nI n) M' = _
          unfold F_X12_odds_35
          simp (disch := omega) only [↓pu_m1, pu_lit, ↓reduceIte, pu_leT, pu_leF, pu_ltT, pu_ltF, pu_eqT, pu_eqF, pu_eqO, pu_eqO2, pu_ltO, pu_leO, pu_subO, pu_subOF, pu_subT, pu_subF, pu_oobF, pu_clamp, pu_add, pu_sub, pu_mul, pu_and, pu_or, pu_xor, pu_xorO, pu_shl, pu_shr, pu_ushr, pu_nb0, pu_nb1, pu_ob1N, pu_ob2N, pu_ob3N, pu_ob4N, pu_nwN, pu_n1, pu_n7, pu_n31, pu_n255, pu_md, pu_one, pu_sI1, pu_sI2, pu_sA1, pu_sA21, pu_sA222, pu_sAe, pu_sAn, pu_sJ1, pu_sJ21, pu_sJ221, pu_sF1, pu_sF21, pu_sF222, pu_sFe, pu_sFn, pu_upe, pu_upn, Nat.reduceAdd, Nat.reduceSub, Nat.reduceMul, Nat.reduceMod, Nat.reduceAnd, Nat.reducePow, Nat.reduceEqDiff, Nat.add_zero, Nat.zero_add, Bool.false_eq_true, Nat.add_sub_cancel]
    · exact ⟨nO, D, S, sI M 0 (nI 0), by simp (disch := omega) only [↓pu_m1, pu_lit, ↓reduceIte, pu_leT, pu_leF, pu_ltT, pu_ltF, pu_eqT, pu_eqF, pu_eqO, pu_eqO2, pu_ltO, pu_leO, pu_subO, pu_subOF, pu_subT, pu_subF, pu_oobF, pu_clamp, pu_add, pu_sub, pu_mul, pu_and, pu_or, pu_xor, pu_xorO, pu_shl, pu_shr, pu_ushr, pu_nb0, pu_nb1, pu_ob1N, pu_ob2N, pu_ob3N, pu_ob4N, pu_nwN, pu_n1, pu_n7, pu_n31, pu_n255, pu_md, pu_one, pu_sI1, pu_sI2, pu_sA1, pu_sA21, pu_sA222, pu_sAe, pu_sAn, pu_sJ1, pu_sJ21, pu_sJ221, pu_sF1, pu_sF21, pu_sF222, pu_sFe, pu_sFn, pu_upe, pu_upn, Nat.reduceAdd, Nat.reduceSub, Nat.reduceMul, Nat.reduceMod, Nat.reduceAnd, Nat.reducePow, Nat.reduceEqDiff, Nat.add_zero, Nat.zero_add, Bool.false_eq_true, Nat.add_sub_cancel, e1, i1], by simp (disch := omega) only [↓pu_m1, pu_lit, ↓reduceIte, pu_leT, pu_leF, pu_ltT, pu_ltF, pu_eqT, pu_eqF, pu_eqO, pu_eqO2, pu_ltO, pu_leO, pu_subO, pu_subOF, pu_subT, pu_subF, pu_oobF, pu_clamp, pu_add, pu_sub, pu_mul, pu_and, pu_or, pu_xor, pu_xorO, pu_shl, pu_shr, pu_ushr, pu_nb0, pu_nb1, pu_ob1N, pu_ob2N, pu_ob3N, pu_ob4N, pu_nwN, pu_n1, pu_n7, pu_n31, pu_n255, pu_md, pu_one, pu_sI1, pu_sI2, pu_sA1, pu_sA21, pu_sA222, pu_sAe, pu_sAn, pu_sJ1, pu_sJ21, pu_sJ221, pu_sF1, pu_sF21, pu_sF222, pu_sFe, pu_sFn, pu_upe, pu_upn, Nat.reduceAdd, Nat.reduceSub, Nat.reduceMul, Nat.reduceMod, Nat.reduceAnd, Nat.reducePow, Nat.reduceEqDiff, Nat.add_zero, Nat.zero_add, Bool.false_eq_true, Nat.add_sub_cancel, e2, i2], hM, fun _ _ => rfl, FR.sI (by decide)⟩
    · exact ⟨nO, D, S, sI M 0 (nI 0), by simp (disch := omega) only [↓pu_m1, pu_lit, ↓reduceIte, pu_leT, pu_leF, pu_ltT, pu_ltF, pu_eqT, pu_eqF, pu_eqO, pu_eqO2, pu_ltO, pu_leO, pu_subO, pu_subOF, pu_subT, pu_subF, pu_oobF, pu_clamp, pu_add, pu_sub, pu_mul, pu_and, pu_or, pu_xor, pu_xorO, pu_shl, pu_shr, pu_ushr, pu_nb0, pu_nb1, pu_ob1N, pu_ob2N, pu_ob3N, pu_ob4N, pu_nwN, pu_n1, pu_n7, pu_n31, pu_n255, pu_md, pu_one, pu_sI1, pu_sI2, pu_sA1, pu_sA21, pu_sA222, pu_sAe, pu_sAn, pu_sJ1, pu_sJ21, pu_sJ221, pu_sF1, pu_sF21, pu_sF222, pu_sFe, pu_sFn, pu_upe, pu_upn, Nat.reduceAdd, Nat.reduceSub, Nat.reduceMul, Nat.reduceMod, Nat.reduceAnd, Nat.reducePow, Nat.reduceEqDiff, Nat.add_zero, Nat.zero_add, Bool.false_eq_true, Nat.add_sub_cancel, e1, i1, i2], by simp (disch := omega) only [↓pu_m1, pu_lit, ↓reduceIte, pu_leT, pu_leF, pu_ltT, pu_ltF, pu_eqT, pu_eqF, pu_eqO, pu_eqO2, pu_ltO, pu_leO, pu_subO, pu_subOF, pu_subT, pu_subF, pu_oobF, pu_clamp, pu_add, pu_sub, pu_mul, pu_and, pu_or, pu_xor, pu_xorO, pu_shl, pu_shr, pu_ushr, pu_nb0, pu_nb1, pu_ob1N, pu_ob2N, pu_ob3N, pu_ob4N, pu_nwN, pu_n1, pu_n7, pu_n31, pu_n255, pu_md, pu_one, pu_sI1, pu_sI2, pu_sA1, pu_sA21, pu_sA222, pu_sAe, pu_sAn, pu_sJ1, pu_sJ21, pu_sJ221, pu_sF1, pu_sF21, pu_sF222, pu_sFe, pu_sFn, pu_upe, pu_upn, Nat.reduceAdd, Nat.reduceSub, Nat.reduceMul, Nat.reduceMod, Nat.reduceAnd, Nat.reducePow, Nat.reduceEqDiff, Nat.add_zero, Nat.zero_add, Bool.false_eq_true, Nat.add_sub_cancel, e2, i4], hM, fun _ _ => rfl, FR.sI (by decide)⟩
  · exact ⟨nO, D, S, sI M 0 (nI 0), by simp (disch := omega) only [↓pu_m1, pu_lit, ↓reduceIte, pu_leT, pu_leF, pu_ltT, pu_ltF, pu_eqT, pu_eqF, pu_eqO, pu_eqO2, pu_ltO, pu_leO, pu_subO, pu_subOF, pu_subT, pu_subF, pu_oobF, pu_clamp, pu_add, pu_sub, pu_mul, pu_and, pu_or, pu_xor, pu_xorO, pu_shl, pu_shr, pu_ushr, pu_nb0, pu_nb1, pu_ob1N, pu_ob2N, pu_ob3N, pu_ob4N, pu_nwN, pu_n1, pu_n7, pu_n31, pu_n255, pu_md, pu_one, pu_sI1, pu_sI2, pu_sA1, pu_sA21, pu_sA222, pu_sAe, pu_sAn, pu_sJ1, pu_sJ21, pu_sJ221, pu_sF1, pu_sF21, pu_sF222, pu_sFe, pu_sFn, pu_upe, pu_upn, Nat.reduceAdd, Nat.reduceSub, Nat.reduceMul, Nat.reduceMod, Nat.reduceAnd, Nat.reducePow, Nat.reduceEqDiff, Nat.add_zero, Nat.zero_add, Bool.false_eq_true, Nat.add_sub_cancel, e1], by simp (disch := omega) only [↓pu_m1, pu_lit, ↓reduceIte, pu_leT, pu_leF, pu_ltT, pu_ltF, pu_eqT, pu_eqF, pu_eqO, pu_eqO2, pu_ltO, pu_leO, pu_subO, pu_subOF, pu_subT, pu_subF, pu_oobF, pu_clamp, pu_add, pu_sub, pu_mul, pu_and, pu_or, pu_xor, pu_xorO, pu_shl, pu_shr, pu_ushr, pu_nb0, pu_nb1, pu_ob1N, pu_ob2N, pu_ob3N, pu_ob4N, pu_nwN, pu_n1, pu_n7, pu_n31, pu_n255, pu_md, pu_one, pu_sI1, pu_sI2, pu_sA1, pu_sA21, pu_sA222, pu_sAe, pu_sAn, pu_sJ1, pu_sJ21, pu_sJ221, pu_sF1, pu_sF21, pu_sF222, pu_sFe, pu_sFn, pu_upe, pu_upn, Nat.reduceAdd, Nat.reduceSub, Nat.reduceMul, Nat.reduceMod, Nat.reduceAnd, Nat.reducePow, Nat.reduceEqDiff, Nat.add_zero, Nat.zero_add, Bool.false_eq_true, Nat.add_sub_cancel, e2], hM, fun _ _ => rfl, FR.sI (by decide)⟩
end P18
