/-! a sentence: ALLs and CONDs, in step -/
def SPX (f : St → St → St → Int32 → Option (St × St)) (B : St) (V : Vt) (d a : Nat) (Lp : List Nat → Prop) (Tk : Int32 → Prop) (Tp : Nat → Prop) : Prop := ∀ R M N cs cg cu n o h x k, INP B R N M V cs cg cu n o h x k → h + a ≤ 3 * x → 10 ≤ d + x → (h = 0 ∨ ∃ y, y < 100 ∧ Tp y ∧ M.2.2.1 41 (h - 1) = nI y) → (∃ N' R' M' cs' cg' cu' n' o' k' s j l, f N R B (nI x) = some (N', R') ∧ Lp l ∧ Tk (R'.2.2.1 3 k') ∧ OUT R' N' M M' cs' cg' cu' n' o' o h x k k' s (dpt cs n) (n + dpt cs n) j l) ∨ (∃ N' R' M' s, f N R B (nI x) = some (N', R') ∧ BAD R' N' M M' k s)
abbrev GB (c : Int32) (f : St → St → St → Int32 → Option (St × St)) : (Int32 × Int32 × St × St × St → Option (St × St)) → Int32 × Int32 × St × St × St → Option (St × St) := fun kz z => if (20 : Int32) ≤ z.2.1 then (some (z.2.2.1, z.2.2.2.1)) else (ob2 (F_X5_takeWord z.2.2.2.1 c) fun r3 U4 => if r3 = 0 then (some (z.2.2.1, U4)) else (ob2 (f z.2.2.1 U4 z.2.2.2.2 z.1) fun U7 U8 => ob1 (F_X7_addStep U7 c (0 : Int32) (0 : Int32)) fun U10 => kz (z.1, (z.2.1 + 1), U10, U8, z.2.2.2.2)))
section P60
variable {R M M' M1 S P B N H T X G U : St} {V cs cg cu : Vt} {k n o h x j d : Nat} {l : List Nat}
theorem STK_app {l2 : List Nat} : ∀ {l1 : List Nat}, STK M (h + l2.length) l1 → STK M h l2 → STK M h (l1 ++ l2) := by
  intro l1
  induction l1 with
  | nil => exact fun _ b => b
  | cons y l1 ih =>
    intro a b
    refine ⟨?_, ih a.2 b⟩
    show M.2.2.1 41 (h + (l1 ++ l2).length) = nI y
    rw [List.length_append, show h + (l1.length + l2.length) = h + l2.length + l1.length by omega]
    exact a.1
theorem TAIL_app {l2 : List Nat} : ∀ {l1 : List Nat} {n : Nat}, TAIL cs cg cu n l1 → TAIL cs cg cu (n + l1.length) l2 → TAIL cs cg cu n (l1 ++ l2) := by
  intro l1
  induction l1 with
  | nil => exact fun _ b => b
  | cons y l1 ih =>
    intro n a b
    refine ⟨a.1, a.2.1, a.2.2.1, ih a.2.2.2 ?_⟩
    rw [show n + 1 + l1.length = n + (y :: l1).length by simp only [List.length_cons]; omega]
    exact b
theorem TAIL_cong {cs' cg' cu' : Vt} : ∀ {l : List Nat} {n : Nat}, (∀ i, n ≤ i → i < n + l.length → cs' i = cs i ∧ cg' i = cg i ∧ cu' i = cu i) → TAIL cs cg cu n l → TAIL cs' cg' cu' n l := by
  intro l
  induction l with
  | nil => exact fun _ _ => trivial
  | cons y l ih =>
    intro n e a
    have e0 := e n (Nat.le_refl _) (by simp only [List.length_cons]; omega)
    exact ⟨by rw [e0.1]; exact a.1, by rw [e0.2.1]; exact a.2.1, by rw [e0.2.2]; exact a.2.2.1, ih (fun i h1 h2 => e i (by omega) (by simp only [List.length_cons]; omega)) a.2.2.2⟩
theorem PD_mark {w m : Nat} {N2 : St} (hw : w = 21 ∨ w = 22) (hp : PD N M cs cg cu n o (h + 1) l) (hs : M.2.2.1 41 h = nI w) (hm : m = n + l.length) (hN : CN N2 (up cs m (46 - w)) (up cg m 0) (up cu m 0) (m + 1) o) (hn : m < 40) : PD N2 M (up cs m (46 - w)) (up cg m 0) (up cu m 0) n o h (l ++ [w]) := by
  obtain ⟨a1, ⟨b1, b2, b3⟩, c, d, e, f, g1, g2⟩ := hp
  refine ⟨?_, ⟨b1, b2, fun i hi => ?_⟩, ?_, ?_, ?_, fun y hy => ?_, ?_, ?_⟩
  · rw [List.length_append, show n + (l.length + [w].length) = m + 1 by rw [hm]; simp only [List.length_cons, List.length_nil]; omega]
    exact hN
  · rw [pu_upn (by omega), pu_upn (by omega), pu_upn (by omega)]
    exact b3 i hi
  · refine TAIL_app (TAIL_cong (fun i h1 h2 => ?_) c) ?_
    · rw [pu_upn (by omega), pu_upn (by omega), pu_upn (by omega)]; exact ⟨rfl, rfl, rfl⟩
    · rw [← hm]
      exact ⟨pu_upe _ _ _, pu_upe _ _ _, pu_upe _ _ _, trivial⟩
  · exact STK_app d ⟨hs, trivial⟩
  · rw [e, List.length_append]
    simp only [List.length_cons, List.length_nil]
    rw [show h + 1 + l.length = h + (l.length + (0 + 1)) by omega]
  · rcases List.mem_append.mp hy with q | q
    · exact f y q
    · have := List.mem_singleton.mp q
      omega
  · rw [List.length_append]; simp only [List.length_cons, List.length_nil]; omega
  · rw [List.length_append]; simp only [List.length_cons, List.length_nil]; omega
theorem rd_loop {f : St → St → St → Int32 → Option (St × St)} {w a : Nat} {Lp Lp' : List Nat → Prop} {Tk : Int32 → Prop} {Tp : Nat → Prop} (hw : w = 21 ∨ w = 22) (hf : SPX f B V d a Lp Tk Tp) (ha : 1 ≤ a) (hTw : Tp w) (hL : ∀ l, Lp l → Lp' (l ++ [w])) (hL2 : ∀ l, Lp' l → ∀ y, y ∈ l → y = 21 ∨ (y = 22 ∧ w = 22))
    {o d0 m0 : Nat} (hb : BK B M V) (hh : h + (a + 1) ≤ 3 * x) (hx1 : 1 ≤ x) (hx9 : x ≤ 9) (hd : 10 ≤ d + x) (hm0 : m0 ≤ 2 * o) (hs : h = 0 ∨ ∃ y, y < 100 ∧ y ≠ 20 ∧ y ≠ 21 ∧ (w = 22 → y ≠ 22) ∧ M.2.2.1 41 (h - 1) = nI y) :
    ∀ D i R1 N1 M1 cs1 cg1 cu1 n1 o1 k1 s1 j1 l1, OUT R1 N1 M M1 cs1 cg1 cu1 n1 o1 o h x k k1 s1 d0 m0 j1 l1 → Lp' l1 → Tk (R1.2.2.1 3 k1) → i + o + 1 ≤ o1 → 20 ≤ i + D → ∀ K, (∃ N' R' M' cs' cg' cu' n' o' k' s j l, lp (GB (nI (46 - w)) f) (D + 1 + K) (nI x, nI i, N1, R1, B) = some (N', R') ∧ Lp' l ∧ (Tk (R'.2.2.1 3 k') ∧ R'.2.2.1 3 k' ≠ nI (46 - w)) ∧ OUT R' N' M M' cs' cg' cu' n' o' o h x k k' s d0 m0 j l) ∨ (∃ N' R' M' s, lp (GB (nI (46 - w)) f) (D + 1 + K) (nI x, nI i, N1, R1, B) = some (N', R') ∧ BAD R' N' M M' k s) := by
  intro D
  induction D with
  | zero =>
    intro i R1 N1 M1 cs1 cg1 cu1 n1 o1 k1 s1 j1 l1 hU _ _ h1 h2 K
    obtain ⟨-, -, -, -, -, -, -, c9, -⟩ := hU
    omega
  | succ D ih =>
    intro i R1 N1 M1 cs1 cg1 cu1 n1 o1 k1 s1 j1 l1 hU hl1 hTk h1 h2 K
    obtain ⟨c2, c3, c3', c5, c6, c7, c8, c9, c10, c11, c12, c13, c14⟩ := id hU
    have hi20 : ¬ (20 : Int32) ≤ nI i := nI_ge (b := 20) (by omega) (by omega)
    have hk1 := ok_k c2
    rw [show D + 1 + 1 + K = (D + 1 + K) + 1 by omega]
    generalize hL0 : lp (GB (nI (46 - w)) f) (D + 1 + K) = L
    have hstep : lp (GB (nI (46 - w)) f) ((D + 1 + K) + 1) (nI x, nI i, N1, R1, B) = ob2 (F_X5_takeWord R1 (nI (46 - w))) fun r3 U4 => if r3 = 0 then (some (N1, U4)) else (ob2 (f N1 U4 B (nI x)) fun U7 U8 => ob1 (F_X7_addStep U7 (nI (46 - w)) (0 : Int32) (0 : Int32)) fun U10 => L (nI x, nI (i + 1), U10, U8, B)) := by
      rw [← hL0]
      show GB (nI (46 - w)) f (lp (GB (nI (46 - w)) f) (D + 1 + K)) (nI x, nI i, N1, R1, B) = _
      show (if (20 : Int32) ≤ nI i then _ else _) = _
      rw [if_neg hi20]
      show (ob2 (F_X5_takeWord R1 (nI (46 - w))) fun r3 U4 => if r3 = 0 then (some (N1, U4)) else (ob2 (f N1 U4 B (nI x)) fun U7 U8 => ob1 (F_X7_addStep U7 (nI (46 - w)) (0 : Int32) (0 : Int32)) fun U10 => lp (GB (nI (46 - w)) f) (D + 1 + K) (nI x, (nI i + 1), U10, U8, B))) = _
      rw [nIs]
    rw [hstep]
    obtain ⟨t, e1, e2, e3, e4⟩ := rd_isWord (i := 46 - w) c2 (by omega)
    have wt := rd_takeW c2 e1 (fun e => (e3 e).1)
    cases t with
    | false =>
      left
      refine ⟨N1, R1, M1, cs1, cg1, cu1, n1, o1, k1, s1, j1, l1, ?_, hl1, ⟨hTk, fun e => absurd (e4 e) (by decide)⟩, hU⟩
      rw [wt, if_neg (by decide), pu_ob2N, if_pos (show nI (tn false) = 0 from zero_eq)]
    | true =>
      have hjb : j1 < 1000 := by
        have := c7.2.2.2.2.2.2.2
        simp only [List.length_append, List.length_replicate] at this
        omega
      have hlm : ∀ y, y ∈ l1 → y = 21 ∨ (y = 22 ∧ w = 22) := hL2 l1 hl1
      obtain ⟨M2, b1, b2, b3, b4, b5, b6, b7, b8⟩ := rd_join (x := x) hw c2 (e3 rfl).2 c7 c8 (by omega) hjb hlm (by
        rcases hs with q | ⟨y, y1, y2, y3, y4, y5⟩
        · exact Or.inl q
        · by_cases q : h = 0
          · exact Or.inl q
          · exact Or.inr ⟨y, y1, y2, y3, y4, by rw [c13 _ (by omega)]; exact y5⟩) (fun y t e => by have := hlm y (by rw [e]; exact List.mem_cons_self ..); omega) (by omega)
      have h11 : ¬ M1.1 11 = 0 := by
        intro e
        have e2 := e2
        unfold F_X12_isWord at e2
        rw [e, if_neg (show ¬ (0 : Int32) = 1 by decide)] at e2
        exact absurd (Option.some.inj e2) (by decide)
      have hs1 := (sb_behind c6 h11 b1).1 rfl
      have e3n : n1 + j1 + l1.length = n1 + (j1 + l1.length) := by omega
      rw [e3n] at b3
      have hI : INP B (sI R1 6 (nI (k1 + 1))) N1 M2 V cs1 cg1 cu1 (n1 + (j1 + l1.length)) o1 (h + 1) x (k1 + 1) := ⟨b2, BK_fr (BK_fr hb c14 (by decide) (by decide) (by decide)) b8 (by decide) (by decide) (by decide), b3, c9.2, by omega, c11, b4, hx1, hx9, b5⟩
      rw [wt, if_pos rfl, pu_ob2N, if_neg (show ¬ nI (tn true) = 0 from one_ne)]
      rcases hf _ _ _ _ _ _ _ _ _ _ _ hI (by omega) hd (Or.inr ⟨w, by omega, hTw, by rw [Nat.add_sub_cancel]; exact b6⟩) with ⟨N', R', M', cs', cg', cu', n', o', k', s, j, l, f1, f2, f3, f4, f5, f5', f6, f7, f8, f9, f10, f11, f12, f13, f14, f15⟩ | ⟨N', R', M', s, f1, f2, f3, f4, f5, f6⟩
      · have hlen : (List.replicate j 20 ++ l).length = j + l.length := by rw [List.length_append, List.length_replicate]
        have p1 := f8.1
        rw [hlen] at p1
        obtain ⟨N2, s1', s2⟩ := x7_add (s := 46 - w) (g := 0) (u := 0) p1 (by omega)
        have s1' : F_X7_addStep N' (nI (46 - w)) 0 0 = some N2 := s1'
        have hp2 := PD_mark (N2 := N2) hw f8 (by rw [f14 h (by omega), b6]) (m := n' + (j + l.length)) (by rw [hlen]) s2 (by omega)
        rw [f1, pu_ob2N, s1', pu_ob1N, ← hL0]
        have hd1 : dpt (up cs' (n' + (j + l.length)) (46 - w)) (n' + (j + l.length) + 1) = d0 + 1 := by
          rw [dpt_s, pu_upe, if_neg (by omega), if_pos (by omega), dpt_up, f13, c12]
          omega
        refine ih (i + 1) R' N2 M' (up cs' (n' + (j + l.length)) (46 - w)) (up cg' (n' + (j + l.length)) 0) (up cu' (n' + (j + l.length)) 0) n' o' k' (s1 + 1 + s) j (l ++ [w]) ⟨f4, by omega, by omega, (c5.tr hs1).tr f6, f7, by rw [← List.append_assoc]; exact hp2, f9, ⟨by omega, f10.2⟩, ?_, ?_, ?_, fun i hi => ?_, ?_⟩ (hL l f2) f3 (by omega) (by omega) K
        · rw [List.length_append]
          show n' + (j + (l.length + 1)) + dpt _ (n' + (j + (l.length + 1))) + 2 * o ≤ _
          rw [show n' + (j + (l.length + 1)) = n' + (j + l.length) + 1 by omega, hd1]
          omega
        · rw [List.length_append]
          show WC _ _ _ (n' + (j + (l.length + 1)))
          rw [show n' + (j + (l.length + 1)) = n' + (j + l.length) + 1 by omega]
          have hdl := dpt_le (cs := cs') (n := n' + (j + l.length))
          have hd20 : dpt cs' (n' + (j + l.length)) ≤ 20 := by omega
          have hd2 : 2 ≤ dpt cs' (n' + (j + l.length)) := by omega
          clear hd1 hp2 p1 hlen
          rcases hw with rfl | rfl
          · exact WC_ext f12 ⟨by decide, by decide⟩ (fun e => absurd e (by decide)) (fun e => hd2) (fun e => absurd e (by decide)) (by decide) (fun e => absurd e (by decide)) hd20
          · exact WC_ext f12 ⟨by decide, by decide⟩ (fun e => absurd e (by decide)) (fun e => hd2) (fun e => absurd e (by decide)) (by decide) (fun e => absurd e (by decide)) hd20
        · rw [List.length_append]
          show dpt _ (n' + (j + (l.length + 1))) = _
          rw [show n' + (j + (l.length + 1)) = n' + (j + l.length) + 1 by omega, hd1]
        · rw [f14 i (by omega), b7 i hi, c13 i hi]
        · exact (c14.tr (b8.mono (by decide) (by decide) (by decide))).tr f15
      · right
        obtain ⟨N2, s1', s2⟩ := x7_addAny f2 (nI (46 - w)) 0 0
        have hL3 : L (nI x, nI (i + 1), N2, R', B) = some (N2, R') := by
          rw [← hL0, show D + 1 + K = (D + K) + 1 by omega]
          show GB (nI (46 - w)) f (lp (GB (nI (46 - w)) f) (D + K)) (nI x, nI (i + 1), N2, R', B) = _
          show (if (20 : Int32) ≤ nI (i + 1) then some (N2, R') else (ob2 (F_X5_takeWord R' (nI (46 - w))) fun r3 U4 => if r3 = 0 then (some (N2, U4)) else (ob2 (f N2 U4 B (nI x)) fun U7 U8 => ob1 (F_X7_addStep U7 (nI (46 - w)) (0 : Int32) (0 : Int32)) fun U10 => lp (GB (nI (46 - w)) f) (D + K) (nI x, (nI (i + 1) + 1), U10, U8, B)))) = some (N2, R')
          rw [fl_takeWord f3.1 (nI (46 - w)), pu_ob2N, if_pos zero_eq, ite_self]
        exact ⟨N2, R', M', s1 + 1 + s, by rw [f1, pu_ob2N, s1', pu_ob1N, hL3], s2, f3, (c5.tr hs1).st f4, by omega, ((c14.mono (by decide) (by decide) (by decide)).tr (b8.mono (by decide) (by decide) (by decide))).tr f6⟩
end P60
