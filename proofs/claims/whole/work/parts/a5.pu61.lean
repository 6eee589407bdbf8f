/-! a sentence: all of it, in step -/
section P61
variable {R M M' M1 S P B N H T X G U : St} {V cs cg cu : Vt} {k n o h x j d : Nat} {l : List Nat}
theorem GB_fl {f : St → St → St → Int32 → Option (St × St)} {c x i : Int32} (h : FLc R) (K : Nat) : lp (GB c f) (K + 1) (x, i, N, R, B) = some (N, R) := by
  show GB c f (lp (GB c f) K) (x, i, N, R, B) = _
  generalize lp (GB c f) K = L
  show (if (20 : Int32) ≤ i then some (N, R) else (ob2 (F_X5_takeWord R c) fun r3 U4 => if r3 = 0 then (some (N, U4)) else (ob2 (f N U4 B x) fun U7 U8 => ob1 (F_X7_addStep U7 c (0 : Int32) (0 : Int32)) fun U10 => L (x, (i + 1), U10, U8, B)))) = some (N, R)
  rw [fl_takeWord h c, pu_ob2N, if_pos zero_eq, ite_self]
theorem rd_comp {f : St → St → St → Int32 → Option (St × St)} {w a : Nat} {Lp Lp' : List Nat → Prop} {Tk Tk' : Int32 → Prop} {Tp Tp' : Nat → Prop} (hw : w = 21 ∨ w = 22) (hf : SPX f B V d a Lp Tk Tp) (ha : 1 ≤ a) (hTw : Tp w) (hL0 : ∀ l, Lp l → Lp' l) (hL : ∀ l, Lp l → Lp' (l ++ [w])) (hL2 : ∀ l, Lp' l → ∀ y, y ∈ l → y = 21 ∨ (y = 22 ∧ w = 22)) (hTp : ∀ y, Tp' y → Tp y ∧ y ≠ 20 ∧ y ≠ 21 ∧ (w = 22 → y ≠ 22)) (hTk : ∀ t, Tk t → t ≠ nI (46 - w) → Tk' t) : SPX (fun N R B x => ob2 (f N R B x) fun U2 U3 => lp (GB (nI (46 - w)) f) FU (x, 0, U2, U3, B)) B V d (a + 1) Lp' Tk' Tp' := by
  intro R M N cs cg cu n o h x k hI hh hd hs
  obtain ⟨hO, hb, hp, ho', hnd, hWC, h45, hx1, hx9, h46⟩ := id hI
  have hF : FU = 20 + 1 + (FU - 21) := by unfold FU; omega
  have hs1 : h = 0 ∨ ∃ y, y < 100 ∧ Tp y ∧ M.2.2.1 41 (h - 1) = nI y := by
    rcases hs with q | ⟨y, y1, y2, y3⟩
    · exact Or.inl q
    · exact Or.inr ⟨y, y1, (hTp y y2).1, y3⟩
  have hs2 : h = 0 ∨ ∃ y, y < 100 ∧ y ≠ 20 ∧ y ≠ 21 ∧ (w = 22 → y ≠ 22) ∧ M.2.2.1 41 (h - 1) = nI y := by
    rcases hs with q | ⟨y, y1, y2, y3⟩
    · exact Or.inl q
    · obtain ⟨-, z2, z3, z4⟩ := hTp y y2
      exact Or.inr ⟨y, y1, z2, z3, z4, y3⟩
  rcases hf _ _ _ _ _ _ _ _ _ _ _ hI (by omega) hd hs1 with ⟨N', R', M', cs', cg', cu', n', o', k', s, j, l, f1, f2, f3, f4⟩ | ⟨N', R', M', s, f1, f2⟩
  · have ho1 := f4.2.2.2.2.2.2.2.1
    have key := rd_loop (k := k) hw hf ha hTw hL hL2 hb hh hx1 hx9 hd hnd hs2 20 0 R' N' M' cs' cg' cu' n' o' k' s j l f4 (hL0 l f2) f3 (by omega) (by omega) (FU - 21)
    rw [← hF] at key
    rcases key with ⟨N', R', M', cs', cg', cu', n', o', k', s, j, l, g1, g2, g3, g4⟩ | ⟨N', R', M', s, g1, g2⟩
    · exact Or.inl ⟨N', R', M', cs', cg', cu', n', o', k', s, j, l, by show ob2 (f N R B (nI x)) _ = _; rw [f1, pu_ob2N]; exact g1, g2, hTk _ g3.1 g3.2, g4⟩
    · exact Or.inr ⟨N', R', M', s, by show ob2 (f N R B (nI x)) _ = _; rw [f1, pu_ob2N]; exact g1, g2⟩
  · right
    refine ⟨N', R', M', s, ?_, f2⟩
    show ob2 (f N R B (nI x)) _ = _
    obtain ⟨K, hK⟩ : ∃ K, FU = K + 1 := ⟨FU - 1, by unfold FU; omega⟩
    rw [f1, pu_ob2N, hK]
    exact GB_fl f2.2.1.1 K
theorem rd_condOf {f : St → St → St → Int32 → Option (St × St)} (hA : SPA f B V d) : SPC (F_X7_readCond (F_X7_readAll f)) B V d := by
  have h1 : SPX f B V d 1 (fun l => l = []) (fun _ => True) (fun _ => True) := by
    intro R M N cs cg cu n o h x k hI hh hd _
    rcases hA R M N cs cg cu n o h x k hI hh hd with ⟨N', R', M', cs', cg', cu', n', o', k', s, j, f1, f2⟩ | q
    · exact Or.inl ⟨N', R', M', cs', cg', cu', n', o', k', s, j, [], f1, rfl, trivial, f2⟩
    · exact Or.inr q
  have h2 : SPX (F_X7_readAll f) B V d 2 (fun l => l = [] ∨ l = [21]) (fun t => t ≠ nI 25) (fun y => y ≠ 20 ∧ y ≠ 21) :=
    rd_comp (w := 21) (Or.inl rfl) h1 (Nat.le_refl _) trivial (fun l e => Or.inl e) (fun l e => Or.inr (by rw [e]; rfl)) (fun l e y hy => by
      rcases e with e | e
      · rw [e] at hy; exact absurd hy List.not_mem_nil
      · rw [e] at hy; exact Or.inl (List.mem_singleton.mp hy)) (fun y e => ⟨trivial, e.1, e.2, fun q => by omega⟩) (fun t _ e => e)
  have h3 : SPX (F_X7_readCond (F_X7_readAll f)) B V d 3 (fun l => ∀ y, y ∈ l → y = 21 ∨ y = 22) (fun t => t ≠ nI 24 ∧ t ≠ nI 25) (fun y => y = 23) :=
    rd_comp (w := 22) (Or.inr rfl) h2 (by omega) ⟨by omega, by omega⟩ (fun l e y hy => by
      rcases e with e | e
      · rw [e] at hy; exact absurd hy List.not_mem_nil
      · rw [e] at hy; exact Or.inl (List.mem_singleton.mp hy)) (fun l e y hy => by
      rcases List.mem_append.mp hy with hy | hy
      · rcases e with e | e
        · rw [e] at hy; exact absurd hy List.not_mem_nil
        · rw [e] at hy; exact Or.inl (List.mem_singleton.mp hy)
      · exact Or.inr (List.mem_singleton.mp hy)) (fun l e y hy => by have := e y hy; omega) (fun y e => ⟨⟨by omega, by omega⟩, by omega, by omega, fun _ => by omega⟩) (fun t e1 e2 => ⟨e2, e1⟩)
  intro R M N cs cg cu n o h x k hI hh hd hs
  rcases h3 R M N cs cg cu n o h x k hI hh hd (by
    rcases hs with q | q
    · exact Or.inl q
    · exact Or.inr ⟨23, by omega, rfl, q⟩) with ⟨N', R', M', cs', cg', cu', n', o', k', s, j, l, f1, f2, f3, f4⟩ | q
  · exact Or.inl ⟨N', R', M', cs', cg', cu', n', o', k', s, j, l, f1, f2, f3.1, f3.2, f4⟩
  · exact Or.inr q
theorem rd_oneAll : ∀ d, SPA (R7O d) B V d := by
  intro d
  induction d with
  | zero =>
    intro R M N cs cg cu n o h x k hI hh hd
    obtain ⟨-, -, -, -, -, -, -, -, hx9, -⟩ := hI
    omega
  | succ d ih => exact rd_one (rd_condOf ih) ih
theorem rd_condK : SPC F_X7_readCondK B V 12 := by
  have h := rd_condOf (rd_oneAll (B := B) (V := V) 12)
  exact h
end P61
