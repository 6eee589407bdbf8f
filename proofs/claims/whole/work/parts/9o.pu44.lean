/-! a sentence's codes on both sides, the model's marks pending -/
def CN (N : St) (cs cg cu : Vt) (n o : Nat) : Prop := N.1 3 = nI n ∧ N.1 4 = nI o ∧ ∀ i, i < n → N.2.2.1 0 i = nI (cs i) ∧ N.2.2.1 1 i = nI (cg i) ∧ N.2.2.1 2 i = nI (cu i)
def CM (M : St) (cs cg cu : Vt) (n o : Nat) : Prop := M.1 42 = nI n ∧ M.1 43 = nI o ∧ ∀ i, i < n → M.2.2.1 8 (3 * i) = nI (mcd (cs i)) ∧ M.2.2.1 8 (3 * i + 1) = nI (cg i) ∧ M.2.2.1 8 (3 * i + 2) = nI (cu i)
def STK (M : St) (h : Nat) : List Nat → Prop
  | [] => True
  | x :: l => M.2.2.1 41 (h + l.length) = nI x ∧ STK M h l
def TAIL (cs cg cu : Vt) : Nat → List Nat → Prop
  | _, [] => True
  | n, x :: l => cs n = 46 - x ∧ cg n = 0 ∧ cu n = 0 ∧ TAIL cs cg cu (n + 1) l
def PD (N M : St) (cs cg cu : Vt) (n o h : Nat) (l : List Nat) : Prop := CN N cs cg cu (n + l.length) o ∧ CM M cs cg cu n o ∧ TAIL cs cg cu n l ∧ STK M h l ∧ M.1 44 = nI (h + l.length) ∧ (∀ x, x ∈ l → 20 ≤ x ∧ x ≤ 22) ∧ n + l.length ≤ 40 ∧ h + l.length < 45
section P44
variable {R M S P B N H T X G : St} {V cs cg cu : Vt} {k n o h : Nat} {l : List Nat}
theorem STK_fr {M' : St} (e : ∀ j, j < h + l.length → M'.2.2.1 41 j = M.2.2.1 41 j) (hs : STK M h l) : STK M' h l := by
  induction l with
  | nil => trivial
  | cons x l ih =>
    refine ⟨by rw [e _ (by simp only [List.length_cons]; omega)]; exact hs.1, ih (fun j hj => e j (by simp only [List.length_cons]; omega)) hs.2⟩
theorem x12_codeP {a g u : Nat} (hn : n < 50) (h42 : M.1 42 = nI n) : ∃ M', F_X12_code M (nI a) (nI g) (nI u) = some M' ∧ M'.1 42 = nI (n + 1) ∧ M'.2.2.1 8 (3 * n) = nI a ∧ M'.2.2.1 8 (3 * n + 1) = nI g ∧ M'.2.2.1 8 (3 * n + 2) = nI u ∧ (∀ i, i < 3 * n → M'.2.2.1 8 i = M.2.2.1 8 i) ∧ FR [42] [8] [] M M' ∧ M'.2.1 = M.2.1 := by
  have h3 : (3 : Int32) * nI n = nI (3 * n) := by rw [show (3 : Int32) = nI 3 from rfl, pu_mul]
  have e1 : nI (3 * n) + (1 : Int32) = nI (3 * n + 1) := nIs _
  have e2 : nI (3 * n) + (2 : Int32) = nI (3 * n + 2) := nI_add _ 2
  have o0 := no_oob (i := 3 * n) (n := 160) (by omega) (by omega)
  have o1 := no_oob (i := 3 * n + 1) (n := 160) (by omega) (by omega)
  have o2 := no_oob (i := 3 * n + 2) (n := 160) (by omega) (by omega)
  refine ⟨sI (sA (sA (sA M 8 (nI (3 * n)) (nI a)) 8 (nI (3 * n + 1)) (nI g)) 8 (nI (3 * n + 2)) (nI u)) 42 (nI (n + 1)), ?_, rfl, ?_, ?_, ?_, fun i hi => ?_, (((FR.sA (by decide)).tr (FR.sA (by decide))).tr (FR.sA (by decide))).tr (FR.sI (by decide)), rfl⟩
  · unfold F_X12_code
    have c1 : (sA M 8 (nI (3 * n)) (nI a)).1 42 = nI n := h42
    have c2 : (sA (sA M 8 (nI (3 * n)) (nI a)) 8 (nI (3 * n + 1)) (nI g)).1 42 = nI n := h42
    have c3 : (sA (sA (sA M 8 (nI (3 * n)) (nI a)) 8 (nI (3 * n + 1)) (nI g)) 8 (nI (3 * n + 2)) (nI u)).1 42 = nI n := h42
    rw [h42, h3, if_neg o0, pu_nwN, c1, h3, e1, if_neg o1, pu_nwN, c2, h3, e2, if_neg o2, pu_nwN, c3, nIs, pu_nwN]
  · show (sA (sA (sA M 8 (nI (3 * n)) (nI a)) 8 (nI (3 * n + 1)) (nI g)) 8 (nI (3 * n + 2)) (nI u)).2.2.1 8 (3 * n) = _
    rw [pu_sAe (by omega), if_neg (by omega), pu_sAe (by omega), if_neg (by omega), pu_sAe (by omega), if_pos rfl]
  · show (sA (sA (sA M 8 (nI (3 * n)) (nI a)) 8 (nI (3 * n + 1)) (nI g)) 8 (nI (3 * n + 2)) (nI u)).2.2.1 8 (3 * n + 1) = _
    rw [pu_sAe (by omega), if_neg (by omega), pu_sAe (by omega), if_pos rfl]
  · show (sA (sA (sA M 8 (nI (3 * n)) (nI a)) 8 (nI (3 * n + 1)) (nI g)) 8 (nI (3 * n + 2)) (nI u)).2.2.1 8 (3 * n + 2) = _
    rw [pu_sAe (by omega), if_pos rfl]
  · show (sA (sA (sA M 8 (nI (3 * n)) (nI a)) 8 (nI (3 * n + 1)) (nI g)) 8 (nI (3 * n + 2)) (nI u)).2.2.1 8 i = _
    rw [pu_sAe (by omega), if_neg (by omega), pu_sAe (by omega), if_neg (by omega), pu_sAe (by omega), if_neg (by omega)]
theorem mcd_mark : ∀ x, x < 23 → 20 ≤ x → mcd (46 - x) = x := by decide
theorem PD_pop {M1 : St} {x : Nat} (hp : PD N M cs cg cu n o h (x :: l)) (hf : FR [44, 45] [] [] M M1) (h44 : M1.1 44 = nI (h + l.length)) : ∃ M', F_X12_code M1 (nI x) (nI 0) (nI 0) = some M' ∧ PD N M' cs cg cu (n + 1) o h l ∧ FR [42] [8] [] M1 M' ∧ M'.2.1 = M1.2.1 := by
  obtain ⟨a1, ⟨b1, b2, b3⟩, ⟨c1, c2, c3, c4⟩, ⟨d1, d2⟩, e, f, g1, g2⟩ := hp
  simp only [List.length_cons] at a1 g1 g2
  have hx := f x (List.mem_cons_self ..)
  obtain ⟨M', m1, m2, m3, m4, m5, m6, m7, m8⟩ := x12_codeP (M := M1) (n := n) (a := x) (g := 0) (u := 0) (by omega) (by rw [hf.1 42 (by decide), b1])
  refine ⟨M', m1, ⟨by rw [show n + 1 + l.length = n + (l.length + 1) by omega]; exact a1, ⟨m2, by rw [m7.1 43 (by decide), hf.1 43 (by decide), b2], fun i hi => ?_⟩, c4, STK_fr (fun j _ => by rw [m7.2.1 41 (by decide), hf.2.1 41 (by decide)]) d2, by rw [m7.1 44 (by decide), h44], fun y hy => f y (List.mem_cons_of_mem _ hy), by omega, by omega⟩, m7, m8⟩
  by_cases q : i = n
  · rw [q, m3, m4, m5, c1, c2, c3, mcd_mark x (by omega) hx.1]
    exact ⟨rfl, rfl, rfl⟩
  · have hh : ∀ j, j < 3 * n → M'.2.2.1 8 j = M.2.2.1 8 j := fun j hj => by rw [m6 j hj, hf.2.1 8 (by decide)]
    rw [hh _ (by omega), hh _ (by omega), hh _ (by omega)]
    exact b3 i (by omega)
end P44
