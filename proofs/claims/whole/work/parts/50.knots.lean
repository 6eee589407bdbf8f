/-! Arrays.fill: all of the row is the number -/
theorem fill_lp (n : Nat) (hn : n < 1000000) (v : Int32) : ∀ (d i : Nat) (S : St) (N : Nat), i + d = n → d < N → ∃ T, lp (fun kz z => F_J7_fill_53178_5 n kz z.1 z.2.1 z.2.2.1 z.2.2.2) N (v, nI i, Int32.ofNat n, S) = some T ∧ (∀ j, i ≤ j → j < n → T.2.2.1 0 j = v) ∧ (∀ j, j < i → T.2.2.1 0 j = S.2.2.1 0 j) := by
  intro d
  induction d with
  | zero =>
    intro i S N hi hN
    obtain ⟨N, rfl⟩ : ∃ k, N = k + 1 := ⟨N - 1, by omega⟩
    have e : i = n := by omega
    subst e
    refine ⟨S, ?_, fun j h1 h2 => by omega, fun _ _ => rfl⟩
    show F_J7_fill_53178_5 i _ v (nI i) (Int32.ofNat i) S = some S
    unfold F_J7_fill_53178_5
    rw [if_pos (show Int32.ofNat i ≤ nI i from Int32.le_refl _)]
  | succ d ih =>
    intro i S N hi hN
    obtain ⟨N, rfl⟩ : ∃ k, N = k + 1 := ⟨N - 1, by omega⟩
    obtain ⟨T, h1, h2, h3⟩ := ih (i + 1) (sA S 0 (nI i) v) N (by omega) (by omega)
    have hcl : (nI i).toNatClampNeg = i := nI_clamp (by omega)
    refine ⟨T, ?_, fun j a b => ?_, fun j a => ?_⟩
    · show F_J7_fill_53178_5 n _ v (nI i) (Int32.ofNat n) S = some T
      unfold F_J7_fill_53178_5
      rw [if_neg (show ¬ Int32.ofNat n ≤ nI i from nI_ge (by omega) (by omega)), if_neg (show ¬ oob (nI i) n from fun h => by
        rcases h with h | h
        · exact nI_pos (by omega) h
        · rw [hcl] at h; omega)]
      unfold nw
      rw [nI_1]
      exact h1
    · by_cases e : j = i
      · subst e
        rw [h3 j (by omega)]
        simp [sA, sF, va_up, upd, hcl]
      · exact h2 j (by omega) b
    · rw [h3 j (by omega)]
      simp [sA, sF, va_up, upd, hcl]
      omega
theorem c_fill (l : Launch) (D : va_G) (q : Nat → ClassId) (o n : Nat) (f : Nat → Int32) (sz : Nat) (v : Int32) (hn : n < 1000000) : Met l yJ7_fill_53178 (Cond.code yJ7_fill_53178 cJ7_fill_53178 4 none :: TB) rm_J7_fill_53178 (PC D q [.ref o, .int v] [(o, .inl (q 1, n, .inl f))] sz) (QV D (va_A [(o, .inl (q 1, n, .inl f))] sz) [(o, .inl (q 1, n, .inl (fun _ => v)))]) 0 0 (va_A [(o, .inl (q 1, n, .inl f))] sz) := by
  obtain ⟨T, h1, h2, h3⟩ := fill_lp n hn v n 0 (fun _ => 0, fun _ => 0, fun _ => f, fun _ _ => 0) FU (by omega) (by unfold FU; omega)
  have hF : F_J7_fill_53178 n (fun _ => 0, fun _ => 0, fun _ => f, fun _ _ => 0) v = some T := h1
  refine k_monoV (c_J7_fill_53178 l D q o (fun _ => 0) n (fun _ => 0, fun _ => 0, fun _ => f, fun _ _ => 0) sz v hF) (fun H hP => ?_)
  intro k x hx
  match k, hx with
  | 0, hx =>
    cases hx
    have h := hP 0 (o, .inl (q 1, n, .inl (T.2.2.1 0))) rfl
    show H[o]? = some (vp_cell (q 1) (n, .inl (fun _ => v)))
    rw [show vp_cell (q 1) (n, .inl (fun _ => v)) = vp_cell (q 1) (n, .inl (T.2.2.1 0)) from k_celli (fun j hj => (h2 j (Nat.zero_le j) hj).symm)]
    exact h
/-! a SENTENCE's readers, tied: as deep as the number says at most -/
def R7O : Nat → St → St → St → Int32 → Option (St × St)
  | 0 => fun _ _ _ _ => none
  | d + 1 => F_X7_readOne (F_X7_readCond (F_X7_readAll (R7O d))) (R7O d)
def F_X7_readCondK (S0 S1 S2 : St) (x3 : Int32) : Option (St × St) := F_X7_readCond (F_X7_readAll (R7O 12)) S0 S1 S2 x3
abbrev rO7 (d : Nat) : Room := { frames := 10 + 3 * d, cells := 0, slots := 0, locals := 200 + 100 * d }
abbrev rA7 (d : Nat) : Room := { frames := 11 + 3 * d, cells := 0, slots := 0, locals := 230 + 100 * d }
abbrev rC7 (d : Nat) : Room := { frames := 12 + 3 * d, cells := 0, slots := 0, locals := 260 + 100 * d }
abbrev rm_X7_readCondK : Room := { frames := 48, cells := 0, slots := 0, locals := 1460 }
theorem c_R7O (l : Launch) (D : va_G) (q : Nat → ClassId) (tp o0 : Nat) (a0 : Nat → Nat) (o1 : Nat) (a1 : Nat → Nat) (o2 : Nat) (a2 : Nat → Nat) : ∀ (d sz : Nat) (S0 S1 S2 : St) (x3 : Int32) (T0 T1 : St), R7O d S0 S1 S2 x3 = some (T0, T1) → Met l yX7_readOne (Cond.code yX7_readOne cX7_readOne 4 none :: TB) (rO7 d) (PC D q [.ref o0, .ref o1, .ref o2, .int x3] (fl [g7 q o0 a0 S0, g5 q o1 a1 tp S1, g8 q o2 a2 S2]) sz) (QV D (va_A (fl [g7 q o0 a0 S0, g5 q o1 a1 tp S1, g8 q o2 a2 S2]) sz) (fl [g7 q o0 a0 T0, g5 q o1 a1 tp T1, g8 q o2 a2 S2])) 0 0 (va_A (fl [g7 q o0 a0 S0, g5 q o1 a1 tp S1, g8 q o2 a2 S2]) sz) := by
  intro d
  induction d with
  | zero => intro sz S0 S1 S2 x3 T0 T1 h; cases h
  | succ d ih =>
    intro sz S0 S1 S2 x3 T0 T1 h
    exact c_X7_readOne l D q tp o0 a0 S0 o1 a1 S1 o2 a2 S2 sz x3 (R := rO7 (d + 1)) ⟨by show _ ≤ 10 + 3 * (d + 1); omega, by show _ ≤ 200 + 100 * (d + 1); omega⟩
      (rm_X7_readCond := rC7 d) (fun sz S0 S1 S2 x3 T0 T1 h => c_X7_readCond l D q tp o0 a0 S0 o1 a1 S1 o2 a2 S2 sz x3 (R := rC7 d) ⟨by show _ ≤ 12 + 3 * d; omega, by show _ ≤ 260 + 100 * d; omega⟩
        (rm_X7_readAll := rA7 d) (fun sz S0 S1 S2 x3 T0 T1 h => c_X7_readAll l D q tp o0 a0 S0 o1 a1 S1 o2 a2 S2 sz x3 (R := rA7 d) ⟨by show _ ≤ 11 + 3 * d; omega, by show _ ≤ 230 + 100 * d; omega⟩
          (rm_X7_readOne := rO7 d) ih ⟨rfl, rfl⟩ ⟨by show 10 + 3 * d + 1 ≤ 11 + 3 * d; omega, by show 8 + (4 + 11) + (200 + 100 * d) ≤ 230 + 100 * d; omega⟩ h) ⟨rfl, rfl⟩ ⟨by show 11 + 3 * d + 1 ≤ 12 + 3 * d; omega, by show 8 + (5 + 11) + (230 + 100 * d) ≤ 260 + 100 * d; omega⟩ h) ⟨rfl, rfl⟩ ⟨by show 12 + 3 * d + 1 ≤ 10 + 3 * (d + 1); omega, by show 8 + (5 + 11) + (260 + 100 * d) ≤ 200 + 100 * (d + 1); omega⟩
      (rm_X7_readOne := rO7 d) ih ⟨rfl, rfl⟩ ⟨by show 10 + 3 * d + 1 ≤ 10 + 3 * (d + 1); omega, by show 8 + (4 + 11) + (200 + 100 * d) ≤ 200 + 100 * (d + 1); omega⟩ h
theorem c_X7_readCondK (l : Launch) (D : va_G) (q : Nat → ClassId) (tp o0 : Nat) (a0 : Nat → Nat) (S0 : St) (o1 : Nat) (a1 : Nat → Nat) (S1 : St) (o2 : Nat) (a2 : Nat → Nat) (S2 : St) (sz : Nat) (x3 : Int32) {T0 T1 : St} (hF : F_X7_readCondK S0 S1 S2 x3 = some (T0, T1)) : Met l yX7_readCond (Cond.code yX7_readCond cX7_readCond 5 none :: TB) rm_X7_readCondK (PC D q [.ref o0, .ref o1, .ref o2, .int x3] (fl [g7 q o0 a0 S0, g5 q o1 a1 tp S1, g8 q o2 a2 S2]) sz) (QV D (va_A (fl [g7 q o0 a0 S0, g5 q o1 a1 tp S1, g8 q o2 a2 S2]) sz) (fl [g7 q o0 a0 T0, g5 q o1 a1 tp T1, g8 q o2 a2 S2])) 0 0 (va_A (fl [g7 q o0 a0 S0, g5 q o1 a1 tp S1, g8 q o2 a2 S2]) sz) :=
  c_X7_readCond l D q tp o0 a0 S0 o1 a1 S1 o2 a2 S2 sz x3 (R := rm_X7_readCondK) ⟨by decide, by decide⟩
    (rm_X7_readAll := rA7 12) (fun sz S0 S1 S2 x3 T0 T1 h => c_X7_readAll l D q tp o0 a0 S0 o1 a1 S1 o2 a2 S2 sz x3 (R := rA7 12) ⟨by decide, by decide⟩
      (rm_X7_readOne := rO7 12) (c_R7O l D q tp o0 a0 o1 a1 o2 a2 12) ⟨rfl, rfl⟩ ⟨by decide, by decide⟩ h) ⟨rfl, rfl⟩ ⟨by decide, by decide⟩ hF
