/-! a sentence's reading: depths, behind a fault, the reader's rows -/
section P49
variable {R M S P B N H T X G U : St} {V cs cg cu cs' cg' cu' : Vt} {k n o h0 x : Nat} {l : List Nat}
theorem dpt_cong (h : ∀ i, i < n → cs' i = cs i) : dpt cs' n = dpt cs n := by
  induction n with
  | zero => rfl
  | succ n ih =>
    have e := ih (fun i hi => h i (by omega))
    show (if cs' n = 26 then dpt cs' n else if cs' n < 26 then dpt cs' n - 1 else dpt cs' n + 1) = (if cs n = 26 then dpt cs n else if cs n < 26 then dpt cs n - 1 else dpt cs n + 1)
    rw [e, h n (by omega)]
theorem dpt_le : dpt cs n ≤ n := by
  induction n with
  | zero => exact Nat.le_refl _
  | succ n ih =>
    show (if cs n = 26 then dpt cs n else if cs n < 26 then dpt cs n - 1 else dpt cs n + 1) ≤ n + 1
    split
    · omega
    · split <;> omega
theorem dpt_s : dpt cs (n + 1) = if cs n = 26 then dpt cs n else if cs n < 26 then dpt cs n - 1 else dpt cs n + 1 := rfl
theorem dpt_up {s : Nat} : dpt (up cs n s) n = dpt cs n := dpt_cong (fun i hi => pu_upn (by omega))
theorem WC_ext {s g u : Nat} (h : WC cs cg cu n) (h1 : 24 ≤ s ∧ s ≤ 35) (h2 : s = 26 → 1 ≤ dpt cs n) (h3 : s < 26 → 2 ≤ dpt cs n) (h4 : s = 30 → u < 8) (h5 : u < 1000) (h6 : 32 ≤ s → 60 ≤ g ∧ g ≤ 62) (h7 : dpt cs n ≤ 20) : WC (up cs n s) (up cg n g) (up cu n u) (n + 1) := by
  intro i hi
  have hd : dpt (up cs n s) i = dpt cs i := dpt_cong (fun j hj => pu_upn (by omega))
  rw [hd]
  by_cases q : i = n
  · rw [q, pu_upe, pu_upe, pu_upe]
    exact ⟨h1, h2, h3, h4, h5, h6, h7⟩
  · rw [pu_upn q, pu_upn q, pu_upn q]
    exact h i (by omega)
/-! the class behind a fault -/
theorem fl_7one {f g : St → St → St → Int32 → Option (St × St)} (h : FLc R) (x : Int32) : F_X7_readOne f g N R B x = some (N, R) := by
  have h1 := fl_isMark h 40
  have h2 := fl_isFrom h 26 10
  have h3 := fl_fail h 1
  have h48 : F_X7_readOne_48 f g x N R B = some (N, R) := by
    unfold F_X7_readOne_48
    rw [if_neg (FLc_8 h)]
  unfold F_X7_readOne
  rw [h1, pu_ob1N, if_pos zero_eq, h2, pu_ob1N, if_pos zero_eq, h3, pu_ob1N, h48]
theorem fl_7all {g : St → St → St → Int32 → Option (St × St)} (h : FLc R) (x y : Int32) : L_X7_readAll_10 g x y N R B = some (N, R) := by
  have h1 := fl_takeWord h 25
  show F_X7_readAll_10 g (lp (fun kz (z : Int32 × Int32 × St × St × St) => F_X7_readAll_10 g kz z.1 z.2.1 z.2.2.1 z.2.2.2.1 z.2.2.2.2) (FU - 1)) x y N R B = some (N, R)
  unfold F_X7_readAll_10
  rw [h1, pu_ob2N, if_pos zero_eq, ite_self]
theorem fl_7cond {g : St → St → St → Int32 → Option (St × St)} (h : FLc R) (x y : Int32) : L_X7_readCond_10 g x y N R B = some (N, R) := by
  have h1 := fl_takeWord h 24
  show F_X7_readCond_10 g (lp (fun kz (z : Int32 × Int32 × St × St × St) => F_X7_readCond_10 g kz z.1 z.2.1 z.2.2.1 z.2.2.2.1 z.2.2.2.2) (FU - 1)) x y N R B = some (N, R)
  unfold F_X7_readCond_10
  rw [h1, pu_ob2N, if_pos zero_eq, ite_self]
/-! the reader's rows stay -/
abbrev K7 (f : St → St → St → Int32 → Option (St × St)) : Prop := ∀ S0 S1 S2 U x, S1.2 = U.2 → K2 U (f S0 S1 S2 x)
theorem K_7all {f : St → St → St → Int32 → Option (St × St)} (hf : K7 f) : K7 (F_X7_readAll f) := by
  intro S0 S1 S2 U x h
  unfold F_X7_readAll L_X7_readAll_10
  refine ok_2 (hf S0 S1 S2 U x h) (fun U2 U3 hU3 => ?_)
  exact ok_lp (fun z => z.2.2.2.1.2 = U.2) (fun k hk z hz => by
    unfold F_X7_readAll_10
    exact ok_ite (ok_some hz) (ok_2 (K_F_X5_takeWord hz) (fun r3 U4 hU4 => ok_ite (ok_some hU4) (ok_2 (hf _ _ _ U _ hU4) (fun U7 U8 hU8 => ok_1' (fun U10 => hk _ hU8)))))) FU _ hU3
theorem K_7cond {f : St → St → St → Int32 → Option (St × St)} (hf : K7 f) : K7 (F_X7_readCond f) := by
  intro S0 S1 S2 U x h
  unfold F_X7_readCond L_X7_readCond_10
  refine ok_2 (hf S0 S1 S2 U x h) (fun U2 U3 hU3 => ?_)
  exact ok_lp (fun z => z.2.2.2.1.2 = U.2) (fun k hk z hz => by
    unfold F_X7_readCond_10
    exact ok_ite (ok_some hz) (ok_2 (K_F_X5_takeWord hz) (fun r3 U4 hU4 => ok_ite (ok_some hU4) (ok_2 (hf _ _ _ U _ hU4) (fun U7 U8 hU8 => ok_1' (fun U10 => hk _ hU8)))))) FU _ hU3
theorem K_7one48 {f g : St → St → St → Int32 → Option (St × St)} (hf : K7 f) (hg : K7 g) {S0 S1 S2 U : St} {x : Int32} (h : S1.2 = U.2) : K2 U (F_X7_readOne_48 f g x S0 S1 S2) := by
  unfold F_X7_readOne_48
  exact ok_ite (ok_nw (ok_2 (K_F_X5_takeMark h) (fun r5 U6 h6 => ok_ite (ok_2 (K_F_X5_takeWord h6) (fun r9 U10 h10 => ok_ite (ok_2 (K_F_X7_readPlain h10) (fun U13 U14 h14 => ok_some h14)) (ok_2 (hg _ _ _ U _ h10) (fun U16 U17 h17 => ok_1' (fun U19 => ok_some h17))))) (ok_2 (hf _ _ _ U _ h6) (fun U21 U22 h22 => ok_1 (K_F_X5_needMark h22) (fun U24 h24 => ok_some h24)))))) (ok_some h)
theorem K_7one {f g : St → St → St → Int32 → Option (St × St)} (hf : K7 f) (hg : K7 g) : K7 (F_X7_readOne f g) := by
  intro S0 S1 S2 U x h
  have h43 : K2 U (F_X7_readOne_43 f g x S0 S1 S2) := by
    unfold F_X7_readOne_43
    exact ok_1 (K_F_X5_fail h) (fun U2 h2 => K_7one48 hf hg h2)
  have h28 : K2 U (F_X7_readOne_28 f g x S0 S1 S2) := by
    unfold F_X7_readOne_28
    exact ok_ite h43 (ok_ite (K_7one48 hf hg h) h43)
  unfold F_X7_readOne
  exact ok_1' (fun r2 => ok_ite (ok_1' (fun r5 => ok_ite (ok_1 (K_F_X5_fail h) (fun U8 h8 => K_7one48 hf hg h8)) h28)) h28)
theorem K_7O : ∀ d, K7 (R7O d) := by
  intro d
  induction d with
  | zero => intro S0 S1 S2 U x h; exact ok_none
  | succ d ih => exact K_7one (K_7cond (K_7all ih)) ih
theorem K_7K {S0 S1 S2 : St} {x : Int32} (h : S1.2 = U.2) : K2 U (F_X7_readCondK S0 S1 S2 x) := by
  unfold F_X7_readCondK
  exact K_7cond (K_7all (K_7O 12)) S0 S1 S2 U x h
end P49
