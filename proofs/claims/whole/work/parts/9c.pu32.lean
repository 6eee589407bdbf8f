/-! the reader's words stay -/
section P32
variable {α β γ δ : Type}
def OKO (Q : α → Prop) (o : Option α) : Prop := ∀ x, o = some x → Q x
theorem ok_none {Q : α → Prop} : OKO Q none := fun _ h => by cases h
theorem ok_some {Q : α → Prop} {x : α} (h : Q x) : OKO Q (some x) := fun _ e => by cases e; exact h
theorem ok_ite {Q : α → Prop} {p : Prop} [Decidable p] {a b : Option α} (h1 : OKO Q a) (h2 : OKO Q b) : OKO Q (if p then a else b) := by
  by_cases h : p
  · rw [if_pos h]; exact h1
  · rw [if_neg h]; exact h2
theorem ok_nw {Q : α → Prop} {a : β} {f : β → Option α} (h : OKO Q (f a)) : OKO Q (nw a f) := by rw [pu_nwN]; exact h
theorem ok_1 {Q : α → Prop} {P : β → Prop} {o : Option β} {f : β → Option α} (h : OKO P o) (hf : ∀ a, P a → OKO Q (f a)) : OKO Q (ob1 o f) := by
  cases o with
  | none => exact ok_none
  | some a => rw [pu_ob1N]; exact hf a (h a rfl)
theorem ok_1' {Q : α → Prop} {o : Option β} {f : β → Option α} (hf : ∀ a, OKO Q (f a)) : OKO Q (ob1 o f) := by
  cases o with
  | none => exact ok_none
  | some a => rw [pu_ob1N]; exact hf a
theorem ok_2 {Q : α → Prop} {P : β × γ → Prop} {o : Option (β × γ)} {f : β → γ → Option α} (h : OKO P o) (hf : ∀ a c, P (a, c) → OKO Q (f a c)) : OKO Q (ob2 o f) := by
  cases o with
  | none => exact ok_none
  | some a => obtain ⟨a, c⟩ := a; rw [pu_ob2N]; exact hf a c (h _ rfl)
theorem ok_3 {Q : α → Prop} {P : β × γ × δ → Prop} {o : Option (β × γ × δ)} {f : β → γ → δ → Option α} (h : OKO P o) (hf : ∀ a c d, P (a, c, d) → OKO Q (f a c d)) : OKO Q (ob3 o f) := by
  cases o with
  | none => exact ok_none
  | some a => obtain ⟨a, c, d⟩ := a; rw [pu_ob3N]; exact hf a c d (h _ rfl)
theorem ok_lp {body : (β → Option α) → β → Option α} {Q : α → Prop} (I : β → Prop) (h : ∀ k, (∀ x, I x → OKO Q (k x)) → ∀ x, I x → OKO Q (body k x)) : ∀ n x, I x → OKO Q (lp body n x) := by
  intro n
  induction n with
  | zero => intro x _; exact ok_none
  | succ n ih => intro x hx; exact h _ ih x hx
abbrev K1 (R : St) (o : Option St) : Prop := OKO (fun x => x.2 = R.2) o
abbrev K2 (R : St) (o : Option (β × St)) : Prop := OKO (fun x => x.2.2 = R.2) o
abbrev K3 (R : St) (o : Option (β × γ × St)) : Prop := OKO (fun x => x.2.2.2 = R.2) o
theorem K_F_X5_fail {R U : St} {x : Int32} (h : R.2 = U.2) : K1 U (F_X5_fail R x) := by
  unfold F_X5_fail
  exact ok_ite (ok_nw (ok_ite ok_none (ok_nw (ok_some h)))) (ok_some h)
theorem K_F_X5_next {R U : St} (h : R.2 = U.2) : K1 U (F_X5_next R) := by
  unfold F_X5_next
  exact ok_ite ok_none (ok_ite (ok_some h) (ok_nw (ok_some h)))
theorem K_F_X5_seePerson_43 {x2 : Int32} {s1 : Int32} {S0 : St} {S1 : St} {U : St} (h : S0.2 = U.2) : K2 U (F_X5_seePerson_43 x2 s1 S0 S1) := by
  unfold F_X5_seePerson_43
  exact (ok_1 (K_F_X5_fail h) (fun U2 hU2 => (ok_some hU2)))
theorem K_F_X5_seePerson_24 {s0 : Int32} {S0 : St} {S1 : St} {U : St} (h : S0.2 = U.2) : K2 U (F_X5_seePerson_24 s0 S0 S1) := by
  unfold F_X5_seePerson_24
  exact (ok_ite (ok_1' (fun r3 => (ok_ite (K_F_X5_seePerson_43 h) (K_F_X5_seePerson_43 h)))) (ok_some h))
theorem K_F_X5_seePerson {S0 : St} {S1 : St} {U : St} (h : S0.2 = U.2) : K2 U (F_X5_seePerson S0 S1) := by
  unfold F_X5_seePerson
  exact (ok_1' (fun r2 => (ok_ite (K_F_X5_seePerson_24 h) (ok_ite ok_none (ok_1' (fun r6 => (K_F_X5_seePerson_24 h)))))))
theorem K_F_X5_needWordFrom {S0 : St} {x1 : Int32} {x2 : Int32} {U : St} (h : S0.2 = U.2) : K2 U (F_X5_needWordFrom S0 x1 x2) := by
  unfold F_X5_needWordFrom
  exact (ok_1' (fun r2 => (ok_ite (ok_1 (K_F_X5_fail h) (fun U10 hU10 => (ok_some hU10))) (ok_ite ok_none (ok_nw (ok_1 (K_F_X5_next h) (fun U8 hU8 => (ok_some hU8))))))))
theorem K_F_X5_needTurret_43 {x2 : Int32} {s1 : Int32} {S0 : St} {S1 : St} {U : St} (h : S0.2 = U.2) : K2 U (F_X5_needTurret_43 x2 s1 S0 S1) := by
  unfold F_X5_needTurret_43
  exact (ok_1 (K_F_X5_fail h) (fun U2 hU2 => (ok_some hU2)))
theorem K_F_X5_needTurret_24 {s0 : Int32} {S0 : St} {S1 : St} {U : St} (h : S0.2 = U.2) : K2 U (F_X5_needTurret_24 s0 S0 S1) := by
  unfold F_X5_needTurret_24
  exact (ok_ite (ok_1' (fun r5 => (ok_ite (K_F_X5_needTurret_43 h) (K_F_X5_needTurret_43 h)))) (ok_1 (K_F_X5_next h) (fun U3 hU3 => (ok_some hU3))))
theorem K_F_X5_needTurret {S0 : St} {S1 : St} {U : St} (h : S0.2 = U.2) : K2 U (F_X5_needTurret S0 S1) := by
  unfold F_X5_needTurret
  exact (ok_1' (fun r2 => (ok_ite (K_F_X5_needTurret_24 h) (ok_ite ok_none (ok_1' (fun r6 => (K_F_X5_needTurret_24 h)))))))
theorem K_F_X5_needNumber_49 {S0 : St} {U : St} (h : S0.2 = U.2) : K2 U (F_X5_needNumber_49 S0) := by
  unfold F_X5_needNumber_49
  exact (ok_1 (K_F_X5_fail h) (fun U2 hU2 => (ok_some hU2)))
theorem K_F_X5_needNumber_21 {S0 : St} {U : St} (h : S0.2 = U.2) : K2 U (F_X5_needNumber_21 S0) := by
  unfold F_X5_needNumber_21
  exact (ok_1 (K_F_X5_fail h) (fun U2 hU2 => (ok_some hU2)))
theorem K_F_X5_needNumber {S0 : St} {x1 : Int32} {x2 : Int32} {U : St} (h : S0.2 = U.2) : K2 U (F_X5_needNumber S0 x1 x2) := by
  unfold F_X5_needNumber
  exact (ok_ite (ok_ite ok_none (ok_ite (ok_ite ok_none (ok_nw (ok_ite (K_F_X5_needNumber_49 h) (ok_ite (ok_1 (K_F_X5_next h) (fun U10 hU10 => (ok_some hU10))) (K_F_X5_needNumber_49 h))))) (K_F_X5_needNumber_21 h))) (K_F_X5_needNumber_21 h))
theorem K_F_X5_needPerson {S0 : St} {S1 : St} {U : St} (h : S0.2 = U.2) : K2 U (F_X5_needPerson S0 S1) := by
  unfold F_X5_needPerson
  exact (ok_2 (K_F_X5_seePerson h) (fun r2 U3 hU3 => (ok_ite (ok_some hU3) (ok_1 (K_F_X5_next hU3) (fun U6 hU6 => (ok_some hU6))))))
theorem K_F_X5_takeMark {S0 : St} {x1 : Int32} {U : St} (h : S0.2 = U.2) : K2 U (F_X5_takeMark S0 x1) := by
  unfold F_X5_takeMark
  exact (ok_1' (fun r2 => (ok_ite (ok_ite ok_none (ok_some h)) (ok_1 (K_F_X5_next h) (fun U6 hU6 => (ok_ite ok_none (ok_some hU6)))))))
theorem K_F_X5_needMark {S0 : St} {x1 : Int32} {U : St} (h : S0.2 = U.2) : K1 U (F_X5_needMark S0 x1) := by
  unfold F_X5_needMark
  exact (ok_2 (K_F_X5_takeMark h) (fun r2 U3 hU3 => (ok_ite (ok_1 (K_F_X5_fail hU3) (fun U6 hU6 => (ok_some hU6))) (ok_some hU3))))
theorem K_F_X5_closes_26 {S0 : St} {U : St} (h : S0.2 = U.2) : K2 U (F_X5_closes_26 S0) := by
  unfold F_X5_closes_26
  exact (ok_ite (ok_some h) (ok_some h))
theorem K_F_X5_closes_21 {S0 : St} {U : St} (h : S0.2 = U.2) : K2 U (F_X5_closes_21 S0) := by
  unfold F_X5_closes_21
  exact (ok_1 (K_F_X5_fail h) (fun U2 hU2 => (K_F_X5_closes_26 hU2)))
theorem K_F_X5_closes {S0 : St} {U : St} (h : S0.2 = U.2) : K2 U (F_X5_closes S0) := by
  unfold F_X5_closes
  exact (ok_ite ok_none (ok_ite (ok_ite (K_F_X5_closes_26 h) (K_F_X5_closes_21 h)) (K_F_X5_closes_21 h)))
theorem K_F_X5_takeWord {S0 : St} {x1 : Int32} {U : St} (h : S0.2 = U.2) : K2 U (F_X5_takeWord S0 x1) := by
  unfold F_X5_takeWord
  exact (ok_1' (fun r2 => (ok_ite (ok_ite ok_none (ok_some h)) (ok_1 (K_F_X5_next h) (fun U6 hU6 => (ok_ite ok_none (ok_some hU6)))))))
theorem K_F_X5_needSign_38 {x1 : Int32} {S0 : St} {U : St} (h : S0.2 = U.2) : K2 U (F_X5_needSign_38 x1 S0) := by
  unfold F_X5_needSign_38
  exact (ok_1 (K_F_X5_next h) (fun U2 hU2 => (ok_some hU2)))
theorem K_F_X5_needSign {S0 : St} {U : St} (h : S0.2 = U.2) : K2 U (F_X5_needSign S0) := by
  unfold F_X5_needSign
  exact (ok_ite ok_none (ok_nw (ok_1' (fun r5 => (ok_ite (ok_1' (fun r8 => (ok_ite (ok_1' (fun r11 => (ok_ite (ok_1 (K_F_X5_fail h) (fun U14 hU14 => (ok_some hU14))) (K_F_X5_needSign_38 h)))) (K_F_X5_needSign_38 h)))) (K_F_X5_needSign_38 h))))))
theorem K_F_X5_needNewName_43 {x2 : Int64} {S0 : St} {S1 : St} {U : St} (h : S0.2 = U.2) : K2 U (F_X5_needNewName_43 x2 S0 S1) := by
  unfold F_X5_needNewName_43
  exact (ok_1 (K_F_X5_fail h) (fun U2 hU2 => (ok_some hU2)))
theorem K_F_X5_needNewName {S0 : St} {S1 : St} {U : St} (h : S0.2 = U.2) : K2 U (F_X5_needNewName S0 S1) := by
  unfold F_X5_needNewName
  exact (ok_ite ok_none (ok_1' (fun r3 => (ok_ite (ok_1 (K_F_X5_fail h) (fun U14 hU14 => (ok_some hU14))) (ok_1' (fun r6 => (ok_ite (ok_1' (fun r9 => (ok_ite (ok_1 (K_F_X5_next h) (fun U12 hU12 => (ok_some hU12))) (K_F_X5_needNewName_43 h)))) (K_F_X5_needNewName_43 h))))))))
theorem K_F_X5_needNewView_55 {S0 : St} {U : St} (h : S0.2 = U.2) : K2 U (F_X5_needNewView_55 S0) := by
  unfold F_X5_needNewView_55
  exact (ok_2 (K_F_X5_needWordFrom h) (fun r2 U3 hU3 => (ok_some hU3)))
theorem K_F_X5_needNewView_27 {x1 : Int32} {s0 : Int32} {S0 : St} {U : St} (h : S0.2 = U.2) : K2 U (F_X5_needNewView_27 x1 s0 S0) := by
  unfold F_X5_needNewView_27
  exact (ok_ite (K_F_X5_needNewView_55 h) (ok_1' (fun r3 => (ok_ite (K_F_X5_needNewView_55 h) (ok_1 (K_F_X5_fail h) (fun U6 hU6 => (ok_some hU6)))))))
theorem K_F_X5_needNewView {S0 : St} {x1 : Int32} {U : St} (h : S0.2 = U.2) : K2 U (F_X5_needNewView S0 x1) := by
  unfold F_X5_needNewView
  exact (ok_1' (fun r2 => (ok_ite (K_F_X5_needNewView_27 h) (ok_ite ok_none (K_F_X5_needNewView_27 h)))))
theorem K_F_X0_readPlain_43 {x3 : Int32} {s0 : Int32} {S0 : St} {S1 : St} {S2 : St} {U : St} (h : S1.2 = U.2) : K2 U (F_X0_readPlain_43 x3 s0 S0 S1 S2) := by
  unfold F_X0_readPlain_43
  exact (ok_ite (ok_2 (K_F_X5_needNumber h) (fun r3 U4 hU4 => (ok_ite ok_none (ok_nw (ok_some hU4))))) (ok_2 (K_F_X5_needTurret h) (fun r9 U10 hU10 => (ok_ite ok_none (ok_nw (ok_some hU10))))))
theorem K_F_X0_readPlain_38 {x3 : Int32} {S0 : St} {S1 : St} {S2 : St} {U : St} (h : S1.2 = U.2) : K2 U (F_X0_readPlain_38 x3 S0 S1 S2) := by
  unfold F_X0_readPlain_38
  exact (K_F_X0_readPlain_43 h)
theorem K_F_X0_readPlain {S0 : St} {S1 : St} {S2 : St} {x3 : Int32} {U : St} (h : S1.2 = U.2) : K2 U (F_X0_readPlain S0 S1 S2 x3) := by
  unfold F_X0_readPlain
  exact (ok_2 (K_F_X5_needWordFrom h) (fun r2 U3 hU3 => (ok_ite ok_none (ok_nw (ok_ite ok_none (ok_ite (K_F_X0_readPlain_38 hU3) (ok_ite ok_none (ok_ite (K_F_X0_readPlain_38 hU3) (K_F_X0_readPlain_43 hU3)))))))))
theorem K_F_X0_readOfPerson {S0 : St} {S1 : St} {S2 : St} {x3 : Int32} {U : St} (h : S1.2 = U.2) : K2 U (F_X0_readOfPerson S0 S1 S2 x3) := by
  unfold F_X0_readOfPerson
  exact (ok_2 (K_F_X5_needWordFrom h) (fun r2 U3 hU3 => (ok_ite ok_none (ok_nw (ok_ite ok_none (ok_ite (ok_2 (K_F_X5_needTurret hU3) (fun r24 U25 hU25 => (ok_ite ok_none (ok_nw (ok_some hU25))))) (ok_ite ok_none (ok_ite (ok_2 (K_F_X5_needPerson hU3) (fun r12 U13 hU13 => (ok_ite ok_none (ok_nw (ok_2 (K_F_X5_needWordFrom hU13) (fun r18 U19 hU19 => (ok_ite ok_none (ok_nw (ok_some hU19))))))))) (ok_some hU3)))))))))
theorem K_F_X0_readLine_91 {S0 : St} {S1 : St} {S2 : St} {U : St} (h : S1.2 = U.2) : K2 U (F_X0_readLine_91 S0 S1 S2) := by
  unfold F_X0_readLine_91
  exact (ok_nw (ok_some h))
theorem K_F_X0_readLine_41 {x3 : Int32} {S0 : St} {S1 : St} {S2 : St} {U : St} (h : S1.2 = U.2) : K2 U (F_X0_readLine_41 x3 S0 S1 S2) := by
  unfold F_X0_readLine_41
  exact (ok_ite (ok_ite (ok_2 (K_F_X0_readPlain h) (fun U12 U13 hU13 => (K_F_X0_readLine_91 hU13))) (ok_1 (K_F_X5_next h) (fun U4 hU4 => (ok_2 (K_F_X0_readOfPerson hU4) (fun U6 U7 hU7 => (ok_ite ok_none (ok_nw (K_F_X0_readLine_91 hU7)))))))) (ok_some h))
theorem K_F_X0_readLine_19 {s0 : Int32} {S0 : St} {S1 : St} {S2 : St} {U : St} (h : S1.2 = U.2) : K2 U (F_X0_readLine_19 s0 S0 S1 S2) := by
  unfold F_X0_readLine_19
  exact (ok_ite (ok_ite (K_F_X0_readLine_41 h) (ok_1 (K_F_X5_fail h) (fun U4 hU4 => (K_F_X0_readLine_41 hU4)))) (K_F_X0_readLine_41 h))
theorem K_F_X0_readLine {S0 : St} {S1 : St} {S2 : St} {U : St} (h : S1.2 = U.2) : K2 U (F_X0_readLine S0 S1 S2) := by
  unfold F_X0_readLine
  exact (ok_1' (fun r2 => (ok_ite (ok_2 (K_F_X5_seePerson h) (fun r5 U6 hU6 => (K_F_X0_readLine_19 hU6))) (K_F_X0_readLine_19 h))))
theorem K_F_X0_readFrom_46 {S0 : St} {S1 : St} {S2 : St} {S3 : St} {U : St} (h : S1.2 = U.2) : K3 U (F_X0_readFrom_46 S0 S1 S2 S3) := by
  unfold F_X0_readFrom_46
  exact (ok_2 (K_F_X5_closes h) (fun r2 U3 hU3 => (ok_ite ok_none (ok_some hU3))))
theorem K_F_X8_readTurret_91 {S0 : St} {S1 : St} {U : St} (h : S1.2 = U.2) : K2 U (F_X8_readTurret_91 S0 S1) := by
  unfold F_X8_readTurret_91
  exact (ok_nw (ok_some h))
theorem K_F_X8_readTurret {S0 : St} {S1 : St} {U : St} (h : S1.2 = U.2) : K2 U (F_X8_readTurret S0 S1) := by
  unfold F_X8_readTurret
  exact (ok_ite (ok_1 (K_F_X5_next h) (fun U3 hU3 => (ok_2 (K_F_X5_needNewName hU3) (fun r5 U6 hU6 => (ok_ite ok_none (ok_nw (ok_2 (K_F_X5_needWordFrom hU6) (fun r11 U12 hU12 => (ok_ite ok_none (ok_nw (ok_2 (K_F_X5_needWordFrom hU12) (fun r17 U18 hU18 => (ok_ite ok_none (ok_nw (ok_2 (K_F_X5_needNumber hU18) (fun r23 U24 hU24 => (ok_ite ok_none (ok_nw (ok_2 (K_F_X5_takeWord hU24) (fun r29 U30 hU30 => (ok_ite (K_F_X8_readTurret_91 hU30) (ok_nw (K_F_X8_readTurret_91 hU30))))))))))))))))))))))) (ok_1 (K_F_X5_fail h) (fun U35 hU35 => (ok_some hU35))))
theorem K_F_X8_readPerson {S0 : St} {S1 : St} {U : St} (h : S1.2 = U.2) : K2 U (F_X8_readPerson S0 S1) := by
  unfold F_X8_readPerson
  exact (ok_ite (ok_1 (K_F_X5_next h) (fun U3 hU3 => (ok_2 (K_F_X5_needNewName hU3) (fun r5 U6 hU6 => (ok_ite ok_none (ok_nw (ok_2 (K_F_X5_needNumber hU6) (fun r11 U12 hU12 => (ok_ite ok_none (ok_nw (ok_ite ok_none (ok_nw (ok_ite ok_none (ok_nw (ok_ite ok_none (ok_nw (ok_ite ok_none (ok_nw (ok_nw (ok_some hU12)))))))))))))))))))) (ok_1 (K_F_X5_fail h) (fun U31 hU31 => (ok_some hU31))))
theorem K_F_X8_readView_have_19 {x3 : Int32} {s1 : Int32} {S0 : St} {S1 : St} {U : St} (h : S1.2 = U.2) : K2 U (F_X8_readView_have_19 x3 s1 S0 S1) := by
  unfold F_X8_readView_have_19
  exact (ok_2 (K_F_X5_needNewView h) (fun r2 U3 hU3 => (ok_ite (ok_some hU3) (ok_ite (ok_some hU3) (ok_ite ok_none (ok_ite ok_none (ok_nw (ok_some hU3))))))))
theorem K_F_X8_readView_have {S0 : St} {S1 : St} {U : St} (h : S1.2 = U.2) : K2 U (F_X8_readView_have S0 S1) := by
  unfold F_X8_readView_have
  exact (ok_2 (K_F_X5_needPerson h) (fun r2 U3 hU3 => (ok_ite (K_F_X8_readView_have_19 hU3) (ok_ite ok_none (K_F_X8_readView_have_19 hU3)))))
theorem K_F_X8_readView_wanted_19 {x3 : Int32} {s1 : Int32} {S0 : St} {S1 : St} {U : St} (h : S1.2 = U.2) : K2 U (F_X8_readView_wanted_19 x3 s1 S0 S1) := by
  unfold F_X8_readView_wanted_19
  exact (ok_2 (K_F_X5_needNewView h) (fun r2 U3 hU3 => (ok_ite (ok_some hU3) (ok_ite (ok_some hU3) (ok_ite ok_none (ok_ite ok_none (ok_nw (ok_some hU3))))))))
theorem K_F_X8_readView_wanted {S0 : St} {S1 : St} {U : St} (h : S1.2 = U.2) : K2 U (F_X8_readView_wanted S0 S1) := by
  unfold F_X8_readView_wanted
  exact (ok_2 (K_F_X5_needPerson h) (fun r2 U3 hU3 => (ok_ite (K_F_X8_readView_wanted_19 hU3) (ok_ite ok_none (K_F_X8_readView_wanted_19 hU3)))))
theorem K_F_X8_readLine {S0 : St} {S1 : St} {U : St} (h : S1.2 = U.2) : K2 U (F_X8_readLine S0 S1) := by
  unfold F_X8_readLine
  exact (ok_1' (fun r2 => (ok_ite (ok_1' (fun r5 => (ok_ite (ok_2 (K_F_X5_takeWord h) (fun r8 U9 hU9 => (ok_ite (ok_2 (K_F_X5_takeWord hU9) (fun r12 U13 hU13 => (ok_ite (ok_1 (K_F_X5_fail hU13) (fun U16 hU16 => (ok_some hU16))) (ok_2 (K_F_X8_readView_wanted hU13) (fun U18 U19 hU19 => (ok_some hU19)))))) (ok_2 (K_F_X8_readView_have hU9) (fun U21 U22 hU22 => (ok_some hU22)))))) (ok_2 (K_F_X8_readPerson h) (fun U24 U25 hU25 => (ok_some hU25)))))) (ok_2 (K_F_X8_readTurret h) (fun U27 U28 hU28 => (ok_some hU28))))))
theorem K_F_X8_readFrom_65 {x2 : Int32} {S0 : St} {S1 : St} {S2 : St} {U : St} (h : S1.2 = U.2) : K3 U (F_X8_readFrom_65 x2 S0 S1 S2) := by
  unfold F_X8_readFrom_65
  exact (ok_2 (K_F_X5_closes h) (fun r2 U3 hU3 => (ok_ite (ok_some hU3) (ok_some hU3))))
theorem K_F_X7_readPlain_75 {x3 : Int32} {x4 : Int32} {x5 : Int32} {S0 : St} {S1 : St} {S2 : St} {U : St} (h : S1.2 = U.2) : K2 U (F_X7_readPlain_75 x3 x4 x5 S0 S1 S2) := by
  unfold F_X7_readPlain_75
  exact (ok_1' (fun U2 => (ok_some h)))
theorem K_F_X7_readPlain {S0 : St} {S1 : St} {S2 : St} {U : St} (h : S1.2 = U.2) : K2 U (F_X7_readPlain S0 S1 S2) := by
  unfold F_X7_readPlain
  exact (ok_2 (K_F_X5_needWordFrom h) (fun r2 U3 hU3 => (ok_ite (ok_2 (K_F_X5_needWordFrom hU3) (fun r17 U18 hU18 => (K_F_X7_readPlain_75 hU18))) (ok_ite (ok_2 (K_F_X5_needTurret hU3) (fun r14 U15 hU15 => (K_F_X7_readPlain_75 hU15))) (ok_ite (K_F_X7_readPlain_75 hU3) (ok_2 (K_F_X5_needSign hU3) (fun r8 U9 hU9 => (ok_2 (K_F_X5_needNumber hU9) (fun r11 U12 hU12 => (K_F_X7_readPlain_75 hU12))))))))))
theorem K_8lines {x : Int32} {S R P U : St} (n : Nat) (h : R.2 = U.2) : K3 U (lp (fun kz (z : Int32 × St × St × St) => F_X8_readFrom_34 kz z.1 z.2.1 z.2.2.1 z.2.2.2) n (x, S, R, P)) :=
  ok_lp (fun z => z.2.2.1.2 = U.2) (fun k hk z hz => by
    unfold F_X8_readFrom_34
    exact ok_ite (K_F_X8_readFrom_65 hz) (ok_1' (fun r3 => ok_ite (K_F_X8_readFrom_65 hz) (ok_2 (K_F_X8_readLine hz) (fun U6 U7 hU7 => ok_1 (K_F_X5_needMark hU7) (fun U9 hU9 => hk _ hU9)))))) n _ h
theorem K_0lines {x : Int32} {S R P T U : St} (n : Nat) (h : R.2 = U.2) : K3 U (lp (fun kz (z : Int32 × St × St × St × St) => F_X0_readFrom_14 kz z.1 z.2.1 z.2.2.1 z.2.2.2.1 z.2.2.2.2) n (x, S, R, P, T)) :=
  ok_lp (fun z => z.2.2.1.2 = U.2) (fun k hk z hz => by
    unfold F_X0_readFrom_14
    exact ok_ite (K_F_X0_readFrom_46 hz) (ok_1' (fun r3 => ok_ite (K_F_X0_readFrom_46 hz) (ok_2 (K_F_X0_readLine hz) (fun U6 U7 hU7 => ok_1 (K_F_X5_needMark hU7) (fun U9 hU9 => hk _ hU9)))))) n _ h
end P32
