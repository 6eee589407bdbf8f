/-! person: both sides -/
def F_X11_person (B : St) (x1 x2 : Int32) : Option (Option Int32) := ob1 (F_X8_hasPerson B x1) fun r2 => if r2 = 0 then some none else (if x2 = (0 : Int32) then (if oob x1 6 then none else some (some (B.2.2.1 9 x1.toNatClampNeg))) else if x2 = (1 : Int32) then (if oob x1 6 then none else some (some (B.2.2.1 10 x1.toNatClampNeg))) else if x2 = (2 : Int32) then (if oob x1 6 then none else some (some (B.2.2.1 11 x1.toNatClampNeg))) else if x2 = (3 : Int32) then (if oob x1 6 then none else some (some (B.2.2.1 12 x1.toNatClampNeg))) else if x2 = (4 : Int32) then (if oob x1 6 then none else some (some (B.2.2.1 13 x1.toNatClampNeg))) else if x2 = (5 : Int32) then (ob1 (F_X8_climbable B x1) fun r14 => some (some r14)) else if x2 = (6 : Int32) then (ob1 (F_X8_friendsOf B x1) fun r17 => some (some r17)) else some none)
section P63
variable {M B T : St} {V : Vt}
theorem p_person (hS : RS B V) (hM : RM M V) (hw : WF V) (x y : Int32) : (∃ r, F_X11_person B x y = some (some r) ∧ F_X12_person M x y = some (r, sI M 0 (nI 0))) ∨ (∃ r, F_X11_person B x y = some none ∧ F_X12_person M x y = some (r, sI M 0 (nI 1))) := by
  have hM0 := RM_sI hM 0 (nI 0)
  have hS' := hS
  have hw' := hw
  obtain ⟨e0, e7, e5, e6, e14, f2, f3, f4, f9, f10, f11, f12, f13⟩ := hS
  obtain ⟨w0, w1, w23, w44, w42, w2, w45, w52, w59, wop, w36, w24, w65, wsm⟩ := hw
  have ht0 : F_X12_throwsIf M 0 = some (nI 0, sI M 0 (nI 0)) := by
    unfold F_X12_throwsIf
    rw [if_pos rfl, pu_nwN, if_neg (show ¬ nb (0 : Int32) from nb0)]
    rfl
  have ht1 : F_X12_throwsIf M 1 = some (nI 1, sI M 0 (nI 1)) := by
    unfold F_X12_throwsIf
    rw [if_neg (show ¬ (1 : Int32) = 0 from one_ne), pu_nwN, if_neg (show ¬ nb (1 : Int32) from nb1)]
    rfl
  have h19 : F_X12_person_19 x y M = some (nI 0, sI M 0 (nI 1)) := by
    unfold F_X12_person_19 F_X12_person_24
    rw [ht1, pu_ob2N, if_neg one_ne]
    rfl
  rcases two_P hS' hM hw' x with ⟨p, hp, rfl, e1, e2⟩ | ⟨e1, e2⟩
  · have o6 := no_oob (i := p) (n := 6) (by omega) (by omega)
    have hcp : (nI p).toNatClampNeg = p := pu_clamp (by omega)
    have hc : ∀ z : Nat, z ≤ 6 → y = nI z → F_X12_person M (nI p) y = F_X12_person_24 (nI p) y 0 M := fun z hz e => by
      have hi : F_X12_isIn y 0 6 = some (nI 1) := by rw [e]; exact in_ok (a := 0) (b := 6) (by omega) hz (by omega)
      unfold F_X12_person
      rw [e2, pu_ob1N, if_neg one_ne, hi, pu_ob1N, if_neg one_ne]
    have hcc : F_X11_person B (nI p) y = (if y = (0 : Int32) then (some (some (B.2.2.1 9 p))) else if y = (1 : Int32) then (some (some (B.2.2.1 10 p))) else if y = (2 : Int32) then (some (some (B.2.2.1 11 p))) else if y = (3 : Int32) then (some (some (B.2.2.1 12 p))) else if y = (4 : Int32) then (some (some (B.2.2.1 13 p))) else if y = (5 : Int32) then (some (some (nI (canV V p)))) else if y = (6 : Int32) then (some (some (nI (frV V p)))) else some none) := by
      unfold F_X11_person
      rw [e1, pu_ob1N, if_neg one_ne, if_neg o6, if_neg o6, if_neg o6, if_neg o6, if_neg o6, hcp, x8_can hS' hw' hp, pu_ob1N, x8_fr hS' hw' hp, pu_ob1N]
    have hmm : F_X12_person_24 (nI p) y 0 M = (if y = (0 : Int32) then (some (nI (V (59 + p)), sI M 0 (nI 0))) else if y = (1 : Int32) then (some (nI (V (36 + p)), sI M 0 (nI 0))) else if y = (2 : Int32) then (some (nI (V (24 + p)), sI M 0 (nI 0))) else if y = (3 : Int32) then (some (nI (V (65 + p)) - nI 1, sI M 0 (nI 0))) else if y = (4 : Int32) then (some (nI (V (71 + p)), sI M 0 (nI 0))) else if y = (5 : Int32) then (some (nI (canV V p), sI M 0 (nI 0))) else (some (nI (frV V p), sI M 0 (nI 0)))) := by
      unfold F_X12_person_24
      have q1 : (59 : Int32) + nI p = nI (59 + p) := nI_add 59 p
      have q2 : (36 : Int32) + nI p = nI (36 + p) := nI_add 36 p
      have q3 : (24 : Int32) + nI p = nI (24 + p) := nI_add 24 p
      have q4 : (65 : Int32) + nI p = nI (65 + p) := nI_add 65 p
      have q5 : (71 : Int32) + nI p = nI (71 + p) := nI_add 71 p
      have oo : ∀ z, z < 77 → ¬ oob (nI z) 258 := fun z hz => no_oob (by omega) (by omega)
      have cc : ∀ z, z < 77 → (nI z).toNatClampNeg = z := fun z hz => pu_clamp (by omega)
      rw [ht0, pu_ob2N, if_pos zero_eq, q1, q2, q3, q4, q5, if_neg (oo (59 + p) (by omega)), if_neg (oo (36 + p) (by omega)), if_neg (oo (24 + p) (by omega)), if_neg (oo (65 + p) (by omega)), if_neg (oo (71 + p) (by omega)), cc (59 + p) (by omega), cc (36 + p) (by omega), cc (24 + p) (by omega), cc (65 + p) (by omega), cc (71 + p) (by omega), hM0 (59 + p) (by omega), hM0 (36 + p) (by omega), hM0 (24 + p) (by omega), hM0 (65 + p) (by omega), hM0 (71 + p) (by omega), x12_can hM0 hw' hp, pu_ob1N, x12_fr hM0 hw' hp, pu_ob1N]
      rfl
    rw [hcc]
    rcases sw7 y with rfl | rfl | rfl | rfl | rfl | rfl | rfl | ⟨y0, y1, y2, y3, y4, y5, y6⟩
    · left; exact ⟨_, rfl, by rw [hc 0 (by omega) rfl, hmm, f9 p hp]; rfl⟩
    · left; exact ⟨_, rfl, by rw [hc 1 (by omega) rfl, hmm, f10 p hp]; rfl⟩
    · left; exact ⟨_, rfl, by rw [hc 2 (by omega) rfl, hmm, f11 p hp]; rfl⟩
    · left; exact ⟨_, rfl, by rw [hc 3 (by omega) rfl, hmm, f12 p hp]; rfl⟩
    · left; exact ⟨_, rfl, by rw [hc 4 (by omega) rfl, hmm, f13 p hp]; rfl⟩
    · left; exact ⟨_, rfl, by rw [hc 5 (by omega) rfl, hmm]; rfl⟩
    · left; exact ⟨_, rfl, by rw [hc 6 (by omega) rfl, hmm]; rfl⟩
    · right
      refine ⟨nI 0, ?_, ?_⟩
      · rw [if_neg (show ¬ y = (0 : Int32) from y0), if_neg (show ¬ y = (1 : Int32) from y1), if_neg (show ¬ y = (2 : Int32) from y2), if_neg (show ¬ y = (3 : Int32) from y3), if_neg (show ¬ y = (4 : Int32) from y4), if_neg (show ¬ y = (5 : Int32) from y5), if_neg (show ¬ y = (6 : Int32) from y6)]
      · have hi : F_X12_isIn y 0 6 = some (nI 0) := by
          rcases two_in y 0 6 (by omega) (by omega) with ⟨v, -, hv, e⟩ | ⟨-, e⟩ | ⟨-, -, -, e⟩
          · exfalso
            rcases (show v = 0 ∨ v = 1 ∨ v = 2 ∨ v = 3 ∨ v = 4 ∨ v = 5 ∨ v = 6 by omega) with rfl | rfl | rfl | rfl | rfl | rfl | rfl
            · exact y0 e
            · exact y1 e
            · exact y2 e
            · exact y3 e
            · exact y4 e
            · exact y5 e
            · exact y6 e
          · exact e
          · exact e
        unfold F_X12_person
        rw [e2, pu_ob1N, if_neg one_ne, hi, pu_ob1N, if_pos zero_eq, h19]
  · right
    refine ⟨nI 0, ?_, ?_⟩
    · unfold F_X11_person
      rw [e1, pu_ob1N, if_pos zero_eq]
    · unfold F_X12_person
      rw [e2, pu_ob1N, if_pos zero_eq, h19]
end P63
