/-! all that is kept between the class and the model -/
section P64
variable {M M' T B P N H W Q E L R I IN IB S : St} {K : KSt} {V : Vt} {ni na nl : List Nat}
theorem RM_fr (h : RM M V) (hf : FR ni na nl M M') (h6 : 6 ∉ na) : RM M' V := fun k hk => by rw [hf.2.1 6 h6]; exact h k hk
theorem CR_fr (h : CR N (M.2.2.1 6)) (hf : FR ni na nl M M') (h6 : 6 ∉ na) : CR N (M'.2.2.1 6) := by rw [hf.2.1 6 h6]; exact h
theorem RT_fr (h : RT P M) (hf : FR ni na nl M M') (h2 : 2 ∉ ni) (h1 : 1 ∉ na) : RT P M' := by
  obtain ⟨n, a1, a2, a3, a4⟩ := h
  exact ⟨n, a1, a2, by rw [hf.1 2 h2, a3], fun i hi => by rw [hf.2.1 1 h1]; exact a4 i hi⟩
theorem RC_fr (h : RC T M) (hf : FR ni na nl M M') (h1 : 28 ∉ ni) (h2 : 29 ∉ ni) {T' : St} (e : T'.1 16 = T.1 16) : RC T' M' := by
  unfold RC
  rw [hf.1 28 h1, hf.1 29 h2, e]
  exact h
theorem RTo_fr2 (h : RTo T M) (hf : FR ni na nl M M') (h1 : 40 ∉ ni) (h2 : 39 ∉ na) {T' : St} (e : T'.2.2.1 14 = T.2.2.1 14) : RTo T' M' := RTo_fr h (hf.1 40 h1) (hf.2.1 39 h2) e
theorem RSo_fr (h : RSo W M) (hf : FR ni na nl M M') (h1 : 25 ∉ ni) (h2 : 24 ∉ na) {W' : St} (e1 : W'.1 4 = W.1 4) (e2 : W'.2.2.1 3 = W.2.2.1 3) : RSo W' M' := by
  obtain ⟨n, a1, a2, a3, a4⟩ := h
  exact ⟨n, a1, by rw [e1, a2], by rw [hf.1 25 h1]; exact a3, fun i hi => by rw [e2, hf.2.1 24 h2]; exact a4 i hi⟩
theorem RMd_fr (h : RMd W M) (hf : FR ni na nl M M') (h1 : 27 ∉ ni) (h2 : 26 ∉ na) {W' : St} (e1 : W'.1 7 = W.1 7) (e2 : W'.2.2.1 6 = W.2.2.1 6) : RMd W' M' := by
  obtain ⟨n, a1, a2, a3, a4⟩ := h
  exact ⟨n, a1, by rw [e1, a2], by rw [hf.1 27 h1]; exact a3, fun i hi => by rw [e2, hf.2.1 26 h2]; exact a4 i hi⟩
theorem RPa_fr (h : RPa Q M) (hf : FR ni na nl M M') (h1 : 32 ∉ ni) (h2 : 31 ∉ na) : RPa Q M' := by
  obtain ⟨n, a1, a2, a3, a4⟩ := h
  exact ⟨n, a1, by rw [hf.1 32 h1]; exact a2, fun i hi => by rw [hf.2.1 31 h2]; exact a3 i hi, a4⟩
theorem RTe_fr (h : RTe E M) (hf : FR ni na nl M M') (h1 : 34 ∉ ni) (h2 : 33 ∉ na) : RTe E M' := by
  obtain ⟨n, a1, a2, a3, a4⟩ := h
  exact ⟨n, a1, a2, by rw [hf.1 34 h1]; exact a3, fun i hi => by rw [hf.2.1 33 h2]; exact a4 i hi⟩
theorem RLt_fr (h : RLt L M) (hf : FR ni na nl M M') (h1 : 36 ∉ ni) (h2 : 35 ∉ na) : RLt L M' := by
  obtain ⟨bs, a1, a2, a3⟩ := h
  refine ⟨bs, a1, a2, ?_⟩
  unfold TXm at a3 ⊢
  rw [hf.1 36 h1, hf.2.1 35 h2]
  exact a3
theorem RI_fr {k : Nat} (h : RI I IN IB M k) (hf : FR ni na nl M M') (h1 : 50 ∉ na) (h2 : 48 ∉ na) (h3 : 49 ∉ nl) : RI I IN IB M' k := by
  unfold RI
  rw [hf.2.1 50 h1, hf.2.1 48 h2, hf.2.2 49 h3]
  exact h
end P64
def RL1 (B N H : St) (K : KSt) (M : St) (V : Vt) : Prop := RS B V ∧ RM M V ∧ WF V ∧ RNm B M V ∧ CR N (M.2.2.1 6) ∧ HR B H K M V
def REL (T R P B N H : St) (K : KSt) (I0 IB0 IN0 I1 IB1 IN1 W Q E L M : St) (V : Vt) : Prop := RL1 B N H K M V ∧ RT P M ∧ T.1 15 = M.1 15 ∧ RC T M ∧ RTo T M ∧ RSo W M ∧ RMd W M ∧ RPa Q M ∧ RTe E M ∧ RLt L M ∧ RW R ∧ MW M ∧ RI I0 IN0 IB0 M 0 ∧ RI I1 IN1 IB1 M 1
section P64b
variable {T R P B N H I0 IB0 IN0 I1 IB1 IN1 W Q E L M : St} {K : KSt} {V : Vt} {T' R' P' B' N' H' I0' IB0' IN0' I1' IB1' IN1' W' Q' E' L' M' : St} {K' : KSt} {V' : Vt} {ni na nl : List Nat}
theorem RL1_fr (h : RL1 B N H K M V) (hf : FR ni na nl M M') (h6 : 6 ∉ na) (h9 : 9 ∉ nl) (h22 : 22 ∉ ni) (h20 : 20 ∉ na) : RL1 B N H K M' V := by
  obtain ⟨a1, a2, a3, a4, a5, a6⟩ := h
  exact ⟨a1, RM_fr a2 hf h6, a3, RNm_fr a4 (hf.2.2 9 h9), CR_fr a5 hf h6, a6.fr hf h22 h20⟩
theorem rel_0 (h : REL T R P B N H K I0 IB0 IN0 I1 IB1 IN1 W Q E L M V) (v : Int32) : REL T R P B N H K I0 IB0 IN0 I1 IB1 IN1 W Q E L (sI M 0 v) V := by
  obtain ⟨b1, b2, b3, b4, b5, b6, b7, b8, b9, b10, b11, b12, b13, b14⟩ := h
  have hf : FR [0] [] [] M (sI M 0 v) := FR.sI (by decide)
  exact ⟨RL1_fr b1 hf (by decide) (by decide) (by decide) (by decide), RT_fr b2 hf (by decide) (by decide), b3, RC_fr b4 hf (by decide) (by decide) rfl, RTo_fr2 b5 hf (by decide) (by decide) rfl, RSo_fr b6 hf (by decide) (by decide) rfl rfl, RMd_fr b7 hf (by decide) (by decide) rfl rfl, RPa_fr b8 hf (by decide) (by decide), RTe_fr b9 hf (by decide) (by decide), RLt_fr b10 hf (by decide) (by decide), b11, MW_fr b12 hf (by decide), RI_fr b13 hf (by decide) (by decide) (by decide), RI_fr b14 hf (by decide) (by decide) (by decide)⟩
/-- an act: the suburb, its history -/
theorem rel_act (h : REL T R P B N H K I0 IB0 IN0 I1 IB1 IN1 W Q E L M V) (ha : ACT B M V B' H' K' M' V') : REL T R P B' N H' K' I0 IB0 IN0 I1 IB1 IN1 W Q E L M' V' := by
  obtain ⟨⟨a1, a2, a3, a4, a5, a6⟩, b2, b3, b4, b5, b6, b7, b8, b9, b10, b11, b12, b13, b14⟩ := h
  obtain ⟨c1, c2, c3, c4, c5, c6, hf, c8⟩ := ha
  have e0 : V' 0 = V 0 := c6 0 (by omega)
  have e1 : V' 1 = V 1 := c6 1 (by omega)
  refine ⟨⟨c1, c2, c3, ⟨fun t ht => ?_, fun p hp => ?_⟩, CR_cong a5 (fun j hj _ => c8 j hj), c4⟩, RT_fr b2 hf (by decide) (by decide), by rw [hf.1 15 (by decide)]; exact b3, RC_fr b4 hf (by decide) (by decide) rfl, RTo_fr2 b5 hf (by decide) (by decide) rfl, RSo_fr b6 hf (by decide) (by decide) rfl rfl, RMd_fr b7 hf (by decide) (by decide) rfl rfl, RPa_fr b8 hf (by decide) (by decide), RTe_fr b9 hf (by decide) (by decide), RLt_fr b10 hf (by decide) (by decide), b11, MW_fr b12 hf (by decide), RI_fr b13 hf (by decide) (by decide) (by decide), RI_fr b14 hf (by decide) (by decide) (by decide)⟩
  · rw [c5, hf.2.2 9 (by decide)]; exact a4.1 t (by omega)
  · rw [c5, hf.2.2 9 (by decide)]; exact a4.2 p (by omega)
theorem rel_fed (h : REL T R P B N H K I0 IB0 IN0 I1 IB1 IN1 W Q E L M V) (c : RT P' M') (hf : FR [0, 2] [1] [] M M') : REL T R P' B N H K I0 IB0 IN0 I1 IB1 IN1 W Q E L M' V := by
  obtain ⟨b1, b2, b3, b4, b5, b6, b7, b8, b9, b10, b11, b12, b13, b14⟩ := h
  exact ⟨RL1_fr b1 hf (by decide) (by decide) (by decide) (by decide), c, by rw [hf.1 15 (by decide)]; exact b3, RC_fr b4 hf (by decide) (by decide) rfl, RTo_fr2 b5 hf (by decide) (by decide) rfl, RSo_fr b6 hf (by decide) (by decide) rfl rfl, RMd_fr b7 hf (by decide) (by decide) rfl rfl, RPa_fr b8 hf (by decide) (by decide), RTe_fr b9 hf (by decide) (by decide), RLt_fr b10 hf (by decide) (by decide), b11, MW_fr b12 hf (by decide), RI_fr b13 hf (by decide) (by decide) (by decide), RI_fr b14 hf (by decide) (by decide) (by decide)⟩
theorem rel_cover (h : REL T R P B N H K I0 IB0 IN0 I1 IB1 IN1 W Q E L M V) (c : RC T' M') (e1 : T'.1 15 = T.1 15) (e2 : T'.2 = T.2) (hf : FR [0, 28, 29] [] [] M M') : REL T' R P B N H K I0 IB0 IN0 I1 IB1 IN1 W Q E L M' V := by
  obtain ⟨b1, b2, b3, b4, b5, b6, b7, b8, b9, b10, b11, b12, b13, b14⟩ := h
  exact ⟨RL1_fr b1 hf (by decide) (by decide) (by decide) (by decide), RT_fr b2 hf (by decide) (by decide), by rw [e1, hf.1 15 (by decide)]; exact b3, c, RTo_fr2 b5 hf (by decide) (by decide) (by rw [e2]), RSo_fr b6 hf (by decide) (by decide) rfl rfl, RMd_fr b7 hf (by decide) (by decide) rfl rfl, RPa_fr b8 hf (by decide) (by decide), RTe_fr b9 hf (by decide) (by decide), RLt_fr b10 hf (by decide) (by decide), b11, MW_fr b12 hf (by decide), RI_fr b13 hf (by decide) (by decide) (by decide), RI_fr b14 hf (by decide) (by decide) (by decide)⟩
theorem rel_tea (h : REL T R P B N H K I0 IB0 IN0 I1 IB1 IN1 W Q E L M V) (c : RTe E' M') (hf : FR [0, 34] [33] [] M M') : REL T R P B N H K I0 IB0 IN0 I1 IB1 IN1 W Q E' L M' V := by
  obtain ⟨b1, b2, b3, b4, b5, b6, b7, b8, b9, b10, b11, b12, b13, b14⟩ := h
  exact ⟨RL1_fr b1 hf (by decide) (by decide) (by decide) (by decide), RT_fr b2 hf (by decide) (by decide), by rw [hf.1 15 (by decide)]; exact b3, RC_fr b4 hf (by decide) (by decide) rfl, RTo_fr2 b5 hf (by decide) (by decide) rfl, RSo_fr b6 hf (by decide) (by decide) rfl rfl, RMd_fr b7 hf (by decide) (by decide) rfl rfl, RPa_fr b8 hf (by decide) (by decide), c, RLt_fr b10 hf (by decide) (by decide), b11, MW_fr b12 hf (by decide), RI_fr b13 hf (by decide) (by decide) (by decide), RI_fr b14 hf (by decide) (by decide) (by decide)⟩
theorem rel_party (h : REL T R P B N H K I0 IB0 IN0 I1 IB1 IN1 W Q E L M V) (c : RPa Q' M') (hf : FR [0, 32] [30, 31] [] M M') : REL T R P B N H K I0 IB0 IN0 I1 IB1 IN1 W Q' E L M' V := by
  obtain ⟨b1, b2, b3, b4, b5, b6, b7, b8, b9, b10, b11, b12, b13, b14⟩ := h
  exact ⟨RL1_fr b1 hf (by decide) (by decide) (by decide) (by decide), RT_fr b2 hf (by decide) (by decide), by rw [hf.1 15 (by decide)]; exact b3, RC_fr b4 hf (by decide) (by decide) rfl, RTo_fr2 b5 hf (by decide) (by decide) rfl, RSo_fr b6 hf (by decide) (by decide) rfl rfl, RMd_fr b7 hf (by decide) (by decide) rfl rfl, c, RTe_fr b9 hf (by decide) (by decide), RLt_fr b10 hf (by decide) (by decide), b11, MW_fr b12 hf (by decide), RI_fr b13 hf (by decide) (by decide) (by decide), RI_fr b14 hf (by decide) (by decide) (by decide)⟩
theorem rel_made (h : REL T R P B N H K I0 IB0 IN0 I1 IB1 IN1 W Q E L M V) (c : RT P' M') (c2 : RMd W' M') (c3 : WS W W') (hf : FR [0, 2, 3, 4, 5, 27] [26] [] M M') : REL T R P' B N H K I0 IB0 IN0 I1 IB1 IN1 W' Q E L M' V := by
  obtain ⟨b1, b2, b3, b4, b5, b6, b7, b8, b9, b10, b11, b12, b13, b14⟩ := h
  exact ⟨RL1_fr b1 hf (by decide) (by decide) (by decide) (by decide), c, by rw [hf.1 15 (by decide)]; exact b3, RC_fr b4 hf (by decide) (by decide) rfl, RTo_fr2 b5 hf (by decide) (by decide) rfl, RSo_fr b6 hf (by decide) (by decide) c3.1 c3.2, c2, RPa_fr b8 hf (by decide) (by decide), RTe_fr b9 hf (by decide) (by decide), RLt_fr b10 hf (by decide) (by decide), b11, MW_fr b12 hf (by decide), RI_fr b13 hf (by decide) (by decide) (by decide), RI_fr b14 hf (by decide) (by decide) (by decide)⟩
theorem rel_soonest (h : REL T R P B N H K I0 IB0 IN0 I1 IB1 IN1 W Q E L M V) (c : RSo W' M') (e1 : W'.1 7 = W.1 7) (e2 : W'.2.2.1 6 = W.2.2.1 6) (hf : FR [0, 25] [23, 24] [] M M') : REL T R P B N H K I0 IB0 IN0 I1 IB1 IN1 W' Q E L M' V := by
  obtain ⟨b1, b2, b3, b4, b5, b6, b7, b8, b9, b10, b11, b12, b13, b14⟩ := h
  exact ⟨RL1_fr b1 hf (by decide) (by decide) (by decide) (by decide), RT_fr b2 hf (by decide) (by decide), by rw [hf.1 15 (by decide)]; exact b3, RC_fr b4 hf (by decide) (by decide) rfl, RTo_fr2 b5 hf (by decide) (by decide) rfl, c, RMd_fr b7 hf (by decide) (by decide) e1 e2, RPa_fr b8 hf (by decide) (by decide), RTe_fr b9 hf (by decide) (by decide), RLt_fr b10 hf (by decide) (by decide), b11, MW_fr b12 hf (by decide), RI_fr b13 hf (by decide) (by decide) (by decide), RI_fr b14 hf (by decide) (by decide) (by decide)⟩
theorem rel_card (h : REL T R P B N H K I0 IB0 IN0 I1 IB1 IN1 W Q E L M V) (c : RLt L' M') (hf : FR [0, 36] [35] [] M M') : REL T R P B N H K I0 IB0 IN0 I1 IB1 IN1 W Q E L' M' V := by
  obtain ⟨b1, b2, b3, b4, b5, b6, b7, b8, b9, b10, b11, b12, b13, b14⟩ := h
  exact ⟨RL1_fr b1 hf (by decide) (by decide) (by decide) (by decide), RT_fr b2 hf (by decide) (by decide), by rw [hf.1 15 (by decide)]; exact b3, RC_fr b4 hf (by decide) (by decide) rfl, RTo_fr2 b5 hf (by decide) (by decide) rfl, RSo_fr b6 hf (by decide) (by decide) rfl rfl, RMd_fr b7 hf (by decide) (by decide) rfl rfl, RPa_fr b8 hf (by decide) (by decide), RTe_fr b9 hf (by decide) (by decide), c, b11, MW_fr b12 hf (by decide), RI_fr b13 hf (by decide) (by decide) (by decide), RI_fr b14 hf (by decide) (by decide) (by decide)⟩
theorem rel_odds (h : REL T R P B N H K I0 IB0 IN0 I1 IB1 IN1 W Q E L M V) (c : RM M' V) (c2 : ∀ k, 77 ≤ k → M'.2.2.1 6 k = M.2.2.1 6 k) (hf : FR [0, 37] [6, 21] [] M M') : REL T R P B N H K I0 IB0 IN0 I1 IB1 IN1 W Q E L M' V := by
  obtain ⟨b1, b2, b3, b4, b5, b6, b7, b8, b9, b10, b11, b12, b13, b14⟩ := h
  exact ⟨⟨b1.1, c, b1.2.2.1, RNm_fr b1.2.2.2.1 (hf.2.2 9 (by decide)), CR_cong b1.2.2.2.2.1 (fun j hj _ => c2 j hj), b1.2.2.2.2.2.fr hf (by decide) (by decide)⟩, RT_fr b2 hf (by decide) (by decide), by rw [hf.1 15 (by decide)]; exact b3, RC_fr b4 hf (by decide) (by decide) rfl, RTo_fr2 b5 hf (by decide) (by decide) rfl, RSo_fr b6 hf (by decide) (by decide) rfl rfl, RMd_fr b7 hf (by decide) (by decide) rfl rfl, RPa_fr b8 hf (by decide) (by decide), RTe_fr b9 hf (by decide) (by decide), RLt_fr b10 hf (by decide) (by decide), b11, MW_fr b12 hf (by decide), RI_fr b13 hf (by decide) (by decide) (by decide), RI_fr b14 hf (by decide) (by decide) (by decide)⟩
theorem rel_said (h : REL T R P B N H K I0 IB0 IN0 I1 IB1 IN1 W Q E L M V) (hf : FR [0] [47] [] M M') : REL T R P B N H K I0 IB0 IN0 I1 IB1 IN1 W Q E L M' V := by
  obtain ⟨b1, b2, b3, b4, b5, b6, b7, b8, b9, b10, b11, b12, b13, b14⟩ := h
  exact ⟨RL1_fr b1 hf (by decide) (by decide) (by decide) (by decide), RT_fr b2 hf (by decide) (by decide), by rw [hf.1 15 (by decide)]; exact b3, RC_fr b4 hf (by decide) (by decide) rfl, RTo_fr2 b5 hf (by decide) (by decide) rfl, RSo_fr b6 hf (by decide) (by decide) rfl rfl, RMd_fr b7 hf (by decide) (by decide) rfl rfl, RPa_fr b8 hf (by decide) (by decide), RTe_fr b9 hf (by decide) (by decide), RLt_fr b10 hf (by decide) (by decide), b11, MW_fr b12 hf (by decide), RI_fr b13 hf (by decide) (by decide) (by decide), RI_fr b14 hf (by decide) (by decide) (by decide)⟩
theorem rel_image (h : REL T R P B N H K I0 IB0 IN0 I1 IB1 IN1 W Q E L M V) (c0 : RI I0' IN0' IB0' M' 0) (c1 : RI I1' IN1' IB1' M' 1) (hf : FR [0] [48, 50] [49] M M') : REL T R P B N H K I0' IB0' IN0' I1' IB1' IN1' W Q E L M' V := by
  obtain ⟨b1, b2, b3, b4, b5, b6, b7, b8, b9, b10, b11, b12, b13, b14⟩ := h
  exact ⟨RL1_fr b1 hf (by decide) (by decide) (by decide) (by decide), RT_fr b2 hf (by decide) (by decide), by rw [hf.1 15 (by decide)]; exact b3, RC_fr b4 hf (by decide) (by decide) rfl, RTo_fr2 b5 hf (by decide) (by decide) rfl, RSo_fr b6 hf (by decide) (by decide) rfl rfl, RMd_fr b7 hf (by decide) (by decide) rfl rfl, RPa_fr b8 hf (by decide) (by decide), RTe_fr b9 hf (by decide) (by decide), RLt_fr b10 hf (by decide) (by decide), b11, MW_fr b12 hf (by decide), c0, c1⟩
theorem rel_restore (h : REL T R P B N H K I0 IB0 IN0 I1 IB1 IN1 W Q E L M V) (c : RL1 B' N' H' K M' V') (hf : FR [0, 22] [6] [9] M M') : REL T R P B' N' H' K I0 IB0 IN0 I1 IB1 IN1 W Q E L M' V' := by
  obtain ⟨b1, b2, b3, b4, b5, b6, b7, b8, b9, b10, b11, b12, b13, b14⟩ := h
  exact ⟨c, RT_fr b2 hf (by decide) (by decide), by rw [hf.1 15 (by decide)]; exact b3, RC_fr b4 hf (by decide) (by decide) rfl, RTo_fr2 b5 hf (by decide) (by decide) rfl, RSo_fr b6 hf (by decide) (by decide) rfl rfl, RMd_fr b7 hf (by decide) (by decide) rfl rfl, RPa_fr b8 hf (by decide) (by decide), RTe_fr b9 hf (by decide) (by decide), RLt_fr b10 hf (by decide) (by decide), b11, MW_fr b12 hf (by decide), RI_fr b13 hf (by decide) (by decide) (by decide), RI_fr b14 hf (by decide) (by decide) (by decide)⟩
theorem rel_suburb (h : REL T R P B N H K I0 IB0 IN0 I1 IB1 IN1 W Q E L M V) (e : T' = sI T 15 (M'.1 15)) (c : RL1 B' N' H' K M' V') (c2 : RT P' M') (c3 : RW R') (hf : FR [0, 2, 3, 4, 5, 11, 12, 13, 14, 15, 16, 18, 19, 22] [6, 7] [9] M M') : REL T' R' P' B' N' H' K I0 IB0 IN0 I1 IB1 IN1 W Q E L M' V' := by
  obtain ⟨b1, b2, b3, b4, b5, b6, b7, b8, b9, b10, b11, b12, b13, b14⟩ := h
  exact ⟨c, c2, by rw [e]; rfl, RC_fr b4 hf (by decide) (by decide) (by rw [e]; rfl), RTo_fr2 b5 hf (by decide) (by decide) (by rw [e]; rfl), RSo_fr b6 hf (by decide) (by decide) rfl rfl, RMd_fr b7 hf (by decide) (by decide) rfl rfl, RPa_fr b8 hf (by decide) (by decide), RTe_fr b9 hf (by decide) (by decide), RLt_fr b10 hf (by decide) (by decide), c3, MW_fr b12 hf (by decide), RI_fr b13 hf (by decide) (by decide) (by decide), RI_fr b14 hf (by decide) (by decide) (by decide)⟩
theorem rel_book (h : REL T R P B N H K I0 IB0 IN0 I1 IB1 IN1 W Q E L M V) (e : FR [15] [14] [] T T') (e2 : T'.1 15 = M'.1 15) (c4 : RTo T' M') (c : RL1 B' N H' K' M' V') (c2 : RT P' M') (c3 : RW R') (hf : FR [0, 2, 3, 4, 5, 11, 12, 13, 14, 15, 16, 18, 22, 38, 40] [6, 8, 20, 21, 39] [] M M') : REL T' R' P' B' N H' K' I0 IB0 IN0 I1 IB1 IN1 W Q E L M' V' := by
  obtain ⟨b1, b2, b3, b4, b5, b6, b7, b8, b9, b10, b11, b12, b13, b14⟩ := h
  exact ⟨c, c2, e2, RC_fr b4 hf (by decide) (by decide) (e.1 16 (by decide)), c4, RSo_fr b6 hf (by decide) (by decide) rfl rfl, RMd_fr b7 hf (by decide) (by decide) rfl rfl, RPa_fr b8 hf (by decide) (by decide), RTe_fr b9 hf (by decide) (by decide), RLt_fr b10 hf (by decide) (by decide), c3, MW_fr b12 hf (by decide), RI_fr b13 hf (by decide) (by decide) (by decide), RI_fr b14 hf (by decide) (by decide) (by decide)⟩
theorem rel_sentence (h : REL T R P B N H K I0 IB0 IN0 I1 IB1 IN1 W Q E L M V) (e : T' = sI T 15 (M'.1 15)) (c : RL1 B N' H K M' V) (c2 : RT P' M') (c3 : RW R') (hf : FR [0, 2, 3, 4, 5, 11, 12, 13, 14, 15, 16, 18, 42, 43, 44, 45, 46] [6, 8, 41] [] M M') : REL T' R' P' B N' H K I0 IB0 IN0 I1 IB1 IN1 W Q E L M' V := by
  obtain ⟨b1, b2, b3, b4, b5, b6, b7, b8, b9, b10, b11, b12, b13, b14⟩ := h
  exact ⟨c, c2, by rw [e]; rfl, RC_fr b4 hf (by decide) (by decide) (by rw [e]; rfl), RTo_fr2 b5 hf (by decide) (by decide) (by rw [e]; rfl), RSo_fr b6 hf (by decide) (by decide) rfl rfl, RMd_fr b7 hf (by decide) (by decide) rfl rfl, RPa_fr b8 hf (by decide) (by decide), RTe_fr b9 hf (by decide) (by decide), RLt_fr b10 hf (by decide) (by decide), c3, MW_fr b12 hf (by decide), RI_fr b13 hf (by decide) (by decide) (by decide), RI_fr b14 hf (by decide) (by decide) (by decide)⟩
end P64b
