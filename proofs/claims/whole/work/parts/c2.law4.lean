/-! the law's own person, and its case -/
abbrev rm_L_person : Room := ({ frames := 30, cells := 1, slots := 6, locals := 400 } : Room)
set_option maxRecDepth 100000 in
set_option maxHeartbeats 4000000 in
theorem c_L_personR (l : Launch) (hst : l.stackTraces = false) (D : va_G) (q : Nat → ClassId) (tp : Nat) (o0 : Nat) (a0 : Nat → Nat) (S0 : St) (a1 : Nat → Nat) (S1 : St) (oo : Nat) (fo : Nat → Int64) (sz : Nat) (x1 : Int32) (x2 : Int32) {r : Int32} (hF : F_X11_person S1 x1 x2 = some (some r)) : vx_Met l yL_person (Cond.codeWith yL_person cL_person 5 (some .int) [(0, 10, 13, 13)] :: TB) rm_L_person (PCX D q [.ref o0, .int x1, .int x2, .ref oo] (fl [g11 q o0 a0 tp S0, g8 q (a0 3) a1 S1, [(oo, .inl (q 2, 1, .inr (.inl fo)))]]) sz) ((fun A => QI D A 0 (fl [g11 q o0 a0 tp S0, g8 q (a0 3) a1 S1, [(oo, .inl (q 2, 1, .inr (.inl (vp_updL fo (0 : Int32).toNatClampNeg r.toInt64))))]])) (va_A (fl [g11 q o0 a0 tp S0, g8 q (a0 3) a1 S1, [(oo, .inl (q 2, 1, .inr (.inl fo)))]]) sz)) ((fun A => vx_X (fun (_ : Unit) => True) (fun _ _ _ => False) A) (va_A (fl [g11 q o0 a0 tp S0, g8 q (a0 3) a1 S1, [(oo, .inl (q 2, 1, .inr (.inl fo)))]]) sz)) 1 6 (va_A (fl [g11 q o0 a0 tp S0, g8 q (a0 3) a1 S1, [(oo, .inl (q 2, 1, .inr (.inl fo)))]]) sz) := by
  refine k_metXH (hh := [(0, 10, 13, 13)]) (w0 := fl [g11 q o0 a0 tp S0, g8 q (a0 3) a1 S1, [(oo, .inl (q 2, 1, .inr (.inl fo)))]]) (Q := fun A => QI D A 0 (fl [g11 q o0 a0 tp S0, g8 q (a0 3) a1 S1, [(oo, .inl (q 2, 1, .inr (.inl (vp_updL fo (0 : Int32).toNatClampNeg r.toInt64))))]])) (XC := fun A => vx_X (fun (_ : Unit) => True) (fun _ _ _ => False) A) (by decide +kernel) (Nat.le_of_ble_eq_true rfl) ?_
  intro p e s m args below meth c A ls C htab hVT hVN hP hD hS hl
  have hl : lv_has ls 5 [(0, .ref o0), (1, .int x1), (2, .int x2), (3, .ref oo)] := hl
  have C : cx p s m args meth c cL_person 5 (some .int) RL D q A := C
  obtain ⟨hx, hb, hr, hml, hown, hts, hlk, hA, hK, hN, hV⟩ := id C
  refine lv_aload_n hx hb dL_person_0 rfl (lv_at hl 3 rfl) ?_
  refine lv_iconst (v := (0 : Int32)) hx hb dL_person_1 (by decide) ?_
  refine lv_aload_n hx hb dL_person_2 rfl (lv_at hl 0 rfl) ?_
  refine lv_iload_n hx hb dL_person_3 rfl (lv_at hl 1 rfl) ?_
  refine lv_iload_n hx hb dL_person_4 rfl (lv_at hl 2 rfl) ?_
  refine k_iro C (k_rV (As := [.int x1, .int x2]) (rest := [.int (0 : Int32), .ref oo]) C (c_X11_personR l D q tp o0 a0 S0 a1 S1 _ x1 x2 hF) kc_X11_person ml_L_7 rfl rfl (by decide) (flP hP [0, 1] rfl) (flD hD [0, 1] (by decide) rfl) hS (va_recv hK hP (ci := 11) (q0 := 0) rfl rfl) rfl hl.1 rfl (Nat.le_of_ble_eq_true rfl) dL_person_5 (by decide)) hP hD hS [0, 1] [2] [[(oo, .inl (q 2, 1, .inr (.inl fo)))]] 3 (by decide) rfl rfl rfl rfl (fun H locs hP hD hS => ?_)
  refine lv_i2l hx hb dL_person_8 rfl ?_
  refine k_lst (f := fo) (W8 := fl [g11 q o0 a0 tp S0, g8 q (a0 3) a1 S1, [(oo, .inl (q 2, 1, .inr (.inl (vp_updL fo (0 : Int32).toNatClampNeg r.toInt64))))]]) C hP hD hS 13 rfl (by decide) dL_person_9 rfl (fun H locs hP hD hS => ?_)
  refine lv_goto (tgt := 17) hx hb dL_person_10 (by decide) ?_
  refine lv_iconst (v := (0 : Int32)) hx hb dL_person_17 (by decide) ?_
  refine W.widen (k := 1) (n := 6) (by omega) (by omega) ?_
  exact vx_ret (k_iretC C hP hS dL_person_18)
set_option maxRecDepth 100000 in
set_option maxHeartbeats 4000000 in
theorem c_L_personX (l : Launch) (hst : l.stackTraces = false) (D : va_G) (q : Nat → ClassId) (tp : Nat) (o0 : Nat) (a0 : Nat → Nat) (S0 : St) (a1 : Nat → Nat) (S1 : St) (oo : Nat) (fo : Nat → Int64) (sz : Nat) (x1 : Int32) (x2 : Int32) (hF : F_X11_person S1 x1 x2 = some none) : vx_Met l yL_person (Cond.codeWith yL_person cL_person 5 (some .int) [(0, 10, 13, 13)] :: TB) rm_L_person (PCX D q [.ref o0, .int x1, .int x2, .ref oo] (fl [g11 q o0 a0 tp S0, g8 q (a0 3) a1 S1, [(oo, .inl (q 2, 1, .inr (.inl fo)))]]) sz) ((fun A => QI D A 1 (fl [g11 q o0 a0 tp S0, g8 q (a0 3) a1 S1, [(oo, .inl (q 2, 1, .inr (.inl fo)))]])) (va_A (fl [g11 q o0 a0 tp S0, g8 q (a0 3) a1 S1, [(oo, .inl (q 2, 1, .inr (.inl fo)))]]) sz)) ((fun A => vx_X (fun (_ : Unit) => True) (fun _ _ _ => False) A) (va_A (fl [g11 q o0 a0 tp S0, g8 q (a0 3) a1 S1, [(oo, .inl (q 2, 1, .inr (.inl fo)))]]) sz)) 1 6 (va_A (fl [g11 q o0 a0 tp S0, g8 q (a0 3) a1 S1, [(oo, .inl (q 2, 1, .inr (.inl fo)))]]) sz) := by
  refine k_metXH (hh := [(0, 10, 13, 13)]) (w0 := fl [g11 q o0 a0 tp S0, g8 q (a0 3) a1 S1, [(oo, .inl (q 2, 1, .inr (.inl fo)))]]) (Q := fun A => QI D A 1 (fl [g11 q o0 a0 tp S0, g8 q (a0 3) a1 S1, [(oo, .inl (q 2, 1, .inr (.inl fo)))]])) (XC := fun A => vx_X (fun (_ : Unit) => True) (fun _ _ _ => False) A) (by decide +kernel) (Nat.le_of_ble_eq_true rfl) ?_
  intro p e s m args below meth c A ls C htab hVT hVN hP hD hS hl
  have hl : lv_has ls 5 [(0, .ref o0), (1, .int x1), (2, .int x2), (3, .ref oo)] := hl
  have C : cx p s m args meth c cL_person 5 (some .int) RL D q A := C
  obtain ⟨hx, hb, hr, hml, hown, hts, hlk, hA, hK, hN, hV⟩ := id C
  refine lv_aload_n hx hb dL_person_0 rfl (lv_at hl 3 rfl) ?_
  refine lv_iconst (v := (0 : Int32)) hx hb dL_person_1 (by decide) ?_
  refine lv_aload_n hx hb dL_person_2 rfl (lv_at hl 0 rfl) ?_
  refine lv_iload_n hx hb dL_person_3 rfl (lv_at hl 1 rfl) ?_
  refine lv_iload_n hx hb dL_person_4 rfl (lv_at hl 2 rfl) ?_
  have hF2 := ke_Aall (flD (gc := [g11 q o0 a0 tp S0, g8 q (a0 3) a1 S1]) hD [0, 1] (by decide) rfl) hS hA
  refine vx_calli (k_rVX (As := [.int x1, .int x2]) (rest := [.int (0 : Int32), .ref oo]) C hVT hVN (c_X11_personX l hst D q tp o0 a0 S0 a1 S1 _ x1 x2 hF) kc_X11_person ml_L_7 rfl rfl (by decide) (flP hP [0, 1] rfl) (flD hD [0, 1] (by decide) rfl) hS (va_recv hK hP (ci := 11) (q0 := 0) rfl rfl) rfl hl.1 rfl (Nat.le_of_ble_eq_true rfl) dL_person_5 (by decide)) hS (fun q _ h => hF2 q h) hF2 (fun q _ h => hF2 q h) (fun E ce q9 u t H1 locs1 ht hal hp hB hz hk1 hS1 hce hvm hcl => ?_) (fun r u t H1 locs1 ht hal hp hB hz hk1 hS1 => hp.elim)
  obtain ⟨hE, hB⟩ := hB
  subst hE
  rw [ht] at hB
  obtain ⟨hP1, hD1⟩ := kw_grp (gs := [g11 q o0 a0 tp S0, g8 q (a0 3) a1 S1, [(oo, .inl (q 2, 1, .inr (.inl fo)))]]) (gs8 := [g11 q o0 a0 tp S0, g8 q (a0 3) a1 S1, [(oo, .inl (q 2, 1, .inr (.inl fo)))]]) (gr := [[(oo, .inl (q 2, 1, .inr (.inl fo)))]]) hP hD [0, 1] [2] 3 rfl rfl rfl rfl rfl rfl rfl hk1 hB
  refine vx_catch (own := RL) (name := NSE) hown [] ⟨0, 10, 13, 13⟩ [] (htab.trans rfl) (fun z hz => nomatch hz) (by decide) (by decide) (hts _ cl_L_13) (nse_use hVN _ List.mem_cons_self) hce hvm hcl ?_
  refine lv_astore (lv' := [(4, .ref q9), (0, .ref o0), (1, .int x1), (2, .int x2), (3, .ref oo)]) hx hb dL_person_13 hl (by decide) rfl (fun ls hl => ?_)
  refine lv_iconst (v := (1 : Int32)) hx hb dL_person_15 (by decide) ?_
  exact vx_ret (k_iretC C hP1 hS1 dL_person_16)
theorem lp_words : GoodIn TB (va_wsS RL 38 yL_person (Cond.codeWith yL_person cL_person 5 (some .int) [(0, 10, 13, 13)] :: TB)) := tb_goodL (fun w hw => by
  rcases List.mem_append.mp hw with h | h
  · simp only [List.mem_cons, List.not_mem_nil, or_false] at h
    rcases h with e | e | e <;> subst e
    · exact ml_L_38
    · exact st_L_person
    · exact in_L
  · rcases List.mem_cons.mp h with e | h
    · subst e; exact cw_L_person
    · exact h)
section LP1
variable {p : Program} {l : Launch} {e : Env} {R : Room} {s : State} {m : MethodId} {args : Array Value} {below : List Frame} {meth : Method} {c : Code} {H : Heap} {locs : List Loc} {cells slots mc ms : Nat} {cc : ByteArray} {nL : Nat} {ret : Option FieldType} {own : String} {D : va_G} {q : Nat → ClassId} {A : Nat → Prop} {Q : State → Prop}
variable {pc : Nat} {ls : Array Slot} {rest st0 : List Value} {aa : Array Value} {gs gs8 gc g1 gr : List va_W}
theorem k_xgrpC {r : Int32} (C : cx p s m args meth c cc nL ret own D q A) (hr : vx_Run p l e R s m args below meth c H locs cells slots mc ms (F0 m pc ls st0) rest (QI D (va_A (fl gc) H.size) r (fl g1) aa) (vx_X (fun (_ : Unit) => True) (fun _ _ _ => False) (va_A (fl gc) H.size)) (va_A (fl gc) H.size)) (hP : va_P D vwCl (fl gs) H) (hD : va_D A (fl gs)) (hS : va_S A s.heap H locs) (isC isR : List Nat) (gr : List va_W) (N : Nat) (hn : isC.Nodup) (hC : isC.map (fun i => gs[i]?) = gc.map some) (hC8 : isC.map (fun i => gs8[i]?) = g1.map some) (h9 : isR.map (fun i => gs[i]?) = gr.map some) (h8 : isR.map (fun i => gs8[i]?) = gr.map some) (hl8 : gs8.length = N) (hc : (List.range N).all (fun k => isC.contains k || (isR.contains k && !isC.contains k)) = true) (hf : gs8.map (fun g => g.map (fun x => x.1)) = gs.map (fun g => g.map (fun x => x.1))) (kk : ∀ (H1 : Heap) (locs1 : List Loc), va_P D vwCl (fl gs8) H1 → va_D A (fl gs8) → va_S A s.heap H1 locs1 → W p l e R s m args below meth c H1 locs1 (cells + mc) (slots + ms) Q (F0 m (pc + 3) ls (.int r :: rest))) : W p l e R s m args below meth c H locs cells slots Q (F0 m pc ls st0) := by
  obtain ⟨hx, hb, hr0, hml, hown, hts, hlk, hA, hK, hN, hV⟩ := C
  have hF := ke_Aall (flD hD isC hn hC) hS hA
  refine vx_calli hr hS (fun q _ h => hF q h) hF (fun q _ h => hF q h) (fun E ce q9 u t H1 locs1 _ _ _ hB => hB.elim) (fun r1 u t H1 locs1 ht hvm hw hB hz1 hk1 hS1 => ?_)
  rw [ht] at hB
  subst hw; obtain ⟨hP1, hD1⟩ := kw_grp (gs8 := gs8) hP hD isC isR N hC hC8 h9 h8 hl8 hc hf hk1 hB
  exact kk H1 locs1 hP1 hD1 hS1
theorem k_rSX {As : List Value} {Qc : Array Value → State → Outcome → State → Prop} {XC : String → State → State → Prop} {free : Addr → Prop} {wc : va_W} (C : cx p s m args meth c cc nL ret RL D q A) (hT : VT A s s.heap) (hVN : VN s) (hM : vx_Met l yL_person (Cond.codeWith yL_person cL_person 5 (some .int) [(0, 10, 13, 13)] :: TB) rm_L_person (PCX D q As wc H.size) Qc XC 1 6 free) (hR : rm_L_person.frames + 1 ≤ R.frames ∧ 8 + (5 + 11) + rm_L_person.locals ≤ R.locals) (hP : va_P D vwCl wc H) (hD : va_D A wc) (hS : va_S A s.heap H locs) (hn : As.length = 4) (hsz : ls.size = nL) (hst : st0 = As.reverse ++ rest) (hW : (rest.map fun v => v.category).sum ≤ 8) (hdg : decode cc pc = .ok (.invokestatic 38, 3)) (hf : cells + 1 ≤ R.cells ∧ slots + 6 ≤ R.slots) :
    vx_Run p l e R s m args below meth c H locs cells slots 1 6 (F0 m pc ls st0) rest (Qc As.toArray) XC free := by
  obtain ⟨hx, hb, hr, hml, hown, hts, hlk, hA, hK, hN, hV⟩ := C
  exact vx_runSX (hh := [(0, 10, 13, 13)]) ⟨hx, hb, hml, hown, hts⟩ hM (vx_cwSW 4 hts lp_words rfl rfl rfl ⟨by decide, by decide, by decide +kernel⟩ hR) ⟨PCX.blind, PCX.mk ⟨hK, hN⟩ hV hT hVN hA hS hP hD⟩ rfl hn hsz hst (lv_room hW) hdg hf
end LP1
section LP2
variable {p : Program} {l : Launch} {e : Env} {s : State} {m : MethodId} {args : Array Value} {below : List Frame} {meth : Method} {c : Code} {D : va_G} {q : Nat → ClassId} {A : Nat → Prop} {Q : State → Prop} {b L i o om oo : Nat} {xs : Nat → Int32} {h : Nat → Nat → Nat} {hm : Nat → Nat} {sT sR sP sB sX sN sY sG sH sJR s0 sb0 sn0 s1 sb1 sn1 sW sQ sE sD sL sM : St} {sK : KSt} {fo : Nat → Int64} {V : Vt} {H : Heap} {locs : List Loc} {ls : Array Slot} {cells slots : Nat}
set_option maxRecDepth 100000 in
set_option maxHeartbeats 4000000 in
theorem lw_4R (hst : l.stackTraces = false) (hVT : VT A s s.heap) (hVN : VN s) (C : cx p s m args meth c code 7 ret RL D q A) (hX : va_X b L xs s s.heap) (hbl : b < s.heap.size) (hbA : ¬ A b) (hi : i + 6 ≤ L) (hL : L ≤ 3072) (hcs : cells + 1 ≤ 601024 ∧ slots + 6 ≤ 7293034) (hrel : REL sT sR sP sB sN sH sK s0 sb0 sn0 s1 sb1 sn1 sW sQ sE sL sM V) (hP : va_P D vwCl (fl (GW q o om oo h hm sT sR sP sB sX sN sY sG sH sK sJR s0 sb0 sn0 s1 sb1 sn1 sW sQ sE sD sL sM fo)) H) (hD : va_D A (fl (GW q o om oo h hm sT sR sP sB sX sN sY sG sH sK sJR s0 sb0 sn0 s1 sb1 sn1 sW sQ sE sD sL sM fo))) (hS : va_S A s.heap H locs) (hl : lv_has ls 7 [(0, .ref b), (1, .ref o), (2, .ref om), (3, .ref oo), (4, .int (nI i))]) (kk : LWK p l e s m args below meth c D q A Q b i o om oo h hm (cells + 1) (slots + 6)) {z1 z2 : Int32} (e1 : z1 = xs (nI i + nI 1).toNatClampNeg) (e2 : z2 = xs (nI i + nI 2).toNatClampNeg) {r : Int32} (f1 : F_X11_person sB z1 z2 = some (some r)) (f2 : F_X12_person sM z1 z2 = some (r, sI sM 0 (nI 0))) : W p l e room_1 s m args below meth c H locs cells slots Q (F0 m 340 ls []) := by
  obtain ⟨hx, hb, hr, hml, hown, hts, hlk, hA, hK, hN, hV⟩ := id C
  have hf0 : (cells + 1) + 0 ≤ room_1.cells ∧ (slots + 6) + 0 ≤ room_1.slots := ⟨hcs.1, hcs.2⟩
  refine lv_aload_n hx hb dL_law_340 rfl (lv_at hl 1 rfl) ?_
  refine lv_aload_n hx hb dL_law_341 rfl (lv_at hl 0 rfl) ?_
  refine lv_iload hx hb dL_law_342 (lv_at hl 4 rfl) ?_
  refine lv_iconst (v := nI 1) hx hb dL_law_344 (by decide) ?_
  refine lv_iadd hx hb dL_law_345 ?_
  refine va_sld hx hb hX hbl hbA hS (lw_in (k := 1) (by omega) hL) dL_law_346 ?_
  refine k_rni e1 ?_
  refine lv_aload_n hx hb dL_law_347 rfl (lv_at hl 0 rfl) ?_
  refine lv_iload hx hb dL_law_348 (lv_at hl 4 rfl) ?_
  refine lv_iconst (v := nI 2) hx hb dL_law_350 (by decide) ?_
  refine lv_iadd hx hb dL_law_351 ?_
  refine va_sld hx hb hX hbl hbA hS (lw_in (k := 2) (by omega) hL) dL_law_352 ?_
  refine k_rni e2 ?_
  refine lv_aload_n hx hb dL_law_353 rfl (lv_at hl 3 rfl) ?_
  refine k_xgrpC (gs8 := GW q o om oo h hm sT sR sP sB sX sN sY sG sH sK sJR s0 sb0 sn0 s1 sb1 sn1 sW sQ sE sD sL sM (vp_updL fo (0 : Int32).toNatClampNeg r.toInt64)) C (k_rSX (As := [.ref o, .int z1, .int z2, .ref oo]) (rest := []) C hVT hVN (c_L_personR l hst D q (h 1 0) o (h 0) sT (h 4) sB oo fo _ z1 z2 f1) (by decide) (flP hP [0, 3, 23] rfl) (flD hD [0, 3, 23] (by decide) rfl) hS rfl hl.1 rfl (Nat.le_of_ble_eq_true rfl) dL_law_354 ⟨hcs.1, hcs.2⟩) hP hD hS [0, 3, 23] [1, 2, 4, 5, 6, 7, 8, 9, 10, 11, 12, 13, 14, 15, 16, 17, 18, 19, 20, 21, 22] [g5 q (h 0 1) (h 2) (h 1 0) sR, g9 q (h 1 0) (h 3) 940 sP, g8 q (h 0 4) (h 5) sX, g7 q (h 0 5) (h 6) sN, g7 q (h 0 6) (h 7) sY, g0 q (h 0 7) (h 8) sG, g2 q (h 0 8) (h 9) sH, g20 q (h 9 1) (h 10) (fun i => h (11 + i)) sK, g21 q (h 0 9) (h 20) sJR, g3 q (h 20 0) (h 21) s0, g8 q (h 21 1) (h 22) sb0, g7 q (h 21 2) (h 23) sn0, g3 q (h 20 1) (h 24) s1, g8 q (h 24 1) (h 25) sb1, g7 q (h 24 2) (h 26) sn1, g6 q (h 0 10) (h 27) sW, g4 q (h 0 11) (h 28) sQ, g10 q (h 0 12) (h 29) sE, g1 q (h 0 13) (h 30) sD, g9 q (h 0 14) (h 31) 96 sL, g12 q om hm sM] 24 (by decide) rfl rfl rfl rfl rfl rfl GW_ad (fun H locs hP hD hS => ?_)
  refine lv_istore (lv' := [(5, .int (0 : Int32)), (0, .ref b), (1, .ref o), (2, .ref om), (3, .ref oo), (4, .int (nI i))]) hx hb dL_law_357 hl (by decide) rfl (fun ls hl => ?_)
  refine lv_aload_n hx hb dL_law_359 rfl (lv_at hl 3 rfl) ?_
  refine lv_aload_n hx hb dL_law_360 rfl (lv_at hl 1 rfl) ?_
  refine lv_iload hx hb dL_law_361 (lv_at hl 5 rfl) ?_
  refine lv_iconst (v := nI 1) hx hb dL_law_363 (by decide) ?_
  refine lv_iadd hx hb dL_law_364 ?_
  refine va_sld hx hb hX hbl hbA hS (lw_in (k := 1) (by omega) hL) dL_law_365 ?_
  refine k_rni e1 ?_
  refine lv_aload_n hx hb dL_law_366 rfl (lv_at hl 1 rfl) ?_
  refine lv_iload hx hb dL_law_367 (lv_at hl 5 rfl) ?_
  refine lv_iconst (v := nI 2) hx hb dL_law_369 (by decide) ?_
  refine lv_iadd hx hb dL_law_370 ?_
  refine va_sld hx hb hX hbl hbA hS (lw_in (k := 2) (by omega) hL) dL_law_371 ?_
  refine k_rni e2 ?_
  refine k_igrpC (gs8 := GW q o om oo h hm sT sR sP sB sX sN sY sG sH sK sJR s0 sb0 sn0 s1 sb1 sn1 sW sQ sE sD sL (sI sM 0 (nI 0)) (vp_updL fo (0 : Int32).toNatClampNeg r.toInt64)) C (k_rV (As := [.int z1, .int z2]) (rest := []) C (c_X12_person l D q om hm sM _ z1 z2 f2) kc_X12_person ml_L_43 rfl rfl (by decide) (flP hP [22] rfl) (flD hD [22] (by decide) rfl) hS (va_recv hK (flP (gc := [g12 q om hm sM]) hP [22] rfl) (ci := 12) (q0 := 0) rfl rfl) rfl hl.1 rfl (Nat.le_of_ble_eq_true rfl) dL_law_372 hf0) hP hD hS [22] [0, 1, 2, 3, 4, 5, 6, 7, 8, 9, 10, 11, 12, 13, 14, 15, 16, 17, 18, 19, 20, 21, 23] [g11 q o (h 0) (h 1 0) sT, g5 q (h 0 1) (h 2) (h 1 0) sR, g9 q (h 1 0) (h 3) 940 sP, g8 q (h 0 3) (h 4) sB, g8 q (h 0 4) (h 5) sX, g7 q (h 0 5) (h 6) sN, g7 q (h 0 6) (h 7) sY, g0 q (h 0 7) (h 8) sG, g2 q (h 0 8) (h 9) sH, g20 q (h 9 1) (h 10) (fun i => h (11 + i)) sK, g21 q (h 0 9) (h 20) sJR, g3 q (h 20 0) (h 21) s0, g8 q (h 21 1) (h 22) sb0, g7 q (h 21 2) (h 23) sn0, g3 q (h 20 1) (h 24) s1, g8 q (h 24 1) (h 25) sb1, g7 q (h 24 2) (h 26) sn1, g6 q (h 0 10) (h 27) sW, g4 q (h 0 11) (h 28) sQ, g10 q (h 0 12) (h 29) sE, g1 q (h 0 13) (h 30) sD, g9 q (h 0 14) (h 31) 96 sL, [(oo, .inl (q 2, 1, .inr (.inl (vp_updL fo (0 : Int32).toNatClampNeg r.toInt64))))]] 24 (by decide) rfl rfl rfl rfl rfl rfl GW_ad (fun H locs hP hD hS => ?_)
  refine lv_istore (lv' := [(6, .int r), (5, .int (0 : Int32)), (0, .ref b), (1, .ref o), (2, .ref om), (3, .ref oo), (4, .int (nI i))]) hx hb dL_law_375 hl (by decide) rfl (fun ls hl => ?_)
  refine lv_aload_n hx hb dL_law_377 rfl (lv_at hl 4 rfl) ?_
  refine k_igrpC (gs8 := GW q o om oo h hm sT sR sP sB sX sN sY sG sH sK sJR s0 sb0 sn0 s1 sb1 sn1 sW sQ sE sD sL (sI sM 0 (nI 0)) (vp_updL fo (0 : Int32).toNatClampNeg r.toInt64)) C (k_rV (As := []) (rest := []) C (c_X12_thrown l D q om hm (sI sM 0 (nI 0)) _ (r := nI 0) rfl) kc_X12_thrown ml_L_44 rfl rfl (by decide) (flP hP [22] rfl) (flD hD [22] (by decide) rfl) hS (va_recv hK (flP (gc := [g12 q om hm (sI sM 0 (nI 0))]) hP [22] rfl) (ci := 12) (q0 := 0) rfl rfl) rfl hl.1 rfl (Nat.le_of_ble_eq_true rfl) dL_law_378 hf0) hP hD hS [22] [0, 1, 2, 3, 4, 5, 6, 7, 8, 9, 10, 11, 12, 13, 14, 15, 16, 17, 18, 19, 20, 21, 23] [g11 q o (h 0) (h 1 0) sT, g5 q (h 0 1) (h 2) (h 1 0) sR, g9 q (h 1 0) (h 3) 940 sP, g8 q (h 0 3) (h 4) sB, g8 q (h 0 4) (h 5) sX, g7 q (h 0 5) (h 6) sN, g7 q (h 0 6) (h 7) sY, g0 q (h 0 7) (h 8) sG, g2 q (h 0 8) (h 9) sH, g20 q (h 9 1) (h 10) (fun i => h (11 + i)) sK, g21 q (h 0 9) (h 20) sJR, g3 q (h 20 0) (h 21) s0, g8 q (h 21 1) (h 22) sb0, g7 q (h 21 2) (h 23) sn0, g3 q (h 20 1) (h 24) s1, g8 q (h 24 1) (h 25) sb1, g7 q (h 24 2) (h 26) sn1, g6 q (h 0 10) (h 27) sW, g4 q (h 0 11) (h 28) sQ, g10 q (h 0 12) (h 29) sE, g1 q (h 0 13) (h 30) sD, g9 q (h 0 14) (h 31) 96 sL, [(oo, .inl (q 2, 1, .inr (.inl (vp_updL fo (0 : Int32).toNatClampNeg r.toInt64))))]] 24 (by decide) rfl rfl rfl rfl rfl rfl GW_ad (fun H locs hP hD hS => ?_)
  refine lv_iload hx hb dL_law_381 (lv_at hl 1 rfl) ?_
  refine lv_icmp_eq (tgt := 388) hx hb dL_law_383 (by decide) (fun _ => ?_) (fun c9 => absurd rfl c9)
  refine lv_iload hx hb dL_law_388 (lv_at hl 1 rfl) ?_
  refine lv_if_ne (tgt := 405) hx hb dL_law_390 (by decide) (fun c9 => absurd rfl c9) (fun _ => ?_)
  refine lv_aload_n hx hb dL_law_393 rfl (lv_at hl 5 rfl) ?_
  refine lv_iconst (v := (0 : Int32)) hx hb dL_law_394 (by decide) ?_
  refine k_lld (f := (vp_updL fo (0 : Int32).toNatClampNeg r.toInt64)) C (flP (gc := [[(oo, .inl (q 2, 1, .inr (.inl (vp_updL fo (0 : Int32).toNatClampNeg r.toInt64))))]]) hP [23] rfl) 0 rfl (by decide) dL_law_395 ?_
  refine k_rnl (y := r.toInt64) (by simp [vp_updL]) ?_
  refine lv_iload hx hb dL_law_396 (lv_at hl 0 rfl) ?_
  refine lv_i2l hx hb dL_law_398 rfl ?_
  refine W.lcmp hx hb dL_law_399 ?_
  refine lv_if_eq (tgt := 405) hx hb dL_law_400 (by decide) (fun _ => ?_) (fun c9 => absurd ((lgc _ _).mpr rfl) c9)
  refine lv_goto (tgt := 1307) hx hb dL_law_405 (by decide) ?_
  exact kk sT sR sP sB sX sN sY sG sH sK sJR s0 sb0 sn0 s1 sb1 sn1 sW sQ sE sD sL (sI sM 0 (nI 0)) (vp_updL fo (0 : Int32).toNatClampNeg r.toInt64) V (rel_0 hrel (nI 0)) H locs ls hP hD hS (lv_sub hl [2, 3, 4, 5, 6] rfl)
set_option maxRecDepth 100000 in
set_option maxHeartbeats 4000000 in
theorem lw_4X (hst : l.stackTraces = false) (hVT : VT A s s.heap) (hVN : VN s) (C : cx p s m args meth c code 7 ret RL D q A) (hX : va_X b L xs s s.heap) (hbl : b < s.heap.size) (hbA : ¬ A b) (hi : i + 6 ≤ L) (hL : L ≤ 3072) (hcs : cells + 1 ≤ 601024 ∧ slots + 6 ≤ 7293034) (hrel : REL sT sR sP sB sN sH sK s0 sb0 sn0 s1 sb1 sn1 sW sQ sE sL sM V) (hP : va_P D vwCl (fl (GW q o om oo h hm sT sR sP sB sX sN sY sG sH sK sJR s0 sb0 sn0 s1 sb1 sn1 sW sQ sE sD sL sM fo)) H) (hD : va_D A (fl (GW q o om oo h hm sT sR sP sB sX sN sY sG sH sK sJR s0 sb0 sn0 s1 sb1 sn1 sW sQ sE sD sL sM fo))) (hS : va_S A s.heap H locs) (hl : lv_has ls 7 [(0, .ref b), (1, .ref o), (2, .ref om), (3, .ref oo), (4, .int (nI i))]) (kk : LWK p l e s m args below meth c D q A Q b i o om oo h hm (cells + 1) (slots + 6)) {z1 z2 : Int32} (e1 : z1 = xs (nI i + nI 1).toNatClampNeg) (e2 : z2 = xs (nI i + nI 2).toNatClampNeg) {r : Int32} (f1 : F_X11_person sB z1 z2 = some none) (f2 : F_X12_person sM z1 z2 = some (r, sI sM 0 (nI 1))) : W p l e room_1 s m args below meth c H locs cells slots Q (F0 m 340 ls []) := by
  obtain ⟨hx, hb, hr, hml, hown, hts, hlk, hA, hK, hN, hV⟩ := id C
  have hf0 : (cells + 1) + 0 ≤ room_1.cells ∧ (slots + 6) + 0 ≤ room_1.slots := ⟨hcs.1, hcs.2⟩
  refine lv_aload_n hx hb dL_law_340 rfl (lv_at hl 1 rfl) ?_
  refine lv_aload_n hx hb dL_law_341 rfl (lv_at hl 0 rfl) ?_
  refine lv_iload hx hb dL_law_342 (lv_at hl 4 rfl) ?_
  refine lv_iconst (v := nI 1) hx hb dL_law_344 (by decide) ?_
  refine lv_iadd hx hb dL_law_345 ?_
  refine va_sld hx hb hX hbl hbA hS (lw_in (k := 1) (by omega) hL) dL_law_346 ?_
  refine k_rni e1 ?_
  refine lv_aload_n hx hb dL_law_347 rfl (lv_at hl 0 rfl) ?_
  refine lv_iload hx hb dL_law_348 (lv_at hl 4 rfl) ?_
  refine lv_iconst (v := nI 2) hx hb dL_law_350 (by decide) ?_
  refine lv_iadd hx hb dL_law_351 ?_
  refine va_sld hx hb hX hbl hbA hS (lw_in (k := 2) (by omega) hL) dL_law_352 ?_
  refine k_rni e2 ?_
  refine lv_aload_n hx hb dL_law_353 rfl (lv_at hl 3 rfl) ?_
  refine k_xgrpC (gs8 := GW q o om oo h hm sT sR sP sB sX sN sY sG sH sK sJR s0 sb0 sn0 s1 sb1 sn1 sW sQ sE sD sL sM fo) C (k_rSX (As := [.ref o, .int z1, .int z2, .ref oo]) (rest := []) C hVT hVN (c_L_personX l hst D q (h 1 0) o (h 0) sT (h 4) sB oo fo _ z1 z2 f1) (by decide) (flP hP [0, 3, 23] rfl) (flD hD [0, 3, 23] (by decide) rfl) hS rfl hl.1 rfl (Nat.le_of_ble_eq_true rfl) dL_law_354 ⟨hcs.1, hcs.2⟩) hP hD hS [0, 3, 23] [1, 2, 4, 5, 6, 7, 8, 9, 10, 11, 12, 13, 14, 15, 16, 17, 18, 19, 20, 21, 22] [g5 q (h 0 1) (h 2) (h 1 0) sR, g9 q (h 1 0) (h 3) 940 sP, g8 q (h 0 4) (h 5) sX, g7 q (h 0 5) (h 6) sN, g7 q (h 0 6) (h 7) sY, g0 q (h 0 7) (h 8) sG, g2 q (h 0 8) (h 9) sH, g20 q (h 9 1) (h 10) (fun i => h (11 + i)) sK, g21 q (h 0 9) (h 20) sJR, g3 q (h 20 0) (h 21) s0, g8 q (h 21 1) (h 22) sb0, g7 q (h 21 2) (h 23) sn0, g3 q (h 20 1) (h 24) s1, g8 q (h 24 1) (h 25) sb1, g7 q (h 24 2) (h 26) sn1, g6 q (h 0 10) (h 27) sW, g4 q (h 0 11) (h 28) sQ, g10 q (h 0 12) (h 29) sE, g1 q (h 0 13) (h 30) sD, g9 q (h 0 14) (h 31) 96 sL, g12 q om hm sM] 24 (by decide) rfl rfl rfl rfl rfl rfl GW_ad (fun H locs hP hD hS => ?_)
  refine lv_istore (lv' := [(5, .int (1 : Int32)), (0, .ref b), (1, .ref o), (2, .ref om), (3, .ref oo), (4, .int (nI i))]) hx hb dL_law_357 hl (by decide) rfl (fun ls hl => ?_)
  refine lv_aload_n hx hb dL_law_359 rfl (lv_at hl 3 rfl) ?_
  refine lv_aload_n hx hb dL_law_360 rfl (lv_at hl 1 rfl) ?_
  refine lv_iload hx hb dL_law_361 (lv_at hl 5 rfl) ?_
  refine lv_iconst (v := nI 1) hx hb dL_law_363 (by decide) ?_
  refine lv_iadd hx hb dL_law_364 ?_
  refine va_sld hx hb hX hbl hbA hS (lw_in (k := 1) (by omega) hL) dL_law_365 ?_
  refine k_rni e1 ?_
  refine lv_aload_n hx hb dL_law_366 rfl (lv_at hl 1 rfl) ?_
  refine lv_iload hx hb dL_law_367 (lv_at hl 5 rfl) ?_
  refine lv_iconst (v := nI 2) hx hb dL_law_369 (by decide) ?_
  refine lv_iadd hx hb dL_law_370 ?_
  refine va_sld hx hb hX hbl hbA hS (lw_in (k := 2) (by omega) hL) dL_law_371 ?_
  refine k_rni e2 ?_
  refine k_igrpC (gs8 := GW q o om oo h hm sT sR sP sB sX sN sY sG sH sK sJR s0 sb0 sn0 s1 sb1 sn1 sW sQ sE sD sL (sI sM 0 (nI 1)) fo) C (k_rV (As := [.int z1, .int z2]) (rest := []) C (c_X12_person l D q om hm sM _ z1 z2 f2) kc_X12_person ml_L_43 rfl rfl (by decide) (flP hP [22] rfl) (flD hD [22] (by decide) rfl) hS (va_recv hK (flP (gc := [g12 q om hm sM]) hP [22] rfl) (ci := 12) (q0 := 0) rfl rfl) rfl hl.1 rfl (Nat.le_of_ble_eq_true rfl) dL_law_372 hf0) hP hD hS [22] [0, 1, 2, 3, 4, 5, 6, 7, 8, 9, 10, 11, 12, 13, 14, 15, 16, 17, 18, 19, 20, 21, 23] [g11 q o (h 0) (h 1 0) sT, g5 q (h 0 1) (h 2) (h 1 0) sR, g9 q (h 1 0) (h 3) 940 sP, g8 q (h 0 3) (h 4) sB, g8 q (h 0 4) (h 5) sX, g7 q (h 0 5) (h 6) sN, g7 q (h 0 6) (h 7) sY, g0 q (h 0 7) (h 8) sG, g2 q (h 0 8) (h 9) sH, g20 q (h 9 1) (h 10) (fun i => h (11 + i)) sK, g21 q (h 0 9) (h 20) sJR, g3 q (h 20 0) (h 21) s0, g8 q (h 21 1) (h 22) sb0, g7 q (h 21 2) (h 23) sn0, g3 q (h 20 1) (h 24) s1, g8 q (h 24 1) (h 25) sb1, g7 q (h 24 2) (h 26) sn1, g6 q (h 0 10) (h 27) sW, g4 q (h 0 11) (h 28) sQ, g10 q (h 0 12) (h 29) sE, g1 q (h 0 13) (h 30) sD, g9 q (h 0 14) (h 31) 96 sL, [(oo, .inl (q 2, 1, .inr (.inl fo)))]] 24 (by decide) rfl rfl rfl rfl rfl rfl GW_ad (fun H locs hP hD hS => ?_)
  refine lv_istore (lv' := [(6, .int r), (5, .int (1 : Int32)), (0, .ref b), (1, .ref o), (2, .ref om), (3, .ref oo), (4, .int (nI i))]) hx hb dL_law_375 hl (by decide) rfl (fun ls hl => ?_)
  refine lv_aload_n hx hb dL_law_377 rfl (lv_at hl 4 rfl) ?_
  refine k_igrpC (gs8 := GW q o om oo h hm sT sR sP sB sX sN sY sG sH sK sJR s0 sb0 sn0 s1 sb1 sn1 sW sQ sE sD sL (sI sM 0 (nI 1)) fo) C (k_rV (As := []) (rest := []) C (c_X12_thrown l D q om hm (sI sM 0 (nI 1)) _ (r := nI 1) rfl) kc_X12_thrown ml_L_44 rfl rfl (by decide) (flP hP [22] rfl) (flD hD [22] (by decide) rfl) hS (va_recv hK (flP (gc := [g12 q om hm (sI sM 0 (nI 1))]) hP [22] rfl) (ci := 12) (q0 := 0) rfl rfl) rfl hl.1 rfl (Nat.le_of_ble_eq_true rfl) dL_law_378 hf0) hP hD hS [22] [0, 1, 2, 3, 4, 5, 6, 7, 8, 9, 10, 11, 12, 13, 14, 15, 16, 17, 18, 19, 20, 21, 23] [g11 q o (h 0) (h 1 0) sT, g5 q (h 0 1) (h 2) (h 1 0) sR, g9 q (h 1 0) (h 3) 940 sP, g8 q (h 0 3) (h 4) sB, g8 q (h 0 4) (h 5) sX, g7 q (h 0 5) (h 6) sN, g7 q (h 0 6) (h 7) sY, g0 q (h 0 7) (h 8) sG, g2 q (h 0 8) (h 9) sH, g20 q (h 9 1) (h 10) (fun i => h (11 + i)) sK, g21 q (h 0 9) (h 20) sJR, g3 q (h 20 0) (h 21) s0, g8 q (h 21 1) (h 22) sb0, g7 q (h 21 2) (h 23) sn0, g3 q (h 20 1) (h 24) s1, g8 q (h 24 1) (h 25) sb1, g7 q (h 24 2) (h 26) sn1, g6 q (h 0 10) (h 27) sW, g4 q (h 0 11) (h 28) sQ, g10 q (h 0 12) (h 29) sE, g1 q (h 0 13) (h 30) sD, g9 q (h 0 14) (h 31) 96 sL, [(oo, .inl (q 2, 1, .inr (.inl fo)))]] 24 (by decide) rfl rfl rfl rfl rfl rfl GW_ad (fun H locs hP hD hS => ?_)
  refine lv_iload hx hb dL_law_381 (lv_at hl 1 rfl) ?_
  refine lv_icmp_eq (tgt := 388) hx hb dL_law_383 (by decide) (fun _ => ?_) (fun c9 => absurd rfl c9)
  refine lv_iload hx hb dL_law_388 (lv_at hl 1 rfl) ?_
  refine lv_if_ne (tgt := 405) hx hb dL_law_390 (by decide) (fun _ => ?_) (fun c9 => absurd c9 (by decide))
  refine lv_goto (tgt := 1307) hx hb dL_law_405 (by decide) ?_
  exact kk sT sR sP sB sX sN sY sG sH sK sJR s0 sb0 sn0 s1 sb1 sn1 sW sQ sE sD sL (sI sM 0 (nI 1)) fo V (rel_0 hrel (nI 1)) H locs ls hP hD hS (lv_sub hl [2, 3, 4, 5, 6] rfl)
theorem lw_4 (hst : l.stackTraces = false) (hVT : VT A s s.heap) (hVN : VN s) (C : cx p s m args meth c code 7 ret RL D q A) (hX : va_X b L xs s s.heap) (hbl : b < s.heap.size) (hbA : ¬ A b) (hi : i + 6 ≤ L) (hL : L ≤ 3072) (hcs : cells + 1 ≤ 601024 ∧ slots + 6 ≤ 7293034) (hrel : REL sT sR sP sB sN sH sK s0 sb0 sn0 s1 sb1 sn1 sW sQ sE sL sM V) (hP : va_P D vwCl (fl (GW q o om oo h hm sT sR sP sB sX sN sY sG sH sK sJR s0 sb0 sn0 s1 sb1 sn1 sW sQ sE sD sL sM fo)) H) (hD : va_D A (fl (GW q o om oo h hm sT sR sP sB sX sN sY sG sH sK sJR s0 sb0 sn0 s1 sb1 sn1 sW sQ sE sD sL sM fo))) (hS : va_S A s.heap H locs) (hl : lv_has ls 7 [(0, .ref b), (1, .ref o), (2, .ref om), (3, .ref oo), (4, .int (nI i))]) (kk : LWK p l e s m args below meth c D q A Q b i o om oo h hm (cells + 1) (slots + 6)) : W p l e room_1 s m args below meth c H locs cells slots Q (F0 m 340 ls []) := by
  rcases p_person hrel.1.1 hrel.1.2.1 hrel.1.2.2.1 (xs (nI i + nI 1).toNatClampNeg) (xs (nI i + nI 2).toNatClampNeg) with ⟨r, f1, f2⟩ | ⟨r, f1, f2⟩
  · exact lw_4R hst hVT hVN C hX hbl hbA hi hL hcs hrel hP hD hS hl kk rfl rfl f1 f2
  · exact lw_4X hst hVT hVN C hX hbl hbA hi hL hcs hrel hP hD hS hl kk rfl rfl f1 f2
end LP2
