/-! the law, call by call -/
section LW1
variable {p : Program} {l : Launch} {e : Env} {s : State} {m : MethodId} {args : Array Value} {below : List Frame} {meth : Method} {c : Code} {D : va_G} {q : Nat → ClassId} {A : Nat → Prop} {Q : State → Prop} {b L i o om oo : Nat} {xs : Nat → Int32} {h : Nat → Nat → Nat} {hm : Nat → Nat} {sT sR sP sB sX sN sY sG sH sI s0 sb0 sn0 s1 sb1 sn1 sW sQ sE sD sL sM : St} {sK : KSt} {fo : Nat → Int64} {V : Vt} {H : Heap} {locs : List Loc} {ls : Array Slot} {cells slots : Nat}
set_option maxRecDepth 100000 in
set_option maxHeartbeats 4000000 in
theorem lw_0 (C : cx p s m args meth c code 7 ret RL D q A) (hX : va_X b L xs s s.heap) (hbl : b < s.heap.size) (hbA : ¬ A b) (hi : i + 6 ≤ L) (hL : L ≤ 3072) (hcs : cells + 1 ≤ 601024 ∧ slots + 6 ≤ 7293034) (hrel : REL sT sR sP sB sN sH sK s0 sb0 sn0 s1 sb1 sn1 sW sQ sE sL sM V) (hP : va_P D vwCl (fl (GW q o om oo h hm sT sR sP sB sX sN sY sG sH sK sI s0 sb0 sn0 s1 sb1 sn1 sW sQ sE sD sL sM fo)) H) (hD : va_D A (fl (GW q o om oo h hm sT sR sP sB sX sN sY sG sH sK sI s0 sb0 sn0 s1 sb1 sn1 sW sQ sE sD sL sM fo))) (hS : va_S A s.heap H locs) (hl : lv_has ls 7 [(0, .ref b), (1, .ref o), (2, .ref om), (3, .ref oo), (4, .int (nI i))]) (kk : LWK p l e s m args below meth c D q A Q b i o om oo h hm (cells + 1) (slots + 6)) : W p l e room_1 s m args below meth c H locs cells slots Q (F0 m 216 ls []) := by
  obtain ⟨⟨hS0, hM0, hw0, hN0, hC0, hH0⟩, hT0, h15, hRC, hTo, hSo, hMd, hPa, hTe, hLt, hRW, hMW, hI0, hI1⟩ := id hrel
  obtain ⟨hx, hb, hr, hml, hown, hts, hlk, hA, hK, hN, hV⟩ := id C
  have hf0 : cells + 0 ≤ room_1.cells ∧ slots + 0 ≤ room_1.slots := ⟨Nat.le_of_succ_le hcs.1, by show slots + 0 ≤ 7293034; omega⟩
  obtain ⟨z1, e1⟩ : ∃ z, z = xs (nI i + nI 1).toNatClampNeg := ⟨_, rfl⟩
  obtain ⟨z2, e2⟩ : ∃ z, z = xs (nI i + nI 2).toNatClampNeg := ⟨_, rfl⟩
  obtain ⟨z3, e3⟩ : ∃ z, z = xs (nI i + nI 3).toNatClampNeg := ⟨_, rfl⟩
  obtain ⟨z4, e4⟩ : ∃ z, z = xs (nI i + nI 4).toNatClampNeg := ⟨_, rfl⟩
  obtain ⟨z5, e5⟩ : ∃ z, z = xs (nI i + nI 5).toNatClampNeg := ⟨_, rfl⟩
  obtain ⟨r, P', M', f1, f2, c1, c2⟩ := p_feed (T := sT) hT0 z1 z2 z3 z4 z5
  refine lv_aload_n hx hb dL_law_216 rfl (lv_at hl 1 rfl) ?_
  refine lv_aload_n hx hb dL_law_217 rfl (lv_at hl 0 rfl) ?_
  refine lv_iload hx hb dL_law_218 (lv_at hl 4 rfl) ?_
  refine lv_iconst (v := nI 1) hx hb dL_law_220 (by decide) ?_
  refine lv_iadd hx hb dL_law_221 ?_
  refine va_sld hx hb hX hbl hbA hS (lw_in (k := 1) (by omega) hL) dL_law_222 ?_
  refine k_rni e1 ?_
  refine lv_aload_n hx hb dL_law_223 rfl (lv_at hl 0 rfl) ?_
  refine lv_iload hx hb dL_law_224 (lv_at hl 4 rfl) ?_
  refine lv_iconst (v := nI 2) hx hb dL_law_226 (by decide) ?_
  refine lv_iadd hx hb dL_law_227 ?_
  refine va_sld hx hb hX hbl hbA hS (lw_in (k := 2) (by omega) hL) dL_law_228 ?_
  refine k_rni e2 ?_
  refine lv_aload_n hx hb dL_law_229 rfl (lv_at hl 0 rfl) ?_
  refine lv_iload hx hb dL_law_230 (lv_at hl 4 rfl) ?_
  refine lv_iconst (v := nI 3) hx hb dL_law_232 (by decide) ?_
  refine lv_iadd hx hb dL_law_233 ?_
  refine va_sld hx hb hX hbl hbA hS (lw_in (k := 3) (by omega) hL) dL_law_234 ?_
  refine k_rni e3 ?_
  refine lv_aload_n hx hb dL_law_235 rfl (lv_at hl 0 rfl) ?_
  refine lv_iload hx hb dL_law_236 (lv_at hl 4 rfl) ?_
  refine lv_iconst (v := nI 4) hx hb dL_law_238 (by decide) ?_
  refine lv_iadd hx hb dL_law_239 ?_
  refine va_sld hx hb hX hbl hbA hS (lw_in (k := 4) (by omega) hL) dL_law_240 ?_
  refine k_rni e4 ?_
  refine lv_aload_n hx hb dL_law_241 rfl (lv_at hl 0 rfl) ?_
  refine lv_iload hx hb dL_law_242 (lv_at hl 4 rfl) ?_
  refine lv_iconst (v := nI 5) hx hb dL_law_244 (by decide) ?_
  refine lv_iadd hx hb dL_law_245 ?_
  refine va_sld hx hb hX hbl hbA hS (lw_in (k := 5) (by omega) hL) dL_law_246 ?_
  refine k_rni e5 ?_
  refine k_igrpC (gs8 := GW q o om oo h hm sT sR P' sB sX sN sY sG sH sK sI s0 sb0 sn0 s1 sb1 sn1 sW sQ sE sD sL sM fo) C (k_rV (As := [.int z1, .int z2, .int z3, .int z4, .int z5]) (rest := []) C (c_X11_feed l D q (h 1 0) o (h 0) sT (h 3) sP _ z1 z2 z3 z4 z5 f1) kc_X11_feed ml_L_19 rfl rfl (by decide) (flP hP [0, 2] rfl) (flD hD [0, 2] (by decide) rfl) hS (va_recv hK (flP (gc := [g11 q o (h 0) (h 1 0) sT]) hP [0] rfl) (ci := 11) (q0 := 0) rfl rfl) rfl hl.1 rfl (Nat.le_of_ble_eq_true rfl) dL_law_247 hf0) hP hD hS [0, 2] [1, 3, 4, 5, 6, 7, 8, 9, 10, 11, 12, 13, 14, 15, 16, 17, 18, 19, 20, 21, 22, 23] [g5 q (h 0 1) (h 2) (h 1 0) sR, g8 q (h 0 3) (h 4) sB, g8 q (h 0 4) (h 5) sX, g7 q (h 0 5) (h 6) sN, g7 q (h 0 6) (h 7) sY, g0 q (h 0 7) (h 8) sG, g2 q (h 0 8) (h 9) sH, g20 q (h 9 1) (h 10) (fun i => h (11 + i)) sK, g21 q (h 0 9) (h 20) sI, g3 q (h 20 0) (h 21) s0, g8 q (h 21 1) (h 22) sb0, g7 q (h 21 2) (h 23) sn0, g3 q (h 20 1) (h 24) s1, g8 q (h 24 1) (h 25) sb1, g7 q (h 24 2) (h 26) sn1, g6 q (h 0 10) (h 27) sW, g4 q (h 0 11) (h 28) sQ, g10 q (h 0 12) (h 29) sE, g1 q (h 0 13) (h 30) sD, g9 q (h 0 14) (h 31) 96 sL, g12 q om hm sM, [(oo, .inl (q 2, 1, .inr (.inl fo)))]] 24 (by decide) rfl rfl rfl rfl rfl rfl GW_ad (fun H locs hP hD hS => ?_)
  refine lv_aload_n hx hb dL_law_250 rfl (lv_at hl 2 rfl) ?_
  refine lv_aload_n hx hb dL_law_251 rfl (lv_at hl 0 rfl) ?_
  refine lv_iload hx hb dL_law_252 (lv_at hl 4 rfl) ?_
  refine lv_iconst (v := nI 1) hx hb dL_law_254 (by decide) ?_
  refine lv_iadd hx hb dL_law_255 ?_
  refine va_sld hx hb hX hbl hbA hS (lw_in (k := 1) (by omega) hL) dL_law_256 ?_
  refine k_rni e1 ?_
  refine lv_aload_n hx hb dL_law_257 rfl (lv_at hl 0 rfl) ?_
  refine lv_iload hx hb dL_law_258 (lv_at hl 4 rfl) ?_
  refine lv_iconst (v := nI 2) hx hb dL_law_260 (by decide) ?_
  refine lv_iadd hx hb dL_law_261 ?_
  refine va_sld hx hb hX hbl hbA hS (lw_in (k := 2) (by omega) hL) dL_law_262 ?_
  refine k_rni e2 ?_
  refine lv_aload_n hx hb dL_law_263 rfl (lv_at hl 0 rfl) ?_
  refine lv_iload hx hb dL_law_264 (lv_at hl 4 rfl) ?_
  refine lv_iconst (v := nI 3) hx hb dL_law_266 (by decide) ?_
  refine lv_iadd hx hb dL_law_267 ?_
  refine va_sld hx hb hX hbl hbA hS (lw_in (k := 3) (by omega) hL) dL_law_268 ?_
  refine k_rni e3 ?_
  refine lv_aload_n hx hb dL_law_269 rfl (lv_at hl 0 rfl) ?_
  refine lv_iload hx hb dL_law_270 (lv_at hl 4 rfl) ?_
  refine lv_iconst (v := nI 4) hx hb dL_law_272 (by decide) ?_
  refine lv_iadd hx hb dL_law_273 ?_
  refine va_sld hx hb hX hbl hbA hS (lw_in (k := 4) (by omega) hL) dL_law_274 ?_
  refine k_rni e4 ?_
  refine lv_aload_n hx hb dL_law_275 rfl (lv_at hl 0 rfl) ?_
  refine lv_iload hx hb dL_law_276 (lv_at hl 4 rfl) ?_
  refine lv_iconst (v := nI 5) hx hb dL_law_278 (by decide) ?_
  refine lv_iadd hx hb dL_law_279 ?_
  refine va_sld hx hb hX hbl hbA hS (lw_in (k := 5) (by omega) hL) dL_law_280 ?_
  refine k_rni e5 ?_
  refine k_igrpC (gs8 := GW q o om oo h hm sT sR P' sB sX sN sY sG sH sK sI s0 sb0 sn0 s1 sb1 sn1 sW sQ sE sD sL M' fo) C (k_rV (As := [.int z1, .int z2, .int z3, .int z4, .int z5]) (rest := [.int r]) C (c_X12_feed l D q om hm sM _ z1 z2 z3 z4 z5 f2) kc_X12_feed ml_L_23 rfl rfl (by decide) (flP hP [22] rfl) (flD hD [22] (by decide) rfl) hS (va_recv hK (flP (gc := [g12 q om hm sM]) hP [22] rfl) (ci := 12) (q0 := 0) rfl rfl) rfl hl.1 rfl (Nat.le_of_ble_eq_true rfl) dL_law_281 hf0) hP hD hS [22] [0, 1, 2, 3, 4, 5, 6, 7, 8, 9, 10, 11, 12, 13, 14, 15, 16, 17, 18, 19, 20, 21, 23] [g11 q o (h 0) (h 1 0) sT, g5 q (h 0 1) (h 2) (h 1 0) sR, g9 q (h 1 0) (h 3) 940 P', g8 q (h 0 3) (h 4) sB, g8 q (h 0 4) (h 5) sX, g7 q (h 0 5) (h 6) sN, g7 q (h 0 6) (h 7) sY, g0 q (h 0 7) (h 8) sG, g2 q (h 0 8) (h 9) sH, g20 q (h 9 1) (h 10) (fun i => h (11 + i)) sK, g21 q (h 0 9) (h 20) sI, g3 q (h 20 0) (h 21) s0, g8 q (h 21 1) (h 22) sb0, g7 q (h 21 2) (h 23) sn0, g3 q (h 20 1) (h 24) s1, g8 q (h 24 1) (h 25) sb1, g7 q (h 24 2) (h 26) sn1, g6 q (h 0 10) (h 27) sW, g4 q (h 0 11) (h 28) sQ, g10 q (h 0 12) (h 29) sE, g1 q (h 0 13) (h 30) sD, g9 q (h 0 14) (h 31) 96 sL, [(oo, .inl (q 2, 1, .inr (.inl fo)))]] 24 (by decide) rfl rfl rfl rfl rfl rfl GW_ad (fun H locs hP hD hS => ?_)
  refine lv_icmp_eq (tgt := 1307) hx hb dL_law_284 (by decide) (fun _ => ?_) (fun c9 => absurd rfl c9)
  refine W.widen (k := cells + 1) (n := slots + 6) (by omega) (by omega) ?_
  exact kk sT sR P' sB sX sN sY sG sH sK sI s0 sb0 sn0 s1 sb1 sn1 sW sQ sE sD sL M' fo V (rel_fed hrel c1 c2) H locs ls hP hD hS hl
end LW1
