/-! the law, call by call -/
section LW1
variable {p : Program} {l : Launch} {e : Env} {s : State} {m : MethodId} {args : Array Value} {below : List Frame} {meth : Method} {c : Code} {D : va_G} {q : Nat → ClassId} {A : Nat → Prop} {Q : State → Prop} {b L i o om oo : Nat} {xs : Nat → Int32} {h : Nat → Nat → Nat} {hm : Nat → Nat} {sT sR sP sB sX sN sY sG sH sJR s0 sb0 sn0 s1 sb1 sn1 sW sQ sE sD sL sM : St} {sK : KSt} {fo : Nat → Int64} {V : Vt} {H : Heap} {locs : List Loc} {ls : Array Slot} {cells slots : Nat}
set_option maxRecDepth 100000 in
set_option maxHeartbeats 4000000 in
theorem lw_0 (C : cx p s m args meth c code 7 ret RL D q A) (hX : va_X b L xs s s.heap) (hbl : b < s.heap.size) (hbA : ¬ A b) (hi : i + 6 ≤ L) (hL : L ≤ 3072) (hcs : cells + 1 ≤ 601024 ∧ slots + 6 ≤ 7293034) (hrel : REL sT sR sP sB sN sH sK s0 sb0 sn0 s1 sb1 sn1 sW sQ sE sL sM V) (hP : va_P D vwCl (fl (GW q o om oo h hm sT sR sP sB sX sN sY sG sH sK sJR s0 sb0 sn0 s1 sb1 sn1 sW sQ sE sD sL sM fo)) H) (hD : va_D A (fl (GW q o om oo h hm sT sR sP sB sX sN sY sG sH sK sJR s0 sb0 sn0 s1 sb1 sn1 sW sQ sE sD sL sM fo))) (hS : va_S A s.heap H locs) (hl : lv_has ls 7 [(0, .ref b), (1, .ref o), (2, .ref om), (3, .ref oo), (4, .int (nI i))]) (kk : LWK p l e s m args below meth c D q A Q b i o om oo h hm (cells + 1) (slots + 6)) : W p l e room_1 s m args below meth c H locs cells slots Q (F0 m 216 ls []) := by
  obtain ⟨⟨hS0, hM0, hw0, hN0, hC0, hH0⟩, hT0, h15, hRC, hTo, hSo, hMd, hPa, hTe, hLt, hRW, hMW, hI0, hI1⟩ := id hrel
  obtain ⟨hx, hb, hr, hml, hown, hts, hlk, hA, hK, hN, hV⟩ := id C
  have hf0 : cells + 0 ≤ room_1.cells ∧ slots + 0 ≤ room_1.slots := ⟨Nat.le_of_succ_le hcs.1, by show slots + 0 ≤ 7293034; omega⟩
  obtain ⟨z1, e1⟩ : ∃ z, z = xs (nI i + nI 1).toNatClampNeg := ⟨_, rfl⟩
  obtain ⟨z2, e2⟩ : ∃ z, z = xs (nI i + nI 2).toNatClampNeg := ⟨_, rfl⟩
  obtain ⟨z3, e3⟩ : ∃ z, z = xs (nI i + nI 3).toNatClampNeg := ⟨_, rfl⟩
  obtain ⟨z4, e4⟩ : ∃ z, z = xs (nI i + nI 4).toNatClampNeg := ⟨_, rfl⟩
  obtain ⟨z5, e5⟩ : ∃ z, z = xs (nI i + nI 5).toNatClampNeg := ⟨_, rfl⟩
  obtain ⟨r, P', M', f1, f2, c1, c2⟩ := p_feed (T := sT) hT0 z1 z2 z3 z4 z5
  refine lv_aload_n hx hb dL_law_216 rfl (lv_at hl 1 rfl) ?_
  refine lv_aload_n hx hb dL_law_217 rfl (lv_at hl 0 rfl) ?_
  refine lv_iload hx hb dL_law_218 (lv_at hl 4 rfl) ?_
  refine lv_iconst (v := nI 1) hx hb dL_law_220 (by decide) ?_
  refine lv_iadd hx hb dL_law_221 ?_
  refine va_sld hx hb hX hbl hbA hS (lw_in (k := 1) (by omega) hL) dL_law_222 ?_
  refine k_rni e1 ?_
  refine lv_aload_n hx hb dL_law_223 rfl (lv_at hl 0 rfl) ?_
  refine lv_iload hx hb dL_law_224 (lv_at hl 4 rfl) ?_
  refine lv_iconst (v := nI 2) hx hb dL_law_226 (by decide) ?_
  refine lv_iadd hx hb dL_law_227 ?_
  refine va_sld hx hb hX hbl hbA hS (lw_in (k := 2) (by omega) hL) dL_law_228 ?_
  refine k_rni e2 ?_
  refine lv_aload_n hx hb dL_law_229 rfl (lv_at hl 0 rfl) ?_
  refine lv_iload hx hb dL_law_230 (lv_at hl 4 rfl) ?_
  refine lv_iconst (v := nI 3) hx hb dL_law_232 (by decide) ?_
  refine lv_iadd hx hb dL_law_233 ?_
  refine va_sld hx hb hX hbl hbA hS (lw_in (k := 3) (by omega) hL) dL_law_234 ?_
  refine k_rni e3 ?_
  refine lv_aload_n hx hb dL_law_235 rfl (lv_at hl 0 rfl) ?_
  refine lv_iload hx hb dL_law_236 (lv_at hl 4 rfl) ?_
  refine lv_iconst (v := nI 4) hx hb dL_law_238 (by decide) ?_
  refine lv_iadd hx hb dL_law_239 ?_
  refine va_sld hx hb hX hbl hbA hS (lw_in (k := 4) (by omega) hL) dL_law_240 ?_
  refine k_rni e4 ?_
  refine lv_aload_n hx hb dL_law_241 rfl (lv_at hl 0 rfl) ?_
  refine lv_iload hx hb dL_law_242 (lv_at hl 4 rfl) ?_
  refine lv_iconst (v := nI 5) hx hb dL_law_244 (by decide) ?_
  refine lv_iadd hx hb dL_law_245 ?_
  refine va_sld hx hb hX hbl hbA hS (lw_in (k := 5) (by omega) hL) dL_law_246 ?_
  refine k_rni e5 ?_
  refine k_igrpC (gs8 := GW q o om oo h hm sT sR P' sB sX sN sY sG sH sK sJR s0 sb0 sn0 s1 sb1 sn1 sW sQ sE sD sL sM fo) C (k_rV (As := [.int z1, .int z2, .int z3, .int z4, .int z5]) (rest := []) C (c_X11_feed l D q (h 1 0) o (h 0) sT (h 3) sP _ z1 z2 z3 z4 z5 f1) kc_X11_feed ml_L_19 rfl rfl (by decide) (flP hP [0, 2] rfl) (flD hD [0, 2] (by decide) rfl) hS (va_recv hK (flP (gc := [g11 q o (h 0) (h 1 0) sT]) hP [0] rfl) (ci := 11) (q0 := 0) rfl rfl) rfl hl.1 rfl (Nat.le_of_ble_eq_true rfl) dL_law_247 hf0) hP hD hS [0, 2] [1, 3, 4, 5, 6, 7, 8, 9, 10, 11, 12, 13, 14, 15, 16, 17, 18, 19, 20, 21, 22, 23] [g5 q (h 0 1) (h 2) (h 1 0) sR, g8 q (h 0 3) (h 4) sB, g8 q (h 0 4) (h 5) sX, g7 q (h 0 5) (h 6) sN, g7 q (h 0 6) (h 7) sY, g0 q (h 0 7) (h 8) sG, g2 q (h 0 8) (h 9) sH, g20 q (h 9 1) (h 10) (fun i => h (11 + i)) sK, g21 q (h 0 9) (h 20) sJR, g3 q (h 20 0) (h 21) s0, g8 q (h 21 1) (h 22) sb0, g7 q (h 21 2) (h 23) sn0, g3 q (h 20 1) (h 24) s1, g8 q (h 24 1) (h 25) sb1, g7 q (h 24 2) (h 26) sn1, g6 q (h 0 10) (h 27) sW, g4 q (h 0 11) (h 28) sQ, g10 q (h 0 12) (h 29) sE, g1 q (h 0 13) (h 30) sD, g9 q (h 0 14) (h 31) 96 sL, g12 q om hm sM, [(oo, .inl (q 2, 1, .inr (.inl fo)))]] 24 (by decide) rfl rfl rfl rfl rfl rfl GW_ad (fun H locs hP hD hS => ?_)
  refine lv_aload_n hx hb dL_law_250 rfl (lv_at hl 2 rfl) ?_
  refine lv_aload_n hx hb dL_law_251 rfl (lv_at hl 0 rfl) ?_
  refine lv_iload hx hb dL_law_252 (lv_at hl 4 rfl) ?_
  refine lv_iconst (v := nI 1) hx hb dL_law_254 (by decide) ?_
  refine lv_iadd hx hb dL_law_255 ?_
  refine va_sld hx hb hX hbl hbA hS (lw_in (k := 1) (by omega) hL) dL_law_256 ?_
  refine k_rni e1 ?_
  refine lv_aload_n hx hb dL_law_257 rfl (lv_at hl 0 rfl) ?_
  refine lv_iload hx hb dL_law_258 (lv_at hl 4 rfl) ?_
  refine lv_iconst (v := nI 2) hx hb dL_law_260 (by decide) ?_
  refine lv_iadd hx hb dL_law_261 ?_
  refine va_sld hx hb hX hbl hbA hS (lw_in (k := 2) (by omega) hL) dL_law_262 ?_
  refine k_rni e2 ?_
  refine lv_aload_n hx hb dL_law_263 rfl (lv_at hl 0 rfl) ?_
  refine lv_iload hx hb dL_law_264 (lv_at hl 4 rfl) ?_
  refine lv_iconst (v := nI 3) hx hb dL_law_266 (by decide) ?_
  refine lv_iadd hx hb dL_law_267 ?_
  refine va_sld hx hb hX hbl hbA hS (lw_in (k := 3) (by omega) hL) dL_law_268 ?_
  refine k_rni e3 ?_
  refine lv_aload_n hx hb dL_law_269 rfl (lv_at hl 0 rfl) ?_
  refine lv_iload hx hb dL_law_270 (lv_at hl 4 rfl) ?_
  refine lv_iconst (v := nI 4) hx hb dL_law_272 (by decide) ?_
  refine lv_iadd hx hb dL_law_273 ?_
  refine va_sld hx hb hX hbl hbA hS (lw_in (k := 4) (by omega) hL) dL_law_274 ?_
  refine k_rni e4 ?_
  refine lv_aload_n hx hb dL_law_275 rfl (lv_at hl 0 rfl) ?_
  refine lv_iload hx hb dL_law_276 (lv_at hl 4 rfl) ?_
  refine lv_iconst (v := nI 5) hx hb dL_law_278 (by decide) ?_
  refine lv_iadd hx hb dL_law_279 ?_
  refine va_sld hx hb hX hbl hbA hS (lw_in (k := 5) (by omega) hL) dL_law_280 ?_
  refine k_rni e5 ?_
  refine k_igrpC (gs8 := GW q o om oo h hm sT sR P' sB sX sN sY sG sH sK sJR s0 sb0 sn0 s1 sb1 sn1 sW sQ sE sD sL M' fo) C (k_rV (As := [.int z1, .int z2, .int z3, .int z4, .int z5]) (rest := [.int r]) C (c_X12_feed l D q om hm sM _ z1 z2 z3 z4 z5 f2) kc_X12_feed ml_L_23 rfl rfl (by decide) (flP hP [22] rfl) (flD hD [22] (by decide) rfl) hS (va_recv hK (flP (gc := [g12 q om hm sM]) hP [22] rfl) (ci := 12) (q0 := 0) rfl rfl) rfl hl.1 rfl (Nat.le_of_ble_eq_true rfl) dL_law_281 hf0) hP hD hS [22] [0, 1, 2, 3, 4, 5, 6, 7, 8, 9, 10, 11, 12, 13, 14, 15, 16, 17, 18, 19, 20, 21, 23] [g11 q o (h 0) (h 1 0) sT, g5 q (h 0 1) (h 2) (h 1 0) sR, g9 q (h 1 0) (h 3) 940 P', g8 q (h 0 3) (h 4) sB, g8 q (h 0 4) (h 5) sX, g7 q (h 0 5) (h 6) sN, g7 q (h 0 6) (h 7) sY, g0 q (h 0 7) (h 8) sG, g2 q (h 0 8) (h 9) sH, g20 q (h 9 1) (h 10) (fun i => h (11 + i)) sK, g21 q (h 0 9) (h 20) sJR, g3 q (h 20 0) (h 21) s0, g8 q (h 21 1) (h 22) sb0, g7 q (h 21 2) (h 23) sn0, g3 q (h 20 1) (h 24) s1, g8 q (h 24 1) (h 25) sb1, g7 q (h 24 2) (h 26) sn1, g6 q (h 0 10) (h 27) sW, g4 q (h 0 11) (h 28) sQ, g10 q (h 0 12) (h 29) sE, g1 q (h 0 13) (h 30) sD, g9 q (h 0 14) (h 31) 96 sL, [(oo, .inl (q 2, 1, .inr (.inl fo)))]] 24 (by decide) rfl rfl rfl rfl rfl rfl GW_ad (fun H locs hP hD hS => ?_)
  refine lv_icmp_eq (tgt := 1307) hx hb dL_law_284 (by decide) (fun _ => ?_) (fun c9 => absurd rfl c9)
  refine W.widen (k := cells + 1) (n := slots + 6) (by omega) (by omega) ?_
  exact kk sT sR P' sB sX sN sY sG sH sK sJR s0 sb0 sn0 s1 sb1 sn1 sW sQ sE sD sL M' fo V (rel_fed hrel c1 c2) H locs ls hP hD hS hl
set_option maxRecDepth 100000 in
set_option maxHeartbeats 4000000 in
theorem lw_1 (C : cx p s m args meth c code 7 ret RL D q A) (hX : va_X b L xs s s.heap) (hbl : b < s.heap.size) (hbA : ¬ A b) (hi : i + 6 ≤ L) (hL : L ≤ 3072) (hcs : cells + 1 ≤ 601024 ∧ slots + 6 ≤ 7293034) (hrel : REL sT sR sP sB sN sH sK s0 sb0 sn0 s1 sb1 sn1 sW sQ sE sL sM V) (hP : va_P D vwCl (fl (GW q o om oo h hm sT sR sP sB sX sN sY sG sH sK sJR s0 sb0 sn0 s1 sb1 sn1 sW sQ sE sD sL sM fo)) H) (hD : va_D A (fl (GW q o om oo h hm sT sR sP sB sX sN sY sG sH sK sJR s0 sb0 sn0 s1 sb1 sn1 sW sQ sE sD sL sM fo))) (hS : va_S A s.heap H locs) (hl : lv_has ls 7 [(0, .ref b), (1, .ref o), (2, .ref om), (3, .ref oo), (4, .int (nI i))]) (kk : LWK p l e s m args below meth c D q A Q b i o om oo h hm (cells + 1) (slots + 6)) : W p l e room_1 s m args below meth c H locs cells slots Q (F0 m 289 ls []) := by
  obtain ⟨⟨hS0, hM0, hw0, hN0, hC0, hH0⟩, hT0, h15, hRC, hTo, hSo, hMd, hPa, hTe, hLt, hRW, hMW, hI0, hI1⟩ := id hrel
  obtain ⟨hx, hb, hr, hml, hown, hts, hlk, hA, hK, hN, hV⟩ := id C
  have hf0 : cells + 0 ≤ room_1.cells ∧ slots + 0 ≤ room_1.slots := ⟨Nat.le_of_succ_le hcs.1, by show slots + 0 ≤ 7293034; omega⟩
  obtain ⟨z1, e1⟩ : ∃ z, z = xs (nI i + nI 1).toNatClampNeg := ⟨_, rfl⟩
  obtain ⟨r, P', M', f1, f2, c1, c2⟩ := p_end (T := sT) hT0 z1
  refine lv_aload_n hx hb dL_law_289 rfl (lv_at hl 1 rfl) ?_
  refine lv_aload_n hx hb dL_law_290 rfl (lv_at hl 0 rfl) ?_
  refine lv_iload hx hb dL_law_291 (lv_at hl 4 rfl) ?_
  refine lv_iconst (v := nI 1) hx hb dL_law_293 (by decide) ?_
  refine lv_iadd hx hb dL_law_294 ?_
  refine va_sld hx hb hX hbl hbA hS (lw_in (k := 1) (by omega) hL) dL_law_295 ?_
  refine k_rni e1 ?_
  refine k_igrpC (gs8 := GW q o om oo h hm sT sR P' sB sX sN sY sG sH sK sJR s0 sb0 sn0 s1 sb1 sn1 sW sQ sE sD sL sM fo) C (k_rV (As := [.int z1]) (rest := []) C (c_X11_end l D q (h 1 0) o (h 0) sT (h 3) sP _ z1 f1) kc_X11_end ml_L_24 rfl rfl (by decide) (flP hP [0, 2] rfl) (flD hD [0, 2] (by decide) rfl) hS (va_recv hK (flP (gc := [g11 q o (h 0) (h 1 0) sT]) hP [0] rfl) (ci := 11) (q0 := 0) rfl rfl) rfl hl.1 rfl (Nat.le_of_ble_eq_true rfl) dL_law_296 hf0) hP hD hS [0, 2] [1, 3, 4, 5, 6, 7, 8, 9, 10, 11, 12, 13, 14, 15, 16, 17, 18, 19, 20, 21, 22, 23] [g5 q (h 0 1) (h 2) (h 1 0) sR, g8 q (h 0 3) (h 4) sB, g8 q (h 0 4) (h 5) sX, g7 q (h 0 5) (h 6) sN, g7 q (h 0 6) (h 7) sY, g0 q (h 0 7) (h 8) sG, g2 q (h 0 8) (h 9) sH, g20 q (h 9 1) (h 10) (fun i => h (11 + i)) sK, g21 q (h 0 9) (h 20) sJR, g3 q (h 20 0) (h 21) s0, g8 q (h 21 1) (h 22) sb0, g7 q (h 21 2) (h 23) sn0, g3 q (h 20 1) (h 24) s1, g8 q (h 24 1) (h 25) sb1, g7 q (h 24 2) (h 26) sn1, g6 q (h 0 10) (h 27) sW, g4 q (h 0 11) (h 28) sQ, g10 q (h 0 12) (h 29) sE, g1 q (h 0 13) (h 30) sD, g9 q (h 0 14) (h 31) 96 sL, g12 q om hm sM, [(oo, .inl (q 2, 1, .inr (.inl fo)))]] 24 (by decide) rfl rfl rfl rfl rfl rfl GW_ad (fun H locs hP hD hS => ?_)
  refine lv_aload_n hx hb dL_law_299 rfl (lv_at hl 2 rfl) ?_
  refine lv_aload_n hx hb dL_law_300 rfl (lv_at hl 0 rfl) ?_
  refine lv_iload hx hb dL_law_301 (lv_at hl 4 rfl) ?_
  refine lv_iconst (v := nI 1) hx hb dL_law_303 (by decide) ?_
  refine lv_iadd hx hb dL_law_304 ?_
  refine va_sld hx hb hX hbl hbA hS (lw_in (k := 1) (by omega) hL) dL_law_305 ?_
  refine k_rni e1 ?_
  refine k_igrpC (gs8 := GW q o om oo h hm sT sR P' sB sX sN sY sG sH sK sJR s0 sb0 sn0 s1 sb1 sn1 sW sQ sE sD sL M' fo) C (k_rV (As := [.int z1]) (rest := [.int r]) C (c_X12_end l D q om hm sM _ z1 f2) kc_X12_end ml_L_28 rfl rfl (by decide) (flP hP [22] rfl) (flD hD [22] (by decide) rfl) hS (va_recv hK (flP (gc := [g12 q om hm sM]) hP [22] rfl) (ci := 12) (q0 := 0) rfl rfl) rfl hl.1 rfl (Nat.le_of_ble_eq_true rfl) dL_law_306 hf0) hP hD hS [22] [0, 1, 2, 3, 4, 5, 6, 7, 8, 9, 10, 11, 12, 13, 14, 15, 16, 17, 18, 19, 20, 21, 23] [g11 q o (h 0) (h 1 0) sT, g5 q (h 0 1) (h 2) (h 1 0) sR, g9 q (h 1 0) (h 3) 940 P', g8 q (h 0 3) (h 4) sB, g8 q (h 0 4) (h 5) sX, g7 q (h 0 5) (h 6) sN, g7 q (h 0 6) (h 7) sY, g0 q (h 0 7) (h 8) sG, g2 q (h 0 8) (h 9) sH, g20 q (h 9 1) (h 10) (fun i => h (11 + i)) sK, g21 q (h 0 9) (h 20) sJR, g3 q (h 20 0) (h 21) s0, g8 q (h 21 1) (h 22) sb0, g7 q (h 21 2) (h 23) sn0, g3 q (h 20 1) (h 24) s1, g8 q (h 24 1) (h 25) sb1, g7 q (h 24 2) (h 26) sn1, g6 q (h 0 10) (h 27) sW, g4 q (h 0 11) (h 28) sQ, g10 q (h 0 12) (h 29) sE, g1 q (h 0 13) (h 30) sD, g9 q (h 0 14) (h 31) 96 sL, [(oo, .inl (q 2, 1, .inr (.inl fo)))]] 24 (by decide) rfl rfl rfl rfl rfl rfl GW_ad (fun H locs hP hD hS => ?_)
  refine lv_icmp_eq (tgt := 1307) hx hb dL_law_309 (by decide) (fun _ => ?_) (fun c9 => absurd rfl c9)
  refine W.widen (k := cells + 1) (n := slots + 6) (by omega) (by omega) ?_
  exact kk sT sR P' sB sX sN sY sG sH sK sJR s0 sb0 sn0 s1 sb1 sn1 sW sQ sE sD sL M' fo V (rel_fed hrel c1 c2) H locs ls hP hD hS hl
set_option maxRecDepth 100000 in
set_option maxHeartbeats 4000000 in
theorem lw_2 (C : cx p s m args meth c code 7 ret RL D q A) (hX : va_X b L xs s s.heap) (hbl : b < s.heap.size) (hbA : ¬ A b) (hi : i + 6 ≤ L) (hL : L ≤ 3072) (hcs : cells + 1 ≤ 601024 ∧ slots + 6 ≤ 7293034) (hrel : REL sT sR sP sB sN sH sK s0 sb0 sn0 s1 sb1 sn1 sW sQ sE sL sM V) (hP : va_P D vwCl (fl (GW q o om oo h hm sT sR sP sB sX sN sY sG sH sK sJR s0 sb0 sn0 s1 sb1 sn1 sW sQ sE sD sL sM fo)) H) (hD : va_D A (fl (GW q o om oo h hm sT sR sP sB sX sN sY sG sH sK sJR s0 sb0 sn0 s1 sb1 sn1 sW sQ sE sD sL sM fo))) (hS : va_S A s.heap H locs) (hl : lv_has ls 7 [(0, .ref b), (1, .ref o), (2, .ref om), (3, .ref oo), (4, .int (nI i))]) (kk : LWK p l e s m args below meth c D q A Q b i o om oo h hm (cells + 1) (slots + 6)) : W p l e room_1 s m args below meth c H locs cells slots Q (F0 m 314 ls []) := by
  obtain ⟨⟨hS0, hM0, hw0, hN0, hC0, hH0⟩, hT0, h15, hRC, hTo, hSo, hMd, hPa, hTe, hLt, hRW, hMW, hI0, hI1⟩ := id hrel
  obtain ⟨hx, hb, hr, hml, hown, hts, hlk, hA, hK, hN, hV⟩ := id C
  have hf0 : cells + 0 ≤ room_1.cells ∧ slots + 0 ≤ room_1.slots := ⟨Nat.le_of_succ_le hcs.1, by show slots + 0 ≤ 7293034; omega⟩
  obtain ⟨r, T', H', R', N', X', B', P', M', V', f1, f2, ce, crw, crt, c1, c2, c3, c4, c5, c6, cf⟩ := p_suburb (T := sT) (X := sX) hT0 hRW hMW hS0 hM0 hw0 hN0 hC0 hH0
  refine lv_aload_n hx hb dL_law_314 rfl (lv_at hl 1 rfl) ?_
  refine k_igrpC (gs8 := GW q o om oo h hm T' R' P' B' X' N' sY sG H' sK sJR s0 sb0 sn0 s1 sb1 sn1 sW sQ sE sD sL sM fo) C (k_rV (As := []) (rest := []) C (c_X11_suburb l D q (h 1 0) o (h 0) sT (h 9) sH (h 2) sR (h 6) sN (h 5) sX (h 4) sB (h 3) sP _ f1) kc_X11_suburb ml_L_29 rfl rfl (by decide) (flP hP [0, 8, 1, 5, 4, 3, 2] rfl) (flD hD [0, 8, 1, 5, 4, 3, 2] (by decide) rfl) hS (va_recv hK (flP (gc := [g11 q o (h 0) (h 1 0) sT]) hP [0] rfl) (ci := 11) (q0 := 0) rfl rfl) rfl hl.1 rfl (Nat.le_of_ble_eq_true rfl) dL_law_315 hf0) hP hD hS [0, 8, 1, 5, 4, 3, 2] [6, 7, 9, 10, 11, 12, 13, 14, 15, 16, 17, 18, 19, 20, 21, 22, 23] [g7 q (h 0 6) (h 7) sY, g0 q (h 0 7) (h 8) sG, g20 q (h 9 1) (h 10) (fun i => h (11 + i)) sK, g21 q (h 0 9) (h 20) sJR, g3 q (h 20 0) (h 21) s0, g8 q (h 21 1) (h 22) sb0, g7 q (h 21 2) (h 23) sn0, g3 q (h 20 1) (h 24) s1, g8 q (h 24 1) (h 25) sb1, g7 q (h 24 2) (h 26) sn1, g6 q (h 0 10) (h 27) sW, g4 q (h 0 11) (h 28) sQ, g10 q (h 0 12) (h 29) sE, g1 q (h 0 13) (h 30) sD, g9 q (h 0 14) (h 31) 96 sL, g12 q om hm sM, [(oo, .inl (q 2, 1, .inr (.inl fo)))]] 24 (by decide) rfl rfl rfl rfl rfl rfl GW_ad (fun H locs hP hD hS => ?_)
  refine lv_aload_n hx hb dL_law_318 rfl (lv_at hl 2 rfl) ?_
  refine k_igrpC (gs8 := GW q o om oo h hm T' R' P' B' X' N' sY sG H' sK sJR s0 sb0 sn0 s1 sb1 sn1 sW sQ sE sD sL M' fo) C (k_rV (As := []) (rest := [.int r]) C (c_X12_suburb l D q om hm sM _ f2) kc_X12_suburb ml_L_33 rfl rfl (by decide) (flP hP [22] rfl) (flD hD [22] (by decide) rfl) hS (va_recv hK (flP (gc := [g12 q om hm sM]) hP [22] rfl) (ci := 12) (q0 := 0) rfl rfl) rfl hl.1 rfl (Nat.le_of_ble_eq_true rfl) dL_law_319 hf0) hP hD hS [22] [0, 1, 2, 3, 4, 5, 6, 7, 8, 9, 10, 11, 12, 13, 14, 15, 16, 17, 18, 19, 20, 21, 23] [g11 q o (h 0) (h 1 0) T', g5 q (h 0 1) (h 2) (h 1 0) R', g9 q (h 1 0) (h 3) 940 P', g8 q (h 0 3) (h 4) B', g8 q (h 0 4) (h 5) X', g7 q (h 0 5) (h 6) N', g7 q (h 0 6) (h 7) sY, g0 q (h 0 7) (h 8) sG, g2 q (h 0 8) (h 9) H', g20 q (h 9 1) (h 10) (fun i => h (11 + i)) sK, g21 q (h 0 9) (h 20) sJR, g3 q (h 20 0) (h 21) s0, g8 q (h 21 1) (h 22) sb0, g7 q (h 21 2) (h 23) sn0, g3 q (h 20 1) (h 24) s1, g8 q (h 24 1) (h 25) sb1, g7 q (h 24 2) (h 26) sn1, g6 q (h 0 10) (h 27) sW, g4 q (h 0 11) (h 28) sQ, g10 q (h 0 12) (h 29) sE, g1 q (h 0 13) (h 30) sD, g9 q (h 0 14) (h 31) 96 sL, [(oo, .inl (q 2, 1, .inr (.inl fo)))]] 24 (by decide) rfl rfl rfl rfl rfl rfl GW_ad (fun H locs hP hD hS => ?_)
  refine lv_icmp_eq (tgt := 1307) hx hb dL_law_322 (by decide) (fun _ => ?_) (fun c9 => absurd rfl c9)
  refine W.widen (k := cells + 1) (n := slots + 6) (by omega) (by omega) ?_
  exact kk T' R' P' B' X' N' sY sG H' sK sJR s0 sb0 sn0 s1 sb1 sn1 sW sQ sE sD sL M' fo V' (rel_suburb hrel ce ⟨c1, c2, c3, c4, c5, c6⟩ crt crw cf) H locs ls hP hD hS hl
set_option maxRecDepth 100000 in
set_option maxHeartbeats 4000000 in
theorem lw_3 (C : cx p s m args meth c code 7 ret RL D q A) (hX : va_X b L xs s s.heap) (hbl : b < s.heap.size) (hbA : ¬ A b) (hi : i + 6 ≤ L) (hL : L ≤ 3072) (hcs : cells + 1 ≤ 601024 ∧ slots + 6 ≤ 7293034) (hrel : REL sT sR sP sB sN sH sK s0 sb0 sn0 s1 sb1 sn1 sW sQ sE sL sM V) (hP : va_P D vwCl (fl (GW q o om oo h hm sT sR sP sB sX sN sY sG sH sK sJR s0 sb0 sn0 s1 sb1 sn1 sW sQ sE sD sL sM fo)) H) (hD : va_D A (fl (GW q o om oo h hm sT sR sP sB sX sN sY sG sH sK sJR s0 sb0 sn0 s1 sb1 sn1 sW sQ sE sD sL sM fo))) (hS : va_S A s.heap H locs) (hl : lv_has ls 7 [(0, .ref b), (1, .ref o), (2, .ref om), (3, .ref oo), (4, .int (nI i))]) (kk : LWK p l e s m args below meth c D q A Q b i o om oo h hm (cells + 1) (slots + 6)) : W p l e room_1 s m args below meth c H locs cells slots Q (F0 m 327 ls []) := by
  obtain ⟨⟨hS0, hM0, hw0, hN0, hC0, hH0⟩, hT0, h15, hRC, hTo, hSo, hMd, hPa, hTe, hLt, hRW, hMW, hI0, hI1⟩ := id hrel
  obtain ⟨hx, hb, hr, hml, hown, hts, hlk, hA, hK, hN, hV⟩ := id C
  have hf0 : cells + 0 ≤ room_1.cells ∧ slots + 0 ≤ room_1.slots := ⟨Nat.le_of_succ_le hcs.1, by show slots + 0 ≤ 7293034; omega⟩
  obtain ⟨r, f1, f2⟩ := p_fault (T := sT) h15
  refine lv_aload_n hx hb dL_law_327 rfl (lv_at hl 1 rfl) ?_
  refine k_igrpC (gs8 := GW q o om oo h hm sT sR sP sB sX sN sY sG sH sK sJR s0 sb0 sn0 s1 sb1 sn1 sW sQ sE sD sL sM fo) C (k_rV (As := []) (rest := []) C (c_X11_fault l D q (h 1 0) o (h 0) sT _ f1) kc_X11_fault ml_L_34 rfl rfl (by decide) (flP hP [0] rfl) (flD hD [0] (by decide) rfl) hS (va_recv hK (flP (gc := [g11 q o (h 0) (h 1 0) sT]) hP [0] rfl) (ci := 11) (q0 := 0) rfl rfl) rfl hl.1 rfl (Nat.le_of_ble_eq_true rfl) dL_law_328 hf0) hP hD hS [0] [1, 2, 3, 4, 5, 6, 7, 8, 9, 10, 11, 12, 13, 14, 15, 16, 17, 18, 19, 20, 21, 22, 23] [g5 q (h 0 1) (h 2) (h 1 0) sR, g9 q (h 1 0) (h 3) 940 sP, g8 q (h 0 3) (h 4) sB, g8 q (h 0 4) (h 5) sX, g7 q (h 0 5) (h 6) sN, g7 q (h 0 6) (h 7) sY, g0 q (h 0 7) (h 8) sG, g2 q (h 0 8) (h 9) sH, g20 q (h 9 1) (h 10) (fun i => h (11 + i)) sK, g21 q (h 0 9) (h 20) sJR, g3 q (h 20 0) (h 21) s0, g8 q (h 21 1) (h 22) sb0, g7 q (h 21 2) (h 23) sn0, g3 q (h 20 1) (h 24) s1, g8 q (h 24 1) (h 25) sb1, g7 q (h 24 2) (h 26) sn1, g6 q (h 0 10) (h 27) sW, g4 q (h 0 11) (h 28) sQ, g10 q (h 0 12) (h 29) sE, g1 q (h 0 13) (h 30) sD, g9 q (h 0 14) (h 31) 96 sL, g12 q om hm sM, [(oo, .inl (q 2, 1, .inr (.inl fo)))]] 24 (by decide) rfl rfl rfl rfl rfl rfl GW_ad (fun H locs hP hD hS => ?_)
  refine lv_aload_n hx hb dL_law_331 rfl (lv_at hl 2 rfl) ?_
  refine k_igrpC (gs8 := GW q o om oo h hm sT sR sP sB sX sN sY sG sH sK sJR s0 sb0 sn0 s1 sb1 sn1 sW sQ sE sD sL (sI sM 0 (nI 0)) fo) C (k_rV (As := []) (rest := [.int r]) C (c_X12_fault l D q om hm sM _ f2) kc_X12_fault ml_L_37 rfl rfl (by decide) (flP hP [22] rfl) (flD hD [22] (by decide) rfl) hS (va_recv hK (flP (gc := [g12 q om hm sM]) hP [22] rfl) (ci := 12) (q0 := 0) rfl rfl) rfl hl.1 rfl (Nat.le_of_ble_eq_true rfl) dL_law_332 hf0) hP hD hS [22] [0, 1, 2, 3, 4, 5, 6, 7, 8, 9, 10, 11, 12, 13, 14, 15, 16, 17, 18, 19, 20, 21, 23] [g11 q o (h 0) (h 1 0) sT, g5 q (h 0 1) (h 2) (h 1 0) sR, g9 q (h 1 0) (h 3) 940 sP, g8 q (h 0 3) (h 4) sB, g8 q (h 0 4) (h 5) sX, g7 q (h 0 5) (h 6) sN, g7 q (h 0 6) (h 7) sY, g0 q (h 0 7) (h 8) sG, g2 q (h 0 8) (h 9) sH, g20 q (h 9 1) (h 10) (fun i => h (11 + i)) sK, g21 q (h 0 9) (h 20) sJR, g3 q (h 20 0) (h 21) s0, g8 q (h 21 1) (h 22) sb0, g7 q (h 21 2) (h 23) sn0, g3 q (h 20 1) (h 24) s1, g8 q (h 24 1) (h 25) sb1, g7 q (h 24 2) (h 26) sn1, g6 q (h 0 10) (h 27) sW, g4 q (h 0 11) (h 28) sQ, g10 q (h 0 12) (h 29) sE, g1 q (h 0 13) (h 30) sD, g9 q (h 0 14) (h 31) 96 sL, [(oo, .inl (q 2, 1, .inr (.inl fo)))]] 24 (by decide) rfl rfl rfl rfl rfl rfl GW_ad (fun H locs hP hD hS => ?_)
  refine lv_icmp_eq (tgt := 1307) hx hb dL_law_335 (by decide) (fun _ => ?_) (fun c9 => absurd rfl c9)
  refine W.widen (k := cells + 1) (n := slots + 6) (by omega) (by omega) ?_
  exact kk sT sR sP sB sX sN sY sG sH sK sJR s0 sb0 sn0 s1 sb1 sn1 sW sQ sE sD sL (sI sM 0 (nI 0)) fo V (rel_0 hrel (nI 0)) H locs ls hP hD hS hl
set_option maxRecDepth 100000 in
set_option maxHeartbeats 4000000 in
theorem lw_5 (C : cx p s m args meth c code 7 ret RL D q A) (hX : va_X b L xs s s.heap) (hbl : b < s.heap.size) (hbA : ¬ A b) (hi : i + 6 ≤ L) (hL : L ≤ 3072) (hcs : cells + 1 ≤ 601024 ∧ slots + 6 ≤ 7293034) (hrel : REL sT sR sP sB sN sH sK s0 sb0 sn0 s1 sb1 sn1 sW sQ sE sL sM V) (hP : va_P D vwCl (fl (GW q o om oo h hm sT sR sP sB sX sN sY sG sH sK sJR s0 sb0 sn0 s1 sb1 sn1 sW sQ sE sD sL sM fo)) H) (hD : va_D A (fl (GW q o om oo h hm sT sR sP sB sX sN sY sG sH sK sJR s0 sb0 sn0 s1 sb1 sn1 sW sQ sE sD sL sM fo))) (hS : va_S A s.heap H locs) (hl : lv_has ls 7 [(0, .ref b), (1, .ref o), (2, .ref om), (3, .ref oo), (4, .int (nI i))]) (kk : LWK p l e s m args below meth c D q A Q b i o om oo h hm (cells + 1) (slots + 6)) : W p l e room_1 s m args below meth c H locs cells slots Q (F0 m 408 ls []) := by
  obtain ⟨⟨hS0, hM0, hw0, hN0, hC0, hH0⟩, hT0, h15, hRC, hTo, hSo, hMd, hPa, hTe, hLt, hRW, hMW, hI0, hI1⟩ := id hrel
  obtain ⟨hx, hb, hr, hml, hown, hts, hlk, hA, hK, hN, hV⟩ := id C
  have hf0 : cells + 0 ≤ room_1.cells ∧ slots + 0 ≤ room_1.slots := ⟨Nat.le_of_succ_le hcs.1, by show slots + 0 ≤ 7293034; omega⟩
  obtain ⟨z1, e1⟩ : ∃ z, z = xs (nI i + nI 1).toNatClampNeg := ⟨_, rfl⟩
  obtain ⟨z2, e2⟩ : ∃ z, z = xs (nI i + nI 2).toNatClampNeg := ⟨_, rfl⟩
  obtain ⟨r, f1, f2⟩ := p_turret (T := sT) hS0 hM0 hw0 z1 z2
  refine lv_aload_n hx hb dL_law_408 rfl (lv_at hl 1 rfl) ?_
  refine lv_aload_n hx hb dL_law_409 rfl (lv_at hl 0 rfl) ?_
  refine lv_iload hx hb dL_law_410 (lv_at hl 4 rfl) ?_
  refine lv_iconst (v := nI 1) hx hb dL_law_412 (by decide) ?_
  refine lv_iadd hx hb dL_law_413 ?_
  refine va_sld hx hb hX hbl hbA hS (lw_in (k := 1) (by omega) hL) dL_law_414 ?_
  refine k_rni e1 ?_
  refine lv_aload_n hx hb dL_law_415 rfl (lv_at hl 0 rfl) ?_
  refine lv_iload hx hb dL_law_416 (lv_at hl 4 rfl) ?_
  refine lv_iconst (v := nI 2) hx hb dL_law_418 (by decide) ?_
  refine lv_iadd hx hb dL_law_419 ?_
  refine va_sld hx hb hX hbl hbA hS (lw_in (k := 2) (by omega) hL) dL_law_420 ?_
  refine k_rni e2 ?_
  refine k_igrpC (gs8 := GW q o om oo h hm sT sR sP sB sX sN sY sG sH sK sJR s0 sb0 sn0 s1 sb1 sn1 sW sQ sE sD sL sM fo) C (k_rV (As := [.int z1, .int z2]) (rest := []) C (c_X11_turret l D q (h 1 0) o (h 0) sT (h 4) sB _ z1 z2 f1) kc_X11_turret ml_L_47 rfl rfl (by decide) (flP hP [0, 3] rfl) (flD hD [0, 3] (by decide) rfl) hS (va_recv hK (flP (gc := [g11 q o (h 0) (h 1 0) sT]) hP [0] rfl) (ci := 11) (q0 := 0) rfl rfl) rfl hl.1 rfl (Nat.le_of_ble_eq_true rfl) dL_law_421 hf0) hP hD hS [0, 3] [1, 2, 4, 5, 6, 7, 8, 9, 10, 11, 12, 13, 14, 15, 16, 17, 18, 19, 20, 21, 22, 23] [g5 q (h 0 1) (h 2) (h 1 0) sR, g9 q (h 1 0) (h 3) 940 sP, g8 q (h 0 4) (h 5) sX, g7 q (h 0 5) (h 6) sN, g7 q (h 0 6) (h 7) sY, g0 q (h 0 7) (h 8) sG, g2 q (h 0 8) (h 9) sH, g20 q (h 9 1) (h 10) (fun i => h (11 + i)) sK, g21 q (h 0 9) (h 20) sJR, g3 q (h 20 0) (h 21) s0, g8 q (h 21 1) (h 22) sb0, g7 q (h 21 2) (h 23) sn0, g3 q (h 20 1) (h 24) s1, g8 q (h 24 1) (h 25) sb1, g7 q (h 24 2) (h 26) sn1, g6 q (h 0 10) (h 27) sW, g4 q (h 0 11) (h 28) sQ, g10 q (h 0 12) (h 29) sE, g1 q (h 0 13) (h 30) sD, g9 q (h 0 14) (h 31) 96 sL, g12 q om hm sM, [(oo, .inl (q 2, 1, .inr (.inl fo)))]] 24 (by decide) rfl rfl rfl rfl rfl rfl GW_ad (fun H locs hP hD hS => ?_)
  refine lv_aload_n hx hb dL_law_424 rfl (lv_at hl 2 rfl) ?_
  refine lv_aload_n hx hb dL_law_425 rfl (lv_at hl 0 rfl) ?_
  refine lv_iload hx hb dL_law_426 (lv_at hl 4 rfl) ?_
  refine lv_iconst (v := nI 1) hx hb dL_law_428 (by decide) ?_
  refine lv_iadd hx hb dL_law_429 ?_
  refine va_sld hx hb hX hbl hbA hS (lw_in (k := 1) (by omega) hL) dL_law_430 ?_
  refine k_rni e1 ?_
  refine lv_aload_n hx hb dL_law_431 rfl (lv_at hl 0 rfl) ?_
  refine lv_iload hx hb dL_law_432 (lv_at hl 4 rfl) ?_
  refine lv_iconst (v := nI 2) hx hb dL_law_434 (by decide) ?_
  refine lv_iadd hx hb dL_law_435 ?_
  refine va_sld hx hb hX hbl hbA hS (lw_in (k := 2) (by omega) hL) dL_law_436 ?_
  refine k_rni e2 ?_
  refine k_igrpC (gs8 := GW q o om oo h hm sT sR sP sB sX sN sY sG sH sK sJR s0 sb0 sn0 s1 sb1 sn1 sW sQ sE sD sL (sI sM 0 (nI 0)) fo) C (k_rV (As := [.int z1, .int z2]) (rest := [.int r]) C (c_X12_turret l D q om hm sM _ z1 z2 f2) kc_X12_turret ml_L_50 rfl rfl (by decide) (flP hP [22] rfl) (flD hD [22] (by decide) rfl) hS (va_recv hK (flP (gc := [g12 q om hm sM]) hP [22] rfl) (ci := 12) (q0 := 0) rfl rfl) rfl hl.1 rfl (Nat.le_of_ble_eq_true rfl) dL_law_437 hf0) hP hD hS [22] [0, 1, 2, 3, 4, 5, 6, 7, 8, 9, 10, 11, 12, 13, 14, 15, 16, 17, 18, 19, 20, 21, 23] [g11 q o (h 0) (h 1 0) sT, g5 q (h 0 1) (h 2) (h 1 0) sR, g9 q (h 1 0) (h 3) 940 sP, g8 q (h 0 3) (h 4) sB, g8 q (h 0 4) (h 5) sX, g7 q (h 0 5) (h 6) sN, g7 q (h 0 6) (h 7) sY, g0 q (h 0 7) (h 8) sG, g2 q (h 0 8) (h 9) sH, g20 q (h 9 1) (h 10) (fun i => h (11 + i)) sK, g21 q (h 0 9) (h 20) sJR, g3 q (h 20 0) (h 21) s0, g8 q (h 21 1) (h 22) sb0, g7 q (h 21 2) (h 23) sn0, g3 q (h 20 1) (h 24) s1, g8 q (h 24 1) (h 25) sb1, g7 q (h 24 2) (h 26) sn1, g6 q (h 0 10) (h 27) sW, g4 q (h 0 11) (h 28) sQ, g10 q (h 0 12) (h 29) sE, g1 q (h 0 13) (h 30) sD, g9 q (h 0 14) (h 31) 96 sL, [(oo, .inl (q 2, 1, .inr (.inl fo)))]] 24 (by decide) rfl rfl rfl rfl rfl rfl GW_ad (fun H locs hP hD hS => ?_)
  refine lv_icmp_eq (tgt := 1307) hx hb dL_law_440 (by decide) (fun _ => ?_) (fun c9 => absurd rfl c9)
  refine W.widen (k := cells + 1) (n := slots + 6) (by omega) (by omega) ?_
  exact kk sT sR sP sB sX sN sY sG sH sK sJR s0 sb0 sn0 s1 sb1 sn1 sW sQ sE sD sL (sI sM 0 (nI 0)) fo V (rel_0 hrel (nI 0)) H locs ls hP hD hS hl
set_option maxRecDepth 100000 in
set_option maxHeartbeats 4000000 in
theorem lw_6 (C : cx p s m args meth c code 7 ret RL D q A) (hX : va_X b L xs s s.heap) (hbl : b < s.heap.size) (hbA : ¬ A b) (hi : i + 6 ≤ L) (hL : L ≤ 3072) (hcs : cells + 1 ≤ 601024 ∧ slots + 6 ≤ 7293034) (hrel : REL sT sR sP sB sN sH sK s0 sb0 sn0 s1 sb1 sn1 sW sQ sE sL sM V) (hP : va_P D vwCl (fl (GW q o om oo h hm sT sR sP sB sX sN sY sG sH sK sJR s0 sb0 sn0 s1 sb1 sn1 sW sQ sE sD sL sM fo)) H) (hD : va_D A (fl (GW q o om oo h hm sT sR sP sB sX sN sY sG sH sK sJR s0 sb0 sn0 s1 sb1 sn1 sW sQ sE sD sL sM fo))) (hS : va_S A s.heap H locs) (hl : lv_has ls 7 [(0, .ref b), (1, .ref o), (2, .ref om), (3, .ref oo), (4, .int (nI i))]) (kk : LWK p l e s m args below meth c D q A Q b i o om oo h hm (cells + 1) (slots + 6)) : W p l e room_1 s m args below meth c H locs cells slots Q (F0 m 445 ls []) := by
  obtain ⟨⟨hS0, hM0, hw0, hN0, hC0, hH0⟩, hT0, h15, hRC, hTo, hSo, hMd, hPa, hTe, hLt, hRW, hMW, hI0, hI1⟩ := id hrel
  obtain ⟨hx, hb, hr, hml, hown, hts, hlk, hA, hK, hN, hV⟩ := id C
  have hf0 : cells + 0 ≤ room_1.cells ∧ slots + 0 ≤ room_1.slots := ⟨Nat.le_of_succ_le hcs.1, by show slots + 0 ≤ 7293034; omega⟩
  obtain ⟨z1, e1⟩ : ∃ z, z = xs (nI i + nI 1).toNatClampNeg := ⟨_, rfl⟩
  obtain ⟨z2, e2⟩ : ∃ z, z = xs (nI i + nI 2).toNatClampNeg := ⟨_, rfl⟩
  obtain ⟨r, f1, f2⟩ := p_looks (T := sT) hS0 hM0 hw0 z1 z2
  refine lv_aload_n hx hb dL_law_445 rfl (lv_at hl 1 rfl) ?_
  refine lv_aload_n hx hb dL_law_446 rfl (lv_at hl 0 rfl) ?_
  refine lv_iload hx hb dL_law_447 (lv_at hl 4 rfl) ?_
  refine lv_iconst (v := nI 1) hx hb dL_law_449 (by decide) ?_
  refine lv_iadd hx hb dL_law_450 ?_
  refine va_sld hx hb hX hbl hbA hS (lw_in (k := 1) (by omega) hL) dL_law_451 ?_
  refine k_rni e1 ?_
  refine lv_aload_n hx hb dL_law_452 rfl (lv_at hl 0 rfl) ?_
  refine lv_iload hx hb dL_law_453 (lv_at hl 4 rfl) ?_
  refine lv_iconst (v := nI 2) hx hb dL_law_455 (by decide) ?_
  refine lv_iadd hx hb dL_law_456 ?_
  refine va_sld hx hb hX hbl hbA hS (lw_in (k := 2) (by omega) hL) dL_law_457 ?_
  refine k_rni e2 ?_
  refine k_igrpC (gs8 := GW q o om oo h hm sT sR sP sB sX sN sY sG sH sK sJR s0 sb0 sn0 s1 sb1 sn1 sW sQ sE sD sL sM fo) C (k_rV (As := [.int z1, .int z2]) (rest := []) C (c_X11_looks l D q (h 1 0) o (h 0) sT (h 4) sB _ z1 z2 f1) kc_X11_looks ml_L_51 rfl rfl (by decide) (flP hP [0, 3] rfl) (flD hD [0, 3] (by decide) rfl) hS (va_recv hK (flP (gc := [g11 q o (h 0) (h 1 0) sT]) hP [0] rfl) (ci := 11) (q0 := 0) rfl rfl) rfl hl.1 rfl (Nat.le_of_ble_eq_true rfl) dL_law_458 hf0) hP hD hS [0, 3] [1, 2, 4, 5, 6, 7, 8, 9, 10, 11, 12, 13, 14, 15, 16, 17, 18, 19, 20, 21, 22, 23] [g5 q (h 0 1) (h 2) (h 1 0) sR, g9 q (h 1 0) (h 3) 940 sP, g8 q (h 0 4) (h 5) sX, g7 q (h 0 5) (h 6) sN, g7 q (h 0 6) (h 7) sY, g0 q (h 0 7) (h 8) sG, g2 q (h 0 8) (h 9) sH, g20 q (h 9 1) (h 10) (fun i => h (11 + i)) sK, g21 q (h 0 9) (h 20) sJR, g3 q (h 20 0) (h 21) s0, g8 q (h 21 1) (h 22) sb0, g7 q (h 21 2) (h 23) sn0, g3 q (h 20 1) (h 24) s1, g8 q (h 24 1) (h 25) sb1, g7 q (h 24 2) (h 26) sn1, g6 q (h 0 10) (h 27) sW, g4 q (h 0 11) (h 28) sQ, g10 q (h 0 12) (h 29) sE, g1 q (h 0 13) (h 30) sD, g9 q (h 0 14) (h 31) 96 sL, g12 q om hm sM, [(oo, .inl (q 2, 1, .inr (.inl fo)))]] 24 (by decide) rfl rfl rfl rfl rfl rfl GW_ad (fun H locs hP hD hS => ?_)
  refine lv_aload_n hx hb dL_law_461 rfl (lv_at hl 2 rfl) ?_
  refine lv_aload_n hx hb dL_law_462 rfl (lv_at hl 0 rfl) ?_
  refine lv_iload hx hb dL_law_463 (lv_at hl 4 rfl) ?_
  refine lv_iconst (v := nI 1) hx hb dL_law_465 (by decide) ?_
  refine lv_iadd hx hb dL_law_466 ?_
  refine va_sld hx hb hX hbl hbA hS (lw_in (k := 1) (by omega) hL) dL_law_467 ?_
  refine k_rni e1 ?_
  refine lv_aload_n hx hb dL_law_468 rfl (lv_at hl 0 rfl) ?_
  refine lv_iload hx hb dL_law_469 (lv_at hl 4 rfl) ?_
  refine lv_iconst (v := nI 2) hx hb dL_law_471 (by decide) ?_
  refine lv_iadd hx hb dL_law_472 ?_
  refine va_sld hx hb hX hbl hbA hS (lw_in (k := 2) (by omega) hL) dL_law_473 ?_
  refine k_rni e2 ?_
  refine k_igrpC (gs8 := GW q o om oo h hm sT sR sP sB sX sN sY sG sH sK sJR s0 sb0 sn0 s1 sb1 sn1 sW sQ sE sD sL (sI sM 0 (nI 0)) fo) C (k_rV (As := [.int z1, .int z2]) (rest := [.int r]) C (c_X12_looks l D q om hm sM _ z1 z2 f2) kc_X12_looks ml_L_54 rfl rfl (by decide) (flP hP [22] rfl) (flD hD [22] (by decide) rfl) hS (va_recv hK (flP (gc := [g12 q om hm sM]) hP [22] rfl) (ci := 12) (q0 := 0) rfl rfl) rfl hl.1 rfl (Nat.le_of_ble_eq_true rfl) dL_law_474 hf0) hP hD hS [22] [0, 1, 2, 3, 4, 5, 6, 7, 8, 9, 10, 11, 12, 13, 14, 15, 16, 17, 18, 19, 20, 21, 23] [g11 q o (h 0) (h 1 0) sT, g5 q (h 0 1) (h 2) (h 1 0) sR, g9 q (h 1 0) (h 3) 940 sP, g8 q (h 0 3) (h 4) sB, g8 q (h 0 4) (h 5) sX, g7 q (h 0 5) (h 6) sN, g7 q (h 0 6) (h 7) sY, g0 q (h 0 7) (h 8) sG, g2 q (h 0 8) (h 9) sH, g20 q (h 9 1) (h 10) (fun i => h (11 + i)) sK, g21 q (h 0 9) (h 20) sJR, g3 q (h 20 0) (h 21) s0, g8 q (h 21 1) (h 22) sb0, g7 q (h 21 2) (h 23) sn0, g3 q (h 20 1) (h 24) s1, g8 q (h 24 1) (h 25) sb1, g7 q (h 24 2) (h 26) sn1, g6 q (h 0 10) (h 27) sW, g4 q (h 0 11) (h 28) sQ, g10 q (h 0 12) (h 29) sE, g1 q (h 0 13) (h 30) sD, g9 q (h 0 14) (h 31) 96 sL, [(oo, .inl (q 2, 1, .inr (.inl fo)))]] 24 (by decide) rfl rfl rfl rfl rfl rfl GW_ad (fun H locs hP hD hS => ?_)
  refine lv_icmp_eq (tgt := 1307) hx hb dL_law_477 (by decide) (fun _ => ?_) (fun c9 => absurd rfl c9)
  refine W.widen (k := cells + 1) (n := slots + 6) (by omega) (by omega) ?_
  exact kk sT sR sP sB sX sN sY sG sH sK sJR s0 sb0 sn0 s1 sb1 sn1 sW sQ sE sD sL (sI sM 0 (nI 0)) fo V (rel_0 hrel (nI 0)) H locs ls hP hD hS hl
set_option maxRecDepth 100000 in
set_option maxHeartbeats 4000000 in
theorem lw_7 (C : cx p s m args meth c code 7 ret RL D q A) (hX : va_X b L xs s s.heap) (hbl : b < s.heap.size) (hbA : ¬ A b) (hi : i + 6 ≤ L) (hL : L ≤ 3072) (hcs : cells + 1 ≤ 601024 ∧ slots + 6 ≤ 7293034) (hrel : REL sT sR sP sB sN sH sK s0 sb0 sn0 s1 sb1 sn1 sW sQ sE sL sM V) (hP : va_P D vwCl (fl (GW q o om oo h hm sT sR sP sB sX sN sY sG sH sK sJR s0 sb0 sn0 s1 sb1 sn1 sW sQ sE sD sL sM fo)) H) (hD : va_D A (fl (GW q o om oo h hm sT sR sP sB sX sN sY sG sH sK sJR s0 sb0 sn0 s1 sb1 sn1 sW sQ sE sD sL sM fo))) (hS : va_S A s.heap H locs) (hl : lv_has ls 7 [(0, .ref b), (1, .ref o), (2, .ref om), (3, .ref oo), (4, .int (nI i))]) (kk : LWK p l e s m args below meth c D q A Q b i o om oo h hm (cells + 1) (slots + 6)) : W p l e room_1 s m args below meth c H locs cells slots Q (F0 m 482 ls []) := by
  obtain ⟨⟨hS0, hM0, hw0, hN0, hC0, hH0⟩, hT0, h15, hRC, hTo, hSo, hMd, hPa, hTe, hLt, hRW, hMW, hI0, hI1⟩ := id hrel
  obtain ⟨hx, hb, hr, hml, hown, hts, hlk, hA, hK, hN, hV⟩ := id C
  have hf0 : cells + 0 ≤ room_1.cells ∧ slots + 0 ≤ room_1.slots := ⟨Nat.le_of_succ_le hcs.1, by show slots + 0 ≤ 7293034; omega⟩
  obtain ⟨z1, e1⟩ : ∃ z, z = xs (nI i + nI 1).toNatClampNeg := ⟨_, rfl⟩
  obtain ⟨r, f1, f2⟩ := p_now (T := sT) hS0 hM0 hw0 z1
  refine lv_aload_n hx hb dL_law_482 rfl (lv_at hl 1 rfl) ?_
  refine lv_aload_n hx hb dL_law_483 rfl (lv_at hl 0 rfl) ?_
  refine lv_iload hx hb dL_law_484 (lv_at hl 4 rfl) ?_
  refine lv_iconst (v := nI 1) hx hb dL_law_486 (by decide) ?_
  refine lv_iadd hx hb dL_law_487 ?_
  refine va_sld hx hb hX hbl hbA hS (lw_in (k := 1) (by omega) hL) dL_law_488 ?_
  refine k_rni e1 ?_
  refine k_igrpC (gs8 := GW q o om oo h hm sT sR sP sB sX sN sY sG sH sK sJR s0 sb0 sn0 s1 sb1 sn1 sW sQ sE sD sL sM fo) C (k_rV (As := [.int z1]) (rest := []) C (c_X11_now l D q (h 1 0) o (h 0) sT (h 4) sB _ z1 f1) kc_X11_now ml_L_55 rfl rfl (by decide) (flP hP [0, 3] rfl) (flD hD [0, 3] (by decide) rfl) hS (va_recv hK (flP (gc := [g11 q o (h 0) (h 1 0) sT]) hP [0] rfl) (ci := 11) (q0 := 0) rfl rfl) rfl hl.1 rfl (Nat.le_of_ble_eq_true rfl) dL_law_489 hf0) hP hD hS [0, 3] [1, 2, 4, 5, 6, 7, 8, 9, 10, 11, 12, 13, 14, 15, 16, 17, 18, 19, 20, 21, 22, 23] [g5 q (h 0 1) (h 2) (h 1 0) sR, g9 q (h 1 0) (h 3) 940 sP, g8 q (h 0 4) (h 5) sX, g7 q (h 0 5) (h 6) sN, g7 q (h 0 6) (h 7) sY, g0 q (h 0 7) (h 8) sG, g2 q (h 0 8) (h 9) sH, g20 q (h 9 1) (h 10) (fun i => h (11 + i)) sK, g21 q (h 0 9) (h 20) sJR, g3 q (h 20 0) (h 21) s0, g8 q (h 21 1) (h 22) sb0, g7 q (h 21 2) (h 23) sn0, g3 q (h 20 1) (h 24) s1, g8 q (h 24 1) (h 25) sb1, g7 q (h 24 2) (h 26) sn1, g6 q (h 0 10) (h 27) sW, g4 q (h 0 11) (h 28) sQ, g10 q (h 0 12) (h 29) sE, g1 q (h 0 13) (h 30) sD, g9 q (h 0 14) (h 31) 96 sL, g12 q om hm sM, [(oo, .inl (q 2, 1, .inr (.inl fo)))]] 24 (by decide) rfl rfl rfl rfl rfl rfl GW_ad (fun H locs hP hD hS => ?_)
  refine lv_aload_n hx hb dL_law_492 rfl (lv_at hl 2 rfl) ?_
  refine lv_aload_n hx hb dL_law_493 rfl (lv_at hl 0 rfl) ?_
  refine lv_iload hx hb dL_law_494 (lv_at hl 4 rfl) ?_
  refine lv_iconst (v := nI 1) hx hb dL_law_496 (by decide) ?_
  refine lv_iadd hx hb dL_law_497 ?_
  refine va_sld hx hb hX hbl hbA hS (lw_in (k := 1) (by omega) hL) dL_law_498 ?_
  refine k_rni e1 ?_
  refine k_igrpC (gs8 := GW q o om oo h hm sT sR sP sB sX sN sY sG sH sK sJR s0 sb0 sn0 s1 sb1 sn1 sW sQ sE sD sL (sI sM 0 (nI 0)) fo) C (k_rV (As := [.int z1]) (rest := [.int r]) C (c_X12_now l D q om hm sM _ z1 f2) kc_X12_now ml_L_59 rfl rfl (by decide) (flP hP [22] rfl) (flD hD [22] (by decide) rfl) hS (va_recv hK (flP (gc := [g12 q om hm sM]) hP [22] rfl) (ci := 12) (q0 := 0) rfl rfl) rfl hl.1 rfl (Nat.le_of_ble_eq_true rfl) dL_law_499 hf0) hP hD hS [22] [0, 1, 2, 3, 4, 5, 6, 7, 8, 9, 10, 11, 12, 13, 14, 15, 16, 17, 18, 19, 20, 21, 23] [g11 q o (h 0) (h 1 0) sT, g5 q (h 0 1) (h 2) (h 1 0) sR, g9 q (h 1 0) (h 3) 940 sP, g8 q (h 0 3) (h 4) sB, g8 q (h 0 4) (h 5) sX, g7 q (h 0 5) (h 6) sN, g7 q (h 0 6) (h 7) sY, g0 q (h 0 7) (h 8) sG, g2 q (h 0 8) (h 9) sH, g20 q (h 9 1) (h 10) (fun i => h (11 + i)) sK, g21 q (h 0 9) (h 20) sJR, g3 q (h 20 0) (h 21) s0, g8 q (h 21 1) (h 22) sb0, g7 q (h 21 2) (h 23) sn0, g3 q (h 20 1) (h 24) s1, g8 q (h 24 1) (h 25) sb1, g7 q (h 24 2) (h 26) sn1, g6 q (h 0 10) (h 27) sW, g4 q (h 0 11) (h 28) sQ, g10 q (h 0 12) (h 29) sE, g1 q (h 0 13) (h 30) sD, g9 q (h 0 14) (h 31) 96 sL, [(oo, .inl (q 2, 1, .inr (.inl fo)))]] 24 (by decide) rfl rfl rfl rfl rfl rfl GW_ad (fun H locs hP hD hS => ?_)
  refine lv_icmp_eq (tgt := 1307) hx hb dL_law_502 (by decide) (fun _ => ?_) (fun c9 => absurd rfl c9)
  refine W.widen (k := cells + 1) (n := slots + 6) (by omega) (by omega) ?_
  exact kk sT sR sP sB sX sN sY sG sH sK sJR s0 sb0 sn0 s1 sb1 sn1 sW sQ sE sD sL (sI sM 0 (nI 0)) fo V (rel_0 hrel (nI 0)) H locs ls hP hD hS hl
set_option maxRecDepth 100000 in
set_option maxHeartbeats 4000000 in
theorem lw_8 (C : cx p s m args meth c code 7 ret RL D q A) (hX : va_X b L xs s s.heap) (hbl : b < s.heap.size) (hbA : ¬ A b) (hi : i + 6 ≤ L) (hL : L ≤ 3072) (hcs : cells + 1 ≤ 601024 ∧ slots + 6 ≤ 7293034) (hrel : REL sT sR sP sB sN sH sK s0 sb0 sn0 s1 sb1 sn1 sW sQ sE sL sM V) (hP : va_P D vwCl (fl (GW q o om oo h hm sT sR sP sB sX sN sY sG sH sK sJR s0 sb0 sn0 s1 sb1 sn1 sW sQ sE sD sL sM fo)) H) (hD : va_D A (fl (GW q o om oo h hm sT sR sP sB sX sN sY sG sH sK sJR s0 sb0 sn0 s1 sb1 sn1 sW sQ sE sD sL sM fo))) (hS : va_S A s.heap H locs) (hl : lv_has ls 7 [(0, .ref b), (1, .ref o), (2, .ref om), (3, .ref oo), (4, .int (nI i))]) (kk : LWK p l e s m args below meth c D q A Q b i o om oo h hm (cells + 1) (slots + 6)) : W p l e room_1 s m args below meth c H locs cells slots Q (F0 m 507 ls []) := by
  obtain ⟨⟨hS0, hM0, hw0, hN0, hC0, hH0⟩, hT0, h15, hRC, hTo, hSo, hMd, hPa, hTe, hLt, hRW, hMW, hI0, hI1⟩ := id hrel
  obtain ⟨hx, hb, hr, hml, hown, hts, hlk, hA, hK, hN, hV⟩ := id C
  have hf0 : cells + 0 ≤ room_1.cells ∧ slots + 0 ≤ room_1.slots := ⟨Nat.le_of_succ_le hcs.1, by show slots + 0 ≤ 7293034; omega⟩
  obtain ⟨z1, e1⟩ : ∃ z, z = xs (nI i + nI 1).toNatClampNeg := ⟨_, rfl⟩
  obtain ⟨z2, e2⟩ : ∃ z, z = xs (nI i + nI 2).toNatClampNeg := ⟨_, rfl⟩
  obtain ⟨r, B', H', K', M', V', f1, f2, act⟩ := p_climb (T := sT) hS0 hM0 hw0 hH0 z1 z2
  refine lv_aload_n hx hb dL_law_507 rfl (lv_at hl 1 rfl) ?_
  refine lv_aload_n hx hb dL_law_508 rfl (lv_at hl 0 rfl) ?_
  refine lv_iload hx hb dL_law_509 (lv_at hl 4 rfl) ?_
  refine lv_iconst (v := nI 1) hx hb dL_law_511 (by decide) ?_
  refine lv_iadd hx hb dL_law_512 ?_
  refine va_sld hx hb hX hbl hbA hS (lw_in (k := 1) (by omega) hL) dL_law_513 ?_
  refine k_rni e1 ?_
  refine lv_aload_n hx hb dL_law_514 rfl (lv_at hl 0 rfl) ?_
  refine lv_iload hx hb dL_law_515 (lv_at hl 4 rfl) ?_
  refine lv_iconst (v := nI 2) hx hb dL_law_517 (by decide) ?_
  refine lv_iadd hx hb dL_law_518 ?_
  refine va_sld hx hb hX hbl hbA hS (lw_in (k := 2) (by omega) hL) dL_law_519 ?_
  refine k_rni e2 ?_
  refine k_igrpC (gs8 := GW q o om oo h hm sT sR sP B' sX sN sY sG H' K' sJR s0 sb0 sn0 s1 sb1 sn1 sW sQ sE sD sL sM fo) C (k_rV (As := [.int z1, .int z2]) (rest := []) C (c_X11_climb l D q (h 1 0) o (h 0) sT (h 9) sH (h 10) (fun i => h (11 + i)) sK (h 4) sB _ z1 z2 f1) kc_X11_climb ml_L_60 rfl rfl (by decide) (flP hP [0, 8, 9, 3] rfl) (flD hD [0, 8, 9, 3] (by decide) rfl) hS (va_recv hK (flP (gc := [g11 q o (h 0) (h 1 0) sT]) hP [0] rfl) (ci := 11) (q0 := 0) rfl rfl) rfl hl.1 rfl (Nat.le_of_ble_eq_true rfl) dL_law_520 hf0) hP hD hS [0, 8, 9, 3] [1, 2, 4, 5, 6, 7, 10, 11, 12, 13, 14, 15, 16, 17, 18, 19, 20, 21, 22, 23] [g5 q (h 0 1) (h 2) (h 1 0) sR, g9 q (h 1 0) (h 3) 940 sP, g8 q (h 0 4) (h 5) sX, g7 q (h 0 5) (h 6) sN, g7 q (h 0 6) (h 7) sY, g0 q (h 0 7) (h 8) sG, g21 q (h 0 9) (h 20) sJR, g3 q (h 20 0) (h 21) s0, g8 q (h 21 1) (h 22) sb0, g7 q (h 21 2) (h 23) sn0, g3 q (h 20 1) (h 24) s1, g8 q (h 24 1) (h 25) sb1, g7 q (h 24 2) (h 26) sn1, g6 q (h 0 10) (h 27) sW, g4 q (h 0 11) (h 28) sQ, g10 q (h 0 12) (h 29) sE, g1 q (h 0 13) (h 30) sD, g9 q (h 0 14) (h 31) 96 sL, g12 q om hm sM, [(oo, .inl (q 2, 1, .inr (.inl fo)))]] 24 (by decide) rfl rfl rfl rfl rfl rfl GW_ad (fun H locs hP hD hS => ?_)
  refine lv_aload_n hx hb dL_law_523 rfl (lv_at hl 2 rfl) ?_
  refine lv_aload_n hx hb dL_law_524 rfl (lv_at hl 0 rfl) ?_
  refine lv_iload hx hb dL_law_525 (lv_at hl 4 rfl) ?_
  refine lv_iconst (v := nI 1) hx hb dL_law_527 (by decide) ?_
  refine lv_iadd hx hb dL_law_528 ?_
  refine va_sld hx hb hX hbl hbA hS (lw_in (k := 1) (by omega) hL) dL_law_529 ?_
  refine k_rni e1 ?_
  refine lv_aload_n hx hb dL_law_530 rfl (lv_at hl 0 rfl) ?_
  refine lv_iload hx hb dL_law_531 (lv_at hl 4 rfl) ?_
  refine lv_iconst (v := nI 2) hx hb dL_law_533 (by decide) ?_
  refine lv_iadd hx hb dL_law_534 ?_
  refine va_sld hx hb hX hbl hbA hS (lw_in (k := 2) (by omega) hL) dL_law_535 ?_
  refine k_rni e2 ?_
  refine k_igrpC (gs8 := GW q o om oo h hm sT sR sP B' sX sN sY sG H' K' sJR s0 sb0 sn0 s1 sb1 sn1 sW sQ sE sD sL M' fo) C (k_rV (As := [.int z1, .int z2]) (rest := [.int r]) C (c_X12_climb l D q om hm sM _ z1 z2 f2) kc_X12_climb ml_L_63 rfl rfl (by decide) (flP hP [22] rfl) (flD hD [22] (by decide) rfl) hS (va_recv hK (flP (gc := [g12 q om hm sM]) hP [22] rfl) (ci := 12) (q0 := 0) rfl rfl) rfl hl.1 rfl (Nat.le_of_ble_eq_true rfl) dL_law_536 hf0) hP hD hS [22] [0, 1, 2, 3, 4, 5, 6, 7, 8, 9, 10, 11, 12, 13, 14, 15, 16, 17, 18, 19, 20, 21, 23] [g11 q o (h 0) (h 1 0) sT, g5 q (h 0 1) (h 2) (h 1 0) sR, g9 q (h 1 0) (h 3) 940 sP, g8 q (h 0 3) (h 4) B', g8 q (h 0 4) (h 5) sX, g7 q (h 0 5) (h 6) sN, g7 q (h 0 6) (h 7) sY, g0 q (h 0 7) (h 8) sG, g2 q (h 0 8) (h 9) H', g20 q (h 9 1) (h 10) (fun i => h (11 + i)) K', g21 q (h 0 9) (h 20) sJR, g3 q (h 20 0) (h 21) s0, g8 q (h 21 1) (h 22) sb0, g7 q (h 21 2) (h 23) sn0, g3 q (h 20 1) (h 24) s1, g8 q (h 24 1) (h 25) sb1, g7 q (h 24 2) (h 26) sn1, g6 q (h 0 10) (h 27) sW, g4 q (h 0 11) (h 28) sQ, g10 q (h 0 12) (h 29) sE, g1 q (h 0 13) (h 30) sD, g9 q (h 0 14) (h 31) 96 sL, [(oo, .inl (q 2, 1, .inr (.inl fo)))]] 24 (by decide) rfl rfl rfl rfl rfl rfl GW_ad (fun H locs hP hD hS => ?_)
  refine lv_icmp_eq (tgt := 1307) hx hb dL_law_539 (by decide) (fun _ => ?_) (fun c9 => absurd rfl c9)
  refine W.widen (k := cells + 1) (n := slots + 6) (by omega) (by omega) ?_
  exact kk sT sR sP B' sX sN sY sG H' K' sJR s0 sb0 sn0 s1 sb1 sn1 sW sQ sE sD sL M' fo V' (rel_act hrel act) H locs ls hP hD hS hl
set_option maxRecDepth 100000 in
set_option maxHeartbeats 4000000 in
theorem lw_9 (C : cx p s m args meth c code 7 ret RL D q A) (hX : va_X b L xs s s.heap) (hbl : b < s.heap.size) (hbA : ¬ A b) (hi : i + 6 ≤ L) (hL : L ≤ 3072) (hcs : cells + 1 ≤ 601024 ∧ slots + 6 ≤ 7293034) (hrel : REL sT sR sP sB sN sH sK s0 sb0 sn0 s1 sb1 sn1 sW sQ sE sL sM V) (hP : va_P D vwCl (fl (GW q o om oo h hm sT sR sP sB sX sN sY sG sH sK sJR s0 sb0 sn0 s1 sb1 sn1 sW sQ sE sD sL sM fo)) H) (hD : va_D A (fl (GW q o om oo h hm sT sR sP sB sX sN sY sG sH sK sJR s0 sb0 sn0 s1 sb1 sn1 sW sQ sE sD sL sM fo))) (hS : va_S A s.heap H locs) (hl : lv_has ls 7 [(0, .ref b), (1, .ref o), (2, .ref om), (3, .ref oo), (4, .int (nI i))]) (kk : LWK p l e s m args below meth c D q A Q b i o om oo h hm (cells + 1) (slots + 6)) : W p l e room_1 s m args below meth c H locs cells slots Q (F0 m 544 ls []) := by
  obtain ⟨⟨hS0, hM0, hw0, hN0, hC0, hH0⟩, hT0, h15, hRC, hTo, hSo, hMd, hPa, hTe, hLt, hRW, hMW, hI0, hI1⟩ := id hrel
  obtain ⟨hx, hb, hr, hml, hown, hts, hlk, hA, hK, hN, hV⟩ := id C
  have hf0 : cells + 0 ≤ room_1.cells ∧ slots + 0 ≤ room_1.slots := ⟨Nat.le_of_succ_le hcs.1, by show slots + 0 ≤ 7293034; omega⟩
  obtain ⟨z1, e1⟩ : ∃ z, z = xs (nI i + nI 1).toNatClampNeg := ⟨_, rfl⟩
  obtain ⟨r, B', H', K', M', V', f1, f2, act⟩ := p_land (T := sT) hS0 hM0 hw0 hH0 z1
  refine lv_aload_n hx hb dL_law_544 rfl (lv_at hl 1 rfl) ?_
  refine lv_aload_n hx hb dL_law_545 rfl (lv_at hl 0 rfl) ?_
  refine lv_iload hx hb dL_law_546 (lv_at hl 4 rfl) ?_
  refine lv_iconst (v := nI 1) hx hb dL_law_548 (by decide) ?_
  refine lv_iadd hx hb dL_law_549 ?_
  refine va_sld hx hb hX hbl hbA hS (lw_in (k := 1) (by omega) hL) dL_law_550 ?_
  refine k_rni e1 ?_
  refine k_igrpC (gs8 := GW q o om oo h hm sT sR sP B' sX sN sY sG H' K' sJR s0 sb0 sn0 s1 sb1 sn1 sW sQ sE sD sL sM fo) C (k_rV (As := [.int z1]) (rest := []) C (c_X11_land l D q (h 1 0) o (h 0) sT (h 9) sH (h 10) (fun i => h (11 + i)) sK (h 4) sB _ z1 f1) kc_X11_land ml_L_64 rfl rfl (by decide) (flP hP [0, 8, 9, 3] rfl) (flD hD [0, 8, 9, 3] (by decide) rfl) hS (va_recv hK (flP (gc := [g11 q o (h 0) (h 1 0) sT]) hP [0] rfl) (ci := 11) (q0 := 0) rfl rfl) rfl hl.1 rfl (Nat.le_of_ble_eq_true rfl) dL_law_551 hf0) hP hD hS [0, 8, 9, 3] [1, 2, 4, 5, 6, 7, 10, 11, 12, 13, 14, 15, 16, 17, 18, 19, 20, 21, 22, 23] [g5 q (h 0 1) (h 2) (h 1 0) sR, g9 q (h 1 0) (h 3) 940 sP, g8 q (h 0 4) (h 5) sX, g7 q (h 0 5) (h 6) sN, g7 q (h 0 6) (h 7) sY, g0 q (h 0 7) (h 8) sG, g21 q (h 0 9) (h 20) sJR, g3 q (h 20 0) (h 21) s0, g8 q (h 21 1) (h 22) sb0, g7 q (h 21 2) (h 23) sn0, g3 q (h 20 1) (h 24) s1, g8 q (h 24 1) (h 25) sb1, g7 q (h 24 2) (h 26) sn1, g6 q (h 0 10) (h 27) sW, g4 q (h 0 11) (h 28) sQ, g10 q (h 0 12) (h 29) sE, g1 q (h 0 13) (h 30) sD, g9 q (h 0 14) (h 31) 96 sL, g12 q om hm sM, [(oo, .inl (q 2, 1, .inr (.inl fo)))]] 24 (by decide) rfl rfl rfl rfl rfl rfl GW_ad (fun H locs hP hD hS => ?_)
  refine lv_aload_n hx hb dL_law_554 rfl (lv_at hl 2 rfl) ?_
  refine lv_aload_n hx hb dL_law_555 rfl (lv_at hl 0 rfl) ?_
  refine lv_iload hx hb dL_law_556 (lv_at hl 4 rfl) ?_
  refine lv_iconst (v := nI 1) hx hb dL_law_558 (by decide) ?_
  refine lv_iadd hx hb dL_law_559 ?_
  refine va_sld hx hb hX hbl hbA hS (lw_in (k := 1) (by omega) hL) dL_law_560 ?_
  refine k_rni e1 ?_
  refine k_igrpC (gs8 := GW q o om oo h hm sT sR sP B' sX sN sY sG H' K' sJR s0 sb0 sn0 s1 sb1 sn1 sW sQ sE sD sL M' fo) C (k_rV (As := [.int z1]) (rest := [.int r]) C (c_X12_land l D q om hm sM _ z1 f2) kc_X12_land ml_L_67 rfl rfl (by decide) (flP hP [22] rfl) (flD hD [22] (by decide) rfl) hS (va_recv hK (flP (gc := [g12 q om hm sM]) hP [22] rfl) (ci := 12) (q0 := 0) rfl rfl) rfl hl.1 rfl (Nat.le_of_ble_eq_true rfl) dL_law_561 hf0) hP hD hS [22] [0, 1, 2, 3, 4, 5, 6, 7, 8, 9, 10, 11, 12, 13, 14, 15, 16, 17, 18, 19, 20, 21, 23] [g11 q o (h 0) (h 1 0) sT, g5 q (h 0 1) (h 2) (h 1 0) sR, g9 q (h 1 0) (h 3) 940 sP, g8 q (h 0 3) (h 4) B', g8 q (h 0 4) (h 5) sX, g7 q (h 0 5) (h 6) sN, g7 q (h 0 6) (h 7) sY, g0 q (h 0 7) (h 8) sG, g2 q (h 0 8) (h 9) H', g20 q (h 9 1) (h 10) (fun i => h (11 + i)) K', g21 q (h 0 9) (h 20) sJR, g3 q (h 20 0) (h 21) s0, g8 q (h 21 1) (h 22) sb0, g7 q (h 21 2) (h 23) sn0, g3 q (h 20 1) (h 24) s1, g8 q (h 24 1) (h 25) sb1, g7 q (h 24 2) (h 26) sn1, g6 q (h 0 10) (h 27) sW, g4 q (h 0 11) (h 28) sQ, g10 q (h 0 12) (h 29) sE, g1 q (h 0 13) (h 30) sD, g9 q (h 0 14) (h 31) 96 sL, [(oo, .inl (q 2, 1, .inr (.inl fo)))]] 24 (by decide) rfl rfl rfl rfl rfl rfl GW_ad (fun H locs hP hD hS => ?_)
  refine lv_icmp_eq (tgt := 1307) hx hb dL_law_564 (by decide) (fun _ => ?_) (fun c9 => absurd rfl c9)
  refine W.widen (k := cells + 1) (n := slots + 6) (by omega) (by omega) ?_
  exact kk sT sR sP B' sX sN sY sG H' K' sJR s0 sb0 sn0 s1 sb1 sn1 sW sQ sE sD sL M' fo V' (rel_act hrel act) H locs ls hP hD hS hl
set_option maxRecDepth 100000 in
set_option maxHeartbeats 4000000 in
theorem lw_10 (C : cx p s m args meth c code 7 ret RL D q A) (hX : va_X b L xs s s.heap) (hbl : b < s.heap.size) (hbA : ¬ A b) (hi : i + 6 ≤ L) (hL : L ≤ 3072) (hcs : cells + 1 ≤ 601024 ∧ slots + 6 ≤ 7293034) (hrel : REL sT sR sP sB sN sH sK s0 sb0 sn0 s1 sb1 sn1 sW sQ sE sL sM V) (hP : va_P D vwCl (fl (GW q o om oo h hm sT sR sP sB sX sN sY sG sH sK sJR s0 sb0 sn0 s1 sb1 sn1 sW sQ sE sD sL sM fo)) H) (hD : va_D A (fl (GW q o om oo h hm sT sR sP sB sX sN sY sG sH sK sJR s0 sb0 sn0 s1 sb1 sn1 sW sQ sE sD sL sM fo))) (hS : va_S A s.heap H locs) (hl : lv_has ls 7 [(0, .ref b), (1, .ref o), (2, .ref om), (3, .ref oo), (4, .int (nI i))]) (kk : LWK p l e s m args below meth c D q A Q b i o om oo h hm (cells + 1) (slots + 6)) : W p l e room_1 s m args below meth c H locs cells slots Q (F0 m 569 ls []) := by
  obtain ⟨⟨hS0, hM0, hw0, hN0, hC0, hH0⟩, hT0, h15, hRC, hTo, hSo, hMd, hPa, hTe, hLt, hRW, hMW, hI0, hI1⟩ := id hrel
  obtain ⟨hx, hb, hr, hml, hown, hts, hlk, hA, hK, hN, hV⟩ := id C
  have hf0 : cells + 0 ≤ room_1.cells ∧ slots + 0 ≤ room_1.slots := ⟨Nat.le_of_succ_le hcs.1, by show slots + 0 ≤ 7293034; omega⟩
  obtain ⟨z1, e1⟩ : ∃ z, z = xs (nI i + nI 1).toNatClampNeg := ⟨_, rfl⟩
  obtain ⟨z2, e2⟩ : ∃ z, z = xs (nI i + nI 2).toNatClampNeg := ⟨_, rfl⟩
  obtain ⟨z3, e3⟩ : ∃ z, z = xs (nI i + nI 3).toNatClampNeg := ⟨_, rfl⟩
  obtain ⟨r, B', H', K', M', V', f1, f2, act⟩ := p_tell (T := sT) hS0 hM0 hw0 hH0 z1 z2 z3
  refine lv_aload_n hx hb dL_law_569 rfl (lv_at hl 1 rfl) ?_
  refine lv_aload_n hx hb dL_law_570 rfl (lv_at hl 0 rfl) ?_
  refine lv_iload hx hb dL_law_571 (lv_at hl 4 rfl) ?_
  refine lv_iconst (v := nI 1) hx hb dL_law_573 (by decide) ?_
  refine lv_iadd hx hb dL_law_574 ?_
  refine va_sld hx hb hX hbl hbA hS (lw_in (k := 1) (by omega) hL) dL_law_575 ?_
  refine k_rni e1 ?_
  refine lv_aload_n hx hb dL_law_576 rfl (lv_at hl 0 rfl) ?_
  refine lv_iload hx hb dL_law_577 (lv_at hl 4 rfl) ?_
  refine lv_iconst (v := nI 2) hx hb dL_law_579 (by decide) ?_
  refine lv_iadd hx hb dL_law_580 ?_
  refine va_sld hx hb hX hbl hbA hS (lw_in (k := 2) (by omega) hL) dL_law_581 ?_
  refine k_rni e2 ?_
  refine lv_aload_n hx hb dL_law_582 rfl (lv_at hl 0 rfl) ?_
  refine lv_iload hx hb dL_law_583 (lv_at hl 4 rfl) ?_
  refine lv_iconst (v := nI 3) hx hb dL_law_585 (by decide) ?_
  refine lv_iadd hx hb dL_law_586 ?_
  refine va_sld hx hb hX hbl hbA hS (lw_in (k := 3) (by omega) hL) dL_law_587 ?_
  refine k_rni e3 ?_
  refine k_igrpC (gs8 := GW q o om oo h hm sT sR sP B' sX sN sY sG H' K' sJR s0 sb0 sn0 s1 sb1 sn1 sW sQ sE sD sL sM fo) C (k_rV (As := [.int z1, .int z2, .int z3]) (rest := []) C (c_X11_tell l D q (h 1 0) o (h 0) sT (h 9) sH (h 10) (fun i => h (11 + i)) sK (h 4) sB _ z1 z2 z3 f1) kc_X11_tell ml_L_68 rfl rfl (by decide) (flP hP [0, 8, 9, 3] rfl) (flD hD [0, 8, 9, 3] (by decide) rfl) hS (va_recv hK (flP (gc := [g11 q o (h 0) (h 1 0) sT]) hP [0] rfl) (ci := 11) (q0 := 0) rfl rfl) rfl hl.1 rfl (Nat.le_of_ble_eq_true rfl) dL_law_588 hf0) hP hD hS [0, 8, 9, 3] [1, 2, 4, 5, 6, 7, 10, 11, 12, 13, 14, 15, 16, 17, 18, 19, 20, 21, 22, 23] [g5 q (h 0 1) (h 2) (h 1 0) sR, g9 q (h 1 0) (h 3) 940 sP, g8 q (h 0 4) (h 5) sX, g7 q (h 0 5) (h 6) sN, g7 q (h 0 6) (h 7) sY, g0 q (h 0 7) (h 8) sG, g21 q (h 0 9) (h 20) sJR, g3 q (h 20 0) (h 21) s0, g8 q (h 21 1) (h 22) sb0, g7 q (h 21 2) (h 23) sn0, g3 q (h 20 1) (h 24) s1, g8 q (h 24 1) (h 25) sb1, g7 q (h 24 2) (h 26) sn1, g6 q (h 0 10) (h 27) sW, g4 q (h 0 11) (h 28) sQ, g10 q (h 0 12) (h 29) sE, g1 q (h 0 13) (h 30) sD, g9 q (h 0 14) (h 31) 96 sL, g12 q om hm sM, [(oo, .inl (q 2, 1, .inr (.inl fo)))]] 24 (by decide) rfl rfl rfl rfl rfl rfl GW_ad (fun H locs hP hD hS => ?_)
  refine lv_aload_n hx hb dL_law_591 rfl (lv_at hl 2 rfl) ?_
  refine lv_aload_n hx hb dL_law_592 rfl (lv_at hl 0 rfl) ?_
  refine lv_iload hx hb dL_law_593 (lv_at hl 4 rfl) ?_
  refine lv_iconst (v := nI 1) hx hb dL_law_595 (by decide) ?_
  refine lv_iadd hx hb dL_law_596 ?_
  refine va_sld hx hb hX hbl hbA hS (lw_in (k := 1) (by omega) hL) dL_law_597 ?_
  refine k_rni e1 ?_
  refine lv_aload_n hx hb dL_law_598 rfl (lv_at hl 0 rfl) ?_
  refine lv_iload hx hb dL_law_599 (lv_at hl 4 rfl) ?_
  refine lv_iconst (v := nI 2) hx hb dL_law_601 (by decide) ?_
  refine lv_iadd hx hb dL_law_602 ?_
  refine va_sld hx hb hX hbl hbA hS (lw_in (k := 2) (by omega) hL) dL_law_603 ?_
  refine k_rni e2 ?_
  refine lv_aload_n hx hb dL_law_604 rfl (lv_at hl 0 rfl) ?_
  refine lv_iload hx hb dL_law_605 (lv_at hl 4 rfl) ?_
  refine lv_iconst (v := nI 3) hx hb dL_law_607 (by decide) ?_
  refine lv_iadd hx hb dL_law_608 ?_
  refine va_sld hx hb hX hbl hbA hS (lw_in (k := 3) (by omega) hL) dL_law_609 ?_
  refine k_rni e3 ?_
  refine k_igrpC (gs8 := GW q o om oo h hm sT sR sP B' sX sN sY sG H' K' sJR s0 sb0 sn0 s1 sb1 sn1 sW sQ sE sD sL M' fo) C (k_rV (As := [.int z1, .int z2, .int z3]) (rest := [.int r]) C (c_X12_tell l D q om hm sM _ z1 z2 z3 f2) kc_X12_tell ml_L_72 rfl rfl (by decide) (flP hP [22] rfl) (flD hD [22] (by decide) rfl) hS (va_recv hK (flP (gc := [g12 q om hm sM]) hP [22] rfl) (ci := 12) (q0 := 0) rfl rfl) rfl hl.1 rfl (Nat.le_of_ble_eq_true rfl) dL_law_610 hf0) hP hD hS [22] [0, 1, 2, 3, 4, 5, 6, 7, 8, 9, 10, 11, 12, 13, 14, 15, 16, 17, 18, 19, 20, 21, 23] [g11 q o (h 0) (h 1 0) sT, g5 q (h 0 1) (h 2) (h 1 0) sR, g9 q (h 1 0) (h 3) 940 sP, g8 q (h 0 3) (h 4) B', g8 q (h 0 4) (h 5) sX, g7 q (h 0 5) (h 6) sN, g7 q (h 0 6) (h 7) sY, g0 q (h 0 7) (h 8) sG, g2 q (h 0 8) (h 9) H', g20 q (h 9 1) (h 10) (fun i => h (11 + i)) K', g21 q (h 0 9) (h 20) sJR, g3 q (h 20 0) (h 21) s0, g8 q (h 21 1) (h 22) sb0, g7 q (h 21 2) (h 23) sn0, g3 q (h 20 1) (h 24) s1, g8 q (h 24 1) (h 25) sb1, g7 q (h 24 2) (h 26) sn1, g6 q (h 0 10) (h 27) sW, g4 q (h 0 11) (h 28) sQ, g10 q (h 0 12) (h 29) sE, g1 q (h 0 13) (h 30) sD, g9 q (h 0 14) (h 31) 96 sL, [(oo, .inl (q 2, 1, .inr (.inl fo)))]] 24 (by decide) rfl rfl rfl rfl rfl rfl GW_ad (fun H locs hP hD hS => ?_)
  refine lv_icmp_eq (tgt := 1307) hx hb dL_law_613 (by decide) (fun _ => ?_) (fun c9 => absurd rfl c9)
  refine W.widen (k := cells + 1) (n := slots + 6) (by omega) (by omega) ?_
  exact kk sT sR sP B' sX sN sY sG H' K' sJR s0 sb0 sn0 s1 sb1 sn1 sW sQ sE sD sL M' fo V' (rel_act hrel act) H locs ls hP hD hS hl
set_option maxRecDepth 100000 in
set_option maxHeartbeats 4000000 in
theorem lw_11 (C : cx p s m args meth c code 7 ret RL D q A) (hX : va_X b L xs s s.heap) (hbl : b < s.heap.size) (hbA : ¬ A b) (hi : i + 6 ≤ L) (hL : L ≤ 3072) (hcs : cells + 1 ≤ 601024 ∧ slots + 6 ≤ 7293034) (hrel : REL sT sR sP sB sN sH sK s0 sb0 sn0 s1 sb1 sn1 sW sQ sE sL sM V) (hP : va_P D vwCl (fl (GW q o om oo h hm sT sR sP sB sX sN sY sG sH sK sJR s0 sb0 sn0 s1 sb1 sn1 sW sQ sE sD sL sM fo)) H) (hD : va_D A (fl (GW q o om oo h hm sT sR sP sB sX sN sY sG sH sK sJR s0 sb0 sn0 s1 sb1 sn1 sW sQ sE sD sL sM fo))) (hS : va_S A s.heap H locs) (hl : lv_has ls 7 [(0, .ref b), (1, .ref o), (2, .ref om), (3, .ref oo), (4, .int (nI i))]) (kk : LWK p l e s m args below meth c D q A Q b i o om oo h hm (cells + 1) (slots + 6)) : W p l e room_1 s m args below meth c H locs cells slots Q (F0 m 618 ls []) := by
  obtain ⟨⟨hS0, hM0, hw0, hN0, hC0, hH0⟩, hT0, h15, hRC, hTo, hSo, hMd, hPa, hTe, hLt, hRW, hMW, hI0, hI1⟩ := id hrel
  obtain ⟨hx, hb, hr, hml, hown, hts, hlk, hA, hK, hN, hV⟩ := id C
  have hf0 : cells + 0 ≤ room_1.cells ∧ slots + 0 ≤ room_1.slots := ⟨Nat.le_of_succ_le hcs.1, by show slots + 0 ≤ 7293034; omega⟩
  obtain ⟨z1, e1⟩ : ∃ z, z = xs (nI i + nI 1).toNatClampNeg := ⟨_, rfl⟩
  obtain ⟨r, B', H', K', M', V', f1, f2, act⟩ := p_storm (T := sT) hS0 hM0 hw0 hH0 z1
  refine lv_aload_n hx hb dL_law_618 rfl (lv_at hl 1 rfl) ?_
  refine lv_aload_n hx hb dL_law_619 rfl (lv_at hl 0 rfl) ?_
  refine lv_iload hx hb dL_law_620 (lv_at hl 4 rfl) ?_
  refine lv_iconst (v := nI 1) hx hb dL_law_622 (by decide) ?_
  refine lv_iadd hx hb dL_law_623 ?_
  refine va_sld hx hb hX hbl hbA hS (lw_in (k := 1) (by omega) hL) dL_law_624 ?_
  refine k_rni e1 ?_
  refine k_igrpC (gs8 := GW q o om oo h hm sT sR sP B' sX sN sY sG H' K' sJR s0 sb0 sn0 s1 sb1 sn1 sW sQ sE sD sL sM fo) C (k_rV (As := [.int z1]) (rest := []) C (c_X11_storm l D q (h 1 0) o (h 0) sT (h 9) sH (h 10) (fun i => h (11 + i)) sK (h 4) sB _ z1 f1) kc_X11_storm ml_L_73 rfl rfl (by decide) (flP hP [0, 8, 9, 3] rfl) (flD hD [0, 8, 9, 3] (by decide) rfl) hS (va_recv hK (flP (gc := [g11 q o (h 0) (h 1 0) sT]) hP [0] rfl) (ci := 11) (q0 := 0) rfl rfl) rfl hl.1 rfl (Nat.le_of_ble_eq_true rfl) dL_law_625 hf0) hP hD hS [0, 8, 9, 3] [1, 2, 4, 5, 6, 7, 10, 11, 12, 13, 14, 15, 16, 17, 18, 19, 20, 21, 22, 23] [g5 q (h 0 1) (h 2) (h 1 0) sR, g9 q (h 1 0) (h 3) 940 sP, g8 q (h 0 4) (h 5) sX, g7 q (h 0 5) (h 6) sN, g7 q (h 0 6) (h 7) sY, g0 q (h 0 7) (h 8) sG, g21 q (h 0 9) (h 20) sJR, g3 q (h 20 0) (h 21) s0, g8 q (h 21 1) (h 22) sb0, g7 q (h 21 2) (h 23) sn0, g3 q (h 20 1) (h 24) s1, g8 q (h 24 1) (h 25) sb1, g7 q (h 24 2) (h 26) sn1, g6 q (h 0 10) (h 27) sW, g4 q (h 0 11) (h 28) sQ, g10 q (h 0 12) (h 29) sE, g1 q (h 0 13) (h 30) sD, g9 q (h 0 14) (h 31) 96 sL, g12 q om hm sM, [(oo, .inl (q 2, 1, .inr (.inl fo)))]] 24 (by decide) rfl rfl rfl rfl rfl rfl GW_ad (fun H locs hP hD hS => ?_)
  refine lv_aload_n hx hb dL_law_628 rfl (lv_at hl 2 rfl) ?_
  refine lv_aload_n hx hb dL_law_629 rfl (lv_at hl 0 rfl) ?_
  refine lv_iload hx hb dL_law_630 (lv_at hl 4 rfl) ?_
  refine lv_iconst (v := nI 1) hx hb dL_law_632 (by decide) ?_
  refine lv_iadd hx hb dL_law_633 ?_
  refine va_sld hx hb hX hbl hbA hS (lw_in (k := 1) (by omega) hL) dL_law_634 ?_
  refine k_rni e1 ?_
  refine k_igrpC (gs8 := GW q o om oo h hm sT sR sP B' sX sN sY sG H' K' sJR s0 sb0 sn0 s1 sb1 sn1 sW sQ sE sD sL M' fo) C (k_rV (As := [.int z1]) (rest := [.int r]) C (c_X12_storm l D q om hm sM _ z1 f2) kc_X12_storm ml_L_76 rfl rfl (by decide) (flP hP [22] rfl) (flD hD [22] (by decide) rfl) hS (va_recv hK (flP (gc := [g12 q om hm sM]) hP [22] rfl) (ci := 12) (q0 := 0) rfl rfl) rfl hl.1 rfl (Nat.le_of_ble_eq_true rfl) dL_law_635 hf0) hP hD hS [22] [0, 1, 2, 3, 4, 5, 6, 7, 8, 9, 10, 11, 12, 13, 14, 15, 16, 17, 18, 19, 20, 21, 23] [g11 q o (h 0) (h 1 0) sT, g5 q (h 0 1) (h 2) (h 1 0) sR, g9 q (h 1 0) (h 3) 940 sP, g8 q (h 0 3) (h 4) B', g8 q (h 0 4) (h 5) sX, g7 q (h 0 5) (h 6) sN, g7 q (h 0 6) (h 7) sY, g0 q (h 0 7) (h 8) sG, g2 q (h 0 8) (h 9) H', g20 q (h 9 1) (h 10) (fun i => h (11 + i)) K', g21 q (h 0 9) (h 20) sJR, g3 q (h 20 0) (h 21) s0, g8 q (h 21 1) (h 22) sb0, g7 q (h 21 2) (h 23) sn0, g3 q (h 20 1) (h 24) s1, g8 q (h 24 1) (h 25) sb1, g7 q (h 24 2) (h 26) sn1, g6 q (h 0 10) (h 27) sW, g4 q (h 0 11) (h 28) sQ, g10 q (h 0 12) (h 29) sE, g1 q (h 0 13) (h 30) sD, g9 q (h 0 14) (h 31) 96 sL, [(oo, .inl (q 2, 1, .inr (.inl fo)))]] 24 (by decide) rfl rfl rfl rfl rfl rfl GW_ad (fun H locs hP hD hS => ?_)
  refine lv_icmp_eq (tgt := 1307) hx hb dL_law_638 (by decide) (fun _ => ?_) (fun c9 => absurd rfl c9)
  refine W.widen (k := cells + 1) (n := slots + 6) (by omega) (by omega) ?_
  exact kk sT sR sP B' sX sN sY sG H' K' sJR s0 sb0 sn0 s1 sb1 sn1 sW sQ sE sD sL M' fo V' (rel_act hrel act) H locs ls hP hD hS hl
set_option maxRecDepth 100000 in
set_option maxHeartbeats 4000000 in
theorem lw_12 (C : cx p s m args meth c code 7 ret RL D q A) (hX : va_X b L xs s s.heap) (hbl : b < s.heap.size) (hbA : ¬ A b) (hi : i + 6 ≤ L) (hL : L ≤ 3072) (hcs : cells + 1 ≤ 601024 ∧ slots + 6 ≤ 7293034) (hrel : REL sT sR sP sB sN sH sK s0 sb0 sn0 s1 sb1 sn1 sW sQ sE sL sM V) (hP : va_P D vwCl (fl (GW q o om oo h hm sT sR sP sB sX sN sY sG sH sK sJR s0 sb0 sn0 s1 sb1 sn1 sW sQ sE sD sL sM fo)) H) (hD : va_D A (fl (GW q o om oo h hm sT sR sP sB sX sN sY sG sH sK sJR s0 sb0 sn0 s1 sb1 sn1 sW sQ sE sD sL sM fo))) (hS : va_S A s.heap H locs) (hl : lv_has ls 7 [(0, .ref b), (1, .ref o), (2, .ref om), (3, .ref oo), (4, .int (nI i))]) (kk : LWK p l e s m args below meth c D q A Q b i o om oo h hm (cells + 1) (slots + 6)) : W p l e room_1 s m args below meth c H locs cells slots Q (F0 m 643 ls []) := by
  obtain ⟨⟨hS0, hM0, hw0, hN0, hC0, hH0⟩, hT0, h15, hRC, hTo, hSo, hMd, hPa, hTe, hLt, hRW, hMW, hI0, hI1⟩ := id hrel
  obtain ⟨hx, hb, hr, hml, hown, hts, hlk, hA, hK, hN, hV⟩ := id C
  have hf0 : cells + 0 ≤ room_1.cells ∧ slots + 0 ≤ room_1.slots := ⟨Nat.le_of_succ_le hcs.1, by show slots + 0 ≤ 7293034; omega⟩
  obtain ⟨z1, e1⟩ : ∃ z, z = xs (nI i + nI 1).toNatClampNeg := ⟨_, rfl⟩
  obtain ⟨r, B', H', K', M', V', f1, f2, act⟩ := p_wall (T := sT) hS0 hM0 hw0 hH0 z1
  refine lv_aload_n hx hb dL_law_643 rfl (lv_at hl 1 rfl) ?_
  refine lv_aload_n hx hb dL_law_644 rfl (lv_at hl 0 rfl) ?_
  refine lv_iload hx hb dL_law_645 (lv_at hl 4 rfl) ?_
  refine lv_iconst (v := nI 1) hx hb dL_law_647 (by decide) ?_
  refine lv_iadd hx hb dL_law_648 ?_
  refine va_sld hx hb hX hbl hbA hS (lw_in (k := 1) (by omega) hL) dL_law_649 ?_
  refine k_rni e1 ?_
  refine k_igrpC (gs8 := GW q o om oo h hm sT sR sP B' sX sN sY sG H' K' sJR s0 sb0 sn0 s1 sb1 sn1 sW sQ sE sD sL sM fo) C (k_rV (As := [.int z1]) (rest := []) C (c_X11_wall l D q (h 1 0) o (h 0) sT (h 9) sH (h 10) (fun i => h (11 + i)) sK (h 4) sB _ z1 f1) kc_X11_wall ml_L_77 rfl rfl (by decide) (flP hP [0, 8, 9, 3] rfl) (flD hD [0, 8, 9, 3] (by decide) rfl) hS (va_recv hK (flP (gc := [g11 q o (h 0) (h 1 0) sT]) hP [0] rfl) (ci := 11) (q0 := 0) rfl rfl) rfl hl.1 rfl (Nat.le_of_ble_eq_true rfl) dL_law_650 hf0) hP hD hS [0, 8, 9, 3] [1, 2, 4, 5, 6, 7, 10, 11, 12, 13, 14, 15, 16, 17, 18, 19, 20, 21, 22, 23] [g5 q (h 0 1) (h 2) (h 1 0) sR, g9 q (h 1 0) (h 3) 940 sP, g8 q (h 0 4) (h 5) sX, g7 q (h 0 5) (h 6) sN, g7 q (h 0 6) (h 7) sY, g0 q (h 0 7) (h 8) sG, g21 q (h 0 9) (h 20) sJR, g3 q (h 20 0) (h 21) s0, g8 q (h 21 1) (h 22) sb0, g7 q (h 21 2) (h 23) sn0, g3 q (h 20 1) (h 24) s1, g8 q (h 24 1) (h 25) sb1, g7 q (h 24 2) (h 26) sn1, g6 q (h 0 10) (h 27) sW, g4 q (h 0 11) (h 28) sQ, g10 q (h 0 12) (h 29) sE, g1 q (h 0 13) (h 30) sD, g9 q (h 0 14) (h 31) 96 sL, g12 q om hm sM, [(oo, .inl (q 2, 1, .inr (.inl fo)))]] 24 (by decide) rfl rfl rfl rfl rfl rfl GW_ad (fun H locs hP hD hS => ?_)
  refine lv_aload_n hx hb dL_law_653 rfl (lv_at hl 2 rfl) ?_
  refine lv_aload_n hx hb dL_law_654 rfl (lv_at hl 0 rfl) ?_
  refine lv_iload hx hb dL_law_655 (lv_at hl 4 rfl) ?_
  refine lv_iconst (v := nI 1) hx hb dL_law_657 (by decide) ?_
  refine lv_iadd hx hb dL_law_658 ?_
  refine va_sld hx hb hX hbl hbA hS (lw_in (k := 1) (by omega) hL) dL_law_659 ?_
  refine k_rni e1 ?_
  refine k_igrpC (gs8 := GW q o om oo h hm sT sR sP B' sX sN sY sG H' K' sJR s0 sb0 sn0 s1 sb1 sn1 sW sQ sE sD sL M' fo) C (k_rV (As := [.int z1]) (rest := [.int r]) C (c_X12_wall l D q om hm sM _ z1 f2) kc_X12_wall ml_L_80 rfl rfl (by decide) (flP hP [22] rfl) (flD hD [22] (by decide) rfl) hS (va_recv hK (flP (gc := [g12 q om hm sM]) hP [22] rfl) (ci := 12) (q0 := 0) rfl rfl) rfl hl.1 rfl (Nat.le_of_ble_eq_true rfl) dL_law_660 hf0) hP hD hS [22] [0, 1, 2, 3, 4, 5, 6, 7, 8, 9, 10, 11, 12, 13, 14, 15, 16, 17, 18, 19, 20, 21, 23] [g11 q o (h 0) (h 1 0) sT, g5 q (h 0 1) (h 2) (h 1 0) sR, g9 q (h 1 0) (h 3) 940 sP, g8 q (h 0 3) (h 4) B', g8 q (h 0 4) (h 5) sX, g7 q (h 0 5) (h 6) sN, g7 q (h 0 6) (h 7) sY, g0 q (h 0 7) (h 8) sG, g2 q (h 0 8) (h 9) H', g20 q (h 9 1) (h 10) (fun i => h (11 + i)) K', g21 q (h 0 9) (h 20) sJR, g3 q (h 20 0) (h 21) s0, g8 q (h 21 1) (h 22) sb0, g7 q (h 21 2) (h 23) sn0, g3 q (h 20 1) (h 24) s1, g8 q (h 24 1) (h 25) sb1, g7 q (h 24 2) (h 26) sn1, g6 q (h 0 10) (h 27) sW, g4 q (h 0 11) (h 28) sQ, g10 q (h 0 12) (h 29) sE, g1 q (h 0 13) (h 30) sD, g9 q (h 0 14) (h 31) 96 sL, [(oo, .inl (q 2, 1, .inr (.inl fo)))]] 24 (by decide) rfl rfl rfl rfl rfl rfl GW_ad (fun H locs hP hD hS => ?_)
  refine lv_icmp_eq (tgt := 1307) hx hb dL_law_663 (by decide) (fun _ => ?_) (fun c9 => absurd rfl c9)
  refine W.widen (k := cells + 1) (n := slots + 6) (by omega) (by omega) ?_
  exact kk sT sR sP B' sX sN sY sG H' K' sJR s0 sb0 sn0 s1 sb1 sn1 sW sQ sE sD sL M' fo V' (rel_act hrel act) H locs ls hP hD hS hl
set_option maxRecDepth 100000 in
set_option maxHeartbeats 4000000 in
theorem lw_13 (C : cx p s m args meth c code 7 ret RL D q A) (hX : va_X b L xs s s.heap) (hbl : b < s.heap.size) (hbA : ¬ A b) (hi : i + 6 ≤ L) (hL : L ≤ 3072) (hcs : cells + 1 ≤ 601024 ∧ slots + 6 ≤ 7293034) (hrel : REL sT sR sP sB sN sH sK s0 sb0 sn0 s1 sb1 sn1 sW sQ sE sL sM V) (hP : va_P D vwCl (fl (GW q o om oo h hm sT sR sP sB sX sN sY sG sH sK sJR s0 sb0 sn0 s1 sb1 sn1 sW sQ sE sD sL sM fo)) H) (hD : va_D A (fl (GW q o om oo h hm sT sR sP sB sX sN sY sG sH sK sJR s0 sb0 sn0 s1 sb1 sn1 sW sQ sE sD sL sM fo))) (hS : va_S A s.heap H locs) (hl : lv_has ls 7 [(0, .ref b), (1, .ref o), (2, .ref om), (3, .ref oo), (4, .int (nI i))]) (kk : LWK p l e s m args below meth c D q A Q b i o om oo h hm (cells + 1) (slots + 6)) : W p l e room_1 s m args below meth c H locs cells slots Q (F0 m 668 ls []) := by
  obtain ⟨⟨hS0, hM0, hw0, hN0, hC0, hH0⟩, hT0, h15, hRC, hTo, hSo, hMd, hPa, hTe, hLt, hRW, hMW, hI0, hI1⟩ := id hrel
  obtain ⟨hx, hb, hr, hml, hown, hts, hlk, hA, hK, hN, hV⟩ := id C
  have hf0 : cells + 0 ≤ room_1.cells ∧ slots + 0 ≤ room_1.slots := ⟨Nat.le_of_succ_le hcs.1, by show slots + 0 ≤ 7293034; omega⟩
  obtain ⟨z1, e1⟩ : ∃ z, z = xs (nI i + nI 1).toNatClampNeg := ⟨_, rfl⟩
  obtain ⟨r, B', H', K', M', V', f1, f2, act⟩ := p_unwall (T := sT) hS0 hM0 hw0 hH0 z1
  refine lv_aload_n hx hb dL_law_668 rfl (lv_at hl 1 rfl) ?_
  refine lv_aload_n hx hb dL_law_669 rfl (lv_at hl 0 rfl) ?_
  refine lv_iload hx hb dL_law_670 (lv_at hl 4 rfl) ?_
  refine lv_iconst (v := nI 1) hx hb dL_law_672 (by decide) ?_
  refine lv_iadd hx hb dL_law_673 ?_
  refine va_sld hx hb hX hbl hbA hS (lw_in (k := 1) (by omega) hL) dL_law_674 ?_
  refine k_rni e1 ?_
  refine k_igrpC (gs8 := GW q o om oo h hm sT sR sP B' sX sN sY sG H' K' sJR s0 sb0 sn0 s1 sb1 sn1 sW sQ sE sD sL sM fo) C (k_rV (As := [.int z1]) (rest := []) C (c_X11_unwall l D q (h 1 0) o (h 0) sT (h 9) sH (h 10) (fun i => h (11 + i)) sK (h 4) sB _ z1 f1) kc_X11_unwall ml_L_81 rfl rfl (by decide) (flP hP [0, 8, 9, 3] rfl) (flD hD [0, 8, 9, 3] (by decide) rfl) hS (va_recv hK (flP (gc := [g11 q o (h 0) (h 1 0) sT]) hP [0] rfl) (ci := 11) (q0 := 0) rfl rfl) rfl hl.1 rfl (Nat.le_of_ble_eq_true rfl) dL_law_675 hf0) hP hD hS [0, 8, 9, 3] [1, 2, 4, 5, 6, 7, 10, 11, 12, 13, 14, 15, 16, 17, 18, 19, 20, 21, 22, 23] [g5 q (h 0 1) (h 2) (h 1 0) sR, g9 q (h 1 0) (h 3) 940 sP, g8 q (h 0 4) (h 5) sX, g7 q (h 0 5) (h 6) sN, g7 q (h 0 6) (h 7) sY, g0 q (h 0 7) (h 8) sG, g21 q (h 0 9) (h 20) sJR, g3 q (h 20 0) (h 21) s0, g8 q (h 21 1) (h 22) sb0, g7 q (h 21 2) (h 23) sn0, g3 q (h 20 1) (h 24) s1, g8 q (h 24 1) (h 25) sb1, g7 q (h 24 2) (h 26) sn1, g6 q (h 0 10) (h 27) sW, g4 q (h 0 11) (h 28) sQ, g10 q (h 0 12) (h 29) sE, g1 q (h 0 13) (h 30) sD, g9 q (h 0 14) (h 31) 96 sL, g12 q om hm sM, [(oo, .inl (q 2, 1, .inr (.inl fo)))]] 24 (by decide) rfl rfl rfl rfl rfl rfl GW_ad (fun H locs hP hD hS => ?_)
  refine lv_aload_n hx hb dL_law_678 rfl (lv_at hl 2 rfl) ?_
  refine lv_aload_n hx hb dL_law_679 rfl (lv_at hl 0 rfl) ?_
  refine lv_iload hx hb dL_law_680 (lv_at hl 4 rfl) ?_
  refine lv_iconst (v := nI 1) hx hb dL_law_682 (by decide) ?_
  refine lv_iadd hx hb dL_law_683 ?_
  refine va_sld hx hb hX hbl hbA hS (lw_in (k := 1) (by omega) hL) dL_law_684 ?_
  refine k_rni e1 ?_
  refine k_igrpC (gs8 := GW q o om oo h hm sT sR sP B' sX sN sY sG H' K' sJR s0 sb0 sn0 s1 sb1 sn1 sW sQ sE sD sL M' fo) C (k_rV (As := [.int z1]) (rest := [.int r]) C (c_X12_unwall l D q om hm sM _ z1 f2) kc_X12_unwall ml_L_84 rfl rfl (by decide) (flP hP [22] rfl) (flD hD [22] (by decide) rfl) hS (va_recv hK (flP (gc := [g12 q om hm sM]) hP [22] rfl) (ci := 12) (q0 := 0) rfl rfl) rfl hl.1 rfl (Nat.le_of_ble_eq_true rfl) dL_law_685 hf0) hP hD hS [22] [0, 1, 2, 3, 4, 5, 6, 7, 8, 9, 10, 11, 12, 13, 14, 15, 16, 17, 18, 19, 20, 21, 23] [g11 q o (h 0) (h 1 0) sT, g5 q (h 0 1) (h 2) (h 1 0) sR, g9 q (h 1 0) (h 3) 940 sP, g8 q (h 0 3) (h 4) B', g8 q (h 0 4) (h 5) sX, g7 q (h 0 5) (h 6) sN, g7 q (h 0 6) (h 7) sY, g0 q (h 0 7) (h 8) sG, g2 q (h 0 8) (h 9) H', g20 q (h 9 1) (h 10) (fun i => h (11 + i)) K', g21 q (h 0 9) (h 20) sJR, g3 q (h 20 0) (h 21) s0, g8 q (h 21 1) (h 22) sb0, g7 q (h 21 2) (h 23) sn0, g3 q (h 20 1) (h 24) s1, g8 q (h 24 1) (h 25) sb1, g7 q (h 24 2) (h 26) sn1, g6 q (h 0 10) (h 27) sW, g4 q (h 0 11) (h 28) sQ, g10 q (h 0 12) (h 29) sE, g1 q (h 0 13) (h 30) sD, g9 q (h 0 14) (h 31) 96 sL, [(oo, .inl (q 2, 1, .inr (.inl fo)))]] 24 (by decide) rfl rfl rfl rfl rfl rfl GW_ad (fun H locs hP hD hS => ?_)
  refine lv_icmp_eq (tgt := 1307) hx hb dL_law_688 (by decide) (fun _ => ?_) (fun c9 => absurd rfl c9)
  refine W.widen (k := cells + 1) (n := slots + 6) (by omega) (by omega) ?_
  exact kk sT sR sP B' sX sN sY sG H' K' sJR s0 sb0 sn0 s1 sb1 sn1 sW sQ sE sD sL M' fo V' (rel_act hrel act) H locs ls hP hD hS hl
end LW1
