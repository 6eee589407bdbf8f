/-! the law, call by call -/
section LW3
variable {p : Program} {l : Launch} {e : Env} {s : State} {m : MethodId} {args : Array Value} {below : List Frame} {meth : Method} {c : Code} {D : va_G} {q : Nat → ClassId} {A : Nat → Prop} {Q : State → Prop} {b L i o om oo : Nat} {xs : Nat → Int32} {h : Nat → Nat → Nat} {hm : Nat → Nat} {sT sR sP sB sX sN sY sG sH sJR s0 sb0 sn0 s1 sb1 sn1 sW sQ sE sD sL sM : St} {sK : KSt} {fo : Nat → Int64} {V : Vt} {H : Heap} {locs : List Loc} {ls : Array Slot} {cells slots : Nat}
set_option maxRecDepth 100000 in
set_option maxHeartbeats 4000000 in
theorem lw_27 (C : cx p s m args meth c code 7 ret RL D q A) (hX : va_X b L xs s s.heap) (hbl : b < s.heap.size) (hbA : ¬ A b) (hi : i + 6 ≤ L) (hL : L ≤ 3072) (hcs : cells + 1 ≤ 601024 ∧ slots + 6 ≤ 7293034) (hrel : REL sT sR sP sB sN sH sK s0 sb0 sn0 s1 sb1 sn1 sW sQ sE sL sM V) (hP : va_P D vwCl (fl (GW q o om oo h hm sT sR sP sB sX sN sY sG sH sK sJR s0 sb0 sn0 s1 sb1 sn1 sW sQ sE sD sL sM fo)) H) (hD : va_D A (fl (GW q o om oo h hm sT sR sP sB sX sN sY sG sH sK sJR s0 sb0 sn0 s1 sb1 sn1 sW sQ sE sD sL sM fo))) (hS : va_S A s.heap H locs) (hl : lv_has ls 7 [(0, .ref b), (1, .ref o), (2, .ref om), (3, .ref oo), (4, .int (nI i))]) (kk : LWK p l e s m args below meth c D q A Q b i o om oo h hm (cells + 1) (slots + 6)) : W p l e room_1 s m args below meth c H locs cells slots Q (F0 m 946 ls []) := by
  obtain ⟨⟨hS0, hM0, hw0, hN0, hC0, hH0⟩, hT0, h15, hRC, hTo, hSo, hMd, hPa, hTe, hLt, hRW, hMW, hI0, hI1⟩ := id hrel
  obtain ⟨hx, hb, hr, hml, hown, hts, hlk, hA, hK, hN, hV⟩ := id C
  have hf0 : cells + 0 ≤ room_1.cells ∧ slots + 0 ≤ room_1.slots := ⟨Nat.le_of_succ_le hcs.1, by show slots + 0 ≤ 7293034; omega⟩
  obtain ⟨z1, e1⟩ : ∃ z, z = xs (nI i + nI 1).toNatClampNeg := ⟨_, rfl⟩
  obtain ⟨r, f1, f2⟩ := p_teaOf (T := sT) hTe z1
  refine lv_aload_n hx hb dL_law_946 rfl (lv_at hl 1 rfl) ?_
  refine lv_aload_n hx hb dL_law_947 rfl (lv_at hl 0 rfl) ?_
  refine lv_iload hx hb dL_law_948 (lv_at hl 4 rfl) ?_
  refine lv_iconst (v := nI 1) hx hb dL_law_950 (by decide) ?_
  refine lv_iadd hx hb dL_law_951 ?_
  refine va_sld hx hb hX hbl hbA hS (lw_in (k := 1) (by omega) hL) dL_law_952 ?_
  refine k_rni e1 ?_
  refine k_igrpC (gs8 := GW q o om oo h hm sT sR sP sB sX sN sY sG sH sK sJR s0 sb0 sn0 s1 sb1 sn1 sW sQ sE sD sL sM fo) C (k_rV (As := [.int z1]) (rest := []) C (c_X11_teaOf l D q (h 1 0) o (h 0) sT (h 29) sE _ z1 f1) kc_X11_teaOf ml_L_137 rfl rfl (by decide) (flP hP [0, 19] rfl) (flD hD [0, 19] (by decide) rfl) hS (va_recv hK (flP (gc := [g11 q o (h 0) (h 1 0) sT]) hP [0] rfl) (ci := 11) (q0 := 0) rfl rfl) rfl hl.1 rfl (Nat.le_of_ble_eq_true rfl) dL_law_953 hf0) hP hD hS [0, 19] [1, 2, 3, 4, 5, 6, 7, 8, 9, 10, 11, 12, 13, 14, 15, 16, 17, 18, 20, 21, 22, 23] [g5 q (h 0 1) (h 2) (h 1 0) sR, g9 q (h 1 0) (h 3) 940 sP, g8 q (h 0 3) (h 4) sB, g8 q (h 0 4) (h 5) sX, g7 q (h 0 5) (h 6) sN, g7 q (h 0 6) (h 7) sY, g0 q (h 0 7) (h 8) sG, g2 q (h 0 8) (h 9) sH, g20 q (h 9 1) (h 10) (fun i => h (11 + i)) sK, g21 q (h 0 9) (h 20) sJR, g3 q (h 20 0) (h 21) s0, g8 q (h 21 1) (h 22) sb0, g7 q (h 21 2) (h 23) sn0, g3 q (h 20 1) (h 24) s1, g8 q (h 24 1) (h 25) sb1, g7 q (h 24 2) (h 26) sn1, g6 q (h 0 10) (h 27) sW, g4 q (h 0 11) (h 28) sQ, g1 q (h 0 13) (h 30) sD, g9 q (h 0 14) (h 31) 96 sL, g12 q om hm sM, [(oo, .inl (q 2, 1, .inr (.inl fo)))]] 24 (by decide) rfl rfl rfl rfl rfl rfl GW_ad (fun H locs hP hD hS => ?_)
  refine lv_aload_n hx hb dL_law_956 rfl (lv_at hl 2 rfl) ?_
  refine lv_aload_n hx hb dL_law_957 rfl (lv_at hl 0 rfl) ?_
  refine lv_iload hx hb dL_law_958 (lv_at hl 4 rfl) ?_
  refine lv_iconst (v := nI 1) hx hb dL_law_960 (by decide) ?_
  refine lv_iadd hx hb dL_law_961 ?_
  refine va_sld hx hb hX hbl hbA hS (lw_in (k := 1) (by omega) hL) dL_law_962 ?_
  refine k_rni e1 ?_
  refine k_igrpC (gs8 := GW q o om oo h hm sT sR sP sB sX sN sY sG sH sK sJR s0 sb0 sn0 s1 sb1 sn1 sW sQ sE sD sL (sI sM 0 (nI 0)) fo) C (k_rV (As := [.int z1]) (rest := [.int r]) C (c_X12_teaOf l D q om hm sM _ z1 f2) kc_X12_teaOf ml_L_140 rfl rfl (by decide) (flP hP [22] rfl) (flD hD [22] (by decide) rfl) hS (va_recv hK (flP (gc := [g12 q om hm sM]) hP [22] rfl) (ci := 12) (q0 := 0) rfl rfl) rfl hl.1 rfl (Nat.le_of_ble_eq_true rfl) dL_law_963 hf0) hP hD hS [22] [0, 1, 2, 3, 4, 5, 6, 7, 8, 9, 10, 11, 12, 13, 14, 15, 16, 17, 18, 19, 20, 21, 23] [g11 q o (h 0) (h 1 0) sT, g5 q (h 0 1) (h 2) (h 1 0) sR, g9 q (h 1 0) (h 3) 940 sP, g8 q (h 0 3) (h 4) sB, g8 q (h 0 4) (h 5) sX, g7 q (h 0 5) (h 6) sN, g7 q (h 0 6) (h 7) sY, g0 q (h 0 7) (h 8) sG, g2 q (h 0 8) (h 9) sH, g20 q (h 9 1) (h 10) (fun i => h (11 + i)) sK, g21 q (h 0 9) (h 20) sJR, g3 q (h 20 0) (h 21) s0, g8 q (h 21 1) (h 22) sb0, g7 q (h 21 2) (h 23) sn0, g3 q (h 20 1) (h 24) s1, g8 q (h 24 1) (h 25) sb1, g7 q (h 24 2) (h 26) sn1, g6 q (h 0 10) (h 27) sW, g4 q (h 0 11) (h 28) sQ, g10 q (h 0 12) (h 29) sE, g1 q (h 0 13) (h 30) sD, g9 q (h 0 14) (h 31) 96 sL, [(oo, .inl (q 2, 1, .inr (.inl fo)))]] 24 (by decide) rfl rfl rfl rfl rfl rfl GW_ad (fun H locs hP hD hS => ?_)
  refine lv_icmp_eq (tgt := 1307) hx hb dL_law_966 (by decide) (fun _ => ?_) (fun c9 => absurd rfl c9)
  refine W.widen (k := cells + 1) (n := slots + 6) (by omega) (by omega) ?_
  exact kk sT sR sP sB sX sN sY sG sH sK sJR s0 sb0 sn0 s1 sb1 sn1 sW sQ sE sD sL (sI sM 0 (nI 0)) fo V (rel_0 hrel (nI 0)) H locs ls hP hD hS hl
set_option maxRecDepth 100000 in
set_option maxHeartbeats 4000000 in
theorem lw_28 (C : cx p s m args meth c code 7 ret RL D q A) (hX : va_X b L xs s s.heap) (hbl : b < s.heap.size) (hbA : ¬ A b) (hi : i + 6 ≤ L) (hL : L ≤ 3072) (hcs : cells + 1 ≤ 601024 ∧ slots + 6 ≤ 7293034) (hrel : REL sT sR sP sB sN sH sK s0 sb0 sn0 s1 sb1 sn1 sW sQ sE sL sM V) (hP : va_P D vwCl (fl (GW q o om oo h hm sT sR sP sB sX sN sY sG sH sK sJR s0 sb0 sn0 s1 sb1 sn1 sW sQ sE sD sL sM fo)) H) (hD : va_D A (fl (GW q o om oo h hm sT sR sP sB sX sN sY sG sH sK sJR s0 sb0 sn0 s1 sb1 sn1 sW sQ sE sD sL sM fo))) (hS : va_S A s.heap H locs) (hl : lv_has ls 7 [(0, .ref b), (1, .ref o), (2, .ref om), (3, .ref oo), (4, .int (nI i))]) (kk : LWK p l e s m args below meth c D q A Q b i o om oo h hm (cells + 1) (slots + 6)) : W p l e room_1 s m args below meth c H locs cells slots Q (F0 m 971 ls []) := by
  obtain ⟨⟨hS0, hM0, hw0, hN0, hC0, hH0⟩, hT0, h15, hRC, hTo, hSo, hMd, hPa, hTe, hLt, hRW, hMW, hI0, hI1⟩ := id hrel
  obtain ⟨hx, hb, hr, hml, hown, hts, hlk, hA, hK, hN, hV⟩ := id C
  have hf0 : cells + 0 ≤ room_1.cells ∧ slots + 0 ≤ room_1.slots := ⟨Nat.le_of_succ_le hcs.1, by show slots + 0 ≤ 7293034; omega⟩
  obtain ⟨z1, e1⟩ : ∃ z, z = xs (nI i + nI 1).toNatClampNeg := ⟨_, rfl⟩
  obtain ⟨z2, e2⟩ : ∃ z, z = xs (nI i + nI 2).toNatClampNeg := ⟨_, rfl⟩
  obtain ⟨r, f1, f2⟩ := p_when (T := sT) hS0 hM0 hw0 z1 z2
  refine lv_aload_n hx hb dL_law_971 rfl (lv_at hl 1 rfl) ?_
  refine lv_aload_n hx hb dL_law_972 rfl (lv_at hl 0 rfl) ?_
  refine lv_iload hx hb dL_law_973 (lv_at hl 4 rfl) ?_
  refine lv_iconst (v := nI 1) hx hb dL_law_975 (by decide) ?_
  refine lv_iadd hx hb dL_law_976 ?_
  refine va_sld hx hb hX hbl hbA hS (lw_in (k := 1) (by omega) hL) dL_law_977 ?_
  refine k_rni e1 ?_
  refine lv_aload_n hx hb dL_law_978 rfl (lv_at hl 0 rfl) ?_
  refine lv_iload hx hb dL_law_979 (lv_at hl 4 rfl) ?_
  refine lv_iconst (v := nI 2) hx hb dL_law_981 (by decide) ?_
  refine lv_iadd hx hb dL_law_982 ?_
  refine va_sld hx hb hX hbl hbA hS (lw_in (k := 2) (by omega) hL) dL_law_983 ?_
  refine k_rni e2 ?_
  refine k_igrpC (gs8 := GW q o om oo h hm sT sR sP sB sX sN sY sG sH sK sJR s0 sb0 sn0 s1 sb1 sn1 sW sQ sE sD sL sM fo) C (k_rV (As := [.int z1, .int z2]) (rest := []) C (c_X11_when l D q (h 1 0) o (h 0) sT (h 4) sB _ z1 z2 f1) kc_X11_when ml_L_141 rfl rfl (by decide) (flP hP [0, 3] rfl) (flD hD [0, 3] (by decide) rfl) hS (va_recv hK (flP (gc := [g11 q o (h 0) (h 1 0) sT]) hP [0] rfl) (ci := 11) (q0 := 0) rfl rfl) rfl hl.1 rfl (Nat.le_of_ble_eq_true rfl) dL_law_984 hf0) hP hD hS [0, 3] [1, 2, 4, 5, 6, 7, 8, 9, 10, 11, 12, 13, 14, 15, 16, 17, 18, 19, 20, 21, 22, 23] [g5 q (h 0 1) (h 2) (h 1 0) sR, g9 q (h 1 0) (h 3) 940 sP, g8 q (h 0 4) (h 5) sX, g7 q (h 0 5) (h 6) sN, g7 q (h 0 6) (h 7) sY, g0 q (h 0 7) (h 8) sG, g2 q (h 0 8) (h 9) sH, g20 q (h 9 1) (h 10) (fun i => h (11 + i)) sK, g21 q (h 0 9) (h 20) sJR, g3 q (h 20 0) (h 21) s0, g8 q (h 21 1) (h 22) sb0, g7 q (h 21 2) (h 23) sn0, g3 q (h 20 1) (h 24) s1, g8 q (h 24 1) (h 25) sb1, g7 q (h 24 2) (h 26) sn1, g6 q (h 0 10) (h 27) sW, g4 q (h 0 11) (h 28) sQ, g10 q (h 0 12) (h 29) sE, g1 q (h 0 13) (h 30) sD, g9 q (h 0 14) (h 31) 96 sL, g12 q om hm sM, [(oo, .inl (q 2, 1, .inr (.inl fo)))]] 24 (by decide) rfl rfl rfl rfl rfl rfl GW_ad (fun H locs hP hD hS => ?_)
  refine lv_aload_n hx hb dL_law_987 rfl (lv_at hl 2 rfl) ?_
  refine lv_aload_n hx hb dL_law_988 rfl (lv_at hl 0 rfl) ?_
  refine lv_iload hx hb dL_law_989 (lv_at hl 4 rfl) ?_
  refine lv_iconst (v := nI 1) hx hb dL_law_991 (by decide) ?_
  refine lv_iadd hx hb dL_law_992 ?_
  refine va_sld hx hb hX hbl hbA hS (lw_in (k := 1) (by omega) hL) dL_law_993 ?_
  refine k_rni e1 ?_
  refine lv_aload_n hx hb dL_law_994 rfl (lv_at hl 0 rfl) ?_
  refine lv_iload hx hb dL_law_995 (lv_at hl 4 rfl) ?_
  refine lv_iconst (v := nI 2) hx hb dL_law_997 (by decide) ?_
  refine lv_iadd hx hb dL_law_998 ?_
  refine va_sld hx hb hX hbl hbA hS (lw_in (k := 2) (by omega) hL) dL_law_999 ?_
  refine k_rni e2 ?_
  refine k_igrpC (gs8 := GW q o om oo h hm sT sR sP sB sX sN sY sG sH sK sJR s0 sb0 sn0 s1 sb1 sn1 sW sQ sE sD sL (sI sM 0 (nI 0)) fo) C (k_rV (As := [.int z1, .int z2]) (rest := [.int r]) C (c_X12_when l D q om hm sM _ z1 z2 f2) kc_X12_when ml_L_144 rfl rfl (by decide) (flP hP [22] rfl) (flD hD [22] (by decide) rfl) hS (va_recv hK (flP (gc := [g12 q om hm sM]) hP [22] rfl) (ci := 12) (q0 := 0) rfl rfl) rfl hl.1 rfl (Nat.le_of_ble_eq_true rfl) dL_law_1000 hf0) hP hD hS [22] [0, 1, 2, 3, 4, 5, 6, 7, 8, 9, 10, 11, 12, 13, 14, 15, 16, 17, 18, 19, 20, 21, 23] [g11 q o (h 0) (h 1 0) sT, g5 q (h 0 1) (h 2) (h 1 0) sR, g9 q (h 1 0) (h 3) 940 sP, g8 q (h 0 3) (h 4) sB, g8 q (h 0 4) (h 5) sX, g7 q (h 0 5) (h 6) sN, g7 q (h 0 6) (h 7) sY, g0 q (h 0 7) (h 8) sG, g2 q (h 0 8) (h 9) sH, g20 q (h 9 1) (h 10) (fun i => h (11 + i)) sK, g21 q (h 0 9) (h 20) sJR, g3 q (h 20 0) (h 21) s0, g8 q (h 21 1) (h 22) sb0, g7 q (h 21 2) (h 23) sn0, g3 q (h 20 1) (h 24) s1, g8 q (h 24 1) (h 25) sb1, g7 q (h 24 2) (h 26) sn1, g6 q (h 0 10) (h 27) sW, g4 q (h 0 11) (h 28) sQ, g10 q (h 0 12) (h 29) sE, g1 q (h 0 13) (h 30) sD, g9 q (h 0 14) (h 31) 96 sL, [(oo, .inl (q 2, 1, .inr (.inl fo)))]] 24 (by decide) rfl rfl rfl rfl rfl rfl GW_ad (fun H locs hP hD hS => ?_)
  refine lv_icmp_eq (tgt := 1307) hx hb dL_law_1003 (by decide) (fun _ => ?_) (fun c9 => absurd rfl c9)
  refine W.widen (k := cells + 1) (n := slots + 6) (by omega) (by omega) ?_
  exact kk sT sR sP sB sX sN sY sG sH sK sJR s0 sb0 sn0 s1 sb1 sn1 sW sQ sE sD sL (sI sM 0 (nI 0)) fo V (rel_0 hrel (nI 0)) H locs ls hP hD hS hl
set_option maxRecDepth 100000 in
set_option maxHeartbeats 4000000 in
theorem lw_29 (C : cx p s m args meth c code 7 ret RL D q A) (hX : va_X b L xs s s.heap) (hbl : b < s.heap.size) (hbA : ¬ A b) (hi : i + 6 ≤ L) (hL : L ≤ 3072) (hcs : cells + 1 ≤ 601024 ∧ slots + 6 ≤ 7293034) (hrel : REL sT sR sP sB sN sH sK s0 sb0 sn0 s1 sb1 sn1 sW sQ sE sL sM V) (hP : va_P D vwCl (fl (GW q o om oo h hm sT sR sP sB sX sN sY sG sH sK sJR s0 sb0 sn0 s1 sb1 sn1 sW sQ sE sD sL sM fo)) H) (hD : va_D A (fl (GW q o om oo h hm sT sR sP sB sX sN sY sG sH sK sJR s0 sb0 sn0 s1 sb1 sn1 sW sQ sE sD sL sM fo))) (hS : va_S A s.heap H locs) (hl : lv_has ls 7 [(0, .ref b), (1, .ref o), (2, .ref om), (3, .ref oo), (4, .int (nI i))]) (kk : LWK p l e s m args below meth c D q A Q b i o om oo h hm (cells + 1) (slots + 6)) : W p l e room_1 s m args below meth c H locs cells slots Q (F0 m 1008 ls []) := by
  obtain ⟨⟨hS0, hM0, hw0, hN0, hC0, hH0⟩, hT0, h15, hRC, hTo, hSo, hMd, hPa, hTe, hLt, hRW, hMW, hI0, hI1⟩ := id hrel
  obtain ⟨hx, hb, hr, hml, hown, hts, hlk, hA, hK, hN, hV⟩ := id C
  have hf0 : cells + 0 ≤ room_1.cells ∧ slots + 0 ≤ room_1.slots := ⟨Nat.le_of_succ_le hcs.1, by show slots + 0 ≤ 7293034; omega⟩
  obtain ⟨z1, e1⟩ : ∃ z, z = xs (nI i + nI 1).toNatClampNeg := ⟨_, rfl⟩
  obtain ⟨r, L', M', f1, f2, c1, c2⟩ := p_card (T := sT) hS0 hM0 hw0 hN0 hRW hMW hLt z1
  refine lv_aload_n hx hb dL_law_1008 rfl (lv_at hl 1 rfl) ?_
  refine lv_aload_n hx hb dL_law_1009 rfl (lv_at hl 0 rfl) ?_
  refine lv_iload hx hb dL_law_1010 (lv_at hl 4 rfl) ?_
  refine lv_iconst (v := nI 1) hx hb dL_law_1012 (by decide) ?_
  refine lv_iadd hx hb dL_law_1013 ?_
  refine va_sld hx hb hX hbl hbA hS (lw_in (k := 1) (by omega) hL) dL_law_1014 ?_
  refine k_rni e1 ?_
  refine k_igrpC (gs8 := GW q o om oo h hm sT sR sP sB sX sN sY sG sH sK sJR s0 sb0 sn0 s1 sb1 sn1 sW sQ sE sD L' sM fo) C (k_rV (As := [.int z1]) (rest := []) C (c_X11_card l D q (h 1 0) o (h 0) sT (h 31) sL (h 2) sR (h 4) sB _ z1 f1) kc_X11_card ml_L_145 rfl rfl (by decide) (flP hP [0, 21, 1, 3] rfl) (flD hD [0, 21, 1, 3] (by decide) rfl) hS (va_recv hK (flP (gc := [g11 q o (h 0) (h 1 0) sT]) hP [0] rfl) (ci := 11) (q0 := 0) rfl rfl) rfl hl.1 rfl (Nat.le_of_ble_eq_true rfl) dL_law_1015 hf0) hP hD hS [0, 21, 1, 3] [2, 4, 5, 6, 7, 8, 9, 10, 11, 12, 13, 14, 15, 16, 17, 18, 19, 20, 22, 23] [g9 q (h 1 0) (h 3) 940 sP, g8 q (h 0 4) (h 5) sX, g7 q (h 0 5) (h 6) sN, g7 q (h 0 6) (h 7) sY, g0 q (h 0 7) (h 8) sG, g2 q (h 0 8) (h 9) sH, g20 q (h 9 1) (h 10) (fun i => h (11 + i)) sK, g21 q (h 0 9) (h 20) sJR, g3 q (h 20 0) (h 21) s0, g8 q (h 21 1) (h 22) sb0, g7 q (h 21 2) (h 23) sn0, g3 q (h 20 1) (h 24) s1, g8 q (h 24 1) (h 25) sb1, g7 q (h 24 2) (h 26) sn1, g6 q (h 0 10) (h 27) sW, g4 q (h 0 11) (h 28) sQ, g10 q (h 0 12) (h 29) sE, g1 q (h 0 13) (h 30) sD, g12 q om hm sM, [(oo, .inl (q 2, 1, .inr (.inl fo)))]] 24 (by decide) rfl rfl rfl rfl rfl rfl GW_ad (fun H locs hP hD hS => ?_)
  refine lv_aload_n hx hb dL_law_1018 rfl (lv_at hl 2 rfl) ?_
  refine lv_aload_n hx hb dL_law_1019 rfl (lv_at hl 0 rfl) ?_
  refine lv_iload hx hb dL_law_1020 (lv_at hl 4 rfl) ?_
  refine lv_iconst (v := nI 1) hx hb dL_law_1022 (by decide) ?_
  refine lv_iadd hx hb dL_law_1023 ?_
  refine va_sld hx hb hX hbl hbA hS (lw_in (k := 1) (by omega) hL) dL_law_1024 ?_
  refine k_rni e1 ?_
  refine k_igrpC (gs8 := GW q o om oo h hm sT sR sP sB sX sN sY sG sH sK sJR s0 sb0 sn0 s1 sb1 sn1 sW sQ sE sD L' M' fo) C (k_rV (As := [.int z1]) (rest := [.int r]) C (c_X12_card l D q om hm sM _ z1 f2) kc_X12_card ml_L_148 rfl rfl (by decide) (flP hP [22] rfl) (flD hD [22] (by decide) rfl) hS (va_recv hK (flP (gc := [g12 q om hm sM]) hP [22] rfl) (ci := 12) (q0 := 0) rfl rfl) rfl hl.1 rfl (Nat.le_of_ble_eq_true rfl) dL_law_1025 hf0) hP hD hS [22] [0, 1, 2, 3, 4, 5, 6, 7, 8, 9, 10, 11, 12, 13, 14, 15, 16, 17, 18, 19, 20, 21, 23] [g11 q o (h 0) (h 1 0) sT, g5 q (h 0 1) (h 2) (h 1 0) sR, g9 q (h 1 0) (h 3) 940 sP, g8 q (h 0 3) (h 4) sB, g8 q (h 0 4) (h 5) sX, g7 q (h 0 5) (h 6) sN, g7 q (h 0 6) (h 7) sY, g0 q (h 0 7) (h 8) sG, g2 q (h 0 8) (h 9) sH, g20 q (h 9 1) (h 10) (fun i => h (11 + i)) sK, g21 q (h 0 9) (h 20) sJR, g3 q (h 20 0) (h 21) s0, g8 q (h 21 1) (h 22) sb0, g7 q (h 21 2) (h 23) sn0, g3 q (h 20 1) (h 24) s1, g8 q (h 24 1) (h 25) sb1, g7 q (h 24 2) (h 26) sn1, g6 q (h 0 10) (h 27) sW, g4 q (h 0 11) (h 28) sQ, g10 q (h 0 12) (h 29) sE, g1 q (h 0 13) (h 30) sD, g9 q (h 0 14) (h 31) 96 L', [(oo, .inl (q 2, 1, .inr (.inl fo)))]] 24 (by decide) rfl rfl rfl rfl rfl rfl GW_ad (fun H locs hP hD hS => ?_)
  refine lv_icmp_eq (tgt := 1307) hx hb dL_law_1028 (by decide) (fun _ => ?_) (fun c9 => absurd rfl c9)
  refine W.widen (k := cells + 1) (n := slots + 6) (by omega) (by omega) ?_
  exact kk sT sR sP sB sX sN sY sG sH sK sJR s0 sb0 sn0 s1 sb1 sn1 sW sQ sE sD L' M' fo V (rel_card hrel c1 c2) H locs ls hP hD hS hl
set_option maxRecDepth 100000 in
set_option maxHeartbeats 4000000 in
theorem lw_30 (C : cx p s m args meth c code 7 ret RL D q A) (hX : va_X b L xs s s.heap) (hbl : b < s.heap.size) (hbA : ¬ A b) (hi : i + 6 ≤ L) (hL : L ≤ 3072) (hcs : cells + 1 ≤ 601024 ∧ slots + 6 ≤ 7293034) (hrel : REL sT sR sP sB sN sH sK s0 sb0 sn0 s1 sb1 sn1 sW sQ sE sL sM V) (hP : va_P D vwCl (fl (GW q o om oo h hm sT sR sP sB sX sN sY sG sH sK sJR s0 sb0 sn0 s1 sb1 sn1 sW sQ sE sD sL sM fo)) H) (hD : va_D A (fl (GW q o om oo h hm sT sR sP sB sX sN sY sG sH sK sJR s0 sb0 sn0 s1 sb1 sn1 sW sQ sE sD sL sM fo))) (hS : va_S A s.heap H locs) (hl : lv_has ls 7 [(0, .ref b), (1, .ref o), (2, .ref om), (3, .ref oo), (4, .int (nI i))]) (kk : LWK p l e s m args below meth c D q A Q b i o om oo h hm (cells + 1) (slots + 6)) : W p l e room_1 s m args below meth c H locs cells slots Q (F0 m 1033 ls []) := by
  obtain ⟨⟨hS0, hM0, hw0, hN0, hC0, hH0⟩, hT0, h15, hRC, hTo, hSo, hMd, hPa, hTe, hLt, hRW, hMW, hI0, hI1⟩ := id hrel
  obtain ⟨hx, hb, hr, hml, hown, hts, hlk, hA, hK, hN, hV⟩ := id C
  have hf0 : cells + 0 ≤ room_1.cells ∧ slots + 0 ≤ room_1.slots := ⟨Nat.le_of_succ_le hcs.1, by show slots + 0 ≤ 7293034; omega⟩
  obtain ⟨z1, e1⟩ : ∃ z, z = xs (nI i + nI 1).toNatClampNeg := ⟨_, rfl⟩
  obtain ⟨r, f1, f2⟩ := p_byteAt (T := sT) hLt z1
  refine lv_aload_n hx hb dL_law_1033 rfl (lv_at hl 1 rfl) ?_
  refine lv_aload_n hx hb dL_law_1034 rfl (lv_at hl 0 rfl) ?_
  refine lv_iload hx hb dL_law_1035 (lv_at hl 4 rfl) ?_
  refine lv_iconst (v := nI 1) hx hb dL_law_1037 (by decide) ?_
  refine lv_iadd hx hb dL_law_1038 ?_
  refine va_sld hx hb hX hbl hbA hS (lw_in (k := 1) (by omega) hL) dL_law_1039 ?_
  refine k_rni e1 ?_
  refine k_igrpC (gs8 := GW q o om oo h hm sT sR sP sB sX sN sY sG sH sK sJR s0 sb0 sn0 s1 sb1 sn1 sW sQ sE sD sL sM fo) C (k_rV (As := [.int z1]) (rest := []) C (c_X11_byteAt l D q (h 1 0) o (h 0) sT (h 31) sL _ z1 f1) kc_X11_byteAt ml_L_149 rfl rfl (by decide) (flP hP [0, 21] rfl) (flD hD [0, 21] (by decide) rfl) hS (va_recv hK (flP (gc := [g11 q o (h 0) (h 1 0) sT]) hP [0] rfl) (ci := 11) (q0 := 0) rfl rfl) rfl hl.1 rfl (Nat.le_of_ble_eq_true rfl) dL_law_1040 hf0) hP hD hS [0, 21] [1, 2, 3, 4, 5, 6, 7, 8, 9, 10, 11, 12, 13, 14, 15, 16, 17, 18, 19, 20, 22, 23] [g5 q (h 0 1) (h 2) (h 1 0) sR, g9 q (h 1 0) (h 3) 940 sP, g8 q (h 0 3) (h 4) sB, g8 q (h 0 4) (h 5) sX, g7 q (h 0 5) (h 6) sN, g7 q (h 0 6) (h 7) sY, g0 q (h 0 7) (h 8) sG, g2 q (h 0 8) (h 9) sH, g20 q (h 9 1) (h 10) (fun i => h (11 + i)) sK, g21 q (h 0 9) (h 20) sJR, g3 q (h 20 0) (h 21) s0, g8 q (h 21 1) (h 22) sb0, g7 q (h 21 2) (h 23) sn0, g3 q (h 20 1) (h 24) s1, g8 q (h 24 1) (h 25) sb1, g7 q (h 24 2) (h 26) sn1, g6 q (h 0 10) (h 27) sW, g4 q (h 0 11) (h 28) sQ, g10 q (h 0 12) (h 29) sE, g1 q (h 0 13) (h 30) sD, g12 q om hm sM, [(oo, .inl (q 2, 1, .inr (.inl fo)))]] 24 (by decide) rfl rfl rfl rfl rfl rfl GW_ad (fun H locs hP hD hS => ?_)
  refine lv_aload_n hx hb dL_law_1043 rfl (lv_at hl 2 rfl) ?_
  refine lv_aload_n hx hb dL_law_1044 rfl (lv_at hl 0 rfl) ?_
  refine lv_iload hx hb dL_law_1045 (lv_at hl 4 rfl) ?_
  refine lv_iconst (v := nI 1) hx hb dL_law_1047 (by decide) ?_
  refine lv_iadd hx hb dL_law_1048 ?_
  refine va_sld hx hb hX hbl hbA hS (lw_in (k := 1) (by omega) hL) dL_law_1049 ?_
  refine k_rni e1 ?_
  refine k_igrpC (gs8 := GW q o om oo h hm sT sR sP sB sX sN sY sG sH sK sJR s0 sb0 sn0 s1 sb1 sn1 sW sQ sE sD sL (sI sM 0 (nI 0)) fo) C (k_rV (As := [.int z1]) (rest := [.int r]) C (c_X12_byteAt l D q om hm sM _ z1 f2) kc_X12_byteAt ml_L_152 rfl rfl (by decide) (flP hP [22] rfl) (flD hD [22] (by decide) rfl) hS (va_recv hK (flP (gc := [g12 q om hm sM]) hP [22] rfl) (ci := 12) (q0 := 0) rfl rfl) rfl hl.1 rfl (Nat.le_of_ble_eq_true rfl) dL_law_1050 hf0) hP hD hS [22] [0, 1, 2, 3, 4, 5, 6, 7, 8, 9, 10, 11, 12, 13, 14, 15, 16, 17, 18, 19, 20, 21, 23] [g11 q o (h 0) (h 1 0) sT, g5 q (h 0 1) (h 2) (h 1 0) sR, g9 q (h 1 0) (h 3) 940 sP, g8 q (h 0 3) (h 4) sB, g8 q (h 0 4) (h 5) sX, g7 q (h 0 5) (h 6) sN, g7 q (h 0 6) (h 7) sY, g0 q (h 0 7) (h 8) sG, g2 q (h 0 8) (h 9) sH, g20 q (h 9 1) (h 10) (fun i => h (11 + i)) sK, g21 q (h 0 9) (h 20) sJR, g3 q (h 20 0) (h 21) s0, g8 q (h 21 1) (h 22) sb0, g7 q (h 21 2) (h 23) sn0, g3 q (h 20 1) (h 24) s1, g8 q (h 24 1) (h 25) sb1, g7 q (h 24 2) (h 26) sn1, g6 q (h 0 10) (h 27) sW, g4 q (h 0 11) (h 28) sQ, g10 q (h 0 12) (h 29) sE, g1 q (h 0 13) (h 30) sD, g9 q (h 0 14) (h 31) 96 sL, [(oo, .inl (q 2, 1, .inr (.inl fo)))]] 24 (by decide) rfl rfl rfl rfl rfl rfl GW_ad (fun H locs hP hD hS => ?_)
  refine lv_icmp_eq (tgt := 1307) hx hb dL_law_1053 (by decide) (fun _ => ?_) (fun c9 => absurd rfl c9)
  refine W.widen (k := cells + 1) (n := slots + 6) (by omega) (by omega) ?_
  exact kk sT sR sP sB sX sN sY sG sH sK sJR s0 sb0 sn0 s1 sb1 sn1 sW sQ sE sD sL (sI sM 0 (nI 0)) fo V (rel_0 hrel (nI 0)) H locs ls hP hD hS hl
set_option maxRecDepth 100000 in
set_option maxHeartbeats 4000000 in
theorem lw_31 (C : cx p s m args meth c code 7 ret RL D q A) (hX : va_X b L xs s s.heap) (hbl : b < s.heap.size) (hbA : ¬ A b) (hi : i + 6 ≤ L) (hL : L ≤ 3072) (hcs : cells + 1 ≤ 601024 ∧ slots + 6 ≤ 7293034) (hrel : REL sT sR sP sB sN sH sK s0 sb0 sn0 s1 sb1 sn1 sW sQ sE sL sM V) (hP : va_P D vwCl (fl (GW q o om oo h hm sT sR sP sB sX sN sY sG sH sK sJR s0 sb0 sn0 s1 sb1 sn1 sW sQ sE sD sL sM fo)) H) (hD : va_D A (fl (GW q o om oo h hm sT sR sP sB sX sN sY sG sH sK sJR s0 sb0 sn0 s1 sb1 sn1 sW sQ sE sD sL sM fo))) (hS : va_S A s.heap H locs) (hl : lv_has ls 7 [(0, .ref b), (1, .ref o), (2, .ref om), (3, .ref oo), (4, .int (nI i))]) (kk : LWK p l e s m args below meth c D q A Q b i o om oo h hm (cells + 1) (slots + 6)) : W p l e room_1 s m args below meth c H locs cells slots Q (F0 m 1058 ls []) := by
  obtain ⟨⟨hS0, hM0, hw0, hN0, hC0, hH0⟩, hT0, h15, hRC, hTo, hSo, hMd, hPa, hTe, hLt, hRW, hMW, hI0, hI1⟩ := id hrel
  obtain ⟨hx, hb, hr, hml, hown, hts, hlk, hA, hK, hN, hV⟩ := id C
  have hf0 : cells + 0 ≤ room_1.cells ∧ slots + 0 ≤ room_1.slots := ⟨Nat.le_of_succ_le hcs.1, by show slots + 0 ≤ 7293034; omega⟩
  obtain ⟨z1, e1⟩ : ∃ z, z = xs (nI i + nI 1).toNatClampNeg := ⟨_, rfl⟩
  obtain ⟨z2, e2⟩ : ∃ z, z = xs (nI i + nI 2).toNatClampNeg := ⟨_, rfl⟩
  obtain ⟨r, D', B', H', K', M', V', f1, f2, act⟩ := p_drawn (T := sT) (D := sD) hS0 hM0 hw0 hH0 z1 z2
  refine lv_aload_n hx hb dL_law_1058 rfl (lv_at hl 1 rfl) ?_
  refine lv_aload_n hx hb dL_law_1059 rfl (lv_at hl 0 rfl) ?_
  refine lv_iload hx hb dL_law_1060 (lv_at hl 4 rfl) ?_
  refine lv_iconst (v := nI 1) hx hb dL_law_1062 (by decide) ?_
  refine lv_iadd hx hb dL_law_1063 ?_
  refine va_sld hx hb hX hbl hbA hS (lw_in (k := 1) (by omega) hL) dL_law_1064 ?_
  refine k_rni e1 ?_
  refine lv_aload_n hx hb dL_law_1065 rfl (lv_at hl 0 rfl) ?_
  refine lv_iload hx hb dL_law_1066 (lv_at hl 4 rfl) ?_
  refine lv_iconst (v := nI 2) hx hb dL_law_1068 (by decide) ?_
  refine lv_iadd hx hb dL_law_1069 ?_
  refine va_sld hx hb hX hbl hbA hS (lw_in (k := 2) (by omega) hL) dL_law_1070 ?_
  refine k_rni e2 ?_
  refine k_igrpC (gs8 := GW q o om oo h hm sT sR sP B' sX sN sY sG H' K' sJR s0 sb0 sn0 s1 sb1 sn1 sW sQ sE D' sL sM fo) C (k_rV (As := [.int z1, .int z2]) (rest := []) C (c_X11_drawn l D q (h 1 0) o (h 0) sT (h 30) sD (h 9) sH (h 10) (fun i => h (11 + i)) sK (h 4) sB _ z1 z2 f1) kc_X11_drawn ml_L_153 rfl rfl (by decide) (flP hP [0, 20, 8, 9, 3] rfl) (flD hD [0, 20, 8, 9, 3] (by decide) rfl) hS (va_recv hK (flP (gc := [g11 q o (h 0) (h 1 0) sT]) hP [0] rfl) (ci := 11) (q0 := 0) rfl rfl) rfl hl.1 rfl (Nat.le_of_ble_eq_true rfl) dL_law_1071 hf0) hP hD hS [0, 20, 8, 9, 3] [1, 2, 4, 5, 6, 7, 10, 11, 12, 13, 14, 15, 16, 17, 18, 19, 21, 22, 23] [g5 q (h 0 1) (h 2) (h 1 0) sR, g9 q (h 1 0) (h 3) 940 sP, g8 q (h 0 4) (h 5) sX, g7 q (h 0 5) (h 6) sN, g7 q (h 0 6) (h 7) sY, g0 q (h 0 7) (h 8) sG, g21 q (h 0 9) (h 20) sJR, g3 q (h 20 0) (h 21) s0, g8 q (h 21 1) (h 22) sb0, g7 q (h 21 2) (h 23) sn0, g3 q (h 20 1) (h 24) s1, g8 q (h 24 1) (h 25) sb1, g7 q (h 24 2) (h 26) sn1, g6 q (h 0 10) (h 27) sW, g4 q (h 0 11) (h 28) sQ, g10 q (h 0 12) (h 29) sE, g9 q (h 0 14) (h 31) 96 sL, g12 q om hm sM, [(oo, .inl (q 2, 1, .inr (.inl fo)))]] 24 (by decide) rfl rfl rfl rfl rfl rfl GW_ad (fun H locs hP hD hS => ?_)
  refine lv_aload_n hx hb dL_law_1074 rfl (lv_at hl 2 rfl) ?_
  refine lv_aload_n hx hb dL_law_1075 rfl (lv_at hl 0 rfl) ?_
  refine lv_iload hx hb dL_law_1076 (lv_at hl 4 rfl) ?_
  refine lv_iconst (v := nI 1) hx hb dL_law_1078 (by decide) ?_
  refine lv_iadd hx hb dL_law_1079 ?_
  refine va_sld hx hb hX hbl hbA hS (lw_in (k := 1) (by omega) hL) dL_law_1080 ?_
  refine k_rni e1 ?_
  refine lv_aload_n hx hb dL_law_1081 rfl (lv_at hl 0 rfl) ?_
  refine lv_iload hx hb dL_law_1082 (lv_at hl 4 rfl) ?_
  refine lv_iconst (v := nI 2) hx hb dL_law_1084 (by decide) ?_
  refine lv_iadd hx hb dL_law_1085 ?_
  refine va_sld hx hb hX hbl hbA hS (lw_in (k := 2) (by omega) hL) dL_law_1086 ?_
  refine k_rni e2 ?_
  refine k_igrpC (gs8 := GW q o om oo h hm sT sR sP B' sX sN sY sG H' K' sJR s0 sb0 sn0 s1 sb1 sn1 sW sQ sE D' sL M' fo) C (k_rV (As := [.int z1, .int z2]) (rest := [.int r]) C (c_X12_drawn l D q om hm sM _ z1 z2 f2) kc_X12_drawn ml_L_156 rfl rfl (by decide) (flP hP [22] rfl) (flD hD [22] (by decide) rfl) hS (va_recv hK (flP (gc := [g12 q om hm sM]) hP [22] rfl) (ci := 12) (q0 := 0) rfl rfl) rfl hl.1 rfl (Nat.le_of_ble_eq_true rfl) dL_law_1087 hf0) hP hD hS [22] [0, 1, 2, 3, 4, 5, 6, 7, 8, 9, 10, 11, 12, 13, 14, 15, 16, 17, 18, 19, 20, 21, 23] [g11 q o (h 0) (h 1 0) sT, g5 q (h 0 1) (h 2) (h 1 0) sR, g9 q (h 1 0) (h 3) 940 sP, g8 q (h 0 3) (h 4) B', g8 q (h 0 4) (h 5) sX, g7 q (h 0 5) (h 6) sN, g7 q (h 0 6) (h 7) sY, g0 q (h 0 7) (h 8) sG, g2 q (h 0 8) (h 9) H', g20 q (h 9 1) (h 10) (fun i => h (11 + i)) K', g21 q (h 0 9) (h 20) sJR, g3 q (h 20 0) (h 21) s0, g8 q (h 21 1) (h 22) sb0, g7 q (h 21 2) (h 23) sn0, g3 q (h 20 1) (h 24) s1, g8 q (h 24 1) (h 25) sb1, g7 q (h 24 2) (h 26) sn1, g6 q (h 0 10) (h 27) sW, g4 q (h 0 11) (h 28) sQ, g10 q (h 0 12) (h 29) sE, g1 q (h 0 13) (h 30) D', g9 q (h 0 14) (h 31) 96 sL, [(oo, .inl (q 2, 1, .inr (.inl fo)))]] 24 (by decide) rfl rfl rfl rfl rfl rfl GW_ad (fun H locs hP hD hS => ?_)
  refine lv_icmp_eq (tgt := 1307) hx hb dL_law_1090 (by decide) (fun _ => ?_) (fun c9 => absurd rfl c9)
  refine W.widen (k := cells + 1) (n := slots + 6) (by omega) (by omega) ?_
  exact kk sT sR sP B' sX sN sY sG H' K' sJR s0 sb0 sn0 s1 sb1 sn1 sW sQ sE D' sL M' fo V' (rel_act hrel act) H locs ls hP hD hS hl
set_option maxRecDepth 100000 in
set_option maxHeartbeats 4000000 in
theorem lw_32 (C : cx p s m args meth c code 7 ret RL D q A) (hX : va_X b L xs s s.heap) (hbl : b < s.heap.size) (hbA : ¬ A b) (hi : i + 6 ≤ L) (hL : L ≤ 3072) (hcs : cells + 1 ≤ 601024 ∧ slots + 6 ≤ 7293034) (hrel : REL sT sR sP sB sN sH sK s0 sb0 sn0 s1 sb1 sn1 sW sQ sE sL sM V) (hP : va_P D vwCl (fl (GW q o om oo h hm sT sR sP sB sX sN sY sG sH sK sJR s0 sb0 sn0 s1 sb1 sn1 sW sQ sE sD sL sM fo)) H) (hD : va_D A (fl (GW q o om oo h hm sT sR sP sB sX sN sY sG sH sK sJR s0 sb0 sn0 s1 sb1 sn1 sW sQ sE sD sL sM fo))) (hS : va_S A s.heap H locs) (hl : lv_has ls 7 [(0, .ref b), (1, .ref o), (2, .ref om), (3, .ref oo), (4, .int (nI i))]) (kk : LWK p l e s m args below meth c D q A Q b i o om oo h hm (cells + 1) (slots + 6)) : W p l e room_1 s m args below meth c H locs cells slots Q (F0 m 1095 ls []) := by
  obtain ⟨⟨hS0, hM0, hw0, hN0, hC0, hH0⟩, hT0, h15, hRC, hTo, hSo, hMd, hPa, hTe, hLt, hRW, hMW, hI0, hI1⟩ := id hrel
  obtain ⟨hx, hb, hr, hml, hown, hts, hlk, hA, hK, hN, hV⟩ := id C
  have hf0 : cells + 0 ≤ room_1.cells ∧ slots + 0 ≤ room_1.slots := ⟨Nat.le_of_succ_le hcs.1, by show slots + 0 ≤ 7293034; omega⟩
  obtain ⟨z1, e1⟩ : ∃ z, z = xs (nI i + nI 1).toNatClampNeg := ⟨_, rfl⟩
  obtain ⟨z2, e2⟩ : ∃ z, z = xs (nI i + nI 2).toNatClampNeg := ⟨_, rfl⟩
  obtain ⟨z3, e3⟩ : ∃ z, z = xs (nI i + nI 3).toNatClampNeg := ⟨_, rfl⟩
  obtain ⟨r, D', X', M', f1, f2, c1, c2, c3⟩ := p_odds (T := sT) (D := sD) (S := sX) hS0 hM0 hw0 z1 z2 z3
  refine lv_aload_n hx hb dL_law_1095 rfl (lv_at hl 1 rfl) ?_
  refine lv_aload_n hx hb dL_law_1096 rfl (lv_at hl 0 rfl) ?_
  refine lv_iload hx hb dL_law_1097 (lv_at hl 4 rfl) ?_
  refine lv_iconst (v := nI 1) hx hb dL_law_1099 (by decide) ?_
  refine lv_iadd hx hb dL_law_1100 ?_
  refine va_sld hx hb hX hbl hbA hS (lw_in (k := 1) (by omega) hL) dL_law_1101 ?_
  refine k_rni e1 ?_
  refine lv_aload_n hx hb dL_law_1102 rfl (lv_at hl 0 rfl) ?_
  refine lv_iload hx hb dL_law_1103 (lv_at hl 4 rfl) ?_
  refine lv_iconst (v := nI 2) hx hb dL_law_1105 (by decide) ?_
  refine lv_iadd hx hb dL_law_1106 ?_
  refine va_sld hx hb hX hbl hbA hS (lw_in (k := 2) (by omega) hL) dL_law_1107 ?_
  refine k_rni e2 ?_
  refine lv_aload_n hx hb dL_law_1108 rfl (lv_at hl 0 rfl) ?_
  refine lv_iload hx hb dL_law_1109 (lv_at hl 4 rfl) ?_
  refine lv_iconst (v := nI 3) hx hb dL_law_1111 (by decide) ?_
  refine lv_iadd hx hb dL_law_1112 ?_
  refine va_sld hx hb hX hbl hbA hS (lw_in (k := 3) (by omega) hL) dL_law_1113 ?_
  refine k_rni e3 ?_
  refine k_igrpC (gs8 := GW q o om oo h hm sT sR sP sB X' sN sY sG sH sK sJR s0 sb0 sn0 s1 sb1 sn1 sW sQ sE D' sL sM fo) C (k_rV (As := [.int z1, .int z2, .int z3]) (rest := []) C (c_X11_odds l D q (h 1 0) o (h 0) sT (h 30) sD (h 5) sX (h 4) sB _ z1 z2 z3 f1) kc_X11_odds ml_L_157 rfl rfl (by decide) (flP hP [0, 20, 4, 3] rfl) (flD hD [0, 20, 4, 3] (by decide) rfl) hS (va_recv hK (flP (gc := [g11 q o (h 0) (h 1 0) sT]) hP [0] rfl) (ci := 11) (q0 := 0) rfl rfl) rfl hl.1 rfl (Nat.le_of_ble_eq_true rfl) dL_law_1114 hf0) hP hD hS [0, 20, 4, 3] [1, 2, 5, 6, 7, 8, 9, 10, 11, 12, 13, 14, 15, 16, 17, 18, 19, 21, 22, 23] [g5 q (h 0 1) (h 2) (h 1 0) sR, g9 q (h 1 0) (h 3) 940 sP, g7 q (h 0 5) (h 6) sN, g7 q (h 0 6) (h 7) sY, g0 q (h 0 7) (h 8) sG, g2 q (h 0 8) (h 9) sH, g20 q (h 9 1) (h 10) (fun i => h (11 + i)) sK, g21 q (h 0 9) (h 20) sJR, g3 q (h 20 0) (h 21) s0, g8 q (h 21 1) (h 22) sb0, g7 q (h 21 2) (h 23) sn0, g3 q (h 20 1) (h 24) s1, g8 q (h 24 1) (h 25) sb1, g7 q (h 24 2) (h 26) sn1, g6 q (h 0 10) (h 27) sW, g4 q (h 0 11) (h 28) sQ, g10 q (h 0 12) (h 29) sE, g9 q (h 0 14) (h 31) 96 sL, g12 q om hm sM, [(oo, .inl (q 2, 1, .inr (.inl fo)))]] 24 (by decide) rfl rfl rfl rfl rfl rfl GW_ad (fun H locs hP hD hS => ?_)
  refine lv_aload_n hx hb dL_law_1117 rfl (lv_at hl 2 rfl) ?_
  refine lv_aload_n hx hb dL_law_1118 rfl (lv_at hl 0 rfl) ?_
  refine lv_iload hx hb dL_law_1119 (lv_at hl 4 rfl) ?_
  refine lv_iconst (v := nI 1) hx hb dL_law_1121 (by decide) ?_
  refine lv_iadd hx hb dL_law_1122 ?_
  refine va_sld hx hb hX hbl hbA hS (lw_in (k := 1) (by omega) hL) dL_law_1123 ?_
  refine k_rni e1 ?_
  refine lv_aload_n hx hb dL_law_1124 rfl (lv_at hl 0 rfl) ?_
  refine lv_iload hx hb dL_law_1125 (lv_at hl 4 rfl) ?_
  refine lv_iconst (v := nI 2) hx hb dL_law_1127 (by decide) ?_
  refine lv_iadd hx hb dL_law_1128 ?_
  refine va_sld hx hb hX hbl hbA hS (lw_in (k := 2) (by omega) hL) dL_law_1129 ?_
  refine k_rni e2 ?_
  refine lv_aload_n hx hb dL_law_1130 rfl (lv_at hl 0 rfl) ?_
  refine lv_iload hx hb dL_law_1131 (lv_at hl 4 rfl) ?_
  refine lv_iconst (v := nI 3) hx hb dL_law_1133 (by decide) ?_
  refine lv_iadd hx hb dL_law_1134 ?_
  refine va_sld hx hb hX hbl hbA hS (lw_in (k := 3) (by omega) hL) dL_law_1135 ?_
  refine k_rni e3 ?_
  refine k_igrpC (gs8 := GW q o om oo h hm sT sR sP sB X' sN sY sG sH sK sJR s0 sb0 sn0 s1 sb1 sn1 sW sQ sE D' sL M' fo) C (k_rV (As := [.int z1, .int z2, .int z3]) (rest := [.int r]) C (c_X12_odds l D q om hm sM _ z1 z2 z3 f2) kc_X12_odds ml_L_160 rfl rfl (by decide) (flP hP [22] rfl) (flD hD [22] (by decide) rfl) hS (va_recv hK (flP (gc := [g12 q om hm sM]) hP [22] rfl) (ci := 12) (q0 := 0) rfl rfl) rfl hl.1 rfl (Nat.le_of_ble_eq_true rfl) dL_law_1136 hf0) hP hD hS [22] [0, 1, 2, 3, 4, 5, 6, 7, 8, 9, 10, 11, 12, 13, 14, 15, 16, 17, 18, 19, 20, 21, 23] [g11 q o (h 0) (h 1 0) sT, g5 q (h 0 1) (h 2) (h 1 0) sR, g9 q (h 1 0) (h 3) 940 sP, g8 q (h 0 3) (h 4) sB, g8 q (h 0 4) (h 5) X', g7 q (h 0 5) (h 6) sN, g7 q (h 0 6) (h 7) sY, g0 q (h 0 7) (h 8) sG, g2 q (h 0 8) (h 9) sH, g20 q (h 9 1) (h 10) (fun i => h (11 + i)) sK, g21 q (h 0 9) (h 20) sJR, g3 q (h 20 0) (h 21) s0, g8 q (h 21 1) (h 22) sb0, g7 q (h 21 2) (h 23) sn0, g3 q (h 20 1) (h 24) s1, g8 q (h 24 1) (h 25) sb1, g7 q (h 24 2) (h 26) sn1, g6 q (h 0 10) (h 27) sW, g4 q (h 0 11) (h 28) sQ, g10 q (h 0 12) (h 29) sE, g1 q (h 0 13) (h 30) D', g9 q (h 0 14) (h 31) 96 sL, [(oo, .inl (q 2, 1, .inr (.inl fo)))]] 24 (by decide) rfl rfl rfl rfl rfl rfl GW_ad (fun H locs hP hD hS => ?_)
  refine lv_icmp_eq (tgt := 1307) hx hb dL_law_1139 (by decide) (fun _ => ?_) (fun c9 => absurd rfl c9)
  refine W.widen (k := cells + 1) (n := slots + 6) (by omega) (by omega) ?_
  exact kk sT sR sP sB X' sN sY sG sH sK sJR s0 sb0 sn0 s1 sb1 sn1 sW sQ sE D' sL M' fo V (rel_odds hrel c1 c2 c3) H locs ls hP hD hS hl
set_option maxRecDepth 100000 in
set_option maxHeartbeats 4000000 in
theorem lw_33 (C : cx p s m args meth c code 7 ret RL D q A) (hX : va_X b L xs s s.heap) (hbl : b < s.heap.size) (hbA : ¬ A b) (hi : i + 6 ≤ L) (hL : L ≤ 3072) (hcs : cells + 1 ≤ 601024 ∧ slots + 6 ≤ 7293034) (hrel : REL sT sR sP sB sN sH sK s0 sb0 sn0 s1 sb1 sn1 sW sQ sE sL sM V) (hP : va_P D vwCl (fl (GW q o om oo h hm sT sR sP sB sX sN sY sG sH sK sJR s0 sb0 sn0 s1 sb1 sn1 sW sQ sE sD sL sM fo)) H) (hD : va_D A (fl (GW q o om oo h hm sT sR sP sB sX sN sY sG sH sK sJR s0 sb0 sn0 s1 sb1 sn1 sW sQ sE sD sL sM fo))) (hS : va_S A s.heap H locs) (hl : lv_has ls 7 [(0, .ref b), (1, .ref o), (2, .ref om), (3, .ref oo), (4, .int (nI i))]) (kk : LWK p l e s m args below meth c D q A Q b i o om oo h hm (cells + 1) (slots + 6)) : W p l e room_1 s m args below meth c H locs cells slots Q (F0 m 1144 ls []) := by
  obtain ⟨⟨hS0, hM0, hw0, hN0, hC0, hH0⟩, hT0, h15, hRC, hTo, hSo, hMd, hPa, hTe, hLt, hRW, hMW, hI0, hI1⟩ := id hrel
  obtain ⟨hx, hb, hr, hml, hown, hts, hlk, hA, hK, hN, hV⟩ := id C
  have hf0 : cells + 0 ≤ room_1.cells ∧ slots + 0 ≤ room_1.slots := ⟨Nat.le_of_succ_le hcs.1, by show slots + 0 ≤ 7293034; omega⟩
  obtain ⟨z1, e1⟩ : ∃ z, z = xs (nI i + nI 1).toNatClampNeg := ⟨_, rfl⟩
  obtain ⟨r, T', H', K', G', R', X', B', P', M', V', f1, f2, ce, ce2, cto, crw, crt, c1, c2, c3, c4, c5, c6, cf⟩ := p_book (G := sG) (X := sX) hT0 hRW hMW hS0 hM0 hw0 hN0 hC0 hH0 hTo h15 z1
  refine lv_aload_n hx hb dL_law_1144 rfl (lv_at hl 1 rfl) ?_
  refine lv_aload_n hx hb dL_law_1145 rfl (lv_at hl 0 rfl) ?_
  refine lv_iload hx hb dL_law_1146 (lv_at hl 4 rfl) ?_
  refine lv_iconst (v := nI 1) hx hb dL_law_1148 (by decide) ?_
  refine lv_iadd hx hb dL_law_1149 ?_
  refine va_sld hx hb hX hbl hbA hS (lw_in (k := 1) (by omega) hL) dL_law_1150 ?_
  refine k_rni e1 ?_
  refine k_igrpC (gs8 := GW q o om oo h hm T' R' P' B' X' sN sY G' H' K' sJR s0 sb0 sn0 s1 sb1 sn1 sW sQ sE sD sL sM fo) C (k_rV (As := [.int z1]) (rest := []) C (c_X11_book l D q (h 1 0) o (h 0) sT (h 9) sH (h 10) (fun i => h (11 + i)) sK (h 8) sG (h 2) sR (h 5) sX (h 4) sB (h 3) sP _ z1 f1) kc_X11_book ml_L_161 rfl rfl (by decide) (flP hP [0, 8, 9, 7, 1, 4, 3, 2] rfl) (flD hD [0, 8, 9, 7, 1, 4, 3, 2] (by decide) rfl) hS (va_recv hK (flP (gc := [g11 q o (h 0) (h 1 0) sT]) hP [0] rfl) (ci := 11) (q0 := 0) rfl rfl) rfl hl.1 rfl (Nat.le_of_ble_eq_true rfl) dL_law_1151 hf0) hP hD hS [0, 8, 9, 7, 1, 4, 3, 2] [5, 6, 10, 11, 12, 13, 14, 15, 16, 17, 18, 19, 20, 21, 22, 23] [g7 q (h 0 5) (h 6) sN, g7 q (h 0 6) (h 7) sY, g21 q (h 0 9) (h 20) sJR, g3 q (h 20 0) (h 21) s0, g8 q (h 21 1) (h 22) sb0, g7 q (h 21 2) (h 23) sn0, g3 q (h 20 1) (h 24) s1, g8 q (h 24 1) (h 25) sb1, g7 q (h 24 2) (h 26) sn1, g6 q (h 0 10) (h 27) sW, g4 q (h 0 11) (h 28) sQ, g10 q (h 0 12) (h 29) sE, g1 q (h 0 13) (h 30) sD, g9 q (h 0 14) (h 31) 96 sL, g12 q om hm sM, [(oo, .inl (q 2, 1, .inr (.inl fo)))]] 24 (by decide) rfl rfl rfl rfl rfl rfl GW_ad (fun H locs hP hD hS => ?_)
  refine lv_aload_n hx hb dL_law_1154 rfl (lv_at hl 2 rfl) ?_
  refine lv_aload_n hx hb dL_law_1155 rfl (lv_at hl 0 rfl) ?_
  refine lv_iload hx hb dL_law_1156 (lv_at hl 4 rfl) ?_
  refine lv_iconst (v := nI 1) hx hb dL_law_1158 (by decide) ?_
  refine lv_iadd hx hb dL_law_1159 ?_
  refine va_sld hx hb hX hbl hbA hS (lw_in (k := 1) (by omega) hL) dL_law_1160 ?_
  refine k_rni e1 ?_
  refine k_igrpC (gs8 := GW q o om oo h hm T' R' P' B' X' sN sY G' H' K' sJR s0 sb0 sn0 s1 sb1 sn1 sW sQ sE sD sL M' fo) C (k_rV (As := [.int z1]) (rest := [.int r]) C (c_X12_book l D q om hm sM _ z1 f2) kc_X12_book ml_L_164 rfl rfl (by decide) (flP hP [22] rfl) (flD hD [22] (by decide) rfl) hS (va_recv hK (flP (gc := [g12 q om hm sM]) hP [22] rfl) (ci := 12) (q0 := 0) rfl rfl) rfl hl.1 rfl (Nat.le_of_ble_eq_true rfl) dL_law_1161 hf0) hP hD hS [22] [0, 1, 2, 3, 4, 5, 6, 7, 8, 9, 10, 11, 12, 13, 14, 15, 16, 17, 18, 19, 20, 21, 23] [g11 q o (h 0) (h 1 0) T', g5 q (h 0 1) (h 2) (h 1 0) R', g9 q (h 1 0) (h 3) 940 P', g8 q (h 0 3) (h 4) B', g8 q (h 0 4) (h 5) X', g7 q (h 0 5) (h 6) sN, g7 q (h 0 6) (h 7) sY, g0 q (h 0 7) (h 8) G', g2 q (h 0 8) (h 9) H', g20 q (h 9 1) (h 10) (fun i => h (11 + i)) K', g21 q (h 0 9) (h 20) sJR, g3 q (h 20 0) (h 21) s0, g8 q (h 21 1) (h 22) sb0, g7 q (h 21 2) (h 23) sn0, g3 q (h 20 1) (h 24) s1, g8 q (h 24 1) (h 25) sb1, g7 q (h 24 2) (h 26) sn1, g6 q (h 0 10) (h 27) sW, g4 q (h 0 11) (h 28) sQ, g10 q (h 0 12) (h 29) sE, g1 q (h 0 13) (h 30) sD, g9 q (h 0 14) (h 31) 96 sL, [(oo, .inl (q 2, 1, .inr (.inl fo)))]] 24 (by decide) rfl rfl rfl rfl rfl rfl GW_ad (fun H locs hP hD hS => ?_)
  refine lv_icmp_eq (tgt := 1307) hx hb dL_law_1164 (by decide) (fun _ => ?_) (fun c9 => absurd rfl c9)
  refine W.widen (k := cells + 1) (n := slots + 6) (by omega) (by omega) ?_
  exact kk T' R' P' B' X' sN sY G' H' K' sJR s0 sb0 sn0 s1 sb1 sn1 sW sQ sE sD sL M' fo V' (rel_book hrel ce ce2 cto ⟨c1, c2, c3, c4, c5, c6⟩ crt crw cf) H locs ls hP hD hS hl
set_option maxRecDepth 100000 in
set_option maxHeartbeats 4000000 in
theorem lw_34 (C : cx p s m args meth c code 7 ret RL D q A) (hX : va_X b L xs s s.heap) (hbl : b < s.heap.size) (hbA : ¬ A b) (hi : i + 6 ≤ L) (hL : L ≤ 3072) (hcs : cells + 1 ≤ 601024 ∧ slots + 6 ≤ 7293034) (hrel : REL sT sR sP sB sN sH sK s0 sb0 sn0 s1 sb1 sn1 sW sQ sE sL sM V) (hP : va_P D vwCl (fl (GW q o om oo h hm sT sR sP sB sX sN sY sG sH sK sJR s0 sb0 sn0 s1 sb1 sn1 sW sQ sE sD sL sM fo)) H) (hD : va_D A (fl (GW q o om oo h hm sT sR sP sB sX sN sY sG sH sK sJR s0 sb0 sn0 s1 sb1 sn1 sW sQ sE sD sL sM fo))) (hS : va_S A s.heap H locs) (hl : lv_has ls 7 [(0, .ref b), (1, .ref o), (2, .ref om), (3, .ref oo), (4, .int (nI i))]) (kk : LWK p l e s m args below meth c D q A Q b i o om oo h hm (cells + 1) (slots + 6)) : W p l e room_1 s m args below meth c H locs cells slots Q (F0 m 1169 ls []) := by
  obtain ⟨⟨hS0, hM0, hw0, hN0, hC0, hH0⟩, hT0, h15, hRC, hTo, hSo, hMd, hPa, hTe, hLt, hRW, hMW, hI0, hI1⟩ := id hrel
  obtain ⟨hx, hb, hr, hml, hown, hts, hlk, hA, hK, hN, hV⟩ := id C
  have hf0 : cells + 0 ≤ room_1.cells ∧ slots + 0 ≤ room_1.slots := ⟨Nat.le_of_succ_le hcs.1, by show slots + 0 ≤ 7293034; omega⟩
  obtain ⟨z1, e1⟩ : ∃ z, z = xs (nI i + nI 1).toNatClampNeg := ⟨_, rfl⟩
  obtain ⟨r, f1, f2⟩ := p_told hTo z1
  refine lv_aload_n hx hb dL_law_1169 rfl (lv_at hl 1 rfl) ?_
  refine lv_aload_n hx hb dL_law_1170 rfl (lv_at hl 0 rfl) ?_
  refine lv_iload hx hb dL_law_1171 (lv_at hl 4 rfl) ?_
  refine lv_iconst (v := nI 1) hx hb dL_law_1173 (by decide) ?_
  refine lv_iadd hx hb dL_law_1174 ?_
  refine va_sld hx hb hX hbl hbA hS (lw_in (k := 1) (by omega) hL) dL_law_1175 ?_
  refine k_rni e1 ?_
  refine k_igrpC (gs8 := GW q o om oo h hm sT sR sP sB sX sN sY sG sH sK sJR s0 sb0 sn0 s1 sb1 sn1 sW sQ sE sD sL sM fo) C (k_rV (As := [.int z1]) (rest := []) C (c_X11_told l D q (h 1 0) o (h 0) sT _ z1 f1) kc_X11_told ml_L_165 rfl rfl (by decide) (flP hP [0] rfl) (flD hD [0] (by decide) rfl) hS (va_recv hK (flP (gc := [g11 q o (h 0) (h 1 0) sT]) hP [0] rfl) (ci := 11) (q0 := 0) rfl rfl) rfl hl.1 rfl (Nat.le_of_ble_eq_true rfl) dL_law_1176 hf0) hP hD hS [0] [1, 2, 3, 4, 5, 6, 7, 8, 9, 10, 11, 12, 13, 14, 15, 16, 17, 18, 19, 20, 21, 22, 23] [g5 q (h 0 1) (h 2) (h 1 0) sR, g9 q (h 1 0) (h 3) 940 sP, g8 q (h 0 3) (h 4) sB, g8 q (h 0 4) (h 5) sX, g7 q (h 0 5) (h 6) sN, g7 q (h 0 6) (h 7) sY, g0 q (h 0 7) (h 8) sG, g2 q (h 0 8) (h 9) sH, g20 q (h 9 1) (h 10) (fun i => h (11 + i)) sK, g21 q (h 0 9) (h 20) sJR, g3 q (h 20 0) (h 21) s0, g8 q (h 21 1) (h 22) sb0, g7 q (h 21 2) (h 23) sn0, g3 q (h 20 1) (h 24) s1, g8 q (h 24 1) (h 25) sb1, g7 q (h 24 2) (h 26) sn1, g6 q (h 0 10) (h 27) sW, g4 q (h 0 11) (h 28) sQ, g10 q (h 0 12) (h 29) sE, g1 q (h 0 13) (h 30) sD, g9 q (h 0 14) (h 31) 96 sL, g12 q om hm sM, [(oo, .inl (q 2, 1, .inr (.inl fo)))]] 24 (by decide) rfl rfl rfl rfl rfl rfl GW_ad (fun H locs hP hD hS => ?_)
  refine lv_aload_n hx hb dL_law_1179 rfl (lv_at hl 2 rfl) ?_
  refine lv_aload_n hx hb dL_law_1180 rfl (lv_at hl 0 rfl) ?_
  refine lv_iload hx hb dL_law_1181 (lv_at hl 4 rfl) ?_
  refine lv_iconst (v := nI 1) hx hb dL_law_1183 (by decide) ?_
  refine lv_iadd hx hb dL_law_1184 ?_
  refine va_sld hx hb hX hbl hbA hS (lw_in (k := 1) (by omega) hL) dL_law_1185 ?_
  refine k_rni e1 ?_
  refine k_igrpC (gs8 := GW q o om oo h hm sT sR sP sB sX sN sY sG sH sK sJR s0 sb0 sn0 s1 sb1 sn1 sW sQ sE sD sL (sI sM 0 (nI 0)) fo) C (k_rV (As := [.int z1]) (rest := [.int r]) C (c_X12_told l D q om hm sM _ z1 f2) kc_X12_told ml_L_168 rfl rfl (by decide) (flP hP [22] rfl) (flD hD [22] (by decide) rfl) hS (va_recv hK (flP (gc := [g12 q om hm sM]) hP [22] rfl) (ci := 12) (q0 := 0) rfl rfl) rfl hl.1 rfl (Nat.le_of_ble_eq_true rfl) dL_law_1186 hf0) hP hD hS [22] [0, 1, 2, 3, 4, 5, 6, 7, 8, 9, 10, 11, 12, 13, 14, 15, 16, 17, 18, 19, 20, 21, 23] [g11 q o (h 0) (h 1 0) sT, g5 q (h 0 1) (h 2) (h 1 0) sR, g9 q (h 1 0) (h 3) 940 sP, g8 q (h 0 3) (h 4) sB, g8 q (h 0 4) (h 5) sX, g7 q (h 0 5) (h 6) sN, g7 q (h 0 6) (h 7) sY, g0 q (h 0 7) (h 8) sG, g2 q (h 0 8) (h 9) sH, g20 q (h 9 1) (h 10) (fun i => h (11 + i)) sK, g21 q (h 0 9) (h 20) sJR, g3 q (h 20 0) (h 21) s0, g8 q (h 21 1) (h 22) sb0, g7 q (h 21 2) (h 23) sn0, g3 q (h 20 1) (h 24) s1, g8 q (h 24 1) (h 25) sb1, g7 q (h 24 2) (h 26) sn1, g6 q (h 0 10) (h 27) sW, g4 q (h 0 11) (h 28) sQ, g10 q (h 0 12) (h 29) sE, g1 q (h 0 13) (h 30) sD, g9 q (h 0 14) (h 31) 96 sL, [(oo, .inl (q 2, 1, .inr (.inl fo)))]] 24 (by decide) rfl rfl rfl rfl rfl rfl GW_ad (fun H locs hP hD hS => ?_)
  refine lv_icmp_eq (tgt := 1307) hx hb dL_law_1189 (by decide) (fun _ => ?_) (fun c9 => absurd rfl c9)
  refine W.widen (k := cells + 1) (n := slots + 6) (by omega) (by omega) ?_
  exact kk sT sR sP sB sX sN sY sG sH sK sJR s0 sb0 sn0 s1 sb1 sn1 sW sQ sE sD sL (sI sM 0 (nI 0)) fo V (rel_0 hrel (nI 0)) H locs ls hP hD hS hl
set_option maxRecDepth 100000 in
set_option maxHeartbeats 4000000 in
theorem lw_35 (C : cx p s m args meth c code 7 ret RL D q A) (hX : va_X b L xs s s.heap) (hbl : b < s.heap.size) (hbA : ¬ A b) (hi : i + 6 ≤ L) (hL : L ≤ 3072) (hcs : cells + 1 ≤ 601024 ∧ slots + 6 ≤ 7293034) (hrel : REL sT sR sP sB sN sH sK s0 sb0 sn0 s1 sb1 sn1 sW sQ sE sL sM V) (hP : va_P D vwCl (fl (GW q o om oo h hm sT sR sP sB sX sN sY sG sH sK sJR s0 sb0 sn0 s1 sb1 sn1 sW sQ sE sD sL sM fo)) H) (hD : va_D A (fl (GW q o om oo h hm sT sR sP sB sX sN sY sG sH sK sJR s0 sb0 sn0 s1 sb1 sn1 sW sQ sE sD sL sM fo))) (hS : va_S A s.heap H locs) (hl : lv_has ls 7 [(0, .ref b), (1, .ref o), (2, .ref om), (3, .ref oo), (4, .int (nI i))]) (kk : LWK p l e s m args below meth c D q A Q b i o om oo h hm (cells + 1) (slots + 6)) : W p l e room_1 s m args below meth c H locs cells slots Q (F0 m 1194 ls []) := by
  obtain ⟨⟨hS0, hM0, hw0, hN0, hC0, hH0⟩, hT0, h15, hRC, hTo, hSo, hMd, hPa, hTe, hLt, hRW, hMW, hI0, hI1⟩ := id hrel
  obtain ⟨hx, hb, hr, hml, hown, hts, hlk, hA, hK, hN, hV⟩ := id C
  have hf0 : cells + 0 ≤ room_1.cells ∧ slots + 0 ≤ room_1.slots := ⟨Nat.le_of_succ_le hcs.1, by show slots + 0 ≤ 7293034; omega⟩
  obtain ⟨r, T', R', N', Y', P', M', f1, f2, ce, crw, crt, c2, c4, c5, c6, cf⟩ := p_sentence (T := sT) (X := sY) hT0 hRW hMW hS0 hM0 hw0 hN0 hC0 hH0
  refine lv_aload_n hx hb dL_law_1194 rfl (lv_at hl 1 rfl) ?_
  refine k_igrpC (gs8 := GW q o om oo h hm T' R' P' sB sX N' Y' sG sH sK sJR s0 sb0 sn0 s1 sb1 sn1 sW sQ sE sD sL sM fo) C (k_rV (As := []) (rest := []) C (c_X11_sentence l D q (h 1 0) o (h 0) sT (h 2) sR (h 6) sN (h 7) sY (h 4) sB (h 3) sP _ f1) kc_X11_sentence ml_L_169 rfl rfl (by decide) (flP hP [0, 1, 5, 6, 3, 2] rfl) (flD hD [0, 1, 5, 6, 3, 2] (by decide) rfl) hS (va_recv hK (flP (gc := [g11 q o (h 0) (h 1 0) sT]) hP [0] rfl) (ci := 11) (q0 := 0) rfl rfl) rfl hl.1 rfl (Nat.le_of_ble_eq_true rfl) dL_law_1195 hf0) hP hD hS [0, 1, 5, 6, 3, 2] [4, 7, 8, 9, 10, 11, 12, 13, 14, 15, 16, 17, 18, 19, 20, 21, 22, 23] [g8 q (h 0 4) (h 5) sX, g0 q (h 0 7) (h 8) sG, g2 q (h 0 8) (h 9) sH, g20 q (h 9 1) (h 10) (fun i => h (11 + i)) sK, g21 q (h 0 9) (h 20) sJR, g3 q (h 20 0) (h 21) s0, g8 q (h 21 1) (h 22) sb0, g7 q (h 21 2) (h 23) sn0, g3 q (h 20 1) (h 24) s1, g8 q (h 24 1) (h 25) sb1, g7 q (h 24 2) (h 26) sn1, g6 q (h 0 10) (h 27) sW, g4 q (h 0 11) (h 28) sQ, g10 q (h 0 12) (h 29) sE, g1 q (h 0 13) (h 30) sD, g9 q (h 0 14) (h 31) 96 sL, g12 q om hm sM, [(oo, .inl (q 2, 1, .inr (.inl fo)))]] 24 (by decide) rfl rfl rfl rfl rfl rfl GW_ad (fun H locs hP hD hS => ?_)
  refine lv_aload_n hx hb dL_law_1198 rfl (lv_at hl 2 rfl) ?_
  refine k_igrpC (gs8 := GW q o om oo h hm T' R' P' sB sX N' Y' sG sH sK sJR s0 sb0 sn0 s1 sb1 sn1 sW sQ sE sD sL M' fo) C (k_rV (As := []) (rest := [.int r]) C (c_X12_sentence l D q om hm sM _ f2) kc_X12_sentence ml_L_172 rfl rfl (by decide) (flP hP [22] rfl) (flD hD [22] (by decide) rfl) hS (va_recv hK (flP (gc := [g12 q om hm sM]) hP [22] rfl) (ci := 12) (q0 := 0) rfl rfl) rfl hl.1 rfl (Nat.le_of_ble_eq_true rfl) dL_law_1199 hf0) hP hD hS [22] [0, 1, 2, 3, 4, 5, 6, 7, 8, 9, 10, 11, 12, 13, 14, 15, 16, 17, 18, 19, 20, 21, 23] [g11 q o (h 0) (h 1 0) T', g5 q (h 0 1) (h 2) (h 1 0) R', g9 q (h 1 0) (h 3) 940 P', g8 q (h 0 3) (h 4) sB, g8 q (h 0 4) (h 5) sX, g7 q (h 0 5) (h 6) N', g7 q (h 0 6) (h 7) Y', g0 q (h 0 7) (h 8) sG, g2 q (h 0 8) (h 9) sH, g20 q (h 9 1) (h 10) (fun i => h (11 + i)) sK, g21 q (h 0 9) (h 20) sJR, g3 q (h 20 0) (h 21) s0, g8 q (h 21 1) (h 22) sb0, g7 q (h 21 2) (h 23) sn0, g3 q (h 20 1) (h 24) s1, g8 q (h 24 1) (h 25) sb1, g7 q (h 24 2) (h 26) sn1, g6 q (h 0 10) (h 27) sW, g4 q (h 0 11) (h 28) sQ, g10 q (h 0 12) (h 29) sE, g1 q (h 0 13) (h 30) sD, g9 q (h 0 14) (h 31) 96 sL, [(oo, .inl (q 2, 1, .inr (.inl fo)))]] 24 (by decide) rfl rfl rfl rfl rfl rfl GW_ad (fun H locs hP hD hS => ?_)
  refine lv_icmp_eq (tgt := 1307) hx hb dL_law_1202 (by decide) (fun _ => ?_) (fun c9 => absurd rfl c9)
  refine W.widen (k := cells + 1) (n := slots + 6) (by omega) (by omega) ?_
  exact kk T' R' P' sB sX N' Y' sG sH sK sJR s0 sb0 sn0 s1 sb1 sn1 sW sQ sE sD sL M' fo V (rel_sentence hrel ce ⟨hS0, c2, hw0, c4, c5, c6⟩ crt crw cf) H locs ls hP hD hS hl
set_option maxRecDepth 100000 in
set_option maxHeartbeats 4000000 in
theorem lw_36 (C : cx p s m args meth c code 7 ret RL D q A) (hX : va_X b L xs s s.heap) (hbl : b < s.heap.size) (hbA : ¬ A b) (hi : i + 6 ≤ L) (hL : L ≤ 3072) (hcs : cells + 1 ≤ 601024 ∧ slots + 6 ≤ 7293034) (hrel : REL sT sR sP sB sN sH sK s0 sb0 sn0 s1 sb1 sn1 sW sQ sE sL sM V) (hP : va_P D vwCl (fl (GW q o om oo h hm sT sR sP sB sX sN sY sG sH sK sJR s0 sb0 sn0 s1 sb1 sn1 sW sQ sE sD sL sM fo)) H) (hD : va_D A (fl (GW q o om oo h hm sT sR sP sB sX sN sY sG sH sK sJR s0 sb0 sn0 s1 sb1 sn1 sW sQ sE sD sL sM fo))) (hS : va_S A s.heap H locs) (hl : lv_has ls 7 [(0, .ref b), (1, .ref o), (2, .ref om), (3, .ref oo), (4, .int (nI i))]) (kk : LWK p l e s m args below meth c D q A Q b i o om oo h hm (cells + 1) (slots + 6)) : W p l e room_1 s m args below meth c H locs cells slots Q (F0 m 1207 ls []) := by
  obtain ⟨⟨hS0, hM0, hw0, hN0, hC0, hH0⟩, hT0, h15, hRC, hTo, hSo, hMd, hPa, hTe, hLt, hRW, hMW, hI0, hI1⟩ := id hrel
  obtain ⟨hx, hb, hr, hml, hown, hts, hlk, hA, hK, hN, hV⟩ := id C
  have hf0 : cells + 0 ≤ room_1.cells ∧ slots + 0 ≤ room_1.slots := ⟨Nat.le_of_succ_le hcs.1, by show slots + 0 ≤ 7293034; omega⟩
  obtain ⟨z1, e1⟩ : ∃ z, z = xs (nI i + nI 1).toNatClampNeg := ⟨_, rfl⟩
  obtain ⟨r, M', f1, f2, c1⟩ := p_said (T := sT) hS0 hM0 hw0 hC0 z1
  refine lv_aload_n hx hb dL_law_1207 rfl (lv_at hl 1 rfl) ?_
  refine lv_aload_n hx hb dL_law_1208 rfl (lv_at hl 0 rfl) ?_
  refine lv_iload hx hb dL_law_1209 (lv_at hl 4 rfl) ?_
  refine lv_iconst (v := nI 1) hx hb dL_law_1211 (by decide) ?_
  refine lv_iadd hx hb dL_law_1212 ?_
  refine va_sld hx hb hX hbl hbA hS (lw_in (k := 1) (by omega) hL) dL_law_1213 ?_
  refine k_rni e1 ?_
  refine k_igrpC (gs8 := GW q o om oo h hm sT sR sP sB sX sN sY sG sH sK sJR s0 sb0 sn0 s1 sb1 sn1 sW sQ sE sD sL sM fo) C (k_rV (As := [.int z1]) (rest := []) C (c_X11_said l D q (h 1 0) o (h 0) sT (h 6) sN (h 4) sB _ z1 f1) kc_X11_said ml_L_173 rfl rfl (by decide) (flP hP [0, 5, 3] rfl) (flD hD [0, 5, 3] (by decide) rfl) hS (va_recv hK (flP (gc := [g11 q o (h 0) (h 1 0) sT]) hP [0] rfl) (ci := 11) (q0 := 0) rfl rfl) rfl hl.1 rfl (Nat.le_of_ble_eq_true rfl) dL_law_1214 hf0) hP hD hS [0, 5, 3] [1, 2, 4, 6, 7, 8, 9, 10, 11, 12, 13, 14, 15, 16, 17, 18, 19, 20, 21, 22, 23] [g5 q (h 0 1) (h 2) (h 1 0) sR, g9 q (h 1 0) (h 3) 940 sP, g8 q (h 0 4) (h 5) sX, g7 q (h 0 6) (h 7) sY, g0 q (h 0 7) (h 8) sG, g2 q (h 0 8) (h 9) sH, g20 q (h 9 1) (h 10) (fun i => h (11 + i)) sK, g21 q (h 0 9) (h 20) sJR, g3 q (h 20 0) (h 21) s0, g8 q (h 21 1) (h 22) sb0, g7 q (h 21 2) (h 23) sn0, g3 q (h 20 1) (h 24) s1, g8 q (h 24 1) (h 25) sb1, g7 q (h 24 2) (h 26) sn1, g6 q (h 0 10) (h 27) sW, g4 q (h 0 11) (h 28) sQ, g10 q (h 0 12) (h 29) sE, g1 q (h 0 13) (h 30) sD, g9 q (h 0 14) (h 31) 96 sL, g12 q om hm sM, [(oo, .inl (q 2, 1, .inr (.inl fo)))]] 24 (by decide) rfl rfl rfl rfl rfl rfl GW_ad (fun H locs hP hD hS => ?_)
  refine lv_aload_n hx hb dL_law_1217 rfl (lv_at hl 2 rfl) ?_
  refine lv_aload_n hx hb dL_law_1218 rfl (lv_at hl 0 rfl) ?_
  refine lv_iload hx hb dL_law_1219 (lv_at hl 4 rfl) ?_
  refine lv_iconst (v := nI 1) hx hb dL_law_1221 (by decide) ?_
  refine lv_iadd hx hb dL_law_1222 ?_
  refine va_sld hx hb hX hbl hbA hS (lw_in (k := 1) (by omega) hL) dL_law_1223 ?_
  refine k_rni e1 ?_
  refine k_igrpC (gs8 := GW q o om oo h hm sT sR sP sB sX sN sY sG sH sK sJR s0 sb0 sn0 s1 sb1 sn1 sW sQ sE sD sL M' fo) C (k_rV (As := [.int z1]) (rest := [.int r]) C (c_X12_said l D q om hm sM _ z1 f2) kc_X12_said ml_L_176 rfl rfl (by decide) (flP hP [22] rfl) (flD hD [22] (by decide) rfl) hS (va_recv hK (flP (gc := [g12 q om hm sM]) hP [22] rfl) (ci := 12) (q0 := 0) rfl rfl) rfl hl.1 rfl (Nat.le_of_ble_eq_true rfl) dL_law_1224 hf0) hP hD hS [22] [0, 1, 2, 3, 4, 5, 6, 7, 8, 9, 10, 11, 12, 13, 14, 15, 16, 17, 18, 19, 20, 21, 23] [g11 q o (h 0) (h 1 0) sT, g5 q (h 0 1) (h 2) (h 1 0) sR, g9 q (h 1 0) (h 3) 940 sP, g8 q (h 0 3) (h 4) sB, g8 q (h 0 4) (h 5) sX, g7 q (h 0 5) (h 6) sN, g7 q (h 0 6) (h 7) sY, g0 q (h 0 7) (h 8) sG, g2 q (h 0 8) (h 9) sH, g20 q (h 9 1) (h 10) (fun i => h (11 + i)) sK, g21 q (h 0 9) (h 20) sJR, g3 q (h 20 0) (h 21) s0, g8 q (h 21 1) (h 22) sb0, g7 q (h 21 2) (h 23) sn0, g3 q (h 20 1) (h 24) s1, g8 q (h 24 1) (h 25) sb1, g7 q (h 24 2) (h 26) sn1, g6 q (h 0 10) (h 27) sW, g4 q (h 0 11) (h 28) sQ, g10 q (h 0 12) (h 29) sE, g1 q (h 0 13) (h 30) sD, g9 q (h 0 14) (h 31) 96 sL, [(oo, .inl (q 2, 1, .inr (.inl fo)))]] 24 (by decide) rfl rfl rfl rfl rfl rfl GW_ad (fun H locs hP hD hS => ?_)
  refine lv_icmp_eq (tgt := 1307) hx hb dL_law_1227 (by decide) (fun _ => ?_) (fun c9 => absurd rfl c9)
  refine W.widen (k := cells + 1) (n := slots + 6) (by omega) (by omega) ?_
  exact kk sT sR sP sB sX sN sY sG sH sK sJR s0 sb0 sn0 s1 sb1 sn1 sW sQ sE sD sL M' fo V (rel_said hrel c1) H locs ls hP hD hS hl
set_option maxRecDepth 100000 in
set_option maxHeartbeats 4000000 in
theorem lw_37 (C : cx p s m args meth c code 7 ret RL D q A) (hX : va_X b L xs s s.heap) (hbl : b < s.heap.size) (hbA : ¬ A b) (hi : i + 6 ≤ L) (hL : L ≤ 3072) (hcs : cells + 1 ≤ 601024 ∧ slots + 6 ≤ 7293034) (hrel : REL sT sR sP sB sN sH sK s0 sb0 sn0 s1 sb1 sn1 sW sQ sE sL sM V) (hP : va_P D vwCl (fl (GW q o om oo h hm sT sR sP sB sX sN sY sG sH sK sJR s0 sb0 sn0 s1 sb1 sn1 sW sQ sE sD sL sM fo)) H) (hD : va_D A (fl (GW q o om oo h hm sT sR sP sB sX sN sY sG sH sK sJR s0 sb0 sn0 s1 sb1 sn1 sW sQ sE sD sL sM fo))) (hS : va_S A s.heap H locs) (hl : lv_has ls 7 [(0, .ref b), (1, .ref o), (2, .ref om), (3, .ref oo), (4, .int (nI i))]) (kk : LWK p l e s m args below meth c D q A Q b i o om oo h hm (cells + 1) (slots + 6)) : W p l e room_1 s m args below meth c H locs cells slots Q (F0 m 1232 ls []) := by
  obtain ⟨⟨hS0, hM0, hw0, hN0, hC0, hH0⟩, hT0, h15, hRC, hTo, hSo, hMd, hPa, hTe, hLt, hRW, hMW, hI0, hI1⟩ := id hrel
  obtain ⟨hx, hb, hr, hml, hown, hts, hlk, hA, hK, hN, hV⟩ := id C
  have hf0 : cells + 0 ≤ room_1.cells ∧ slots + 0 ≤ room_1.slots := ⟨Nat.le_of_succ_le hcs.1, by show slots + 0 ≤ 7293034; omega⟩
  obtain ⟨z1, e1⟩ : ∃ z, z = xs (nI i + nI 1).toNatClampNeg := ⟨_, rfl⟩
  obtain ⟨r, I0', IN0', IB0', I1', IN1', IB1', M', f1, f2, c1, c2, c3⟩ := p_image (T := sT) (IR := sJR) hS0 hM0 hw0 hN0 hC0 hI0 hI1 z1
  refine lv_aload_n hx hb dL_law_1232 rfl (lv_at hl 1 rfl) ?_
  refine lv_aload_n hx hb dL_law_1233 rfl (lv_at hl 0 rfl) ?_
  refine lv_iload hx hb dL_law_1234 (lv_at hl 4 rfl) ?_
  refine lv_iconst (v := nI 1) hx hb dL_law_1236 (by decide) ?_
  refine lv_iadd hx hb dL_law_1237 ?_
  refine va_sld hx hb hX hbl hbA hS (lw_in (k := 1) (by omega) hL) dL_law_1238 ?_
  refine k_rni e1 ?_
  refine k_igrpC (gs8 := GW q o om oo h hm sT sR sP sB sX sN sY sG sH sK sJR I0' IB0' IN0' I1' IB1' IN1' sW sQ sE sD sL sM fo) C (k_rV (As := [.int z1]) (rest := []) C (c_X11_image l D q (h 1 0) o (h 0) sT (h 20) sJR (h 21) s0 (h 23) sn0 (h 22) sb0 (h 24) s1 (h 26) sn1 (h 25) sb1 (h 6) sN (h 4) sB _ z1 f1) kc_X11_image ml_L_177 rfl rfl (by decide) (flP hP [0, 10, 11, 13, 12, 14, 16, 15, 5, 3] rfl) (flD hD [0, 10, 11, 13, 12, 14, 16, 15, 5, 3] (by decide) rfl) hS (va_recv hK (flP (gc := [g11 q o (h 0) (h 1 0) sT]) hP [0] rfl) (ci := 11) (q0 := 0) rfl rfl) rfl hl.1 rfl (Nat.le_of_ble_eq_true rfl) dL_law_1239 hf0) hP hD hS [0, 10, 11, 13, 12, 14, 16, 15, 5, 3] [1, 2, 4, 6, 7, 8, 9, 17, 18, 19, 20, 21, 22, 23] [g5 q (h 0 1) (h 2) (h 1 0) sR, g9 q (h 1 0) (h 3) 940 sP, g8 q (h 0 4) (h 5) sX, g7 q (h 0 6) (h 7) sY, g0 q (h 0 7) (h 8) sG, g2 q (h 0 8) (h 9) sH, g20 q (h 9 1) (h 10) (fun i => h (11 + i)) sK, g6 q (h 0 10) (h 27) sW, g4 q (h 0 11) (h 28) sQ, g10 q (h 0 12) (h 29) sE, g1 q (h 0 13) (h 30) sD, g9 q (h 0 14) (h 31) 96 sL, g12 q om hm sM, [(oo, .inl (q 2, 1, .inr (.inl fo)))]] 24 (by decide) rfl rfl rfl rfl rfl rfl GW_ad (fun H locs hP hD hS => ?_)
  refine lv_aload_n hx hb dL_law_1242 rfl (lv_at hl 2 rfl) ?_
  refine lv_aload_n hx hb dL_law_1243 rfl (lv_at hl 0 rfl) ?_
  refine lv_iload hx hb dL_law_1244 (lv_at hl 4 rfl) ?_
  refine lv_iconst (v := nI 1) hx hb dL_law_1246 (by decide) ?_
  refine lv_iadd hx hb dL_law_1247 ?_
  refine va_sld hx hb hX hbl hbA hS (lw_in (k := 1) (by omega) hL) dL_law_1248 ?_
  refine k_rni e1 ?_
  refine k_igrpC (gs8 := GW q o om oo h hm sT sR sP sB sX sN sY sG sH sK sJR I0' IB0' IN0' I1' IB1' IN1' sW sQ sE sD sL M' fo) C (k_rV (As := [.int z1]) (rest := [.int r]) C (c_X12_image l D q om hm sM _ z1 f2) kc_X12_image ml_L_180 rfl rfl (by decide) (flP hP [22] rfl) (flD hD [22] (by decide) rfl) hS (va_recv hK (flP (gc := [g12 q om hm sM]) hP [22] rfl) (ci := 12) (q0 := 0) rfl rfl) rfl hl.1 rfl (Nat.le_of_ble_eq_true rfl) dL_law_1249 hf0) hP hD hS [22] [0, 1, 2, 3, 4, 5, 6, 7, 8, 9, 10, 11, 12, 13, 14, 15, 16, 17, 18, 19, 20, 21, 23] [g11 q o (h 0) (h 1 0) sT, g5 q (h 0 1) (h 2) (h 1 0) sR, g9 q (h 1 0) (h 3) 940 sP, g8 q (h 0 3) (h 4) sB, g8 q (h 0 4) (h 5) sX, g7 q (h 0 5) (h 6) sN, g7 q (h 0 6) (h 7) sY, g0 q (h 0 7) (h 8) sG, g2 q (h 0 8) (h 9) sH, g20 q (h 9 1) (h 10) (fun i => h (11 + i)) sK, g21 q (h 0 9) (h 20) sJR, g3 q (h 20 0) (h 21) I0', g8 q (h 21 1) (h 22) IB0', g7 q (h 21 2) (h 23) IN0', g3 q (h 20 1) (h 24) I1', g8 q (h 24 1) (h 25) IB1', g7 q (h 24 2) (h 26) IN1', g6 q (h 0 10) (h 27) sW, g4 q (h 0 11) (h 28) sQ, g10 q (h 0 12) (h 29) sE, g1 q (h 0 13) (h 30) sD, g9 q (h 0 14) (h 31) 96 sL, [(oo, .inl (q 2, 1, .inr (.inl fo)))]] 24 (by decide) rfl rfl rfl rfl rfl rfl GW_ad (fun H locs hP hD hS => ?_)
  refine lv_icmp_eq (tgt := 1307) hx hb dL_law_1252 (by decide) (fun _ => ?_) (fun c9 => absurd rfl c9)
  refine W.widen (k := cells + 1) (n := slots + 6) (by omega) (by omega) ?_
  exact kk sT sR sP sB sX sN sY sG sH sK sJR I0' IB0' IN0' I1' IB1' IN1' sW sQ sE sD sL M' fo V (rel_image hrel c1 c2 c3) H locs ls hP hD hS hl
set_option maxRecDepth 100000 in
set_option maxHeartbeats 4000000 in
theorem lw_38 (C : cx p s m args meth c code 7 ret RL D q A) (hX : va_X b L xs s s.heap) (hbl : b < s.heap.size) (hbA : ¬ A b) (hi : i + 6 ≤ L) (hL : L ≤ 3072) (hcs : cells + 1 ≤ 601024 ∧ slots + 6 ≤ 7293034) (hrel : REL sT sR sP sB sN sH sK s0 sb0 sn0 s1 sb1 sn1 sW sQ sE sL sM V) (hP : va_P D vwCl (fl (GW q o om oo h hm sT sR sP sB sX sN sY sG sH sK sJR s0 sb0 sn0 s1 sb1 sn1 sW sQ sE sD sL sM fo)) H) (hD : va_D A (fl (GW q o om oo h hm sT sR sP sB sX sN sY sG sH sK sJR s0 sb0 sn0 s1 sb1 sn1 sW sQ sE sD sL sM fo))) (hS : va_S A s.heap H locs) (hl : lv_has ls 7 [(0, .ref b), (1, .ref o), (2, .ref om), (3, .ref oo), (4, .int (nI i))]) (kk : LWK p l e s m args below meth c D q A Q b i o om oo h hm (cells + 1) (slots + 6)) : W p l e room_1 s m args below meth c H locs cells slots Q (F0 m 1257 ls []) := by
  obtain ⟨⟨hS0, hM0, hw0, hN0, hC0, hH0⟩, hT0, h15, hRC, hTo, hSo, hMd, hPa, hTe, hLt, hRW, hMW, hI0, hI1⟩ := id hrel
  obtain ⟨hx, hb, hr, hml, hown, hts, hlk, hA, hK, hN, hV⟩ := id C
  have hf0 : cells + 0 ≤ room_1.cells ∧ slots + 0 ≤ room_1.slots := ⟨Nat.le_of_succ_le hcs.1, by show slots + 0 ≤ 7293034; omega⟩
  obtain ⟨z1, e1⟩ : ∃ z, z = xs (nI i + nI 1).toNatClampNeg := ⟨_, rfl⟩
  obtain ⟨r, H', N', B', M', V', f1, f2, c1, c2, c3, c4, c5, c6, cf⟩ := p_restore (T := sT) (IR := sJR) hS0 hM0 hw0 hN0 hC0 hH0 hI0 hI1 z1
  refine lv_aload_n hx hb dL_law_1257 rfl (lv_at hl 1 rfl) ?_
  refine lv_aload_n hx hb dL_law_1258 rfl (lv_at hl 0 rfl) ?_
  refine lv_iload hx hb dL_law_1259 (lv_at hl 4 rfl) ?_
  refine lv_iconst (v := nI 1) hx hb dL_law_1261 (by decide) ?_
  refine lv_iadd hx hb dL_law_1262 ?_
  refine va_sld hx hb hX hbl hbA hS (lw_in (k := 1) (by omega) hL) dL_law_1263 ?_
  refine k_rni e1 ?_
  refine k_igrpC (gs8 := GW q o om oo h hm sT sR sP B' sX N' sY sG H' sK sJR s0 sb0 sn0 s1 sb1 sn1 sW sQ sE sD sL sM fo) C (k_rV (As := [.int z1]) (rest := []) C (c_X11_restore l D q (h 1 0) o (h 0) sT (h 9) sH (h 20) sJR (h 21) s0 (h 23) sn0 (h 22) sb0 (h 24) s1 (h 26) sn1 (h 25) sb1 (h 6) sN (h 4) sB _ z1 f1) kc_X11_restore ml_L_181 rfl rfl (by decide) (flP hP [0, 8, 10, 11, 13, 12, 14, 16, 15, 5, 3] rfl) (flD hD [0, 8, 10, 11, 13, 12, 14, 16, 15, 5, 3] (by decide) rfl) hS (va_recv hK (flP (gc := [g11 q o (h 0) (h 1 0) sT]) hP [0] rfl) (ci := 11) (q0 := 0) rfl rfl) rfl hl.1 rfl (Nat.le_of_ble_eq_true rfl) dL_law_1264 hf0) hP hD hS [0, 8, 10, 11, 13, 12, 14, 16, 15, 5, 3] [1, 2, 4, 6, 7, 9, 17, 18, 19, 20, 21, 22, 23] [g5 q (h 0 1) (h 2) (h 1 0) sR, g9 q (h 1 0) (h 3) 940 sP, g8 q (h 0 4) (h 5) sX, g7 q (h 0 6) (h 7) sY, g0 q (h 0 7) (h 8) sG, g20 q (h 9 1) (h 10) (fun i => h (11 + i)) sK, g6 q (h 0 10) (h 27) sW, g4 q (h 0 11) (h 28) sQ, g10 q (h 0 12) (h 29) sE, g1 q (h 0 13) (h 30) sD, g9 q (h 0 14) (h 31) 96 sL, g12 q om hm sM, [(oo, .inl (q 2, 1, .inr (.inl fo)))]] 24 (by decide) rfl rfl rfl rfl rfl rfl GW_ad (fun H locs hP hD hS => ?_)
  refine lv_aload_n hx hb dL_law_1267 rfl (lv_at hl 2 rfl) ?_
  refine lv_aload_n hx hb dL_law_1268 rfl (lv_at hl 0 rfl) ?_
  refine lv_iload hx hb dL_law_1269 (lv_at hl 4 rfl) ?_
  refine lv_iconst (v := nI 1) hx hb dL_law_1271 (by decide) ?_
  refine lv_iadd hx hb dL_law_1272 ?_
  refine va_sld hx hb hX hbl hbA hS (lw_in (k := 1) (by omega) hL) dL_law_1273 ?_
  refine k_rni e1 ?_
  refine k_igrpC (gs8 := GW q o om oo h hm sT sR sP B' sX N' sY sG H' sK sJR s0 sb0 sn0 s1 sb1 sn1 sW sQ sE sD sL M' fo) C (k_rV (As := [.int z1]) (rest := [.int r]) C (c_X12_restore l D q om hm sM _ z1 f2) kc_X12_restore ml_L_184 rfl rfl (by decide) (flP hP [22] rfl) (flD hD [22] (by decide) rfl) hS (va_recv hK (flP (gc := [g12 q om hm sM]) hP [22] rfl) (ci := 12) (q0 := 0) rfl rfl) rfl hl.1 rfl (Nat.le_of_ble_eq_true rfl) dL_law_1274 hf0) hP hD hS [22] [0, 1, 2, 3, 4, 5, 6, 7, 8, 9, 10, 11, 12, 13, 14, 15, 16, 17, 18, 19, 20, 21, 23] [g11 q o (h 0) (h 1 0) sT, g5 q (h 0 1) (h 2) (h 1 0) sR, g9 q (h 1 0) (h 3) 940 sP, g8 q (h 0 3) (h 4) B', g8 q (h 0 4) (h 5) sX, g7 q (h 0 5) (h 6) N', g7 q (h 0 6) (h 7) sY, g0 q (h 0 7) (h 8) sG, g2 q (h 0 8) (h 9) H', g20 q (h 9 1) (h 10) (fun i => h (11 + i)) sK, g21 q (h 0 9) (h 20) sJR, g3 q (h 20 0) (h 21) s0, g8 q (h 21 1) (h 22) sb0, g7 q (h 21 2) (h 23) sn0, g3 q (h 20 1) (h 24) s1, g8 q (h 24 1) (h 25) sb1, g7 q (h 24 2) (h 26) sn1, g6 q (h 0 10) (h 27) sW, g4 q (h 0 11) (h 28) sQ, g10 q (h 0 12) (h 29) sE, g1 q (h 0 13) (h 30) sD, g9 q (h 0 14) (h 31) 96 sL, [(oo, .inl (q 2, 1, .inr (.inl fo)))]] 24 (by decide) rfl rfl rfl rfl rfl rfl GW_ad (fun H locs hP hD hS => ?_)
  refine lv_icmp_eq (tgt := 1307) hx hb dL_law_1277 (by decide) (fun _ => ?_) (fun c9 => absurd rfl c9)
  refine W.widen (k := cells + 1) (n := slots + 6) (by omega) (by omega) ?_
  exact kk sT sR sP B' sX N' sY sG H' sK sJR s0 sb0 sn0 s1 sb1 sn1 sW sQ sE sD sL M' fo V' (rel_restore hrel ⟨c1, c2, c3, c4, c5, c6⟩ cf) H locs ls hP hD hS hl
set_option maxRecDepth 100000 in
set_option maxHeartbeats 4000000 in
theorem lw_39 (C : cx p s m args meth c code 7 ret RL D q A) (hX : va_X b L xs s s.heap) (hbl : b < s.heap.size) (hbA : ¬ A b) (hi : i + 6 ≤ L) (hL : L ≤ 3072) (hcs : cells + 1 ≤ 601024 ∧ slots + 6 ≤ 7293034) (hrel : REL sT sR sP sB sN sH sK s0 sb0 sn0 s1 sb1 sn1 sW sQ sE sL sM V) (hP : va_P D vwCl (fl (GW q o om oo h hm sT sR sP sB sX sN sY sG sH sK sJR s0 sb0 sn0 s1 sb1 sn1 sW sQ sE sD sL sM fo)) H) (hD : va_D A (fl (GW q o om oo h hm sT sR sP sB sX sN sY sG sH sK sJR s0 sb0 sn0 s1 sb1 sn1 sW sQ sE sD sL sM fo))) (hS : va_S A s.heap H locs) (hl : lv_has ls 7 [(0, .ref b), (1, .ref o), (2, .ref om), (3, .ref oo), (4, .int (nI i))]) (kk : LWK p l e s m args below meth c D q A Q b i o om oo h hm (cells + 1) (slots + 6)) : W p l e room_1 s m args below meth c H locs cells slots Q (F0 m 1282 ls []) := by
  obtain ⟨⟨hS0, hM0, hw0, hN0, hC0, hH0⟩, hT0, h15, hRC, hTo, hSo, hMd, hPa, hTe, hLt, hRW, hMW, hI0, hI1⟩ := id hrel
  obtain ⟨hx, hb, hr, hml, hown, hts, hlk, hA, hK, hN, hV⟩ := id C
  have hf0 : cells + 0 ≤ room_1.cells ∧ slots + 0 ≤ room_1.slots := ⟨Nat.le_of_succ_le hcs.1, by show slots + 0 ≤ 7293034; omega⟩
  obtain ⟨z1, e1⟩ : ∃ z, z = xs (nI i + nI 1).toNatClampNeg := ⟨_, rfl⟩
  obtain ⟨r, f1, f2⟩ := p_count (T := sT) hS0 hM0 hT0 z1
  refine lv_aload_n hx hb dL_law_1282 rfl (lv_at hl 1 rfl) ?_
  refine lv_aload_n hx hb dL_law_1283 rfl (lv_at hl 0 rfl) ?_
  refine lv_iload hx hb dL_law_1284 (lv_at hl 4 rfl) ?_
  refine lv_iconst (v := nI 1) hx hb dL_law_1286 (by decide) ?_
  refine lv_iadd hx hb dL_law_1287 ?_
  refine va_sld hx hb hX hbl hbA hS (lw_in (k := 1) (by omega) hL) dL_law_1288 ?_
  refine k_rni e1 ?_
  refine k_igrpC (gs8 := GW q o om oo h hm sT sR sP sB sX sN sY sG sH sK sJR s0 sb0 sn0 s1 sb1 sn1 sW sQ sE sD sL sM fo) C (k_rV (As := [.int z1]) (rest := []) C (c_X11_count l D q (h 1 0) o (h 0) sT (h 4) sB (h 3) sP _ z1 f1) kc_X11_count ml_L_185 rfl rfl (by decide) (flP hP [0, 3, 2] rfl) (flD hD [0, 3, 2] (by decide) rfl) hS (va_recv hK (flP (gc := [g11 q o (h 0) (h 1 0) sT]) hP [0] rfl) (ci := 11) (q0 := 0) rfl rfl) rfl hl.1 rfl (Nat.le_of_ble_eq_true rfl) dL_law_1289 hf0) hP hD hS [0, 3, 2] [1, 4, 5, 6, 7, 8, 9, 10, 11, 12, 13, 14, 15, 16, 17, 18, 19, 20, 21, 22, 23] [g5 q (h 0 1) (h 2) (h 1 0) sR, g8 q (h 0 4) (h 5) sX, g7 q (h 0 5) (h 6) sN, g7 q (h 0 6) (h 7) sY, g0 q (h 0 7) (h 8) sG, g2 q (h 0 8) (h 9) sH, g20 q (h 9 1) (h 10) (fun i => h (11 + i)) sK, g21 q (h 0 9) (h 20) sJR, g3 q (h 20 0) (h 21) s0, g8 q (h 21 1) (h 22) sb0, g7 q (h 21 2) (h 23) sn0, g3 q (h 20 1) (h 24) s1, g8 q (h 24 1) (h 25) sb1, g7 q (h 24 2) (h 26) sn1, g6 q (h 0 10) (h 27) sW, g4 q (h 0 11) (h 28) sQ, g10 q (h 0 12) (h 29) sE, g1 q (h 0 13) (h 30) sD, g9 q (h 0 14) (h 31) 96 sL, g12 q om hm sM, [(oo, .inl (q 2, 1, .inr (.inl fo)))]] 24 (by decide) rfl rfl rfl rfl rfl rfl GW_ad (fun H locs hP hD hS => ?_)
  refine lv_aload_n hx hb dL_law_1292 rfl (lv_at hl 2 rfl) ?_
  refine lv_aload_n hx hb dL_law_1293 rfl (lv_at hl 0 rfl) ?_
  refine lv_iload hx hb dL_law_1294 (lv_at hl 4 rfl) ?_
  refine lv_iconst (v := nI 1) hx hb dL_law_1296 (by decide) ?_
  refine lv_iadd hx hb dL_law_1297 ?_
  refine va_sld hx hb hX hbl hbA hS (lw_in (k := 1) (by omega) hL) dL_law_1298 ?_
  refine k_rni e1 ?_
  refine k_igrpC (gs8 := GW q o om oo h hm sT sR sP sB sX sN sY sG sH sK sJR s0 sb0 sn0 s1 sb1 sn1 sW sQ sE sD sL (sI sM 0 (nI 0)) fo) C (k_rV (As := [.int z1]) (rest := [.int r]) C (c_X12_count l D q om hm sM _ z1 f2) kc_X12_count ml_L_188 rfl rfl (by decide) (flP hP [22] rfl) (flD hD [22] (by decide) rfl) hS (va_recv hK (flP (gc := [g12 q om hm sM]) hP [22] rfl) (ci := 12) (q0 := 0) rfl rfl) rfl hl.1 rfl (Nat.le_of_ble_eq_true rfl) dL_law_1299 hf0) hP hD hS [22] [0, 1, 2, 3, 4, 5, 6, 7, 8, 9, 10, 11, 12, 13, 14, 15, 16, 17, 18, 19, 20, 21, 23] [g11 q o (h 0) (h 1 0) sT, g5 q (h 0 1) (h 2) (h 1 0) sR, g9 q (h 1 0) (h 3) 940 sP, g8 q (h 0 3) (h 4) sB, g8 q (h 0 4) (h 5) sX, g7 q (h 0 5) (h 6) sN, g7 q (h 0 6) (h 7) sY, g0 q (h 0 7) (h 8) sG, g2 q (h 0 8) (h 9) sH, g20 q (h 9 1) (h 10) (fun i => h (11 + i)) sK, g21 q (h 0 9) (h 20) sJR, g3 q (h 20 0) (h 21) s0, g8 q (h 21 1) (h 22) sb0, g7 q (h 21 2) (h 23) sn0, g3 q (h 20 1) (h 24) s1, g8 q (h 24 1) (h 25) sb1, g7 q (h 24 2) (h 26) sn1, g6 q (h 0 10) (h 27) sW, g4 q (h 0 11) (h 28) sQ, g10 q (h 0 12) (h 29) sE, g1 q (h 0 13) (h 30) sD, g9 q (h 0 14) (h 31) 96 sL, [(oo, .inl (q 2, 1, .inr (.inl fo)))]] 24 (by decide) rfl rfl rfl rfl rfl rfl GW_ad (fun H locs hP hD hS => ?_)
  refine lv_icmp_eq (tgt := 1307) hx hb dL_law_1302 (by decide) (fun _ => ?_) (fun c9 => absurd rfl c9)
  refine W.widen (k := cells + 1) (n := slots + 6) (by omega) (by omega) ?_
  exact kk sT sR sP sB sX sN sY sG sH sK sJR s0 sb0 sn0 s1 sb1 sn1 sW sQ sE sD sL (sI sM 0 (nI 0)) fo V (rel_0 hrel (nI 0)) H locs ls hP hD hS hl
end LW3
