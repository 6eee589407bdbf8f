abbrev rm_X2_open : Room := ({ frames := 2, cells := 0, slots := 0, locals := 101 } : Room)
def F_X2_open (S0 : St) (S1 : KSt) (S2 : St) : Option (KSt) := if oob (S0.1 1) 9 then none else nw (va_up S1 ((S0.1 1).toNatClampNeg) S2) fun U2 => some (U2)
set_option maxRecDepth 100000 in
set_option maxHeartbeats 4000000 in
theorem c_X2_open (l : Launch) (D : va_G) (q : Nat → ClassId) (o0 : Nat) (a0 : Nat → Nat) (S0 : St) (a1 : Nat → Nat) (b1 : Nat → Nat → Nat) (S1 : KSt) (o2 : Nat) (a2 : Nat → Nat) (S2 : St) (sz : Nat) {T1 : KSt} (hF : F_X2_open S0 S1 S2 = some (T1)) : Met l yX2_open (Cond.code yX2_open cX2_open 2 none :: TB) rm_X2_open (PC D q [.ref o0, .ref o2] (fl [g2 q o0 a0 S0, g20 q (a0 1) a1 b1 S1, g8 q o2 a2 S2]) sz) ((fun A => QV D A (fl [g2 q o0 a0 S0, g20 q (a0 1) a1 b1 T1, g8 q o2 a2 S2])) (va_A (fl [g2 q o0 a0 S0, g20 q (a0 1) a1 b1 S1, g8 q o2 a2 S2]) sz)) 0 0 (va_A (fl [g2 q o0 a0 S0, g20 q (a0 1) a1 b1 S1, g8 q o2 a2 S2]) sz) := by
  refine k_met (w0 := fl [g2 q o0 a0 S0, g20 q (a0 1) a1 b1 S1, g8 q o2 a2 S2]) (Q := fun A => QV D A (fl [g2 q o0 a0 S0, g20 q (a0 1) a1 b1 T1, g8 q o2 a2 S2])) (by decide +kernel) (Nat.le_of_ble_eq_true rfl) ?_
  intro p e s m args below meth c A ls C hP hD hS hl
  have hl : lv_has ls 2 [(0, .ref o0), (1, .ref o2)] := hl
  unfold F_X2_open at hF
  have C : cx p s m args meth c cX2_open 2 none RX2 D q A := C
  obtain ⟨hx, hb, hr, hml, hown, hts, hlk, hA, hK, hN, hV⟩ := id C
  refine lv_aload_n hx hb dX2_open_0 rfl (lv_at hl 0 rfl) ?_
  refine k_get (v := .ref (a0 1)) C fg_X2_11 hP 0 rfl rfl dX2_open_1 ?_
  refine lv_aload_n hx hb dX2_open_4 rfl (lv_at hl 0 rfl) ?_
  refine k_get (v := .int (S0.1 1)) C fg_X2_18 hP 0 rfl rfl dX2_open_5 ?_
  obtain ⟨h1, hF⟩ := op_ck hF
  refine k_rld (t0 := 5) (a := a1) C hP 1 rfl rfl h1 dX2_open_8 ?_
  refine lv_aload_n hx hb dX2_open_9 rfl (lv_at hl 1 rfl) ?_
  obtain ⟨U2, e3, hF⟩ := nw_s hF
  refine k_vgrp (gs8 := [g2 q o0 a0 S0, g20 q (a0 1) a1 b1 U2, g8 q o2 a2 S2]) C (k_rV (As := [.ref o2]) (rest := []) C (c_X8_copyR l D q (a0 1) a1 b1 S1 o2 a2 S2 _ ((S0.1 1).toNatClampNeg) (oob_lt h1) e3) kc_X8_copyFrom ml_X2_25 rfl rfl (by decide) (flP hP [1, 2] rfl) (flD hD [1, 2] (by decide) rfl) hS (rec20 hK (flP hP [1] rfl) (oob_lt h1)) rfl hl.1 rfl (Nat.le_of_ble_eq_true rfl) dX2_open_10 (by decide)) hP hD hS [1, 2] [0] [g2 q o0 a0 S0] 3 (by decide) rfl rfl rfl rfl rfl rfl (by simp only [List.map_cons, List.map_nil, gad2, gad20, gad8]) (fun H locs hP hD hS => ?_)
  cases hF
  exact k_vret C hP hS dX2_open_13

abbrev rm_X2_stepBack : Room := ({ frames := 1, cells := 0, slots := 0, locals := 21 } : Room)
def F_X2_stepBack_19 (s1 : Int32) (S0 : St) (S1 : KSt) : Option (Int32 × St) := nw (sI S0 1 s1) fun U1 => nw (sI U1 2 (if ((U1.1 2) - (1 : Int32)) < (0 : Int32) then (0 : Int32) else ((U1.1 2) - (1 : Int32)))) fun U3 => if oob (U3.1 1) 9 then none else some ((U3.1 1), U3)
def F_X2_stepBack (S0 : St) (S1 : KSt) : Option (Int32 × St) := if (S0.1 1) = 0 then (F_X2_stepBack_19 (8 : Int32) S0 S1) else (F_X2_stepBack_19 ((S0.1 1) - (1 : Int32)) S0 S1)
set_option maxRecDepth 100000 in
set_option maxHeartbeats 4000000 in
theorem b_X2_stepBack_19 {p : Program} {l : Launch} {e : Env} {s : State} {m : MethodId} {args : Array Value} {below : List Frame} {meth : Method} {c : Code} {D : va_G} {q : Nat → ClassId} {A : Nat → Prop} {o0 : Nat} {a0 : Nat → Nat} {a1 : Nat → Nat} {b1 : Nat → Nat → Nat} {r : Int32} {T0 : St} (C : cx p s m args meth c cX2_stepBack 1 (some (.object RX8)) RX2 D q A) {s1 : Int32} {S0 : St} {S1 : KSt} (hF : F_X2_stepBack_19 s1 S0 S1 = some (r, T0)) {H : Heap} {locs : List Loc} (hP : va_P D vwCl (fl [g2 q o0 a0 S0, g20 q (a0 1) a1 b1 S1]) H) (hD : va_D A (fl [g2 q o0 a0 S0, g20 q (a0 1) a1 b1 S1])) (hS : va_S A s.heap H locs) {ls : Array Slot} (hl : lv_has ls 1 [(0, .ref o0)]) : W p l e rm_X2_stepBack s m args below meth c H locs 0 0 (MQ below (QE D A (a1 r.toNatClampNeg) (fl [g2 q o0 a0 T0, g20 q (a0 1) a1 b1 S1])) args s 0 0 A) (F0 m 19 ls [.int s1, .ref o0]) := by
  unfold F_X2_stepBack_19 at hF
  obtain ⟨hx, hb, hr, hml, hown, hts, hlk, hA, hK, hN, hV⟩ := id C
  obtain ⟨U1, e2, hF⟩ := nw_s hF
  refine k_put (W8 := fl [g2 q o0 a0 U1, g20 q (a0 1) a1 b1 S1]) C fp_X2_18 hP hD hS 0 rfl rfl rfl (Nat.le_of_ble_eq_true rfl) dX2_stepBack_19 (by rw [e2]; rfl) (fun H locs hP hD hS => ?_)
  refine lv_aload_n hx hb dX2_stepBack_22 rfl (lv_at hl 0 rfl) ?_
  refine lv_aload_n hx hb dX2_stepBack_23 rfl (lv_at hl 0 rfl) ?_
  refine k_get (v := .int (U1.1 2)) C fg_X2_22 hP 0 rfl rfl dX2_stepBack_24 ?_
  refine lv_iconst (v := (1 : Int32)) hx hb dX2_stepBack_27 (by decide) ?_
  refine lv_isub hx hb dX2_stepBack_28 ?_
  refine lv_iconst (v := (0 : Int32)) hx hb dX2_stepBack_29 (by decide) ?_
  refine k_max C ml_X2_35 kmath_max hl.1 ⟨Nat.le_of_ble_eq_true rfl, Nat.le_of_ble_eq_true rfl⟩ (by decide) dX2_stepBack_30 ?_
  obtain ⟨U3, e4, hF⟩ := nw_s hF
  refine k_put (W8 := fl [g2 q o0 a0 U3, g20 q (a0 1) a1 b1 S1]) C fp_X2_22 hP hD hS 0 rfl rfl rfl (Nat.le_of_ble_eq_true rfl) dX2_stepBack_33 (by rw [e4]; rfl) (fun H locs hP hD hS => ?_)
  refine lv_aload_n hx hb dX2_stepBack_36 rfl (lv_at hl 0 rfl) ?_
  refine k_get (v := .ref (a0 1)) C fg_X2_11 hP 0 rfl rfl dX2_stepBack_37 ?_
  refine lv_aload_n hx hb dX2_stepBack_40 rfl (lv_at hl 0 rfl) ?_
  refine k_get (v := .int (U3.1 1)) C fg_X2_18 hP 0 rfl rfl dX2_stepBack_41 ?_
  obtain ⟨h5, hF⟩ := op_ck hF
  refine k_rld (t0 := 5) (a := a1) C hP 1 rfl rfl h5 dX2_stepBack_44 ?_
  cases hF
  exact k_eret C hP hS dX2_stepBack_45
set_option maxRecDepth 100000 in
set_option maxHeartbeats 4000000 in
theorem c_X2_stepBack (l : Launch) (D : va_G) (q : Nat → ClassId) (o0 : Nat) (a0 : Nat → Nat) (S0 : St) (a1 : Nat → Nat) (b1 : Nat → Nat → Nat) (S1 : KSt) (sz : Nat) {r : Int32} {T0 : St} (hF : F_X2_stepBack S0 S1 = some (r, T0)) : Met l yX2_stepBack (Cond.code yX2_stepBack cX2_stepBack 1 (some (.object RX8)) :: TB) rm_X2_stepBack (PC D q [.ref o0] (fl [g2 q o0 a0 S0, g20 q (a0 1) a1 b1 S1]) sz) ((fun A => QE D A (a1 r.toNatClampNeg) (fl [g2 q o0 a0 T0, g20 q (a0 1) a1 b1 S1])) (va_A (fl [g2 q o0 a0 S0, g20 q (a0 1) a1 b1 S1]) sz)) 0 0 (va_A (fl [g2 q o0 a0 S0, g20 q (a0 1) a1 b1 S1]) sz) := by
  refine k_met (w0 := fl [g2 q o0 a0 S0, g20 q (a0 1) a1 b1 S1]) (Q := fun A => QE D A (a1 r.toNatClampNeg) (fl [g2 q o0 a0 T0, g20 q (a0 1) a1 b1 S1])) (by decide +kernel) (Nat.le_of_ble_eq_true rfl) ?_
  intro p e s m args below meth c A ls C hP hD hS hl
  have hl : lv_has ls 1 [(0, .ref o0)] := hl
  unfold F_X2_stepBack at hF
  have C : cx p s m args meth c cX2_stepBack 1 (some (.object RX8)) RX2 D q A := C
  obtain ⟨hx, hb, hr, hml, hown, hts, hlk, hA, hK, hN, hV⟩ := id C
  refine lv_aload_n hx hb dX2_stepBack_0 rfl (lv_at hl 0 rfl) ?_
  refine lv_aload_n hx hb dX2_stepBack_1 rfl (lv_at hl 0 rfl) ?_
  refine k_get (v := .int (S0.1 1)) C fg_X2_18 hP 0 rfl rfl dX2_stepBack_2 ?_
  refine lv_if_ne (tgt := 13) hx hb dX2_stepBack_5 (by decide) (fun c1 => ?_) (fun c1 => ?_)
  · have hF := op_f hF c1
    refine lv_aload_n hx hb dX2_stepBack_13 rfl (lv_at hl 0 rfl) ?_
    refine k_get (v := .int (S0.1 1)) C fg_X2_18 hP 0 rfl rfl dX2_stepBack_14 ?_
    refine lv_iconst (v := (1 : Int32)) hx hb dX2_stepBack_17 (by decide) ?_
    refine lv_isub hx hb dX2_stepBack_18 ?_
    exact b_X2_stepBack_19 C hF hP hD hS (lv_sub hl [0] rfl)
  · have hF := op_t hF c1
    refine lv_bipush (v := (8 : Int32)) hx hb dX2_stepBack_8 (by decide) ?_
    refine lv_goto (tgt := 19) hx hb dX2_stepBack_10 (by decide) ?_
    exact b_X2_stepBack_19 C hF hP hD hS (lv_sub hl [0] rfl)

abbrev rm_X11_suburb : Room := ({ frames := 6, cells := 0, slots := 0, locals := 134 } : Room)
def F_X11_suburb (S0 : St) (S1 : St) (S2 : St) (S3 : St) (S4 : St) (S5 : St) (S6 : St) : Option (Int32 × St × St × St × St × St × St × St) := ob3 (F_X8_readFrom S4 S2 S6) fun r2 U3 U4 => ob2 (F_X11_closeText S0 U4 S6) fun U6 U7 => if r2 = (-1 : Int32) then (some (((-1 : Int32) - (U4.1 9)), U6, S1, U4, S3, U3, S5, U7)) else (ob1 (F_X8_copyN S5 U3) fun U10 => ob1 (F_X7_empty S3) fun U12 => ob1 (F_X2_forget S1) fun U14 => some (r2, U6, U14, U4, U12, U3, U10, U7))
set_option maxRecDepth 100000 in
set_option maxHeartbeats 4000000 in
theorem c_X11_suburb (l : Launch) (D : va_G) (q : Nat → ClassId) (tp : Nat) (o0 : Nat) (a0 : Nat → Nat) (S0 : St) (a1 : Nat → Nat) (S1 : St) (a2 : Nat → Nat) (S2 : St) (a3 : Nat → Nat) (S3 : St) (a4 : Nat → Nat) (S4 : St) (a5 : Nat → Nat) (S5 : St) (a6 : Nat → Nat) (S6 : St) (sz : Nat) {r : Int32} {T0 : St} {T1 : St} {T2 : St} {T3 : St} {T4 : St} {T5 : St} {T6 : St} (hF : F_X11_suburb S0 S1 S2 S3 S4 S5 S6 = some (r, T0, T1, T2, T3, T4, T5, T6)) : Met l yX11_suburb (Cond.code yX11_suburb cX11_suburb 2 (some .int) :: TB) rm_X11_suburb (PC D q [.ref o0] (fl [g11 q o0 a0 tp S0, g2 q (a0 8) a1 S1, g5 q (a0 1) a2 tp S2, g7 q (a0 5) a3 S3, g8 q (a0 4) a4 S4, g8 q (a0 3) a5 S5, g9 q tp a6 940 S6]) sz) ((fun A => QI D A r (fl [g11 q o0 a0 tp T0, g2 q (a0 8) a1 T1, g5 q (a0 1) a2 tp T2, g7 q (a0 5) a3 T3, g8 q (a0 4) a4 T4, g8 q (a0 3) a5 T5, g9 q tp a6 940 T6])) (va_A (fl [g11 q o0 a0 tp S0, g2 q (a0 8) a1 S1, g5 q (a0 1) a2 tp S2, g7 q (a0 5) a3 S3, g8 q (a0 4) a4 S4, g8 q (a0 3) a5 S5, g9 q tp a6 940 S6]) sz)) 0 0 (va_A (fl [g11 q o0 a0 tp S0, g2 q (a0 8) a1 S1, g5 q (a0 1) a2 tp S2, g7 q (a0 5) a3 S3, g8 q (a0 4) a4 S4, g8 q (a0 3) a5 S5, g9 q tp a6 940 S6]) sz) := by
  refine k_met (w0 := fl [g11 q o0 a0 tp S0, g2 q (a0 8) a1 S1, g5 q (a0 1) a2 tp S2, g7 q (a0 5) a3 S3, g8 q (a0 4) a4 S4, g8 q (a0 3) a5 S5, g9 q tp a6 940 S6]) (Q := fun A => QI D A r (fl [g11 q o0 a0 tp T0, g2 q (a0 8) a1 T1, g5 q (a0 1) a2 tp T2, g7 q (a0 5) a3 T3, g8 q (a0 4) a4 T4, g8 q (a0 3) a5 T5, g9 q tp a6 940 T6])) (by decide +kernel) (Nat.le_of_ble_eq_true rfl) ?_
  intro p e s m args below meth c A ls C hP hD hS hl
  have hl : lv_has ls 2 [(0, .ref o0)] := hl
  unfold F_X11_suburb at hF
  have C : cx p s m args meth c cX11_suburb 2 (some .int) RX11 D q A := C
  obtain ⟨hx, hb, hr, hml, hown, hts, hlk, hA, hK, hN, hV⟩ := id C
  refine lv_aload_n hx hb dX11_suburb_0 rfl (lv_at hl 0 rfl) ?_
  refine k_get (v := .ref (a0 4)) C fg_X11_30 hP 0 rfl rfl dX11_suburb_1 ?_
  refine lv_aload_n hx hb dX11_suburb_4 rfl (lv_at hl 0 rfl) ?_
  refine k_get (v := .ref (a0 1)) C fg_X11_10 hP 0 rfl rfl dX11_suburb_5 ?_
  obtain ⟨r2, U3, U4, hc1, hF⟩ := ob3_s hF
  refine k_igrp (gs8 := [g11 q o0 a0 tp S0, g2 q (a0 8) a1 S1, g5 q (a0 1) a2 tp U4, g7 q (a0 5) a3 S3, g8 q (a0 4) a4 U3, g8 q (a0 3) a5 S5, g9 q tp a6 940 S6]) C (k_rV (As := [.ref (a0 1)]) (rest := []) C (c_X8_readFrom l D q tp (a0 4) a4 S4 (a0 1) a2 S2 a6 S6 _ hc1) kc_X8_readFrom ml_X11_117 rfl rfl (by decide) (flP hP [4, 2, 6] rfl) (flD hD [4, 2, 6] (by decide) rfl) hS (va_recv hK hP (ci := 8) (q0 := 12) rfl rfl) rfl hl.1 rfl (Nat.le_of_ble_eq_true rfl) dX11_suburb_8 (by decide)) hP hD hS [4, 2, 6] [0, 1, 3, 5] [g11 q o0 a0 tp S0, g2 q (a0 8) a1 S1, g7 q (a0 5) a3 S3, g8 q (a0 3) a5 S5] 7 (by decide) rfl rfl rfl rfl rfl rfl (by simp only [List.map_cons, List.map_nil, gad11, gad2, gad5, gad7, gad8, gad9]) (fun H locs hP hD hS => ?_)
  refine lv_istore_n (lv' := [(1, .int r2), (0, .ref o0)]) hx hb dX11_suburb_11 rfl hl (by decide) rfl (fun ls hl => ?_)
  refine lv_aload_n hx hb dX11_suburb_12 rfl (lv_at hl 1 rfl) ?_
  obtain ⟨U6, U7, hc5, hF⟩ := ob2_s hF
  refine k_vgrp (gs8 := [g11 q o0 a0 tp U6, g2 q (a0 8) a1 S1, g5 q (a0 1) a2 tp U4, g7 q (a0 5) a3 S3, g8 q (a0 4) a4 U3, g8 q (a0 3) a5 S5, g9 q tp a6 940 U7]) C (k_rV (As := []) (rest := []) C (c_X11_closeText l D q tp o0 a0 S0 a2 U4 a6 S6 _ hc5) kc_X11_closeText ml_X11_121 rfl rfl (by decide) (flP hP [0, 2, 6] rfl) (flD hD [0, 2, 6] (by decide) rfl) hS (va_recv hK hP (ci := 11) (q0 := 0) rfl rfl) rfl hl.1 rfl (Nat.le_of_ble_eq_true rfl) dX11_suburb_13 (by decide)) hP hD hS [0, 2, 6] [1, 3, 4, 5] [g2 q (a0 8) a1 S1, g7 q (a0 5) a3 S3, g8 q (a0 4) a4 U3, g8 q (a0 3) a5 S5] 7 (by decide) rfl rfl rfl rfl rfl rfl (by simp only [List.map_cons, List.map_nil, gad11, gad2, gad5, gad7, gad8, gad9]) (fun H locs hP hD hS => ?_)
  refine lv_iload_n hx hb dX11_suburb_16 rfl (lv_at hl 0 rfl) ?_
  refine lv_iconst (v := (-1 : Int32)) hx hb dX11_suburb_17 (by decide) ?_
  refine lv_icmp_ne (tgt := 31) hx hb dX11_suburb_18 (by decide) (fun c8 => ?_) (fun c8 => ?_)
  · have hF := op_f hF c8
    refine lv_aload_n hx hb dX11_suburb_31 rfl (lv_at hl 1 rfl) ?_
    refine k_get (v := .ref (a0 3)) C fg_X11_26 hP 0 rfl rfl dX11_suburb_32 ?_
    refine lv_aload_n hx hb dX11_suburb_35 rfl (lv_at hl 1 rfl) ?_
    refine k_get (v := .ref (a0 4)) C fg_X11_30 hP 0 rfl rfl dX11_suburb_36 ?_
    obtain ⟨U10, hc9, hF⟩ := ob1_s hF
    refine k_vgrp (gs8 := [g11 q o0 a0 tp U6, g2 q (a0 8) a1 S1, g5 q (a0 1) a2 tp U4, g7 q (a0 5) a3 S3, g8 q (a0 4) a4 U3, g8 q (a0 3) a5 U10, g9 q tp a6 940 U7]) C (k_rV (As := [.ref (a0 4)]) (rest := []) C (c_X8_copyN l D q (a0 3) a5 S5 (a0 4) a4 U3 _ hc9) kc_X8_copyFrom ml_X11_127 rfl rfl (by decide) (flP hP [5, 4] rfl) (flD hD [5, 4] (by decide) rfl) hS (va_recv hK hP (ci := 8) (q0 := 23) rfl rfl) rfl hl.1 rfl (Nat.le_of_ble_eq_true rfl) dX11_suburb_39 (by decide)) hP hD hS [5, 4] [0, 1, 2, 3, 6] [g11 q o0 a0 tp U6, g2 q (a0 8) a1 S1, g5 q (a0 1) a2 tp U4, g7 q (a0 5) a3 S3, g9 q tp a6 940 U7] 7 (by decide) rfl rfl rfl rfl rfl rfl (by simp only [List.map_cons, List.map_nil, gad11, gad2, gad5, gad7, gad8, gad9]) (fun H locs hP hD hS => ?_)
    refine lv_aload_n hx hb dX11_suburb_42 rfl (lv_at hl 1 rfl) ?_
    refine k_get (v := .ref (a0 5)) C fg_X11_36 hP 0 rfl rfl dX11_suburb_43 ?_
    obtain ⟨U12, hc11, hF⟩ := ob1_s hF
    refine k_vgrp (gs8 := [g11 q o0 a0 tp U6, g2 q (a0 8) a1 S1, g5 q (a0 1) a2 tp U4, g7 q (a0 5) a3 U12, g8 q (a0 4) a4 U3, g8 q (a0 3) a5 U10, g9 q tp a6 940 U7]) C (k_rV (As := []) (rest := []) C (c_X7_empty l D q (a0 5) a3 S3 _ hc11) kc_X7_empty ml_X11_131 rfl rfl (by decide) (flP hP [3] rfl) (flD hD [3] (by decide) rfl) hS (va_recv hK hP (ci := 7) (q0 := 8) rfl rfl) rfl hl.1 rfl (Nat.le_of_ble_eq_true rfl) dX11_suburb_46 (by decide)) hP hD hS [3] [0, 1, 2, 4, 5, 6] [g11 q o0 a0 tp U6, g2 q (a0 8) a1 S1, g5 q (a0 1) a2 tp U4, g8 q (a0 4) a4 U3, g8 q (a0 3) a5 U10, g9 q tp a6 940 U7] 7 (by decide) rfl rfl rfl rfl rfl rfl (by simp only [List.map_cons, List.map_nil, gad11, gad2, gad5, gad7, gad8, gad9]) (fun H locs hP hD hS => ?_)
    refine lv_aload_n hx hb dX11_suburb_49 rfl (lv_at hl 1 rfl) ?_
    refine k_get (v := .ref (a0 8)) C fg_X11_53 hP 0 rfl rfl dX11_suburb_50 ?_
    obtain ⟨U14, hc13, hF⟩ := ob1_s hF
    refine k_vgrp (gs8 := [g11 q o0 a0 tp U6, g2 q (a0 8) a1 U14, g5 q (a0 1) a2 tp U4, g7 q (a0 5) a3 U12, g8 q (a0 4) a4 U3, g8 q (a0 3) a5 U10, g9 q tp a6 940 U7]) C (k_rV (As := []) (rest := []) C (c_X2_forget l D q (a0 8) a1 S1 _ hc13) kc_X2_forget ml_X11_134 rfl rfl (by decide) (flP hP [1] rfl) (flD hD [1] (by decide) rfl) hS (va_recv hK hP (ci := 2) (q0 := 2) rfl rfl) rfl hl.1 rfl (Nat.le_of_ble_eq_true rfl) dX11_suburb_53 (by decide)) hP hD hS [1] [0, 2, 3, 4, 5, 6] [g11 q o0 a0 tp U6, g5 q (a0 1) a2 tp U4, g7 q (a0 5) a3 U12, g8 q (a0 4) a4 U3, g8 q (a0 3) a5 U10, g9 q tp a6 940 U7] 7 (by decide) rfl rfl rfl rfl rfl rfl (by simp only [List.map_cons, List.map_nil, gad11, gad2, gad5, gad7, gad8, gad9]) (fun H locs hP hD hS => ?_)
    refine lv_iload_n hx hb dX11_suburb_56 rfl (lv_at hl 0 rfl) ?_
    cases hF
    exact k_iret C hP hS dX11_suburb_57
  · have hF := op_t hF c8
    refine lv_iconst (v := (-1 : Int32)) hx hb dX11_suburb_21 (by decide) ?_
    refine lv_aload_n hx hb dX11_suburb_22 rfl (lv_at hl 1 rfl) ?_
    refine k_get (v := .ref (a0 1)) C fg_X11_10 hP 0 rfl rfl dX11_suburb_23 ?_
    refine k_get (v := .int (U4.1 9)) C fg_X11_124 hP 3 rfl rfl dX11_suburb_26 ?_
    refine lv_isub hx hb dX11_suburb_29 ?_
    generalize ((-1 : Int32) - (U4.1 9)) = rr at hF ⊢
    cases hF
    exact k_iret C hP hS dX11_suburb_30

abbrev rm_X11_climb : Room := ({ frames := 4, cells := 0, slots := 0, locals := 122 } : Room)
def F_X11_climb (S0 : St) (S1 : St) (S2 : KSt) (S3 : St) (x1 : Int32) (x2 : Int32) : Option (Int32 × St × KSt × St) := ob1 (F_X8_hasPerson S3 x1) fun r2 => if r2 = 0 then (some ((-1 : Int32), S1, S2, S3)) else (ob1 (F_X8_hasTurret S3 x2) fun r5 => if r5 = 0 then (some ((-1 : Int32), S1, S2, S3)) else (ob1 (F_X2_open S1 S2 S3) fun U8 => ob2 (F_X8_goUp S3 x1 x2) fun r10 U11 => ob2 (F_X11_settle S0 S1 r10) fun r13 U14 => some (r13, U14, U8, U11)))
set_option maxRecDepth 100000 in
set_option maxHeartbeats 4000000 in
theorem c_X11_climb (l : Launch) (D : va_G) (q : Nat → ClassId) (tp : Nat) (o0 : Nat) (a0 : Nat → Nat) (S0 : St) (a1 : Nat → Nat) (S1 : St) (a2 : Nat → Nat) (b2 : Nat → Nat → Nat) (S2 : KSt) (a3 : Nat → Nat) (S3 : St) (sz : Nat) (x1 : Int32) (x2 : Int32) {r : Int32} {T1 : St} {T2 : KSt} {T3 : St} (hF : F_X11_climb S0 S1 S2 S3 x1 x2 = some (r, T1, T2, T3)) : Met l yX11_climb (Cond.code yX11_climb cX11_climb 3 (some .int) :: TB) rm_X11_climb (PC D q [.ref o0, .int x1, .int x2] (fl [g11 q o0 a0 tp S0, g2 q (a0 8) a1 S1, g20 q (a1 1) a2 b2 S2, g8 q (a0 3) a3 S3]) sz) ((fun A => QI D A r (fl [g11 q o0 a0 tp S0, g2 q (a0 8) a1 T1, g20 q (a1 1) a2 b2 T2, g8 q (a0 3) a3 T3])) (va_A (fl [g11 q o0 a0 tp S0, g2 q (a0 8) a1 S1, g20 q (a1 1) a2 b2 S2, g8 q (a0 3) a3 S3]) sz)) 0 0 (va_A (fl [g11 q o0 a0 tp S0, g2 q (a0 8) a1 S1, g20 q (a1 1) a2 b2 S2, g8 q (a0 3) a3 S3]) sz) := by
  refine k_met (w0 := fl [g11 q o0 a0 tp S0, g2 q (a0 8) a1 S1, g20 q (a1 1) a2 b2 S2, g8 q (a0 3) a3 S3]) (Q := fun A => QI D A r (fl [g11 q o0 a0 tp S0, g2 q (a0 8) a1 T1, g20 q (a1 1) a2 b2 T2, g8 q (a0 3) a3 T3])) (by decide +kernel) (Nat.le_of_ble_eq_true rfl) ?_
  intro p e s m args below meth c A ls C hP hD hS hl
  have hl : lv_has ls 3 [(0, .ref o0), (1, .int x1), (2, .int x2)] := hl
  unfold F_X11_climb at hF
  have C : cx p s m args meth c cX11_climb 3 (some .int) RX11 D q A := C
  obtain ⟨hx, hb, hr, hml, hown, hts, hlk, hA, hK, hN, hV⟩ := id C
  refine lv_aload_n hx hb dX11_climb_0 rfl (lv_at hl 0 rfl) ?_
  refine k_get (v := .ref (a0 3)) C fg_X11_26 hP 0 rfl rfl dX11_climb_1 ?_
  refine lv_iload_n hx hb dX11_climb_4 rfl (lv_at hl 1 rfl) ?_
  obtain ⟨r2, hc1, hF⟩ := ob1_s hF
  refine k_iro C (k_rV (As := [.int x1]) (rest := []) C (c_X8_hasPerson l D q (a0 3) a3 S3 _ x1 hc1) kc_X8_hasPerson ml_X11_137 rfl rfl (by decide) (flP hP [3] rfl) (flD hD [3] (by decide) rfl) hS (va_recv hK hP (ci := 8) (q0 := 103) rfl rfl) rfl hl.1 rfl (Nat.le_of_ble_eq_true rfl) dX11_climb_5 (by decide)) hP hD hS [3] [0, 1, 2] [g11 q o0 a0 tp S0, g2 q (a0 8) a1 S1, g20 q (a1 1) a2 b2 S2] 4 (by decide) rfl rfl rfl rfl (fun H locs hP hD hS => ?_)
  refine lv_if_eq (tgt := 22) hx hb dX11_climb_8 (by decide) (fun c3 => ?_) (fun c3 => ?_)
  · have hF := op_t hF c3
    refine lv_iconst (v := (-1 : Int32)) hx hb dX11_climb_22 (by decide) ?_
    cases hF
    exact k_iret C hP hS dX11_climb_23
  · have hF := op_f hF c3
    refine lv_aload_n hx hb dX11_climb_11 rfl (lv_at hl 0 rfl) ?_
    refine k_get (v := .ref (a0 3)) C fg_X11_26 hP 0 rfl rfl dX11_climb_12 ?_
    refine lv_iload_n hx hb dX11_climb_15 rfl (lv_at hl 2 rfl) ?_
    obtain ⟨r5, hc4, hF⟩ := ob1_s hF
    refine k_iro C (k_rV (As := [.int x2]) (rest := []) C (c_X8_hasTurret l D q (a0 3) a3 S3 _ x2 hc4) kc_X8_hasTurret ml_X11_172 rfl rfl (by decide) (flP hP [3] rfl) (flD hD [3] (by decide) rfl) hS (va_recv hK hP (ci := 8) (q0 := 103) rfl rfl) rfl hl.1 rfl (Nat.le_of_ble_eq_true rfl) dX11_climb_16 (by decide)) hP hD hS [3] [0, 1, 2] [g11 q o0 a0 tp S0, g2 q (a0 8) a1 S1, g20 q (a1 1) a2 b2 S2] 4 (by decide) rfl rfl rfl rfl (fun H locs hP hD hS => ?_)
    refine lv_if_ne (tgt := 24) hx hb dX11_climb_19 (by decide) (fun c6 => ?_) (fun c6 => ?_)
    · have hF := op_f hF c6
      refine lv_aload_n hx hb dX11_climb_24 rfl (lv_at hl 0 rfl) ?_
      refine k_get (v := .ref (a0 8)) C fg_X11_53 hP 0 rfl rfl dX11_climb_25 ?_
      refine lv_aload_n hx hb dX11_climb_28 rfl (lv_at hl 0 rfl) ?_
      refine k_get (v := .ref (a0 3)) C fg_X11_26 hP 0 rfl rfl dX11_climb_29 ?_
      obtain ⟨U8, hc7, hF⟩ := ob1_s hF
      refine k_vgrp (gs8 := [g11 q o0 a0 tp S0, g2 q (a0 8) a1 S1, g20 q (a1 1) a2 b2 U8, g8 q (a0 3) a3 S3]) C (k_rV (As := [.ref (a0 3)]) (rest := []) C (c_X2_open l D q (a0 8) a1 S1 a2 b2 S2 (a0 3) a3 S3 _ hc7) kc_X2_open ml_X11_222 rfl rfl (by decide) (flP hP [1, 2, 3] rfl) (flD hD [1, 2, 3] (by decide) rfl) hS (va_recv hK hP (ci := 2) (q0 := 2) rfl rfl) rfl hl.1 rfl (Nat.le_of_ble_eq_true rfl) dX11_climb_32 (by decide)) hP hD hS [1, 2, 3] [0] [g11 q o0 a0 tp S0] 4 (by decide) rfl rfl rfl rfl rfl rfl (by simp only [List.map_cons, List.map_nil, gad11, gad2, gad20, gad8]) (fun H locs hP hD hS => ?_)
      refine lv_aload_n hx hb dX11_climb_35 rfl (lv_at hl 0 rfl) ?_
      refine lv_aload_n hx hb dX11_climb_36 rfl (lv_at hl 0 rfl) ?_
      refine k_get (v := .ref (a0 3)) C fg_X11_26 hP 0 rfl rfl dX11_climb_37 ?_
      refine lv_iload_n hx hb dX11_climb_40 rfl (lv_at hl 1 rfl) ?_
      refine lv_iload_n hx hb dX11_climb_41 rfl (lv_at hl 2 rfl) ?_
      obtain ⟨r10, U11, hc9, hF⟩ := ob2_s hF
      refine k_igrp (gs8 := [g11 q o0 a0 tp S0, g2 q (a0 8) a1 S1, g20 q (a1 1) a2 b2 U8, g8 q (a0 3) a3 U11]) C (k_rV (As := [.int x1, .int x2]) (rest := [.ref o0]) C (c_X8_goUp l D q (a0 3) a3 S3 _ x1 x2 hc9) kc_X8_goUp ml_X11_225 rfl rfl (by decide) (flP hP [3] rfl) (flD hD [3] (by decide) rfl) hS (va_recv hK hP (ci := 8) (q0 := 103) rfl rfl) rfl hl.1 rfl (Nat.le_of_ble_eq_true rfl) dX11_climb_42 (by decide)) hP hD hS [3] [0, 1, 2] [g11 q o0 a0 tp S0, g2 q (a0 8) a1 S1, g20 q (a1 1) a2 b2 U8] 4 (by decide) rfl rfl rfl rfl rfl rfl (by simp only [List.map_cons, List.map_nil, gad11, gad2, gad20, gad8]) (fun H locs hP hD hS => ?_)
      obtain ⟨r13, U14, hc12, hF⟩ := ob2_s hF
      refine k_igrp (gs8 := [g11 q o0 a0 tp S0, g2 q (a0 8) a1 U14, g20 q (a1 1) a2 b2 U8, g8 q (a0 3) a3 U11]) C (k_rV (As := [.int r10]) (rest := []) C (c_X11_settle l D q tp o0 a0 S0 a1 S1 _ r10 hc12) kc_X11_settle ml_X11_228 rfl rfl (by decide) (flP hP [0, 1] rfl) (flD hD [0, 1] (by decide) rfl) hS (va_recv hK hP (ci := 11) (q0 := 0) rfl rfl) rfl hl.1 rfl (Nat.le_of_ble_eq_true rfl) dX11_climb_45 (by decide)) hP hD hS [0, 1] [2, 3] [g20 q (a1 1) a2 b2 U8, g8 q (a0 3) a3 U11] 4 (by decide) rfl rfl rfl rfl rfl rfl (by simp only [List.map_cons, List.map_nil, gad11, gad2, gad20, gad8]) (fun H locs hP hD hS => ?_)
      cases hF
      exact k_iret C hP hS dX11_climb_48
    · have hF := op_t hF c6
      refine lv_iconst (v := (-1 : Int32)) hx hb dX11_climb_22 (by decide) ?_
      cases hF
      exact k_iret C hP hS dX11_climb_23

abbrev rm_X11_land : Room := ({ frames := 3, cells := 0, slots := 0, locals := 122 } : Room)
def F_X11_land (S0 : St) (S1 : St) (S2 : KSt) (S3 : St) (x1 : Int32) : Option (Int32 × St × KSt × St) := ob1 (F_X8_hasPerson S3 x1) fun r2 => if r2 = 0 then (some ((-1 : Int32), S1, S2, S3)) else (ob1 (F_X2_open S1 S2 S3) fun U5 => ob2 (F_X8_comeDown S3 x1) fun r7 U8 => ob2 (F_X11_settle S0 S1 r7) fun r10 U11 => some (r10, U11, U5, U8))
set_option maxRecDepth 100000 in
set_option maxHeartbeats 4000000 in
theorem c_X11_land (l : Launch) (D : va_G) (q : Nat → ClassId) (tp : Nat) (o0 : Nat) (a0 : Nat → Nat) (S0 : St) (a1 : Nat → Nat) (S1 : St) (a2 : Nat → Nat) (b2 : Nat → Nat → Nat) (S2 : KSt) (a3 : Nat → Nat) (S3 : St) (sz : Nat) (x1 : Int32) {r : Int32} {T1 : St} {T2 : KSt} {T3 : St} (hF : F_X11_land S0 S1 S2 S3 x1 = some (r, T1, T2, T3)) : Met l yX11_land (Cond.code yX11_land cX11_land 2 (some .int) :: TB) rm_X11_land (PC D q [.ref o0, .int x1] (fl [g11 q o0 a0 tp S0, g2 q (a0 8) a1 S1, g20 q (a1 1) a2 b2 S2, g8 q (a0 3) a3 S3]) sz) ((fun A => QI D A r (fl [g11 q o0 a0 tp S0, g2 q (a0 8) a1 T1, g20 q (a1 1) a2 b2 T2, g8 q (a0 3) a3 T3])) (va_A (fl [g11 q o0 a0 tp S0, g2 q (a0 8) a1 S1, g20 q (a1 1) a2 b2 S2, g8 q (a0 3) a3 S3]) sz)) 0 0 (va_A (fl [g11 q o0 a0 tp S0, g2 q (a0 8) a1 S1, g20 q (a1 1) a2 b2 S2, g8 q (a0 3) a3 S3]) sz) := by
  refine k_met (w0 := fl [g11 q o0 a0 tp S0, g2 q (a0 8) a1 S1, g20 q (a1 1) a2 b2 S2, g8 q (a0 3) a3 S3]) (Q := fun A => QI D A r (fl [g11 q o0 a0 tp S0, g2 q (a0 8) a1 T1, g20 q (a1 1) a2 b2 T2, g8 q (a0 3) a3 T3])) (by decide +kernel) (Nat.le_of_ble_eq_true rfl) ?_
  intro p e s m args below meth c A ls C hP hD hS hl
  have hl : lv_has ls 2 [(0, .ref o0), (1, .int x1)] := hl
  unfold F_X11_land at hF
  have C : cx p s m args meth c cX11_land 2 (some .int) RX11 D q A := C
  obtain ⟨hx, hb, hr, hml, hown, hts, hlk, hA, hK, hN, hV⟩ := id C
  refine lv_aload_n hx hb dX11_land_0 rfl (lv_at hl 0 rfl) ?_
  refine k_get (v := .ref (a0 3)) C fg_X11_26 hP 0 rfl rfl dX11_land_1 ?_
  refine lv_iload_n hx hb dX11_land_4 rfl (lv_at hl 1 rfl) ?_
  obtain ⟨r2, hc1, hF⟩ := ob1_s hF
  refine k_iro C (k_rV (As := [.int x1]) (rest := []) C (c_X8_hasPerson l D q (a0 3) a3 S3 _ x1 hc1) kc_X8_hasPerson ml_X11_137 rfl rfl (by decide) (flP hP [3] rfl) (flD hD [3] (by decide) rfl) hS (va_recv hK hP (ci := 8) (q0 := 103) rfl rfl) rfl hl.1 rfl (Nat.le_of_ble_eq_true rfl) dX11_land_5 (by decide)) hP hD hS [3] [0, 1, 2] [g11 q o0 a0 tp S0, g2 q (a0 8) a1 S1, g20 q (a1 1) a2 b2 S2] 4 (by decide) rfl rfl rfl rfl (fun H locs hP hD hS => ?_)
  refine lv_if_ne (tgt := 13) hx hb dX11_land_8 (by decide) (fun c3 => ?_) (fun c3 => ?_)
  · have hF := op_f hF c3
    refine lv_aload_n hx hb dX11_land_13 rfl (lv_at hl 0 rfl) ?_
    refine k_get (v := .ref (a0 8)) C fg_X11_53 hP 0 rfl rfl dX11_land_14 ?_
    refine lv_aload_n hx hb dX11_land_17 rfl (lv_at hl 0 rfl) ?_
    refine k_get (v := .ref (a0 3)) C fg_X11_26 hP 0 rfl rfl dX11_land_18 ?_
    obtain ⟨U5, hc4, hF⟩ := ob1_s hF
    refine k_vgrp (gs8 := [g11 q o0 a0 tp S0, g2 q (a0 8) a1 S1, g20 q (a1 1) a2 b2 U5, g8 q (a0 3) a3 S3]) C (k_rV (As := [.ref (a0 3)]) (rest := []) C (c_X2_open l D q (a0 8) a1 S1 a2 b2 S2 (a0 3) a3 S3 _ hc4) kc_X2_open ml_X11_222 rfl rfl (by decide) (flP hP [1, 2, 3] rfl) (flD hD [1, 2, 3] (by decide) rfl) hS (va_recv hK hP (ci := 2) (q0 := 2) rfl rfl) rfl hl.1 rfl (Nat.le_of_ble_eq_true rfl) dX11_land_21 (by decide)) hP hD hS [1, 2, 3] [0] [g11 q o0 a0 tp S0] 4 (by decide) rfl rfl rfl rfl rfl rfl (by simp only [List.map_cons, List.map_nil, gad11, gad2, gad20, gad8]) (fun H locs hP hD hS => ?_)
    refine lv_aload_n hx hb dX11_land_24 rfl (lv_at hl 0 rfl) ?_
    refine lv_aload_n hx hb dX11_land_25 rfl (lv_at hl 0 rfl) ?_
    refine k_get (v := .ref (a0 3)) C fg_X11_26 hP 0 rfl rfl dX11_land_26 ?_
    refine lv_iload_n hx hb dX11_land_29 rfl (lv_at hl 1 rfl) ?_
    obtain ⟨r7, U8, hc6, hF⟩ := ob2_s hF
    refine k_igrp (gs8 := [g11 q o0 a0 tp S0, g2 q (a0 8) a1 S1, g20 q (a1 1) a2 b2 U5, g8 q (a0 3) a3 U8]) C (k_rV (As := [.int x1]) (rest := [.ref o0]) C (c_X8_comeDown l D q (a0 3) a3 S3 _ x1 hc6) kc_X8_comeDown ml_X11_231 rfl rfl (by decide) (flP hP [3] rfl) (flD hD [3] (by decide) rfl) hS (va_recv hK hP (ci := 8) (q0 := 103) rfl rfl) rfl hl.1 rfl (Nat.le_of_ble_eq_true rfl) dX11_land_30 (by decide)) hP hD hS [3] [0, 1, 2] [g11 q o0 a0 tp S0, g2 q (a0 8) a1 S1, g20 q (a1 1) a2 b2 U5] 4 (by decide) rfl rfl rfl rfl rfl rfl (by simp only [List.map_cons, List.map_nil, gad11, gad2, gad20, gad8]) (fun H locs hP hD hS => ?_)
    obtain ⟨r10, U11, hc9, hF⟩ := ob2_s hF
    refine k_igrp (gs8 := [g11 q o0 a0 tp S0, g2 q (a0 8) a1 U11, g20 q (a1 1) a2 b2 U5, g8 q (a0 3) a3 U8]) C (k_rV (As := [.int r7]) (rest := []) C (c_X11_settle l D q tp o0 a0 S0 a1 S1 _ r7 hc9) kc_X11_settle ml_X11_228 rfl rfl (by decide) (flP hP [0, 1] rfl) (flD hD [0, 1] (by decide) rfl) hS (va_recv hK hP (ci := 11) (q0 := 0) rfl rfl) rfl hl.1 rfl (Nat.le_of_ble_eq_true rfl) dX11_land_33 (by decide)) hP hD hS [0, 1] [2, 3] [g20 q (a1 1) a2 b2 U5, g8 q (a0 3) a3 U8] 4 (by decide) rfl rfl rfl rfl rfl rfl (by simp only [List.map_cons, List.map_nil, gad11, gad2, gad20, gad8]) (fun H locs hP hD hS => ?_)
    cases hF
    exact k_iret C hP hS dX11_land_36
  · have hF := op_t hF c3
    refine lv_iconst (v := (-1 : Int32)) hx hb dX11_land_11 (by decide) ?_
    cases hF
    exact k_iret C hP hS dX11_land_12

abbrev rm_X11_tell : Room := ({ frames := 3, cells := 0, slots := 0, locals := 122 } : Room)
def F_X11_tell (S0 : St) (S1 : St) (S2 : KSt) (S3 : St) (x1 : Int32) (x2 : Int32) (x3 : Int32) : Option (Int32 × St × KSt × St) := ob1 (F_X8_hasPerson S3 x1) fun r2 => if r2 = 0 then (some ((-1 : Int32), S1, S2, S3)) else (ob1 (F_X8_hasPerson S3 x2) fun r5 => if r5 = 0 then (some ((-1 : Int32), S1, S2, S3)) else (if x3 < 0 then (some ((-1 : Int32), S1, S2, S3)) else (if x3 < (8 : Int32) then (ob1 (F_X2_open S1 S2 S3) fun U10 => ob2 (F_X8_passOn S3 x1 x2 x3) fun r12 U13 => ob2 (F_X11_settle S0 S1 r12) fun r15 U16 => some (r15, U16, U10, U13)) else (some ((-1 : Int32), S1, S2, S3)))))
set_option maxRecDepth 100000 in
set_option maxHeartbeats 4000000 in
theorem c_X11_tell (l : Launch) (D : va_G) (q : Nat → ClassId) (tp : Nat) (o0 : Nat) (a0 : Nat → Nat) (S0 : St) (a1 : Nat → Nat) (S1 : St) (a2 : Nat → Nat) (b2 : Nat → Nat → Nat) (S2 : KSt) (a3 : Nat → Nat) (S3 : St) (sz : Nat) (x1 : Int32) (x2 : Int32) (x3 : Int32) {r : Int32} {T1 : St} {T2 : KSt} {T3 : St} (hF : F_X11_tell S0 S1 S2 S3 x1 x2 x3 = some (r, T1, T2, T3)) : Met l yX11_tell (Cond.code yX11_tell cX11_tell 4 (some .int) :: TB) rm_X11_tell (PC D q [.ref o0, .int x1, .int x2, .int x3] (fl [g11 q o0 a0 tp S0, g2 q (a0 8) a1 S1, g20 q (a1 1) a2 b2 S2, g8 q (a0 3) a3 S3]) sz) ((fun A => QI D A r (fl [g11 q o0 a0 tp S0, g2 q (a0 8) a1 T1, g20 q (a1 1) a2 b2 T2, g8 q (a0 3) a3 T3])) (va_A (fl [g11 q o0 a0 tp S0, g2 q (a0 8) a1 S1, g20 q (a1 1) a2 b2 S2, g8 q (a0 3) a3 S3]) sz)) 0 0 (va_A (fl [g11 q o0 a0 tp S0, g2 q (a0 8) a1 S1, g20 q (a1 1) a2 b2 S2, g8 q (a0 3) a3 S3]) sz) := by
  refine k_met (w0 := fl [g11 q o0 a0 tp S0, g2 q (a0 8) a1 S1, g20 q (a1 1) a2 b2 S2, g8 q (a0 3) a3 S3]) (Q := fun A => QI D A r (fl [g11 q o0 a0 tp S0, g2 q (a0 8) a1 T1, g20 q (a1 1) a2 b2 T2, g8 q (a0 3) a3 T3])) (by decide +kernel) (Nat.le_of_ble_eq_true rfl) ?_
  intro p e s m args below meth c A ls C hP hD hS hl
  have hl : lv_has ls 4 [(0, .ref o0), (1, .int x1), (2, .int x2), (3, .int x3)] := hl
  unfold F_X11_tell at hF
  have C : cx p s m args meth c cX11_tell 4 (some .int) RX11 D q A := C
  obtain ⟨hx, hb, hr, hml, hown, hts, hlk, hA, hK, hN, hV⟩ := id C
  refine lv_aload_n hx hb dX11_tell_0 rfl (lv_at hl 0 rfl) ?_
  refine k_get (v := .ref (a0 3)) C fg_X11_26 hP 0 rfl rfl dX11_tell_1 ?_
  refine lv_iload_n hx hb dX11_tell_4 rfl (lv_at hl 1 rfl) ?_
  obtain ⟨r2, hc1, hF⟩ := ob1_s hF
  refine k_iro C (k_rV (As := [.int x1]) (rest := []) C (c_X8_hasPerson l D q (a0 3) a3 S3 _ x1 hc1) kc_X8_hasPerson ml_X11_137 rfl rfl (by decide) (flP hP [3] rfl) (flD hD [3] (by decide) rfl) hS (va_recv hK hP (ci := 8) (q0 := 103) rfl rfl) rfl hl.1 rfl (Nat.le_of_ble_eq_true rfl) dX11_tell_5 (by decide)) hP hD hS [3] [0, 1, 2] [g11 q o0 a0 tp S0, g2 q (a0 8) a1 S1, g20 q (a1 1) a2 b2 S2] 4 (by decide) rfl rfl rfl rfl (fun H locs hP hD hS => ?_)
  refine lv_if_eq (tgt := 32) hx hb dX11_tell_8 (by decide) (fun c3 => ?_) (fun c3 => ?_)
  · have hF := op_t hF c3
    refine lv_iconst (v := (-1 : Int32)) hx hb dX11_tell_32 (by decide) ?_
    cases hF
    exact k_iret C hP hS dX11_tell_33
  · have hF := op_f hF c3
    refine lv_aload_n hx hb dX11_tell_11 rfl (lv_at hl 0 rfl) ?_
    refine k_get (v := .ref (a0 3)) C fg_X11_26 hP 0 rfl rfl dX11_tell_12 ?_
    refine lv_iload_n hx hb dX11_tell_15 rfl (lv_at hl 2 rfl) ?_
    obtain ⟨r5, hc4, hF⟩ := ob1_s hF
    refine k_iro C (k_rV (As := [.int x2]) (rest := []) C (c_X8_hasPerson l D q (a0 3) a3 S3 _ x2 hc4) kc_X8_hasPerson ml_X11_137 rfl rfl (by decide) (flP hP [3] rfl) (flD hD [3] (by decide) rfl) hS (va_recv hK hP (ci := 8) (q0 := 103) rfl rfl) rfl hl.1 rfl (Nat.le_of_ble_eq_true rfl) dX11_tell_16 (by decide)) hP hD hS [3] [0, 1, 2] [g11 q o0 a0 tp S0, g2 q (a0 8) a1 S1, g20 q (a1 1) a2 b2 S2] 4 (by decide) rfl rfl rfl rfl (fun H locs hP hD hS => ?_)
    refine lv_if_eq (tgt := 32) hx hb dX11_tell_19 (by decide) (fun c6 => ?_) (fun c6 => ?_)
    · have hF := op_t hF c6
      refine lv_iconst (v := (-1 : Int32)) hx hb dX11_tell_32 (by decide) ?_
      cases hF
      exact k_iret C hP hS dX11_tell_33
    · have hF := op_f hF c6
      refine lv_iload_n hx hb dX11_tell_22 rfl (lv_at hl 3 rfl) ?_
      refine lv_if_lt (tgt := 32) hx hb dX11_tell_23 (by decide) (fun c7 => ?_) (fun c7 => ?_)
      · have hF := op_t hF c7
        refine lv_iconst (v := (-1 : Int32)) hx hb dX11_tell_32 (by decide) ?_
        cases hF
        exact k_iret C hP hS dX11_tell_33
      · have hF := op_f hF c7
        refine lv_iload_n hx hb dX11_tell_26 rfl (lv_at hl 3 rfl) ?_
        refine lv_bipush (v := (8 : Int32)) hx hb dX11_tell_27 (by decide) ?_
        refine lv_icmp_lt (tgt := 34) hx hb dX11_tell_29 (by decide) (fun c8 => ?_) (fun c8 => ?_)
        · have hF := op_t hF c8
          refine lv_aload_n hx hb dX11_tell_34 rfl (lv_at hl 0 rfl) ?_
          refine k_get (v := .ref (a0 8)) C fg_X11_53 hP 0 rfl rfl dX11_tell_35 ?_
          refine lv_aload_n hx hb dX11_tell_38 rfl (lv_at hl 0 rfl) ?_
          refine k_get (v := .ref (a0 3)) C fg_X11_26 hP 0 rfl rfl dX11_tell_39 ?_
          obtain ⟨U10, hc9, hF⟩ := ob1_s hF
          refine k_vgrp (gs8 := [g11 q o0 a0 tp S0, g2 q (a0 8) a1 S1, g20 q (a1 1) a2 b2 U10, g8 q (a0 3) a3 S3]) C (k_rV (As := [.ref (a0 3)]) (rest := []) C (c_X2_open l D q (a0 8) a1 S1 a2 b2 S2 (a0 3) a3 S3 _ hc9) kc_X2_open ml_X11_222 rfl rfl (by decide) (flP hP [1, 2, 3] rfl) (flD hD [1, 2, 3] (by decide) rfl) hS (va_recv hK hP (ci := 2) (q0 := 2) rfl rfl) rfl hl.1 rfl (Nat.le_of_ble_eq_true rfl) dX11_tell_42 (by decide)) hP hD hS [1, 2, 3] [0] [g11 q o0 a0 tp S0] 4 (by decide) rfl rfl rfl rfl rfl rfl (by simp only [List.map_cons, List.map_nil, gad11, gad2, gad20, gad8]) (fun H locs hP hD hS => ?_)
          refine lv_aload_n hx hb dX11_tell_45 rfl (lv_at hl 0 rfl) ?_
          refine lv_aload_n hx hb dX11_tell_46 rfl (lv_at hl 0 rfl) ?_
          refine k_get (v := .ref (a0 3)) C fg_X11_26 hP 0 rfl rfl dX11_tell_47 ?_
          refine lv_iload_n hx hb dX11_tell_50 rfl (lv_at hl 1 rfl) ?_
          refine lv_iload_n hx hb dX11_tell_51 rfl (lv_at hl 2 rfl) ?_
          refine lv_iload_n hx hb dX11_tell_52 rfl (lv_at hl 3 rfl) ?_
          obtain ⟨r12, U13, hc11, hF⟩ := ob2_s hF
          refine k_igrp (gs8 := [g11 q o0 a0 tp S0, g2 q (a0 8) a1 S1, g20 q (a1 1) a2 b2 U10, g8 q (a0 3) a3 U13]) C (k_rV (As := [.int x1, .int x2, .int x3]) (rest := [.ref o0]) C (c_X8_passOn l D q (a0 3) a3 S3 _ x1 x2 x3 hc11) kc_X8_passOn ml_X11_234 rfl rfl (by decide) (flP hP [3] rfl) (flD hD [3] (by decide) rfl) hS (va_recv hK hP (ci := 8) (q0 := 103) rfl rfl) rfl hl.1 rfl (Nat.le_of_ble_eq_true rfl) dX11_tell_53 (by decide)) hP hD hS [3] [0, 1, 2] [g11 q o0 a0 tp S0, g2 q (a0 8) a1 S1, g20 q (a1 1) a2 b2 U10] 4 (by decide) rfl rfl rfl rfl rfl rfl (by simp only [List.map_cons, List.map_nil, gad11, gad2, gad20, gad8]) (fun H locs hP hD hS => ?_)
          obtain ⟨r15, U16, hc14, hF⟩ := ob2_s hF
          refine k_igrp (gs8 := [g11 q o0 a0 tp S0, g2 q (a0 8) a1 U16, g20 q (a1 1) a2 b2 U10, g8 q (a0 3) a3 U13]) C (k_rV (As := [.int r12]) (rest := []) C (c_X11_settle l D q tp o0 a0 S0 a1 S1 _ r12 hc14) kc_X11_settle ml_X11_228 rfl rfl (by decide) (flP hP [0, 1] rfl) (flD hD [0, 1] (by decide) rfl) hS (va_recv hK hP (ci := 11) (q0 := 0) rfl rfl) rfl hl.1 rfl (Nat.le_of_ble_eq_true rfl) dX11_tell_56 (by decide)) hP hD hS [0, 1] [2, 3] [g20 q (a1 1) a2 b2 U10, g8 q (a0 3) a3 U13] 4 (by decide) rfl rfl rfl rfl rfl rfl (by simp only [List.map_cons, List.map_nil, gad11, gad2, gad20, gad8]) (fun H locs hP hD hS => ?_)
          cases hF
          exact k_iret C hP hS dX11_tell_59
        · have hF := op_f hF c8
          refine lv_iconst (v := (-1 : Int32)) hx hb dX11_tell_32 (by decide) ?_
          cases hF
          exact k_iret C hP hS dX11_tell_33

abbrev rm_X11_storm : Room := ({ frames := 3, cells := 0, slots := 0, locals := 122 } : Room)
def F_X11_storm (S0 : St) (S1 : St) (S2 : KSt) (S3 : St) (x1 : Int32) : Option (Int32 × St × KSt × St) := if x1 < (1 : Int32) then (some ((-1 : Int32), S1, S2, S3)) else (if x1 ≤ (60 : Int32) then (ob1 (F_X2_open S1 S2 S3) fun U4 => ob2 (F_X8_blow S3 x1) fun r6 U7 => ob2 (F_X11_settle S0 S1 r6) fun r9 U10 => some (r9, U10, U4, U7)) else (some ((-1 : Int32), S1, S2, S3)))
set_option maxRecDepth 100000 in
set_option maxHeartbeats 4000000 in
theorem c_X11_storm (l : Launch) (D : va_G) (q : Nat → ClassId) (tp : Nat) (o0 : Nat) (a0 : Nat → Nat) (S0 : St) (a1 : Nat → Nat) (S1 : St) (a2 : Nat → Nat) (b2 : Nat → Nat → Nat) (S2 : KSt) (a3 : Nat → Nat) (S3 : St) (sz : Nat) (x1 : Int32) {r : Int32} {T1 : St} {T2 : KSt} {T3 : St} (hF : F_X11_storm S0 S1 S2 S3 x1 = some (r, T1, T2, T3)) : Met l yX11_storm (Cond.code yX11_storm cX11_storm 2 (some .int) :: TB) rm_X11_storm (PC D q [.ref o0, .int x1] (fl [g11 q o0 a0 tp S0, g2 q (a0 8) a1 S1, g20 q (a1 1) a2 b2 S2, g8 q (a0 3) a3 S3]) sz) ((fun A => QI D A r (fl [g11 q o0 a0 tp S0, g2 q (a0 8) a1 T1, g20 q (a1 1) a2 b2 T2, g8 q (a0 3) a3 T3])) (va_A (fl [g11 q o0 a0 tp S0, g2 q (a0 8) a1 S1, g20 q (a1 1) a2 b2 S2, g8 q (a0 3) a3 S3]) sz)) 0 0 (va_A (fl [g11 q o0 a0 tp S0, g2 q (a0 8) a1 S1, g20 q (a1 1) a2 b2 S2, g8 q (a0 3) a3 S3]) sz) := by
  refine k_met (w0 := fl [g11 q o0 a0 tp S0, g2 q (a0 8) a1 S1, g20 q (a1 1) a2 b2 S2, g8 q (a0 3) a3 S3]) (Q := fun A => QI D A r (fl [g11 q o0 a0 tp S0, g2 q (a0 8) a1 T1, g20 q (a1 1) a2 b2 T2, g8 q (a0 3) a3 T3])) (by decide +kernel) (Nat.le_of_ble_eq_true rfl) ?_
  intro p e s m args below meth c A ls C hP hD hS hl
  have hl : lv_has ls 2 [(0, .ref o0), (1, .int x1)] := hl
  unfold F_X11_storm at hF
  have C : cx p s m args meth c cX11_storm 2 (some .int) RX11 D q A := C
  obtain ⟨hx, hb, hr, hml, hown, hts, hlk, hA, hK, hN, hV⟩ := id C
  refine lv_iload_n hx hb dX11_storm_0 rfl (lv_at hl 1 rfl) ?_
  refine lv_iconst (v := (1 : Int32)) hx hb dX11_storm_1 (by decide) ?_
  refine lv_icmp_lt (tgt := 11) hx hb dX11_storm_2 (by decide) (fun c1 => ?_) (fun c1 => ?_)
  · have hF := op_t hF c1
    refine lv_iconst (v := (-1 : Int32)) hx hb dX11_storm_11 (by decide) ?_
    cases hF
    exact k_iret C hP hS dX11_storm_12
  · have hF := op_f hF c1
    refine lv_iload_n hx hb dX11_storm_5 rfl (lv_at hl 1 rfl) ?_
    refine lv_bipush (v := (60 : Int32)) hx hb dX11_storm_6 (by decide) ?_
    refine lv_icmp_le (tgt := 13) hx hb dX11_storm_8 (by decide) (fun c2 => ?_) (fun c2 => ?_)
    · have hF := op_t hF c2
      refine lv_aload_n hx hb dX11_storm_13 rfl (lv_at hl 0 rfl) ?_
      refine k_get (v := .ref (a0 8)) C fg_X11_53 hP 0 rfl rfl dX11_storm_14 ?_
      refine lv_aload_n hx hb dX11_storm_17 rfl (lv_at hl 0 rfl) ?_
      refine k_get (v := .ref (a0 3)) C fg_X11_26 hP 0 rfl rfl dX11_storm_18 ?_
      obtain ⟨U4, hc3, hF⟩ := ob1_s hF
      refine k_vgrp (gs8 := [g11 q o0 a0 tp S0, g2 q (a0 8) a1 S1, g20 q (a1 1) a2 b2 U4, g8 q (a0 3) a3 S3]) C (k_rV (As := [.ref (a0 3)]) (rest := []) C (c_X2_open l D q (a0 8) a1 S1 a2 b2 S2 (a0 3) a3 S3 _ hc3) kc_X2_open ml_X11_222 rfl rfl (by decide) (flP hP [1, 2, 3] rfl) (flD hD [1, 2, 3] (by decide) rfl) hS (va_recv hK hP (ci := 2) (q0 := 2) rfl rfl) rfl hl.1 rfl (Nat.le_of_ble_eq_true rfl) dX11_storm_21 (by decide)) hP hD hS [1, 2, 3] [0] [g11 q o0 a0 tp S0] 4 (by decide) rfl rfl rfl rfl rfl rfl (by simp only [List.map_cons, List.map_nil, gad11, gad2, gad20, gad8]) (fun H locs hP hD hS => ?_)
      refine lv_aload_n hx hb dX11_storm_24 rfl (lv_at hl 0 rfl) ?_
      refine lv_aload_n hx hb dX11_storm_25 rfl (lv_at hl 0 rfl) ?_
      refine k_get (v := .ref (a0 3)) C fg_X11_26 hP 0 rfl rfl dX11_storm_26 ?_
      refine lv_iload_n hx hb dX11_storm_29 rfl (lv_at hl 1 rfl) ?_
      obtain ⟨r6, U7, hc5, hF⟩ := ob2_s hF
      refine k_igrp (gs8 := [g11 q o0 a0 tp S0, g2 q (a0 8) a1 S1, g20 q (a1 1) a2 b2 U4, g8 q (a0 3) a3 U7]) C (k_rV (As := [.int x1]) (rest := [.ref o0]) C (c_X8_blow l D q (a0 3) a3 S3 _ x1 hc5) kc_X8_blow ml_X11_238 rfl rfl (by decide) (flP hP [3] rfl) (flD hD [3] (by decide) rfl) hS (va_recv hK hP (ci := 8) (q0 := 103) rfl rfl) rfl hl.1 rfl (Nat.le_of_ble_eq_true rfl) dX11_storm_30 (by decide)) hP hD hS [3] [0, 1, 2] [g11 q o0 a0 tp S0, g2 q (a0 8) a1 S1, g20 q (a1 1) a2 b2 U4] 4 (by decide) rfl rfl rfl rfl rfl rfl (by simp only [List.map_cons, List.map_nil, gad11, gad2, gad20, gad8]) (fun H locs hP hD hS => ?_)
      obtain ⟨r9, U10, hc8, hF⟩ := ob2_s hF
      refine k_igrp (gs8 := [g11 q o0 a0 tp S0, g2 q (a0 8) a1 U10, g20 q (a1 1) a2 b2 U4, g8 q (a0 3) a3 U7]) C (k_rV (As := [.int r6]) (rest := []) C (c_X11_settle l D q tp o0 a0 S0 a1 S1 _ r6 hc8) kc_X11_settle ml_X11_228 rfl rfl (by decide) (flP hP [0, 1] rfl) (flD hD [0, 1] (by decide) rfl) hS (va_recv hK hP (ci := 11) (q0 := 0) rfl rfl) rfl hl.1 rfl (Nat.le_of_ble_eq_true rfl) dX11_storm_33 (by decide)) hP hD hS [0, 1] [2, 3] [g20 q (a1 1) a2 b2 U4, g8 q (a0 3) a3 U7] 4 (by decide) rfl rfl rfl rfl rfl rfl (by simp only [List.map_cons, List.map_nil, gad11, gad2, gad20, gad8]) (fun H locs hP hD hS => ?_)
      cases hF
      exact k_iret C hP hS dX11_storm_36
    · have hF := op_f hF c2
      refine lv_iconst (v := (-1 : Int32)) hx hb dX11_storm_11 (by decide) ?_
      cases hF
      exact k_iret C hP hS dX11_storm_12

abbrev rm_X11_wall : Room := ({ frames := 3, cells := 0, slots := 0, locals := 122 } : Room)
def F_X11_wall (S0 : St) (S1 : St) (S2 : KSt) (S3 : St) (x1 : Int32) : Option (Int32 × St × KSt × St) := ob1 (F_X8_hasTurret S3 x1) fun r2 => if r2 = 0 then (some ((-1 : Int32), S1, S2, S3)) else (ob1 (F_X2_open S1 S2 S3) fun U5 => ob2 (F_X8_close S3 x1) fun r7 U8 => ob2 (F_X11_settle S0 S1 r7) fun r10 U11 => some (r10, U11, U5, U8))
set_option maxRecDepth 100000 in
set_option maxHeartbeats 4000000 in
theorem c_X11_wall (l : Launch) (D : va_G) (q : Nat → ClassId) (tp : Nat) (o0 : Nat) (a0 : Nat → Nat) (S0 : St) (a1 : Nat → Nat) (S1 : St) (a2 : Nat → Nat) (b2 : Nat → Nat → Nat) (S2 : KSt) (a3 : Nat → Nat) (S3 : St) (sz : Nat) (x1 : Int32) {r : Int32} {T1 : St} {T2 : KSt} {T3 : St} (hF : F_X11_wall S0 S1 S2 S3 x1 = some (r, T1, T2, T3)) : Met l yX11_wall (Cond.code yX11_wall cX11_wall 2 (some .int) :: TB) rm_X11_wall (PC D q [.ref o0, .int x1] (fl [g11 q o0 a0 tp S0, g2 q (a0 8) a1 S1, g20 q (a1 1) a2 b2 S2, g8 q (a0 3) a3 S3]) sz) ((fun A => QI D A r (fl [g11 q o0 a0 tp S0, g2 q (a0 8) a1 T1, g20 q (a1 1) a2 b2 T2, g8 q (a0 3) a3 T3])) (va_A (fl [g11 q o0 a0 tp S0, g2 q (a0 8) a1 S1, g20 q (a1 1) a2 b2 S2, g8 q (a0 3) a3 S3]) sz)) 0 0 (va_A (fl [g11 q o0 a0 tp S0, g2 q (a0 8) a1 S1, g20 q (a1 1) a2 b2 S2, g8 q (a0 3) a3 S3]) sz) := by
  refine k_met (w0 := fl [g11 q o0 a0 tp S0, g2 q (a0 8) a1 S1, g20 q (a1 1) a2 b2 S2, g8 q (a0 3) a3 S3]) (Q := fun A => QI D A r (fl [g11 q o0 a0 tp S0, g2 q (a0 8) a1 T1, g20 q (a1 1) a2 b2 T2, g8 q (a0 3) a3 T3])) (by decide +kernel) (Nat.le_of_ble_eq_true rfl) ?_
  intro p e s m args below meth c A ls C hP hD hS hl
  have hl : lv_has ls 2 [(0, .ref o0), (1, .int x1)] := hl
  unfold F_X11_wall at hF
  have C : cx p s m args meth c cX11_wall 2 (some .int) RX11 D q A := C
  obtain ⟨hx, hb, hr, hml, hown, hts, hlk, hA, hK, hN, hV⟩ := id C
  refine lv_aload_n hx hb dX11_wall_0 rfl (lv_at hl 0 rfl) ?_
  refine k_get (v := .ref (a0 3)) C fg_X11_26 hP 0 rfl rfl dX11_wall_1 ?_
  refine lv_iload_n hx hb dX11_wall_4 rfl (lv_at hl 1 rfl) ?_
  obtain ⟨r2, hc1, hF⟩ := ob1_s hF
  refine k_iro C (k_rV (As := [.int x1]) (rest := []) C (c_X8_hasTurret l D q (a0 3) a3 S3 _ x1 hc1) kc_X8_hasTurret ml_X11_172 rfl rfl (by decide) (flP hP [3] rfl) (flD hD [3] (by decide) rfl) hS (va_recv hK hP (ci := 8) (q0 := 103) rfl rfl) rfl hl.1 rfl (Nat.le_of_ble_eq_true rfl) dX11_wall_5 (by decide)) hP hD hS [3] [0, 1, 2] [g11 q o0 a0 tp S0, g2 q (a0 8) a1 S1, g20 q (a1 1) a2 b2 S2] 4 (by decide) rfl rfl rfl rfl (fun H locs hP hD hS => ?_)
  refine lv_if_ne (tgt := 13) hx hb dX11_wall_8 (by decide) (fun c3 => ?_) (fun c3 => ?_)
  · have hF := op_f hF c3
    refine lv_aload_n hx hb dX11_wall_13 rfl (lv_at hl 0 rfl) ?_
    refine k_get (v := .ref (a0 8)) C fg_X11_53 hP 0 rfl rfl dX11_wall_14 ?_
    refine lv_aload_n hx hb dX11_wall_17 rfl (lv_at hl 0 rfl) ?_
    refine k_get (v := .ref (a0 3)) C fg_X11_26 hP 0 rfl rfl dX11_wall_18 ?_
    obtain ⟨U5, hc4, hF⟩ := ob1_s hF
    refine k_vgrp (gs8 := [g11 q o0 a0 tp S0, g2 q (a0 8) a1 S1, g20 q (a1 1) a2 b2 U5, g8 q (a0 3) a3 S3]) C (k_rV (As := [.ref (a0 3)]) (rest := []) C (c_X2_open l D q (a0 8) a1 S1 a2 b2 S2 (a0 3) a3 S3 _ hc4) kc_X2_open ml_X11_222 rfl rfl (by decide) (flP hP [1, 2, 3] rfl) (flD hD [1, 2, 3] (by decide) rfl) hS (va_recv hK hP (ci := 2) (q0 := 2) rfl rfl) rfl hl.1 rfl (Nat.le_of_ble_eq_true rfl) dX11_wall_21 (by decide)) hP hD hS [1, 2, 3] [0] [g11 q o0 a0 tp S0] 4 (by decide) rfl rfl rfl rfl rfl rfl (by simp only [List.map_cons, List.map_nil, gad11, gad2, gad20, gad8]) (fun H locs hP hD hS => ?_)
    refine lv_aload_n hx hb dX11_wall_24 rfl (lv_at hl 0 rfl) ?_
    refine lv_aload_n hx hb dX11_wall_25 rfl (lv_at hl 0 rfl) ?_
    refine k_get (v := .ref (a0 3)) C fg_X11_26 hP 0 rfl rfl dX11_wall_26 ?_
    refine lv_iload_n hx hb dX11_wall_29 rfl (lv_at hl 1 rfl) ?_
    obtain ⟨r7, U8, hc6, hF⟩ := ob2_s hF
    refine k_igrp (gs8 := [g11 q o0 a0 tp S0, g2 q (a0 8) a1 S1, g20 q (a1 1) a2 b2 U5, g8 q (a0 3) a3 U8]) C (k_rV (As := [.int x1]) (rest := [.ref o0]) C (c_X8_close l D q (a0 3) a3 S3 _ x1 hc6) kc_X8_close ml_X11_241 rfl rfl (by decide) (flP hP [3] rfl) (flD hD [3] (by decide) rfl) hS (va_recv hK hP (ci := 8) (q0 := 103) rfl rfl) rfl hl.1 rfl (Nat.le_of_ble_eq_true rfl) dX11_wall_30 (by decide)) hP hD hS [3] [0, 1, 2] [g11 q o0 a0 tp S0, g2 q (a0 8) a1 S1, g20 q (a1 1) a2 b2 U5] 4 (by decide) rfl rfl rfl rfl rfl rfl (by simp only [List.map_cons, List.map_nil, gad11, gad2, gad20, gad8]) (fun H locs hP hD hS => ?_)
    obtain ⟨r10, U11, hc9, hF⟩ := ob2_s hF
    refine k_igrp (gs8 := [g11 q o0 a0 tp S0, g2 q (a0 8) a1 U11, g20 q (a1 1) a2 b2 U5, g8 q (a0 3) a3 U8]) C (k_rV (As := [.int r7]) (rest := []) C (c_X11_settle l D q tp o0 a0 S0 a1 S1 _ r7 hc9) kc_X11_settle ml_X11_228 rfl rfl (by decide) (flP hP [0, 1] rfl) (flD hD [0, 1] (by decide) rfl) hS (va_recv hK hP (ci := 11) (q0 := 0) rfl rfl) rfl hl.1 rfl (Nat.le_of_ble_eq_true rfl) dX11_wall_33 (by decide)) hP hD hS [0, 1] [2, 3] [g20 q (a1 1) a2 b2 U5, g8 q (a0 3) a3 U8] 4 (by decide) rfl rfl rfl rfl rfl rfl (by simp only [List.map_cons, List.map_nil, gad11, gad2, gad20, gad8]) (fun H locs hP hD hS => ?_)
    cases hF
    exact k_iret C hP hS dX11_wall_36
  · have hF := op_t hF c3
    refine lv_iconst (v := (-1 : Int32)) hx hb dX11_wall_11 (by decide) ?_
    cases hF
    exact k_iret C hP hS dX11_wall_12

abbrev rm_X11_unwall : Room := ({ frames := 3, cells := 0, slots := 0, locals := 122 } : Room)
def F_X11_unwall (S0 : St) (S1 : St) (S2 : KSt) (S3 : St) (x1 : Int32) : Option (Int32 × St × KSt × St) := ob1 (F_X8_hasTurret S3 x1) fun r2 => if r2 = 0 then (some ((-1 : Int32), S1, S2, S3)) else (ob1 (F_X2_open S1 S2 S3) fun U5 => ob2 (F_X8_open S3 x1) fun r7 U8 => ob2 (F_X11_settle S0 S1 r7) fun r10 U11 => some (r10, U11, U5, U8))
set_option maxRecDepth 100000 in
set_option maxHeartbeats 4000000 in
theorem c_X11_unwall (l : Launch) (D : va_G) (q : Nat → ClassId) (tp : Nat) (o0 : Nat) (a0 : Nat → Nat) (S0 : St) (a1 : Nat → Nat) (S1 : St) (a2 : Nat → Nat) (b2 : Nat → Nat → Nat) (S2 : KSt) (a3 : Nat → Nat) (S3 : St) (sz : Nat) (x1 : Int32) {r : Int32} {T1 : St} {T2 : KSt} {T3 : St} (hF : F_X11_unwall S0 S1 S2 S3 x1 = some (r, T1, T2, T3)) : Met l yX11_unwall (Cond.code yX11_unwall cX11_unwall 2 (some .int) :: TB) rm_X11_unwall (PC D q [.ref o0, .int x1] (fl [g11 q o0 a0 tp S0, g2 q (a0 8) a1 S1, g20 q (a1 1) a2 b2 S2, g8 q (a0 3) a3 S3]) sz) ((fun A => QI D A r (fl [g11 q o0 a0 tp S0, g2 q (a0 8) a1 T1, g20 q (a1 1) a2 b2 T2, g8 q (a0 3) a3 T3])) (va_A (fl [g11 q o0 a0 tp S0, g2 q (a0 8) a1 S1, g20 q (a1 1) a2 b2 S2, g8 q (a0 3) a3 S3]) sz)) 0 0 (va_A (fl [g11 q o0 a0 tp S0, g2 q (a0 8) a1 S1, g20 q (a1 1) a2 b2 S2, g8 q (a0 3) a3 S3]) sz) := by
  refine k_met (w0 := fl [g11 q o0 a0 tp S0, g2 q (a0 8) a1 S1, g20 q (a1 1) a2 b2 S2, g8 q (a0 3) a3 S3]) (Q := fun A => QI D A r (fl [g11 q o0 a0 tp S0, g2 q (a0 8) a1 T1, g20 q (a1 1) a2 b2 T2, g8 q (a0 3) a3 T3])) (by decide +kernel) (Nat.le_of_ble_eq_true rfl) ?_
  intro p e s m args below meth c A ls C hP hD hS hl
  have hl : lv_has ls 2 [(0, .ref o0), (1, .int x1)] := hl
  unfold F_X11_unwall at hF
  have C : cx p s m args meth c cX11_unwall 2 (some .int) RX11 D q A := C
  obtain ⟨hx, hb, hr, hml, hown, hts, hlk, hA, hK, hN, hV⟩ := id C
  refine lv_aload_n hx hb dX11_unwall_0 rfl (lv_at hl 0 rfl) ?_
  refine k_get (v := .ref (a0 3)) C fg_X11_26 hP 0 rfl rfl dX11_unwall_1 ?_
  refine lv_iload_n hx hb dX11_unwall_4 rfl (lv_at hl 1 rfl) ?_
  obtain ⟨r2, hc1, hF⟩ := ob1_s hF
  refine k_iro C (k_rV (As := [.int x1]) (rest := []) C (c_X8_hasTurret l D q (a0 3) a3 S3 _ x1 hc1) kc_X8_hasTurret ml_X11_172 rfl rfl (by decide) (flP hP [3] rfl) (flD hD [3] (by decide) rfl) hS (va_recv hK hP (ci := 8) (q0 := 103) rfl rfl) rfl hl.1 rfl (Nat.le_of_ble_eq_true rfl) dX11_unwall_5 (by decide)) hP hD hS [3] [0, 1, 2] [g11 q o0 a0 tp S0, g2 q (a0 8) a1 S1, g20 q (a1 1) a2 b2 S2] 4 (by decide) rfl rfl rfl rfl (fun H locs hP hD hS => ?_)
  refine lv_if_ne (tgt := 13) hx hb dX11_unwall_8 (by decide) (fun c3 => ?_) (fun c3 => ?_)
  · have hF := op_f hF c3
    refine lv_aload_n hx hb dX11_unwall_13 rfl (lv_at hl 0 rfl) ?_
    refine k_get (v := .ref (a0 8)) C fg_X11_53 hP 0 rfl rfl dX11_unwall_14 ?_
    refine lv_aload_n hx hb dX11_unwall_17 rfl (lv_at hl 0 rfl) ?_
    refine k_get (v := .ref (a0 3)) C fg_X11_26 hP 0 rfl rfl dX11_unwall_18 ?_
    obtain ⟨U5, hc4, hF⟩ := ob1_s hF
    refine k_vgrp (gs8 := [g11 q o0 a0 tp S0, g2 q (a0 8) a1 S1, g20 q (a1 1) a2 b2 U5, g8 q (a0 3) a3 S3]) C (k_rV (As := [.ref (a0 3)]) (rest := []) C (c_X2_open l D q (a0 8) a1 S1 a2 b2 S2 (a0 3) a3 S3 _ hc4) kc_X2_open ml_X11_222 rfl rfl (by decide) (flP hP [1, 2, 3] rfl) (flD hD [1, 2, 3] (by decide) rfl) hS (va_recv hK hP (ci := 2) (q0 := 2) rfl rfl) rfl hl.1 rfl (Nat.le_of_ble_eq_true rfl) dX11_unwall_21 (by decide)) hP hD hS [1, 2, 3] [0] [g11 q o0 a0 tp S0] 4 (by decide) rfl rfl rfl rfl rfl rfl (by simp only [List.map_cons, List.map_nil, gad11, gad2, gad20, gad8]) (fun H locs hP hD hS => ?_)
    refine lv_aload_n hx hb dX11_unwall_24 rfl (lv_at hl 0 rfl) ?_
    refine lv_aload_n hx hb dX11_unwall_25 rfl (lv_at hl 0 rfl) ?_
    refine k_get (v := .ref (a0 3)) C fg_X11_26 hP 0 rfl rfl dX11_unwall_26 ?_
    refine lv_iload_n hx hb dX11_unwall_29 rfl (lv_at hl 1 rfl) ?_
    obtain ⟨r7, U8, hc6, hF⟩ := ob2_s hF
    refine k_igrp (gs8 := [g11 q o0 a0 tp S0, g2 q (a0 8) a1 S1, g20 q (a1 1) a2 b2 U5, g8 q (a0 3) a3 U8]) C (k_rV (As := [.int x1]) (rest := [.ref o0]) C (c_X8_open l D q (a0 3) a3 S3 _ x1 hc6) kc_X8_open ml_X11_244 rfl rfl (by decide) (flP hP [3] rfl) (flD hD [3] (by decide) rfl) hS (va_recv hK hP (ci := 8) (q0 := 103) rfl rfl) rfl hl.1 rfl (Nat.le_of_ble_eq_true rfl) dX11_unwall_30 (by decide)) hP hD hS [3] [0, 1, 2] [g11 q o0 a0 tp S0, g2 q (a0 8) a1 S1, g20 q (a1 1) a2 b2 U5] 4 (by decide) rfl rfl rfl rfl rfl rfl (by simp only [List.map_cons, List.map_nil, gad11, gad2, gad20, gad8]) (fun H locs hP hD hS => ?_)
    obtain ⟨r10, U11, hc9, hF⟩ := ob2_s hF
    refine k_igrp (gs8 := [g11 q o0 a0 tp S0, g2 q (a0 8) a1 U11, g20 q (a1 1) a2 b2 U5, g8 q (a0 3) a3 U8]) C (k_rV (As := [.int r7]) (rest := []) C (c_X11_settle l D q tp o0 a0 S0 a1 S1 _ r7 hc9) kc_X11_settle ml_X11_228 rfl rfl (by decide) (flP hP [0, 1] rfl) (flD hD [0, 1] (by decide) rfl) hS (va_recv hK hP (ci := 11) (q0 := 0) rfl rfl) rfl hl.1 rfl (Nat.le_of_ble_eq_true rfl) dX11_unwall_33 (by decide)) hP hD hS [0, 1] [2, 3] [g20 q (a1 1) a2 b2 U5, g8 q (a0 3) a3 U8] 4 (by decide) rfl rfl rfl rfl rfl rfl (by simp only [List.map_cons, List.map_nil, gad11, gad2, gad20, gad8]) (fun H locs hP hD hS => ?_)
    cases hF
    exact k_iret C hP hS dX11_unwall_36
  · have hF := op_t hF c3
    refine lv_iconst (v := (-1 : Int32)) hx hb dX11_unwall_11 (by decide) ?_
    cases hF
    exact k_iret C hP hS dX11_unwall_12

abbrev rm_X11_days : Room := ({ frames := 3, cells := 0, slots := 0, locals := 122 } : Room)
def F_X11_days (S0 : St) (S1 : St) (S2 : KSt) (S3 : St) (x1 : Int32) : Option (Int32 × St × KSt × St) := if x1 < (1 : Int32) then (some ((-1 : Int32), S1, S2, S3)) else (if x1 ≤ (60 : Int32) then (ob1 (F_X2_open S1 S2 S3) fun U4 => ob2 (F_X8_passDays S3 x1) fun r6 U7 => ob2 (F_X11_settleMany S0 S1 r6) fun r9 U10 => some (r9, U10, U4, U7)) else (some ((-1 : Int32), S1, S2, S3)))
set_option maxRecDepth 100000 in
set_option maxHeartbeats 4000000 in
theorem c_X11_days (l : Launch) (D : va_G) (q : Nat → ClassId) (tp : Nat) (o0 : Nat) (a0 : Nat → Nat) (S0 : St) (a1 : Nat → Nat) (S1 : St) (a2 : Nat → Nat) (b2 : Nat → Nat → Nat) (S2 : KSt) (a3 : Nat → Nat) (S3 : St) (sz : Nat) (x1 : Int32) {r : Int32} {T1 : St} {T2 : KSt} {T3 : St} (hF : F_X11_days S0 S1 S2 S3 x1 = some (r, T1, T2, T3)) : Met l yX11_days (Cond.code yX11_days cX11_days 2 (some .int) :: TB) rm_X11_days (PC D q [.ref o0, .int x1] (fl [g11 q o0 a0 tp S0, g2 q (a0 8) a1 S1, g20 q (a1 1) a2 b2 S2, g8 q (a0 3) a3 S3]) sz) ((fun A => QI D A r (fl [g11 q o0 a0 tp S0, g2 q (a0 8) a1 T1, g20 q (a1 1) a2 b2 T2, g8 q (a0 3) a3 T3])) (va_A (fl [g11 q o0 a0 tp S0, g2 q (a0 8) a1 S1, g20 q (a1 1) a2 b2 S2, g8 q (a0 3) a3 S3]) sz)) 0 0 (va_A (fl [g11 q o0 a0 tp S0, g2 q (a0 8) a1 S1, g20 q (a1 1) a2 b2 S2, g8 q (a0 3) a3 S3]) sz) := by
  refine k_met (w0 := fl [g11 q o0 a0 tp S0, g2 q (a0 8) a1 S1, g20 q (a1 1) a2 b2 S2, g8 q (a0 3) a3 S3]) (Q := fun A => QI D A r (fl [g11 q o0 a0 tp S0, g2 q (a0 8) a1 T1, g20 q (a1 1) a2 b2 T2, g8 q (a0 3) a3 T3])) (by decide +kernel) (Nat.le_of_ble_eq_true rfl) ?_
  intro p e s m args below meth c A ls C hP hD hS hl
  have hl : lv_has ls 2 [(0, .ref o0), (1, .int x1)] := hl
  unfold F_X11_days at hF
  have C : cx p s m args meth c cX11_days 2 (some .int) RX11 D q A := C
  obtain ⟨hx, hb, hr, hml, hown, hts, hlk, hA, hK, hN, hV⟩ := id C
  refine lv_iload_n hx hb dX11_days_0 rfl (lv_at hl 1 rfl) ?_
  refine lv_iconst (v := (1 : Int32)) hx hb dX11_days_1 (by decide) ?_
  refine lv_icmp_lt (tgt := 11) hx hb dX11_days_2 (by decide) (fun c1 => ?_) (fun c1 => ?_)
  · have hF := op_t hF c1
    refine lv_iconst (v := (-1 : Int32)) hx hb dX11_days_11 (by decide) ?_
    cases hF
    exact k_iret C hP hS dX11_days_12
  · have hF := op_f hF c1
    refine lv_iload_n hx hb dX11_days_5 rfl (lv_at hl 1 rfl) ?_
    refine lv_bipush (v := (60 : Int32)) hx hb dX11_days_6 (by decide) ?_
    refine lv_icmp_le (tgt := 13) hx hb dX11_days_8 (by decide) (fun c2 => ?_) (fun c2 => ?_)
    · have hF := op_t hF c2
      refine lv_aload_n hx hb dX11_days_13 rfl (lv_at hl 0 rfl) ?_
      refine k_get (v := .ref (a0 8)) C fg_X11_53 hP 0 rfl rfl dX11_days_14 ?_
      refine lv_aload_n hx hb dX11_days_17 rfl (lv_at hl 0 rfl) ?_
      refine k_get (v := .ref (a0 3)) C fg_X11_26 hP 0 rfl rfl dX11_days_18 ?_
      obtain ⟨U4, hc3, hF⟩ := ob1_s hF
      refine k_vgrp (gs8 := [g11 q o0 a0 tp S0, g2 q (a0 8) a1 S1, g20 q (a1 1) a2 b2 U4, g8 q (a0 3) a3 S3]) C (k_rV (As := [.ref (a0 3)]) (rest := []) C (c_X2_open l D q (a0 8) a1 S1 a2 b2 S2 (a0 3) a3 S3 _ hc3) kc_X2_open ml_X11_222 rfl rfl (by decide) (flP hP [1, 2, 3] rfl) (flD hD [1, 2, 3] (by decide) rfl) hS (va_recv hK hP (ci := 2) (q0 := 2) rfl rfl) rfl hl.1 rfl (Nat.le_of_ble_eq_true rfl) dX11_days_21 (by decide)) hP hD hS [1, 2, 3] [0] [g11 q o0 a0 tp S0] 4 (by decide) rfl rfl rfl rfl rfl rfl (by simp only [List.map_cons, List.map_nil, gad11, gad2, gad20, gad8]) (fun H locs hP hD hS => ?_)
      refine lv_aload_n hx hb dX11_days_24 rfl (lv_at hl 0 rfl) ?_
      refine lv_aload_n hx hb dX11_days_25 rfl (lv_at hl 0 rfl) ?_
      refine k_get (v := .ref (a0 3)) C fg_X11_26 hP 0 rfl rfl dX11_days_26 ?_
      refine lv_iload_n hx hb dX11_days_29 rfl (lv_at hl 1 rfl) ?_
      obtain ⟨r6, U7, hc5, hF⟩ := ob2_s hF
      refine k_igrp (gs8 := [g11 q o0 a0 tp S0, g2 q (a0 8) a1 S1, g20 q (a1 1) a2 b2 U4, g8 q (a0 3) a3 U7]) C (k_rV (As := [.int x1]) (rest := [.ref o0]) C (c_X8_passDays l D q (a0 3) a3 S3 _ x1 hc5) kc_X8_passDays ml_X11_246 rfl rfl (by decide) (flP hP [3] rfl) (flD hD [3] (by decide) rfl) hS (va_recv hK hP (ci := 8) (q0 := 103) rfl rfl) rfl hl.1 rfl (Nat.le_of_ble_eq_true rfl) dX11_days_30 (by decide)) hP hD hS [3] [0, 1, 2] [g11 q o0 a0 tp S0, g2 q (a0 8) a1 S1, g20 q (a1 1) a2 b2 U4] 4 (by decide) rfl rfl rfl rfl rfl rfl (by simp only [List.map_cons, List.map_nil, gad11, gad2, gad20, gad8]) (fun H locs hP hD hS => ?_)
      obtain ⟨r9, U10, hc8, hF⟩ := ob2_s hF
      refine k_igrp (gs8 := [g11 q o0 a0 tp S0, g2 q (a0 8) a1 U10, g20 q (a1 1) a2 b2 U4, g8 q (a0 3) a3 U7]) C (k_rV (As := [.int r6]) (rest := []) C (c_X11_settleMany l D q tp o0 a0 S0 a1 S1 _ r6 hc8) kc_X11_settleMany ml_X11_249 rfl rfl (by decide) (flP hP [0, 1] rfl) (flD hD [0, 1] (by decide) rfl) hS (va_recv hK hP (ci := 11) (q0 := 0) rfl rfl) rfl hl.1 rfl (Nat.le_of_ble_eq_true rfl) dX11_days_33 (by decide)) hP hD hS [0, 1] [2, 3] [g20 q (a1 1) a2 b2 U4, g8 q (a0 3) a3 U7] 4 (by decide) rfl rfl rfl rfl rfl rfl (by simp only [List.map_cons, List.map_nil, gad11, gad2, gad20, gad8]) (fun H locs hP hD hS => ?_)
      cases hF
      exact k_iret C hP hS dX11_days_36
    · have hF := op_f hF c2
      refine lv_iconst (v := (-1 : Int32)) hx hb dX11_days_11 (by decide) ?_
      cases hF
      exact k_iret C hP hS dX11_days_12

abbrev rm_X11_undo : Room := ({ frames := 2, cells := 0, slots := 0, locals := 101 } : Room)
def F_X11_undo (S0 : St) (S1 : St) (S2 : KSt) (S3 : St) : Option (Int32 × St × St) := if (S1.1 2) = 0 then (some ((-1 : Int32), S1, S3)) else (ob2 (F_X2_stepBack S1 S2) fun r3 U4 => if oob r3 9 then none else nw (S2 (r3.toNatClampNeg)) fun U5 => some ((U4.1 2), U4, U5))
set_option maxRecDepth 100000 in
set_option maxHeartbeats 4000000 in
theorem c_X11_undo (l : Launch) (D : va_G) (q : Nat → ClassId) (tp : Nat) (o0 : Nat) (a0 : Nat → Nat) (S0 : St) (a1 : Nat → Nat) (S1 : St) (a2 : Nat → Nat) (b2 : Nat → Nat → Nat) (S2 : KSt) (a3 : Nat → Nat) (S3 : St) (sz : Nat) {r : Int32} {T1 : St} {T3 : St} (hF : F_X11_undo S0 S1 S2 S3 = some (r, T1, T3)) : Met l yX11_undo (Cond.code yX11_undo cX11_undo 1 (some .int) :: TB) rm_X11_undo (PC D q [.ref o0] (fl [g11 q o0 a0 tp S0, g2 q (a0 8) a1 S1, g20 q (a1 1) a2 b2 S2, g8 q (a0 3) a3 S3]) sz) ((fun A => QI D A r (fl [g11 q o0 a0 tp S0, g2 q (a0 8) a1 T1, g20 q (a1 1) a2 b2 S2, g8 q (a0 3) a3 T3])) (va_A (fl [g11 q o0 a0 tp S0, g2 q (a0 8) a1 S1, g20 q (a1 1) a2 b2 S2, g8 q (a0 3) a3 S3]) sz)) 0 0 (va_A (fl [g11 q o0 a0 tp S0, g2 q (a0 8) a1 S1, g20 q (a1 1) a2 b2 S2, g8 q (a0 3) a3 S3]) sz) := by
  refine k_met (w0 := fl [g11 q o0 a0 tp S0, g2 q (a0 8) a1 S1, g20 q (a1 1) a2 b2 S2, g8 q (a0 3) a3 S3]) (Q := fun A => QI D A r (fl [g11 q o0 a0 tp S0, g2 q (a0 8) a1 T1, g20 q (a1 1) a2 b2 S2, g8 q (a0 3) a3 T3])) (by decide +kernel) (Nat.le_of_ble_eq_true rfl) ?_
  intro p e s m args below meth c A ls C hP hD hS hl
  have hl : lv_has ls 1 [(0, .ref o0)] := hl
  unfold F_X11_undo at hF
  have C : cx p s m args meth c cX11_undo 1 (some .int) RX11 D q A := C
  obtain ⟨hx, hb, hr, hml, hown, hts, hlk, hA, hK, hN, hV⟩ := id C
  refine lv_aload_n hx hb dX11_undo_0 rfl (lv_at hl 0 rfl) ?_
  refine k_get (v := .ref (a0 8)) C fg_X11_53 hP 0 rfl rfl dX11_undo_1 ?_
  refine k_get (v := .int (S1.1 2)) C fg_X11_252 hP 2 rfl rfl dX11_undo_4 ?_
  refine lv_if_ne (tgt := 12) hx hb dX11_undo_7 (by decide) (fun c1 => ?_) (fun c1 => ?_)
  · have hF := op_f hF c1
    refine lv_aload_n hx hb dX11_undo_12 rfl (lv_at hl 0 rfl) ?_
    refine k_get (v := .ref (a0 3)) C fg_X11_26 hP 0 rfl rfl dX11_undo_13 ?_
    refine lv_aload_n hx hb dX11_undo_16 rfl (lv_at hl 0 rfl) ?_
    refine k_get (v := .ref (a0 8)) C fg_X11_53 hP 0 rfl rfl dX11_undo_17 ?_
    obtain ⟨r3, U4, hc2, hF⟩ := ob2_s hF
    refine k_egrp (gs8 := [g11 q o0 a0 tp S0, g2 q (a0 8) a1 U4, g20 q (a1 1) a2 b2 S2, g8 q (a0 3) a3 S3]) C (k_rV (As := []) (rest := [.ref (a0 3)]) C (c_X2_stepBack l D q (a0 8) a1 S1 a2 b2 S2 _ hc2) kc_X2_stepBack ml_X11_255 rfl rfl (by decide) (flP hP [1, 2] rfl) (flD hD [1, 2] (by decide) rfl) hS (va_recv hK hP (ci := 2) (q0 := 2) rfl rfl) rfl hl.1 rfl (Nat.le_of_ble_eq_true rfl) dX11_undo_20 (by decide)) hP hD hS [1, 2] [0, 3] [g11 q o0 a0 tp S0, g8 q (a0 3) a3 S3] 4 (by decide) rfl rfl rfl rfl rfl rfl (by simp only [List.map_cons, List.map_nil, gad11, gad2, gad20, gad8]) (fun H locs hP hD hS => ?_)
    obtain ⟨h7, hF⟩ := op_ck hF
    obtain ⟨U5, e6, hF⟩ := nw_s hF
    refine k_vgrp (gs8 := [g11 q o0 a0 tp S0, g2 q (a0 8) a1 U4, g20 q (a1 1) a2 b2 S2, g8 q (a0 3) a3 U5]) C (k_rV (As := [.ref (a2 r3.toNatClampNeg)]) (rest := []) C (c_X8_copyE l D q (a0 3) a3 S3 (a1 1) a2 b2 S2 _ (r3.toNatClampNeg) (oob_lt h7) e6) kc_X8_copyFrom ml_X11_127 rfl rfl (by decide) (flP hP [3, 2] rfl) (flD hD [3, 2] (by decide) rfl) hS (va_recv hK hP (ci := 8) (q0 := 103) rfl rfl) rfl hl.1 rfl (Nat.le_of_ble_eq_true rfl) dX11_undo_23 (by decide)) hP hD hS [3, 2] [0, 1] [g11 q o0 a0 tp S0, g2 q (a0 8) a1 U4] 4 (by decide) rfl rfl rfl rfl rfl rfl (by simp only [List.map_cons, List.map_nil, gad11, gad2, gad20, gad8]) (fun H locs hP hD hS => ?_)
    refine lv_aload_n hx hb dX11_undo_26 rfl (lv_at hl 0 rfl) ?_
    refine k_get (v := .ref (a0 8)) C fg_X11_53 hP 0 rfl rfl dX11_undo_27 ?_
    refine k_get (v := .int (U4.1 2)) C fg_X11_252 hP 2 rfl rfl dX11_undo_30 ?_
    cases hF
    exact k_iret C hP hS dX11_undo_33
  · have hF := op_t hF c1
    refine lv_iconst (v := (-1 : Int32)) hx hb dX11_undo_10 (by decide) ?_
    cases hF
    exact k_iret C hP hS dX11_undo_11

abbrev rm_X11_drawn : Room := ({ frames := 7, cells := 0, slots := 0, locals := 161 } : Room)
def F_X11_drawn (S0 : St) (S1 : St) (S2 : St) (S3 : KSt) (S4 : St) (x1 : Int32) (x2 : Int32) : Option (Int32 × St × St × KSt × St) := if x1 < (1 : Int32) then (some ((-1 : Int32), S1, S2, S3, S4)) else (if x1 ≤ (60 : Int32) then (ob1 (F_X2_open S2 S3 S4) fun U4 => ob3 (F_X1_drawDays S1 S4 x1 x2) fun r6 U7 U8 => ob2 (F_X11_settleMany S0 S2 r6) fun r10 U11 => some (r10, U7, U11, U4, U8)) else (some ((-1 : Int32), S1, S2, S3, S4)))
set_option maxRecDepth 100000 in
set_option maxHeartbeats 4000000 in
theorem c_X11_drawn (l : Launch) (D : va_G) (q : Nat → ClassId) (tp : Nat) (o0 : Nat) (a0 : Nat → Nat) (S0 : St) (a1 : Nat → Nat) (S1 : St) (a2 : Nat → Nat) (S2 : St) (a3 : Nat → Nat) (b3 : Nat → Nat → Nat) (S3 : KSt) (a4 : Nat → Nat) (S4 : St) (sz : Nat) (x1 : Int32) (x2 : Int32) {r : Int32} {T1 : St} {T2 : St} {T3 : KSt} {T4 : St} (hF : F_X11_drawn S0 S1 S2 S3 S4 x1 x2 = some (r, T1, T2, T3, T4)) : Met l yX11_drawn (Cond.code yX11_drawn cX11_drawn 3 (some .int) :: TB) rm_X11_drawn (PC D q [.ref o0, .int x1, .int x2] (fl [g11 q o0 a0 tp S0, g1 q (a0 13) a1 S1, g2 q (a0 8) a2 S2, g20 q (a2 1) a3 b3 S3, g8 q (a0 3) a4 S4]) sz) ((fun A => QI D A r (fl [g11 q o0 a0 tp S0, g1 q (a0 13) a1 T1, g2 q (a0 8) a2 T2, g20 q (a2 1) a3 b3 T3, g8 q (a0 3) a4 T4])) (va_A (fl [g11 q o0 a0 tp S0, g1 q (a0 13) a1 S1, g2 q (a0 8) a2 S2, g20 q (a2 1) a3 b3 S3, g8 q (a0 3) a4 S4]) sz)) 0 0 (va_A (fl [g11 q o0 a0 tp S0, g1 q (a0 13) a1 S1, g2 q (a0 8) a2 S2, g20 q (a2 1) a3 b3 S3, g8 q (a0 3) a4 S4]) sz) := by
  refine k_met (w0 := fl [g11 q o0 a0 tp S0, g1 q (a0 13) a1 S1, g2 q (a0 8) a2 S2, g20 q (a2 1) a3 b3 S3, g8 q (a0 3) a4 S4]) (Q := fun A => QI D A r (fl [g11 q o0 a0 tp S0, g1 q (a0 13) a1 T1, g2 q (a0 8) a2 T2, g20 q (a2 1) a3 b3 T3, g8 q (a0 3) a4 T4])) (by decide +kernel) (Nat.le_of_ble_eq_true rfl) ?_
  intro p e s m args below meth c A ls C hP hD hS hl
  have hl : lv_has ls 3 [(0, .ref o0), (1, .int x1), (2, .int x2)] := hl
  unfold F_X11_drawn at hF
  have C : cx p s m args meth c cX11_drawn 3 (some .int) RX11 D q A := C
  obtain ⟨hx, hb, hr, hml, hown, hts, hlk, hA, hK, hN, hV⟩ := id C
  refine lv_iload_n hx hb dX11_drawn_0 rfl (lv_at hl 1 rfl) ?_
  refine lv_iconst (v := (1 : Int32)) hx hb dX11_drawn_1 (by decide) ?_
  refine lv_icmp_lt (tgt := 11) hx hb dX11_drawn_2 (by decide) (fun c1 => ?_) (fun c1 => ?_)
  · have hF := op_t hF c1
    refine lv_iconst (v := (-1 : Int32)) hx hb dX11_drawn_11 (by decide) ?_
    cases hF
    exact k_iret C hP hS dX11_drawn_12
  · have hF := op_f hF c1
    refine lv_iload_n hx hb dX11_drawn_5 rfl (lv_at hl 1 rfl) ?_
    refine lv_bipush (v := (60 : Int32)) hx hb dX11_drawn_6 (by decide) ?_
    refine lv_icmp_le (tgt := 13) hx hb dX11_drawn_8 (by decide) (fun c2 => ?_) (fun c2 => ?_)
    · have hF := op_t hF c2
      refine lv_aload_n hx hb dX11_drawn_13 rfl (lv_at hl 0 rfl) ?_
      refine k_get (v := .ref (a0 8)) C fg_X11_53 hP 0 rfl rfl dX11_drawn_14 ?_
      refine lv_aload_n hx hb dX11_drawn_17 rfl (lv_at hl 0 rfl) ?_
      refine k_get (v := .ref (a0 3)) C fg_X11_26 hP 0 rfl rfl dX11_drawn_18 ?_
      obtain ⟨U4, hc3, hF⟩ := ob1_s hF
      refine k_vgrp (gs8 := [g11 q o0 a0 tp S0, g1 q (a0 13) a1 S1, g2 q (a0 8) a2 S2, g20 q (a2 1) a3 b3 U4, g8 q (a0 3) a4 S4]) C (k_rV (As := [.ref (a0 3)]) (rest := []) C (c_X2_open l D q (a0 8) a2 S2 a3 b3 S3 (a0 3) a4 S4 _ hc3) kc_X2_open ml_X11_222 rfl rfl (by decide) (flP hP [2, 3, 4] rfl) (flD hD [2, 3, 4] (by decide) rfl) hS (va_recv hK hP (ci := 2) (q0 := 3) rfl rfl) rfl hl.1 rfl (Nat.le_of_ble_eq_true rfl) dX11_drawn_21 (by decide)) hP hD hS [2, 3, 4] [0, 1] [g11 q o0 a0 tp S0, g1 q (a0 13) a1 S1] 5 (by decide) rfl rfl rfl rfl rfl rfl (by simp only [List.map_cons, List.map_nil, gad1, gad11, gad2, gad20, gad8]) (fun H locs hP hD hS => ?_)
      refine lv_aload_n hx hb dX11_drawn_24 rfl (lv_at hl 0 rfl) ?_
      refine lv_aload_n hx hb dX11_drawn_25 rfl (lv_at hl 0 rfl) ?_
      refine k_get (v := .ref (a0 13)) C fg_X11_88 hP 0 rfl rfl dX11_drawn_26 ?_
      refine lv_aload_n hx hb dX11_drawn_29 rfl (lv_at hl 0 rfl) ?_
      refine k_get (v := .ref (a0 3)) C fg_X11_26 hP 0 rfl rfl dX11_drawn_30 ?_
      refine lv_iload_n hx hb dX11_drawn_33 rfl (lv_at hl 1 rfl) ?_
      refine lv_iload_n hx hb dX11_drawn_34 rfl (lv_at hl 2 rfl) ?_
      obtain ⟨r6, U7, U8, hc5, hF⟩ := ob3_s hF
      refine k_igrp (gs8 := [g11 q o0 a0 tp S0, g1 q (a0 13) a1 U7, g2 q (a0 8) a2 S2, g20 q (a2 1) a3 b3 U4, g8 q (a0 3) a4 U8]) C (k_rV (As := [.ref (a0 3), .int x1, .int x2]) (rest := [.ref o0]) C (c_X1_drawDays l D q (a0 13) a1 S1 (a0 3) a4 S4 _ x1 x2 hc5) kc_X1_drawDays ml_X11_343 rfl rfl (by decide) (flP hP [1, 4] rfl) (flD hD [1, 4] (by decide) rfl) hS (va_recv hK hP (ci := 1) (q0 := 2) rfl rfl) rfl hl.1 rfl (Nat.le_of_ble_eq_true rfl) dX11_drawn_35 (by decide)) hP hD hS [1, 4] [0, 2, 3] [g11 q o0 a0 tp S0, g2 q (a0 8) a2 S2, g20 q (a2 1) a3 b3 U4] 5 (by decide) rfl rfl rfl rfl rfl rfl (by simp only [List.map_cons, List.map_nil, gad1, gad11, gad2, gad20, gad8]) (fun H locs hP hD hS => ?_)
      obtain ⟨r10, U11, hc9, hF⟩ := ob2_s hF
      refine k_igrp (gs8 := [g11 q o0 a0 tp S0, g1 q (a0 13) a1 U7, g2 q (a0 8) a2 U11, g20 q (a2 1) a3 b3 U4, g8 q (a0 3) a4 U8]) C (k_rV (As := [.int r6]) (rest := []) C (c_X11_settleMany l D q tp o0 a0 S0 a2 S2 _ r6 hc9) kc_X11_settleMany ml_X11_249 rfl rfl (by decide) (flP hP [0, 2] rfl) (flD hD [0, 2] (by decide) rfl) hS (va_recv hK hP (ci := 11) (q0 := 0) rfl rfl) rfl hl.1 rfl (Nat.le_of_ble_eq_true rfl) dX11_drawn_38 (by decide)) hP hD hS [0, 2] [1, 3, 4] [g1 q (a0 13) a1 U7, g20 q (a2 1) a3 b3 U4, g8 q (a0 3) a4 U8] 5 (by decide) rfl rfl rfl rfl rfl rfl (by simp only [List.map_cons, List.map_nil, gad1, gad11, gad2, gad20, gad8]) (fun H locs hP hD hS => ?_)
      cases hF
      exact k_iret C hP hS dX11_drawn_41
    · have hF := op_f hF c2
      refine lv_iconst (v := (-1 : Int32)) hx hb dX11_drawn_11 (by decide) ?_
      cases hF
      exact k_iret C hP hS dX11_drawn_12

abbrev rm_X11_odds : Room := ({ frames := 7, cells := 0, slots := 0, locals := 161 } : Room)
def F_X11_odds_79 (k30 : Int32 × Int32 × Int32 × Int32 × Int32 × St × St × St × St → Option (Int32 × St × St)) (x1 : Int32) (x2 : Int32) (x3 : Int32) (x4 : Int32) (x5 : Int32) (S0 : St) (S1 : St) (S2 : St) (S3 : St) : Option (Int32 × St × St) := k30 (x1, x2, x3, x4, (x5 + 1), S0, S1, S2, S3)
def F_X11_odds_30 (k30 : Int32 × Int32 × Int32 × Int32 × Int32 × St × St × St × St → Option (Int32 × St × St)) (x1 : Int32) (x2 : Int32) (x3 : Int32) (x4 : Int32) (x5 : Int32) (S0 : St) (S1 : St) (S2 : St) (S3 : St) : Option (Int32 × St × St) := if x2 ≤ x5 then (some (x4, S1, S2)) else (ob1 (F_X8_copyN S2 S3) fun U3 => ob3 (F_X1_drawDays S1 U3 (20 : Int32) (x3 + x5)) fun r5 U6 U7 => ob1 (F_X8_isPleased U7 x1) fun r9 => if r9 = 0 then (F_X11_odds_79 k30 x1 x2 x3 x4 x5 S0 U6 U7 S3) else (F_X11_odds_79 k30 x1 x2 x3 (x4 + 1) x5 S0 U6 U7 S3))
def L_X11_odds_30 (x1 : Int32) (x2 : Int32) (x3 : Int32) (x4 : Int32) (x5 : Int32) (S0 : St) (S1 : St) (S2 : St) (S3 : St) : Option (Int32 × St × St) := lp (fun kz z => F_X11_odds_30 kz z.1 z.2.1 z.2.2.1 z.2.2.2.1 z.2.2.2.2.1 z.2.2.2.2.2.1 z.2.2.2.2.2.2.1 z.2.2.2.2.2.2.2.1 z.2.2.2.2.2.2.2.2) FU (x1, x2, x3, x4, x5, S0, S1, S2, S3)
def F_X11_odds (S0 : St) (S1 : St) (S2 : St) (S3 : St) (x1 : Int32) (x2 : Int32) (x3 : Int32) : Option (Int32 × St × St) := ob1 (F_X8_hasPerson S3 x1) fun r2 => if r2 = 0 then (some ((-1 : Int32), S1, S2)) else (if x2 < (1 : Int32) then (some ((-1 : Int32), S1, S2)) else (if x2 ≤ (30 : Int32) then (L_X11_odds_30 x1 x2 x3 (0 : Int32) (0 : Int32) S0 S1 S2 S3) else (some ((-1 : Int32), S1, S2))))
set_option maxRecDepth 100000 in
set_option maxHeartbeats 4000000 in
theorem b_X11_odds_79 {p : Program} {l : Launch} {e : Env} {s : State} {m : MethodId} {args : Array Value} {below : List Frame} {meth : Method} {c : Code} {D : va_G} {q : Nat → ClassId} {A : Nat → Prop} {tp : Nat} {o0 : Nat} {a0 : Nat → Nat} {a1 : Nat → Nat} {a2 : Nat → Nat} {a3 : Nat → Nat} {r : Int32} {T1 : St} {T2 : St} (C : cx p s m args meth c cX11_odds 6 (some .int) RX11 D q A) {k30 : Int32 × Int32 × Int32 × Int32 × Int32 × St × St × St × St → Option (Int32 × St × St)} (hk30 : ∀ (x1 : Int32) (x2 : Int32) (x3 : Int32) (x4 : Int32) (x5 : Int32) (S0 : St) (S1 : St) (S2 : St) (S3 : St), k30 (x1, x2, x3, x4, x5, S0, S1, S2, S3) = some (r, T1, T2) → ∀ (H : Heap) (locs : List Loc) (ls : Array Slot), va_P D vwCl (fl [g11 q o0 a0 tp S0, g1 q (a0 13) a1 S1, g8 q (a0 4) a2 S2, g8 q (a0 3) a3 S3]) H → va_D A (fl [g11 q o0 a0 tp S0, g1 q (a0 13) a1 S1, g8 q (a0 4) a2 S2, g8 q (a0 3) a3 S3]) → va_S A s.heap H locs → lv_has ls 6 [(0, .ref o0), (1, .int x1), (2, .int x2), (3, .int x3), (4, .int x4), (5, .int x5)] → W p l e rm_X11_odds s m args below meth c H locs 0 0 (MQ below (QI D A r (fl [g11 q o0 a0 tp S0, g1 q (a0 13) a1 T1, g8 q (a0 4) a2 T2, g8 q (a0 3) a3 S3])) args s 0 0 A) (F0 m 30 ls [])) {x1 : Int32} {x2 : Int32} {x3 : Int32} {x4 : Int32} {x5 : Int32} {S0 : St} {S1 : St} {S2 : St} {S3 : St} (hF : F_X11_odds_79 k30 x1 x2 x3 x4 x5 S0 S1 S2 S3 = some (r, T1, T2)) {H : Heap} {locs : List Loc} (hP : va_P D vwCl (fl [g11 q o0 a0 tp S0, g1 q (a0 13) a1 S1, g8 q (a0 4) a2 S2, g8 q (a0 3) a3 S3]) H) (hD : va_D A (fl [g11 q o0 a0 tp S0, g1 q (a0 13) a1 S1, g8 q (a0 4) a2 S2, g8 q (a0 3) a3 S3])) (hS : va_S A s.heap H locs) {ls : Array Slot} (hl : lv_has ls 6 [(0, .ref o0), (1, .int x1), (2, .int x2), (3, .int x3), (4, .int x4), (5, .int x5)]) : W p l e rm_X11_odds s m args below meth c H locs 0 0 (MQ below (QI D A r (fl [g11 q o0 a0 tp S0, g1 q (a0 13) a1 T1, g8 q (a0 4) a2 T2, g8 q (a0 3) a3 S3])) args s 0 0 A) (F0 m 79 ls []) := by
  unfold F_X11_odds_79 at hF
  obtain ⟨hx, hb, hr, hml, hown, hts, hlk, hA, hK, hN, hV⟩ := id C
  refine lv_iinc (v := (x5 + 1)) (lv' := [(5, .int (x5 + 1)), (0, .ref o0), (1, .int x1), (2, .int x2), (3, .int x3), (4, .int x4)]) hx hb dX11_odds_79 hl (k := 5) rfl rfl (by decide) rfl (fun ls hl => ?_)
  refine lv_goto (tgt := 30) hx hb dX11_odds_82 (by decide) ?_
  exact hk30 x1 x2 x3 x4 (x5 + 1) S0 S1 S2 S3 hF _ _ _ hP hD hS (lv_sub hl [1, 2, 3, 4, 5, 0] rfl)
set_option maxRecDepth 100000 in
set_option maxHeartbeats 4000000 in
theorem b_X11_odds_30 {p : Program} {l : Launch} {e : Env} {s : State} {m : MethodId} {args : Array Value} {below : List Frame} {meth : Method} {c : Code} {D : va_G} {q : Nat → ClassId} {A : Nat → Prop} {tp : Nat} {o0 : Nat} {a0 : Nat → Nat} {a1 : Nat → Nat} {a2 : Nat → Nat} {a3 : Nat → Nat} {r : Int32} {T1 : St} {T2 : St} (C : cx p s m args meth c cX11_odds 6 (some .int) RX11 D q A) {k30 : Int32 × Int32 × Int32 × Int32 × Int32 × St × St × St × St → Option (Int32 × St × St)} (hk30 : ∀ (x1 : Int32) (x2 : Int32) (x3 : Int32) (x4 : Int32) (x5 : Int32) (S0 : St) (S1 : St) (S2 : St) (S3 : St), k30 (x1, x2, x3, x4, x5, S0, S1, S2, S3) = some (r, T1, T2) → ∀ (H : Heap) (locs : List Loc) (ls : Array Slot), va_P D vwCl (fl [g11 q o0 a0 tp S0, g1 q (a0 13) a1 S1, g8 q (a0 4) a2 S2, g8 q (a0 3) a3 S3]) H → va_D A (fl [g11 q o0 a0 tp S0, g1 q (a0 13) a1 S1, g8 q (a0 4) a2 S2, g8 q (a0 3) a3 S3]) → va_S A s.heap H locs → lv_has ls 6 [(0, .ref o0), (1, .int x1), (2, .int x2), (3, .int x3), (4, .int x4), (5, .int x5)] → W p l e rm_X11_odds s m args below meth c H locs 0 0 (MQ below (QI D A r (fl [g11 q o0 a0 tp S0, g1 q (a0 13) a1 T1, g8 q (a0 4) a2 T2, g8 q (a0 3) a3 S3])) args s 0 0 A) (F0 m 30 ls [])) {x1 : Int32} {x2 : Int32} {x3 : Int32} {x4 : Int32} {x5 : Int32} {S0 : St} {S1 : St} {S2 : St} {S3 : St} (hF : F_X11_odds_30 k30 x1 x2 x3 x4 x5 S0 S1 S2 S3 = some (r, T1, T2)) {H : Heap} {locs : List Loc} (hP : va_P D vwCl (fl [g11 q o0 a0 tp S0, g1 q (a0 13) a1 S1, g8 q (a0 4) a2 S2, g8 q (a0 3) a3 S3]) H) (hD : va_D A (fl [g11 q o0 a0 tp S0, g1 q (a0 13) a1 S1, g8 q (a0 4) a2 S2, g8 q (a0 3) a3 S3])) (hS : va_S A s.heap H locs) {ls : Array Slot} (hl : lv_has ls 6 [(0, .ref o0), (1, .int x1), (2, .int x2), (3, .int x3), (4, .int x4), (5, .int x5)]) : W p l e rm_X11_odds s m args below meth c H locs 0 0 (MQ below (QI D A r (fl [g11 q o0 a0 tp S0, g1 q (a0 13) a1 T1, g8 q (a0 4) a2 T2, g8 q (a0 3) a3 S3])) args s 0 0 A) (F0 m 30 ls []) := by
  unfold F_X11_odds_30 at hF
  obtain ⟨hx, hb, hr, hml, hown, hts, hlk, hA, hK, hN, hV⟩ := id C
  refine lv_iload hx hb dX11_odds_30 (lv_at hl 5 rfl) ?_
  refine lv_iload_n hx hb dX11_odds_32 rfl (lv_at hl 2 rfl) ?_
  refine lv_icmp_ge (tgt := 85) hx hb dX11_odds_33 (by decide) (fun c1 => ?_) (fun c1 => ?_)
  · have hF := op_t hF c1
    refine lv_iload hx hb dX11_odds_85 (lv_at hl 4 rfl) ?_
    cases hF
    exact k_iret C hP hS dX11_odds_87
  · have hF := op_f hF c1
    refine lv_aload_n hx hb dX11_odds_36 rfl (lv_at hl 0 rfl) ?_
    refine k_get (v := .ref (a0 4)) C fg_X11_30 hP 0 rfl rfl dX11_odds_37 ?_
    refine lv_aload_n hx hb dX11_odds_40 rfl (lv_at hl 0 rfl) ?_
    refine k_get (v := .ref (a0 3)) C fg_X11_26 hP 0 rfl rfl dX11_odds_41 ?_
    obtain ⟨U3, hc2, hF⟩ := ob1_s hF
    refine k_vgrp (gs8 := [g11 q o0 a0 tp S0, g1 q (a0 13) a1 S1, g8 q (a0 4) a2 U3, g8 q (a0 3) a3 S3]) C (k_rV (As := [.ref (a0 3)]) (rest := []) C (c_X8_copyN l D q (a0 4) a2 S2 (a0 3) a3 S3 _ hc2) kc_X8_copyFrom ml_X11_127 rfl rfl (by decide) (flP hP [2, 3] rfl) (flD hD [2, 3] (by decide) rfl) hS (va_recv hK hP (ci := 8) (q0 := 3) rfl rfl) rfl hl.1 rfl (Nat.le_of_ble_eq_true rfl) dX11_odds_44 (by decide)) hP hD hS [2, 3] [0, 1] [g11 q o0 a0 tp S0, g1 q (a0 13) a1 S1] 4 (by decide) rfl rfl rfl rfl rfl rfl (by simp only [List.map_cons, List.map_nil, gad1, gad11, gad8]) (fun H locs hP hD hS => ?_)
    refine lv_aload_n hx hb dX11_odds_47 rfl (lv_at hl 0 rfl) ?_
    refine k_get (v := .ref (a0 13)) C fg_X11_88 hP 0 rfl rfl dX11_odds_48 ?_
    refine lv_aload_n hx hb dX11_odds_51 rfl (lv_at hl 0 rfl) ?_
    refine k_get (v := .ref (a0 4)) C fg_X11_30 hP 0 rfl rfl dX11_odds_52 ?_
    refine lv_bipush (v := (20 : Int32)) hx hb dX11_odds_55 (by decide) ?_
    refine lv_iload_n hx hb dX11_odds_57 rfl (lv_at hl 3 rfl) ?_
    refine lv_iload hx hb dX11_odds_58 (lv_at hl 5 rfl) ?_
    refine lv_iadd hx hb dX11_odds_60 ?_
    obtain ⟨r5, U6, U7, hc4, hF⟩ := ob3_s hF
    refine k_igrp (gs8 := [g11 q o0 a0 tp S0, g1 q (a0 13) a1 U6, g8 q (a0 4) a2 U7, g8 q (a0 3) a3 S3]) C (k_rV (As := [.ref (a0 4), .int (20 : Int32), .int (x3 + x5)]) (rest := []) C (c_X1_drawDays l D q (a0 13) a1 S1 (a0 4) a2 U3 _ (20 : Int32) (x3 + x5) hc4) kc_X1_drawDays ml_X11_343 rfl rfl (by decide) (flP hP [1, 2] rfl) (flD hD [1, 2] (by decide) rfl) hS (va_recv hK hP (ci := 1) (q0 := 2) rfl rfl) rfl hl.1 rfl (Nat.le_of_ble_eq_true rfl) dX11_odds_61 (by decide)) hP hD hS [1, 2] [0, 3] [g11 q o0 a0 tp S0, g8 q (a0 3) a3 S3] 4 (by decide) rfl rfl rfl rfl rfl rfl (by simp only [List.map_cons, List.map_nil, gad1, gad11, gad8]) (fun H locs hP hD hS => ?_)
    refine lv_pop hx hb dX11_odds_64 rfl ?_
    refine lv_aload_n hx hb dX11_odds_65 rfl (lv_at hl 0 rfl) ?_
    refine k_get (v := .ref (a0 4)) C fg_X11_30 hP 0 rfl rfl dX11_odds_66 ?_
    refine lv_iload_n hx hb dX11_odds_69 rfl (lv_at hl 1 rfl) ?_
    obtain ⟨r9, hc8, hF⟩ := ob1_s hF
    refine k_iro C (k_rV (As := [.int x1]) (rest := []) C (c_X8_isPleased l D q (a0 4) a2 U7 _ x1 hc8) kc_X8_isPleased ml_X11_346 rfl rfl (by decide) (flP hP [2] rfl) (flD hD [2] (by decide) rfl) hS (va_recv hK hP (ci := 8) (q0 := 3) rfl rfl) rfl hl.1 rfl (Nat.le_of_ble_eq_true rfl) dX11_odds_70 (by decide)) hP hD hS [2] [0, 1, 3] [g11 q o0 a0 tp S0, g1 q (a0 13) a1 U6, g8 q (a0 3) a3 S3] 4 (by decide) rfl rfl rfl rfl (fun H locs hP hD hS => ?_)
    refine lv_if_eq (tgt := 79) hx hb dX11_odds_73 (by decide) (fun c10 => ?_) (fun c10 => ?_)
    · have hF := op_t hF c10
      exact b_X11_odds_79 C hk30 hF hP hD hS (lv_sub hl [0, 1, 2, 3, 4, 5] rfl)
    · have hF := op_f hF c10
      refine lv_iinc (v := (x4 + 1)) (lv' := [(4, .int (x4 + 1)), (0, .ref o0), (1, .int x1), (2, .int x2), (3, .int x3), (5, .int x5)]) hx hb dX11_odds_76 hl (k := 4) rfl rfl (by decide) rfl (fun ls hl => ?_)
      exact b_X11_odds_79 C hk30 hF hP hD hS (lv_sub hl [1, 2, 3, 4, 0, 5] rfl)
set_option maxRecDepth 100000 in
set_option maxHeartbeats 4000000 in
theorem l_X11_odds_30 {p : Program} {l : Launch} {e : Env} {s : State} {m : MethodId} {args : Array Value} {below : List Frame} {meth : Method} {c : Code} {D : va_G} {q : Nat → ClassId} {A : Nat → Prop} {tp : Nat} {o0 : Nat} {a0 : Nat → Nat} {a1 : Nat → Nat} {a2 : Nat → Nat} {a3 : Nat → Nat} {r : Int32} {T1 : St} {T2 : St} (C : cx p s m args meth c cX11_odds 6 (some .int) RX11 D q A) {x1 : Int32} {x2 : Int32} {x3 : Int32} {x4 : Int32} {x5 : Int32} {S0 : St} {S1 : St} {S2 : St} {S3 : St} (hF : L_X11_odds_30 x1 x2 x3 x4 x5 S0 S1 S2 S3 = some (r, T1, T2)) : ∀ (H : Heap) (locs : List Loc) (ls : Array Slot), va_P D vwCl (fl [g11 q o0 a0 tp S0, g1 q (a0 13) a1 S1, g8 q (a0 4) a2 S2, g8 q (a0 3) a3 S3]) H → va_D A (fl [g11 q o0 a0 tp S0, g1 q (a0 13) a1 S1, g8 q (a0 4) a2 S2, g8 q (a0 3) a3 S3]) → va_S A s.heap H locs → lv_has ls 6 [(0, .ref o0), (1, .int x1), (2, .int x2), (3, .int x3), (4, .int x4), (5, .int x5)] → W p l e rm_X11_odds s m args below meth c H locs 0 0 (MQ below (QI D A r (fl [g11 q o0 a0 tp S0, g1 q (a0 13) a1 T1, g8 q (a0 4) a2 T2, g8 q (a0 3) a3 S3])) args s 0 0 A) (F0 m 30 ls []) :=
  lp_G _ _ (fun z => ∀ (H : Heap) (locs : List Loc) (ls : Array Slot), va_P D vwCl (fl [g11 q o0 a0 tp z.2.2.2.2.2.1, g1 q (a0 13) a1 z.2.2.2.2.2.2.1, g8 q (a0 4) a2 z.2.2.2.2.2.2.2.1, g8 q (a0 3) a3 z.2.2.2.2.2.2.2.2]) H → va_D A (fl [g11 q o0 a0 tp z.2.2.2.2.2.1, g1 q (a0 13) a1 z.2.2.2.2.2.2.1, g8 q (a0 4) a2 z.2.2.2.2.2.2.2.1, g8 q (a0 3) a3 z.2.2.2.2.2.2.2.2]) → va_S A s.heap H locs → lv_has ls 6 [(0, .ref o0), (1, .int z.1), (2, .int z.2.1), (3, .int z.2.2.1), (4, .int z.2.2.2.1), (5, .int z.2.2.2.2.1)] → W p l e rm_X11_odds s m args below meth c H locs 0 0 (MQ below (QI D A r (fl [g11 q o0 a0 tp z.2.2.2.2.2.1, g1 q (a0 13) a1 T1, g8 q (a0 4) a2 T2, g8 q (a0 3) a3 z.2.2.2.2.2.2.2.2])) args s 0 0 A) (F0 m 30 ls [])) (fun kz hkz z hz H locs ls hP hD hS hl => b_X11_odds_30 C (fun x1 x2 x3 x4 x5 S0 S1 S2 S3 hz => hkz (x1, x2, x3, x4, x5, S0, S1, S2, S3) hz) hz hP hD hS hl) FU (x1, x2, x3, x4, x5, S0, S1, S2, S3) hF
set_option maxRecDepth 100000 in
set_option maxHeartbeats 4000000 in
theorem c_X11_odds (l : Launch) (D : va_G) (q : Nat → ClassId) (tp : Nat) (o0 : Nat) (a0 : Nat → Nat) (S0 : St) (a1 : Nat → Nat) (S1 : St) (a2 : Nat → Nat) (S2 : St) (a3 : Nat → Nat) (S3 : St) (sz : Nat) (x1 : Int32) (x2 : Int32) (x3 : Int32) {r : Int32} {T1 : St} {T2 : St} (hF : F_X11_odds S0 S1 S2 S3 x1 x2 x3 = some (r, T1, T2)) : Met l yX11_odds (Cond.code yX11_odds cX11_odds 6 (some .int) :: TB) rm_X11_odds (PC D q [.ref o0, .int x1, .int x2, .int x3] (fl [g11 q o0 a0 tp S0, g1 q (a0 13) a1 S1, g8 q (a0 4) a2 S2, g8 q (a0 3) a3 S3]) sz) ((fun A => QI D A r (fl [g11 q o0 a0 tp S0, g1 q (a0 13) a1 T1, g8 q (a0 4) a2 T2, g8 q (a0 3) a3 S3])) (va_A (fl [g11 q o0 a0 tp S0, g1 q (a0 13) a1 S1, g8 q (a0 4) a2 S2, g8 q (a0 3) a3 S3]) sz)) 0 0 (va_A (fl [g11 q o0 a0 tp S0, g1 q (a0 13) a1 S1, g8 q (a0 4) a2 S2, g8 q (a0 3) a3 S3]) sz) := by
  refine k_met (w0 := fl [g11 q o0 a0 tp S0, g1 q (a0 13) a1 S1, g8 q (a0 4) a2 S2, g8 q (a0 3) a3 S3]) (Q := fun A => QI D A r (fl [g11 q o0 a0 tp S0, g1 q (a0 13) a1 T1, g8 q (a0 4) a2 T2, g8 q (a0 3) a3 S3])) (by decide +kernel) (Nat.le_of_ble_eq_true rfl) ?_
  intro p e s m args below meth c A ls C hP hD hS hl
  have hl : lv_has ls 6 [(0, .ref o0), (1, .int x1), (2, .int x2), (3, .int x3)] := hl
  unfold F_X11_odds at hF
  have C : cx p s m args meth c cX11_odds 6 (some .int) RX11 D q A := C
  obtain ⟨hx, hb, hr, hml, hown, hts, hlk, hA, hK, hN, hV⟩ := id C
  refine lv_aload_n hx hb dX11_odds_0 rfl (lv_at hl 0 rfl) ?_
  refine k_get (v := .ref (a0 3)) C fg_X11_26 hP 0 rfl rfl dX11_odds_1 ?_
  refine lv_iload_n hx hb dX11_odds_4 rfl (lv_at hl 1 rfl) ?_
  obtain ⟨r2, hc1, hF⟩ := ob1_s hF
  refine k_iro C (k_rV (As := [.int x1]) (rest := []) C (c_X8_hasPerson l D q (a0 3) a3 S3 _ x1 hc1) kc_X8_hasPerson ml_X11_137 rfl rfl (by decide) (flP hP [3] rfl) (flD hD [3] (by decide) rfl) hS (va_recv hK hP (ci := 8) (q0 := 14) rfl rfl) rfl hl.1 rfl (Nat.le_of_ble_eq_true rfl) dX11_odds_5 (by decide)) hP hD hS [3] [0, 1, 2] [g11 q o0 a0 tp S0, g1 q (a0 13) a1 S1, g8 q (a0 4) a2 S2] 4 (by decide) rfl rfl rfl rfl (fun H locs hP hD hS => ?_)
  refine lv_if_eq (tgt := 22) hx hb dX11_odds_8 (by decide) (fun c3 => ?_) (fun c3 => ?_)
  · have hF := op_t hF c3
    refine lv_iconst (v := (-1 : Int32)) hx hb dX11_odds_22 (by decide) ?_
    cases hF
    exact k_iret C hP hS dX11_odds_23
  · have hF := op_f hF c3
    refine lv_iload_n hx hb dX11_odds_11 rfl (lv_at hl 2 rfl) ?_
    refine lv_iconst (v := (1 : Int32)) hx hb dX11_odds_12 (by decide) ?_
    refine lv_icmp_lt (tgt := 22) hx hb dX11_odds_13 (by decide) (fun c4 => ?_) (fun c4 => ?_)
    · have hF := op_t hF c4
      refine lv_iconst (v := (-1 : Int32)) hx hb dX11_odds_22 (by decide) ?_
      cases hF
      exact k_iret C hP hS dX11_odds_23
    · have hF := op_f hF c4
      refine lv_iload_n hx hb dX11_odds_16 rfl (lv_at hl 2 rfl) ?_
      refine lv_bipush (v := (30 : Int32)) hx hb dX11_odds_17 (by decide) ?_
      refine lv_icmp_le (tgt := 24) hx hb dX11_odds_19 (by decide) (fun c5 => ?_) (fun c5 => ?_)
      · have hF := op_t hF c5
        refine lv_iconst (v := (0 : Int32)) hx hb dX11_odds_24 (by decide) ?_
        refine lv_istore (lv' := [(4, .int (0 : Int32)), (0, .ref o0), (1, .int x1), (2, .int x2), (3, .int x3)]) hx hb dX11_odds_25 hl (by decide) rfl (fun ls hl => ?_)
        refine lv_iconst (v := (0 : Int32)) hx hb dX11_odds_27 (by decide) ?_
        refine lv_istore (lv' := [(5, .int (0 : Int32)), (4, .int (0 : Int32)), (0, .ref o0), (1, .int x1), (2, .int x2), (3, .int x3)]) hx hb dX11_odds_28 hl (by decide) rfl (fun ls hl => ?_)
        exact l_X11_odds_30 C hF _ _ _ hP hD hS (lv_sub hl [2, 3, 4, 5, 1, 0] rfl)
      · have hF := op_f hF c5
        refine lv_iconst (v := (-1 : Int32)) hx hb dX11_odds_22 (by decide) ?_
        cases hF
        exact k_iret C hP hS dX11_odds_23

abbrev rm_X11_book : Room := ({ frames := 6, cells := 0, slots := 0, locals := 136 } : Room)
def F_X11_book_13 (x1 : Int32) (S0 : St) (S1 : St) (S2 : KSt) (S3 : St) (S4 : St) (S5 : St) (S6 : St) (S7 : St) : Option (Int32 × St × St × KSt × St × St × St × St × St) := ob3 (F_X0_readFrom S3 S4 S7 S6) fun r2 U3 U4 => ob2 (F_X11_closeText S0 U4 S7) fun U6 U7 => if r2 = 0 then (some (((-2 : Int32) - (U4.1 9)), U6, S1, S2, U3, U4, S5, S6, U7)) else (if x1 = 0 then (ob1 (F_X8_copyN S5 S6) fun U21 => ob3 (F_X11_judge U6 U3 U21) fun r23 U24 U25 => some (r23, U24, S1, S2, U3, U4, U25, S6, U7)) else (ob1 (F_X2_open S1 S2 S6) fun U11 => ob3 (F_X11_judge U6 U3 S6) fun r13 U14 U15 => if oob (1 : Int32) 4 then none else ob2 (F_X11_settleMany U14 S1 (U14.2.2.1 14 (1 : Int32).toNatClampNeg)) fun r18 U19 => some (r13, U14, U19, U11, U3, U4, S5, U15, U7)))
def F_X11_book (S0 : St) (S1 : St) (S2 : KSt) (S3 : St) (S4 : St) (S5 : St) (S6 : St) (S7 : St) (x1 : Int32) : Option (Int32 × St × St × KSt × St × St × St × St × St) := if x1 = 0 then (F_X11_book_13 x1 S0 S1 S2 S3 S4 S5 S6 S7) else (if x1 = (1 : Int32) then (F_X11_book_13 x1 S0 S1 S2 S3 S4 S5 S6 S7) else (some ((-1000 : Int32), S0, S1, S2, S3, S4, S5, S6, S7)))
set_option maxRecDepth 100000 in
set_option maxHeartbeats 4000000 in
theorem b_X11_book_13 {p : Program} {l : Launch} {e : Env} {s : State} {m : MethodId} {args : Array Value} {below : List Frame} {meth : Method} {c : Code} {D : va_G} {q : Nat → ClassId} {A : Nat → Prop} {tp : Nat} {o0 : Nat} {a0 : Nat → Nat} {a1 : Nat → Nat} {a2 : Nat → Nat} {b2 : Nat → Nat → Nat} {a3 : Nat → Nat} {a4 : Nat → Nat} {a5 : Nat → Nat} {a6 : Nat → Nat} {a7 : Nat → Nat} {r : Int32} {T0 : St} {T1 : St} {T2 : KSt} {T3 : St} {T4 : St} {T5 : St} {T6 : St} {T7 : St} (C : cx p s m args meth c cX11_book 4 (some .int) RX11 D q A) {x1 : Int32} {S0 : St} {S1 : St} {S2 : KSt} {S3 : St} {S4 : St} {S5 : St} {S6 : St} {S7 : St} (hF : F_X11_book_13 x1 S0 S1 S2 S3 S4 S5 S6 S7 = some (r, T0, T1, T2, T3, T4, T5, T6, T7)) {H : Heap} {locs : List Loc} (hP : va_P D vwCl (fl [g11 q o0 a0 tp S0, g2 q (a0 8) a1 S1, g20 q (a1 1) a2 b2 S2, g0 q (a0 7) a3 S3, g5 q (a0 1) a4 tp S4, g8 q (a0 4) a5 S5, g8 q (a0 3) a6 S6, g9 q tp a7 940 S7]) H) (hD : va_D A (fl [g11 q o0 a0 tp S0, g2 q (a0 8) a1 S1, g20 q (a1 1) a2 b2 S2, g0 q (a0 7) a3 S3, g5 q (a0 1) a4 tp S4, g8 q (a0 4) a5 S5, g8 q (a0 3) a6 S6, g9 q tp a7 940 S7])) (hS : va_S A s.heap H locs) {ls : Array Slot} (hl : lv_has ls 4 [(0, .ref o0), (1, .int x1)]) : W p l e rm_X11_book s m args below meth c H locs 0 0 (MQ below (QI D A r (fl [g11 q o0 a0 tp T0, g2 q (a0 8) a1 T1, g20 q (a1 1) a2 b2 T2, g0 q (a0 7) a3 T3, g5 q (a0 1) a4 tp T4, g8 q (a0 4) a5 T5, g8 q (a0 3) a6 T6, g9 q tp a7 940 T7])) args s 0 0 A) (F0 m 13 ls []) := by
  unfold F_X11_book_13 at hF
  obtain ⟨hx, hb, hr, hml, hown, hts, hlk, hA, hK, hN, hV⟩ := id C
  refine lv_aload_n hx hb dX11_book_13 rfl (lv_at hl 0 rfl) ?_
  refine k_get (v := .ref (a0 7)) C fg_X11_46 hP 0 rfl rfl dX11_book_14 ?_
  refine lv_aload_n hx hb dX11_book_17 rfl (lv_at hl 0 rfl) ?_
  refine k_get (v := .ref (a0 1)) C fg_X11_10 hP 0 rfl rfl dX11_book_18 ?_
  refine lv_aload_n hx hb dX11_book_21 rfl (lv_at hl 0 rfl) ?_
  refine k_get (v := .ref (a0 3)) C fg_X11_26 hP 0 rfl rfl dX11_book_22 ?_
  obtain ⟨r2, U3, U4, hc1, hF⟩ := ob3_s hF
  refine k_igrp (gs8 := [g11 q o0 a0 tp S0, g2 q (a0 8) a1 S1, g20 q (a1 1) a2 b2 S2, g0 q (a0 7) a3 U3, g5 q (a0 1) a4 tp U4, g8 q (a0 4) a5 S5, g8 q (a0 3) a6 S6, g9 q tp a7 940 S7]) C (k_rV (As := [.ref (a0 1), .ref (a0 3)]) (rest := []) C (c_X0_readFrom l D q tp (a0 7) a3 S3 (a0 1) a4 S4 a7 S7 (a0 3) a6 S6 _ hc1) kc_X0_readFrom ml_X11_349 rfl rfl (by decide) (flP hP [3, 4, 7, 6] rfl) (flD hD [3, 4, 7, 6] (by decide) rfl) hS (va_recv hK hP (ci := 0) (q0 := 103) rfl rfl) rfl hl.1 rfl (Nat.le_of_ble_eq_true rfl) dX11_book_25 (by decide)) hP hD hS [3, 4, 7, 6] [0, 1, 2, 5] [g11 q o0 a0 tp S0, g2 q (a0 8) a1 S1, g20 q (a1 1) a2 b2 S2, g8 q (a0 4) a5 S5] 8 (by decide) rfl rfl rfl rfl rfl rfl (by simp only [List.map_cons, List.map_nil, gad0, gad11, gad2, gad20, gad5, gad8, gad9]) (fun H locs hP hD hS => ?_)
  refine lv_istore_n (lv' := [(2, .int r2), (0, .ref o0), (1, .int x1)]) hx hb dX11_book_28 rfl hl (by decide) rfl (fun ls hl => ?_)
  refine lv_aload_n hx hb dX11_book_29 rfl (lv_at hl 1 rfl) ?_
  obtain ⟨U6, U7, hc5, hF⟩ := ob2_s hF
  refine k_vgrp (gs8 := [g11 q o0 a0 tp U6, g2 q (a0 8) a1 S1, g20 q (a1 1) a2 b2 S2, g0 q (a0 7) a3 U3, g5 q (a0 1) a4 tp U4, g8 q (a0 4) a5 S5, g8 q (a0 3) a6 S6, g9 q tp a7 940 U7]) C (k_rV (As := []) (rest := []) C (c_X11_closeText l D q tp o0 a0 S0 a4 U4 a7 S7 _ hc5) kc_X11_closeText ml_X11_121 rfl rfl (by decide) (flP hP [0, 4, 7] rfl) (flD hD [0, 4, 7] (by decide) rfl) hS (va_recv hK hP (ci := 11) (q0 := 0) rfl rfl) rfl hl.1 rfl (Nat.le_of_ble_eq_true rfl) dX11_book_30 (by decide)) hP hD hS [0, 4, 7] [1, 2, 3, 5, 6] [g2 q (a0 8) a1 S1, g20 q (a1 1) a2 b2 S2, g0 q (a0 7) a3 U3, g8 q (a0 4) a5 S5, g8 q (a0 3) a6 S6] 8 (by decide) rfl rfl rfl rfl rfl rfl (by simp only [List.map_cons, List.map_nil, gad0, gad11, gad2, gad20, gad5, gad8, gad9]) (fun H locs hP hD hS => ?_)
  refine lv_iload_n hx hb dX11_book_33 rfl (lv_at hl 0 rfl) ?_
  refine lv_if_ne (tgt := 48) hx hb dX11_book_34 (by decide) (fun c8 => ?_) (fun c8 => ?_)
  · have hF := op_f hF c8
    refine lv_iload_n hx hb dX11_book_48 rfl (lv_at hl 2 rfl) ?_
    refine lv_if_ne (tgt := 72) hx hb dX11_book_49 (by decide) (fun c9 => ?_) (fun c9 => ?_)
    · have hF := op_f hF c9
      refine lv_aload_n hx hb dX11_book_72 rfl (lv_at hl 1 rfl) ?_
      refine k_get (v := .ref (a0 8)) C fg_X11_53 hP 0 rfl rfl dX11_book_73 ?_
      refine lv_aload_n hx hb dX11_book_76 rfl (lv_at hl 1 rfl) ?_
      refine k_get (v := .ref (a0 3)) C fg_X11_26 hP 0 rfl rfl dX11_book_77 ?_
      obtain ⟨U11, hc10, hF⟩ := ob1_s hF
      refine k_vgrp (gs8 := [g11 q o0 a0 tp U6, g2 q (a0 8) a1 S1, g20 q (a1 1) a2 b2 U11, g0 q (a0 7) a3 U3, g5 q (a0 1) a4 tp U4, g8 q (a0 4) a5 S5, g8 q (a0 3) a6 S6, g9 q tp a7 940 U7]) C (k_rV (As := [.ref (a0 3)]) (rest := []) C (c_X2_open l D q (a0 8) a1 S1 a2 b2 S2 (a0 3) a6 S6 _ hc10) kc_X2_open ml_X11_222 rfl rfl (by decide) (flP hP [1, 2, 6] rfl) (flD hD [1, 2, 6] (by decide) rfl) hS (va_recv hK hP (ci := 2) (q0 := 2) rfl rfl) rfl hl.1 rfl (Nat.le_of_ble_eq_true rfl) dX11_book_80 (by decide)) hP hD hS [1, 2, 6] [0, 3, 4, 5, 7] [g11 q o0 a0 tp U6, g0 q (a0 7) a3 U3, g5 q (a0 1) a4 tp U4, g8 q (a0 4) a5 S5, g9 q tp a7 940 U7] 8 (by decide) rfl rfl rfl rfl rfl rfl (by simp only [List.map_cons, List.map_nil, gad0, gad11, gad2, gad20, gad5, gad8, gad9]) (fun H locs hP hD hS => ?_)
      refine lv_aload_n hx hb dX11_book_83 rfl (lv_at hl 1 rfl) ?_
      refine lv_aload_n hx hb dX11_book_84 rfl (lv_at hl 1 rfl) ?_
      refine k_get (v := .ref (a0 3)) C fg_X11_26 hP 0 rfl rfl dX11_book_85 ?_
      obtain ⟨r13, U14, U15, hc12, hF⟩ := ob3_s hF
      refine k_igrp (gs8 := [g11 q o0 a0 tp U14, g2 q (a0 8) a1 S1, g20 q (a1 1) a2 b2 U11, g0 q (a0 7) a3 U3, g5 q (a0 1) a4 tp U4, g8 q (a0 4) a5 S5, g8 q (a0 3) a6 U15, g9 q tp a7 940 U7]) C (k_rV (As := [.ref (a0 3)]) (rest := []) C (c_X11_judge l D q tp o0 a0 U6 a3 U3 (a0 3) a6 S6 _ hc12) kc_X11_judge ml_X11_352 rfl rfl (by decide) (flP hP [0, 3, 6] rfl) (flD hD [0, 3, 6] (by decide) rfl) hS (va_recv hK hP (ci := 11) (q0 := 0) rfl rfl) rfl hl.1 rfl (Nat.le_of_ble_eq_true rfl) dX11_book_88 (by decide)) hP hD hS [0, 3, 6] [1, 2, 4, 5, 7] [g2 q (a0 8) a1 S1, g20 q (a1 1) a2 b2 U11, g5 q (a0 1) a4 tp U4, g8 q (a0 4) a5 S5, g9 q tp a7 940 U7] 8 (by decide) rfl rfl rfl rfl rfl rfl (by simp only [List.map_cons, List.map_nil, gad0, gad11, gad2, gad20, gad5, gad8, gad9]) (fun H locs hP hD hS => ?_)
      refine lv_istore_n (lv' := [(3, .int r13), (2, .int r2), (0, .ref o0), (1, .int x1)]) hx hb dX11_book_91 rfl hl (by decide) rfl (fun ls hl => ?_)
      refine lv_aload_n hx hb dX11_book_92 rfl (lv_at hl 2 rfl) ?_
      refine lv_aload_n hx hb dX11_book_93 rfl (lv_at hl 2 rfl) ?_
      refine k_get (v := .ref (a0 15)) C fg_X11_100 hP 0 rfl rfl dX11_book_94 ?_
      refine lv_iconst (v := (1 : Int32)) hx hb dX11_book_97 (by decide) ?_
      obtain ⟨h16, hF⟩ := op_ck hF
      refine k_ild (f := U14.2.2.1 14) C hP 1 rfl h16 dX11_book_98 ?_
      obtain ⟨r18, U19, hc17, hF⟩ := ob2_s hF
      refine k_igrp (gs8 := [g11 q o0 a0 tp U14, g2 q (a0 8) a1 U19, g20 q (a1 1) a2 b2 U11, g0 q (a0 7) a3 U3, g5 q (a0 1) a4 tp U4, g8 q (a0 4) a5 S5, g8 q (a0 3) a6 U15, g9 q tp a7 940 U7]) C (k_rV (As := [.int (U14.2.2.1 14 (1 : Int32).toNatClampNeg)]) (rest := []) C (c_X11_settleMany l D q tp o0 a0 U14 a1 S1 _ (U14.2.2.1 14 (1 : Int32).toNatClampNeg) hc17) kc_X11_settleMany ml_X11_249 rfl rfl (by decide) (flP hP [0, 1] rfl) (flD hD [0, 1] (by decide) rfl) hS (va_recv hK hP (ci := 11) (q0 := 0) rfl rfl) rfl hl.1 rfl (Nat.le_of_ble_eq_true rfl) dX11_book_99 (by decide)) hP hD hS [0, 1] [2, 3, 4, 5, 6, 7] [g20 q (a1 1) a2 b2 U11, g0 q (a0 7) a3 U3, g5 q (a0 1) a4 tp U4, g8 q (a0 4) a5 S5, g8 q (a0 3) a6 U15, g9 q tp a7 940 U7] 8 (by decide) rfl rfl rfl rfl rfl rfl (by simp only [List.map_cons, List.map_nil, gad0, gad11, gad2, gad20, gad5, gad8, gad9]) (fun H locs hP hD hS => ?_)
      refine lv_pop hx hb dX11_book_102 rfl ?_
      refine lv_iload_n hx hb dX11_book_103 rfl (lv_at hl 0 rfl) ?_
      cases hF
      exact k_iret C hP hS dX11_book_104
    · have hF := op_t hF c9
      refine lv_aload_n hx hb dX11_book_52 rfl (lv_at hl 1 rfl) ?_
      refine k_get (v := .ref (a0 4)) C fg_X11_30 hP 0 rfl rfl dX11_book_53 ?_
      refine lv_aload_n hx hb dX11_book_56 rfl (lv_at hl 1 rfl) ?_
      refine k_get (v := .ref (a0 3)) C fg_X11_26 hP 0 rfl rfl dX11_book_57 ?_
      obtain ⟨U21, hc20, hF⟩ := ob1_s hF
      refine k_vgrp (gs8 := [g11 q o0 a0 tp U6, g2 q (a0 8) a1 S1, g20 q (a1 1) a2 b2 S2, g0 q (a0 7) a3 U3, g5 q (a0 1) a4 tp U4, g8 q (a0 4) a5 U21, g8 q (a0 3) a6 S6, g9 q tp a7 940 U7]) C (k_rV (As := [.ref (a0 3)]) (rest := []) C (c_X8_copyN l D q (a0 4) a5 S5 (a0 3) a6 S6 _ hc20) kc_X8_copyFrom ml_X11_127 rfl rfl (by decide) (flP hP [5, 6] rfl) (flD hD [5, 6] (by decide) rfl) hS (va_recv hK hP (ci := 8) (q0 := 113) rfl rfl) rfl hl.1 rfl (Nat.le_of_ble_eq_true rfl) dX11_book_60 (by decide)) hP hD hS [5, 6] [0, 1, 2, 3, 4, 7] [g11 q o0 a0 tp U6, g2 q (a0 8) a1 S1, g20 q (a1 1) a2 b2 S2, g0 q (a0 7) a3 U3, g5 q (a0 1) a4 tp U4, g9 q tp a7 940 U7] 8 (by decide) rfl rfl rfl rfl rfl rfl (by simp only [List.map_cons, List.map_nil, gad0, gad11, gad2, gad20, gad5, gad8, gad9]) (fun H locs hP hD hS => ?_)
      refine lv_aload_n hx hb dX11_book_63 rfl (lv_at hl 1 rfl) ?_
      refine lv_aload_n hx hb dX11_book_64 rfl (lv_at hl 1 rfl) ?_
      refine k_get (v := .ref (a0 4)) C fg_X11_30 hP 0 rfl rfl dX11_book_65 ?_
      obtain ⟨r23, U24, U25, hc22, hF⟩ := ob3_s hF
      refine k_igrp (gs8 := [g11 q o0 a0 tp U24, g2 q (a0 8) a1 S1, g20 q (a1 1) a2 b2 S2, g0 q (a0 7) a3 U3, g5 q (a0 1) a4 tp U4, g8 q (a0 4) a5 U25, g8 q (a0 3) a6 S6, g9 q tp a7 940 U7]) C (k_rV (As := [.ref (a0 4)]) (rest := []) C (c_X11_judge l D q tp o0 a0 U6 a3 U3 (a0 4) a5 U21 _ hc22) kc_X11_judge ml_X11_352 rfl rfl (by decide) (flP hP [0, 3, 5] rfl) (flD hD [0, 3, 5] (by decide) rfl) hS (va_recv hK hP (ci := 11) (q0 := 0) rfl rfl) rfl hl.1 rfl (Nat.le_of_ble_eq_true rfl) dX11_book_68 (by decide)) hP hD hS [0, 3, 5] [1, 2, 4, 6, 7] [g2 q (a0 8) a1 S1, g20 q (a1 1) a2 b2 S2, g5 q (a0 1) a4 tp U4, g8 q (a0 3) a6 S6, g9 q tp a7 940 U7] 8 (by decide) rfl rfl rfl rfl rfl rfl (by simp only [List.map_cons, List.map_nil, gad0, gad11, gad2, gad20, gad5, gad8, gad9]) (fun H locs hP hD hS => ?_)
      cases hF
      exact k_iret C hP hS dX11_book_71
  · have hF := op_t hF c8
    refine lv_bipush (v := (-2 : Int32)) hx hb dX11_book_37 (by decide) ?_
    refine lv_aload_n hx hb dX11_book_39 rfl (lv_at hl 1 rfl) ?_
    refine k_get (v := .ref (a0 1)) C fg_X11_10 hP 0 rfl rfl dX11_book_40 ?_
    refine k_get (v := .int (U4.1 9)) C fg_X11_124 hP 108 rfl rfl dX11_book_43 ?_
    refine lv_isub hx hb dX11_book_46 ?_
    generalize ((-2 : Int32) - (U4.1 9)) = rr at hF ⊢
    cases hF
    exact k_iret C hP hS dX11_book_47
set_option maxRecDepth 100000 in
set_option maxHeartbeats 4000000 in
theorem c_X11_book (l : Launch) (D : va_G) (q : Nat → ClassId) (tp : Nat) (o0 : Nat) (a0 : Nat → Nat) (S0 : St) (a1 : Nat → Nat) (S1 : St) (a2 : Nat → Nat) (b2 : Nat → Nat → Nat) (S2 : KSt) (a3 : Nat → Nat) (S3 : St) (a4 : Nat → Nat) (S4 : St) (a5 : Nat → Nat) (S5 : St) (a6 : Nat → Nat) (S6 : St) (a7 : Nat → Nat) (S7 : St) (sz : Nat) (x1 : Int32) {r : Int32} {T0 : St} {T1 : St} {T2 : KSt} {T3 : St} {T4 : St} {T5 : St} {T6 : St} {T7 : St} (hF : F_X11_book S0 S1 S2 S3 S4 S5 S6 S7 x1 = some (r, T0, T1, T2, T3, T4, T5, T6, T7)) : Met l yX11_book (Cond.code yX11_book cX11_book 4 (some .int) :: TB) rm_X11_book (PC D q [.ref o0, .int x1] (fl [g11 q o0 a0 tp S0, g2 q (a0 8) a1 S1, g20 q (a1 1) a2 b2 S2, g0 q (a0 7) a3 S3, g5 q (a0 1) a4 tp S4, g8 q (a0 4) a5 S5, g8 q (a0 3) a6 S6, g9 q tp a7 940 S7]) sz) ((fun A => QI D A r (fl [g11 q o0 a0 tp T0, g2 q (a0 8) a1 T1, g20 q (a1 1) a2 b2 T2, g0 q (a0 7) a3 T3, g5 q (a0 1) a4 tp T4, g8 q (a0 4) a5 T5, g8 q (a0 3) a6 T6, g9 q tp a7 940 T7])) (va_A (fl [g11 q o0 a0 tp S0, g2 q (a0 8) a1 S1, g20 q (a1 1) a2 b2 S2, g0 q (a0 7) a3 S3, g5 q (a0 1) a4 tp S4, g8 q (a0 4) a5 S5, g8 q (a0 3) a6 S6, g9 q tp a7 940 S7]) sz)) 0 0 (va_A (fl [g11 q o0 a0 tp S0, g2 q (a0 8) a1 S1, g20 q (a1 1) a2 b2 S2, g0 q (a0 7) a3 S3, g5 q (a0 1) a4 tp S4, g8 q (a0 4) a5 S5, g8 q (a0 3) a6 S6, g9 q tp a7 940 S7]) sz) := by
  refine k_met (w0 := fl [g11 q o0 a0 tp S0, g2 q (a0 8) a1 S1, g20 q (a1 1) a2 b2 S2, g0 q (a0 7) a3 S3, g5 q (a0 1) a4 tp S4, g8 q (a0 4) a5 S5, g8 q (a0 3) a6 S6, g9 q tp a7 940 S7]) (Q := fun A => QI D A r (fl [g11 q o0 a0 tp T0, g2 q (a0 8) a1 T1, g20 q (a1 1) a2 b2 T2, g0 q (a0 7) a3 T3, g5 q (a0 1) a4 tp T4, g8 q (a0 4) a5 T5, g8 q (a0 3) a6 T6, g9 q tp a7 940 T7])) (by decide +kernel) (Nat.le_of_ble_eq_true rfl) ?_
  intro p e s m args below meth c A ls C hP hD hS hl
  have hl : lv_has ls 4 [(0, .ref o0), (1, .int x1)] := hl
  unfold F_X11_book at hF
  have C : cx p s m args meth c cX11_book 4 (some .int) RX11 D q A := C
  obtain ⟨hx, hb, hr, hml, hown, hts, hlk, hA, hK, hN, hV⟩ := id C
  refine lv_iload_n hx hb dX11_book_0 rfl (lv_at hl 1 rfl) ?_
  refine lv_if_eq (tgt := 13) hx hb dX11_book_1 (by decide) (fun c1 => ?_) (fun c1 => ?_)
  · have hF := op_t hF c1
    exact b_X11_book_13 C hF hP hD hS (lv_sub hl [0, 1] rfl)
  · have hF := op_f hF c1
    refine lv_iload_n hx hb dX11_book_4 rfl (lv_at hl 1 rfl) ?_
    refine lv_iconst (v := (1 : Int32)) hx hb dX11_book_5 (by decide) ?_
    refine lv_icmp_eq (tgt := 13) hx hb dX11_book_6 (by decide) (fun c2 => ?_) (fun c2 => ?_)
    · have hF := op_t hF c2
      exact b_X11_book_13 C hF hP hD hS (lv_sub hl [0, 1] rfl)
    · have hF := op_f hF c2
      refine lv_sipush (v := (-1000 : Int32)) hx hb dX11_book_9 (by decide) ?_
      cases hF
      exact k_iret C hP hS dX11_book_12

abbrev rm_X11_sentence : Room := ({ frames := 50, cells := 0, slots := 0, locals := 1506 } : Room)
def F_X11_sentence (S0 : St) (S1 : St) (S2 : St) (S3 : St) (S4 : St) (S5 : St) : Option (Int32 × St × St × St × St × St) := ob3 (F_X7_readFrom S3 S1 S5 S4) fun r2 U3 U4 => ob2 (F_X11_closeText S0 U4 S5) fun U6 U7 => if r2 = 0 then (some (((-1 : Int32) - (U4.1 9)), U6, U4, S2, U3, U7)) else (ob1 (F_X7_copyN S2 U3) fun U10 => some ((U10.1 4), U6, U4, U10, U3, U7))
set_option maxRecDepth 100000 in
set_option maxHeartbeats 4000000 in
theorem c_X11_sentence (l : Launch) (D : va_G) (q : Nat → ClassId) (tp : Nat) (o0 : Nat) (a0 : Nat → Nat) (S0 : St) (a1 : Nat → Nat) (S1 : St) (a2 : Nat → Nat) (S2 : St) (a3 : Nat → Nat) (S3 : St) (a4 : Nat → Nat) (S4 : St) (a5 : Nat → Nat) (S5 : St) (sz : Nat) {r : Int32} {T0 : St} {T1 : St} {T2 : St} {T3 : St} {T5 : St} (hF : F_X11_sentence S0 S1 S2 S3 S4 S5 = some (r, T0, T1, T2, T3, T5)) : Met l yX11_sentence (Cond.code yX11_sentence cX11_sentence 2 (some .int) :: TB) rm_X11_sentence (PC D q [.ref o0] (fl [g11 q o0 a0 tp S0, g5 q (a0 1) a1 tp S1, g7 q (a0 5) a2 S2, g7 q (a0 6) a3 S3, g8 q (a0 3) a4 S4, g9 q tp a5 940 S5]) sz) ((fun A => QI D A r (fl [g11 q o0 a0 tp T0, g5 q (a0 1) a1 tp T1, g7 q (a0 5) a2 T2, g7 q (a0 6) a3 T3, g8 q (a0 3) a4 S4, g9 q tp a5 940 T5])) (va_A (fl [g11 q o0 a0 tp S0, g5 q (a0 1) a1 tp S1, g7 q (a0 5) a2 S2, g7 q (a0 6) a3 S3, g8 q (a0 3) a4 S4, g9 q tp a5 940 S5]) sz)) 0 0 (va_A (fl [g11 q o0 a0 tp S0, g5 q (a0 1) a1 tp S1, g7 q (a0 5) a2 S2, g7 q (a0 6) a3 S3, g8 q (a0 3) a4 S4, g9 q tp a5 940 S5]) sz) := by
  refine k_met (w0 := fl [g11 q o0 a0 tp S0, g5 q (a0 1) a1 tp S1, g7 q (a0 5) a2 S2, g7 q (a0 6) a3 S3, g8 q (a0 3) a4 S4, g9 q tp a5 940 S5]) (Q := fun A => QI D A r (fl [g11 q o0 a0 tp T0, g5 q (a0 1) a1 tp T1, g7 q (a0 5) a2 T2, g7 q (a0 6) a3 T3, g8 q (a0 3) a4 S4, g9 q tp a5 940 T5])) (by decide +kernel) (Nat.le_of_ble_eq_true rfl) ?_
  intro p e s m args below meth c A ls C hP hD hS hl
  have hl : lv_has ls 2 [(0, .ref o0)] := hl
  unfold F_X11_sentence at hF
  have C : cx p s m args meth c cX11_sentence 2 (some .int) RX11 D q A := C
  obtain ⟨hx, hb, hr, hml, hown, hts, hlk, hA, hK, hN, hV⟩ := id C
  refine lv_aload_n hx hb dX11_sentence_0 rfl (lv_at hl 0 rfl) ?_
  refine k_get (v := .ref (a0 6)) C fg_X11_40 hP 0 rfl rfl dX11_sentence_1 ?_
  refine lv_aload_n hx hb dX11_sentence_4 rfl (lv_at hl 0 rfl) ?_
  refine k_get (v := .ref (a0 1)) C fg_X11_10 hP 0 rfl rfl dX11_sentence_5 ?_
  refine lv_aload_n hx hb dX11_sentence_8 rfl (lv_at hl 0 rfl) ?_
  refine k_get (v := .ref (a0 3)) C fg_X11_26 hP 0 rfl rfl dX11_sentence_9 ?_
  obtain ⟨r2, U3, U4, hc1, hF⟩ := ob3_s hF
  refine k_igrp (gs8 := [g11 q o0 a0 tp S0, g5 q (a0 1) a1 tp U4, g7 q (a0 5) a2 S2, g7 q (a0 6) a3 U3, g8 q (a0 3) a4 S4, g9 q tp a5 940 S5]) C (k_rV (As := [.ref (a0 1), .ref (a0 3)]) (rest := []) C (c_X7_readFrom l D q tp (a0 6) a3 S3 (a0 1) a1 S1 a5 S5 (a0 3) a4 S4 _ hc1) kc_X7_readFrom ml_X11_355 rfl rfl (by decide) (flP hP [3, 1, 5, 4] rfl) (flD hD [3, 1, 5, 4] (by decide) rfl) hS (va_recv hK hP (ci := 7) (q0 := 11) rfl rfl) rfl hl.1 rfl (Nat.le_of_ble_eq_true rfl) dX11_sentence_12 (by decide)) hP hD hS [3, 1, 5, 4] [0, 2] [g11 q o0 a0 tp S0, g7 q (a0 5) a2 S2] 6 (by decide) rfl rfl rfl rfl rfl rfl (by simp only [List.map_cons, List.map_nil, gad11, gad5, gad7, gad8, gad9]) (fun H locs hP hD hS => ?_)
  refine lv_istore_n (lv' := [(1, .int r2), (0, .ref o0)]) hx hb dX11_sentence_15 rfl hl (by decide) rfl (fun ls hl => ?_)
  refine lv_aload_n hx hb dX11_sentence_16 rfl (lv_at hl 1 rfl) ?_
  obtain ⟨U6, U7, hc5, hF⟩ := ob2_s hF
  refine k_vgrp (gs8 := [g11 q o0 a0 tp U6, g5 q (a0 1) a1 tp U4, g7 q (a0 5) a2 S2, g7 q (a0 6) a3 U3, g8 q (a0 3) a4 S4, g9 q tp a5 940 U7]) C (k_rV (As := []) (rest := []) C (c_X11_closeText l D q tp o0 a0 S0 a1 U4 a5 S5 _ hc5) kc_X11_closeText ml_X11_121 rfl rfl (by decide) (flP hP [0, 1, 5] rfl) (flD hD [0, 1, 5] (by decide) rfl) hS (va_recv hK hP (ci := 11) (q0 := 0) rfl rfl) rfl hl.1 rfl (Nat.le_of_ble_eq_true rfl) dX11_sentence_17 (by decide)) hP hD hS [0, 1, 5] [2, 3, 4] [g7 q (a0 5) a2 S2, g7 q (a0 6) a3 U3, g8 q (a0 3) a4 S4] 6 (by decide) rfl rfl rfl rfl rfl rfl (by simp only [List.map_cons, List.map_nil, gad11, gad5, gad7, gad8, gad9]) (fun H locs hP hD hS => ?_)
  refine lv_iload_n hx hb dX11_sentence_20 rfl (lv_at hl 0 rfl) ?_
  refine lv_if_ne (tgt := 34) hx hb dX11_sentence_21 (by decide) (fun c8 => ?_) (fun c8 => ?_)
  · have hF := op_f hF c8
    refine lv_aload_n hx hb dX11_sentence_34 rfl (lv_at hl 1 rfl) ?_
    refine k_get (v := .ref (a0 5)) C fg_X11_36 hP 0 rfl rfl dX11_sentence_35 ?_
    refine lv_aload_n hx hb dX11_sentence_38 rfl (lv_at hl 1 rfl) ?_
    refine k_get (v := .ref (a0 6)) C fg_X11_40 hP 0 rfl rfl dX11_sentence_39 ?_
    obtain ⟨U10, hc9, hF⟩ := ob1_s hF
    refine k_vgrp (gs8 := [g11 q o0 a0 tp U6, g5 q (a0 1) a1 tp U4, g7 q (a0 5) a2 U10, g7 q (a0 6) a3 U3, g8 q (a0 3) a4 S4, g9 q tp a5 940 U7]) C (k_rV (As := [.ref (a0 6)]) (rest := []) C (c_X7_copyN l D q (a0 5) a2 S2 (a0 6) a3 U3 _ hc9) kc_X7_copyFrom ml_X11_356 rfl rfl (by decide) (flP hP [2, 3] rfl) (flD hD [2, 3] (by decide) rfl) hS (va_recv hK hP (ci := 7) (q0 := 7) rfl rfl) rfl hl.1 rfl (Nat.le_of_ble_eq_true rfl) dX11_sentence_42 (by decide)) hP hD hS [2, 3] [0, 1, 4, 5] [g11 q o0 a0 tp U6, g5 q (a0 1) a1 tp U4, g8 q (a0 3) a4 S4, g9 q tp a5 940 U7] 6 (by decide) rfl rfl rfl rfl rfl rfl (by simp only [List.map_cons, List.map_nil, gad11, gad5, gad7, gad8, gad9]) (fun H locs hP hD hS => ?_)
    refine lv_aload_n hx hb dX11_sentence_45 rfl (lv_at hl 1 rfl) ?_
    refine k_get (v := .ref (a0 5)) C fg_X11_36 hP 0 rfl rfl dX11_sentence_46 ?_
    refine k_get (v := .int (U10.1 4)) C fg_X11_359 hP 7 rfl rfl dX11_sentence_49 ?_
    cases hF
    exact k_iret C hP hS dX11_sentence_52
  · have hF := op_t hF c8
    refine lv_iconst (v := (-1 : Int32)) hx hb dX11_sentence_24 (by decide) ?_
    refine lv_aload_n hx hb dX11_sentence_25 rfl (lv_at hl 1 rfl) ?_
    refine k_get (v := .ref (a0 1)) C fg_X11_10 hP 0 rfl rfl dX11_sentence_26 ?_
    refine k_get (v := .int (U4.1 9)) C fg_X11_124 hP 2 rfl rfl dX11_sentence_29 ?_
    refine lv_isub hx hb dX11_sentence_32 ?_
    generalize ((-1 : Int32) - (U4.1 9)) = rr at hF ⊢
    cases hF
    exact k_iret C hP hS dX11_sentence_33

abbrev rm_X11_image : Room := ({ frames := 2, cells := 0, slots := 0, locals := 101 } : Room)
def F_X11_image (S0 : St) (S1 : St) (S2 : St) (S3 : St) (S4 : St) (S5 : St) (S6 : St) (S7 : St) (S8 : St) (S9 : St) (x1 : Int32) : Option (Int32 × St × St × St × St × St × St) := if x1 < 0 then (some ((0 : Int32), S2, S3, S4, S5, S6, S7)) else (if x1 < (2 : Int32) then (if oob x1 2 then none else if x1 = (0 : Int32) then (ob1 (F_X8_copyN S4 S9) fun U6 => if oob x1 2 then none else if x1 = (0 : Int32) then (ob1 (F_X7_copyN S3 S8) fun U10 => if oob x1 2 then none else if x1 = (0 : Int32) then (nw (sI S2 2 (1 : Int32)) fun U13 => some ((1 : Int32), U13, U10, U6, S5, S6, S7)) else if x1 = (1 : Int32) then (nw (sI S5 2 (1 : Int32)) fun U16 => some ((1 : Int32), S2, U10, U6, U16, S6, S7)) else none) else if x1 = (1 : Int32) then (ob1 (F_X7_copyN S6 S8) fun U20 => if oob x1 2 then none else if x1 = (0 : Int32) then (nw (sI S2 2 (1 : Int32)) fun U23 => some ((1 : Int32), U23, S3, U6, S5, U20, S7)) else if x1 = (1 : Int32) then (nw (sI S5 2 (1 : Int32)) fun U26 => some ((1 : Int32), S2, S3, U6, U26, U20, S7)) else none) else none) else if x1 = (1 : Int32) then (ob1 (F_X8_copyN S7 S9) fun U30 => if oob x1 2 then none else if x1 = (0 : Int32) then (ob1 (F_X7_copyN S3 S8) fun U34 => if oob x1 2 then none else if x1 = (0 : Int32) then (nw (sI S2 2 (1 : Int32)) fun U37 => some ((1 : Int32), U37, U34, S4, S5, S6, U30)) else if x1 = (1 : Int32) then (nw (sI S5 2 (1 : Int32)) fun U40 => some ((1 : Int32), S2, U34, S4, U40, S6, U30)) else none) else if x1 = (1 : Int32) then (ob1 (F_X7_copyN S6 S8) fun U44 => if oob x1 2 then none else if x1 = (0 : Int32) then (nw (sI S2 2 (1 : Int32)) fun U47 => some ((1 : Int32), U47, S3, S4, S5, U44, U30)) else if x1 = (1 : Int32) then (nw (sI S5 2 (1 : Int32)) fun U50 => some ((1 : Int32), S2, S3, S4, U50, U44, U30)) else none) else none) else none) else (some ((0 : Int32), S2, S3, S4, S5, S6, S7)))
set_option maxRecDepth 100000 in
set_option maxHeartbeats 4000000 in
theorem c_X11_image (l : Launch) (D : va_G) (q : Nat → ClassId) (tp : Nat) (o0 : Nat) (a0 : Nat → Nat) (S0 : St) (a1 : Nat → Nat) (S1 : St) (a2 : Nat → Nat) (S2 : St) (a3 : Nat → Nat) (S3 : St) (a4 : Nat → Nat) (S4 : St) (a5 : Nat → Nat) (S5 : St) (a6 : Nat → Nat) (S6 : St) (a7 : Nat → Nat) (S7 : St) (a8 : Nat → Nat) (S8 : St) (a9 : Nat → Nat) (S9 : St) (sz : Nat) (x1 : Int32) {r : Int32} {T2 : St} {T3 : St} {T4 : St} {T5 : St} {T6 : St} {T7 : St} (hF : F_X11_image S0 S1 S2 S3 S4 S5 S6 S7 S8 S9 x1 = some (r, T2, T3, T4, T5, T6, T7)) : Met l yX11_image (Cond.code yX11_image cX11_image 2 (some .boolean) :: TB) rm_X11_image (PC D q [.ref o0, .int x1] (fl [g11 q o0 a0 tp S0, g21 q (a0 9) a1 S1, g3 q (a1 0) a2 S2, g7 q (a2 2) a3 S3, g8 q (a2 1) a4 S4, g3 q (a1 1) a5 S5, g7 q (a5 2) a6 S6, g8 q (a5 1) a7 S7, g7 q (a0 5) a8 S8, g8 q (a0 3) a9 S9]) sz) ((fun A => QI D A r (fl [g11 q o0 a0 tp S0, g21 q (a0 9) a1 S1, g3 q (a1 0) a2 T2, g7 q (a2 2) a3 T3, g8 q (a2 1) a4 T4, g3 q (a1 1) a5 T5, g7 q (a5 2) a6 T6, g8 q (a5 1) a7 T7, g7 q (a0 5) a8 S8, g8 q (a0 3) a9 S9])) (va_A (fl [g11 q o0 a0 tp S0, g21 q (a0 9) a1 S1, g3 q (a1 0) a2 S2, g7 q (a2 2) a3 S3, g8 q (a2 1) a4 S4, g3 q (a1 1) a5 S5, g7 q (a5 2) a6 S6, g8 q (a5 1) a7 S7, g7 q (a0 5) a8 S8, g8 q (a0 3) a9 S9]) sz)) 0 0 (va_A (fl [g11 q o0 a0 tp S0, g21 q (a0 9) a1 S1, g3 q (a1 0) a2 S2, g7 q (a2 2) a3 S3, g8 q (a2 1) a4 S4, g3 q (a1 1) a5 S5, g7 q (a5 2) a6 S6, g8 q (a5 1) a7 S7, g7 q (a0 5) a8 S8, g8 q (a0 3) a9 S9]) sz) := by
  refine k_met (w0 := fl [g11 q o0 a0 tp S0, g21 q (a0 9) a1 S1, g3 q (a1 0) a2 S2, g7 q (a2 2) a3 S3, g8 q (a2 1) a4 S4, g3 q (a1 1) a5 S5, g7 q (a5 2) a6 S6, g8 q (a5 1) a7 S7, g7 q (a0 5) a8 S8, g8 q (a0 3) a9 S9]) (Q := fun A => QI D A r (fl [g11 q o0 a0 tp S0, g21 q (a0 9) a1 S1, g3 q (a1 0) a2 T2, g7 q (a2 2) a3 T3, g8 q (a2 1) a4 T4, g3 q (a1 1) a5 T5, g7 q (a5 2) a6 T6, g8 q (a5 1) a7 T7, g7 q (a0 5) a8 S8, g8 q (a0 3) a9 S9])) (by decide +kernel) (Nat.le_of_ble_eq_true rfl) ?_
  intro p e s m args below meth c A ls C hP hD hS hl
  have hl : lv_has ls 2 [(0, .ref o0), (1, .int x1)] := hl
  unfold F_X11_image at hF
  have C : cx p s m args meth c cX11_image 2 (some .boolean) RX11 D q A := C
  obtain ⟨hx, hb, hr, hml, hown, hts, hlk, hA, hK, hN, hV⟩ := id C
  refine lv_iload_n hx hb dX11_image_0 rfl (lv_at hl 1 rfl) ?_
  refine lv_if_lt (tgt := 9) hx hb dX11_image_1 (by decide) (fun c1 => ?_) (fun c1 => ?_)
  · have hF := op_t hF c1
    refine lv_iconst (v := (0 : Int32)) hx hb dX11_image_9 (by decide) ?_
    cases hF
    exact k_zret C (by decide) hP hS dX11_image_10
  · have hF := op_f hF c1
    refine lv_iload_n hx hb dX11_image_4 rfl (lv_at hl 1 rfl) ?_
    refine lv_iconst (v := (2 : Int32)) hx hb dX11_image_5 (by decide) ?_
    refine lv_icmp_lt (tgt := 11) hx hb dX11_image_6 (by decide) (fun c2 => ?_) (fun c2 => ?_)
    · have hF := op_t hF c2
      refine lv_aload_n hx hb dX11_image_11 rfl (lv_at hl 0 rfl) ?_
      refine k_get (v := .ref (a0 9)) C fg_X11_59 hP 0 rfl rfl dX11_image_12 ?_
      refine lv_iload_n hx hb dX11_image_15 rfl (lv_at hl 1 rfl) ?_
      obtain ⟨h3, hF⟩ := op_ck hF
      refine k_rld (t0 := 4) (a := a1) C hP 2 rfl rfl h3 dX11_image_16 ?_
      by_cases c4 : x1 = (0 : Int32)
      · have hF := op_t hF c4
        rw [show x1.toNatClampNeg = 0 from by rw [c4]; rfl]
        refine k_get (v := .ref (a2 1)) C fg_X11_366 hP 3 rfl rfl dX11_image_17 ?_
        refine lv_aload_n hx hb dX11_image_20 rfl (lv_at hl 0 rfl) ?_
        refine k_get (v := .ref (a0 3)) C fg_X11_26 hP 0 rfl rfl dX11_image_21 ?_
        obtain ⟨U6, hc5, hF⟩ := ob1_s hF
        refine k_vgrp (gs8 := [g11 q o0 a0 tp S0, g21 q (a0 9) a1 S1, g3 q (a1 0) a2 S2, g7 q (a2 2) a3 S3, g8 q (a2 1) a4 U6, g3 q (a1 1) a5 S5, g7 q (a5 2) a6 S6, g8 q (a5 1) a7 S7, g7 q (a0 5) a8 S8, g8 q (a0 3) a9 S9]) C (k_rV (As := [.ref (a0 3)]) (rest := []) C (c_X8_copyN l D q (a2 1) a4 S4 (a0 3) a9 S9 _ hc5) kc_X8_copyFrom ml_X11_127 rfl rfl (by decide) (flP hP [4, 9] rfl) (flD hD [4, 9] (by decide) rfl) hS (va_recv hK hP (ci := 8) (q0 := 8) rfl rfl) rfl hl.1 rfl (Nat.le_of_ble_eq_true rfl) dX11_image_24 (by decide)) hP hD hS [4, 9] [0, 1, 2, 3, 5, 6, 7, 8] [g11 q o0 a0 tp S0, g21 q (a0 9) a1 S1, g3 q (a1 0) a2 S2, g7 q (a2 2) a3 S3, g3 q (a1 1) a5 S5, g7 q (a5 2) a6 S6, g8 q (a5 1) a7 S7, g7 q (a0 5) a8 S8] 10 (by decide) rfl rfl rfl rfl rfl rfl (by simp only [List.map_cons, List.map_nil, gad11, gad21, gad3, gad7, gad8]) (fun H locs hP hD hS => ?_)
        refine lv_aload_n hx hb dX11_image_27 rfl (lv_at hl 0 rfl) ?_
        refine k_get (v := .ref (a0 9)) C fg_X11_59 hP 0 rfl rfl dX11_image_28 ?_
        refine lv_iload_n hx hb dX11_image_31 rfl (lv_at hl 1 rfl) ?_
        obtain ⟨h7, hF⟩ := op_ck hF
        refine k_rld (t0 := 4) (a := a1) C hP 2 rfl rfl h7 dX11_image_32 ?_
        by_cases c8 : x1 = (0 : Int32)
        · have hF := op_t hF c8
          rw [show x1.toNatClampNeg = 0 from by rw [c8]; rfl]
          refine k_get (v := .ref (a2 2)) C fg_X11_367 hP 3 rfl rfl dX11_image_33 ?_
          refine lv_aload_n hx hb dX11_image_36 rfl (lv_at hl 0 rfl) ?_
          refine k_get (v := .ref (a0 5)) C fg_X11_36 hP 0 rfl rfl dX11_image_37 ?_
          obtain ⟨U10, hc9, hF⟩ := ob1_s hF
          refine k_vgrp (gs8 := [g11 q o0 a0 tp S0, g21 q (a0 9) a1 S1, g3 q (a1 0) a2 S2, g7 q (a2 2) a3 U10, g8 q (a2 1) a4 U6, g3 q (a1 1) a5 S5, g7 q (a5 2) a6 S6, g8 q (a5 1) a7 S7, g7 q (a0 5) a8 S8, g8 q (a0 3) a9 S9]) C (k_rV (As := [.ref (a0 5)]) (rest := []) C (c_X7_copyN l D q (a2 2) a3 S3 (a0 5) a8 S8 _ hc9) kc_X7_copyFrom ml_X11_356 rfl rfl (by decide) (flP hP [3, 8] rfl) (flD hD [3, 8] (by decide) rfl) hS (va_recv hK hP (ci := 7) (q0 := 4) rfl rfl) rfl hl.1 rfl (Nat.le_of_ble_eq_true rfl) dX11_image_40 (by decide)) hP hD hS [3, 8] [0, 1, 2, 4, 5, 6, 7, 9] [g11 q o0 a0 tp S0, g21 q (a0 9) a1 S1, g3 q (a1 0) a2 S2, g8 q (a2 1) a4 U6, g3 q (a1 1) a5 S5, g7 q (a5 2) a6 S6, g8 q (a5 1) a7 S7, g8 q (a0 3) a9 S9] 10 (by decide) rfl rfl rfl rfl rfl rfl (by simp only [List.map_cons, List.map_nil, gad11, gad21, gad3, gad7, gad8]) (fun H locs hP hD hS => ?_)
          refine lv_aload_n hx hb dX11_image_43 rfl (lv_at hl 0 rfl) ?_
          refine k_get (v := .ref (a0 9)) C fg_X11_59 hP 0 rfl rfl dX11_image_44 ?_
          refine lv_iload_n hx hb dX11_image_47 rfl (lv_at hl 1 rfl) ?_
          obtain ⟨h11, hF⟩ := op_ck hF
          refine k_rld (t0 := 4) (a := a1) C hP 2 rfl rfl h11 dX11_image_48 ?_
          by_cases c12 : x1 = (0 : Int32)
          · have hF := op_t hF c12
            rw [show x1.toNatClampNeg = 0 from by rw [c12]; rfl]
            refine lv_iconst (v := (1 : Int32)) hx hb dX11_image_49 (by decide) ?_
            obtain ⟨U13, e14, hF⟩ := nw_s hF
            refine k_put (W8 := fl [g11 q o0 a0 tp S0, g21 q (a0 9) a1 S1, g3 q (a1 0) a2 U13, g7 q (a2 2) a3 U10, g8 q (a2 1) a4 U6, g3 q (a1 1) a5 S5, g7 q (a5 2) a6 S6, g8 q (a5 1) a7 S7, g7 q (a0 5) a8 S8, g8 q (a0 3) a9 S9]) C fp_X11_368 hP hD hS 3 rfl rfl rfl (Nat.le_of_ble_eq_true rfl) dX11_image_50 (by rw [e14]; rfl) (fun H locs hP hD hS => ?_)
            refine lv_iconst (v := (1 : Int32)) hx hb dX11_image_53 (by decide) ?_
            cases hF
            exact k_zret C (by decide) hP hS dX11_image_54
          have hF := op_f hF c12
          by_cases c15 : x1 = (1 : Int32)
          · have hF := op_t hF c15
            rw [show x1.toNatClampNeg = 1 from by rw [c15]; rfl]
            refine lv_iconst (v := (1 : Int32)) hx hb dX11_image_49 (by decide) ?_
            obtain ⟨U16, e17, hF⟩ := nw_s hF
            refine k_put (W8 := fl [g11 q o0 a0 tp S0, g21 q (a0 9) a1 S1, g3 q (a1 0) a2 S2, g7 q (a2 2) a3 U10, g8 q (a2 1) a4 U6, g3 q (a1 1) a5 U16, g7 q (a5 2) a6 S6, g8 q (a5 1) a7 S7, g7 q (a0 5) a8 S8, g8 q (a0 3) a9 S9]) C fp_X11_368 hP hD hS 19 rfl rfl rfl (Nat.le_of_ble_eq_true rfl) dX11_image_50 (by rw [e17]; rfl) (fun H locs hP hD hS => ?_)
            refine lv_iconst (v := (1 : Int32)) hx hb dX11_image_53 (by decide) ?_
            cases hF
            exact k_zret C (by decide) hP hS dX11_image_54
          have hF := op_f hF c15
          cases hF
        have hF := op_f hF c8
        by_cases c18 : x1 = (1 : Int32)
        · have hF := op_t hF c18
          rw [show x1.toNatClampNeg = 1 from by rw [c18]; rfl]
          refine k_get (v := .ref (a5 2)) C fg_X11_367 hP 19 rfl rfl dX11_image_33 ?_
          refine lv_aload_n hx hb dX11_image_36 rfl (lv_at hl 0 rfl) ?_
          refine k_get (v := .ref (a0 5)) C fg_X11_36 hP 0 rfl rfl dX11_image_37 ?_
          obtain ⟨U20, hc19, hF⟩ := ob1_s hF
          refine k_vgrp (gs8 := [g11 q o0 a0 tp S0, g21 q (a0 9) a1 S1, g3 q (a1 0) a2 S2, g7 q (a2 2) a3 S3, g8 q (a2 1) a4 U6, g3 q (a1 1) a5 S5, g7 q (a5 2) a6 U20, g8 q (a5 1) a7 S7, g7 q (a0 5) a8 S8, g8 q (a0 3) a9 S9]) C (k_rV (As := [.ref (a0 5)]) (rest := []) C (c_X7_copyN l D q (a5 2) a6 S6 (a0 5) a8 S8 _ hc19) kc_X7_copyFrom ml_X11_356 rfl rfl (by decide) (flP hP [6, 8] rfl) (flD hD [6, 8] (by decide) rfl) hS (va_recv hK hP (ci := 7) (q0 := 20) rfl rfl) rfl hl.1 rfl (Nat.le_of_ble_eq_true rfl) dX11_image_40 (by decide)) hP hD hS [6, 8] [0, 1, 2, 3, 4, 5, 7, 9] [g11 q o0 a0 tp S0, g21 q (a0 9) a1 S1, g3 q (a1 0) a2 S2, g7 q (a2 2) a3 S3, g8 q (a2 1) a4 U6, g3 q (a1 1) a5 S5, g8 q (a5 1) a7 S7, g8 q (a0 3) a9 S9] 10 (by decide) rfl rfl rfl rfl rfl rfl (by simp only [List.map_cons, List.map_nil, gad11, gad21, gad3, gad7, gad8]) (fun H locs hP hD hS => ?_)
          refine lv_aload_n hx hb dX11_image_43 rfl (lv_at hl 0 rfl) ?_
          refine k_get (v := .ref (a0 9)) C fg_X11_59 hP 0 rfl rfl dX11_image_44 ?_
          refine lv_iload_n hx hb dX11_image_47 rfl (lv_at hl 1 rfl) ?_
          obtain ⟨h21, hF⟩ := op_ck hF
          refine k_rld (t0 := 4) (a := a1) C hP 2 rfl rfl h21 dX11_image_48 ?_
          by_cases c22 : x1 = (0 : Int32)
          · have hF := op_t hF c22
            rw [show x1.toNatClampNeg = 0 from by rw [c22]; rfl]
            refine lv_iconst (v := (1 : Int32)) hx hb dX11_image_49 (by decide) ?_
            obtain ⟨U23, e24, hF⟩ := nw_s hF
            refine k_put (W8 := fl [g11 q o0 a0 tp S0, g21 q (a0 9) a1 S1, g3 q (a1 0) a2 U23, g7 q (a2 2) a3 S3, g8 q (a2 1) a4 U6, g3 q (a1 1) a5 S5, g7 q (a5 2) a6 U20, g8 q (a5 1) a7 S7, g7 q (a0 5) a8 S8, g8 q (a0 3) a9 S9]) C fp_X11_368 hP hD hS 3 rfl rfl rfl (Nat.le_of_ble_eq_true rfl) dX11_image_50 (by rw [e24]; rfl) (fun H locs hP hD hS => ?_)
            refine lv_iconst (v := (1 : Int32)) hx hb dX11_image_53 (by decide) ?_
            cases hF
            exact k_zret C (by decide) hP hS dX11_image_54
          have hF := op_f hF c22
          by_cases c25 : x1 = (1 : Int32)
          · have hF := op_t hF c25
            rw [show x1.toNatClampNeg = 1 from by rw [c25]; rfl]
            refine lv_iconst (v := (1 : Int32)) hx hb dX11_image_49 (by decide) ?_
            obtain ⟨U26, e27, hF⟩ := nw_s hF
            refine k_put (W8 := fl [g11 q o0 a0 tp S0, g21 q (a0 9) a1 S1, g3 q (a1 0) a2 S2, g7 q (a2 2) a3 S3, g8 q (a2 1) a4 U6, g3 q (a1 1) a5 U26, g7 q (a5 2) a6 U20, g8 q (a5 1) a7 S7, g7 q (a0 5) a8 S8, g8 q (a0 3) a9 S9]) C fp_X11_368 hP hD hS 19 rfl rfl rfl (Nat.le_of_ble_eq_true rfl) dX11_image_50 (by rw [e27]; rfl) (fun H locs hP hD hS => ?_)
            refine lv_iconst (v := (1 : Int32)) hx hb dX11_image_53 (by decide) ?_
            cases hF
            exact k_zret C (by decide) hP hS dX11_image_54
          have hF := op_f hF c25
          cases hF
        have hF := op_f hF c18
        cases hF
      have hF := op_f hF c4
      by_cases c28 : x1 = (1 : Int32)
      · have hF := op_t hF c28
        rw [show x1.toNatClampNeg = 1 from by rw [c28]; rfl]
        refine k_get (v := .ref (a5 1)) C fg_X11_366 hP 19 rfl rfl dX11_image_17 ?_
        refine lv_aload_n hx hb dX11_image_20 rfl (lv_at hl 0 rfl) ?_
        refine k_get (v := .ref (a0 3)) C fg_X11_26 hP 0 rfl rfl dX11_image_21 ?_
        obtain ⟨U30, hc29, hF⟩ := ob1_s hF
        refine k_vgrp (gs8 := [g11 q o0 a0 tp S0, g21 q (a0 9) a1 S1, g3 q (a1 0) a2 S2, g7 q (a2 2) a3 S3, g8 q (a2 1) a4 S4, g3 q (a1 1) a5 S5, g7 q (a5 2) a6 S6, g8 q (a5 1) a7 U30, g7 q (a0 5) a8 S8, g8 q (a0 3) a9 S9]) C (k_rV (As := [.ref (a0 3)]) (rest := []) C (c_X8_copyN l D q (a5 1) a7 S7 (a0 3) a9 S9 _ hc29) kc_X8_copyFrom ml_X11_127 rfl rfl (by decide) (flP hP [7, 9] rfl) (flD hD [7, 9] (by decide) rfl) hS (va_recv hK hP (ci := 8) (q0 := 24) rfl rfl) rfl hl.1 rfl (Nat.le_of_ble_eq_true rfl) dX11_image_24 (by decide)) hP hD hS [7, 9] [0, 1, 2, 3, 4, 5, 6, 8] [g11 q o0 a0 tp S0, g21 q (a0 9) a1 S1, g3 q (a1 0) a2 S2, g7 q (a2 2) a3 S3, g8 q (a2 1) a4 S4, g3 q (a1 1) a5 S5, g7 q (a5 2) a6 S6, g7 q (a0 5) a8 S8] 10 (by decide) rfl rfl rfl rfl rfl rfl (by simp only [List.map_cons, List.map_nil, gad11, gad21, gad3, gad7, gad8]) (fun H locs hP hD hS => ?_)
        refine lv_aload_n hx hb dX11_image_27 rfl (lv_at hl 0 rfl) ?_
        refine k_get (v := .ref (a0 9)) C fg_X11_59 hP 0 rfl rfl dX11_image_28 ?_
        refine lv_iload_n hx hb dX11_image_31 rfl (lv_at hl 1 rfl) ?_
        obtain ⟨h31, hF⟩ := op_ck hF
        refine k_rld (t0 := 4) (a := a1) C hP 2 rfl rfl h31 dX11_image_32 ?_
        by_cases c32 : x1 = (0 : Int32)
        · have hF := op_t hF c32
          rw [show x1.toNatClampNeg = 0 from by rw [c32]; rfl]
          refine k_get (v := .ref (a2 2)) C fg_X11_367 hP 3 rfl rfl dX11_image_33 ?_
          refine lv_aload_n hx hb dX11_image_36 rfl (lv_at hl 0 rfl) ?_
          refine k_get (v := .ref (a0 5)) C fg_X11_36 hP 0 rfl rfl dX11_image_37 ?_
          obtain ⟨U34, hc33, hF⟩ := ob1_s hF
          refine k_vgrp (gs8 := [g11 q o0 a0 tp S0, g21 q (a0 9) a1 S1, g3 q (a1 0) a2 S2, g7 q (a2 2) a3 U34, g8 q (a2 1) a4 S4, g3 q (a1 1) a5 S5, g7 q (a5 2) a6 S6, g8 q (a5 1) a7 U30, g7 q (a0 5) a8 S8, g8 q (a0 3) a9 S9]) C (k_rV (As := [.ref (a0 5)]) (rest := []) C (c_X7_copyN l D q (a2 2) a3 S3 (a0 5) a8 S8 _ hc33) kc_X7_copyFrom ml_X11_356 rfl rfl (by decide) (flP hP [3, 8] rfl) (flD hD [3, 8] (by decide) rfl) hS (va_recv hK hP (ci := 7) (q0 := 4) rfl rfl) rfl hl.1 rfl (Nat.le_of_ble_eq_true rfl) dX11_image_40 (by decide)) hP hD hS [3, 8] [0, 1, 2, 4, 5, 6, 7, 9] [g11 q o0 a0 tp S0, g21 q (a0 9) a1 S1, g3 q (a1 0) a2 S2, g8 q (a2 1) a4 S4, g3 q (a1 1) a5 S5, g7 q (a5 2) a6 S6, g8 q (a5 1) a7 U30, g8 q (a0 3) a9 S9] 10 (by decide) rfl rfl rfl rfl rfl rfl (by simp only [List.map_cons, List.map_nil, gad11, gad21, gad3, gad7, gad8]) (fun H locs hP hD hS => ?_)
          refine lv_aload_n hx hb dX11_image_43 rfl (lv_at hl 0 rfl) ?_
          refine k_get (v := .ref (a0 9)) C fg_X11_59 hP 0 rfl rfl dX11_image_44 ?_
          refine lv_iload_n hx hb dX11_image_47 rfl (lv_at hl 1 rfl) ?_
          obtain ⟨h35, hF⟩ := op_ck hF
          refine k_rld (t0 := 4) (a := a1) C hP 2 rfl rfl h35 dX11_image_48 ?_
          by_cases c36 : x1 = (0 : Int32)
          · have hF := op_t hF c36
            rw [show x1.toNatClampNeg = 0 from by rw [c36]; rfl]
            refine lv_iconst (v := (1 : Int32)) hx hb dX11_image_49 (by decide) ?_
            obtain ⟨U37, e38, hF⟩ := nw_s hF
            refine k_put (W8 := fl [g11 q o0 a0 tp S0, g21 q (a0 9) a1 S1, g3 q (a1 0) a2 U37, g7 q (a2 2) a3 U34, g8 q (a2 1) a4 S4, g3 q (a1 1) a5 S5, g7 q (a5 2) a6 S6, g8 q (a5 1) a7 U30, g7 q (a0 5) a8 S8, g8 q (a0 3) a9 S9]) C fp_X11_368 hP hD hS 3 rfl rfl rfl (Nat.le_of_ble_eq_true rfl) dX11_image_50 (by rw [e38]; rfl) (fun H locs hP hD hS => ?_)
            refine lv_iconst (v := (1 : Int32)) hx hb dX11_image_53 (by decide) ?_
            cases hF
            exact k_zret C (by decide) hP hS dX11_image_54
          have hF := op_f hF c36
          by_cases c39 : x1 = (1 : Int32)
          · have hF := op_t hF c39
            rw [show x1.toNatClampNeg = 1 from by rw [c39]; rfl]
            refine lv_iconst (v := (1 : Int32)) hx hb dX11_image_49 (by decide) ?_
            obtain ⟨U40, e41, hF⟩ := nw_s hF
            refine k_put (W8 := fl [g11 q o0 a0 tp S0, g21 q (a0 9) a1 S1, g3 q (a1 0) a2 S2, g7 q (a2 2) a3 U34, g8 q (a2 1) a4 S4, g3 q (a1 1) a5 U40, g7 q (a5 2) a6 S6, g8 q (a5 1) a7 U30, g7 q (a0 5) a8 S8, g8 q (a0 3) a9 S9]) C fp_X11_368 hP hD hS 19 rfl rfl rfl (Nat.le_of_ble_eq_true rfl) dX11_image_50 (by rw [e41]; rfl) (fun H locs hP hD hS => ?_)
            refine lv_iconst (v := (1 : Int32)) hx hb dX11_image_53 (by decide) ?_
            cases hF
            exact k_zret C (by decide) hP hS dX11_image_54
          have hF := op_f hF c39
          cases hF
        have hF := op_f hF c32
        by_cases c42 : x1 = (1 : Int32)
        · have hF := op_t hF c42
          rw [show x1.toNatClampNeg = 1 from by rw [c42]; rfl]
          refine k_get (v := .ref (a5 2)) C fg_X11_367 hP 19 rfl rfl dX11_image_33 ?_
          refine lv_aload_n hx hb dX11_image_36 rfl (lv_at hl 0 rfl) ?_
          refine k_get (v := .ref (a0 5)) C fg_X11_36 hP 0 rfl rfl dX11_image_37 ?_
          obtain ⟨U44, hc43, hF⟩ := ob1_s hF
          refine k_vgrp (gs8 := [g11 q o0 a0 tp S0, g21 q (a0 9) a1 S1, g3 q (a1 0) a2 S2, g7 q (a2 2) a3 S3, g8 q (a2 1) a4 S4, g3 q (a1 1) a5 S5, g7 q (a5 2) a6 U44, g8 q (a5 1) a7 U30, g7 q (a0 5) a8 S8, g8 q (a0 3) a9 S9]) C (k_rV (As := [.ref (a0 5)]) (rest := []) C (c_X7_copyN l D q (a5 2) a6 S6 (a0 5) a8 S8 _ hc43) kc_X7_copyFrom ml_X11_356 rfl rfl (by decide) (flP hP [6, 8] rfl) (flD hD [6, 8] (by decide) rfl) hS (va_recv hK hP (ci := 7) (q0 := 20) rfl rfl) rfl hl.1 rfl (Nat.le_of_ble_eq_true rfl) dX11_image_40 (by decide)) hP hD hS [6, 8] [0, 1, 2, 3, 4, 5, 7, 9] [g11 q o0 a0 tp S0, g21 q (a0 9) a1 S1, g3 q (a1 0) a2 S2, g7 q (a2 2) a3 S3, g8 q (a2 1) a4 S4, g3 q (a1 1) a5 S5, g8 q (a5 1) a7 U30, g8 q (a0 3) a9 S9] 10 (by decide) rfl rfl rfl rfl rfl rfl (by simp only [List.map_cons, List.map_nil, gad11, gad21, gad3, gad7, gad8]) (fun H locs hP hD hS => ?_)
          refine lv_aload_n hx hb dX11_image_43 rfl (lv_at hl 0 rfl) ?_
          refine k_get (v := .ref (a0 9)) C fg_X11_59 hP 0 rfl rfl dX11_image_44 ?_
          refine lv_iload_n hx hb dX11_image_47 rfl (lv_at hl 1 rfl) ?_
          obtain ⟨h45, hF⟩ := op_ck hF
          refine k_rld (t0 := 4) (a := a1) C hP 2 rfl rfl h45 dX11_image_48 ?_
          by_cases c46 : x1 = (0 : Int32)
          · have hF := op_t hF c46
            rw [show x1.toNatClampNeg = 0 from by rw [c46]; rfl]
            refine lv_iconst (v := (1 : Int32)) hx hb dX11_image_49 (by decide) ?_
            obtain ⟨U47, e48, hF⟩ := nw_s hF
            refine k_put (W8 := fl [g11 q o0 a0 tp S0, g21 q (a0 9) a1 S1, g3 q (a1 0) a2 U47, g7 q (a2 2) a3 S3, g8 q (a2 1) a4 S4, g3 q (a1 1) a5 S5, g7 q (a5 2) a6 U44, g8 q (a5 1) a7 U30, g7 q (a0 5) a8 S8, g8 q (a0 3) a9 S9]) C fp_X11_368 hP hD hS 3 rfl rfl rfl (Nat.le_of_ble_eq_true rfl) dX11_image_50 (by rw [e48]; rfl) (fun H locs hP hD hS => ?_)
            refine lv_iconst (v := (1 : Int32)) hx hb dX11_image_53 (by decide) ?_
            cases hF
            exact k_zret C (by decide) hP hS dX11_image_54
          have hF := op_f hF c46
          by_cases c49 : x1 = (1 : Int32)
          · have hF := op_t hF c49
            rw [show x1.toNatClampNeg = 1 from by rw [c49]; rfl]
            refine lv_iconst (v := (1 : Int32)) hx hb dX11_image_49 (by decide) ?_
            obtain ⟨U50, e51, hF⟩ := nw_s hF
            refine k_put (W8 := fl [g11 q o0 a0 tp S0, g21 q (a0 9) a1 S1, g3 q (a1 0) a2 S2, g7 q (a2 2) a3 S3, g8 q (a2 1) a4 S4, g3 q (a1 1) a5 U50, g7 q (a5 2) a6 U44, g8 q (a5 1) a7 U30, g7 q (a0 5) a8 S8, g8 q (a0 3) a9 S9]) C fp_X11_368 hP hD hS 19 rfl rfl rfl (Nat.le_of_ble_eq_true rfl) dX11_image_50 (by rw [e51]; rfl) (fun H locs hP hD hS => ?_)
            refine lv_iconst (v := (1 : Int32)) hx hb dX11_image_53 (by decide) ?_
            cases hF
            exact k_zret C (by decide) hP hS dX11_image_54
          have hF := op_f hF c49
          cases hF
        have hF := op_f hF c42
        cases hF
      have hF := op_f hF c28
      cases hF
    · have hF := op_f hF c2
      refine lv_iconst (v := (0 : Int32)) hx hb dX11_image_9 (by decide) ?_
      cases hF
      exact k_zret C (by decide) hP hS dX11_image_10

abbrev rm_X11_restore : Room := ({ frames := 2, cells := 0, slots := 0, locals := 101 } : Room)
def F_X11_restore (S0 : St) (S1 : St) (S2 : St) (S3 : St) (S4 : St) (S5 : St) (S6 : St) (S7 : St) (S8 : St) (S9 : St) (S10 : St) (x1 : Int32) : Option (Int32 × St × St × St) := if x1 < 0 then (some ((0 : Int32), S1, S9, S10)) else (if (2 : Int32) ≤ x1 then (some ((0 : Int32), S1, S9, S10)) else (if oob x1 2 then none else if x1 = (0 : Int32) then (if (S3.1 2) = 0 then (some ((0 : Int32), S1, S9, S10)) else (if oob x1 2 then none else if x1 = (0 : Int32) then (ob1 (F_X8_copyN S10 S5) fun U9 => if oob x1 2 then none else if x1 = (0 : Int32) then (ob1 (F_X7_copyN S9 S4) fun U13 => ob1 (F_X2_forget S1) fun U15 => some ((1 : Int32), U15, U13, U9)) else if x1 = (1 : Int32) then (ob1 (F_X7_copyN S9 S7) fun U18 => ob1 (F_X2_forget S1) fun U20 => some ((1 : Int32), U20, U18, U9)) else none) else if x1 = (1 : Int32) then (ob1 (F_X8_copyN S10 S8) fun U23 => if oob x1 2 then none else if x1 = (0 : Int32) then (ob1 (F_X7_copyN S9 S4) fun U27 => ob1 (F_X2_forget S1) fun U29 => some ((1 : Int32), U29, U27, U23)) else if x1 = (1 : Int32) then (ob1 (F_X7_copyN S9 S7) fun U32 => ob1 (F_X2_forget S1) fun U34 => some ((1 : Int32), U34, U32, U23)) else none) else none)) else if x1 = (1 : Int32) then (if (S6.1 2) = 0 then (some ((0 : Int32), S1, S9, S10)) else (if oob x1 2 then none else if x1 = (0 : Int32) then (ob1 (F_X8_copyN S10 S5) fun U40 => if oob x1 2 then none else if x1 = (0 : Int32) then (ob1 (F_X7_copyN S9 S4) fun U44 => ob1 (F_X2_forget S1) fun U46 => some ((1 : Int32), U46, U44, U40)) else if x1 = (1 : Int32) then (ob1 (F_X7_copyN S9 S7) fun U49 => ob1 (F_X2_forget S1) fun U51 => some ((1 : Int32), U51, U49, U40)) else none) else if x1 = (1 : Int32) then (ob1 (F_X8_copyN S10 S8) fun U54 => if oob x1 2 then none else if x1 = (0 : Int32) then (ob1 (F_X7_copyN S9 S4) fun U58 => ob1 (F_X2_forget S1) fun U60 => some ((1 : Int32), U60, U58, U54)) else if x1 = (1 : Int32) then (ob1 (F_X7_copyN S9 S7) fun U63 => ob1 (F_X2_forget S1) fun U65 => some ((1 : Int32), U65, U63, U54)) else none) else none)) else none))
set_option maxRecDepth 100000 in
set_option maxHeartbeats 4000000 in
theorem c_X11_restore (l : Launch) (D : va_G) (q : Nat → ClassId) (tp : Nat) (o0 : Nat) (a0 : Nat → Nat) (S0 : St) (a1 : Nat → Nat) (S1 : St) (a2 : Nat → Nat) (S2 : St) (a3 : Nat → Nat) (S3 : St) (a4 : Nat → Nat) (S4 : St) (a5 : Nat → Nat) (S5 : St) (a6 : Nat → Nat) (S6 : St) (a7 : Nat → Nat) (S7 : St) (a8 : Nat → Nat) (S8 : St) (a9 : Nat → Nat) (S9 : St) (a10 : Nat → Nat) (S10 : St) (sz : Nat) (x1 : Int32) {r : Int32} {T1 : St} {T9 : St} {T10 : St} (hF : F_X11_restore S0 S1 S2 S3 S4 S5 S6 S7 S8 S9 S10 x1 = some (r, T1, T9, T10)) : Met l yX11_restore (Cond.code yX11_restore cX11_restore 2 (some .boolean) :: TB) rm_X11_restore (PC D q [.ref o0, .int x1] (fl [g11 q o0 a0 tp S0, g2 q (a0 8) a1 S1, g21 q (a0 9) a2 S2, g3 q (a2 0) a3 S3, g7 q (a3 2) a4 S4, g8 q (a3 1) a5 S5, g3 q (a2 1) a6 S6, g7 q (a6 2) a7 S7, g8 q (a6 1) a8 S8, g7 q (a0 5) a9 S9, g8 q (a0 3) a10 S10]) sz) ((fun A => QI D A r (fl [g11 q o0 a0 tp S0, g2 q (a0 8) a1 T1, g21 q (a0 9) a2 S2, g3 q (a2 0) a3 S3, g7 q (a3 2) a4 S4, g8 q (a3 1) a5 S5, g3 q (a2 1) a6 S6, g7 q (a6 2) a7 S7, g8 q (a6 1) a8 S8, g7 q (a0 5) a9 T9, g8 q (a0 3) a10 T10])) (va_A (fl [g11 q o0 a0 tp S0, g2 q (a0 8) a1 S1, g21 q (a0 9) a2 S2, g3 q (a2 0) a3 S3, g7 q (a3 2) a4 S4, g8 q (a3 1) a5 S5, g3 q (a2 1) a6 S6, g7 q (a6 2) a7 S7, g8 q (a6 1) a8 S8, g7 q (a0 5) a9 S9, g8 q (a0 3) a10 S10]) sz)) 0 0 (va_A (fl [g11 q o0 a0 tp S0, g2 q (a0 8) a1 S1, g21 q (a0 9) a2 S2, g3 q (a2 0) a3 S3, g7 q (a3 2) a4 S4, g8 q (a3 1) a5 S5, g3 q (a2 1) a6 S6, g7 q (a6 2) a7 S7, g8 q (a6 1) a8 S8, g7 q (a0 5) a9 S9, g8 q (a0 3) a10 S10]) sz) := by
  refine k_met (w0 := fl [g11 q o0 a0 tp S0, g2 q (a0 8) a1 S1, g21 q (a0 9) a2 S2, g3 q (a2 0) a3 S3, g7 q (a3 2) a4 S4, g8 q (a3 1) a5 S5, g3 q (a2 1) a6 S6, g7 q (a6 2) a7 S7, g8 q (a6 1) a8 S8, g7 q (a0 5) a9 S9, g8 q (a0 3) a10 S10]) (Q := fun A => QI D A r (fl [g11 q o0 a0 tp S0, g2 q (a0 8) a1 T1, g21 q (a0 9) a2 S2, g3 q (a2 0) a3 S3, g7 q (a3 2) a4 S4, g8 q (a3 1) a5 S5, g3 q (a2 1) a6 S6, g7 q (a6 2) a7 S7, g8 q (a6 1) a8 S8, g7 q (a0 5) a9 T9, g8 q (a0 3) a10 T10])) (by decide +kernel) (Nat.le_of_ble_eq_true rfl) ?_
  intro p e s m args below meth c A ls C hP hD hS hl
  have hl : lv_has ls 2 [(0, .ref o0), (1, .int x1)] := hl
  unfold F_X11_restore at hF
  have C : cx p s m args meth c cX11_restore 2 (some .boolean) RX11 D q A := C
  obtain ⟨hx, hb, hr, hml, hown, hts, hlk, hA, hK, hN, hV⟩ := id C
  refine lv_iload_n hx hb dX11_restore_0 rfl (lv_at hl 1 rfl) ?_
  refine lv_if_lt (tgt := 21) hx hb dX11_restore_1 (by decide) (fun c1 => ?_) (fun c1 => ?_)
  · have hF := op_t hF c1
    refine lv_iconst (v := (0 : Int32)) hx hb dX11_restore_21 (by decide) ?_
    cases hF
    exact k_zret C (by decide) hP hS dX11_restore_22
  · have hF := op_f hF c1
    refine lv_iload_n hx hb dX11_restore_4 rfl (lv_at hl 1 rfl) ?_
    refine lv_iconst (v := (2 : Int32)) hx hb dX11_restore_5 (by decide) ?_
    refine lv_icmp_ge (tgt := 21) hx hb dX11_restore_6 (by decide) (fun c2 => ?_) (fun c2 => ?_)
    · have hF := op_t hF c2
      refine lv_iconst (v := (0 : Int32)) hx hb dX11_restore_21 (by decide) ?_
      cases hF
      exact k_zret C (by decide) hP hS dX11_restore_22
    · have hF := op_f hF c2
      refine lv_aload_n hx hb dX11_restore_9 rfl (lv_at hl 0 rfl) ?_
      refine k_get (v := .ref (a0 9)) C fg_X11_59 hP 0 rfl rfl dX11_restore_10 ?_
      refine lv_iload_n hx hb dX11_restore_13 rfl (lv_at hl 1 rfl) ?_
      obtain ⟨h3, hF⟩ := op_ck hF
      refine k_rld (t0 := 4) (a := a2) C hP 3 rfl rfl h3 dX11_restore_14 ?_
      by_cases c4 : x1 = (0 : Int32)
      · have hF := op_t hF c4
        rw [show x1.toNatClampNeg = 0 from by rw [c4]; rfl]
        refine k_get (v := .int (S3.1 2)) C fg_X11_368 hP 4 rfl rfl dX11_restore_15 ?_
        refine lv_if_ne (tgt := 23) hx hb dX11_restore_18 (by decide) (fun c5 => ?_) (fun c5 => ?_)
        · have hF := op_f hF c5
          refine lv_aload_n hx hb dX11_restore_23 rfl (lv_at hl 0 rfl) ?_
          refine k_get (v := .ref (a0 3)) C fg_X11_26 hP 0 rfl rfl dX11_restore_24 ?_
          refine lv_aload_n hx hb dX11_restore_27 rfl (lv_at hl 0 rfl) ?_
          refine k_get (v := .ref (a0 9)) C fg_X11_59 hP 0 rfl rfl dX11_restore_28 ?_
          refine lv_iload_n hx hb dX11_restore_31 rfl (lv_at hl 1 rfl) ?_
          obtain ⟨h6, hF⟩ := op_ck hF
          refine k_rld (t0 := 4) (a := a2) C hP 3 rfl rfl h6 dX11_restore_32 ?_
          by_cases c7 : x1 = (0 : Int32)
          · have hF := op_t hF c7
            rw [show x1.toNatClampNeg = 0 from by rw [c7]; rfl]
            refine k_get (v := .ref (a3 1)) C fg_X11_366 hP 4 rfl rfl dX11_restore_33 ?_
            obtain ⟨U9, hc8, hF⟩ := ob1_s hF
            refine k_vgrp (gs8 := [g11 q o0 a0 tp S0, g2 q (a0 8) a1 S1, g21 q (a0 9) a2 S2, g3 q (a2 0) a3 S3, g7 q (a3 2) a4 S4, g8 q (a3 1) a5 S5, g3 q (a2 1) a6 S6, g7 q (a6 2) a7 S7, g8 q (a6 1) a8 S8, g7 q (a0 5) a9 S9, g8 q (a0 3) a10 U9]) C (k_rV (As := [.ref (a3 1)]) (rest := []) C (c_X8_copyN l D q (a0 3) a10 S10 (a3 1) a5 S5 _ hc8) kc_X8_copyFrom ml_X11_127 rfl rfl (by decide) (flP hP [10, 5] rfl) (flD hD [10, 5] (by decide) rfl) hS (va_recv hK hP (ci := 8) (q0 := 40) rfl rfl) rfl hl.1 rfl (Nat.le_of_ble_eq_true rfl) dX11_restore_36 (by decide)) hP hD hS [10, 5] [0, 1, 2, 3, 4, 6, 7, 8, 9] [g11 q o0 a0 tp S0, g2 q (a0 8) a1 S1, g21 q (a0 9) a2 S2, g3 q (a2 0) a3 S3, g7 q (a3 2) a4 S4, g3 q (a2 1) a6 S6, g7 q (a6 2) a7 S7, g8 q (a6 1) a8 S8, g7 q (a0 5) a9 S9] 11 (by decide) rfl rfl rfl rfl rfl rfl (by simp only [List.map_cons, List.map_nil, gad11, gad2, gad21, gad3, gad7, gad8]) (fun H locs hP hD hS => ?_)
            refine lv_aload_n hx hb dX11_restore_39 rfl (lv_at hl 0 rfl) ?_
            refine k_get (v := .ref (a0 5)) C fg_X11_36 hP 0 rfl rfl dX11_restore_40 ?_
            refine lv_aload_n hx hb dX11_restore_43 rfl (lv_at hl 0 rfl) ?_
            refine k_get (v := .ref (a0 9)) C fg_X11_59 hP 0 rfl rfl dX11_restore_44 ?_
            refine lv_iload_n hx hb dX11_restore_47 rfl (lv_at hl 1 rfl) ?_
            obtain ⟨h10, hF⟩ := op_ck hF
            refine k_rld (t0 := 4) (a := a2) C hP 3 rfl rfl h10 dX11_restore_48 ?_
            by_cases c11 : x1 = (0 : Int32)
            · have hF := op_t hF c11
              rw [show x1.toNatClampNeg = 0 from by rw [c11]; rfl]
              refine k_get (v := .ref (a3 2)) C fg_X11_367 hP 4 rfl rfl dX11_restore_49 ?_
              obtain ⟨U13, hc12, hF⟩ := ob1_s hF
              refine k_vgrp (gs8 := [g11 q o0 a0 tp S0, g2 q (a0 8) a1 S1, g21 q (a0 9) a2 S2, g3 q (a2 0) a3 S3, g7 q (a3 2) a4 S4, g8 q (a3 1) a5 S5, g3 q (a2 1) a6 S6, g7 q (a6 2) a7 S7, g8 q (a6 1) a8 S8, g7 q (a0 5) a9 U13, g8 q (a0 3) a10 U9]) C (k_rV (As := [.ref (a3 2)]) (rest := []) C (c_X7_copyN l D q (a0 5) a9 S9 (a3 2) a4 S4 _ hc12) kc_X7_copyFrom ml_X11_356 rfl rfl (by decide) (flP hP [9, 4] rfl) (flD hD [9, 4] (by decide) rfl) hS (va_recv hK hP (ci := 7) (q0 := 36) rfl rfl) rfl hl.1 rfl (Nat.le_of_ble_eq_true rfl) dX11_restore_52 (by decide)) hP hD hS [9, 4] [0, 1, 2, 3, 5, 6, 7, 8, 10] [g11 q o0 a0 tp S0, g2 q (a0 8) a1 S1, g21 q (a0 9) a2 S2, g3 q (a2 0) a3 S3, g8 q (a3 1) a5 S5, g3 q (a2 1) a6 S6, g7 q (a6 2) a7 S7, g8 q (a6 1) a8 S8, g8 q (a0 3) a10 U9] 11 (by decide) rfl rfl rfl rfl rfl rfl (by simp only [List.map_cons, List.map_nil, gad11, gad2, gad21, gad3, gad7, gad8]) (fun H locs hP hD hS => ?_)
              refine lv_aload_n hx hb dX11_restore_55 rfl (lv_at hl 0 rfl) ?_
              refine k_get (v := .ref (a0 8)) C fg_X11_53 hP 0 rfl rfl dX11_restore_56 ?_
              obtain ⟨U15, hc14, hF⟩ := ob1_s hF
              refine k_vgrp (gs8 := [g11 q o0 a0 tp S0, g2 q (a0 8) a1 U15, g21 q (a0 9) a2 S2, g3 q (a2 0) a3 S3, g7 q (a3 2) a4 S4, g8 q (a3 1) a5 S5, g3 q (a2 1) a6 S6, g7 q (a6 2) a7 S7, g8 q (a6 1) a8 S8, g7 q (a0 5) a9 U13, g8 q (a0 3) a10 U9]) C (k_rV (As := []) (rest := []) C (c_X2_forget l D q (a0 8) a1 S1 _ hc14) kc_X2_forget ml_X11_134 rfl rfl (by decide) (flP hP [1] rfl) (flD hD [1] (by decide) rfl) hS (va_recv hK hP (ci := 2) (q0 := 2) rfl rfl) rfl hl.1 rfl (Nat.le_of_ble_eq_true rfl) dX11_restore_59 (by decide)) hP hD hS [1] [0, 2, 3, 4, 5, 6, 7, 8, 9, 10] [g11 q o0 a0 tp S0, g21 q (a0 9) a2 S2, g3 q (a2 0) a3 S3, g7 q (a3 2) a4 S4, g8 q (a3 1) a5 S5, g3 q (a2 1) a6 S6, g7 q (a6 2) a7 S7, g8 q (a6 1) a8 S8, g7 q (a0 5) a9 U13, g8 q (a0 3) a10 U9] 11 (by decide) rfl rfl rfl rfl rfl rfl (by simp only [List.map_cons, List.map_nil, gad11, gad2, gad21, gad3, gad7, gad8]) (fun H locs hP hD hS => ?_)
              refine lv_iconst (v := (1 : Int32)) hx hb dX11_restore_62 (by decide) ?_
              cases hF
              exact k_zret C (by decide) hP hS dX11_restore_63
            have hF := op_f hF c11
            by_cases c16 : x1 = (1 : Int32)
            · have hF := op_t hF c16
              rw [show x1.toNatClampNeg = 1 from by rw [c16]; rfl]
              refine k_get (v := .ref (a6 2)) C fg_X11_367 hP 20 rfl rfl dX11_restore_49 ?_
              obtain ⟨U18, hc17, hF⟩ := ob1_s hF
              refine k_vgrp (gs8 := [g11 q o0 a0 tp S0, g2 q (a0 8) a1 S1, g21 q (a0 9) a2 S2, g3 q (a2 0) a3 S3, g7 q (a3 2) a4 S4, g8 q (a3 1) a5 S5, g3 q (a2 1) a6 S6, g7 q (a6 2) a7 S7, g8 q (a6 1) a8 S8, g7 q (a0 5) a9 U18, g8 q (a0 3) a10 U9]) C (k_rV (As := [.ref (a6 2)]) (rest := []) C (c_X7_copyN l D q (a0 5) a9 S9 (a6 2) a7 S7 _ hc17) kc_X7_copyFrom ml_X11_356 rfl rfl (by decide) (flP hP [9, 7] rfl) (flD hD [9, 7] (by decide) rfl) hS (va_recv hK hP (ci := 7) (q0 := 36) rfl rfl) rfl hl.1 rfl (Nat.le_of_ble_eq_true rfl) dX11_restore_52 (by decide)) hP hD hS [9, 7] [0, 1, 2, 3, 4, 5, 6, 8, 10] [g11 q o0 a0 tp S0, g2 q (a0 8) a1 S1, g21 q (a0 9) a2 S2, g3 q (a2 0) a3 S3, g7 q (a3 2) a4 S4, g8 q (a3 1) a5 S5, g3 q (a2 1) a6 S6, g8 q (a6 1) a8 S8, g8 q (a0 3) a10 U9] 11 (by decide) rfl rfl rfl rfl rfl rfl (by simp only [List.map_cons, List.map_nil, gad11, gad2, gad21, gad3, gad7, gad8]) (fun H locs hP hD hS => ?_)
              refine lv_aload_n hx hb dX11_restore_55 rfl (lv_at hl 0 rfl) ?_
              refine k_get (v := .ref (a0 8)) C fg_X11_53 hP 0 rfl rfl dX11_restore_56 ?_
              obtain ⟨U20, hc19, hF⟩ := ob1_s hF
              refine k_vgrp (gs8 := [g11 q o0 a0 tp S0, g2 q (a0 8) a1 U20, g21 q (a0 9) a2 S2, g3 q (a2 0) a3 S3, g7 q (a3 2) a4 S4, g8 q (a3 1) a5 S5, g3 q (a2 1) a6 S6, g7 q (a6 2) a7 S7, g8 q (a6 1) a8 S8, g7 q (a0 5) a9 U18, g8 q (a0 3) a10 U9]) C (k_rV (As := []) (rest := []) C (c_X2_forget l D q (a0 8) a1 S1 _ hc19) kc_X2_forget ml_X11_134 rfl rfl (by decide) (flP hP [1] rfl) (flD hD [1] (by decide) rfl) hS (va_recv hK hP (ci := 2) (q0 := 2) rfl rfl) rfl hl.1 rfl (Nat.le_of_ble_eq_true rfl) dX11_restore_59 (by decide)) hP hD hS [1] [0, 2, 3, 4, 5, 6, 7, 8, 9, 10] [g11 q o0 a0 tp S0, g21 q (a0 9) a2 S2, g3 q (a2 0) a3 S3, g7 q (a3 2) a4 S4, g8 q (a3 1) a5 S5, g3 q (a2 1) a6 S6, g7 q (a6 2) a7 S7, g8 q (a6 1) a8 S8, g7 q (a0 5) a9 U18, g8 q (a0 3) a10 U9] 11 (by decide) rfl rfl rfl rfl rfl rfl (by simp only [List.map_cons, List.map_nil, gad11, gad2, gad21, gad3, gad7, gad8]) (fun H locs hP hD hS => ?_)
              refine lv_iconst (v := (1 : Int32)) hx hb dX11_restore_62 (by decide) ?_
              cases hF
              exact k_zret C (by decide) hP hS dX11_restore_63
            have hF := op_f hF c16
            cases hF
          have hF := op_f hF c7
          by_cases c21 : x1 = (1 : Int32)
          · have hF := op_t hF c21
            rw [show x1.toNatClampNeg = 1 from by rw [c21]; rfl]
            refine k_get (v := .ref (a6 1)) C fg_X11_366 hP 20 rfl rfl dX11_restore_33 ?_
            obtain ⟨U23, hc22, hF⟩ := ob1_s hF
            refine k_vgrp (gs8 := [g11 q o0 a0 tp S0, g2 q (a0 8) a1 S1, g21 q (a0 9) a2 S2, g3 q (a2 0) a3 S3, g7 q (a3 2) a4 S4, g8 q (a3 1) a5 S5, g3 q (a2 1) a6 S6, g7 q (a6 2) a7 S7, g8 q (a6 1) a8 S8, g7 q (a0 5) a9 S9, g8 q (a0 3) a10 U23]) C (k_rV (As := [.ref (a6 1)]) (rest := []) C (c_X8_copyN l D q (a0 3) a10 S10 (a6 1) a8 S8 _ hc22) kc_X8_copyFrom ml_X11_127 rfl rfl (by decide) (flP hP [10, 8] rfl) (flD hD [10, 8] (by decide) rfl) hS (va_recv hK hP (ci := 8) (q0 := 40) rfl rfl) rfl hl.1 rfl (Nat.le_of_ble_eq_true rfl) dX11_restore_36 (by decide)) hP hD hS [10, 8] [0, 1, 2, 3, 4, 5, 6, 7, 9] [g11 q o0 a0 tp S0, g2 q (a0 8) a1 S1, g21 q (a0 9) a2 S2, g3 q (a2 0) a3 S3, g7 q (a3 2) a4 S4, g8 q (a3 1) a5 S5, g3 q (a2 1) a6 S6, g7 q (a6 2) a7 S7, g7 q (a0 5) a9 S9] 11 (by decide) rfl rfl rfl rfl rfl rfl (by simp only [List.map_cons, List.map_nil, gad11, gad2, gad21, gad3, gad7, gad8]) (fun H locs hP hD hS => ?_)
            refine lv_aload_n hx hb dX11_restore_39 rfl (lv_at hl 0 rfl) ?_
            refine k_get (v := .ref (a0 5)) C fg_X11_36 hP 0 rfl rfl dX11_restore_40 ?_
            refine lv_aload_n hx hb dX11_restore_43 rfl (lv_at hl 0 rfl) ?_
            refine k_get (v := .ref (a0 9)) C fg_X11_59 hP 0 rfl rfl dX11_restore_44 ?_
            refine lv_iload_n hx hb dX11_restore_47 rfl (lv_at hl 1 rfl) ?_
            obtain ⟨h24, hF⟩ := op_ck hF
            refine k_rld (t0 := 4) (a := a2) C hP 3 rfl rfl h24 dX11_restore_48 ?_
            by_cases c25 : x1 = (0 : Int32)
            · have hF := op_t hF c25
              rw [show x1.toNatClampNeg = 0 from by rw [c25]; rfl]
              refine k_get (v := .ref (a3 2)) C fg_X11_367 hP 4 rfl rfl dX11_restore_49 ?_
              obtain ⟨U27, hc26, hF⟩ := ob1_s hF
              refine k_vgrp (gs8 := [g11 q o0 a0 tp S0, g2 q (a0 8) a1 S1, g21 q (a0 9) a2 S2, g3 q (a2 0) a3 S3, g7 q (a3 2) a4 S4, g8 q (a3 1) a5 S5, g3 q (a2 1) a6 S6, g7 q (a6 2) a7 S7, g8 q (a6 1) a8 S8, g7 q (a0 5) a9 U27, g8 q (a0 3) a10 U23]) C (k_rV (As := [.ref (a3 2)]) (rest := []) C (c_X7_copyN l D q (a0 5) a9 S9 (a3 2) a4 S4 _ hc26) kc_X7_copyFrom ml_X11_356 rfl rfl (by decide) (flP hP [9, 4] rfl) (flD hD [9, 4] (by decide) rfl) hS (va_recv hK hP (ci := 7) (q0 := 36) rfl rfl) rfl hl.1 rfl (Nat.le_of_ble_eq_true rfl) dX11_restore_52 (by decide)) hP hD hS [9, 4] [0, 1, 2, 3, 5, 6, 7, 8, 10] [g11 q o0 a0 tp S0, g2 q (a0 8) a1 S1, g21 q (a0 9) a2 S2, g3 q (a2 0) a3 S3, g8 q (a3 1) a5 S5, g3 q (a2 1) a6 S6, g7 q (a6 2) a7 S7, g8 q (a6 1) a8 S8, g8 q (a0 3) a10 U23] 11 (by decide) rfl rfl rfl rfl rfl rfl (by simp only [List.map_cons, List.map_nil, gad11, gad2, gad21, gad3, gad7, gad8]) (fun H locs hP hD hS => ?_)
              refine lv_aload_n hx hb dX11_restore_55 rfl (lv_at hl 0 rfl) ?_
              refine k_get (v := .ref (a0 8)) C fg_X11_53 hP 0 rfl rfl dX11_restore_56 ?_
              obtain ⟨U29, hc28, hF⟩ := ob1_s hF
              refine k_vgrp (gs8 := [g11 q o0 a0 tp S0, g2 q (a0 8) a1 U29, g21 q (a0 9) a2 S2, g3 q (a2 0) a3 S3, g7 q (a3 2) a4 S4, g8 q (a3 1) a5 S5, g3 q (a2 1) a6 S6, g7 q (a6 2) a7 S7, g8 q (a6 1) a8 S8, g7 q (a0 5) a9 U27, g8 q (a0 3) a10 U23]) C (k_rV (As := []) (rest := []) C (c_X2_forget l D q (a0 8) a1 S1 _ hc28) kc_X2_forget ml_X11_134 rfl rfl (by decide) (flP hP [1] rfl) (flD hD [1] (by decide) rfl) hS (va_recv hK hP (ci := 2) (q0 := 2) rfl rfl) rfl hl.1 rfl (Nat.le_of_ble_eq_true rfl) dX11_restore_59 (by decide)) hP hD hS [1] [0, 2, 3, 4, 5, 6, 7, 8, 9, 10] [g11 q o0 a0 tp S0, g21 q (a0 9) a2 S2, g3 q (a2 0) a3 S3, g7 q (a3 2) a4 S4, g8 q (a3 1) a5 S5, g3 q (a2 1) a6 S6, g7 q (a6 2) a7 S7, g8 q (a6 1) a8 S8, g7 q (a0 5) a9 U27, g8 q (a0 3) a10 U23] 11 (by decide) rfl rfl rfl rfl rfl rfl (by simp only [List.map_cons, List.map_nil, gad11, gad2, gad21, gad3, gad7, gad8]) (fun H locs hP hD hS => ?_)
              refine lv_iconst (v := (1 : Int32)) hx hb dX11_restore_62 (by decide) ?_
              cases hF
              exact k_zret C (by decide) hP hS dX11_restore_63
            have hF := op_f hF c25
            by_cases c30 : x1 = (1 : Int32)
            · have hF := op_t hF c30
              rw [show x1.toNatClampNeg = 1 from by rw [c30]; rfl]
              refine k_get (v := .ref (a6 2)) C fg_X11_367 hP 20 rfl rfl dX11_restore_49 ?_
              obtain ⟨U32, hc31, hF⟩ := ob1_s hF
              refine k_vgrp (gs8 := [g11 q o0 a0 tp S0, g2 q (a0 8) a1 S1, g21 q (a0 9) a2 S2, g3 q (a2 0) a3 S3, g7 q (a3 2) a4 S4, g8 q (a3 1) a5 S5, g3 q (a2 1) a6 S6, g7 q (a6 2) a7 S7, g8 q (a6 1) a8 S8, g7 q (a0 5) a9 U32, g8 q (a0 3) a10 U23]) C (k_rV (As := [.ref (a6 2)]) (rest := []) C (c_X7_copyN l D q (a0 5) a9 S9 (a6 2) a7 S7 _ hc31) kc_X7_copyFrom ml_X11_356 rfl rfl (by decide) (flP hP [9, 7] rfl) (flD hD [9, 7] (by decide) rfl) hS (va_recv hK hP (ci := 7) (q0 := 36) rfl rfl) rfl hl.1 rfl (Nat.le_of_ble_eq_true rfl) dX11_restore_52 (by decide)) hP hD hS [9, 7] [0, 1, 2, 3, 4, 5, 6, 8, 10] [g11 q o0 a0 tp S0, g2 q (a0 8) a1 S1, g21 q (a0 9) a2 S2, g3 q (a2 0) a3 S3, g7 q (a3 2) a4 S4, g8 q (a3 1) a5 S5, g3 q (a2 1) a6 S6, g8 q (a6 1) a8 S8, g8 q (a0 3) a10 U23] 11 (by decide) rfl rfl rfl rfl rfl rfl (by simp only [List.map_cons, List.map_nil, gad11, gad2, gad21, gad3, gad7, gad8]) (fun H locs hP hD hS => ?_)
              refine lv_aload_n hx hb dX11_restore_55 rfl (lv_at hl 0 rfl) ?_
              refine k_get (v := .ref (a0 8)) C fg_X11_53 hP 0 rfl rfl dX11_restore_56 ?_
              obtain ⟨U34, hc33, hF⟩ := ob1_s hF
              refine k_vgrp (gs8 := [g11 q o0 a0 tp S0, g2 q (a0 8) a1 U34, g21 q (a0 9) a2 S2, g3 q (a2 0) a3 S3, g7 q (a3 2) a4 S4, g8 q (a3 1) a5 S5, g3 q (a2 1) a6 S6, g7 q (a6 2) a7 S7, g8 q (a6 1) a8 S8, g7 q (a0 5) a9 U32, g8 q (a0 3) a10 U23]) C (k_rV (As := []) (rest := []) C (c_X2_forget l D q (a0 8) a1 S1 _ hc33) kc_X2_forget ml_X11_134 rfl rfl (by decide) (flP hP [1] rfl) (flD hD [1] (by decide) rfl) hS (va_recv hK hP (ci := 2) (q0 := 2) rfl rfl) rfl hl.1 rfl (Nat.le_of_ble_eq_true rfl) dX11_restore_59 (by decide)) hP hD hS [1] [0, 2, 3, 4, 5, 6, 7, 8, 9, 10] [g11 q o0 a0 tp S0, g21 q (a0 9) a2 S2, g3 q (a2 0) a3 S3, g7 q (a3 2) a4 S4, g8 q (a3 1) a5 S5, g3 q (a2 1) a6 S6, g7 q (a6 2) a7 S7, g8 q (a6 1) a8 S8, g7 q (a0 5) a9 U32, g8 q (a0 3) a10 U23] 11 (by decide) rfl rfl rfl rfl rfl rfl (by simp only [List.map_cons, List.map_nil, gad11, gad2, gad21, gad3, gad7, gad8]) (fun H locs hP hD hS => ?_)
              refine lv_iconst (v := (1 : Int32)) hx hb dX11_restore_62 (by decide) ?_
              cases hF
              exact k_zret C (by decide) hP hS dX11_restore_63
            have hF := op_f hF c30
            cases hF
          have hF := op_f hF c21
          cases hF
        · have hF := op_t hF c5
          refine lv_iconst (v := (0 : Int32)) hx hb dX11_restore_21 (by decide) ?_
          cases hF
          exact k_zret C (by decide) hP hS dX11_restore_22
      have hF := op_f hF c4
      by_cases c35 : x1 = (1 : Int32)
      · have hF := op_t hF c35
        rw [show x1.toNatClampNeg = 1 from by rw [c35]; rfl]
        refine k_get (v := .int (S6.1 2)) C fg_X11_368 hP 20 rfl rfl dX11_restore_15 ?_
        refine lv_if_ne (tgt := 23) hx hb dX11_restore_18 (by decide) (fun c36 => ?_) (fun c36 => ?_)
        · have hF := op_f hF c36
          refine lv_aload_n hx hb dX11_restore_23 rfl (lv_at hl 0 rfl) ?_
          refine k_get (v := .ref (a0 3)) C fg_X11_26 hP 0 rfl rfl dX11_restore_24 ?_
          refine lv_aload_n hx hb dX11_restore_27 rfl (lv_at hl 0 rfl) ?_
          refine k_get (v := .ref (a0 9)) C fg_X11_59 hP 0 rfl rfl dX11_restore_28 ?_
          refine lv_iload_n hx hb dX11_restore_31 rfl (lv_at hl 1 rfl) ?_
          obtain ⟨h37, hF⟩ := op_ck hF
          refine k_rld (t0 := 4) (a := a2) C hP 3 rfl rfl h37 dX11_restore_32 ?_
          by_cases c38 : x1 = (0 : Int32)
          · have hF := op_t hF c38
            rw [show x1.toNatClampNeg = 0 from by rw [c38]; rfl]
            refine k_get (v := .ref (a3 1)) C fg_X11_366 hP 4 rfl rfl dX11_restore_33 ?_
            obtain ⟨U40, hc39, hF⟩ := ob1_s hF
            refine k_vgrp (gs8 := [g11 q o0 a0 tp S0, g2 q (a0 8) a1 S1, g21 q (a0 9) a2 S2, g3 q (a2 0) a3 S3, g7 q (a3 2) a4 S4, g8 q (a3 1) a5 S5, g3 q (a2 1) a6 S6, g7 q (a6 2) a7 S7, g8 q (a6 1) a8 S8, g7 q (a0 5) a9 S9, g8 q (a0 3) a10 U40]) C (k_rV (As := [.ref (a3 1)]) (rest := []) C (c_X8_copyN l D q (a0 3) a10 S10 (a3 1) a5 S5 _ hc39) kc_X8_copyFrom ml_X11_127 rfl rfl (by decide) (flP hP [10, 5] rfl) (flD hD [10, 5] (by decide) rfl) hS (va_recv hK hP (ci := 8) (q0 := 40) rfl rfl) rfl hl.1 rfl (Nat.le_of_ble_eq_true rfl) dX11_restore_36 (by decide)) hP hD hS [10, 5] [0, 1, 2, 3, 4, 6, 7, 8, 9] [g11 q o0 a0 tp S0, g2 q (a0 8) a1 S1, g21 q (a0 9) a2 S2, g3 q (a2 0) a3 S3, g7 q (a3 2) a4 S4, g3 q (a2 1) a6 S6, g7 q (a6 2) a7 S7, g8 q (a6 1) a8 S8, g7 q (a0 5) a9 S9] 11 (by decide) rfl rfl rfl rfl rfl rfl (by simp only [List.map_cons, List.map_nil, gad11, gad2, gad21, gad3, gad7, gad8]) (fun H locs hP hD hS => ?_)
            refine lv_aload_n hx hb dX11_restore_39 rfl (lv_at hl 0 rfl) ?_
            refine k_get (v := .ref (a0 5)) C fg_X11_36 hP 0 rfl rfl dX11_restore_40 ?_
            refine lv_aload_n hx hb dX11_restore_43 rfl (lv_at hl 0 rfl) ?_
            refine k_get (v := .ref (a0 9)) C fg_X11_59 hP 0 rfl rfl dX11_restore_44 ?_
            refine lv_iload_n hx hb dX11_restore_47 rfl (lv_at hl 1 rfl) ?_
            obtain ⟨h41, hF⟩ := op_ck hF
            refine k_rld (t0 := 4) (a := a2) C hP 3 rfl rfl h41 dX11_restore_48 ?_
            by_cases c42 : x1 = (0 : Int32)
            · have hF := op_t hF c42
              rw [show x1.toNatClampNeg = 0 from by rw [c42]; rfl]
              refine k_get (v := .ref (a3 2)) C fg_X11_367 hP 4 rfl rfl dX11_restore_49 ?_
              obtain ⟨U44, hc43, hF⟩ := ob1_s hF
              refine k_vgrp (gs8 := [g11 q o0 a0 tp S0, g2 q (a0 8) a1 S1, g21 q (a0 9) a2 S2, g3 q (a2 0) a3 S3, g7 q (a3 2) a4 S4, g8 q (a3 1) a5 S5, g3 q (a2 1) a6 S6, g7 q (a6 2) a7 S7, g8 q (a6 1) a8 S8, g7 q (a0 5) a9 U44, g8 q (a0 3) a10 U40]) C (k_rV (As := [.ref (a3 2)]) (rest := []) C (c_X7_copyN l D q (a0 5) a9 S9 (a3 2) a4 S4 _ hc43) kc_X7_copyFrom ml_X11_356 rfl rfl (by decide) (flP hP [9, 4] rfl) (flD hD [9, 4] (by decide) rfl) hS (va_recv hK hP (ci := 7) (q0 := 36) rfl rfl) rfl hl.1 rfl (Nat.le_of_ble_eq_true rfl) dX11_restore_52 (by decide)) hP hD hS [9, 4] [0, 1, 2, 3, 5, 6, 7, 8, 10] [g11 q o0 a0 tp S0, g2 q (a0 8) a1 S1, g21 q (a0 9) a2 S2, g3 q (a2 0) a3 S3, g8 q (a3 1) a5 S5, g3 q (a2 1) a6 S6, g7 q (a6 2) a7 S7, g8 q (a6 1) a8 S8, g8 q (a0 3) a10 U40] 11 (by decide) rfl rfl rfl rfl rfl rfl (by simp only [List.map_cons, List.map_nil, gad11, gad2, gad21, gad3, gad7, gad8]) (fun H locs hP hD hS => ?_)
              refine lv_aload_n hx hb dX11_restore_55 rfl (lv_at hl 0 rfl) ?_
              refine k_get (v := .ref (a0 8)) C fg_X11_53 hP 0 rfl rfl dX11_restore_56 ?_
              obtain ⟨U46, hc45, hF⟩ := ob1_s hF
              refine k_vgrp (gs8 := [g11 q o0 a0 tp S0, g2 q (a0 8) a1 U46, g21 q (a0 9) a2 S2, g3 q (a2 0) a3 S3, g7 q (a3 2) a4 S4, g8 q (a3 1) a5 S5, g3 q (a2 1) a6 S6, g7 q (a6 2) a7 S7, g8 q (a6 1) a8 S8, g7 q (a0 5) a9 U44, g8 q (a0 3) a10 U40]) C (k_rV (As := []) (rest := []) C (c_X2_forget l D q (a0 8) a1 S1 _ hc45) kc_X2_forget ml_X11_134 rfl rfl (by decide) (flP hP [1] rfl) (flD hD [1] (by decide) rfl) hS (va_recv hK hP (ci := 2) (q0 := 2) rfl rfl) rfl hl.1 rfl (Nat.le_of_ble_eq_true rfl) dX11_restore_59 (by decide)) hP hD hS [1] [0, 2, 3, 4, 5, 6, 7, 8, 9, 10] [g11 q o0 a0 tp S0, g21 q (a0 9) a2 S2, g3 q (a2 0) a3 S3, g7 q (a3 2) a4 S4, g8 q (a3 1) a5 S5, g3 q (a2 1) a6 S6, g7 q (a6 2) a7 S7, g8 q (a6 1) a8 S8, g7 q (a0 5) a9 U44, g8 q (a0 3) a10 U40] 11 (by decide) rfl rfl rfl rfl rfl rfl (by simp only [List.map_cons, List.map_nil, gad11, gad2, gad21, gad3, gad7, gad8]) (fun H locs hP hD hS => ?_)
              refine lv_iconst (v := (1 : Int32)) hx hb dX11_restore_62 (by decide) ?_
              cases hF
              exact k_zret C (by decide) hP hS dX11_restore_63
            have hF := op_f hF c42
            by_cases c47 : x1 = (1 : Int32)
            · have hF := op_t hF c47
              rw [show x1.toNatClampNeg = 1 from by rw [c47]; rfl]
              refine k_get (v := .ref (a6 2)) C fg_X11_367 hP 20 rfl rfl dX11_restore_49 ?_
              obtain ⟨U49, hc48, hF⟩ := ob1_s hF
              refine k_vgrp (gs8 := [g11 q o0 a0 tp S0, g2 q (a0 8) a1 S1, g21 q (a0 9) a2 S2, g3 q (a2 0) a3 S3, g7 q (a3 2) a4 S4, g8 q (a3 1) a5 S5, g3 q (a2 1) a6 S6, g7 q (a6 2) a7 S7, g8 q (a6 1) a8 S8, g7 q (a0 5) a9 U49, g8 q (a0 3) a10 U40]) C (k_rV (As := [.ref (a6 2)]) (rest := []) C (c_X7_copyN l D q (a0 5) a9 S9 (a6 2) a7 S7 _ hc48) kc_X7_copyFrom ml_X11_356 rfl rfl (by decide) (flP hP [9, 7] rfl) (flD hD [9, 7] (by decide) rfl) hS (va_recv hK hP (ci := 7) (q0 := 36) rfl rfl) rfl hl.1 rfl (Nat.le_of_ble_eq_true rfl) dX11_restore_52 (by decide)) hP hD hS [9, 7] [0, 1, 2, 3, 4, 5, 6, 8, 10] [g11 q o0 a0 tp S0, g2 q (a0 8) a1 S1, g21 q (a0 9) a2 S2, g3 q (a2 0) a3 S3, g7 q (a3 2) a4 S4, g8 q (a3 1) a5 S5, g3 q (a2 1) a6 S6, g8 q (a6 1) a8 S8, g8 q (a0 3) a10 U40] 11 (by decide) rfl rfl rfl rfl rfl rfl (by simp only [List.map_cons, List.map_nil, gad11, gad2, gad21, gad3, gad7, gad8]) (fun H locs hP hD hS => ?_)
              refine lv_aload_n hx hb dX11_restore_55 rfl (lv_at hl 0 rfl) ?_
              refine k_get (v := .ref (a0 8)) C fg_X11_53 hP 0 rfl rfl dX11_restore_56 ?_
              obtain ⟨U51, hc50, hF⟩ := ob1_s hF
              refine k_vgrp (gs8 := [g11 q o0 a0 tp S0, g2 q (a0 8) a1 U51, g21 q (a0 9) a2 S2, g3 q (a2 0) a3 S3, g7 q (a3 2) a4 S4, g8 q (a3 1) a5 S5, g3 q (a2 1) a6 S6, g7 q (a6 2) a7 S7, g8 q (a6 1) a8 S8, g7 q (a0 5) a9 U49, g8 q (a0 3) a10 U40]) C (k_rV (As := []) (rest := []) C (c_X2_forget l D q (a0 8) a1 S1 _ hc50) kc_X2_forget ml_X11_134 rfl rfl (by decide) (flP hP [1] rfl) (flD hD [1] (by decide) rfl) hS (va_recv hK hP (ci := 2) (q0 := 2) rfl rfl) rfl hl.1 rfl (Nat.le_of_ble_eq_true rfl) dX11_restore_59 (by decide)) hP hD hS [1] [0, 2, 3, 4, 5, 6, 7, 8, 9, 10] [g11 q o0 a0 tp S0, g21 q (a0 9) a2 S2, g3 q (a2 0) a3 S3, g7 q (a3 2) a4 S4, g8 q (a3 1) a5 S5, g3 q (a2 1) a6 S6, g7 q (a6 2) a7 S7, g8 q (a6 1) a8 S8, g7 q (a0 5) a9 U49, g8 q (a0 3) a10 U40] 11 (by decide) rfl rfl rfl rfl rfl rfl (by simp only [List.map_cons, List.map_nil, gad11, gad2, gad21, gad3, gad7, gad8]) (fun H locs hP hD hS => ?_)
              refine lv_iconst (v := (1 : Int32)) hx hb dX11_restore_62 (by decide) ?_
              cases hF
              exact k_zret C (by decide) hP hS dX11_restore_63
            have hF := op_f hF c47
            cases hF
          have hF := op_f hF c38
          by_cases c52 : x1 = (1 : Int32)
          · have hF := op_t hF c52
            rw [show x1.toNatClampNeg = 1 from by rw [c52]; rfl]
            refine k_get (v := .ref (a6 1)) C fg_X11_366 hP 20 rfl rfl dX11_restore_33 ?_
            obtain ⟨U54, hc53, hF⟩ := ob1_s hF
            refine k_vgrp (gs8 := [g11 q o0 a0 tp S0, g2 q (a0 8) a1 S1, g21 q (a0 9) a2 S2, g3 q (a2 0) a3 S3, g7 q (a3 2) a4 S4, g8 q (a3 1) a5 S5, g3 q (a2 1) a6 S6, g7 q (a6 2) a7 S7, g8 q (a6 1) a8 S8, g7 q (a0 5) a9 S9, g8 q (a0 3) a10 U54]) C (k_rV (As := [.ref (a6 1)]) (rest := []) C (c_X8_copyN l D q (a0 3) a10 S10 (a6 1) a8 S8 _ hc53) kc_X8_copyFrom ml_X11_127 rfl rfl (by decide) (flP hP [10, 8] rfl) (flD hD [10, 8] (by decide) rfl) hS (va_recv hK hP (ci := 8) (q0 := 40) rfl rfl) rfl hl.1 rfl (Nat.le_of_ble_eq_true rfl) dX11_restore_36 (by decide)) hP hD hS [10, 8] [0, 1, 2, 3, 4, 5, 6, 7, 9] [g11 q o0 a0 tp S0, g2 q (a0 8) a1 S1, g21 q (a0 9) a2 S2, g3 q (a2 0) a3 S3, g7 q (a3 2) a4 S4, g8 q (a3 1) a5 S5, g3 q (a2 1) a6 S6, g7 q (a6 2) a7 S7, g7 q (a0 5) a9 S9] 11 (by decide) rfl rfl rfl rfl rfl rfl (by simp only [List.map_cons, List.map_nil, gad11, gad2, gad21, gad3, gad7, gad8]) (fun H locs hP hD hS => ?_)
            refine lv_aload_n hx hb dX11_restore_39 rfl (lv_at hl 0 rfl) ?_
            refine k_get (v := .ref (a0 5)) C fg_X11_36 hP 0 rfl rfl dX11_restore_40 ?_
            refine lv_aload_n hx hb dX11_restore_43 rfl (lv_at hl 0 rfl) ?_
            refine k_get (v := .ref (a0 9)) C fg_X11_59 hP 0 rfl rfl dX11_restore_44 ?_
            refine lv_iload_n hx hb dX11_restore_47 rfl (lv_at hl 1 rfl) ?_
            obtain ⟨h55, hF⟩ := op_ck hF
            refine k_rld (t0 := 4) (a := a2) C hP 3 rfl rfl h55 dX11_restore_48 ?_
            by_cases c56 : x1 = (0 : Int32)
            · have hF := op_t hF c56
              rw [show x1.toNatClampNeg = 0 from by rw [c56]; rfl]
              refine k_get (v := .ref (a3 2)) C fg_X11_367 hP 4 rfl rfl dX11_restore_49 ?_
              obtain ⟨U58, hc57, hF⟩ := ob1_s hF
              refine k_vgrp (gs8 := [g11 q o0 a0 tp S0, g2 q (a0 8) a1 S1, g21 q (a0 9) a2 S2, g3 q (a2 0) a3 S3, g7 q (a3 2) a4 S4, g8 q (a3 1) a5 S5, g3 q (a2 1) a6 S6, g7 q (a6 2) a7 S7, g8 q (a6 1) a8 S8, g7 q (a0 5) a9 U58, g8 q (a0 3) a10 U54]) C (k_rV (As := [.ref (a3 2)]) (rest := []) C (c_X7_copyN l D q (a0 5) a9 S9 (a3 2) a4 S4 _ hc57) kc_X7_copyFrom ml_X11_356 rfl rfl (by decide) (flP hP [9, 4] rfl) (flD hD [9, 4] (by decide) rfl) hS (va_recv hK hP (ci := 7) (q0 := 36) rfl rfl) rfl hl.1 rfl (Nat.le_of_ble_eq_true rfl) dX11_restore_52 (by decide)) hP hD hS [9, 4] [0, 1, 2, 3, 5, 6, 7, 8, 10] [g11 q o0 a0 tp S0, g2 q (a0 8) a1 S1, g21 q (a0 9) a2 S2, g3 q (a2 0) a3 S3, g8 q (a3 1) a5 S5, g3 q (a2 1) a6 S6, g7 q (a6 2) a7 S7, g8 q (a6 1) a8 S8, g8 q (a0 3) a10 U54] 11 (by decide) rfl rfl rfl rfl rfl rfl (by simp only [List.map_cons, List.map_nil, gad11, gad2, gad21, gad3, gad7, gad8]) (fun H locs hP hD hS => ?_)
              refine lv_aload_n hx hb dX11_restore_55 rfl (lv_at hl 0 rfl) ?_
              refine k_get (v := .ref (a0 8)) C fg_X11_53 hP 0 rfl rfl dX11_restore_56 ?_
              obtain ⟨U60, hc59, hF⟩ := ob1_s hF
              refine k_vgrp (gs8 := [g11 q o0 a0 tp S0, g2 q (a0 8) a1 U60, g21 q (a0 9) a2 S2, g3 q (a2 0) a3 S3, g7 q (a3 2) a4 S4, g8 q (a3 1) a5 S5, g3 q (a2 1) a6 S6, g7 q (a6 2) a7 S7, g8 q (a6 1) a8 S8, g7 q (a0 5) a9 U58, g8 q (a0 3) a10 U54]) C (k_rV (As := []) (rest := []) C (c_X2_forget l D q (a0 8) a1 S1 _ hc59) kc_X2_forget ml_X11_134 rfl rfl (by decide) (flP hP [1] rfl) (flD hD [1] (by decide) rfl) hS (va_recv hK hP (ci := 2) (q0 := 2) rfl rfl) rfl hl.1 rfl (Nat.le_of_ble_eq_true rfl) dX11_restore_59 (by decide)) hP hD hS [1] [0, 2, 3, 4, 5, 6, 7, 8, 9, 10] [g11 q o0 a0 tp S0, g21 q (a0 9) a2 S2, g3 q (a2 0) a3 S3, g7 q (a3 2) a4 S4, g8 q (a3 1) a5 S5, g3 q (a2 1) a6 S6, g7 q (a6 2) a7 S7, g8 q (a6 1) a8 S8, g7 q (a0 5) a9 U58, g8 q (a0 3) a10 U54] 11 (by decide) rfl rfl rfl rfl rfl rfl (by simp only [List.map_cons, List.map_nil, gad11, gad2, gad21, gad3, gad7, gad8]) (fun H locs hP hD hS => ?_)
              refine lv_iconst (v := (1 : Int32)) hx hb dX11_restore_62 (by decide) ?_
              cases hF
              exact k_zret C (by decide) hP hS dX11_restore_63
            have hF := op_f hF c56
            by_cases c61 : x1 = (1 : Int32)
            · have hF := op_t hF c61
              rw [show x1.toNatClampNeg = 1 from by rw [c61]; rfl]
              refine k_get (v := .ref (a6 2)) C fg_X11_367 hP 20 rfl rfl dX11_restore_49 ?_
              obtain ⟨U63, hc62, hF⟩ := ob1_s hF
              refine k_vgrp (gs8 := [g11 q o0 a0 tp S0, g2 q (a0 8) a1 S1, g21 q (a0 9) a2 S2, g3 q (a2 0) a3 S3, g7 q (a3 2) a4 S4, g8 q (a3 1) a5 S5, g3 q (a2 1) a6 S6, g7 q (a6 2) a7 S7, g8 q (a6 1) a8 S8, g7 q (a0 5) a9 U63, g8 q (a0 3) a10 U54]) C (k_rV (As := [.ref (a6 2)]) (rest := []) C (c_X7_copyN l D q (a0 5) a9 S9 (a6 2) a7 S7 _ hc62) kc_X7_copyFrom ml_X11_356 rfl rfl (by decide) (flP hP [9, 7] rfl) (flD hD [9, 7] (by decide) rfl) hS (va_recv hK hP (ci := 7) (q0 := 36) rfl rfl) rfl hl.1 rfl (Nat.le_of_ble_eq_true rfl) dX11_restore_52 (by decide)) hP hD hS [9, 7] [0, 1, 2, 3, 4, 5, 6, 8, 10] [g11 q o0 a0 tp S0, g2 q (a0 8) a1 S1, g21 q (a0 9) a2 S2, g3 q (a2 0) a3 S3, g7 q (a3 2) a4 S4, g8 q (a3 1) a5 S5, g3 q (a2 1) a6 S6, g8 q (a6 1) a8 S8, g8 q (a0 3) a10 U54] 11 (by decide) rfl rfl rfl rfl rfl rfl (by simp only [List.map_cons, List.map_nil, gad11, gad2, gad21, gad3, gad7, gad8]) (fun H locs hP hD hS => ?_)
              refine lv_aload_n hx hb dX11_restore_55 rfl (lv_at hl 0 rfl) ?_
              refine k_get (v := .ref (a0 8)) C fg_X11_53 hP 0 rfl rfl dX11_restore_56 ?_
              obtain ⟨U65, hc64, hF⟩ := ob1_s hF
              refine k_vgrp (gs8 := [g11 q o0 a0 tp S0, g2 q (a0 8) a1 U65, g21 q (a0 9) a2 S2, g3 q (a2 0) a3 S3, g7 q (a3 2) a4 S4, g8 q (a3 1) a5 S5, g3 q (a2 1) a6 S6, g7 q (a6 2) a7 S7, g8 q (a6 1) a8 S8, g7 q (a0 5) a9 U63, g8 q (a0 3) a10 U54]) C (k_rV (As := []) (rest := []) C (c_X2_forget l D q (a0 8) a1 S1 _ hc64) kc_X2_forget ml_X11_134 rfl rfl (by decide) (flP hP [1] rfl) (flD hD [1] (by decide) rfl) hS (va_recv hK hP (ci := 2) (q0 := 2) rfl rfl) rfl hl.1 rfl (Nat.le_of_ble_eq_true rfl) dX11_restore_59 (by decide)) hP hD hS [1] [0, 2, 3, 4, 5, 6, 7, 8, 9, 10] [g11 q o0 a0 tp S0, g21 q (a0 9) a2 S2, g3 q (a2 0) a3 S3, g7 q (a3 2) a4 S4, g8 q (a3 1) a5 S5, g3 q (a2 1) a6 S6, g7 q (a6 2) a7 S7, g8 q (a6 1) a8 S8, g7 q (a0 5) a9 U63, g8 q (a0 3) a10 U54] 11 (by decide) rfl rfl rfl rfl rfl rfl (by simp only [List.map_cons, List.map_nil, gad11, gad2, gad21, gad3, gad7, gad8]) (fun H locs hP hD hS => ?_)
              refine lv_iconst (v := (1 : Int32)) hx hb dX11_restore_62 (by decide) ?_
              cases hF
              exact k_zret C (by decide) hP hS dX11_restore_63
            have hF := op_f hF c61
            cases hF
          have hF := op_f hF c52
          cases hF
        · have hF := op_t hF c36
          refine lv_iconst (v := (0 : Int32)) hx hb dX11_restore_21 (by decide) ?_
          cases hF
          exact k_zret C (by decide) hP hS dX11_restore_22
      have hF := op_f hF c35
      cases hF
