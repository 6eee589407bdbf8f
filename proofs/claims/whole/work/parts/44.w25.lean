abbrev rm_X11_soonestAt : Room := ({ frames := 0, cells := 0, slots := 0, locals := 0 } : Room)
def F_X11_soonestAt_15 (S0 : St) (S1 : St) : Option (Int32) := some ((-1 : Int32))
def F_X11_soonestAt (S0 : St) (S1 : St) (x1 : Int32) : Option (Int32) := if x1 < 0 then (F_X11_soonestAt_15 S0 S1) else (if x1 < (S1.1 4) then (if oob x1 256 then none else some ((S1.2.2.1 3 x1.toNatClampNeg))) else (F_X11_soonestAt_15 S0 S1))
set_option maxRecDepth 100000 in
set_option maxHeartbeats 4000000 in
theorem b_X11_soonestAt_15 {p : Program} {l : Launch} {e : Env} {s : State} {m : MethodId} {args : Array Value} {below : List Frame} {meth : Method} {c : Code} {D : va_G} {q : Nat → ClassId} {A : Nat → Prop} {tp : Nat} {o0 : Nat} {a0 : Nat → Nat} {a1 : Nat → Nat} {r : Int32} (C : cx p s m args meth c cX11_soonestAt 2 (some .int) RX11 D q A) {S0 : St} {S1 : St} (hF : F_X11_soonestAt_15 S0 S1 = some (r)) {H : Heap} {locs : List Loc} (hP : va_P D vwCl (fl [g11 q o0 a0 tp S0, g6 q (a0 10) a1 S1]) H) (hD : va_D A (fl [g11 q o0 a0 tp S0, g6 q (a0 10) a1 S1])) (hS : va_S A s.heap H locs) {ls : Array Slot} (hl : lv_has ls 2 []) : W p l e rm_X11_soonestAt s m args below meth c H locs 0 0 (MQ below (QI D A r (fl [g11 q o0 a0 tp S0, g6 q (a0 10) a1 S1])) args s 0 0 A) (F0 m 15 ls []) := by
  unfold F_X11_soonestAt_15 at hF
  obtain ⟨hx, hb, hr, hml, hown, hts, hlk, hA, hK, hN, hV⟩ := id C
  refine lv_iconst (v := (-1 : Int32)) hx hb dX11_soonestAt_15 (by decide) ?_
  refine lv_goto (tgt := 28) hx hb dX11_soonestAt_16 (by decide) ?_
  cases hF
  exact k_iret C hP hS dX11_soonestAt_28
set_option maxRecDepth 100000 in
set_option maxHeartbeats 4000000 in
theorem c_X11_soonestAt (l : Launch) (D : va_G) (q : Nat → ClassId) (tp : Nat) (o0 : Nat) (a0 : Nat → Nat) (S0 : St) (a1 : Nat → Nat) (S1 : St) (sz : Nat) (x1 : Int32) {r : Int32} (hF : F_X11_soonestAt S0 S1 x1 = some (r)) : Met l yX11_soonestAt (Cond.code yX11_soonestAt cX11_soonestAt 2 (some .int) :: TB) rm_X11_soonestAt (PC D q [.ref o0, .int x1] (fl [g11 q o0 a0 tp S0, g6 q (a0 10) a1 S1]) sz) ((fun A => QI D A r (fl [g11 q o0 a0 tp S0, g6 q (a0 10) a1 S1])) (va_A (fl [g11 q o0 a0 tp S0, g6 q (a0 10) a1 S1]) sz)) 0 0 (va_A (fl [g11 q o0 a0 tp S0, g6 q (a0 10) a1 S1]) sz) := by
  refine k_met (w0 := fl [g11 q o0 a0 tp S0, g6 q (a0 10) a1 S1]) (Q := fun A => QI D A r (fl [g11 q o0 a0 tp S0, g6 q (a0 10) a1 S1])) (by decide +kernel) (Nat.le_of_ble_eq_true rfl) ?_
  intro p e s m args below meth c A ls C hP hD hS hl
  have hl : lv_has ls 2 [(0, .ref o0), (1, .int x1)] := hl
  unfold F_X11_soonestAt at hF
  have C : cx p s m args meth c cX11_soonestAt 2 (some .int) RX11 D q A := C
  obtain ⟨hx, hb, hr, hml, hown, hts, hlk, hA, hK, hN, hV⟩ := id C
  refine lv_iload_n hx hb dX11_soonestAt_0 rfl (lv_at hl 1 rfl) ?_
  refine lv_if_lt (tgt := 15) hx hb dX11_soonestAt_1 (by decide) (fun c1 => ?_) (fun c1 => ?_)
  · have hF := op_t hF c1
    exact b_X11_soonestAt_15 C hF hP hD hS (lv_sub hl [] rfl)
  · have hF := op_f hF c1
    refine lv_iload_n hx hb dX11_soonestAt_4 rfl (lv_at hl 1 rfl) ?_
    refine lv_aload_n hx hb dX11_soonestAt_5 rfl (lv_at hl 0 rfl) ?_
    refine k_get (v := .ref (a0 10)) C fg_X11_67 hP 0 rfl rfl dX11_soonestAt_6 ?_
    refine k_get (v := .int (S1.1 4)) C fg_X11_266 hP 2 rfl rfl dX11_soonestAt_9 ?_
    refine lv_icmp_lt (tgt := 19) hx hb dX11_soonestAt_12 (by decide) (fun c2 => ?_) (fun c2 => ?_)
    · have hF := op_t hF c2
      refine lv_aload_n hx hb dX11_soonestAt_19 rfl (lv_at hl 0 rfl) ?_
      refine k_get (v := .ref (a0 10)) C fg_X11_67 hP 0 rfl rfl dX11_soonestAt_20 ?_
      refine k_get (v := .ref (a1 4)) C fg_X11_269 hP 2 rfl rfl dX11_soonestAt_23 ?_
      refine lv_iload_n hx hb dX11_soonestAt_26 rfl (lv_at hl 1 rfl) ?_
      obtain ⟨h3, hF⟩ := op_ck hF
      refine k_ild (f := S1.2.2.1 3) C hP 6 rfl h3 dX11_soonestAt_27 ?_
      cases hF
      exact k_iret C hP hS dX11_soonestAt_28
    · have hF := op_f hF c2
      exact b_X11_soonestAt_15 C hF hP hD hS (lv_sub hl [] rfl)

abbrev rm_X11_made : Room := ({ frames := 5, cells := 0, slots := 0, locals := 123 } : Room)
def F_X11_made_16 (s0 : Int32) (S0 : St) (S1 : St) (S2 : St) (S3 : St) : Option (Int32 × St × St) := nw (sI S3 1 (0 : Int32)) fun U1 => if s0 = 0 then (some ((-1 : Int32), S1, U1)) else (if oob (0 : Int32) 940 then none else if oob (1 : Int32) 940 then none else ob2 (F_X6_countMade S1 S2 (U1.2.2.1 0 (0 : Int32).toNatClampNeg) (U1.2.2.1 0 (1 : Int32).toNatClampNeg)) fun r7 U8 => some (r7, U8, U1))
def F_X11_made (S0 : St) (S1 : St) (S2 : St) (S3 : St) : Option (Int32 × St × St) := if (S3.1 1) = (2 : Int32) then (F_X11_made_16 (1 : Int32) S0 S1 S2 S3) else (F_X11_made_16 (0 : Int32) S0 S1 S2 S3)
set_option maxRecDepth 100000 in
set_option maxHeartbeats 4000000 in
theorem b_X11_made_16 {p : Program} {l : Launch} {e : Env} {s : State} {m : MethodId} {args : Array Value} {below : List Frame} {meth : Method} {c : Code} {D : va_G} {q : Nat → ClassId} {A : Nat → Prop} {tp : Nat} {o0 : Nat} {a0 : Nat → Nat} {a1 : Nat → Nat} {a2 : Nat → Nat} {a3 : Nat → Nat} {r : Int32} {T1 : St} {T3 : St} (C : cx p s m args meth c cX11_made 2 (some .int) RX11 D q A) {s0 : Int32} {S0 : St} {S1 : St} {S2 : St} {S3 : St} (hF : F_X11_made_16 s0 S0 S1 S2 S3 = some (r, T1, T3)) {H : Heap} {locs : List Loc} (hP : va_P D vwCl (fl [g11 q o0 a0 tp S0, g6 q (a0 10) a1 S1, g8 q (a0 3) a2 S2, g9 q tp a3 940 S3]) H) (hD : va_D A (fl [g11 q o0 a0 tp S0, g6 q (a0 10) a1 S1, g8 q (a0 3) a2 S2, g9 q tp a3 940 S3])) (hS : va_S A s.heap H locs) {ls : Array Slot} (hl : lv_has ls 2 [(0, .ref o0)]) : W p l e rm_X11_made s m args below meth c H locs 0 0 (MQ below (QI D A r (fl [g11 q o0 a0 tp S0, g6 q (a0 10) a1 T1, g8 q (a0 3) a2 S2, g9 q tp a3 940 T3])) args s 0 0 A) (F0 m 16 ls [.int s0]) := by
  unfold F_X11_made_16 at hF
  obtain ⟨hx, hb, hr, hml, hown, hts, hlk, hA, hK, hN, hV⟩ := id C
  refine lv_istore_n (lv' := [(1, .int s0), (0, .ref o0)]) hx hb dX11_made_16 rfl hl (by decide) rfl (fun ls hl => ?_)
  refine lv_aload_n hx hb dX11_made_17 rfl (lv_at hl 1 rfl) ?_
  refine k_get (v := .ref tp) C fg_X11_20 hP 0 rfl rfl dX11_made_18 ?_
  refine lv_iconst (v := (0 : Int32)) hx hb dX11_made_21 (by decide) ?_
  obtain ⟨U1, e2, hF⟩ := nw_s hF
  refine k_put (W8 := fl [g11 q o0 a0 tp S0, g6 q (a0 10) a1 S1, g8 q (a0 3) a2 S2, g9 q tp a3 940 U1]) C fp_X11_111 hP hD hS 20 rfl rfl rfl (Nat.le_of_ble_eq_true rfl) dX11_made_22 (by rw [e2]; rfl) (fun H locs hP hD hS => ?_)
  refine lv_iload_n hx hb dX11_made_25 rfl (lv_at hl 0 rfl) ?_
  refine lv_if_eq (tgt := 61) hx hb dX11_made_26 (by decide) (fun c3 => ?_) (fun c3 => ?_)
  · have hF := op_t hF c3
    refine lv_iconst (v := (-1 : Int32)) hx hb dX11_made_61 (by decide) ?_
    cases hF
    exact k_iret C hP hS dX11_made_62
  · have hF := op_f hF c3
    refine lv_aload_n hx hb dX11_made_29 rfl (lv_at hl 1 rfl) ?_
    refine k_get (v := .ref (a0 10)) C fg_X11_67 hP 0 rfl rfl dX11_made_30 ?_
    refine lv_aload_n hx hb dX11_made_33 rfl (lv_at hl 1 rfl) ?_
    refine k_get (v := .ref (a0 3)) C fg_X11_26 hP 0 rfl rfl dX11_made_34 ?_
    refine lv_aload_n hx hb dX11_made_37 rfl (lv_at hl 1 rfl) ?_
    refine k_get (v := .ref tp) C fg_X11_20 hP 0 rfl rfl dX11_made_38 ?_
    refine k_get (v := .ref (a3 1)) C fg_X11_272 hP 20 rfl rfl dX11_made_41 ?_
    refine lv_iconst (v := (0 : Int32)) hx hb dX11_made_44 (by decide) ?_
    obtain ⟨h4, hF⟩ := op_ck hF
    refine k_ild (f := U1.2.2.1 0) C hP 21 rfl h4 dX11_made_45 ?_
    refine lv_aload_n hx hb dX11_made_46 rfl (lv_at hl 1 rfl) ?_
    refine k_get (v := .ref tp) C fg_X11_20 hP 0 rfl rfl dX11_made_47 ?_
    refine k_get (v := .ref (a3 1)) C fg_X11_272 hP 20 rfl rfl dX11_made_50 ?_
    refine lv_iconst (v := (1 : Int32)) hx hb dX11_made_53 (by decide) ?_
    obtain ⟨h5, hF⟩ := op_ck hF
    refine k_ild (f := U1.2.2.1 0) C hP 21 rfl h5 dX11_made_54 ?_
    obtain ⟨r7, U8, hc6, hF⟩ := ob2_s hF
    refine k_igrp (gs8 := [g11 q o0 a0 tp S0, g6 q (a0 10) a1 U8, g8 q (a0 3) a2 S2, g9 q tp a3 940 U1]) C (k_rV (As := [.ref (a0 3), .int (U1.2.2.1 0 (0 : Int32).toNatClampNeg), .int (U1.2.2.1 0 (1 : Int32).toNatClampNeg)]) (rest := []) C (c_X6_countMade l D q (a0 10) a1 S1 (a0 3) a2 S2 _ (U1.2.2.1 0 (0 : Int32).toNatClampNeg) (U1.2.2.1 0 (1 : Int32).toNatClampNeg) hc6) kc_X6_countMade ml_X11_275 rfl rfl (by decide) (flP hP [1, 2] rfl) (flD hD [1, 2] (by decide) rfl) hS (va_recv hK hP (ci := 6) (q0 := 2) rfl rfl) rfl hl.1 rfl (Nat.le_of_ble_eq_true rfl) dX11_made_55 (by decide)) hP hD hS [1, 2] [0, 3] [g11 q o0 a0 tp S0, g9 q tp a3 940 U1] 4 (by decide) rfl rfl rfl rfl rfl rfl (by simp only [List.map_cons, List.map_nil, gad11, gad6, gad8, gad9]) (fun H locs hP hD hS => ?_)
    refine lv_goto (tgt := 62) hx hb dX11_made_58 (by decide) ?_
    cases hF
    exact k_iret C hP hS dX11_made_62
set_option maxRecDepth 100000 in
set_option maxHeartbeats 4000000 in
theorem c_X11_made (l : Launch) (D : va_G) (q : Nat → ClassId) (tp : Nat) (o0 : Nat) (a0 : Nat → Nat) (S0 : St) (a1 : Nat → Nat) (S1 : St) (a2 : Nat → Nat) (S2 : St) (a3 : Nat → Nat) (S3 : St) (sz : Nat) {r : Int32} {T1 : St} {T3 : St} (hF : F_X11_made S0 S1 S2 S3 = some (r, T1, T3)) : Met l yX11_made (Cond.code yX11_made cX11_made 2 (some .int) :: TB) rm_X11_made (PC D q [.ref o0] (fl [g11 q o0 a0 tp S0, g6 q (a0 10) a1 S1, g8 q (a0 3) a2 S2, g9 q tp a3 940 S3]) sz) ((fun A => QI D A r (fl [g11 q o0 a0 tp S0, g6 q (a0 10) a1 T1, g8 q (a0 3) a2 S2, g9 q tp a3 940 T3])) (va_A (fl [g11 q o0 a0 tp S0, g6 q (a0 10) a1 S1, g8 q (a0 3) a2 S2, g9 q tp a3 940 S3]) sz)) 0 0 (va_A (fl [g11 q o0 a0 tp S0, g6 q (a0 10) a1 S1, g8 q (a0 3) a2 S2, g9 q tp a3 940 S3]) sz) := by
  refine k_met (w0 := fl [g11 q o0 a0 tp S0, g6 q (a0 10) a1 S1, g8 q (a0 3) a2 S2, g9 q tp a3 940 S3]) (Q := fun A => QI D A r (fl [g11 q o0 a0 tp S0, g6 q (a0 10) a1 T1, g8 q (a0 3) a2 S2, g9 q tp a3 940 T3])) (by decide +kernel) (Nat.le_of_ble_eq_true rfl) ?_
  intro p e s m args below meth c A ls C hP hD hS hl
  have hl : lv_has ls 2 [(0, .ref o0)] := hl
  unfold F_X11_made at hF
  have C : cx p s m args meth c cX11_made 2 (some .int) RX11 D q A := C
  obtain ⟨hx, hb, hr, hml, hown, hts, hlk, hA, hK, hN, hV⟩ := id C
  refine lv_aload_n hx hb dX11_made_0 rfl (lv_at hl 0 rfl) ?_
  refine k_get (v := .ref tp) C fg_X11_20 hP 0 rfl rfl dX11_made_1 ?_
  refine k_get (v := .int (S3.1 1)) C fg_X11_111 hP 20 rfl rfl dX11_made_4 ?_
  refine lv_iconst (v := (2 : Int32)) hx hb dX11_made_7 (by decide) ?_
  refine lv_icmp_ne (tgt := 15) hx hb dX11_made_8 (by decide) (fun c1 => ?_) (fun c1 => ?_)
  · have hF := op_f hF c1
    refine lv_iconst (v := (0 : Int32)) hx hb dX11_made_15 (by decide) ?_
    exact b_X11_made_16 C hF hP hD hS (lv_sub hl [0] rfl)
  · have hF := op_t hF c1
    refine lv_iconst (v := (1 : Int32)) hx hb dX11_made_11 (by decide) ?_
    refine lv_goto (tgt := 16) hx hb dX11_made_12 (by decide) ?_
    exact b_X11_made_16 C hF hP hD hS (lv_sub hl [0] rfl)

abbrev rm_X11_madeAt : Room := ({ frames := 0, cells := 0, slots := 0, locals := 0 } : Room)
def F_X11_madeAt_15 (S0 : St) (S1 : St) : Option (Int32) := some ((-1 : Int32))
def F_X11_madeAt (S0 : St) (S1 : St) (x1 : Int32) : Option (Int32) := if x1 < 0 then (F_X11_madeAt_15 S0 S1) else (if x1 < (S1.1 7) then (if oob x1 3 then none else some ((S1.2.2.1 6 x1.toNatClampNeg))) else (F_X11_madeAt_15 S0 S1))
set_option maxRecDepth 100000 in
set_option maxHeartbeats 4000000 in
theorem b_X11_madeAt_15 {p : Program} {l : Launch} {e : Env} {s : State} {m : MethodId} {args : Array Value} {below : List Frame} {meth : Method} {c : Code} {D : va_G} {q : Nat → ClassId} {A : Nat → Prop} {tp : Nat} {o0 : Nat} {a0 : Nat → Nat} {a1 : Nat → Nat} {r : Int32} (C : cx p s m args meth c cX11_madeAt 2 (some .int) RX11 D q A) {S0 : St} {S1 : St} (hF : F_X11_madeAt_15 S0 S1 = some (r)) {H : Heap} {locs : List Loc} (hP : va_P D vwCl (fl [g11 q o0 a0 tp S0, g6 q (a0 10) a1 S1]) H) (hD : va_D A (fl [g11 q o0 a0 tp S0, g6 q (a0 10) a1 S1])) (hS : va_S A s.heap H locs) {ls : Array Slot} (hl : lv_has ls 2 []) : W p l e rm_X11_madeAt s m args below meth c H locs 0 0 (MQ below (QI D A r (fl [g11 q o0 a0 tp S0, g6 q (a0 10) a1 S1])) args s 0 0 A) (F0 m 15 ls []) := by
  unfold F_X11_madeAt_15 at hF
  obtain ⟨hx, hb, hr, hml, hown, hts, hlk, hA, hK, hN, hV⟩ := id C
  refine lv_iconst (v := (-1 : Int32)) hx hb dX11_madeAt_15 (by decide) ?_
  refine lv_goto (tgt := 28) hx hb dX11_madeAt_16 (by decide) ?_
  cases hF
  exact k_iret C hP hS dX11_madeAt_28
set_option maxRecDepth 100000 in
set_option maxHeartbeats 4000000 in
theorem c_X11_madeAt (l : Launch) (D : va_G) (q : Nat → ClassId) (tp : Nat) (o0 : Nat) (a0 : Nat → Nat) (S0 : St) (a1 : Nat → Nat) (S1 : St) (sz : Nat) (x1 : Int32) {r : Int32} (hF : F_X11_madeAt S0 S1 x1 = some (r)) : Met l yX11_madeAt (Cond.code yX11_madeAt cX11_madeAt 2 (some .int) :: TB) rm_X11_madeAt (PC D q [.ref o0, .int x1] (fl [g11 q o0 a0 tp S0, g6 q (a0 10) a1 S1]) sz) ((fun A => QI D A r (fl [g11 q o0 a0 tp S0, g6 q (a0 10) a1 S1])) (va_A (fl [g11 q o0 a0 tp S0, g6 q (a0 10) a1 S1]) sz)) 0 0 (va_A (fl [g11 q o0 a0 tp S0, g6 q (a0 10) a1 S1]) sz) := by
  refine k_met (w0 := fl [g11 q o0 a0 tp S0, g6 q (a0 10) a1 S1]) (Q := fun A => QI D A r (fl [g11 q o0 a0 tp S0, g6 q (a0 10) a1 S1])) (by decide +kernel) (Nat.le_of_ble_eq_true rfl) ?_
  intro p e s m args below meth c A ls C hP hD hS hl
  have hl : lv_has ls 2 [(0, .ref o0), (1, .int x1)] := hl
  unfold F_X11_madeAt at hF
  have C : cx p s m args meth c cX11_madeAt 2 (some .int) RX11 D q A := C
  obtain ⟨hx, hb, hr, hml, hown, hts, hlk, hA, hK, hN, hV⟩ := id C
  refine lv_iload_n hx hb dX11_madeAt_0 rfl (lv_at hl 1 rfl) ?_
  refine lv_if_lt (tgt := 15) hx hb dX11_madeAt_1 (by decide) (fun c1 => ?_) (fun c1 => ?_)
  · have hF := op_t hF c1
    exact b_X11_madeAt_15 C hF hP hD hS (lv_sub hl [] rfl)
  · have hF := op_f hF c1
    refine lv_iload_n hx hb dX11_madeAt_4 rfl (lv_at hl 1 rfl) ?_
    refine lv_aload_n hx hb dX11_madeAt_5 rfl (lv_at hl 0 rfl) ?_
    refine k_get (v := .ref (a0 10)) C fg_X11_67 hP 0 rfl rfl dX11_madeAt_6 ?_
    refine k_get (v := .int (S1.1 7)) C fg_X11_279 hP 2 rfl rfl dX11_madeAt_9 ?_
    refine lv_icmp_lt (tgt := 19) hx hb dX11_madeAt_12 (by decide) (fun c2 => ?_) (fun c2 => ?_)
    · have hF := op_t hF c2
      refine lv_aload_n hx hb dX11_madeAt_19 rfl (lv_at hl 0 rfl) ?_
      refine k_get (v := .ref (a0 10)) C fg_X11_67 hP 0 rfl rfl dX11_madeAt_20 ?_
      refine k_get (v := .ref (a1 7)) C fg_X11_282 hP 2 rfl rfl dX11_madeAt_23 ?_
      refine lv_iload_n hx hb dX11_madeAt_26 rfl (lv_at hl 1 rfl) ?_
      obtain ⟨h3, hF⟩ := op_ck hF
      refine k_ild (f := S1.2.2.1 6) C hP 8 rfl h3 dX11_madeAt_27 ?_
      cases hF
      exact k_iret C hP hS dX11_madeAt_28
    · have hF := op_f hF c2
      exact b_X11_madeAt_15 C hF hP hD hS (lv_sub hl [] rfl)

abbrev rm_X11_ask : Room := ({ frames := 1, cells := 0, slots := 0, locals := 23 } : Room)
def F_X11_ask_68 (k14 : Int32 × Int32 × Int32 × St × St → Option (Int32)) (x1 : Int32) (x2 : Int32) (x3 : Int32) (S0 : St) (S1 : St) : Option (Int32) := k14 (x1, x2, (x3 + 1), S0, S1)
def F_X11_ask_14 (k14 : Int32 × Int32 × Int32 × St × St → Option (Int32)) (x1 : Int32) (x2 : Int32) (x3 : Int32) (S0 : St) (S1 : St) : Option (Int32) := if (8 : Int32) ≤ x3 then (some (x1)) else (if (S1.1 7) ≤ 0 then (some (x1)) else (ob1 (F_X8_howManyHave S1 x3) fun r4 => nw (if r4 < ((S1.1 7) - r4) then ((S1.1 7) - r4) else r4) fun v5 => if x2 ≤ v5 then (F_X11_ask_68 k14 x1 x2 x3 S0 S1) else (F_X11_ask_68 k14 x3 v5 x3 S0 S1)))
def L_X11_ask_14 (x1 : Int32) (x2 : Int32) (x3 : Int32) (S0 : St) (S1 : St) : Option (Int32) := lp (fun kz z => F_X11_ask_14 kz z.1 z.2.1 z.2.2.1 z.2.2.2.1 z.2.2.2.2) FU (x1, x2, x3, S0, S1)
def F_X11_ask (S0 : St) (S1 : St) : Option (Int32) := L_X11_ask_14 (-1 : Int32) ((S1.1 7) + (1 : Int32)) (0 : Int32) S0 S1
set_option maxRecDepth 100000 in
set_option maxHeartbeats 4000000 in
theorem b_X11_ask_68 {p : Program} {l : Launch} {e : Env} {s : State} {m : MethodId} {args : Array Value} {below : List Frame} {meth : Method} {c : Code} {D : va_G} {q : Nat → ClassId} {A : Nat → Prop} {tp : Nat} {o0 : Nat} {a0 : Nat → Nat} {a1 : Nat → Nat} {r : Int32} (C : cx p s m args meth c cX11_ask 6 (some .int) RX11 D q A) {k14 : Int32 × Int32 × Int32 × St × St → Option (Int32)} (hk14 : ∀ (x1 : Int32) (x2 : Int32) (x3 : Int32) (S0 : St) (S1 : St), k14 (x1, x2, x3, S0, S1) = some (r) → ∀ (H : Heap) (locs : List Loc) (ls : Array Slot), va_P D vwCl (fl [g11 q o0 a0 tp S0, g8 q (a0 3) a1 S1]) H → va_D A (fl [g11 q o0 a0 tp S0, g8 q (a0 3) a1 S1]) → va_S A s.heap H locs → lv_has ls 6 [(0, .ref o0), (1, .int x1), (2, .int x2), (3, .int x3)] → W p l e rm_X11_ask s m args below meth c H locs 0 0 (MQ below (QI D A r (fl [g11 q o0 a0 tp S0, g8 q (a0 3) a1 S1])) args s 0 0 A) (F0 m 14 ls [])) {x1 : Int32} {x2 : Int32} {x3 : Int32} {S0 : St} {S1 : St} (hF : F_X11_ask_68 k14 x1 x2 x3 S0 S1 = some (r)) {H : Heap} {locs : List Loc} (hP : va_P D vwCl (fl [g11 q o0 a0 tp S0, g8 q (a0 3) a1 S1]) H) (hD : va_D A (fl [g11 q o0 a0 tp S0, g8 q (a0 3) a1 S1])) (hS : va_S A s.heap H locs) {ls : Array Slot} (hl : lv_has ls 6 [(0, .ref o0), (1, .int x1), (2, .int x2), (3, .int x3)]) : W p l e rm_X11_ask s m args below meth c H locs 0 0 (MQ below (QI D A r (fl [g11 q o0 a0 tp S0, g8 q (a0 3) a1 S1])) args s 0 0 A) (F0 m 68 ls []) := by
  unfold F_X11_ask_68 at hF
  obtain ⟨hx, hb, hr, hml, hown, hts, hlk, hA, hK, hN, hV⟩ := id C
  refine lv_iinc (v := (x3 + 1)) (lv' := [(3, .int (x3 + 1)), (0, .ref o0), (1, .int x1), (2, .int x2)]) hx hb dX11_ask_68 hl (k := 3) rfl rfl (by decide) rfl (fun ls hl => ?_)
  refine lv_goto (tgt := 14) hx hb dX11_ask_71 (by decide) ?_
  exact hk14 x1 x2 (x3 + 1) S0 S1 hF _ _ _ hP hD hS (lv_sub hl [1, 2, 3, 0] rfl)
set_option maxRecDepth 100000 in
set_option maxHeartbeats 4000000 in
theorem b_X11_ask_14 {p : Program} {l : Launch} {e : Env} {s : State} {m : MethodId} {args : Array Value} {below : List Frame} {meth : Method} {c : Code} {D : va_G} {q : Nat → ClassId} {A : Nat → Prop} {tp : Nat} {o0 : Nat} {a0 : Nat → Nat} {a1 : Nat → Nat} {r : Int32} (C : cx p s m args meth c cX11_ask 6 (some .int) RX11 D q A) {k14 : Int32 × Int32 × Int32 × St × St → Option (Int32)} (hk14 : ∀ (x1 : Int32) (x2 : Int32) (x3 : Int32) (S0 : St) (S1 : St), k14 (x1, x2, x3, S0, S1) = some (r) → ∀ (H : Heap) (locs : List Loc) (ls : Array Slot), va_P D vwCl (fl [g11 q o0 a0 tp S0, g8 q (a0 3) a1 S1]) H → va_D A (fl [g11 q o0 a0 tp S0, g8 q (a0 3) a1 S1]) → va_S A s.heap H locs → lv_has ls 6 [(0, .ref o0), (1, .int x1), (2, .int x2), (3, .int x3)] → W p l e rm_X11_ask s m args below meth c H locs 0 0 (MQ below (QI D A r (fl [g11 q o0 a0 tp S0, g8 q (a0 3) a1 S1])) args s 0 0 A) (F0 m 14 ls [])) {x1 : Int32} {x2 : Int32} {x3 : Int32} {S0 : St} {S1 : St} (hF : F_X11_ask_14 k14 x1 x2 x3 S0 S1 = some (r)) {H : Heap} {locs : List Loc} (hP : va_P D vwCl (fl [g11 q o0 a0 tp S0, g8 q (a0 3) a1 S1]) H) (hD : va_D A (fl [g11 q o0 a0 tp S0, g8 q (a0 3) a1 S1])) (hS : va_S A s.heap H locs) {ls : Array Slot} (hl : lv_has ls 6 [(0, .ref o0), (1, .int x1), (2, .int x2), (3, .int x3)]) : W p l e rm_X11_ask s m args below meth c H locs 0 0 (MQ below (QI D A r (fl [g11 q o0 a0 tp S0, g8 q (a0 3) a1 S1])) args s 0 0 A) (F0 m 14 ls []) := by
  unfold F_X11_ask_14 at hF
  obtain ⟨hx, hb, hr, hml, hown, hts, hlk, hA, hK, hN, hV⟩ := id C
  refine lv_iload_n hx hb dX11_ask_14 rfl (lv_at hl 3 rfl) ?_
  refine lv_bipush (v := (8 : Int32)) hx hb dX11_ask_15 (by decide) ?_
  refine lv_icmp_ge (tgt := 74) hx hb dX11_ask_17 (by decide) (fun c1 => ?_) (fun c1 => ?_)
  · have hF := op_t hF c1
    refine lv_iload_n hx hb dX11_ask_74 rfl (lv_at hl 1 rfl) ?_
    cases hF
    exact k_iret C hP hS dX11_ask_75
  · have hF := op_f hF c1
    refine lv_aload_n hx hb dX11_ask_20 rfl (lv_at hl 0 rfl) ?_
    refine k_get (v := .ref (a0 3)) C fg_X11_26 hP 0 rfl rfl dX11_ask_21 ?_
    refine k_get (v := .int (S1.1 7)) C fg_X11_285 hP 2 rfl rfl dX11_ask_24 ?_
    refine lv_if_le (tgt := 74) hx hb dX11_ask_27 (by decide) (fun c2 => ?_) (fun c2 => ?_)
    · have hF := op_t hF c2
      refine lv_iload_n hx hb dX11_ask_74 rfl (lv_at hl 1 rfl) ?_
      cases hF
      exact k_iret C hP hS dX11_ask_75
    · have hF := op_f hF c2
      refine lv_aload_n hx hb dX11_ask_30 rfl (lv_at hl 0 rfl) ?_
      refine k_get (v := .ref (a0 3)) C fg_X11_26 hP 0 rfl rfl dX11_ask_31 ?_
      refine lv_iload_n hx hb dX11_ask_34 rfl (lv_at hl 3 rfl) ?_
      obtain ⟨r4, hc3, hF⟩ := ob1_s hF
      refine k_iro C (k_rV (As := [.int x3]) (rest := []) C (c_X8_howManyHave l D q (a0 3) a1 S1 _ x3 hc3) kc_X8_howManyHave ml_X11_288 rfl rfl (by decide) (flP hP [1] rfl) (flD hD [1] (by decide) rfl) hS (va_recv hK hP (ci := 8) (q0 := 2) rfl rfl) rfl hl.1 rfl (Nat.le_of_ble_eq_true rfl) dX11_ask_35 (by decide)) hP hD hS [1] [0] [g11 q o0 a0 tp S0] 2 (by decide) rfl rfl rfl rfl (fun H locs hP hD hS => ?_)
      refine lv_istore (lv' := [(4, .int r4), (0, .ref o0), (1, .int x1), (2, .int x2), (3, .int x3)]) hx hb dX11_ask_38 hl (by decide) rfl (fun ls hl => ?_)
      refine lv_iload hx hb dX11_ask_40 (lv_at hl 0 rfl) ?_
      refine lv_aload_n hx hb dX11_ask_42 rfl (lv_at hl 1 rfl) ?_
      refine k_get (v := .ref (a0 3)) C fg_X11_26 hP 0 rfl rfl dX11_ask_43 ?_
      refine k_get (v := .int (S1.1 7)) C fg_X11_285 hP 2 rfl rfl dX11_ask_46 ?_
      refine lv_iload hx hb dX11_ask_49 (lv_at hl 0 rfl) ?_
      refine lv_isub hx hb dX11_ask_51 ?_
      refine k_max C ml_X11_291 kmath_max hl.1 ⟨Nat.le_of_ble_eq_true rfl, Nat.le_of_ble_eq_true rfl⟩ (by decide) dX11_ask_52 ?_
      obtain ⟨v5, e6, hF⟩ := nw_s hF
      refine k_rni e6 ?_
      refine lv_istore (lv' := [(5, .int v5), (4, .int r4), (0, .ref o0), (1, .int x1), (2, .int x2), (3, .int x3)]) hx hb dX11_ask_55 hl (by decide) rfl (fun ls hl => ?_)
      refine lv_iload hx hb dX11_ask_57 (lv_at hl 0 rfl) ?_
      refine lv_iload_n hx hb dX11_ask_59 rfl (lv_at hl 4 rfl) ?_
      refine lv_icmp_ge (tgt := 68) hx hb dX11_ask_60 (by decide) (fun c7 => ?_) (fun c7 => ?_)
      · have hF := op_t hF c7
        exact b_X11_ask_68 C hk14 hF hP hD hS (lv_sub hl [2, 3, 4, 5] rfl)
      · have hF := op_f hF c7
        refine lv_iload hx hb dX11_ask_63 (lv_at hl 0 rfl) ?_
        refine lv_istore_n (lv' := [(2, .int v5), (5, .int v5), (4, .int r4), (0, .ref o0), (1, .int x1), (3, .int x3)]) hx hb dX11_ask_65 rfl hl (by decide) rfl (fun ls hl => ?_)
        refine lv_iload_n hx hb dX11_ask_66 rfl (lv_at hl 5 rfl) ?_
        refine lv_istore_n (lv' := [(1, .int x3), (2, .int v5), (5, .int v5), (4, .int r4), (0, .ref o0), (3, .int x3)]) hx hb dX11_ask_67 rfl hl (by decide) rfl (fun ls hl => ?_)
        exact b_X11_ask_68 C hk14 hF hP hD hS (lv_sub hl [4, 0, 1, 5] rfl)
set_option maxRecDepth 100000 in
set_option maxHeartbeats 4000000 in
theorem l_X11_ask_14 {p : Program} {l : Launch} {e : Env} {s : State} {m : MethodId} {args : Array Value} {below : List Frame} {meth : Method} {c : Code} {D : va_G} {q : Nat → ClassId} {A : Nat → Prop} {tp : Nat} {o0 : Nat} {a0 : Nat → Nat} {a1 : Nat → Nat} {r : Int32} (C : cx p s m args meth c cX11_ask 6 (some .int) RX11 D q A) {x1 : Int32} {x2 : Int32} {x3 : Int32} {S0 : St} {S1 : St} (hF : L_X11_ask_14 x1 x2 x3 S0 S1 = some (r)) : ∀ (H : Heap) (locs : List Loc) (ls : Array Slot), va_P D vwCl (fl [g11 q o0 a0 tp S0, g8 q (a0 3) a1 S1]) H → va_D A (fl [g11 q o0 a0 tp S0, g8 q (a0 3) a1 S1]) → va_S A s.heap H locs → lv_has ls 6 [(0, .ref o0), (1, .int x1), (2, .int x2), (3, .int x3)] → W p l e rm_X11_ask s m args below meth c H locs 0 0 (MQ below (QI D A r (fl [g11 q o0 a0 tp S0, g8 q (a0 3) a1 S1])) args s 0 0 A) (F0 m 14 ls []) :=
  lp_G _ _ (fun z => ∀ (H : Heap) (locs : List Loc) (ls : Array Slot), va_P D vwCl (fl [g11 q o0 a0 tp z.2.2.2.1, g8 q (a0 3) a1 z.2.2.2.2]) H → va_D A (fl [g11 q o0 a0 tp z.2.2.2.1, g8 q (a0 3) a1 z.2.2.2.2]) → va_S A s.heap H locs → lv_has ls 6 [(0, .ref o0), (1, .int z.1), (2, .int z.2.1), (3, .int z.2.2.1)] → W p l e rm_X11_ask s m args below meth c H locs 0 0 (MQ below (QI D A r (fl [g11 q o0 a0 tp z.2.2.2.1, g8 q (a0 3) a1 z.2.2.2.2])) args s 0 0 A) (F0 m 14 ls [])) (fun kz hkz z hz H locs ls hP hD hS hl => b_X11_ask_14 C (fun x1 x2 x3 S0 S1 hz => hkz (x1, x2, x3, S0, S1) hz) hz hP hD hS hl) FU (x1, x2, x3, S0, S1) hF
set_option maxRecDepth 100000 in
set_option maxHeartbeats 4000000 in
theorem c_X11_ask (l : Launch) (D : va_G) (q : Nat → ClassId) (tp : Nat) (o0 : Nat) (a0 : Nat → Nat) (S0 : St) (a1 : Nat → Nat) (S1 : St) (sz : Nat) {r : Int32} (hF : F_X11_ask S0 S1 = some (r)) : Met l yX11_ask (Cond.code yX11_ask cX11_ask 6 (some .int) :: TB) rm_X11_ask (PC D q [.ref o0] (fl [g11 q o0 a0 tp S0, g8 q (a0 3) a1 S1]) sz) ((fun A => QI D A r (fl [g11 q o0 a0 tp S0, g8 q (a0 3) a1 S1])) (va_A (fl [g11 q o0 a0 tp S0, g8 q (a0 3) a1 S1]) sz)) 0 0 (va_A (fl [g11 q o0 a0 tp S0, g8 q (a0 3) a1 S1]) sz) := by
  refine k_met (w0 := fl [g11 q o0 a0 tp S0, g8 q (a0 3) a1 S1]) (Q := fun A => QI D A r (fl [g11 q o0 a0 tp S0, g8 q (a0 3) a1 S1])) (by decide +kernel) (Nat.le_of_ble_eq_true rfl) ?_
  intro p e s m args below meth c A ls C hP hD hS hl
  have hl : lv_has ls 6 [(0, .ref o0)] := hl
  unfold F_X11_ask at hF
  have C : cx p s m args meth c cX11_ask 6 (some .int) RX11 D q A := C
  obtain ⟨hx, hb, hr, hml, hown, hts, hlk, hA, hK, hN, hV⟩ := id C
  refine lv_iconst (v := (-1 : Int32)) hx hb dX11_ask_0 (by decide) ?_
  refine lv_istore_n (lv' := [(1, .int (-1 : Int32)), (0, .ref o0)]) hx hb dX11_ask_1 rfl hl (by decide) rfl (fun ls hl => ?_)
  refine lv_aload_n hx hb dX11_ask_2 rfl (lv_at hl 1 rfl) ?_
  refine k_get (v := .ref (a0 3)) C fg_X11_26 hP 0 rfl rfl dX11_ask_3 ?_
  refine k_get (v := .int (S1.1 7)) C fg_X11_285 hP 2 rfl rfl dX11_ask_6 ?_
  refine lv_iconst (v := (1 : Int32)) hx hb dX11_ask_9 (by decide) ?_
  refine lv_iadd hx hb dX11_ask_10 ?_
  refine lv_istore_n (lv' := [(2, .int ((S1.1 7) + (1 : Int32))), (1, .int (-1 : Int32)), (0, .ref o0)]) hx hb dX11_ask_11 rfl hl (by decide) rfl (fun ls hl => ?_)
  refine lv_iconst (v := (0 : Int32)) hx hb dX11_ask_12 (by decide) ?_
  refine lv_istore_n (lv' := [(3, .int (0 : Int32)), (2, .int ((S1.1 7) + (1 : Int32))), (1, .int (-1 : Int32)), (0, .ref o0)]) hx hb dX11_ask_13 rfl hl (by decide) rfl (fun ls hl => ?_)
  exact l_X11_ask_14 C hF _ _ _ hP hD hS (lv_sub hl [3, 2, 1, 0] rfl)

abbrev rm_X11_cover : Room := ({ frames := 4, cells := 0, slots := 0, locals := 90 } : Room)
def F_X11_cover_63 (k7 : Int32 × Int32 × Int32 × St × St → Option (Int32 × St)) (x1 : Int32) (x2 : Int32) (x3 : Int32) (S0 : St) (S1 : St) : Option (Int32 × St) := k7 (x1, x2, (x3 + 1), S0, S1)
def F_X11_cover_7 (k7 : Int32 × Int32 × Int32 × St × St → Option (Int32 × St)) (x1 : Int32) (x2 : Int32) (x3 : Int32) (S0 : St) (S1 : St) : Option (Int32 × St) := if ((1 : Int32) <<< ((S1.1 0) &&& 31)) ≤ x3 then (if x2 = (-1 : Int32) then (some ((-1 : Int32), S0)) else (nw (sI S0 16 x2) fun U3 => some (x1, U3))) else (ob1 (F_J6_bitCount_0f7a4 x3) fun r6 => if x1 ≤ r6 then (F_X11_cover_63 k7 x1 x2 x3 S0 S1) else (if (x3 &&& (S1.1 6)) = 0 then (ob1 (F_X8_lookBitsOfAll S1 x3) fun r10 => if r10 = (255 : Int32) then (F_X11_cover_63 k7 r6 x3 x3 S0 S1) else (F_X11_cover_63 k7 x1 x2 x3 S0 S1)) else (F_X11_cover_63 k7 x1 x2 x3 S0 S1)))
def L_X11_cover_7 (x1 : Int32) (x2 : Int32) (x3 : Int32) (S0 : St) (S1 : St) : Option (Int32 × St) := lp (fun kz z => F_X11_cover_7 kz z.1 z.2.1 z.2.2.1 z.2.2.2.1 z.2.2.2.2) FU (x1, x2, x3, S0, S1)
def F_X11_cover (S0 : St) (S1 : St) : Option (Int32 × St) := L_X11_cover_7 (8 : Int32) (-1 : Int32) (0 : Int32) S0 S1
set_option maxRecDepth 100000 in
set_option maxHeartbeats 4000000 in
theorem b_X11_cover_63 {p : Program} {l : Launch} {e : Env} {s : State} {m : MethodId} {args : Array Value} {below : List Frame} {meth : Method} {c : Code} {D : va_G} {q : Nat → ClassId} {A : Nat → Prop} {tp : Nat} {o0 : Nat} {a0 : Nat → Nat} {a1 : Nat → Nat} {r : Int32} {T0 : St} (C : cx p s m args meth c cX11_cover 5 (some .int) RX11 D q A) {k7 : Int32 × Int32 × Int32 × St × St → Option (Int32 × St)} (hk7 : ∀ (x1 : Int32) (x2 : Int32) (x3 : Int32) (S0 : St) (S1 : St), k7 (x1, x2, x3, S0, S1) = some (r, T0) → ∀ (H : Heap) (locs : List Loc) (ls : Array Slot), va_P D vwCl (fl [g11 q o0 a0 tp S0, g8 q (a0 3) a1 S1]) H → va_D A (fl [g11 q o0 a0 tp S0, g8 q (a0 3) a1 S1]) → va_S A s.heap H locs → lv_has ls 5 [(0, .ref o0), (1, .int x1), (2, .int x2), (3, .int x3)] → W p l e rm_X11_cover s m args below meth c H locs 0 0 (MQ below (QI D A r (fl [g11 q o0 a0 tp T0, g8 q (a0 3) a1 S1])) args s 0 0 A) (F0 m 7 ls [])) {x1 : Int32} {x2 : Int32} {x3 : Int32} {S0 : St} {S1 : St} (hF : F_X11_cover_63 k7 x1 x2 x3 S0 S1 = some (r, T0)) {H : Heap} {locs : List Loc} (hP : va_P D vwCl (fl [g11 q o0 a0 tp S0, g8 q (a0 3) a1 S1]) H) (hD : va_D A (fl [g11 q o0 a0 tp S0, g8 q (a0 3) a1 S1])) (hS : va_S A s.heap H locs) {ls : Array Slot} (hl : lv_has ls 5 [(0, .ref o0), (1, .int x1), (2, .int x2), (3, .int x3)]) : W p l e rm_X11_cover s m args below meth c H locs 0 0 (MQ below (QI D A r (fl [g11 q o0 a0 tp T0, g8 q (a0 3) a1 S1])) args s 0 0 A) (F0 m 63 ls []) := by
  unfold F_X11_cover_63 at hF
  obtain ⟨hx, hb, hr, hml, hown, hts, hlk, hA, hK, hN, hV⟩ := id C
  refine lv_iinc (v := (x3 + 1)) (lv' := [(3, .int (x3 + 1)), (0, .ref o0), (1, .int x1), (2, .int x2)]) hx hb dX11_cover_63 hl (k := 3) rfl rfl (by decide) rfl (fun ls hl => ?_)
  refine lv_goto (tgt := 7) hx hb dX11_cover_66 (by decide) ?_
  exact hk7 x1 x2 (x3 + 1) S0 S1 hF _ _ _ hP hD hS (lv_sub hl [1, 2, 3, 0] rfl)
set_option maxRecDepth 100000 in
set_option maxHeartbeats 4000000 in
theorem b_X11_cover_7 {p : Program} {l : Launch} {e : Env} {s : State} {m : MethodId} {args : Array Value} {below : List Frame} {meth : Method} {c : Code} {D : va_G} {q : Nat → ClassId} {A : Nat → Prop} {tp : Nat} {o0 : Nat} {a0 : Nat → Nat} {a1 : Nat → Nat} {r : Int32} {T0 : St} (C : cx p s m args meth c cX11_cover 5 (some .int) RX11 D q A) {k7 : Int32 × Int32 × Int32 × St × St → Option (Int32 × St)} (hk7 : ∀ (x1 : Int32) (x2 : Int32) (x3 : Int32) (S0 : St) (S1 : St), k7 (x1, x2, x3, S0, S1) = some (r, T0) → ∀ (H : Heap) (locs : List Loc) (ls : Array Slot), va_P D vwCl (fl [g11 q o0 a0 tp S0, g8 q (a0 3) a1 S1]) H → va_D A (fl [g11 q o0 a0 tp S0, g8 q (a0 3) a1 S1]) → va_S A s.heap H locs → lv_has ls 5 [(0, .ref o0), (1, .int x1), (2, .int x2), (3, .int x3)] → W p l e rm_X11_cover s m args below meth c H locs 0 0 (MQ below (QI D A r (fl [g11 q o0 a0 tp T0, g8 q (a0 3) a1 S1])) args s 0 0 A) (F0 m 7 ls [])) {x1 : Int32} {x2 : Int32} {x3 : Int32} {S0 : St} {S1 : St} (hF : F_X11_cover_7 k7 x1 x2 x3 S0 S1 = some (r, T0)) {H : Heap} {locs : List Loc} (hP : va_P D vwCl (fl [g11 q o0 a0 tp S0, g8 q (a0 3) a1 S1]) H) (hD : va_D A (fl [g11 q o0 a0 tp S0, g8 q (a0 3) a1 S1])) (hS : va_S A s.heap H locs) {ls : Array Slot} (hl : lv_has ls 5 [(0, .ref o0), (1, .int x1), (2, .int x2), (3, .int x3)]) : W p l e rm_X11_cover s m args below meth c H locs 0 0 (MQ below (QI D A r (fl [g11 q o0 a0 tp T0, g8 q (a0 3) a1 S1])) args s 0 0 A) (F0 m 7 ls []) := by
  unfold F_X11_cover_7 at hF
  obtain ⟨hx, hb, hr, hml, hown, hts, hlk, hA, hK, hN, hV⟩ := id C
  refine lv_iload_n hx hb dX11_cover_7 rfl (lv_at hl 3 rfl) ?_
  refine lv_iconst (v := (1 : Int32)) hx hb dX11_cover_8 (by decide) ?_
  refine lv_aload_n hx hb dX11_cover_9 rfl (lv_at hl 0 rfl) ?_
  refine k_get (v := .ref (a0 3)) C fg_X11_26 hP 0 rfl rfl dX11_cover_10 ?_
  refine k_get (v := .int (S1.1 0)) C fg_X11_296 hP 2 rfl rfl dX11_cover_13 ?_
  refine lv_ishl hx hb dX11_cover_16 ?_
  refine lv_icmp_ge (tgt := 69) hx hb dX11_cover_17 (by decide) (fun c1 => ?_) (fun c1 => ?_)
  · have hF := op_t hF c1
    refine lv_iload_n hx hb dX11_cover_69 rfl (lv_at hl 2 rfl) ?_
    refine lv_iconst (v := (-1 : Int32)) hx hb dX11_cover_70 (by decide) ?_
    refine lv_icmp_ne (tgt := 76) hx hb dX11_cover_71 (by decide) (fun c2 => ?_) (fun c2 => ?_)
    · have hF := op_f hF c2
      refine lv_aload_n hx hb dX11_cover_76 rfl (lv_at hl 0 rfl) ?_
      refine lv_iload_n hx hb dX11_cover_77 rfl (lv_at hl 2 rfl) ?_
      obtain ⟨U3, e4, hF⟩ := nw_s hF
      refine k_put (W8 := fl [g11 q o0 a0 tp U3, g8 q (a0 3) a1 S1]) C fp_X11_108 hP hD hS 0 rfl rfl rfl (Nat.le_of_ble_eq_true rfl) dX11_cover_78 (by rw [e4]; rfl) (fun H locs hP hD hS => ?_)
      refine lv_iload_n hx hb dX11_cover_81 rfl (lv_at hl 1 rfl) ?_
      cases hF
      exact k_iret C hP hS dX11_cover_82
    · have hF := op_t hF c2
      refine lv_iconst (v := (-1 : Int32)) hx hb dX11_cover_74 (by decide) ?_
      cases hF
      exact k_iret C hP hS dX11_cover_75
  · have hF := op_f hF c1
    refine lv_iload_n hx hb dX11_cover_20 rfl (lv_at hl 3 rfl) ?_
    obtain ⟨r6, hc5, hF⟩ := ob1_s hF
    refine k_inil C (k_rS (As := [.int x3]) (rest := []) C (c_J6_bitCount_0f7a4 l D q _ x3 hc5) kc_J6_bitCount_0f7a4 ml_X11_299 rfl rfl (by decide) (fun k x h => by simp at h) (⟨fun i j x y h => by simp at h, fun k x h => by simp at h⟩ : va_D A []) hS rfl hl.1 rfl (Nat.le_of_ble_eq_true rfl) dX11_cover_21 (by decide)) hP hD hS (fun H locs hP hD hS => ?_)
    refine lv_istore (lv' := [(4, .int r6), (0, .ref o0), (1, .int x1), (2, .int x2), (3, .int x3)]) hx hb dX11_cover_24 hl (by decide) rfl (fun ls hl => ?_)
    refine lv_iload hx hb dX11_cover_26 (lv_at hl 0 rfl) ?_
    refine lv_iload_n hx hb dX11_cover_28 rfl (lv_at hl 2 rfl) ?_
    refine lv_icmp_ge (tgt := 63) hx hb dX11_cover_29 (by decide) (fun c7 => ?_) (fun c7 => ?_)
    · have hF := op_t hF c7
      exact b_X11_cover_63 C hk7 hF hP hD hS (lv_sub hl [1, 2, 3, 4] rfl)
    · have hF := op_f hF c7
      refine lv_iload_n hx hb dX11_cover_32 rfl (lv_at hl 4 rfl) ?_
      refine lv_aload_n hx hb dX11_cover_33 rfl (lv_at hl 1 rfl) ?_
      refine k_get (v := .ref (a0 3)) C fg_X11_26 hP 0 rfl rfl dX11_cover_34 ?_
      refine k_get (v := .int (S1.1 6)) C fg_X11_187 hP 2 rfl rfl dX11_cover_37 ?_
      refine lv_iand hx hb dX11_cover_40 ?_
      refine lv_if_ne (tgt := 63) hx hb dX11_cover_41 (by decide) (fun c8 => ?_) (fun c8 => ?_)
      · have hF := op_f hF c8
        exact b_X11_cover_63 C hk7 hF hP hD hS (lv_sub hl [1, 2, 3, 4] rfl)
      · have hF := op_t hF c8
        refine lv_aload_n hx hb dX11_cover_44 rfl (lv_at hl 1 rfl) ?_
        refine k_get (v := .ref (a0 3)) C fg_X11_26 hP 0 rfl rfl dX11_cover_45 ?_
        refine lv_iload_n hx hb dX11_cover_48 rfl (lv_at hl 4 rfl) ?_
        obtain ⟨r10, hc9, hF⟩ := ob1_s hF
        refine k_iro C (k_rV (As := [.int x3]) (rest := []) C (c_X8_lookBitsOfAll l D q (a0 3) a1 S1 _ x3 hc9) kc_X8_lookBitsOfAll ml_X11_304 rfl rfl (by decide) (flP hP [1] rfl) (flD hD [1] (by decide) rfl) hS (va_recv hK hP (ci := 8) (q0 := 2) rfl rfl) rfl hl.1 rfl (Nat.le_of_ble_eq_true rfl) dX11_cover_49 (by decide)) hP hD hS [1] [0] [g11 q o0 a0 tp S0] 2 (by decide) rfl rfl rfl rfl (fun H locs hP hD hS => ?_)
        refine lv_sipush (v := (255 : Int32)) hx hb dX11_cover_52 (by decide) ?_
        refine lv_icmp_ne (tgt := 63) hx hb dX11_cover_55 (by decide) (fun c11 => ?_) (fun c11 => ?_)
        · have hF := op_f hF c11
          exact b_X11_cover_63 C hk7 hF hP hD hS (lv_sub hl [1, 2, 3, 4] rfl)
        · have hF := op_t hF c11
          refine lv_iload hx hb dX11_cover_58 (lv_at hl 0 rfl) ?_
          refine lv_istore_n (lv' := [(1, .int r6), (4, .int r6), (0, .ref o0), (2, .int x2), (3, .int x3)]) hx hb dX11_cover_60 rfl hl (by decide) rfl (fun ls hl => ?_)
          refine lv_iload_n hx hb dX11_cover_61 rfl (lv_at hl 4 rfl) ?_
          refine lv_istore_n (lv' := [(2, .int x3), (1, .int r6), (4, .int r6), (0, .ref o0), (3, .int x3)]) hx hb dX11_cover_62 rfl hl (by decide) rfl (fun ls hl => ?_)
          exact b_X11_cover_63 C hk7 hF hP hD hS (lv_sub hl [3, 1, 0, 4] rfl)
set_option maxRecDepth 100000 in
set_option maxHeartbeats 4000000 in
theorem l_X11_cover_7 {p : Program} {l : Launch} {e : Env} {s : State} {m : MethodId} {args : Array Value} {below : List Frame} {meth : Method} {c : Code} {D : va_G} {q : Nat → ClassId} {A : Nat → Prop} {tp : Nat} {o0 : Nat} {a0 : Nat → Nat} {a1 : Nat → Nat} {r : Int32} {T0 : St} (C : cx p s m args meth c cX11_cover 5 (some .int) RX11 D q A) {x1 : Int32} {x2 : Int32} {x3 : Int32} {S0 : St} {S1 : St} (hF : L_X11_cover_7 x1 x2 x3 S0 S1 = some (r, T0)) : ∀ (H : Heap) (locs : List Loc) (ls : Array Slot), va_P D vwCl (fl [g11 q o0 a0 tp S0, g8 q (a0 3) a1 S1]) H → va_D A (fl [g11 q o0 a0 tp S0, g8 q (a0 3) a1 S1]) → va_S A s.heap H locs → lv_has ls 5 [(0, .ref o0), (1, .int x1), (2, .int x2), (3, .int x3)] → W p l e rm_X11_cover s m args below meth c H locs 0 0 (MQ below (QI D A r (fl [g11 q o0 a0 tp T0, g8 q (a0 3) a1 S1])) args s 0 0 A) (F0 m 7 ls []) :=
  lp_G _ _ (fun z => ∀ (H : Heap) (locs : List Loc) (ls : Array Slot), va_P D vwCl (fl [g11 q o0 a0 tp z.2.2.2.1, g8 q (a0 3) a1 z.2.2.2.2]) H → va_D A (fl [g11 q o0 a0 tp z.2.2.2.1, g8 q (a0 3) a1 z.2.2.2.2]) → va_S A s.heap H locs → lv_has ls 5 [(0, .ref o0), (1, .int z.1), (2, .int z.2.1), (3, .int z.2.2.1)] → W p l e rm_X11_cover s m args below meth c H locs 0 0 (MQ below (QI D A r (fl [g11 q o0 a0 tp T0, g8 q (a0 3) a1 z.2.2.2.2])) args s 0 0 A) (F0 m 7 ls [])) (fun kz hkz z hz H locs ls hP hD hS hl => b_X11_cover_7 C (fun x1 x2 x3 S0 S1 hz => hkz (x1, x2, x3, S0, S1) hz) hz hP hD hS hl) FU (x1, x2, x3, S0, S1) hF
set_option maxRecDepth 100000 in
set_option maxHeartbeats 4000000 in
theorem c_X11_cover (l : Launch) (D : va_G) (q : Nat → ClassId) (tp : Nat) (o0 : Nat) (a0 : Nat → Nat) (S0 : St) (a1 : Nat → Nat) (S1 : St) (sz : Nat) {r : Int32} {T0 : St} (hF : F_X11_cover S0 S1 = some (r, T0)) : Met l yX11_cover (Cond.code yX11_cover cX11_cover 5 (some .int) :: TB) rm_X11_cover (PC D q [.ref o0] (fl [g11 q o0 a0 tp S0, g8 q (a0 3) a1 S1]) sz) ((fun A => QI D A r (fl [g11 q o0 a0 tp T0, g8 q (a0 3) a1 S1])) (va_A (fl [g11 q o0 a0 tp S0, g8 q (a0 3) a1 S1]) sz)) 0 0 (va_A (fl [g11 q o0 a0 tp S0, g8 q (a0 3) a1 S1]) sz) := by
  refine k_met (w0 := fl [g11 q o0 a0 tp S0, g8 q (a0 3) a1 S1]) (Q := fun A => QI D A r (fl [g11 q o0 a0 tp T0, g8 q (a0 3) a1 S1])) (by decide +kernel) (Nat.le_of_ble_eq_true rfl) ?_
  intro p e s m args below meth c A ls C hP hD hS hl
  have hl : lv_has ls 5 [(0, .ref o0)] := hl
  unfold F_X11_cover at hF
  have C : cx p s m args meth c cX11_cover 5 (some .int) RX11 D q A := C
  obtain ⟨hx, hb, hr, hml, hown, hts, hlk, hA, hK, hN, hV⟩ := id C
  refine lv_bipush (v := (8 : Int32)) hx hb dX11_cover_0 (by decide) ?_
  refine lv_istore_n (lv' := [(1, .int (8 : Int32)), (0, .ref o0)]) hx hb dX11_cover_2 rfl hl (by decide) rfl (fun ls hl => ?_)
  refine lv_iconst (v := (-1 : Int32)) hx hb dX11_cover_3 (by decide) ?_
  refine lv_istore_n (lv' := [(2, .int (-1 : Int32)), (1, .int (8 : Int32)), (0, .ref o0)]) hx hb dX11_cover_4 rfl hl (by decide) rfl (fun ls hl => ?_)
  refine lv_iconst (v := (0 : Int32)) hx hb dX11_cover_5 (by decide) ?_
  refine lv_istore_n (lv' := [(3, .int (0 : Int32)), (2, .int (-1 : Int32)), (1, .int (8 : Int32)), (0, .ref o0)]) hx hb dX11_cover_6 rfl hl (by decide) rfl (fun ls hl => ?_)
  exact l_X11_cover_7 C hF _ _ _ hP hD hS (lv_sub hl [3, 2, 1, 0] rfl)

abbrev rm_X11_covering : Room := ({ frames := 0, cells := 0, slots := 0, locals := 0 } : Room)
def F_X11_covering (S0 : St) : Option (Int32) := some ((S0.1 16))
set_option maxRecDepth 100000 in
set_option maxHeartbeats 4000000 in
theorem c_X11_covering (l : Launch) (D : va_G) (q : Nat → ClassId) (tp : Nat) (o0 : Nat) (a0 : Nat → Nat) (S0 : St) (sz : Nat) {r : Int32} (hF : F_X11_covering S0 = some (r)) : Met l yX11_covering (Cond.code yX11_covering cX11_covering 1 (some .int) :: TB) rm_X11_covering (PC D q [.ref o0] (fl [g11 q o0 a0 tp S0]) sz) ((fun A => QI D A r (fl [g11 q o0 a0 tp S0])) (va_A (fl [g11 q o0 a0 tp S0]) sz)) 0 0 (va_A (fl [g11 q o0 a0 tp S0]) sz) := by
  refine k_met (w0 := fl [g11 q o0 a0 tp S0]) (Q := fun A => QI D A r (fl [g11 q o0 a0 tp S0])) (by decide +kernel) (Nat.le_of_ble_eq_true rfl) ?_
  intro p e s m args below meth c A ls C hP hD hS hl
  have hl : lv_has ls 1 [(0, .ref o0)] := hl
  unfold F_X11_covering at hF
  have C : cx p s m args meth c cX11_covering 1 (some .int) RX11 D q A := C
  obtain ⟨hx, hb, hr, hml, hown, hts, hlk, hA, hK, hN, hV⟩ := id C
  refine lv_aload_n hx hb dX11_covering_0 rfl (lv_at hl 0 rfl) ?_
  refine k_get (v := .int (S0.1 16)) C fg_X11_108 hP 0 rfl rfl dX11_covering_1 ?_
  cases hF
  exact k_iret C hP hS dX11_covering_4

abbrev rm_X11_partyOf : Room := ({ frames := 0, cells := 0, slots := 0, locals := 0 } : Room)
def F_X11_partyOf_10 (S0 : St) (S1 : St) : Option (Int32) := some ((-1 : Int32))
def F_X11_partyOf (S0 : St) (S1 : St) (x1 : Int32) : Option (Int32) := if x1 < 0 then (F_X11_partyOf_10 S0 S1) else (if x1 < (6 : Int32) then (if oob x1 6 then none else some ((S1.2.2.1 4 x1.toNatClampNeg))) else (F_X11_partyOf_10 S0 S1))
set_option maxRecDepth 100000 in
set_option maxHeartbeats 4000000 in
theorem b_X11_partyOf_10 {p : Program} {l : Launch} {e : Env} {s : State} {m : MethodId} {args : Array Value} {below : List Frame} {meth : Method} {c : Code} {D : va_G} {q : Nat → ClassId} {A : Nat → Prop} {tp : Nat} {o0 : Nat} {a0 : Nat → Nat} {a1 : Nat → Nat} {r : Int32} (C : cx p s m args meth c cX11_partyOf 2 (some .int) RX11 D q A) {S0 : St} {S1 : St} (hF : F_X11_partyOf_10 S0 S1 = some (r)) {H : Heap} {locs : List Loc} (hP : va_P D vwCl (fl [g11 q o0 a0 tp S0, g4 q (a0 11) a1 S1]) H) (hD : va_D A (fl [g11 q o0 a0 tp S0, g4 q (a0 11) a1 S1])) (hS : va_S A s.heap H locs) {ls : Array Slot} (hl : lv_has ls 2 []) : W p l e rm_X11_partyOf s m args below meth c H locs 0 0 (MQ below (QI D A r (fl [g11 q o0 a0 tp S0, g4 q (a0 11) a1 S1])) args s 0 0 A) (F0 m 10 ls []) := by
  unfold F_X11_partyOf_10 at hF
  obtain ⟨hx, hb, hr, hml, hown, hts, hlk, hA, hK, hN, hV⟩ := id C
  refine lv_iconst (v := (-1 : Int32)) hx hb dX11_partyOf_10 (by decide) ?_
  refine lv_goto (tgt := 23) hx hb dX11_partyOf_11 (by decide) ?_
  cases hF
  exact k_iret C hP hS dX11_partyOf_23
set_option maxRecDepth 100000 in
set_option maxHeartbeats 4000000 in
theorem c_X11_partyOf (l : Launch) (D : va_G) (q : Nat → ClassId) (tp : Nat) (o0 : Nat) (a0 : Nat → Nat) (S0 : St) (a1 : Nat → Nat) (S1 : St) (sz : Nat) (x1 : Int32) {r : Int32} (hF : F_X11_partyOf S0 S1 x1 = some (r)) : Met l yX11_partyOf (Cond.code yX11_partyOf cX11_partyOf 2 (some .int) :: TB) rm_X11_partyOf (PC D q [.ref o0, .int x1] (fl [g11 q o0 a0 tp S0, g4 q (a0 11) a1 S1]) sz) ((fun A => QI D A r (fl [g11 q o0 a0 tp S0, g4 q (a0 11) a1 S1])) (va_A (fl [g11 q o0 a0 tp S0, g4 q (a0 11) a1 S1]) sz)) 0 0 (va_A (fl [g11 q o0 a0 tp S0, g4 q (a0 11) a1 S1]) sz) := by
  refine k_met (w0 := fl [g11 q o0 a0 tp S0, g4 q (a0 11) a1 S1]) (Q := fun A => QI D A r (fl [g11 q o0 a0 tp S0, g4 q (a0 11) a1 S1])) (by decide +kernel) (Nat.le_of_ble_eq_true rfl) ?_
  intro p e s m args below meth c A ls C hP hD hS hl
  have hl : lv_has ls 2 [(0, .ref o0), (1, .int x1)] := hl
  unfold F_X11_partyOf at hF
  have C : cx p s m args meth c cX11_partyOf 2 (some .int) RX11 D q A := C
  obtain ⟨hx, hb, hr, hml, hown, hts, hlk, hA, hK, hN, hV⟩ := id C
  refine lv_iload_n hx hb dX11_partyOf_0 rfl (lv_at hl 1 rfl) ?_
  refine lv_if_lt (tgt := 10) hx hb dX11_partyOf_1 (by decide) (fun c1 => ?_) (fun c1 => ?_)
  · have hF := op_t hF c1
    exact b_X11_partyOf_10 C hF hP hD hS (lv_sub hl [] rfl)
  · have hF := op_f hF c1
    refine lv_iload_n hx hb dX11_partyOf_4 rfl (lv_at hl 1 rfl) ?_
    refine lv_bipush (v := (6 : Int32)) hx hb dX11_partyOf_5 (by decide) ?_
    refine lv_icmp_lt (tgt := 14) hx hb dX11_partyOf_7 (by decide) (fun c2 => ?_) (fun c2 => ?_)
    · have hF := op_t hF c2
      refine lv_aload_n hx hb dX11_partyOf_14 rfl (lv_at hl 0 rfl) ?_
      refine k_get (v := .ref (a0 11)) C fg_X11_74 hP 0 rfl rfl dX11_partyOf_15 ?_
      refine k_get (v := .ref (a1 5)) C fg_X11_311 hP 2 rfl rfl dX11_partyOf_18 ?_
      refine lv_iload_n hx hb dX11_partyOf_21 rfl (lv_at hl 1 rfl) ?_
      obtain ⟨h3, hF⟩ := op_ck hF
      refine k_ild (f := S1.2.2.1 4) C hP 7 rfl h3 dX11_partyOf_22 ?_
      cases hF
      exact k_iret C hP hS dX11_partyOf_23
    · have hF := op_f hF c2
      exact b_X11_partyOf_10 C hF hP hD hS (lv_sub hl [] rfl)

abbrev rm_X11_tea : Room := ({ frames := 5, cells := 0, slots := 0, locals := 112 } : Room)
def F_X11_tea (S0 : St) (S1 : St) (S2 : St) : Option (Int32 × St) := ob2 (F_X10_sit S2 S1) fun r2 U3 => some (r2, U3)
set_option maxRecDepth 100000 in
set_option maxHeartbeats 4000000 in
theorem c_X11_tea (l : Launch) (D : va_G) (q : Nat → ClassId) (tp : Nat) (o0 : Nat) (a0 : Nat → Nat) (S0 : St) (a1 : Nat → Nat) (S1 : St) (a2 : Nat → Nat) (S2 : St) (sz : Nat) {r : Int32} {T2 : St} (hF : F_X11_tea S0 S1 S2 = some (r, T2)) : Met l yX11_tea (Cond.code yX11_tea cX11_tea 1 (some .int) :: TB) rm_X11_tea (PC D q [.ref o0] (fl [g11 q o0 a0 tp S0, g8 q (a0 3) a1 S1, g10 q (a0 12) a2 S2]) sz) ((fun A => QI D A r (fl [g11 q o0 a0 tp S0, g8 q (a0 3) a1 S1, g10 q (a0 12) a2 T2])) (va_A (fl [g11 q o0 a0 tp S0, g8 q (a0 3) a1 S1, g10 q (a0 12) a2 S2]) sz)) 0 0 (va_A (fl [g11 q o0 a0 tp S0, g8 q (a0 3) a1 S1, g10 q (a0 12) a2 S2]) sz) := by
  refine k_met (w0 := fl [g11 q o0 a0 tp S0, g8 q (a0 3) a1 S1, g10 q (a0 12) a2 S2]) (Q := fun A => QI D A r (fl [g11 q o0 a0 tp S0, g8 q (a0 3) a1 S1, g10 q (a0 12) a2 T2])) (by decide +kernel) (Nat.le_of_ble_eq_true rfl) ?_
  intro p e s m args below meth c A ls C hP hD hS hl
  have hl : lv_has ls 1 [(0, .ref o0)] := hl
  unfold F_X11_tea at hF
  have C : cx p s m args meth c cX11_tea 1 (some .int) RX11 D q A := C
  obtain ⟨hx, hb, hr, hml, hown, hts, hlk, hA, hK, hN, hV⟩ := id C
  refine lv_aload_n hx hb dX11_tea_0 rfl (lv_at hl 0 rfl) ?_
  refine k_get (v := .ref (a0 12)) C fg_X11_81 hP 0 rfl rfl dX11_tea_1 ?_
  refine lv_aload_n hx hb dX11_tea_4 rfl (lv_at hl 0 rfl) ?_
  refine k_get (v := .ref (a0 3)) C fg_X11_26 hP 0 rfl rfl dX11_tea_5 ?_
  obtain ⟨r2, U3, hc1, hF⟩ := ob2_s hF
  refine k_igrp (gs8 := [g11 q o0 a0 tp S0, g8 q (a0 3) a1 S1, g10 q (a0 12) a2 U3]) C (k_rV (As := [.ref (a0 3)]) (rest := []) C (c_X10_sit l D q (a0 12) a2 S2 (a0 3) a1 S1 _ hc1) kc_X10_sit ml_X11_314 rfl rfl (by decide) (flP hP [2, 1] rfl) (flD hD [2, 1] (by decide) rfl) hS (va_recv hK hP (ci := 10) (q0 := 13) rfl rfl) rfl hl.1 rfl (Nat.le_of_ble_eq_true rfl) dX11_tea_8 (by decide)) hP hD hS [2, 1] [0] [g11 q o0 a0 tp S0] 3 (by decide) rfl rfl rfl rfl rfl rfl (by simp only [List.map_cons, List.map_nil, gad10, gad11, gad8]) (fun H locs hP hD hS => ?_)
  cases hF
  exact k_iret C hP hS dX11_tea_11

abbrev rm_X11_teaOf : Room := ({ frames := 0, cells := 0, slots := 0, locals := 0 } : Room)
def F_X11_teaOf_15 (S0 : St) (S1 : St) : Option (Int32) := some ((-1 : Int32))
def F_X11_teaOf (S0 : St) (S1 : St) (x1 : Int32) : Option (Int32) := if x1 < 0 then (F_X11_teaOf_15 S0 S1) else (if x1 < (S1.1 1) then (if oob x1 6 then none else some ((S1.2.2.1 0 x1.toNatClampNeg))) else (F_X11_teaOf_15 S0 S1))
set_option maxRecDepth 100000 in
set_option maxHeartbeats 4000000 in
theorem b_X11_teaOf_15 {p : Program} {l : Launch} {e : Env} {s : State} {m : MethodId} {args : Array Value} {below : List Frame} {meth : Method} {c : Code} {D : va_G} {q : Nat → ClassId} {A : Nat → Prop} {tp : Nat} {o0 : Nat} {a0 : Nat → Nat} {a1 : Nat → Nat} {r : Int32} (C : cx p s m args meth c cX11_teaOf 2 (some .int) RX11 D q A) {S0 : St} {S1 : St} (hF : F_X11_teaOf_15 S0 S1 = some (r)) {H : Heap} {locs : List Loc} (hP : va_P D vwCl (fl [g11 q o0 a0 tp S0, g10 q (a0 12) a1 S1]) H) (hD : va_D A (fl [g11 q o0 a0 tp S0, g10 q (a0 12) a1 S1])) (hS : va_S A s.heap H locs) {ls : Array Slot} (hl : lv_has ls 2 []) : W p l e rm_X11_teaOf s m args below meth c H locs 0 0 (MQ below (QI D A r (fl [g11 q o0 a0 tp S0, g10 q (a0 12) a1 S1])) args s 0 0 A) (F0 m 15 ls []) := by
  unfold F_X11_teaOf_15 at hF
  obtain ⟨hx, hb, hr, hml, hown, hts, hlk, hA, hK, hN, hV⟩ := id C
  refine lv_iconst (v := (-1 : Int32)) hx hb dX11_teaOf_15 (by decide) ?_
  refine lv_goto (tgt := 28) hx hb dX11_teaOf_16 (by decide) ?_
  cases hF
  exact k_iret C hP hS dX11_teaOf_28
set_option maxRecDepth 100000 in
set_option maxHeartbeats 4000000 in
theorem c_X11_teaOf (l : Launch) (D : va_G) (q : Nat → ClassId) (tp : Nat) (o0 : Nat) (a0 : Nat → Nat) (S0 : St) (a1 : Nat → Nat) (S1 : St) (sz : Nat) (x1 : Int32) {r : Int32} (hF : F_X11_teaOf S0 S1 x1 = some (r)) : Met l yX11_teaOf (Cond.code yX11_teaOf cX11_teaOf 2 (some .int) :: TB) rm_X11_teaOf (PC D q [.ref o0, .int x1] (fl [g11 q o0 a0 tp S0, g10 q (a0 12) a1 S1]) sz) ((fun A => QI D A r (fl [g11 q o0 a0 tp S0, g10 q (a0 12) a1 S1])) (va_A (fl [g11 q o0 a0 tp S0, g10 q (a0 12) a1 S1]) sz)) 0 0 (va_A (fl [g11 q o0 a0 tp S0, g10 q (a0 12) a1 S1]) sz) := by
  refine k_met (w0 := fl [g11 q o0 a0 tp S0, g10 q (a0 12) a1 S1]) (Q := fun A => QI D A r (fl [g11 q o0 a0 tp S0, g10 q (a0 12) a1 S1])) (by decide +kernel) (Nat.le_of_ble_eq_true rfl) ?_
  intro p e s m args below meth c A ls C hP hD hS hl
  have hl : lv_has ls 2 [(0, .ref o0), (1, .int x1)] := hl
  unfold F_X11_teaOf at hF
  have C : cx p s m args meth c cX11_teaOf 2 (some .int) RX11 D q A := C
  obtain ⟨hx, hb, hr, hml, hown, hts, hlk, hA, hK, hN, hV⟩ := id C
  refine lv_iload_n hx hb dX11_teaOf_0 rfl (lv_at hl 1 rfl) ?_
  refine lv_if_lt (tgt := 15) hx hb dX11_teaOf_1 (by decide) (fun c1 => ?_) (fun c1 => ?_)
  · have hF := op_t hF c1
    exact b_X11_teaOf_15 C hF hP hD hS (lv_sub hl [] rfl)
  · have hF := op_f hF c1
    refine lv_iload_n hx hb dX11_teaOf_4 rfl (lv_at hl 1 rfl) ?_
    refine lv_aload_n hx hb dX11_teaOf_5 rfl (lv_at hl 0 rfl) ?_
    refine k_get (v := .ref (a0 12)) C fg_X11_81 hP 0 rfl rfl dX11_teaOf_6 ?_
    refine k_get (v := .int (S1.1 1)) C fg_X11_317 hP 2 rfl rfl dX11_teaOf_9 ?_
    refine lv_icmp_lt (tgt := 19) hx hb dX11_teaOf_12 (by decide) (fun c2 => ?_) (fun c2 => ?_)
    · have hF := op_t hF c2
      refine lv_aload_n hx hb dX11_teaOf_19 rfl (lv_at hl 0 rfl) ?_
      refine k_get (v := .ref (a0 12)) C fg_X11_81 hP 0 rfl rfl dX11_teaOf_20 ?_
      refine k_get (v := .ref (a1 1)) C fg_X11_318 hP 2 rfl rfl dX11_teaOf_23 ?_
      refine lv_iload_n hx hb dX11_teaOf_26 rfl (lv_at hl 1 rfl) ?_
      obtain ⟨h3, hF⟩ := op_ck hF
      refine k_ild (f := S1.2.2.1 0) C hP 3 rfl h3 dX11_teaOf_27 ?_
      cases hF
      exact k_iret C hP hS dX11_teaOf_28
    · have hF := op_f hF c2
      exact b_X11_teaOf_15 C hF hP hD hS (lv_sub hl [] rfl)

abbrev rm_X11_when : Room := ({ frames := 1, cells := 0, slots := 0, locals := 21 } : Room)
def F_X11_when_57 (x3 : Int32) (S0 : St) (S1 : St) : Option (Int32) := some (x3)
def F_X11_when (S0 : St) (S1 : St) (x1 : Int32) (x2 : Int32) : Option (Int32) := ob1 (F_X8_hasTurret S1 x1) fun r2 => if r2 = 0 then (some ((-1 : Int32))) else (if x2 < 0 then (some ((-1 : Int32))) else (if x2 < (8 : Int32) then (if oob x1 7 then none else ob1 (F_X11_allRound (x2 - (S1.2.2.1 3 x1.toNatClampNeg))) fun r8 => if r8 = 0 then (F_X11_when_57 r8 S0 S1) else (if (((S1.1 5) >>> (x1 &&& 31)) &&& (1 : Int32)) = (1 : Int32) then (F_X11_when_57 r8 S0 S1) else (some ((-1 : Int32))))) else (some ((-1 : Int32)))))
set_option maxRecDepth 100000 in
set_option maxHeartbeats 4000000 in
theorem b_X11_when_57 {p : Program} {l : Launch} {e : Env} {s : State} {m : MethodId} {args : Array Value} {below : List Frame} {meth : Method} {c : Code} {D : va_G} {q : Nat → ClassId} {A : Nat → Prop} {tp : Nat} {o0 : Nat} {a0 : Nat → Nat} {a1 : Nat → Nat} {r : Int32} (C : cx p s m args meth c cX11_when 4 (some .int) RX11 D q A) {x3 : Int32} {S0 : St} {S1 : St} (hF : F_X11_when_57 x3 S0 S1 = some (r)) {H : Heap} {locs : List Loc} (hP : va_P D vwCl (fl [g11 q o0 a0 tp S0, g8 q (a0 3) a1 S1]) H) (hD : va_D A (fl [g11 q o0 a0 tp S0, g8 q (a0 3) a1 S1])) (hS : va_S A s.heap H locs) {ls : Array Slot} (hl : lv_has ls 4 [(3, .int x3)]) : W p l e rm_X11_when s m args below meth c H locs 0 0 (MQ below (QI D A r (fl [g11 q o0 a0 tp S0, g8 q (a0 3) a1 S1])) args s 0 0 A) (F0 m 57 ls []) := by
  unfold F_X11_when_57 at hF
  obtain ⟨hx, hb, hr, hml, hown, hts, hlk, hA, hK, hN, hV⟩ := id C
  refine lv_iload_n hx hb dX11_when_57 rfl (lv_at hl 0 rfl) ?_
  refine lv_goto (tgt := 62) hx hb dX11_when_58 (by decide) ?_
  cases hF
  exact k_iret C hP hS dX11_when_62
set_option maxRecDepth 100000 in
set_option maxHeartbeats 4000000 in
theorem c_X11_when (l : Launch) (D : va_G) (q : Nat → ClassId) (tp : Nat) (o0 : Nat) (a0 : Nat → Nat) (S0 : St) (a1 : Nat → Nat) (S1 : St) (sz : Nat) (x1 : Int32) (x2 : Int32) {r : Int32} (hF : F_X11_when S0 S1 x1 x2 = some (r)) : Met l yX11_when (Cond.code yX11_when cX11_when 4 (some .int) :: TB) rm_X11_when (PC D q [.ref o0, .int x1, .int x2] (fl [g11 q o0 a0 tp S0, g8 q (a0 3) a1 S1]) sz) ((fun A => QI D A r (fl [g11 q o0 a0 tp S0, g8 q (a0 3) a1 S1])) (va_A (fl [g11 q o0 a0 tp S0, g8 q (a0 3) a1 S1]) sz)) 0 0 (va_A (fl [g11 q o0 a0 tp S0, g8 q (a0 3) a1 S1]) sz) := by
  refine k_met (w0 := fl [g11 q o0 a0 tp S0, g8 q (a0 3) a1 S1]) (Q := fun A => QI D A r (fl [g11 q o0 a0 tp S0, g8 q (a0 3) a1 S1])) (by decide +kernel) (Nat.le_of_ble_eq_true rfl) ?_
  intro p e s m args below meth c A ls C hP hD hS hl
  have hl : lv_has ls 4 [(0, .ref o0), (1, .int x1), (2, .int x2)] := hl
  unfold F_X11_when at hF
  have C : cx p s m args meth c cX11_when 4 (some .int) RX11 D q A := C
  obtain ⟨hx, hb, hr, hml, hown, hts, hlk, hA, hK, hN, hV⟩ := id C
  refine lv_aload_n hx hb dX11_when_0 rfl (lv_at hl 0 rfl) ?_
  refine k_get (v := .ref (a0 3)) C fg_X11_26 hP 0 rfl rfl dX11_when_1 ?_
  refine lv_iload_n hx hb dX11_when_4 rfl (lv_at hl 1 rfl) ?_
  obtain ⟨r2, hc1, hF⟩ := ob1_s hF
  refine k_iro C (k_rV (As := [.int x1]) (rest := []) C (c_X8_hasTurret l D q (a0 3) a1 S1 _ x1 hc1) kc_X8_hasTurret ml_X11_172 rfl rfl (by decide) (flP hP [1] rfl) (flD hD [1] (by decide) rfl) hS (va_recv hK hP (ci := 8) (q0 := 2) rfl rfl) rfl hl.1 rfl (Nat.le_of_ble_eq_true rfl) dX11_when_5 (by decide)) hP hD hS [1] [0] [g11 q o0 a0 tp S0] 2 (by decide) rfl rfl rfl rfl (fun H locs hP hD hS => ?_)
  refine lv_if_eq (tgt := 21) hx hb dX11_when_8 (by decide) (fun c3 => ?_) (fun c3 => ?_)
  · have hF := op_t hF c3
    refine lv_iconst (v := (-1 : Int32)) hx hb dX11_when_21 (by decide) ?_
    cases hF
    exact k_iret C hP hS dX11_when_22
  · have hF := op_f hF c3
    refine lv_iload_n hx hb dX11_when_11 rfl (lv_at hl 2 rfl) ?_
    refine lv_if_lt (tgt := 21) hx hb dX11_when_12 (by decide) (fun c4 => ?_) (fun c4 => ?_)
    · have hF := op_t hF c4
      refine lv_iconst (v := (-1 : Int32)) hx hb dX11_when_21 (by decide) ?_
      cases hF
      exact k_iret C hP hS dX11_when_22
    · have hF := op_f hF c4
      refine lv_iload_n hx hb dX11_when_15 rfl (lv_at hl 2 rfl) ?_
      refine lv_bipush (v := (8 : Int32)) hx hb dX11_when_16 (by decide) ?_
      refine lv_icmp_lt (tgt := 23) hx hb dX11_when_18 (by decide) (fun c5 => ?_) (fun c5 => ?_)
      · have hF := op_t hF c5
        refine lv_iload_n hx hb dX11_when_23 rfl (lv_at hl 2 rfl) ?_
        refine lv_aload_n hx hb dX11_when_24 rfl (lv_at hl 0 rfl) ?_
        refine k_get (v := .ref (a0 3)) C fg_X11_26 hP 0 rfl rfl dX11_when_25 ?_
        refine k_get (v := .ref (a1 4)) C fg_X11_178 hP 2 rfl rfl dX11_when_28 ?_
        refine lv_iload_n hx hb dX11_when_31 rfl (lv_at hl 1 rfl) ?_
        obtain ⟨h6, hF⟩ := op_ck hF
        refine k_ild (f := S1.2.2.1 3) C hP 5 rfl h6 dX11_when_32 ?_
        refine lv_isub hx hb dX11_when_33 ?_
        obtain ⟨r8, hc7, hF⟩ := ob1_s hF
        refine k_inil C (k_rS (As := [.int (x2 - (S1.2.2.1 3 x1.toNatClampNeg))]) (rest := []) C (c_X11_allRound l D q _ (x2 - (S1.2.2.1 3 x1.toNatClampNeg)) hc7) kc_X11_allRound ml_X11_319 rfl rfl (by decide) (fun k x h => by simp at h) (⟨fun i j x y h => by simp at h, fun k x h => by simp at h⟩ : va_D A []) hS rfl hl.1 rfl (Nat.le_of_ble_eq_true rfl) dX11_when_34 (by decide)) hP hD hS (fun H locs hP hD hS => ?_)
        refine lv_istore_n (lv' := [(3, .int r8), (0, .ref o0), (1, .int x1), (2, .int x2)]) hx hb dX11_when_37 rfl hl (by decide) rfl (fun ls hl => ?_)
        refine lv_iload_n hx hb dX11_when_38 rfl (lv_at hl 0 rfl) ?_
        refine lv_if_eq (tgt := 57) hx hb dX11_when_39 (by decide) (fun c9 => ?_) (fun c9 => ?_)
        · have hF := op_t hF c9
          exact b_X11_when_57 C hF hP hD hS (lv_sub hl [0] rfl)
        · have hF := op_f hF c9
          refine lv_aload_n hx hb dX11_when_42 rfl (lv_at hl 1 rfl) ?_
          refine k_get (v := .ref (a0 3)) C fg_X11_26 hP 0 rfl rfl dX11_when_43 ?_
          refine k_get (v := .int (S1.1 5)) C fg_X11_184 hP 2 rfl rfl dX11_when_46 ?_
          refine lv_iload_n hx hb dX11_when_49 rfl (lv_at hl 2 rfl) ?_
          refine lv_ishr hx hb dX11_when_50 ?_
          refine lv_iconst (v := (1 : Int32)) hx hb dX11_when_51 (by decide) ?_
          refine lv_iand hx hb dX11_when_52 ?_
          refine lv_iconst (v := (1 : Int32)) hx hb dX11_when_53 (by decide) ?_
          refine lv_icmp_ne (tgt := 61) hx hb dX11_when_54 (by decide) (fun c10 => ?_) (fun c10 => ?_)
          · have hF := op_f hF c10
            refine lv_iconst (v := (-1 : Int32)) hx hb dX11_when_61 (by decide) ?_
            cases hF
            exact k_iret C hP hS dX11_when_62
          · have hF := op_t hF c10
            exact b_X11_when_57 C hF hP hD hS (lv_sub hl [0] rfl)
      · have hF := op_f hF c5
        refine lv_iconst (v := (-1 : Int32)) hx hb dX11_when_21 (by decide) ?_
        cases hF
        exact k_iret C hP hS dX11_when_22

abbrev rm_X11_byteAt : Room := ({ frames := 0, cells := 0, slots := 0, locals := 0 } : Room)
def F_X11_byteAt_15 (S0 : St) (S1 : St) : Option (Int32) := some ((-1 : Int32))
def F_X11_byteAt (S0 : St) (S1 : St) (x1 : Int32) : Option (Int32) := if x1 < 0 then (F_X11_byteAt_15 S0 S1) else (if x1 < (S1.1 1) then (if oob x1 96 then none else some ((S1.2.2.1 0 x1.toNatClampNeg))) else (F_X11_byteAt_15 S0 S1))
set_option maxRecDepth 100000 in
set_option maxHeartbeats 4000000 in
theorem b_X11_byteAt_15 {p : Program} {l : Launch} {e : Env} {s : State} {m : MethodId} {args : Array Value} {below : List Frame} {meth : Method} {c : Code} {D : va_G} {q : Nat → ClassId} {A : Nat → Prop} {tp : Nat} {o0 : Nat} {a0 : Nat → Nat} {a1 : Nat → Nat} {r : Int32} (C : cx p s m args meth c cX11_byteAt 2 (some .int) RX11 D q A) {S0 : St} {S1 : St} (hF : F_X11_byteAt_15 S0 S1 = some (r)) {H : Heap} {locs : List Loc} (hP : va_P D vwCl (fl [g11 q o0 a0 tp S0, g9 q (a0 14) a1 96 S1]) H) (hD : va_D A (fl [g11 q o0 a0 tp S0, g9 q (a0 14) a1 96 S1])) (hS : va_S A s.heap H locs) {ls : Array Slot} (hl : lv_has ls 2 []) : W p l e rm_X11_byteAt s m args below meth c H locs 0 0 (MQ below (QI D A r (fl [g11 q o0 a0 tp S0, g9 q (a0 14) a1 96 S1])) args s 0 0 A) (F0 m 15 ls []) := by
  unfold F_X11_byteAt_15 at hF
  obtain ⟨hx, hb, hr, hml, hown, hts, hlk, hA, hK, hN, hV⟩ := id C
  refine lv_iconst (v := (-1 : Int32)) hx hb dX11_byteAt_15 (by decide) ?_
  refine lv_goto (tgt := 28) hx hb dX11_byteAt_16 (by decide) ?_
  cases hF
  exact k_iret C hP hS dX11_byteAt_28
set_option maxRecDepth 100000 in
set_option maxHeartbeats 4000000 in
theorem c_X11_byteAt (l : Launch) (D : va_G) (q : Nat → ClassId) (tp : Nat) (o0 : Nat) (a0 : Nat → Nat) (S0 : St) (a1 : Nat → Nat) (S1 : St) (sz : Nat) (x1 : Int32) {r : Int32} (hF : F_X11_byteAt S0 S1 x1 = some (r)) : Met l yX11_byteAt (Cond.code yX11_byteAt cX11_byteAt 2 (some .int) :: TB) rm_X11_byteAt (PC D q [.ref o0, .int x1] (fl [g11 q o0 a0 tp S0, g9 q (a0 14) a1 96 S1]) sz) ((fun A => QI D A r (fl [g11 q o0 a0 tp S0, g9 q (a0 14) a1 96 S1])) (va_A (fl [g11 q o0 a0 tp S0, g9 q (a0 14) a1 96 S1]) sz)) 0 0 (va_A (fl [g11 q o0 a0 tp S0, g9 q (a0 14) a1 96 S1]) sz) := by
  refine k_met (w0 := fl [g11 q o0 a0 tp S0, g9 q (a0 14) a1 96 S1]) (Q := fun A => QI D A r (fl [g11 q o0 a0 tp S0, g9 q (a0 14) a1 96 S1])) (by decide +kernel) (Nat.le_of_ble_eq_true rfl) ?_
  intro p e s m args below meth c A ls C hP hD hS hl
  have hl : lv_has ls 2 [(0, .ref o0), (1, .int x1)] := hl
  unfold F_X11_byteAt at hF
  have C : cx p s m args meth c cX11_byteAt 2 (some .int) RX11 D q A := C
  obtain ⟨hx, hb, hr, hml, hown, hts, hlk, hA, hK, hN, hV⟩ := id C
  refine lv_iload_n hx hb dX11_byteAt_0 rfl (lv_at hl 1 rfl) ?_
  refine lv_if_lt (tgt := 15) hx hb dX11_byteAt_1 (by decide) (fun c1 => ?_) (fun c1 => ?_)
  · have hF := op_t hF c1
    exact b_X11_byteAt_15 C hF hP hD hS (lv_sub hl [] rfl)
  · have hF := op_f hF c1
    refine lv_iload_n hx hb dX11_byteAt_4 rfl (lv_at hl 1 rfl) ?_
    refine lv_aload_n hx hb dX11_byteAt_5 rfl (lv_at hl 0 rfl) ?_
    refine k_get (v := .ref (a0 14)) C fg_X11_97 hP 0 rfl rfl dX11_byteAt_6 ?_
    refine k_get (v := .int (S1.1 1)) C fg_X11_111 hP 2 rfl rfl dX11_byteAt_9 ?_
    refine lv_icmp_lt (tgt := 19) hx hb dX11_byteAt_12 (by decide) (fun c2 => ?_) (fun c2 => ?_)
    · have hF := op_t hF c2
      refine lv_aload_n hx hb dX11_byteAt_19 rfl (lv_at hl 0 rfl) ?_
      refine k_get (v := .ref (a0 14)) C fg_X11_97 hP 0 rfl rfl dX11_byteAt_20 ?_
      refine k_get (v := .ref (a1 1)) C fg_X11_272 hP 2 rfl rfl dX11_byteAt_23 ?_
      refine lv_iload_n hx hb dX11_byteAt_26 rfl (lv_at hl 1 rfl) ?_
      obtain ⟨h3, hF⟩ := op_ck hF
      refine k_ild (f := S1.2.2.1 0) C hP 3 rfl h3 dX11_byteAt_27 ?_
      cases hF
      exact k_iret C hP hS dX11_byteAt_28
    · have hF := op_f hF c2
      exact b_X11_byteAt_15 C hF hP hD hS (lv_sub hl [] rfl)

abbrev rm_X11_judge : Room := ({ frames := 5, cells := 0, slots := 0, locals := 113 } : Room)
def F_X11_judge_38 (x2 : Int32) (x3 : Int32) (S0 : St) (S1 : St) (S2 : St) : Option (Int32 × St × St) := if oob (0 : Int32) 4 then none else nw (sA S0 14 (0 : Int32) x2) fun U2 => if oob (1 : Int32) 4 then none else nw (sA U2 14 (1 : Int32) x3) fun U5 => if oob (2 : Int32) 4 then none else nw (sA U5 14 (2 : Int32) (S2.1 14)) fun U8 => ob1 (F_X8_pleasedBits S2) fun r11 => if oob (3 : Int32) 4 then none else nw (sA U8 14 (3 : Int32) r11) fun U13 => if x2 = 0 then (some ((-1 : Int32), U13, S2)) else (some (x3, U13, S2))
def F_X11_judge_4 (k4 : Int32 × Int32 × St × St × St → Option (Int32 × St × St)) (x2 : Int32) (x3 : Int32) (S0 : St) (S1 : St) (S2 : St) : Option (Int32 × St × St) := if (S1.1 4) ≤ x3 then (F_X11_judge_38 x2 x3 S0 S1 S2) else (ob2 (F_X0_liveLine S1 S2 x3) fun r3 U4 => if r3 = 0 then (k4 (r3, (x3 + 1), S0, S1, U4)) else (F_X11_judge_38 r3 x3 S0 S1 U4))
def L_X11_judge_4 (x2 : Int32) (x3 : Int32) (S0 : St) (S1 : St) (S2 : St) : Option (Int32 × St × St) := lp (fun kz z => F_X11_judge_4 kz z.1 z.2.1 z.2.2.1 z.2.2.2.1 z.2.2.2.2) FU (x2, x3, S0, S1, S2)
def F_X11_judge (S0 : St) (S1 : St) (S2 : St) : Option (Int32 × St × St) := L_X11_judge_4 (0 : Int32) (0 : Int32) S0 S1 S2
set_option maxRecDepth 100000 in
set_option maxHeartbeats 4000000 in
theorem b_X11_judge_38 {p : Program} {l : Launch} {e : Env} {s : State} {m : MethodId} {args : Array Value} {below : List Frame} {meth : Method} {c : Code} {D : va_G} {q : Nat → ClassId} {A : Nat → Prop} {tp : Nat} {o0 : Nat} {a0 : Nat → Nat} {a1 : Nat → Nat} {o2 : Nat} {a2 : Nat → Nat} {r : Int32} {T0 : St} {T2 : St} (C : cx p s m args meth c cX11_judge 4 (some .int) RX11 D q A) {x2 : Int32} {x3 : Int32} {S0 : St} {S1 : St} {S2 : St} (hF : F_X11_judge_38 x2 x3 S0 S1 S2 = some (r, T0, T2)) {H : Heap} {locs : List Loc} (hP : va_P D vwCl (fl [g11 q o0 a0 tp S0, g0 q (a0 7) a1 S1, g8 q o2 a2 S2]) H) (hD : va_D A (fl [g11 q o0 a0 tp S0, g0 q (a0 7) a1 S1, g8 q o2 a2 S2])) (hS : va_S A s.heap H locs) {ls : Array Slot} (hl : lv_has ls 4 [(0, .ref o0), (1, .ref o2), (2, .int x2), (3, .int x3)]) : W p l e rm_X11_judge s m args below meth c H locs 0 0 (MQ below (QI D A r (fl [g11 q o0 a0 tp T0, g0 q (a0 7) a1 S1, g8 q o2 a2 T2])) args s 0 0 A) (F0 m 38 ls []) := by
  unfold F_X11_judge_38 at hF
  obtain ⟨hx, hb, hr, hml, hown, hts, hlk, hA, hK, hN, hV⟩ := id C
  refine lv_aload_n hx hb dX11_judge_38 rfl (lv_at hl 0 rfl) ?_
  refine k_get (v := .ref (a0 15)) C fg_X11_100 hP 0 rfl rfl dX11_judge_39 ?_
  refine lv_iconst (v := (0 : Int32)) hx hb dX11_judge_42 (by decide) ?_
  refine lv_iload_n hx hb dX11_judge_43 rfl (lv_at hl 2 rfl) ?_
  obtain ⟨h1, hF⟩ := op_ck hF
  obtain ⟨U2, e3, hF⟩ := nw_s hF
  refine k_ist (f := S0.2.2.1 14) (W8 := fl [g11 q o0 a0 tp U2, g0 q (a0 7) a1 S1, g8 q o2 a2 S2]) C hP hD hS 1 rfl h1 dX11_judge_44 (by rw [e3]; rfl) (fun H locs hP hD hS => ?_)
  refine lv_aload_n hx hb dX11_judge_45 rfl (lv_at hl 0 rfl) ?_
  refine k_get (v := .ref (a0 15)) C fg_X11_100 hP 0 rfl rfl dX11_judge_46 ?_
  refine lv_iconst (v := (1 : Int32)) hx hb dX11_judge_49 (by decide) ?_
  refine lv_iload_n hx hb dX11_judge_50 rfl (lv_at hl 3 rfl) ?_
  obtain ⟨h4, hF⟩ := op_ck hF
  obtain ⟨U5, e6, hF⟩ := nw_s hF
  refine k_ist (f := U2.2.2.1 14) (W8 := fl [g11 q o0 a0 tp U5, g0 q (a0 7) a1 S1, g8 q o2 a2 S2]) C hP hD hS 1 rfl h4 dX11_judge_51 (by rw [e6]; rfl) (fun H locs hP hD hS => ?_)
  refine lv_aload_n hx hb dX11_judge_52 rfl (lv_at hl 0 rfl) ?_
  refine k_get (v := .ref (a0 15)) C fg_X11_100 hP 0 rfl rfl dX11_judge_53 ?_
  refine lv_iconst (v := (2 : Int32)) hx hb dX11_judge_56 (by decide) ?_
  refine lv_aload_n hx hb dX11_judge_57 rfl (lv_at hl 1 rfl) ?_
  refine k_get (v := .int (S2.1 14)) C fg_X11_203 hP 7 rfl rfl dX11_judge_58 ?_
  obtain ⟨h7, hF⟩ := op_ck hF
  obtain ⟨U8, e9, hF⟩ := nw_s hF
  refine k_ist (f := U5.2.2.1 14) (W8 := fl [g11 q o0 a0 tp U8, g0 q (a0 7) a1 S1, g8 q o2 a2 S2]) C hP hD hS 1 rfl h7 dX11_judge_61 (by rw [e9]; rfl) (fun H locs hP hD hS => ?_)
  refine lv_aload_n hx hb dX11_judge_62 rfl (lv_at hl 0 rfl) ?_
  refine k_get (v := .ref (a0 15)) C fg_X11_100 hP 0 rfl rfl dX11_judge_63 ?_
  refine lv_iconst (v := (3 : Int32)) hx hb dX11_judge_66 (by decide) ?_
  refine lv_aload_n hx hb dX11_judge_67 rfl (lv_at hl 1 rfl) ?_
  obtain ⟨r11, hc10, hF⟩ := ob1_s hF
  refine k_iro C (k_rV (As := []) (rest := [.int (3 : Int32), .ref (a0 15)]) C (c_X8_pleasedBits l D q o2 a2 S2 _ hc10) kc_X8_pleasedBits ml_X11_213 rfl rfl (by decide) (flP hP [2] rfl) (flD hD [2] (by decide) rfl) hS (va_recv hK hP (ci := 8) (q0 := 7) rfl rfl) rfl hl.1 rfl (Nat.le_of_ble_eq_true rfl) dX11_judge_68 (by decide)) hP hD hS [2] [0, 1] [g11 q o0 a0 tp U8, g0 q (a0 7) a1 S1] 3 (by decide) rfl rfl rfl rfl (fun H locs hP hD hS => ?_)
  obtain ⟨h12, hF⟩ := op_ck hF
  obtain ⟨U13, e14, hF⟩ := nw_s hF
  refine k_ist (f := U8.2.2.1 14) (W8 := fl [g11 q o0 a0 tp U13, g0 q (a0 7) a1 S1, g8 q o2 a2 S2]) C hP hD hS 1 rfl h12 dX11_judge_71 (by rw [e14]; rfl) (fun H locs hP hD hS => ?_)
  refine lv_iload_n hx hb dX11_judge_72 rfl (lv_at hl 2 rfl) ?_
  refine lv_if_ne (tgt := 80) hx hb dX11_judge_73 (by decide) (fun c15 => ?_) (fun c15 => ?_)
  · have hF := op_f hF c15
    refine lv_iload_n hx hb dX11_judge_80 rfl (lv_at hl 3 rfl) ?_
    cases hF
    exact k_iret C hP hS dX11_judge_81
  · have hF := op_t hF c15
    refine lv_iconst (v := (-1 : Int32)) hx hb dX11_judge_76 (by decide) ?_
    refine lv_goto (tgt := 81) hx hb dX11_judge_77 (by decide) ?_
    cases hF
    exact k_iret C hP hS dX11_judge_81
set_option maxRecDepth 100000 in
set_option maxHeartbeats 4000000 in
theorem b_X11_judge_4 {p : Program} {l : Launch} {e : Env} {s : State} {m : MethodId} {args : Array Value} {below : List Frame} {meth : Method} {c : Code} {D : va_G} {q : Nat → ClassId} {A : Nat → Prop} {tp : Nat} {o0 : Nat} {a0 : Nat → Nat} {a1 : Nat → Nat} {o2 : Nat} {a2 : Nat → Nat} {r : Int32} {T0 : St} {T2 : St} (C : cx p s m args meth c cX11_judge 4 (some .int) RX11 D q A) {k4 : Int32 × Int32 × St × St × St → Option (Int32 × St × St)} (hk4 : ∀ (x2 : Int32) (x3 : Int32) (S0 : St) (S1 : St) (S2 : St), k4 (x2, x3, S0, S1, S2) = some (r, T0, T2) → ∀ (H : Heap) (locs : List Loc) (ls : Array Slot), va_P D vwCl (fl [g11 q o0 a0 tp S0, g0 q (a0 7) a1 S1, g8 q o2 a2 S2]) H → va_D A (fl [g11 q o0 a0 tp S0, g0 q (a0 7) a1 S1, g8 q o2 a2 S2]) → va_S A s.heap H locs → lv_has ls 4 [(0, .ref o0), (1, .ref o2), (2, .int x2), (3, .int x3)] → W p l e rm_X11_judge s m args below meth c H locs 0 0 (MQ below (QI D A r (fl [g11 q o0 a0 tp T0, g0 q (a0 7) a1 S1, g8 q o2 a2 T2])) args s 0 0 A) (F0 m 4 ls [])) {x2 : Int32} {x3 : Int32} {S0 : St} {S1 : St} {S2 : St} (hF : F_X11_judge_4 k4 x2 x3 S0 S1 S2 = some (r, T0, T2)) {H : Heap} {locs : List Loc} (hP : va_P D vwCl (fl [g11 q o0 a0 tp S0, g0 q (a0 7) a1 S1, g8 q o2 a2 S2]) H) (hD : va_D A (fl [g11 q o0 a0 tp S0, g0 q (a0 7) a1 S1, g8 q o2 a2 S2])) (hS : va_S A s.heap H locs) {ls : Array Slot} (hl : lv_has ls 4 [(0, .ref o0), (1, .ref o2), (2, .int x2), (3, .int x3)]) : W p l e rm_X11_judge s m args below meth c H locs 0 0 (MQ below (QI D A r (fl [g11 q o0 a0 tp T0, g0 q (a0 7) a1 S1, g8 q o2 a2 T2])) args s 0 0 A) (F0 m 4 ls []) := by
  unfold F_X11_judge_4 at hF
  obtain ⟨hx, hb, hr, hml, hown, hts, hlk, hA, hK, hN, hV⟩ := id C
  refine lv_iload_n hx hb dX11_judge_4 rfl (lv_at hl 3 rfl) ?_
  refine lv_aload_n hx hb dX11_judge_5 rfl (lv_at hl 0 rfl) ?_
  refine k_get (v := .ref (a0 7)) C fg_X11_46 hP 0 rfl rfl dX11_judge_6 ?_
  refine k_get (v := .int (S1.1 4)) C fg_X11_385 hP 2 rfl rfl dX11_judge_9 ?_
  refine lv_icmp_ge (tgt := 38) hx hb dX11_judge_12 (by decide) (fun c1 => ?_) (fun c1 => ?_)
  · have hF := op_t hF c1
    exact b_X11_judge_38 C hF hP hD hS (lv_sub hl [0, 1, 2, 3] rfl)
  · have hF := op_f hF c1
    refine lv_aload_n hx hb dX11_judge_15 rfl (lv_at hl 0 rfl) ?_
    refine k_get (v := .ref (a0 7)) C fg_X11_46 hP 0 rfl rfl dX11_judge_16 ?_
    refine lv_aload_n hx hb dX11_judge_19 rfl (lv_at hl 1 rfl) ?_
    refine lv_iload_n hx hb dX11_judge_20 rfl (lv_at hl 3 rfl) ?_
    obtain ⟨r3, U4, hc2, hF⟩ := ob2_s hF
    refine k_igrp (gs8 := [g11 q o0 a0 tp S0, g0 q (a0 7) a1 S1, g8 q o2 a2 U4]) C (k_rV (As := [.ref o2, .int x3]) (rest := []) C (c_X0_liveLine l D q (a0 7) a1 S1 o2 a2 S2 _ x3 hc2) kc_X0_liveLine ml_X11_388 rfl rfl (by decide) (flP hP [1, 2] rfl) (flD hD [1, 2] (by decide) rfl) hS (va_recv hK hP (ci := 0) (q0 := 2) rfl rfl) rfl hl.1 rfl (Nat.le_of_ble_eq_true rfl) dX11_judge_21 (by decide)) hP hD hS [1, 2] [0] [g11 q o0 a0 tp S0] 3 (by decide) rfl rfl rfl rfl rfl rfl (by simp only [List.map_cons, List.map_nil, gad0, gad11, gad8]) (fun H locs hP hD hS => ?_)
    refine lv_istore_n (lv' := [(2, .int r3), (0, .ref o0), (1, .ref o2), (3, .int x3)]) hx hb dX11_judge_24 rfl hl (by decide) rfl (fun ls hl => ?_)
    refine lv_iload_n hx hb dX11_judge_25 rfl (lv_at hl 0 rfl) ?_
    refine lv_if_eq (tgt := 32) hx hb dX11_judge_26 (by decide) (fun c5 => ?_) (fun c5 => ?_)
    · have hF := op_t hF c5
      refine lv_iinc (v := (x3 + 1)) (lv' := [(3, .int (x3 + 1)), (2, .int r3), (0, .ref o0), (1, .ref o2)]) hx hb dX11_judge_32 hl (k := 3) rfl rfl (by decide) rfl (fun ls hl => ?_)
      refine lv_goto (tgt := 4) hx hb dX11_judge_35 (by decide) ?_
      exact hk4 r3 (x3 + 1) S0 S1 U4 hF _ _ _ hP hD hS (lv_sub hl [2, 3, 1, 0] rfl)
    · have hF := op_f hF c5
      refine lv_goto (tgt := 38) hx hb dX11_judge_29 (by decide) ?_
      exact b_X11_judge_38 C hF hP hD hS (lv_sub hl [1, 2, 0, 3] rfl)
set_option maxRecDepth 100000 in
set_option maxHeartbeats 4000000 in
theorem l_X11_judge_4 {p : Program} {l : Launch} {e : Env} {s : State} {m : MethodId} {args : Array Value} {below : List Frame} {meth : Method} {c : Code} {D : va_G} {q : Nat → ClassId} {A : Nat → Prop} {tp : Nat} {o0 : Nat} {a0 : Nat → Nat} {a1 : Nat → Nat} {o2 : Nat} {a2 : Nat → Nat} {r : Int32} {T0 : St} {T2 : St} (C : cx p s m args meth c cX11_judge 4 (some .int) RX11 D q A) {x2 : Int32} {x3 : Int32} {S0 : St} {S1 : St} {S2 : St} (hF : L_X11_judge_4 x2 x3 S0 S1 S2 = some (r, T0, T2)) : ∀ (H : Heap) (locs : List Loc) (ls : Array Slot), va_P D vwCl (fl [g11 q o0 a0 tp S0, g0 q (a0 7) a1 S1, g8 q o2 a2 S2]) H → va_D A (fl [g11 q o0 a0 tp S0, g0 q (a0 7) a1 S1, g8 q o2 a2 S2]) → va_S A s.heap H locs → lv_has ls 4 [(0, .ref o0), (1, .ref o2), (2, .int x2), (3, .int x3)] → W p l e rm_X11_judge s m args below meth c H locs 0 0 (MQ below (QI D A r (fl [g11 q o0 a0 tp T0, g0 q (a0 7) a1 S1, g8 q o2 a2 T2])) args s 0 0 A) (F0 m 4 ls []) :=
  lp_G _ _ (fun z => ∀ (H : Heap) (locs : List Loc) (ls : Array Slot), va_P D vwCl (fl [g11 q o0 a0 tp z.2.2.1, g0 q (a0 7) a1 z.2.2.2.1, g8 q o2 a2 z.2.2.2.2]) H → va_D A (fl [g11 q o0 a0 tp z.2.2.1, g0 q (a0 7) a1 z.2.2.2.1, g8 q o2 a2 z.2.2.2.2]) → va_S A s.heap H locs → lv_has ls 4 [(0, .ref o0), (1, .ref o2), (2, .int z.1), (3, .int z.2.1)] → W p l e rm_X11_judge s m args below meth c H locs 0 0 (MQ below (QI D A r (fl [g11 q o0 a0 tp T0, g0 q (a0 7) a1 z.2.2.2.1, g8 q o2 a2 T2])) args s 0 0 A) (F0 m 4 ls [])) (fun kz hkz z hz H locs ls hP hD hS hl => b_X11_judge_4 C (fun x2 x3 S0 S1 S2 hz => hkz (x2, x3, S0, S1, S2) hz) hz hP hD hS hl) FU (x2, x3, S0, S1, S2) hF
set_option maxRecDepth 100000 in
set_option maxHeartbeats 4000000 in
theorem c_X11_judge (l : Launch) (D : va_G) (q : Nat → ClassId) (tp : Nat) (o0 : Nat) (a0 : Nat → Nat) (S0 : St) (a1 : Nat → Nat) (S1 : St) (o2 : Nat) (a2 : Nat → Nat) (S2 : St) (sz : Nat) {r : Int32} {T0 : St} {T2 : St} (hF : F_X11_judge S0 S1 S2 = some (r, T0, T2)) : Met l yX11_judge (Cond.code yX11_judge cX11_judge 4 (some .int) :: TB) rm_X11_judge (PC D q [.ref o0, .ref o2] (fl [g11 q o0 a0 tp S0, g0 q (a0 7) a1 S1, g8 q o2 a2 S2]) sz) ((fun A => QI D A r (fl [g11 q o0 a0 tp T0, g0 q (a0 7) a1 S1, g8 q o2 a2 T2])) (va_A (fl [g11 q o0 a0 tp S0, g0 q (a0 7) a1 S1, g8 q o2 a2 S2]) sz)) 0 0 (va_A (fl [g11 q o0 a0 tp S0, g0 q (a0 7) a1 S1, g8 q o2 a2 S2]) sz) := by
  refine k_met (w0 := fl [g11 q o0 a0 tp S0, g0 q (a0 7) a1 S1, g8 q o2 a2 S2]) (Q := fun A => QI D A r (fl [g11 q o0 a0 tp T0, g0 q (a0 7) a1 S1, g8 q o2 a2 T2])) (by decide +kernel) (Nat.le_of_ble_eq_true rfl) ?_
  intro p e s m args below meth c A ls C hP hD hS hl
  have hl : lv_has ls 4 [(0, .ref o0), (1, .ref o2)] := hl
  unfold F_X11_judge at hF
  have C : cx p s m args meth c cX11_judge 4 (some .int) RX11 D q A := C
  obtain ⟨hx, hb, hr, hml, hown, hts, hlk, hA, hK, hN, hV⟩ := id C
  refine lv_iconst (v := (0 : Int32)) hx hb dX11_judge_0 (by decide) ?_
  refine lv_istore_n (lv' := [(2, .int (0 : Int32)), (0, .ref o0), (1, .ref o2)]) hx hb dX11_judge_1 rfl hl (by decide) rfl (fun ls hl => ?_)
  refine lv_iconst (v := (0 : Int32)) hx hb dX11_judge_2 (by decide) ?_
  refine lv_istore_n (lv' := [(3, .int (0 : Int32)), (2, .int (0 : Int32)), (0, .ref o0), (1, .ref o2)]) hx hb dX11_judge_3 rfl hl (by decide) rfl (fun ls hl => ?_)
  exact l_X11_judge_4 C hF _ _ _ hP hD hS (lv_sub hl [2, 3, 1, 0] rfl)

abbrev rm_X11_told : Room := ({ frames := 0, cells := 0, slots := 0, locals := 0 } : Room)
def F_X11_told_13 (S0 : St) : Option (Int32) := some ((-1 : Int32))
def F_X11_told (S0 : St) (x1 : Int32) : Option (Int32) := if x1 < 0 then (F_X11_told_13 S0) else (if x1 < (4 : Int32) then (if oob x1 4 then none else some ((S0.2.2.1 14 x1.toNatClampNeg))) else (F_X11_told_13 S0))
set_option maxRecDepth 100000 in
set_option maxHeartbeats 4000000 in
theorem b_X11_told_13 {p : Program} {l : Launch} {e : Env} {s : State} {m : MethodId} {args : Array Value} {below : List Frame} {meth : Method} {c : Code} {D : va_G} {q : Nat → ClassId} {A : Nat → Prop} {tp : Nat} {o0 : Nat} {a0 : Nat → Nat} {r : Int32} (C : cx p s m args meth c cX11_told 2 (some .int) RX11 D q A) {S0 : St} (hF : F_X11_told_13 S0 = some (r)) {H : Heap} {locs : List Loc} (hP : va_P D vwCl (fl [g11 q o0 a0 tp S0]) H) (hD : va_D A (fl [g11 q o0 a0 tp S0])) (hS : va_S A s.heap H locs) {ls : Array Slot} (hl : lv_has ls 2 []) : W p l e rm_X11_told s m args below meth c H locs 0 0 (MQ below (QI D A r (fl [g11 q o0 a0 tp S0])) args s 0 0 A) (F0 m 13 ls []) := by
  unfold F_X11_told_13 at hF
  obtain ⟨hx, hb, hr, hml, hown, hts, hlk, hA, hK, hN, hV⟩ := id C
  refine lv_iconst (v := (-1 : Int32)) hx hb dX11_told_13 (by decide) ?_
  refine lv_goto (tgt := 23) hx hb dX11_told_14 (by decide) ?_
  cases hF
  exact k_iret C hP hS dX11_told_23
set_option maxRecDepth 100000 in
set_option maxHeartbeats 4000000 in
theorem c_X11_told (l : Launch) (D : va_G) (q : Nat → ClassId) (tp : Nat) (o0 : Nat) (a0 : Nat → Nat) (S0 : St) (sz : Nat) (x1 : Int32) {r : Int32} (hF : F_X11_told S0 x1 = some (r)) : Met l yX11_told (Cond.code yX11_told cX11_told 2 (some .int) :: TB) rm_X11_told (PC D q [.ref o0, .int x1] (fl [g11 q o0 a0 tp S0]) sz) ((fun A => QI D A r (fl [g11 q o0 a0 tp S0])) (va_A (fl [g11 q o0 a0 tp S0]) sz)) 0 0 (va_A (fl [g11 q o0 a0 tp S0]) sz) := by
  refine k_met (w0 := fl [g11 q o0 a0 tp S0]) (Q := fun A => QI D A r (fl [g11 q o0 a0 tp S0])) (by decide +kernel) (Nat.le_of_ble_eq_true rfl) ?_
  intro p e s m args below meth c A ls C hP hD hS hl
  have hl : lv_has ls 2 [(0, .ref o0), (1, .int x1)] := hl
  unfold F_X11_told at hF
  have C : cx p s m args meth c cX11_told 2 (some .int) RX11 D q A := C
  obtain ⟨hx, hb, hr, hml, hown, hts, hlk, hA, hK, hN, hV⟩ := id C
  refine lv_iload_n hx hb dX11_told_0 rfl (lv_at hl 1 rfl) ?_
  refine lv_if_lt (tgt := 13) hx hb dX11_told_1 (by decide) (fun c1 => ?_) (fun c1 => ?_)
  · have hF := op_t hF c1
    exact b_X11_told_13 C hF hP hD hS (lv_sub hl [] rfl)
  · have hF := op_f hF c1
    refine lv_iload_n hx hb dX11_told_4 rfl (lv_at hl 1 rfl) ?_
    refine lv_aload_n hx hb dX11_told_5 rfl (lv_at hl 0 rfl) ?_
    refine k_get (v := .ref (a0 15)) C fg_X11_100 hP 0 rfl rfl dX11_told_6 ?_
    refine k_len (v := (4 : Int32)) C hP 1 1 rfl rfl (by decide) dX11_told_9 ?_
    refine lv_icmp_lt (tgt := 17) hx hb dX11_told_10 (by decide) (fun c2 => ?_) (fun c2 => ?_)
    · have hF := op_t hF c2
      refine lv_aload_n hx hb dX11_told_17 rfl (lv_at hl 0 rfl) ?_
      refine k_get (v := .ref (a0 15)) C fg_X11_100 hP 0 rfl rfl dX11_told_18 ?_
      refine lv_iload_n hx hb dX11_told_21 rfl (lv_at hl 1 rfl) ?_
      obtain ⟨h3, hF⟩ := op_ck hF
      refine k_ild (f := S0.2.2.1 14) C hP 1 rfl h3 dX11_told_22 ?_
      cases hF
      exact k_iret C hP hS dX11_told_23
    · have hF := op_f hF c2
      exact b_X11_told_13 C hF hP hD hS (lv_sub hl [] rfl)

abbrev rm_X11_said : Room := ({ frames := 3, cells := 0, slots := 0, locals := 70 } : Room)
def F_X11_said_57 (k21 : Int32 × Int32 × Int32 × St × St × St → Option (Int32)) (x1 : Int32) (x2 : Int32) (x3 : Int32) (S0 : St) (S1 : St) (S2 : St) : Option (Int32) := k21 (x1, x2, (x3 + 1), S0, S1, S2)
def F_X11_said_21 (k21 : Int32 × Int32 × Int32 × St × St × St → Option (Int32)) (x1 : Int32) (x2 : Int32) (x3 : Int32) (S0 : St) (S1 : St) (S2 : St) : Option (Int32) := if (S2.1 7) ≤ x3 then (if x1 = (-1 : Int32) then (some (x2)) else (some ((-1 : Int32)))) else (ob1 (F_X7_holdsOf S1 S2 x3) fun r4 => if r4 = 0 then (F_X11_said_57 k21 x1 x2 x3 S0 S1 S2) else (if x2 = x1 then (some (x3)) else (F_X11_said_57 k21 x1 (x2 + 1) x3 S0 S1 S2)))
def L_X11_said_21 (x1 : Int32) (x2 : Int32) (x3 : Int32) (S0 : St) (S1 : St) (S2 : St) : Option (Int32) := lp (fun kz z => F_X11_said_21 kz z.1 z.2.1 z.2.2.1 z.2.2.2.1 z.2.2.2.2.1 z.2.2.2.2.2) FU (x1, x2, x3, S0, S1, S2)
def F_X11_said (S0 : St) (S1 : St) (S2 : St) (x1 : Int32) : Option (Int32) := if (S1.1 4) = 0 then (some ((-1 : Int32))) else (if (-1 : Int32) ≤ x1 then (L_X11_said_21 x1 (0 : Int32) (0 : Int32) S0 S1 S2) else (some ((-1 : Int32))))
set_option maxRecDepth 100000 in
set_option maxHeartbeats 4000000 in
theorem b_X11_said_57 {p : Program} {l : Launch} {e : Env} {s : State} {m : MethodId} {args : Array Value} {below : List Frame} {meth : Method} {c : Code} {D : va_G} {q : Nat → ClassId} {A : Nat → Prop} {tp : Nat} {o0 : Nat} {a0 : Nat → Nat} {a1 : Nat → Nat} {a2 : Nat → Nat} {r : Int32} (C : cx p s m args meth c cX11_said 4 (some .int) RX11 D q A) {k21 : Int32 × Int32 × Int32 × St × St × St → Option (Int32)} (hk21 : ∀ (x1 : Int32) (x2 : Int32) (x3 : Int32) (S0 : St) (S1 : St) (S2 : St), k21 (x1, x2, x3, S0, S1, S2) = some (r) → ∀ (H : Heap) (locs : List Loc) (ls : Array Slot), va_P D vwCl (fl [g11 q o0 a0 tp S0, g7 q (a0 5) a1 S1, g8 q (a0 3) a2 S2]) H → va_D A (fl [g11 q o0 a0 tp S0, g7 q (a0 5) a1 S1, g8 q (a0 3) a2 S2]) → va_S A s.heap H locs → lv_has ls 4 [(0, .ref o0), (1, .int x1), (2, .int x2), (3, .int x3)] → W p l e rm_X11_said s m args below meth c H locs 0 0 (MQ below (QI D A r (fl [g11 q o0 a0 tp S0, g7 q (a0 5) a1 S1, g8 q (a0 3) a2 S2])) args s 0 0 A) (F0 m 21 ls [])) {x1 : Int32} {x2 : Int32} {x3 : Int32} {S0 : St} {S1 : St} {S2 : St} (hF : F_X11_said_57 k21 x1 x2 x3 S0 S1 S2 = some (r)) {H : Heap} {locs : List Loc} (hP : va_P D vwCl (fl [g11 q o0 a0 tp S0, g7 q (a0 5) a1 S1, g8 q (a0 3) a2 S2]) H) (hD : va_D A (fl [g11 q o0 a0 tp S0, g7 q (a0 5) a1 S1, g8 q (a0 3) a2 S2])) (hS : va_S A s.heap H locs) {ls : Array Slot} (hl : lv_has ls 4 [(0, .ref o0), (1, .int x1), (2, .int x2), (3, .int x3)]) : W p l e rm_X11_said s m args below meth c H locs 0 0 (MQ below (QI D A r (fl [g11 q o0 a0 tp S0, g7 q (a0 5) a1 S1, g8 q (a0 3) a2 S2])) args s 0 0 A) (F0 m 57 ls []) := by
  unfold F_X11_said_57 at hF
  obtain ⟨hx, hb, hr, hml, hown, hts, hlk, hA, hK, hN, hV⟩ := id C
  refine lv_iinc (v := (x3 + 1)) (lv' := [(3, .int (x3 + 1)), (0, .ref o0), (1, .int x1), (2, .int x2)]) hx hb dX11_said_57 hl (k := 3) rfl rfl (by decide) rfl (fun ls hl => ?_)
  refine lv_goto (tgt := 21) hx hb dX11_said_60 (by decide) ?_
  exact hk21 x1 x2 (x3 + 1) S0 S1 S2 hF _ _ _ hP hD hS (lv_sub hl [1, 2, 3, 0] rfl)
set_option maxRecDepth 100000 in
set_option maxHeartbeats 4000000 in
theorem b_X11_said_21 {p : Program} {l : Launch} {e : Env} {s : State} {m : MethodId} {args : Array Value} {below : List Frame} {meth : Method} {c : Code} {D : va_G} {q : Nat → ClassId} {A : Nat → Prop} {tp : Nat} {o0 : Nat} {a0 : Nat → Nat} {a1 : Nat → Nat} {a2 : Nat → Nat} {r : Int32} (C : cx p s m args meth c cX11_said 4 (some .int) RX11 D q A) {k21 : Int32 × Int32 × Int32 × St × St × St → Option (Int32)} (hk21 : ∀ (x1 : Int32) (x2 : Int32) (x3 : Int32) (S0 : St) (S1 : St) (S2 : St), k21 (x1, x2, x3, S0, S1, S2) = some (r) → ∀ (H : Heap) (locs : List Loc) (ls : Array Slot), va_P D vwCl (fl [g11 q o0 a0 tp S0, g7 q (a0 5) a1 S1, g8 q (a0 3) a2 S2]) H → va_D A (fl [g11 q o0 a0 tp S0, g7 q (a0 5) a1 S1, g8 q (a0 3) a2 S2]) → va_S A s.heap H locs → lv_has ls 4 [(0, .ref o0), (1, .int x1), (2, .int x2), (3, .int x3)] → W p l e rm_X11_said s m args below meth c H locs 0 0 (MQ below (QI D A r (fl [g11 q o0 a0 tp S0, g7 q (a0 5) a1 S1, g8 q (a0 3) a2 S2])) args s 0 0 A) (F0 m 21 ls [])) {x1 : Int32} {x2 : Int32} {x3 : Int32} {S0 : St} {S1 : St} {S2 : St} (hF : F_X11_said_21 k21 x1 x2 x3 S0 S1 S2 = some (r)) {H : Heap} {locs : List Loc} (hP : va_P D vwCl (fl [g11 q o0 a0 tp S0, g7 q (a0 5) a1 S1, g8 q (a0 3) a2 S2]) H) (hD : va_D A (fl [g11 q o0 a0 tp S0, g7 q (a0 5) a1 S1, g8 q (a0 3) a2 S2])) (hS : va_S A s.heap H locs) {ls : Array Slot} (hl : lv_has ls 4 [(0, .ref o0), (1, .int x1), (2, .int x2), (3, .int x3)]) : W p l e rm_X11_said s m args below meth c H locs 0 0 (MQ below (QI D A r (fl [g11 q o0 a0 tp S0, g7 q (a0 5) a1 S1, g8 q (a0 3) a2 S2])) args s 0 0 A) (F0 m 21 ls []) := by
  unfold F_X11_said_21 at hF
  obtain ⟨hx, hb, hr, hml, hown, hts, hlk, hA, hK, hN, hV⟩ := id C
  refine lv_iload_n hx hb dX11_said_21 rfl (lv_at hl 3 rfl) ?_
  refine lv_aload_n hx hb dX11_said_22 rfl (lv_at hl 0 rfl) ?_
  refine k_get (v := .ref (a0 3)) C fg_X11_26 hP 0 rfl rfl dX11_said_23 ?_
  refine k_get (v := .int (S2.1 7)) C fg_X11_285 hP 6 rfl rfl dX11_said_26 ?_
  refine lv_icmp_ge (tgt := 63) hx hb dX11_said_29 (by decide) (fun c1 => ?_) (fun c1 => ?_)
  · have hF := op_t hF c1
    refine lv_iload_n hx hb dX11_said_63 rfl (lv_at hl 1 rfl) ?_
    refine lv_iconst (v := (-1 : Int32)) hx hb dX11_said_64 (by decide) ?_
    refine lv_icmp_ne (tgt := 72) hx hb dX11_said_65 (by decide) (fun c2 => ?_) (fun c2 => ?_)
    · have hF := op_f hF c2
      refine lv_iconst (v := (-1 : Int32)) hx hb dX11_said_72 (by decide) ?_
      cases hF
      exact k_iret C hP hS dX11_said_73
    · have hF := op_t hF c2
      refine lv_iload_n hx hb dX11_said_68 rfl (lv_at hl 2 rfl) ?_
      refine lv_goto (tgt := 73) hx hb dX11_said_69 (by decide) ?_
      cases hF
      exact k_iret C hP hS dX11_said_73
  · have hF := op_f hF c1
    refine lv_aload_n hx hb dX11_said_32 rfl (lv_at hl 0 rfl) ?_
    refine k_get (v := .ref (a0 5)) C fg_X11_36 hP 0 rfl rfl dX11_said_33 ?_
    refine lv_aload_n hx hb dX11_said_36 rfl (lv_at hl 0 rfl) ?_
    refine k_get (v := .ref (a0 3)) C fg_X11_26 hP 0 rfl rfl dX11_said_37 ?_
    refine lv_iload_n hx hb dX11_said_40 rfl (lv_at hl 3 rfl) ?_
    obtain ⟨r4, hc3, hF⟩ := ob1_s hF
    refine k_iro C (k_rV (As := [.ref (a0 3), .int x3]) (rest := []) C (c_X7_holdsOf l D q (a0 5) a1 S1 (a0 3) a2 S2 _ x3 hc3) kc_X7_holdsOf ml_X11_362 rfl rfl (by decide) (flP hP [1, 2] rfl) (flD hD [1, 2] (by decide) rfl) hS (va_recv hK hP (ci := 7) (q0 := 2) rfl rfl) rfl hl.1 rfl (Nat.le_of_ble_eq_true rfl) dX11_said_41 (by decide)) hP hD hS [1, 2] [0] [g11 q o0 a0 tp S0] 3 (by decide) rfl rfl rfl rfl (fun H locs hP hD hS => ?_)
    refine lv_if_eq (tgt := 57) hx hb dX11_said_44 (by decide) (fun c5 => ?_) (fun c5 => ?_)
    · have hF := op_t hF c5
      exact b_X11_said_57 C hk21 hF hP hD hS (lv_sub hl [0, 1, 2, 3] rfl)
    · have hF := op_f hF c5
      refine lv_iload_n hx hb dX11_said_47 rfl (lv_at hl 2 rfl) ?_
      refine lv_iload_n hx hb dX11_said_48 rfl (lv_at hl 1 rfl) ?_
      refine lv_icmp_ne (tgt := 54) hx hb dX11_said_49 (by decide) (fun c6 => ?_) (fun c6 => ?_)
      · have hF := op_f hF c6
        refine lv_iinc (v := (x2 + 1)) (lv' := [(2, .int (x2 + 1)), (0, .ref o0), (1, .int x1), (3, .int x3)]) hx hb dX11_said_54 hl (k := 2) rfl rfl (by decide) rfl (fun ls hl => ?_)
        exact b_X11_said_57 C hk21 hF hP hD hS (lv_sub hl [1, 2, 0, 3] rfl)
      · have hF := op_t hF c6
        refine lv_iload_n hx hb dX11_said_52 rfl (lv_at hl 3 rfl) ?_
        cases hF
        exact k_iret C hP hS dX11_said_53
set_option maxRecDepth 100000 in
set_option maxHeartbeats 4000000 in
theorem l_X11_said_21 {p : Program} {l : Launch} {e : Env} {s : State} {m : MethodId} {args : Array Value} {below : List Frame} {meth : Method} {c : Code} {D : va_G} {q : Nat → ClassId} {A : Nat → Prop} {tp : Nat} {o0 : Nat} {a0 : Nat → Nat} {a1 : Nat → Nat} {a2 : Nat → Nat} {r : Int32} (C : cx p s m args meth c cX11_said 4 (some .int) RX11 D q A) {x1 : Int32} {x2 : Int32} {x3 : Int32} {S0 : St} {S1 : St} {S2 : St} (hF : L_X11_said_21 x1 x2 x3 S0 S1 S2 = some (r)) : ∀ (H : Heap) (locs : List Loc) (ls : Array Slot), va_P D vwCl (fl [g11 q o0 a0 tp S0, g7 q (a0 5) a1 S1, g8 q (a0 3) a2 S2]) H → va_D A (fl [g11 q o0 a0 tp S0, g7 q (a0 5) a1 S1, g8 q (a0 3) a2 S2]) → va_S A s.heap H locs → lv_has ls 4 [(0, .ref o0), (1, .int x1), (2, .int x2), (3, .int x3)] → W p l e rm_X11_said s m args below meth c H locs 0 0 (MQ below (QI D A r (fl [g11 q o0 a0 tp S0, g7 q (a0 5) a1 S1, g8 q (a0 3) a2 S2])) args s 0 0 A) (F0 m 21 ls []) :=
  lp_G _ _ (fun z => ∀ (H : Heap) (locs : List Loc) (ls : Array Slot), va_P D vwCl (fl [g11 q o0 a0 tp z.2.2.2.1, g7 q (a0 5) a1 z.2.2.2.2.1, g8 q (a0 3) a2 z.2.2.2.2.2]) H → va_D A (fl [g11 q o0 a0 tp z.2.2.2.1, g7 q (a0 5) a1 z.2.2.2.2.1, g8 q (a0 3) a2 z.2.2.2.2.2]) → va_S A s.heap H locs → lv_has ls 4 [(0, .ref o0), (1, .int z.1), (2, .int z.2.1), (3, .int z.2.2.1)] → W p l e rm_X11_said s m args below meth c H locs 0 0 (MQ below (QI D A r (fl [g11 q o0 a0 tp z.2.2.2.1, g7 q (a0 5) a1 z.2.2.2.2.1, g8 q (a0 3) a2 z.2.2.2.2.2])) args s 0 0 A) (F0 m 21 ls [])) (fun kz hkz z hz H locs ls hP hD hS hl => b_X11_said_21 C (fun x1 x2 x3 S0 S1 S2 hz => hkz (x1, x2, x3, S0, S1, S2) hz) hz hP hD hS hl) FU (x1, x2, x3, S0, S1, S2) hF
set_option maxRecDepth 100000 in
set_option maxHeartbeats 4000000 in
theorem c_X11_said (l : Launch) (D : va_G) (q : Nat → ClassId) (tp : Nat) (o0 : Nat) (a0 : Nat → Nat) (S0 : St) (a1 : Nat → Nat) (S1 : St) (a2 : Nat → Nat) (S2 : St) (sz : Nat) (x1 : Int32) {r : Int32} (hF : F_X11_said S0 S1 S2 x1 = some (r)) : Met l yX11_said (Cond.code yX11_said cX11_said 4 (some .int) :: TB) rm_X11_said (PC D q [.ref o0, .int x1] (fl [g11 q o0 a0 tp S0, g7 q (a0 5) a1 S1, g8 q (a0 3) a2 S2]) sz) ((fun A => QI D A r (fl [g11 q o0 a0 tp S0, g7 q (a0 5) a1 S1, g8 q (a0 3) a2 S2])) (va_A (fl [g11 q o0 a0 tp S0, g7 q (a0 5) a1 S1, g8 q (a0 3) a2 S2]) sz)) 0 0 (va_A (fl [g11 q o0 a0 tp S0, g7 q (a0 5) a1 S1, g8 q (a0 3) a2 S2]) sz) := by
  refine k_met (w0 := fl [g11 q o0 a0 tp S0, g7 q (a0 5) a1 S1, g8 q (a0 3) a2 S2]) (Q := fun A => QI D A r (fl [g11 q o0 a0 tp S0, g7 q (a0 5) a1 S1, g8 q (a0 3) a2 S2])) (by decide +kernel) (Nat.le_of_ble_eq_true rfl) ?_
  intro p e s m args below meth c A ls C hP hD hS hl
  have hl : lv_has ls 4 [(0, .ref o0), (1, .int x1)] := hl
  unfold F_X11_said at hF
  have C : cx p s m args meth c cX11_said 4 (some .int) RX11 D q A := C
  obtain ⟨hx, hb, hr, hml, hown, hts, hlk, hA, hK, hN, hV⟩ := id C
  refine lv_aload_n hx hb dX11_said_0 rfl (lv_at hl 0 rfl) ?_
  refine k_get (v := .ref (a0 5)) C fg_X11_36 hP 0 rfl rfl dX11_said_1 ?_
  refine k_get (v := .int (S1.1 4)) C fg_X11_359 hP 2 rfl rfl dX11_said_4 ?_
  refine lv_if_eq (tgt := 15) hx hb dX11_said_7 (by decide) (fun c1 => ?_) (fun c1 => ?_)
  · have hF := op_t hF c1
    refine lv_iconst (v := (-1 : Int32)) hx hb dX11_said_15 (by decide) ?_
    cases hF
    exact k_iret C hP hS dX11_said_16
  · have hF := op_f hF c1
    refine lv_iload_n hx hb dX11_said_10 rfl (lv_at hl 1 rfl) ?_
    refine lv_iconst (v := (-1 : Int32)) hx hb dX11_said_11 (by decide) ?_
    refine lv_icmp_ge (tgt := 17) hx hb dX11_said_12 (by decide) (fun c2 => ?_) (fun c2 => ?_)
    · have hF := op_t hF c2
      refine lv_iconst (v := (0 : Int32)) hx hb dX11_said_17 (by decide) ?_
      refine lv_istore_n (lv' := [(2, .int (0 : Int32)), (0, .ref o0), (1, .int x1)]) hx hb dX11_said_18 rfl hl (by decide) rfl (fun ls hl => ?_)
      refine lv_iconst (v := (0 : Int32)) hx hb dX11_said_19 (by decide) ?_
      refine lv_istore_n (lv' := [(3, .int (0 : Int32)), (2, .int (0 : Int32)), (0, .ref o0), (1, .int x1)]) hx hb dX11_said_20 rfl hl (by decide) rfl (fun ls hl => ?_)
      exact l_X11_said_21 C hF _ _ _ hP hD hS (lv_sub hl [2, 3, 1, 0] rfl)
    · have hF := op_f hF c2
      refine lv_iconst (v := (-1 : Int32)) hx hb dX11_said_15 (by decide) ?_
      cases hF
      exact k_iret C hP hS dX11_said_16

abbrev rm_X11_count : Room := ({ frames := 0, cells := 0, slots := 0, locals := 0 } : Room)
def F_X11_count (S0 : St) (S1 : St) (S2 : St) (x1 : Int32) : Option (Int32) := if x1 = (0 : Int32) then (some ((S1.1 0))) else if x1 = (1 : Int32) then (some ((S1.1 7))) else if x1 = (2 : Int32) then (some ((S2.1 1))) else some ((-1 : Int32))
set_option maxRecDepth 100000 in
set_option maxHeartbeats 4000000 in
theorem c_X11_count (l : Launch) (D : va_G) (q : Nat → ClassId) (tp : Nat) (o0 : Nat) (a0 : Nat → Nat) (S0 : St) (a1 : Nat → Nat) (S1 : St) (a2 : Nat → Nat) (S2 : St) (sz : Nat) (x1 : Int32) {r : Int32} (hF : F_X11_count S0 S1 S2 x1 = some (r)) : Met l yX11_count (Cond.code yX11_count cX11_count 2 (some .int) :: TB) rm_X11_count (PC D q [.ref o0, .int x1] (fl [g11 q o0 a0 tp S0, g8 q (a0 3) a1 S1, g9 q tp a2 940 S2]) sz) ((fun A => QI D A r (fl [g11 q o0 a0 tp S0, g8 q (a0 3) a1 S1, g9 q tp a2 940 S2])) (va_A (fl [g11 q o0 a0 tp S0, g8 q (a0 3) a1 S1, g9 q tp a2 940 S2]) sz)) 0 0 (va_A (fl [g11 q o0 a0 tp S0, g8 q (a0 3) a1 S1, g9 q tp a2 940 S2]) sz) := by
  refine k_met (w0 := fl [g11 q o0 a0 tp S0, g8 q (a0 3) a1 S1, g9 q tp a2 940 S2]) (Q := fun A => QI D A r (fl [g11 q o0 a0 tp S0, g8 q (a0 3) a1 S1, g9 q tp a2 940 S2])) (by decide +kernel) (Nat.le_of_ble_eq_true rfl) ?_
  intro p e s m args below meth c A ls C hP hD hS hl
  have hl : lv_has ls 2 [(0, .ref o0), (1, .int x1)] := hl
  unfold F_X11_count at hF
  have C : cx p s m args meth c cX11_count 2 (some .int) RX11 D q A := C
  obtain ⟨hx, hb, hr, hml, hown, hts, hlk, hA, hK, hN, hV⟩ := id C
  refine lv_iload_n hx hb dX11_count_0 rfl (lv_at hl 1 rfl) ?_
  by_cases c1 : x1 = (0 : Int32)
  · have hF := op_t hF c1
    refine lv_tableIn (tgt := 28) hx hb dX11_count_1 (by rw [c1]; decide) (by rw [c1]; decide) (by rw [c1]; rfl) (by decide) ?_
    refine lv_aload_n hx hb dX11_count_28 rfl (lv_at hl 0 rfl) ?_
    refine k_get (v := .ref (a0 3)) C fg_X11_26 hP 0 rfl rfl dX11_count_29 ?_
    refine k_get (v := .int (S1.1 0)) C fg_X11_296 hP 2 rfl rfl dX11_count_32 ?_
    cases hF
    exact k_iret C hP hS dX11_count_35
  have hF := op_f hF c1
  by_cases c2 : x1 = (1 : Int32)
  · have hF := op_t hF c2
    refine lv_tableIn (tgt := 36) hx hb dX11_count_1 (by rw [c2]; decide) (by rw [c2]; decide) (by rw [c2]; rfl) (by decide) ?_
    refine lv_aload_n hx hb dX11_count_36 rfl (lv_at hl 0 rfl) ?_
    refine k_get (v := .ref (a0 3)) C fg_X11_26 hP 0 rfl rfl dX11_count_37 ?_
    refine k_get (v := .int (S1.1 7)) C fg_X11_285 hP 2 rfl rfl dX11_count_40 ?_
    cases hF
    exact k_iret C hP hS dX11_count_43
  have hF := op_f hF c2
  by_cases c3 : x1 = (2 : Int32)
  · have hF := op_t hF c3
    refine lv_tableIn (tgt := 44) hx hb dX11_count_1 (by rw [c3]; decide) (by rw [c3]; decide) (by rw [c3]; rfl) (by decide) ?_
    refine lv_aload_n hx hb dX11_count_44 rfl (lv_at hl 0 rfl) ?_
    refine k_get (v := .ref tp) C fg_X11_20 hP 0 rfl rfl dX11_count_45 ?_
    refine k_get (v := .int (S2.1 1)) C fg_X11_111 hP 13 rfl rfl dX11_count_48 ?_
    cases hF
    exact k_iret C hP hS dX11_count_51
  have hF := op_f hF c3
  have nc1 := lv_neT (a := 0) c1 (by decide)
  have nc2 := lv_neT (a := 1) c2 (by decide)
  have nc3 := lv_neT (a := 2) c3 (by decide)
  refine lv_tableOut (tgt := 52) hx hb dX11_count_1 (by omega) (by decide) ?_
  refine lv_iconst (v := (-1 : Int32)) hx hb dX11_count_52 (by decide) ?_
  cases hF
  exact k_iret C hP hS dX11_count_53

abbrev rm_X12_thrown : Room := ({ frames := 0, cells := 0, slots := 0, locals := 0 } : Room)
def F_X12_thrown (S0 : St) : Option (Int32) := some ((S0.1 0))
set_option maxRecDepth 100000 in
set_option maxHeartbeats 4000000 in
theorem c_X12_thrown (l : Launch) (D : va_G) (q : Nat → ClassId) (o0 : Nat) (a0 : Nat → Nat) (S0 : St) (sz : Nat) {r : Int32} (hF : F_X12_thrown S0 = some (r)) : Met l yX12_thrown (Cond.code yX12_thrown cX12_thrown 1 (some .int) :: TB) rm_X12_thrown (PC D q [.ref o0] (fl [g12 q o0 a0 S0]) sz) ((fun A => QI D A r (fl [g12 q o0 a0 S0])) (va_A (fl [g12 q o0 a0 S0]) sz)) 0 0 (va_A (fl [g12 q o0 a0 S0]) sz) := by
  refine k_met (w0 := fl [g12 q o0 a0 S0]) (Q := fun A => QI D A r (fl [g12 q o0 a0 S0])) (by decide +kernel) (Nat.le_of_ble_eq_true rfl) ?_
  intro p e s m args below meth c A ls C hP hD hS hl
  have hl : lv_has ls 1 [(0, .ref o0)] := hl
  unfold F_X12_thrown at hF
  have C : cx p s m args meth c cX12_thrown 1 (some .int) RX12 D q A := C
  obtain ⟨hx, hb, hr, hml, hown, hts, hlk, hA, hK, hN, hV⟩ := id C
  refine lv_aload_n hx hb dX12_thrown_0 rfl (lv_at hl 0 rfl) ?_
  refine k_get (v := .int (S0.1 0)) C fg_X12_1 hP 0 rfl rfl dX12_thrown_1 ?_
  cases hF
  exact k_iret C hP hS dX12_thrown_4

abbrev rm_X12_throwsIf : Room := ({ frames := 0, cells := 0, slots := 0, locals := 0 } : Room)
def F_X12_throwsIf (S0 : St) (x1 : Int32) : Option (Int32 × St) := if x1 = 0 then (nw (sI S0 0 (0 : Int32)) fun U2 => if nb x1 then none else some (x1, U2)) else (nw (sI S0 0 (1 : Int32)) fun U5 => if nb x1 then none else some (x1, U5))
set_option maxRecDepth 100000 in
set_option maxHeartbeats 4000000 in
theorem c_X12_throwsIf (l : Launch) (D : va_G) (q : Nat → ClassId) (o0 : Nat) (a0 : Nat → Nat) (S0 : St) (sz : Nat) (x1 : Int32) {r : Int32} {T0 : St} (hF : F_X12_throwsIf S0 x1 = some (r, T0)) : Met l yX12_throwsIf (Cond.code yX12_throwsIf cX12_throwsIf 2 (some .boolean) :: TB) rm_X12_throwsIf (PC D q [.ref o0, .int x1] (fl [g12 q o0 a0 S0]) sz) ((fun A => QI D A r (fl [g12 q o0 a0 T0])) (va_A (fl [g12 q o0 a0 S0]) sz)) 0 0 (va_A (fl [g12 q o0 a0 S0]) sz) := by
  refine k_met (w0 := fl [g12 q o0 a0 S0]) (Q := fun A => QI D A r (fl [g12 q o0 a0 T0])) (by decide +kernel) (Nat.le_of_ble_eq_true rfl) ?_
  intro p e s m args below meth c A ls C hP hD hS hl
  have hl : lv_has ls 2 [(0, .ref o0), (1, .int x1)] := hl
  unfold F_X12_throwsIf at hF
  have C : cx p s m args meth c cX12_throwsIf 2 (some .boolean) RX12 D q A := C
  obtain ⟨hx, hb, hr, hml, hown, hts, hlk, hA, hK, hN, hV⟩ := id C
  refine lv_aload_n hx hb dX12_throwsIf_0 rfl (lv_at hl 0 rfl) ?_
  refine lv_iload_n hx hb dX12_throwsIf_1 rfl (lv_at hl 1 rfl) ?_
  refine lv_if_eq (tgt := 9) hx hb dX12_throwsIf_2 (by decide) (fun c1 => ?_) (fun c1 => ?_)
  · have hF := op_t hF c1
    refine lv_iconst (v := (0 : Int32)) hx hb dX12_throwsIf_9 (by decide) ?_
    obtain ⟨U2, e3, hF⟩ := nw_s hF
    refine k_put (W8 := fl [g12 q o0 a0 U2]) C fp_X12_1 hP hD hS 0 rfl rfl rfl (Nat.le_of_ble_eq_true rfl) dX12_throwsIf_10 (by rw [e3]; rfl) (fun H locs hP hD hS => ?_)
    refine lv_iload_n hx hb dX12_throwsIf_13 rfl (lv_at hl 1 rfl) ?_
    obtain ⟨h4, hF⟩ := op_ck hF
    cases hF
    exact k_zret C h4 hP hS dX12_throwsIf_14
  · have hF := op_f hF c1
    refine lv_iconst (v := (1 : Int32)) hx hb dX12_throwsIf_5 (by decide) ?_
    refine lv_goto (tgt := 10) hx hb dX12_throwsIf_6 (by decide) ?_
    obtain ⟨U5, e6, hF⟩ := nw_s hF
    refine k_put (W8 := fl [g12 q o0 a0 U5]) C fp_X12_1 hP hD hS 0 rfl rfl rfl (Nat.le_of_ble_eq_true rfl) dX12_throwsIf_10 (by rw [e6]; rfl) (fun H locs hP hD hS => ?_)
    refine lv_iload_n hx hb dX12_throwsIf_13 rfl (lv_at hl 1 rfl) ?_
    obtain ⟨h7, hF⟩ := op_ck hF
    cases hF
    exact k_zret C h7 hP hS dX12_throwsIf_14

abbrev rm_X12_four : Room := ({ frames := 0, cells := 0, slots := 0, locals := 0 } : Room)
def F_X12_four_3 (k3 : Int32 × Int32 × St → Option (St)) (x1 : Int32) (x2 : Int32) (S0 : St) : Option (St) := if x2 < 0 then (some (S0)) else (if oob (S0.1 2) 940 then none else nw (sA S0 1 (S0.1 2) (vp_nar .byte ((x1 >>> (x2 &&& 31)).toInt8.toInt32))) fun U3 => nw (sI U3 2 ((U3.1 2) + (1 : Int32))) fun U5 => k3 (x1, (x2 + (-8)), U5))
def L_X12_four_3 (x1 : Int32) (x2 : Int32) (S0 : St) : Option (St) := lp (fun kz z => F_X12_four_3 kz z.1 z.2.1 z.2.2) FU (x1, x2, S0)
def F_X12_four (S0 : St) (x1 : Int32) : Option (St) := L_X12_four_3 x1 (24 : Int32) S0
set_option maxRecDepth 100000 in
set_option maxHeartbeats 4000000 in
theorem b_X12_four_3 {p : Program} {l : Launch} {e : Env} {s : State} {m : MethodId} {args : Array Value} {below : List Frame} {meth : Method} {c : Code} {D : va_G} {q : Nat → ClassId} {A : Nat → Prop} {o0 : Nat} {a0 : Nat → Nat} {T0 : St} (C : cx p s m args meth c cX12_four 3 none RX12 D q A) {k3 : Int32 × Int32 × St → Option (St)} (hk3 : ∀ (x1 : Int32) (x2 : Int32) (S0 : St), k3 (x1, x2, S0) = some (T0) → ∀ (H : Heap) (locs : List Loc) (ls : Array Slot), va_P D vwCl (fl [g12 q o0 a0 S0]) H → va_D A (fl [g12 q o0 a0 S0]) → va_S A s.heap H locs → lv_has ls 3 [(0, .ref o0), (1, .int x1), (2, .int x2)] → W p l e rm_X12_four s m args below meth c H locs 0 0 (MQ below (QV D A (fl [g12 q o0 a0 T0])) args s 0 0 A) (F0 m 3 ls [])) {x1 : Int32} {x2 : Int32} {S0 : St} (hF : F_X12_four_3 k3 x1 x2 S0 = some (T0)) {H : Heap} {locs : List Loc} (hP : va_P D vwCl (fl [g12 q o0 a0 S0]) H) (hD : va_D A (fl [g12 q o0 a0 S0])) (hS : va_S A s.heap H locs) {ls : Array Slot} (hl : lv_has ls 3 [(0, .ref o0), (1, .int x1), (2, .int x2)]) : W p l e rm_X12_four s m args below meth c H locs 0 0 (MQ below (QV D A (fl [g12 q o0 a0 T0])) args s 0 0 A) (F0 m 3 ls []) := by
  unfold F_X12_four_3 at hF
  obtain ⟨hx, hb, hr, hml, hown, hts, hlk, hA, hK, hN, hV⟩ := id C
  refine lv_iload_n hx hb dX12_four_3 rfl (lv_at hl 2 rfl) ?_
  refine lv_if_lt (tgt := 36) hx hb dX12_four_4 (by decide) (fun c1 => ?_) (fun c1 => ?_)
  · have hF := op_t hF c1
    cases hF
    exact k_vret C hP hS dX12_four_36
  · have hF := op_f hF c1
    refine lv_aload_n hx hb dX12_four_7 rfl (lv_at hl 0 rfl) ?_
    refine k_get (v := .ref (a0 2)) C fg_X12_14 hP 0 rfl rfl dX12_four_8 ?_
    refine lv_aload_n hx hb dX12_four_11 rfl (lv_at hl 0 rfl) ?_
    refine k_get (v := .int (S0.1 2)) C fg_X12_7 hP 0 rfl rfl dX12_four_12 ?_
    refine lv_iload_n hx hb dX12_four_15 rfl (lv_at hl 1 rfl) ?_
    refine lv_iload_n hx hb dX12_four_16 rfl (lv_at hl 2 rfl) ?_
    refine lv_ishr hx hb dX12_four_17 ?_
    refine lv_i2b (v := (x1 >>> (x2 &&& 31)).toInt8.toInt32) hx hb dX12_four_18 rfl ?_
    obtain ⟨h2, hF⟩ := op_ck hF
    obtain ⟨U3, e4, hF⟩ := nw_s hF
    refine k_bst (f := S0.2.2.1 1) (W8 := fl [g12 q o0 a0 U3]) C hP hD hS 1 rfl h2 dX12_four_19 (by rw [e4]; rfl) (fun H locs hP hD hS => ?_)
    refine lv_aload_n hx hb dX12_four_20 rfl (lv_at hl 0 rfl) ?_
    refine lv_dup hx hb dX12_four_21 rfl ?_
    refine k_get (v := .int (U3.1 2)) C fg_X12_7 hP 0 rfl rfl dX12_four_22 ?_
    refine lv_iconst (v := (1 : Int32)) hx hb dX12_four_25 (by decide) ?_
    refine lv_iadd hx hb dX12_four_26 ?_
    obtain ⟨U5, e6, hF⟩ := nw_s hF
    refine k_put (W8 := fl [g12 q o0 a0 U5]) C fp_X12_7 hP hD hS 0 rfl rfl rfl (Nat.le_of_ble_eq_true rfl) dX12_four_27 (by rw [e6]; rfl) (fun H locs hP hD hS => ?_)
    refine lv_iinc (v := (x2 + (-8))) (lv' := [(2, .int (x2 + (-8))), (0, .ref o0), (1, .int x1)]) hx hb dX12_four_30 hl (k := 2) rfl rfl (by decide) rfl (fun ls hl => ?_)
    refine lv_goto (tgt := 3) hx hb dX12_four_33 (by decide) ?_
    exact hk3 x1 (x2 + (-8)) U5 hF _ _ _ hP hD hS (lv_sub hl [1, 2, 0] rfl)
set_option maxRecDepth 100000 in
set_option maxHeartbeats 4000000 in
theorem l_X12_four_3 {p : Program} {l : Launch} {e : Env} {s : State} {m : MethodId} {args : Array Value} {below : List Frame} {meth : Method} {c : Code} {D : va_G} {q : Nat → ClassId} {A : Nat → Prop} {o0 : Nat} {a0 : Nat → Nat} {T0 : St} (C : cx p s m args meth c cX12_four 3 none RX12 D q A) {x1 : Int32} {x2 : Int32} {S0 : St} (hF : L_X12_four_3 x1 x2 S0 = some (T0)) : ∀ (H : Heap) (locs : List Loc) (ls : Array Slot), va_P D vwCl (fl [g12 q o0 a0 S0]) H → va_D A (fl [g12 q o0 a0 S0]) → va_S A s.heap H locs → lv_has ls 3 [(0, .ref o0), (1, .int x1), (2, .int x2)] → W p l e rm_X12_four s m args below meth c H locs 0 0 (MQ below (QV D A (fl [g12 q o0 a0 T0])) args s 0 0 A) (F0 m 3 ls []) :=
  lp_G _ _ (fun z => ∀ (H : Heap) (locs : List Loc) (ls : Array Slot), va_P D vwCl (fl [g12 q o0 a0 z.2.2]) H → va_D A (fl [g12 q o0 a0 z.2.2]) → va_S A s.heap H locs → lv_has ls 3 [(0, .ref o0), (1, .int z.1), (2, .int z.2.1)] → W p l e rm_X12_four s m args below meth c H locs 0 0 (MQ below (QV D A (fl [g12 q o0 a0 T0])) args s 0 0 A) (F0 m 3 ls [])) (fun kz hkz z hz H locs ls hP hD hS hl => b_X12_four_3 C (fun x1 x2 S0 hz => hkz (x1, x2, S0) hz) hz hP hD hS hl) FU (x1, x2, S0) hF
set_option maxRecDepth 100000 in
set_option maxHeartbeats 4000000 in
theorem c_X12_four (l : Launch) (D : va_G) (q : Nat → ClassId) (o0 : Nat) (a0 : Nat → Nat) (S0 : St) (sz : Nat) (x1 : Int32) {T0 : St} (hF : F_X12_four S0 x1 = some (T0)) : Met l yX12_four (Cond.code yX12_four cX12_four 3 none :: TB) rm_X12_four (PC D q [.ref o0, .int x1] (fl [g12 q o0 a0 S0]) sz) ((fun A => QV D A (fl [g12 q o0 a0 T0])) (va_A (fl [g12 q o0 a0 S0]) sz)) 0 0 (va_A (fl [g12 q o0 a0 S0]) sz) := by
  refine k_met (w0 := fl [g12 q o0 a0 S0]) (Q := fun A => QV D A (fl [g12 q o0 a0 T0])) (by decide +kernel) (Nat.le_of_ble_eq_true rfl) ?_
  intro p e s m args below meth c A ls C hP hD hS hl
  have hl : lv_has ls 3 [(0, .ref o0), (1, .int x1)] := hl
  unfold F_X12_four at hF
  have C : cx p s m args meth c cX12_four 3 none RX12 D q A := C
  obtain ⟨hx, hb, hr, hml, hown, hts, hlk, hA, hK, hN, hV⟩ := id C
  refine lv_bipush (v := (24 : Int32)) hx hb dX12_four_0 (by decide) ?_
  refine lv_istore_n (lv' := [(2, .int (24 : Int32)), (0, .ref o0), (1, .int x1)]) hx hb dX12_four_2 rfl hl (by decide) rfl (fun ls hl => ?_)
  exact l_X12_four_3 C hF _ _ _ hP hD hS (lv_sub hl [1, 2, 0] rfl)

abbrev rm_X12_feed : Room := ({ frames := 1, cells := 0, slots := 0, locals := 22 } : Room)
def F_X12_feed (S0 : St) (x1 : Int32) (x2 : Int32) (x3 : Int32) (x4 : Int32) (x5 : Int32) : Option (Int32 × St) := nw (sI S0 0 (0 : Int32)) fun U1 => if ((U1.1 2) + (20 : Int32)) ≤ (940 : Int32) then (ob1 (F_X12_four U1 x1) fun U5 => ob1 (F_X12_four U5 x2) fun U7 => ob1 (F_X12_four U7 x3) fun U9 => ob1 (F_X12_four U9 x4) fun U11 => ob1 (F_X12_four U11 x5) fun U13 => some ((U13.1 2), U13)) else (some ((-1 : Int32), U1))
set_option maxRecDepth 100000 in
set_option maxHeartbeats 4000000 in
theorem c_X12_feed (l : Launch) (D : va_G) (q : Nat → ClassId) (o0 : Nat) (a0 : Nat → Nat) (S0 : St) (sz : Nat) (x1 : Int32) (x2 : Int32) (x3 : Int32) (x4 : Int32) (x5 : Int32) {r : Int32} {T0 : St} (hF : F_X12_feed S0 x1 x2 x3 x4 x5 = some (r, T0)) : Met l yX12_feed (Cond.code yX12_feed cX12_feed 6 (some .int) :: TB) rm_X12_feed (PC D q [.ref o0, .int x1, .int x2, .int x3, .int x4, .int x5] (fl [g12 q o0 a0 S0]) sz) ((fun A => QI D A r (fl [g12 q o0 a0 T0])) (va_A (fl [g12 q o0 a0 S0]) sz)) 0 0 (va_A (fl [g12 q o0 a0 S0]) sz) := by
  refine k_met (w0 := fl [g12 q o0 a0 S0]) (Q := fun A => QI D A r (fl [g12 q o0 a0 T0])) (by decide +kernel) (Nat.le_of_ble_eq_true rfl) ?_
  intro p e s m args below meth c A ls C hP hD hS hl
  have hl : lv_has ls 6 [(0, .ref o0), (1, .int x1), (2, .int x2), (3, .int x3), (4, .int x4), (5, .int x5)] := hl
  unfold F_X12_feed at hF
  have C : cx p s m args meth c cX12_feed 6 (some .int) RX12 D q A := C
  obtain ⟨hx, hb, hr, hml, hown, hts, hlk, hA, hK, hN, hV⟩ := id C
  refine lv_aload_n hx hb dX12_feed_0 rfl (lv_at hl 0 rfl) ?_
  refine lv_iconst (v := (0 : Int32)) hx hb dX12_feed_1 (by decide) ?_
  obtain ⟨U1, e2, hF⟩ := nw_s hF
  refine k_put (W8 := fl [g12 q o0 a0 U1]) C fp_X12_1 hP hD hS 0 rfl rfl rfl (Nat.le_of_ble_eq_true rfl) dX12_feed_2 (by rw [e2]; rfl) (fun H locs hP hD hS => ?_)
  refine lv_aload_n hx hb dX12_feed_5 rfl (lv_at hl 0 rfl) ?_
  refine k_get (v := .int (U1.1 2)) C fg_X12_7 hP 0 rfl rfl dX12_feed_6 ?_
  refine lv_bipush (v := (20 : Int32)) hx hb dX12_feed_9 (by decide) ?_
  refine lv_iadd hx hb dX12_feed_11 ?_
  refine lv_sipush (v := (940 : Int32)) hx hb dX12_feed_12 (by decide) ?_
  refine lv_icmp_le (tgt := 20) hx hb dX12_feed_15 (by decide) (fun c3 => ?_) (fun c3 => ?_)
  · have hF := op_t hF c3
    refine lv_aload_n hx hb dX12_feed_20 rfl (lv_at hl 0 rfl) ?_
    refine lv_iload_n hx hb dX12_feed_21 rfl (lv_at hl 1 rfl) ?_
    obtain ⟨U5, hc4, hF⟩ := ob1_s hF
    refine k_vall C (k_rV (As := [.int x1]) (rest := []) C (c_X12_four l D q o0 a0 U1 _ x1 hc4) kc_X12_four ml_X12_10 rfl rfl (by decide) hP hD hS (va_recv hK hP (ci := 12) (q0 := 0) rfl rfl) rfl hl.1 rfl (Nat.le_of_ble_eq_true rfl) dX12_feed_22 (by decide)) hP hD hS (by simp only [List.map_cons, List.map_nil, gad12]) (fun H locs hP hD hS => ?_)
    refine lv_aload_n hx hb dX12_feed_25 rfl (lv_at hl 0 rfl) ?_
    refine lv_iload_n hx hb dX12_feed_26 rfl (lv_at hl 2 rfl) ?_
    obtain ⟨U7, hc6, hF⟩ := ob1_s hF
    refine k_vall C (k_rV (As := [.int x2]) (rest := []) C (c_X12_four l D q o0 a0 U5 _ x2 hc6) kc_X12_four ml_X12_10 rfl rfl (by decide) hP hD hS (va_recv hK hP (ci := 12) (q0 := 0) rfl rfl) rfl hl.1 rfl (Nat.le_of_ble_eq_true rfl) dX12_feed_27 (by decide)) hP hD hS (by simp only [List.map_cons, List.map_nil, gad12]) (fun H locs hP hD hS => ?_)
    refine lv_aload_n hx hb dX12_feed_30 rfl (lv_at hl 0 rfl) ?_
    refine lv_iload_n hx hb dX12_feed_31 rfl (lv_at hl 3 rfl) ?_
    obtain ⟨U9, hc8, hF⟩ := ob1_s hF
    refine k_vall C (k_rV (As := [.int x3]) (rest := []) C (c_X12_four l D q o0 a0 U7 _ x3 hc8) kc_X12_four ml_X12_10 rfl rfl (by decide) hP hD hS (va_recv hK hP (ci := 12) (q0 := 0) rfl rfl) rfl hl.1 rfl (Nat.le_of_ble_eq_true rfl) dX12_feed_32 (by decide)) hP hD hS (by simp only [List.map_cons, List.map_nil, gad12]) (fun H locs hP hD hS => ?_)
    refine lv_aload_n hx hb dX12_feed_35 rfl (lv_at hl 0 rfl) ?_
    refine lv_iload hx hb dX12_feed_36 (lv_at hl 4 rfl) ?_
    obtain ⟨U11, hc10, hF⟩ := ob1_s hF
    refine k_vall C (k_rV (As := [.int x4]) (rest := []) C (c_X12_four l D q o0 a0 U9 _ x4 hc10) kc_X12_four ml_X12_10 rfl rfl (by decide) hP hD hS (va_recv hK hP (ci := 12) (q0 := 0) rfl rfl) rfl hl.1 rfl (Nat.le_of_ble_eq_true rfl) dX12_feed_38 (by decide)) hP hD hS (by simp only [List.map_cons, List.map_nil, gad12]) (fun H locs hP hD hS => ?_)
    refine lv_aload_n hx hb dX12_feed_41 rfl (lv_at hl 0 rfl) ?_
    refine lv_iload hx hb dX12_feed_42 (lv_at hl 5 rfl) ?_
    obtain ⟨U13, hc12, hF⟩ := ob1_s hF
    refine k_vall C (k_rV (As := [.int x5]) (rest := []) C (c_X12_four l D q o0 a0 U11 _ x5 hc12) kc_X12_four ml_X12_10 rfl rfl (by decide) hP hD hS (va_recv hK hP (ci := 12) (q0 := 0) rfl rfl) rfl hl.1 rfl (Nat.le_of_ble_eq_true rfl) dX12_feed_44 (by decide)) hP hD hS (by simp only [List.map_cons, List.map_nil, gad12]) (fun H locs hP hD hS => ?_)
    refine lv_aload_n hx hb dX12_feed_47 rfl (lv_at hl 0 rfl) ?_
    refine k_get (v := .int (U13.1 2)) C fg_X12_7 hP 0 rfl rfl dX12_feed_48 ?_
    cases hF
    exact k_iret C hP hS dX12_feed_51
  · have hF := op_f hF c3
    refine lv_iconst (v := (-1 : Int32)) hx hb dX12_feed_18 (by decide) ?_
    cases hF
    exact k_iret C hP hS dX12_feed_19

abbrev rm_X12_end : Room := ({ frames := 0, cells := 0, slots := 0, locals := 0 } : Room)
def F_X12_end (S0 : St) (x1 : Int32) : Option (Int32 × St) := nw (sI S0 0 (0 : Int32)) fun U1 => if x1 < 0 then (some ((0 : Int32), U1)) else (if x1 ≤ (U1.1 2) then (nw (sI U1 2 x1) fun U5 => some ((1 : Int32), U5)) else (some ((0 : Int32), U1)))
set_option maxRecDepth 100000 in
set_option maxHeartbeats 4000000 in
theorem c_X12_end (l : Launch) (D : va_G) (q : Nat → ClassId) (o0 : Nat) (a0 : Nat → Nat) (S0 : St) (sz : Nat) (x1 : Int32) {r : Int32} {T0 : St} (hF : F_X12_end S0 x1 = some (r, T0)) : Met l yX12_end (Cond.code yX12_end cX12_end 2 (some .boolean) :: TB) rm_X12_end (PC D q [.ref o0, .int x1] (fl [g12 q o0 a0 S0]) sz) ((fun A => QI D A r (fl [g12 q o0 a0 T0])) (va_A (fl [g12 q o0 a0 S0]) sz)) 0 0 (va_A (fl [g12 q o0 a0 S0]) sz) := by
  refine k_met (w0 := fl [g12 q o0 a0 S0]) (Q := fun A => QI D A r (fl [g12 q o0 a0 T0])) (by decide +kernel) (Nat.le_of_ble_eq_true rfl) ?_
  intro p e s m args below meth c A ls C hP hD hS hl
  have hl : lv_has ls 2 [(0, .ref o0), (1, .int x1)] := hl
  unfold F_X12_end at hF
  have C : cx p s m args meth c cX12_end 2 (some .boolean) RX12 D q A := C
  obtain ⟨hx, hb, hr, hml, hown, hts, hlk, hA, hK, hN, hV⟩ := id C
  refine lv_aload_n hx hb dX12_end_0 rfl (lv_at hl 0 rfl) ?_
  refine lv_iconst (v := (0 : Int32)) hx hb dX12_end_1 (by decide) ?_
  obtain ⟨U1, e2, hF⟩ := nw_s hF
  refine k_put (W8 := fl [g12 q o0 a0 U1]) C fp_X12_1 hP hD hS 0 rfl rfl rfl (Nat.le_of_ble_eq_true rfl) dX12_end_2 (by rw [e2]; rfl) (fun H locs hP hD hS => ?_)
  refine lv_iload_n hx hb dX12_end_5 rfl (lv_at hl 1 rfl) ?_
  refine lv_if_lt (tgt := 17) hx hb dX12_end_6 (by decide) (fun c3 => ?_) (fun c3 => ?_)
  · have hF := op_t hF c3
    refine lv_iconst (v := (0 : Int32)) hx hb dX12_end_17 (by decide) ?_
    cases hF
    exact k_zret C (by decide) hP hS dX12_end_18
  · have hF := op_f hF c3
    refine lv_iload_n hx hb dX12_end_9 rfl (lv_at hl 1 rfl) ?_
    refine lv_aload_n hx hb dX12_end_10 rfl (lv_at hl 0 rfl) ?_
    refine k_get (v := .int (U1.1 2)) C fg_X12_7 hP 0 rfl rfl dX12_end_11 ?_
    refine lv_icmp_le (tgt := 19) hx hb dX12_end_14 (by decide) (fun c4 => ?_) (fun c4 => ?_)
    · have hF := op_t hF c4
      refine lv_aload_n hx hb dX12_end_19 rfl (lv_at hl 0 rfl) ?_
      refine lv_iload_n hx hb dX12_end_20 rfl (lv_at hl 1 rfl) ?_
      obtain ⟨U5, e6, hF⟩ := nw_s hF
      refine k_put (W8 := fl [g12 q o0 a0 U5]) C fp_X12_7 hP hD hS 0 rfl rfl rfl (Nat.le_of_ble_eq_true rfl) dX12_end_21 (by rw [e6]; rfl) (fun H locs hP hD hS => ?_)
      refine lv_iconst (v := (1 : Int32)) hx hb dX12_end_24 (by decide) ?_
      cases hF
      exact k_zret C (by decide) hP hS dX12_end_25
    · have hF := op_f hF c4
      refine lv_iconst (v := (0 : Int32)) hx hb dX12_end_17 (by decide) ?_
      cases hF
      exact k_zret C (by decide) hP hS dX12_end_18

abbrev rm_X12_taken : Room := ({ frames := 0, cells := 0, slots := 0, locals := 0 } : Room)
def F_X12_taken (S0 : St) (x1 : Int32) : Option (St) := nw (sI S0 3 (S0.1 2)) fun U1 => nw (sI U1 2 (0 : Int32)) fun U3 => nw (sI U3 4 (0 : Int32)) fun U5 => nw (sI U5 5 x1) fun U7 => some (U7)
set_option maxRecDepth 100000 in
set_option maxHeartbeats 4000000 in
theorem c_X12_taken (l : Launch) (D : va_G) (q : Nat → ClassId) (o0 : Nat) (a0 : Nat → Nat) (S0 : St) (sz : Nat) (x1 : Int32) {T0 : St} (hF : F_X12_taken S0 x1 = some (T0)) : Met l yX12_taken (Cond.code yX12_taken cX12_taken 2 none :: TB) rm_X12_taken (PC D q [.ref o0, .int x1] (fl [g12 q o0 a0 S0]) sz) ((fun A => QV D A (fl [g12 q o0 a0 T0])) (va_A (fl [g12 q o0 a0 S0]) sz)) 0 0 (va_A (fl [g12 q o0 a0 S0]) sz) := by
  refine k_met (w0 := fl [g12 q o0 a0 S0]) (Q := fun A => QV D A (fl [g12 q o0 a0 T0])) (by decide +kernel) (Nat.le_of_ble_eq_true rfl) ?_
  intro p e s m args below meth c A ls C hP hD hS hl
  have hl : lv_has ls 2 [(0, .ref o0), (1, .int x1)] := hl
  unfold F_X12_taken at hF
  have C : cx p s m args meth c cX12_taken 2 none RX12 D q A := C
  obtain ⟨hx, hb, hr, hml, hown, hts, hlk, hA, hK, hN, hV⟩ := id C
  refine lv_aload_n hx hb dX12_taken_0 rfl (lv_at hl 0 rfl) ?_
  refine lv_aload_n hx hb dX12_taken_1 rfl (lv_at hl 0 rfl) ?_
  refine k_get (v := .int (S0.1 2)) C fg_X12_7 hP 0 rfl rfl dX12_taken_2 ?_
  obtain ⟨U1, e2, hF⟩ := nw_s hF
  refine k_put (W8 := fl [g12 q o0 a0 U1]) C fp_X12_18 hP hD hS 0 rfl rfl rfl (Nat.le_of_ble_eq_true rfl) dX12_taken_5 (by rw [e2]; rfl) (fun H locs hP hD hS => ?_)
  refine lv_aload_n hx hb dX12_taken_8 rfl (lv_at hl 0 rfl) ?_
  refine lv_iconst (v := (0 : Int32)) hx hb dX12_taken_9 (by decide) ?_
  obtain ⟨U3, e4, hF⟩ := nw_s hF
  refine k_put (W8 := fl [g12 q o0 a0 U3]) C fp_X12_7 hP hD hS 0 rfl rfl rfl (Nat.le_of_ble_eq_true rfl) dX12_taken_10 (by rw [e4]; rfl) (fun H locs hP hD hS => ?_)
  refine lv_aload_n hx hb dX12_taken_13 rfl (lv_at hl 0 rfl) ?_
  refine lv_iconst (v := (0 : Int32)) hx hb dX12_taken_14 (by decide) ?_
  obtain ⟨U5, e6, hF⟩ := nw_s hF
  refine k_put (W8 := fl [g12 q o0 a0 U5]) C fp_X12_21 hP hD hS 0 rfl rfl rfl (Nat.le_of_ble_eq_true rfl) dX12_taken_15 (by rw [e6]; rfl) (fun H locs hP hD hS => ?_)
  refine lv_aload_n hx hb dX12_taken_18 rfl (lv_at hl 0 rfl) ?_
  refine lv_iload_n hx hb dX12_taken_19 rfl (lv_at hl 1 rfl) ?_
  obtain ⟨U7, e8, hF⟩ := nw_s hF
  refine k_put (W8 := fl [g12 q o0 a0 U7]) C fp_X12_24 hP hD hS 0 rfl rfl rfl (Nat.le_of_ble_eq_true rfl) dX12_taken_20 (by rw [e8]; rfl) (fun H locs hP hD hS => ?_)
  cases hF
  exact k_vret C hP hS dX12_taken_23

abbrev rm_X12_isIn : Room := ({ frames := 0, cells := 0, slots := 0, locals := 0 } : Room)
def F_X12_isIn (x0 : Int32) (x1 : Int32) (x2 : Int32) : Option (Int32) := if x0 < x1 then (some ((0 : Int32))) else (if x2 < x0 then (some ((0 : Int32))) else (some ((1 : Int32))))
set_option maxRecDepth 100000 in
set_option maxHeartbeats 4000000 in
theorem c_X12_isIn (l : Launch) (D : va_G) (q : Nat → ClassId) (sz : Nat) (x0 : Int32) (x1 : Int32) (x2 : Int32) {r : Int32} (hF : F_X12_isIn x0 x1 x2 = some (r)) : Met l yX12_isIn (Cond.code yX12_isIn cX12_isIn 3 (some .boolean) :: TB) rm_X12_isIn (PC D q [.int x0, .int x1, .int x2] ([]) sz) ((fun A => QI D A r ([])) (va_A ([]) sz)) 0 0 (va_A ([]) sz) := by
  refine k_met (w0 := []) (Q := fun A => QI D A r ([])) (by decide +kernel) (Nat.le_of_ble_eq_true rfl) ?_
  intro p e s m args below meth c A ls C hP hD hS hl
  have hl : lv_has ls 3 [(0, .int x0), (1, .int x1), (2, .int x2)] := hl
  unfold F_X12_isIn at hF
  have C : cx p s m args meth c cX12_isIn 3 (some .boolean) RX12 D q A := C
  obtain ⟨hx, hb, hr, hml, hown, hts, hlk, hA, hK, hN, hV⟩ := id C
  refine lv_iload_n hx hb dX12_isIn_0 rfl (lv_at hl 0 rfl) ?_
  refine lv_iload_n hx hb dX12_isIn_1 rfl (lv_at hl 1 rfl) ?_
  refine lv_icmp_lt (tgt := 14) hx hb dX12_isIn_2 (by decide) (fun c1 => ?_) (fun c1 => ?_)
  · have hF := op_t hF c1
    refine lv_iconst (v := (0 : Int32)) hx hb dX12_isIn_14 (by decide) ?_
    cases hF
    exact k_zret C (by decide) hP hS dX12_isIn_15
  · have hF := op_f hF c1
    refine lv_iload_n hx hb dX12_isIn_5 rfl (lv_at hl 0 rfl) ?_
    refine lv_iload_n hx hb dX12_isIn_6 rfl (lv_at hl 2 rfl) ?_
    refine lv_icmp_gt (tgt := 14) hx hb dX12_isIn_7 (by decide) (fun c2 => ?_) (fun c2 => ?_)
    · have hF := op_t hF c2
      refine lv_iconst (v := (0 : Int32)) hx hb dX12_isIn_14 (by decide) ?_
      cases hF
      exact k_zret C (by decide) hP hS dX12_isIn_15
    · have hF := op_f hF c2
      refine lv_iconst (v := (1 : Int32)) hx hb dX12_isIn_10 (by decide) ?_
      refine lv_goto (tgt := 15) hx hb dX12_isIn_11 (by decide) ?_
      cases hF
      exact k_zret C (by decide) hP hS dX12_isIn_15

abbrev rm_X12_bitOf : Room := ({ frames := 0, cells := 0, slots := 0, locals := 0 } : Room)
def F_X12_bitOf (x0 : Int32) (x1 : Int32) : Option (Int32) := if ((x0 >>> (x1 &&& 31)) &&& (1 : Int32)) = (1 : Int32) then (some ((1 : Int32))) else (some ((0 : Int32)))
set_option maxRecDepth 100000 in
set_option maxHeartbeats 4000000 in
theorem c_X12_bitOf (l : Launch) (D : va_G) (q : Nat → ClassId) (sz : Nat) (x0 : Int32) (x1 : Int32) {r : Int32} (hF : F_X12_bitOf x0 x1 = some (r)) : Met l yX12_bitOf (Cond.code yX12_bitOf cX12_bitOf 2 (some .boolean) :: TB) rm_X12_bitOf (PC D q [.int x0, .int x1] ([]) sz) ((fun A => QI D A r ([])) (va_A ([]) sz)) 0 0 (va_A ([]) sz) := by
  refine k_met (w0 := []) (Q := fun A => QI D A r ([])) (by decide +kernel) (Nat.le_of_ble_eq_true rfl) ?_
  intro p e s m args below meth c A ls C hP hD hS hl
  have hl : lv_has ls 2 [(0, .int x0), (1, .int x1)] := hl
  unfold F_X12_bitOf at hF
  have C : cx p s m args meth c cX12_bitOf 2 (some .boolean) RX12 D q A := C
  obtain ⟨hx, hb, hr, hml, hown, hts, hlk, hA, hK, hN, hV⟩ := id C
  refine lv_iload_n hx hb dX12_bitOf_0 rfl (lv_at hl 0 rfl) ?_
  refine lv_iload_n hx hb dX12_bitOf_1 rfl (lv_at hl 1 rfl) ?_
  refine lv_ishr hx hb dX12_bitOf_2 ?_
  refine lv_iconst (v := (1 : Int32)) hx hb dX12_bitOf_3 (by decide) ?_
  refine lv_iand hx hb dX12_bitOf_4 ?_
  refine lv_iconst (v := (1 : Int32)) hx hb dX12_bitOf_5 (by decide) ?_
  refine lv_icmp_ne (tgt := 13) hx hb dX12_bitOf_6 (by decide) (fun c1 => ?_) (fun c1 => ?_)
  · have hF := op_f hF c1
    refine lv_iconst (v := (0 : Int32)) hx hb dX12_bitOf_13 (by decide) ?_
    cases hF
    exact k_zret C (by decide) hP hS dX12_bitOf_14
  · have hF := op_t hF c1
    refine lv_iconst (v := (1 : Int32)) hx hb dX12_bitOf_9 (by decide) ?_
    refine lv_goto (tgt := 14) hx hb dX12_bitOf_10 (by decide) ?_
    cases hF
    exact k_zret C (by decide) hP hS dX12_bitOf_14

abbrev rm_X12_greater : Room := ({ frames := 0, cells := 0, slots := 0, locals := 0 } : Room)
def F_X12_greater (x0 : Int32) (x1 : Int32) : Option (Int32) := if x0 ≤ x1 then (some (x1)) else (some (x0))
set_option maxRecDepth 100000 in
set_option maxHeartbeats 4000000 in
theorem c_X12_greater (l : Launch) (D : va_G) (q : Nat → ClassId) (sz : Nat) (x0 : Int32) (x1 : Int32) {r : Int32} (hF : F_X12_greater x0 x1 = some (r)) : Met l yX12_greater (Cond.code yX12_greater cX12_greater 2 (some .int) :: TB) rm_X12_greater (PC D q [.int x0, .int x1] ([]) sz) ((fun A => QI D A r ([])) (va_A ([]) sz)) 0 0 (va_A ([]) sz) := by
  refine k_met (w0 := []) (Q := fun A => QI D A r ([])) (by decide +kernel) (Nat.le_of_ble_eq_true rfl) ?_
  intro p e s m args below meth c A ls C hP hD hS hl
  have hl : lv_has ls 2 [(0, .int x0), (1, .int x1)] := hl
  unfold F_X12_greater at hF
  have C : cx p s m args meth c cX12_greater 2 (some .int) RX12 D q A := C
  obtain ⟨hx, hb, hr, hml, hown, hts, hlk, hA, hK, hN, hV⟩ := id C
  refine lv_iload_n hx hb dX12_greater_0 rfl (lv_at hl 0 rfl) ?_
  refine lv_iload_n hx hb dX12_greater_1 rfl (lv_at hl 1 rfl) ?_
  refine lv_icmp_le (tgt := 9) hx hb dX12_greater_2 (by decide) (fun c1 => ?_) (fun c1 => ?_)
  · have hF := op_t hF c1
    refine lv_iload_n hx hb dX12_greater_9 rfl (lv_at hl 1 rfl) ?_
    cases hF
    exact k_iret C hP hS dX12_greater_10
  · have hF := op_f hF c1
    refine lv_iload_n hx hb dX12_greater_5 rfl (lv_at hl 0 rfl) ?_
    refine lv_goto (tgt := 10) hx hb dX12_greater_6 (by decide) ?_
    cases hF
    exact k_iret C hP hS dX12_greater_10

abbrev rm_X12_bits : Room := ({ frames := 0, cells := 0, slots := 0, locals := 0 } : Room)
def F_X12_bits_4 (k4 : Int32 × Int32 → Option (Int32)) (x1 : Int32) (x2 : Int32) : Option (Int32) := if x2 = 0 then (some (x1)) else (k4 ((x1 + 1), (x2 &&& (x2 - (1 : Int32)))))
def L_X12_bits_4 (x1 : Int32) (x2 : Int32) : Option (Int32) := lp (fun kz z => F_X12_bits_4 kz z.1 z.2) FU (x1, x2)
def F_X12_bits (x0 : Int32) : Option (Int32) := L_X12_bits_4 (0 : Int32) x0
set_option maxRecDepth 100000 in
set_option maxHeartbeats 4000000 in
theorem b_X12_bits_4 {p : Program} {l : Launch} {e : Env} {s : State} {m : MethodId} {args : Array Value} {below : List Frame} {meth : Method} {c : Code} {D : va_G} {q : Nat → ClassId} {A : Nat → Prop} {r : Int32} (C : cx p s m args meth c cX12_bits 3 (some .int) RX12 D q A) {k4 : Int32 × Int32 → Option (Int32)} (hk4 : ∀ (x1 : Int32) (x2 : Int32), k4 (x1, x2) = some (r) → ∀ (H : Heap) (locs : List Loc) (ls : Array Slot), va_P D vwCl ([]) H → va_D A ([]) → va_S A s.heap H locs → lv_has ls 3 [(1, .int x1), (2, .int x2)] → W p l e rm_X12_bits s m args below meth c H locs 0 0 (MQ below (QI D A r ([])) args s 0 0 A) (F0 m 4 ls [])) {x1 : Int32} {x2 : Int32} (hF : F_X12_bits_4 k4 x1 x2 = some (r)) {H : Heap} {locs : List Loc} (hP : va_P D vwCl ([]) H) (hD : va_D A ([])) (hS : va_S A s.heap H locs) {ls : Array Slot} (hl : lv_has ls 3 [(1, .int x1), (2, .int x2)]) : W p l e rm_X12_bits s m args below meth c H locs 0 0 (MQ below (QI D A r ([])) args s 0 0 A) (F0 m 4 ls []) := by
  unfold F_X12_bits_4 at hF
  obtain ⟨hx, hb, hr, hml, hown, hts, hlk, hA, hK, hN, hV⟩ := id C
  refine lv_iload_n hx hb dX12_bits_4 rfl (lv_at hl 1 rfl) ?_
  refine lv_if_eq (tgt := 20) hx hb dX12_bits_5 (by decide) (fun c1 => ?_) (fun c1 => ?_)
  · have hF := op_t hF c1
    refine lv_iload_n hx hb dX12_bits_20 rfl (lv_at hl 0 rfl) ?_
    cases hF
    exact k_iret C hP hS dX12_bits_21
  · have hF := op_f hF c1
    refine lv_iinc (v := (x1 + 1)) (lv' := [(1, .int (x1 + 1)), (2, .int x2)]) hx hb dX12_bits_8 hl (k := 0) rfl rfl (by decide) rfl (fun ls hl => ?_)
    refine lv_iload_n hx hb dX12_bits_11 rfl (lv_at hl 1 rfl) ?_
    refine lv_iload_n hx hb dX12_bits_12 rfl (lv_at hl 1 rfl) ?_
    refine lv_iconst (v := (1 : Int32)) hx hb dX12_bits_13 (by decide) ?_
    refine lv_isub hx hb dX12_bits_14 ?_
    refine lv_iand hx hb dX12_bits_15 ?_
    refine lv_istore_n (lv' := [(2, .int (x2 &&& (x2 - (1 : Int32)))), (1, .int (x1 + 1))]) hx hb dX12_bits_16 rfl hl (by decide) rfl (fun ls hl => ?_)
    refine lv_goto (tgt := 4) hx hb dX12_bits_17 (by decide) ?_
    exact hk4 (x1 + 1) (x2 &&& (x2 - (1 : Int32))) hF _ _ _ hP hD hS (lv_sub hl [1, 0] rfl)
set_option maxRecDepth 100000 in
set_option maxHeartbeats 4000000 in
theorem l_X12_bits_4 {p : Program} {l : Launch} {e : Env} {s : State} {m : MethodId} {args : Array Value} {below : List Frame} {meth : Method} {c : Code} {D : va_G} {q : Nat → ClassId} {A : Nat → Prop} {r : Int32} (C : cx p s m args meth c cX12_bits 3 (some .int) RX12 D q A) {x1 : Int32} {x2 : Int32} (hF : L_X12_bits_4 x1 x2 = some (r)) : ∀ (H : Heap) (locs : List Loc) (ls : Array Slot), va_P D vwCl ([]) H → va_D A ([]) → va_S A s.heap H locs → lv_has ls 3 [(1, .int x1), (2, .int x2)] → W p l e rm_X12_bits s m args below meth c H locs 0 0 (MQ below (QI D A r ([])) args s 0 0 A) (F0 m 4 ls []) :=
  lp_G _ _ (fun z => ∀ (H : Heap) (locs : List Loc) (ls : Array Slot), va_P D vwCl ([]) H → va_D A ([]) → va_S A s.heap H locs → lv_has ls 3 [(1, .int z.1), (2, .int z.2)] → W p l e rm_X12_bits s m args below meth c H locs 0 0 (MQ below (QI D A r ([])) args s 0 0 A) (F0 m 4 ls [])) (fun kz hkz z hz H locs ls hP hD hS hl => b_X12_bits_4 C (fun x1 x2 hz => hkz (x1, x2) hz) hz hP hD hS hl) FU (x1, x2) hF
set_option maxRecDepth 100000 in
set_option maxHeartbeats 4000000 in
theorem c_X12_bits (l : Launch) (D : va_G) (q : Nat → ClassId) (sz : Nat) (x0 : Int32) {r : Int32} (hF : F_X12_bits x0 = some (r)) : Met l yX12_bits (Cond.code yX12_bits cX12_bits 3 (some .int) :: TB) rm_X12_bits (PC D q [.int x0] ([]) sz) ((fun A => QI D A r ([])) (va_A ([]) sz)) 0 0 (va_A ([]) sz) := by
  refine k_met (w0 := []) (Q := fun A => QI D A r ([])) (by decide +kernel) (Nat.le_of_ble_eq_true rfl) ?_
  intro p e s m args below meth c A ls C hP hD hS hl
  have hl : lv_has ls 3 [(0, .int x0)] := hl
  unfold F_X12_bits at hF
  have C : cx p s m args meth c cX12_bits 3 (some .int) RX12 D q A := C
  obtain ⟨hx, hb, hr, hml, hown, hts, hlk, hA, hK, hN, hV⟩ := id C
  refine lv_iconst (v := (0 : Int32)) hx hb dX12_bits_0 (by decide) ?_
  refine lv_istore_n (lv' := [(1, .int (0 : Int32)), (0, .int x0)]) hx hb dX12_bits_1 rfl hl (by decide) rfl (fun ls hl => ?_)
  refine lv_iload_n hx hb dX12_bits_2 rfl (lv_at hl 1 rfl) ?_
  refine lv_istore_n (lv' := [(2, .int x0), (1, .int (0 : Int32)), (0, .int x0)]) hx hb dX12_bits_3 rfl hl (by decide) rfl (fun ls hl => ?_)
  exact l_X12_bits_4 C hF _ _ _ hP hD hS (lv_sub hl [1, 0] rfl)

abbrev rm_X12_octet : Room := ({ frames := 0, cells := 0, slots := 0, locals := 0 } : Room)
def F_X12_octet (S0 : St) (x1 : Int32) : Option (Int32) := if oob x1 940 then none else some (((S0.2.2.1 1 x1.toNatClampNeg) &&& (255 : Int32)))
set_option maxRecDepth 100000 in
set_option maxHeartbeats 4000000 in
theorem c_X12_octet (l : Launch) (D : va_G) (q : Nat → ClassId) (o0 : Nat) (a0 : Nat → Nat) (S0 : St) (sz : Nat) (x1 : Int32) {r : Int32} (hF : F_X12_octet S0 x1 = some (r)) : Met l yX12_octet (Cond.code yX12_octet cX12_octet 2 (some .int) :: TB) rm_X12_octet (PC D q [.ref o0, .int x1] (fl [g12 q o0 a0 S0]) sz) ((fun A => QI D A r (fl [g12 q o0 a0 S0])) (va_A (fl [g12 q o0 a0 S0]) sz)) 0 0 (va_A (fl [g12 q o0 a0 S0]) sz) := by
  refine k_met (w0 := fl [g12 q o0 a0 S0]) (Q := fun A => QI D A r (fl [g12 q o0 a0 S0])) (by decide +kernel) (Nat.le_of_ble_eq_true rfl) ?_
  intro p e s m args below meth c A ls C hP hD hS hl
  have hl : lv_has ls 2 [(0, .ref o0), (1, .int x1)] := hl
  unfold F_X12_octet at hF
  have C : cx p s m args meth c cX12_octet 2 (some .int) RX12 D q A := C
  obtain ⟨hx, hb, hr, hml, hown, hts, hlk, hA, hK, hN, hV⟩ := id C
  refine lv_aload_n hx hb dX12_octet_0 rfl (lv_at hl 0 rfl) ?_
  refine k_get (v := .ref (a0 2)) C fg_X12_14 hP 0 rfl rfl dX12_octet_1 ?_
  refine lv_iload_n hx hb dX12_octet_4 rfl (lv_at hl 1 rfl) ?_
  obtain ⟨h1, hF⟩ := op_ck hF
  refine k_bld (f := S0.2.2.1 1) C hP 1 rfl h1 dX12_octet_5 ?_
  refine lv_sipush (v := (255 : Int32)) hx hb dX12_octet_6 (by decide) ?_
  refine lv_iand hx hb dX12_octet_9 ?_
  cases hF
  exact k_iret C hP hS dX12_octet_10

abbrev rm_X12_clears : Room := ({ frames := 0, cells := 0, slots := 0, locals := 0 } : Room)
def F_X12_clears_2 (k2 : Int32 × St → Option (St)) (x1 : Int32) (S0 : St) : Option (St) := if (42 : Int32) ≤ x1 then (some (S0)) else (if oob x1 42 then none else nw (sA S0 7 x1 (0 : Int32)) fun U3 => k2 ((x1 + 1), U3))
def L_X12_clears_2 (x1 : Int32) (S0 : St) : Option (St) := lp (fun kz z => F_X12_clears_2 kz z.1 z.2) FU (x1, S0)
def F_X12_clears (S0 : St) : Option (St) := L_X12_clears_2 (0 : Int32) S0
set_option maxRecDepth 100000 in
set_option maxHeartbeats 4000000 in
theorem b_X12_clears_2 {p : Program} {l : Launch} {e : Env} {s : State} {m : MethodId} {args : Array Value} {below : List Frame} {meth : Method} {c : Code} {D : va_G} {q : Nat → ClassId} {A : Nat → Prop} {o0 : Nat} {a0 : Nat → Nat} {T0 : St} (C : cx p s m args meth c cX12_clears 2 none RX12 D q A) {k2 : Int32 × St → Option (St)} (hk2 : ∀ (x1 : Int32) (S0 : St), k2 (x1, S0) = some (T0) → ∀ (H : Heap) (locs : List Loc) (ls : Array Slot), va_P D vwCl (fl [g12 q o0 a0 S0]) H → va_D A (fl [g12 q o0 a0 S0]) → va_S A s.heap H locs → lv_has ls 2 [(0, .ref o0), (1, .int x1)] → W p l e rm_X12_clears s m args below meth c H locs 0 0 (MQ below (QV D A (fl [g12 q o0 a0 T0])) args s 0 0 A) (F0 m 2 ls [])) {x1 : Int32} {S0 : St} (hF : F_X12_clears_2 k2 x1 S0 = some (T0)) {H : Heap} {locs : List Loc} (hP : va_P D vwCl (fl [g12 q o0 a0 S0]) H) (hD : va_D A (fl [g12 q o0 a0 S0])) (hS : va_S A s.heap H locs) {ls : Array Slot} (hl : lv_has ls 2 [(0, .ref o0), (1, .int x1)]) : W p l e rm_X12_clears s m args below meth c H locs 0 0 (MQ below (QV D A (fl [g12 q o0 a0 T0])) args s 0 0 A) (F0 m 2 ls []) := by
  unfold F_X12_clears_2 at hF
  obtain ⟨hx, hb, hr, hml, hown, hts, hlk, hA, hK, hN, hV⟩ := id C
  refine lv_iload_n hx hb dX12_clears_2 rfl (lv_at hl 1 rfl) ?_
  refine lv_bipush (v := (42 : Int32)) hx hb dX12_clears_3 (by decide) ?_
  refine lv_icmp_ge (tgt := 21) hx hb dX12_clears_5 (by decide) (fun c1 => ?_) (fun c1 => ?_)
  · have hF := op_t hF c1
    cases hF
    exact k_vret C hP hS dX12_clears_21
  · have hF := op_f hF c1
    refine lv_aload_n hx hb dX12_clears_8 rfl (lv_at hl 0 rfl) ?_
    refine k_get (v := .ref (a0 8)) C fg_X12_37 hP 0 rfl rfl dX12_clears_9 ?_
    refine lv_iload_n hx hb dX12_clears_12 rfl (lv_at hl 1 rfl) ?_
    refine lv_iconst (v := (0 : Int32)) hx hb dX12_clears_13 (by decide) ?_
    obtain ⟨h2, hF⟩ := op_ck hF
    obtain ⟨U3, e4, hF⟩ := nw_s hF
    refine k_ist (f := S0.2.2.1 7) (W8 := fl [g12 q o0 a0 U3]) C hP hD hS 3 rfl h2 dX12_clears_14 (by rw [e4]; rfl) (fun H locs hP hD hS => ?_)
    refine lv_iinc (v := (x1 + 1)) (lv' := [(1, .int (x1 + 1)), (0, .ref o0)]) hx hb dX12_clears_15 hl (k := 1) rfl rfl (by decide) rfl (fun ls hl => ?_)
    refine lv_goto (tgt := 2) hx hb dX12_clears_18 (by decide) ?_
    exact hk2 (x1 + 1) U3 hF _ _ _ hP hD hS (lv_sub hl [1, 0] rfl)
set_option maxRecDepth 100000 in
set_option maxHeartbeats 4000000 in
theorem l_X12_clears_2 {p : Program} {l : Launch} {e : Env} {s : State} {m : MethodId} {args : Array Value} {below : List Frame} {meth : Method} {c : Code} {D : va_G} {q : Nat → ClassId} {A : Nat → Prop} {o0 : Nat} {a0 : Nat → Nat} {T0 : St} (C : cx p s m args meth c cX12_clears 2 none RX12 D q A) {x1 : Int32} {S0 : St} (hF : L_X12_clears_2 x1 S0 = some (T0)) : ∀ (H : Heap) (locs : List Loc) (ls : Array Slot), va_P D vwCl (fl [g12 q o0 a0 S0]) H → va_D A (fl [g12 q o0 a0 S0]) → va_S A s.heap H locs → lv_has ls 2 [(0, .ref o0), (1, .int x1)] → W p l e rm_X12_clears s m args below meth c H locs 0 0 (MQ below (QV D A (fl [g12 q o0 a0 T0])) args s 0 0 A) (F0 m 2 ls []) :=
  lp_G _ _ (fun z => ∀ (H : Heap) (locs : List Loc) (ls : Array Slot), va_P D vwCl (fl [g12 q o0 a0 z.2]) H → va_D A (fl [g12 q o0 a0 z.2]) → va_S A s.heap H locs → lv_has ls 2 [(0, .ref o0), (1, .int z.1)] → W p l e rm_X12_clears s m args below meth c H locs 0 0 (MQ below (QV D A (fl [g12 q o0 a0 T0])) args s 0 0 A) (F0 m 2 ls [])) (fun kz hkz z hz H locs ls hP hD hS hl => b_X12_clears_2 C (fun x1 S0 hz => hkz (x1, S0) hz) hz hP hD hS hl) FU (x1, S0) hF
set_option maxRecDepth 100000 in
set_option maxHeartbeats 4000000 in
theorem c_X12_clears (l : Launch) (D : va_G) (q : Nat → ClassId) (o0 : Nat) (a0 : Nat → Nat) (S0 : St) (sz : Nat) {T0 : St} (hF : F_X12_clears S0 = some (T0)) : Met l yX12_clears (Cond.code yX12_clears cX12_clears 2 none :: TB) rm_X12_clears (PC D q [.ref o0] (fl [g12 q o0 a0 S0]) sz) ((fun A => QV D A (fl [g12 q o0 a0 T0])) (va_A (fl [g12 q o0 a0 S0]) sz)) 0 0 (va_A (fl [g12 q o0 a0 S0]) sz) := by
  refine k_met (w0 := fl [g12 q o0 a0 S0]) (Q := fun A => QV D A (fl [g12 q o0 a0 T0])) (by decide +kernel) (Nat.le_of_ble_eq_true rfl) ?_
  intro p e s m args below meth c A ls C hP hD hS hl
  have hl : lv_has ls 2 [(0, .ref o0)] := hl
  unfold F_X12_clears at hF
  have C : cx p s m args meth c cX12_clears 2 none RX12 D q A := C
  obtain ⟨hx, hb, hr, hml, hown, hts, hlk, hA, hK, hN, hV⟩ := id C
  refine lv_iconst (v := (0 : Int32)) hx hb dX12_clears_0 (by decide) ?_
  refine lv_istore_n (lv' := [(1, .int (0 : Int32)), (0, .ref o0)]) hx hb dX12_clears_1 rfl hl (by decide) rfl (fun ls hl => ?_)
  exact l_X12_clears_2 C hF _ _ _ hP hD hS (lv_sub hl [1, 0] rfl)

abbrev rm_X12_peek : Room := ({ frames := 0, cells := 0, slots := 0, locals := 0 } : Room)
def F_X12_peek (S0 : St) : Option (Int32) := if (S0.1 3) ≤ (S0.1 4) then (some ((-1 : Int32))) else (if oob (S0.1 4) 940 then none else some (((S0.2.2.1 1 (S0.1 4).toNatClampNeg) &&& (255 : Int32))))
set_option maxRecDepth 100000 in
set_option maxHeartbeats 4000000 in
theorem c_X12_peek (l : Launch) (D : va_G) (q : Nat → ClassId) (o0 : Nat) (a0 : Nat → Nat) (S0 : St) (sz : Nat) {r : Int32} (hF : F_X12_peek S0 = some (r)) : Met l yX12_peek (Cond.code yX12_peek cX12_peek 1 (some .int) :: TB) rm_X12_peek (PC D q [.ref o0] (fl [g12 q o0 a0 S0]) sz) ((fun A => QI D A r (fl [g12 q o0 a0 S0])) (va_A (fl [g12 q o0 a0 S0]) sz)) 0 0 (va_A (fl [g12 q o0 a0 S0]) sz) := by
  refine k_met (w0 := fl [g12 q o0 a0 S0]) (Q := fun A => QI D A r (fl [g12 q o0 a0 S0])) (by decide +kernel) (Nat.le_of_ble_eq_true rfl) ?_
  intro p e s m args below meth c A ls C hP hD hS hl
  have hl : lv_has ls 1 [(0, .ref o0)] := hl
  unfold F_X12_peek at hF
  have C : cx p s m args meth c cX12_peek 1 (some .int) RX12 D q A := C
  obtain ⟨hx, hb, hr, hml, hown, hts, hlk, hA, hK, hN, hV⟩ := id C
  refine lv_aload_n hx hb dX12_peek_0 rfl (lv_at hl 0 rfl) ?_
  refine k_get (v := .int (S0.1 4)) C fg_X12_21 hP 0 rfl rfl dX12_peek_1 ?_
  refine lv_aload_n hx hb dX12_peek_4 rfl (lv_at hl 0 rfl) ?_
  refine k_get (v := .int (S0.1 3)) C fg_X12_18 hP 0 rfl rfl dX12_peek_5 ?_
  refine lv_icmp_ge (tgt := 27) hx hb dX12_peek_8 (by decide) (fun c1 => ?_) (fun c1 => ?_)
  · have hF := op_t hF c1
    refine lv_iconst (v := (-1 : Int32)) hx hb dX12_peek_27 (by decide) ?_
    cases hF
    exact k_iret C hP hS dX12_peek_28
  · have hF := op_f hF c1
    refine lv_aload_n hx hb dX12_peek_11 rfl (lv_at hl 0 rfl) ?_
    refine k_get (v := .ref (a0 2)) C fg_X12_14 hP 0 rfl rfl dX12_peek_12 ?_
    refine lv_aload_n hx hb dX12_peek_15 rfl (lv_at hl 0 rfl) ?_
    refine k_get (v := .int (S0.1 4)) C fg_X12_21 hP 0 rfl rfl dX12_peek_16 ?_
    obtain ⟨h2, hF⟩ := op_ck hF
    refine k_bld (f := S0.2.2.1 1) C hP 1 rfl h2 dX12_peek_19 ?_
    refine lv_sipush (v := (255 : Int32)) hx hb dX12_peek_20 (by decide) ?_
    refine lv_iand hx hb dX12_peek_23 ?_
    refine lv_goto (tgt := 28) hx hb dX12_peek_24 (by decide) ?_
    cases hF
    exact k_iret C hP hS dX12_peek_28

abbrev rm_X12_isSmall : Room := ({ frames := 0, cells := 0, slots := 0, locals := 0 } : Room)
def F_X12_isSmall (x0 : Int32) : Option (Int32) := if x0 < (97 : Int32) then (some ((0 : Int32))) else (if (122 : Int32) < x0 then (some ((0 : Int32))) else (some ((1 : Int32))))
set_option maxRecDepth 100000 in
set_option maxHeartbeats 4000000 in
theorem c_X12_isSmall (l : Launch) (D : va_G) (q : Nat → ClassId) (sz : Nat) (x0 : Int32) {r : Int32} (hF : F_X12_isSmall x0 = some (r)) : Met l yX12_isSmall (Cond.code yX12_isSmall cX12_isSmall 1 (some .boolean) :: TB) rm_X12_isSmall (PC D q [.int x0] ([]) sz) ((fun A => QI D A r ([])) (va_A ([]) sz)) 0 0 (va_A ([]) sz) := by
  refine k_met (w0 := []) (Q := fun A => QI D A r ([])) (by decide +kernel) (Nat.le_of_ble_eq_true rfl) ?_
  intro p e s m args below meth c A ls C hP hD hS hl
  have hl : lv_has ls 1 [(0, .int x0)] := hl
  unfold F_X12_isSmall at hF
  have C : cx p s m args meth c cX12_isSmall 1 (some .boolean) RX12 D q A := C
  obtain ⟨hx, hb, hr, hml, hown, hts, hlk, hA, hK, hN, hV⟩ := id C
  refine lv_iload_n hx hb dX12_isSmall_0 rfl (lv_at hl 0 rfl) ?_
  refine lv_bipush (v := (97 : Int32)) hx hb dX12_isSmall_1 (by decide) ?_
  refine lv_icmp_lt (tgt := 16) hx hb dX12_isSmall_3 (by decide) (fun c1 => ?_) (fun c1 => ?_)
  · have hF := op_t hF c1
    refine lv_iconst (v := (0 : Int32)) hx hb dX12_isSmall_16 (by decide) ?_
    cases hF
    exact k_zret C (by decide) hP hS dX12_isSmall_17
  · have hF := op_f hF c1
    refine lv_iload_n hx hb dX12_isSmall_6 rfl (lv_at hl 0 rfl) ?_
    refine lv_bipush (v := (122 : Int32)) hx hb dX12_isSmall_7 (by decide) ?_
    refine lv_icmp_gt (tgt := 16) hx hb dX12_isSmall_9 (by decide) (fun c2 => ?_) (fun c2 => ?_)
    · have hF := op_t hF c2
      refine lv_iconst (v := (0 : Int32)) hx hb dX12_isSmall_16 (by decide) ?_
      cases hF
      exact k_zret C (by decide) hP hS dX12_isSmall_17
    · have hF := op_f hF c2
      refine lv_iconst (v := (1 : Int32)) hx hb dX12_isSmall_12 (by decide) ?_
      refine lv_goto (tgt := 17) hx hb dX12_isSmall_13 (by decide) ?_
      cases hF
      exact k_zret C (by decide) hP hS dX12_isSmall_17

abbrev rm_X12_isDigit : Room := ({ frames := 0, cells := 0, slots := 0, locals := 0 } : Room)
def F_X12_isDigit (x0 : Int32) : Option (Int32) := if x0 < (48 : Int32) then (some ((0 : Int32))) else (if (57 : Int32) < x0 then (some ((0 : Int32))) else (some ((1 : Int32))))
set_option maxRecDepth 100000 in
set_option maxHeartbeats 4000000 in
theorem c_X12_isDigit (l : Launch) (D : va_G) (q : Nat → ClassId) (sz : Nat) (x0 : Int32) {r : Int32} (hF : F_X12_isDigit x0 = some (r)) : Met l yX12_isDigit (Cond.code yX12_isDigit cX12_isDigit 1 (some .boolean) :: TB) rm_X12_isDigit (PC D q [.int x0] ([]) sz) ((fun A => QI D A r ([])) (va_A ([]) sz)) 0 0 (va_A ([]) sz) := by
  refine k_met (w0 := []) (Q := fun A => QI D A r ([])) (by decide +kernel) (Nat.le_of_ble_eq_true rfl) ?_
  intro p e s m args below meth c A ls C hP hD hS hl
  have hl : lv_has ls 1 [(0, .int x0)] := hl
  unfold F_X12_isDigit at hF
  have C : cx p s m args meth c cX12_isDigit 1 (some .boolean) RX12 D q A := C
  obtain ⟨hx, hb, hr, hml, hown, hts, hlk, hA, hK, hN, hV⟩ := id C
  refine lv_iload_n hx hb dX12_isDigit_0 rfl (lv_at hl 0 rfl) ?_
  refine lv_bipush (v := (48 : Int32)) hx hb dX12_isDigit_1 (by decide) ?_
  refine lv_icmp_lt (tgt := 16) hx hb dX12_isDigit_3 (by decide) (fun c1 => ?_) (fun c1 => ?_)
  · have hF := op_t hF c1
    refine lv_iconst (v := (0 : Int32)) hx hb dX12_isDigit_16 (by decide) ?_
    cases hF
    exact k_zret C (by decide) hP hS dX12_isDigit_17
  · have hF := op_f hF c1
    refine lv_iload_n hx hb dX12_isDigit_6 rfl (lv_at hl 0 rfl) ?_
    refine lv_bipush (v := (57 : Int32)) hx hb dX12_isDigit_7 (by decide) ?_
    refine lv_icmp_gt (tgt := 16) hx hb dX12_isDigit_9 (by decide) (fun c2 => ?_) (fun c2 => ?_)
    · have hF := op_t hF c2
      refine lv_iconst (v := (0 : Int32)) hx hb dX12_isDigit_16 (by decide) ?_
      cases hF
      exact k_zret C (by decide) hP hS dX12_isDigit_17
    · have hF := op_f hF c2
      refine lv_iconst (v := (1 : Int32)) hx hb dX12_isDigit_12 (by decide) ?_
      refine lv_goto (tgt := 17) hx hb dX12_isDigit_13 (by decide) ?_
      cases hF
      exact k_zret C (by decide) hP hS dX12_isDigit_17

abbrev rm_X12_next : Room := ({ frames := 1, cells := 0, slots := 0, locals := 20 } : Room)
def F_X12_next_320 (S0 : St) : Option (St) := nw (sI S0 11 (4 : Int32)) fun U1 => some (U1)
def F_X12_next_317 (x2 : Int32) (s1 : Int32) (s2 : Int32) (S0 : St) : Option (St) := if s1 ≤ s2 then (if x2 = 0 then (nw (sI S0 11 (2 : Int32)) fun U3 => some (U3)) else (nw (sI S0 11 (1 : Int32)) fun U5 => some (U5))) else (F_X12_next_320 S0)
def F_X12_next_275 (k181 : Int32 × Int32 × St → Option (St)) (x2 : Int32) (x3 : Int32) (S0 : St) : Option (St) := nw (sI S0 13 ((S0.1 13) + (1 : Int32))) fun U1 => nw (sI U1 4 ((U1.1 4) + (1 : Int32))) fun U3 => k181 (x2, x3, U3)
def F_X12_next_248 (k181 : Int32 × Int32 × St → Option (St)) (x2 : Int32) (x3 : Int32) (S0 : St) : Option (St) := if (3 : Int32) ≤ (S0.1 13) then (F_X12_next_275 k181 x2 x3 S0) else (ob1 (F_X12_peek S0) fun r3 => nw (sI S0 14 ((((10 : Int32) * (S0.1 14)) + r3) - (48 : Int32))) fun U4 => F_X12_next_275 k181 x2 x3 U4)
def F_X12_next_221 (k181 : Int32 × Int32 × St → Option (St)) (x2 : Int32) (s0 : Int32) (S0 : St) : Option (St) := if (7 : Int32) ≤ (S0.1 13) then (F_X12_next_248 k181 x2 s0 S0) else (ob1 (F_X12_peek S0) fun r3 => nw (sL S0 17 (((S0.2.1 17) <<< ((8 : Int32).toInt64 &&& 63)) ||| r3.toInt64)) fun U4 => F_X12_next_248 k181 x2 s0 U4)
def F_X12_next_220 (k181 : Int32 × Int32 × St → Option (St)) (x2 : Int32) (S0 : St) : Option (St) := F_X12_next_221 k181 x2 (0 : Int32) S0
def F_X12_next_201 (k181 : Int32 × Int32 × St → Option (St)) (x2 : Int32) (x3 : Int32) (S0 : St) : Option (St) := if x3 = 0 then (F_X12_next_220 k181 x2 S0) else (ob1 (F_X12_peek S0) fun r3 => ob1 (F_X12_isSmall r3) fun r5 => if r5 = x2 then (F_X12_next_221 k181 x2 (1 : Int32) S0) else (F_X12_next_220 k181 x2 S0))
def F_X12_next_181 (k181 : Int32 × Int32 × St → Option (St)) (x2 : Int32) (x3 : Int32) (S0 : St) : Option (St) := ob1 (F_X12_peek S0) fun r2 => ob1 (F_X12_isSmall r2) fun r4 => if r4 = 0 then (ob1 (F_X12_peek S0) fun r7 => ob1 (F_X12_isDigit r7) fun r9 => if r9 = 0 then (if x3 = 0 then (F_X12_next_320 S0) else (if x2 = 0 then (F_X12_next_317 x2 (S0.1 13) (3 : Int32) S0) else (F_X12_next_317 x2 (S0.1 13) (7 : Int32) S0))) else (F_X12_next_201 k181 x2 x3 S0)) else (F_X12_next_201 k181 x2 x3 S0)
def L_X12_next_181 (x2 : Int32) (x3 : Int32) (S0 : St) : Option (St) := lp (fun kz z => F_X12_next_181 kz z.1 z.2.1 z.2.2) FU (x2, x3, S0)
def F_X12_next_164 (x1 : Int32) (S0 : St) : Option (St) := ob1 (F_X12_isSmall x1) fun r2 => nw (sL S0 17 (0 : Int64)) fun U3 => nw (sI U3 14 (0 : Int32)) fun U5 => L_X12_next_181 r2 (1 : Int32) U5
def F_X12_next_145 (x1 : Int32) (s1 : Int32) (S0 : St) : Option (St) := nw (sI S0 11 s1) fun U1 => nw (sI U1 14 x1) fun U3 => nw (sI U3 4 ((U3.1 4) + (1 : Int32))) fun U5 => some (U5)
def F_X12_next_144 (x1 : Int32) (S0 : St) : Option (St) := F_X12_next_145 x1 (4 : Int32) S0
def F_X12_next_140 (x1 : Int32) (S0 : St) : Option (St) := F_X12_next_145 x1 (3 : Int32) S0
def F_X12_next_80 (S0 : St) : Option (St) := ob1 (F_X12_peek S0) fun r2 => if 0 ≤ r2 then (ob1 (F_X12_isSmall r2) fun r5 => if r5 = 0 then (ob1 (F_X12_isDigit r2) fun r8 => if r8 = 0 then (if r2 = (59 : Int32) then (F_X12_next_140 r2 S0) else (if r2 = (40 : Int32) then (F_X12_next_140 r2 S0) else (if r2 = (41 : Int32) then (F_X12_next_140 r2 S0) else (if r2 < (60 : Int32) then (F_X12_next_144 r2 S0) else (if (62 : Int32) < r2 then (F_X12_next_144 r2 S0) else (F_X12_next_140 r2 S0)))))) else (F_X12_next_164 r2 S0)) else (F_X12_next_164 r2 S0)) else (nw (sI S0 11 (0 : Int32)) fun U15 => some (U15))
def F_X12_next_18 (k0 : St → Option (St)) (S0 : St) : Option (St) := nw (sI S0 4 ((S0.1 4) + (1 : Int32))) fun U1 => k0 U1
def F_X12_next_0 (k0 : St → Option (St)) (S0 : St) : Option (St) := ob1 (F_X12_peek S0) fun r2 => if r2 = (32 : Int32) then (F_X12_next_18 k0 S0) else (ob1 (F_X12_peek S0) fun r5 => if r5 = (10 : Int32) then (F_X12_next_18 k0 S0) else (nw (sI S0 12 (S0.1 4)) fun U7 => nw (sI U7 13 (0 : Int32)) fun U9 => if (U9.1 3) ≤ (U9.1 5) then (F_X12_next_80 U9) else (if (U9.1 4) < (U9.1 5) then (F_X12_next_80 U9) else (nw (sI U9 12 (U9.1 5)) fun U13 => nw (sI U13 11 (4 : Int32)) fun U15 => some (U15)))))
def L_X12_next_0 (S0 : St) : Option (St) := lp (fun kz z => F_X12_next_0 kz z) FU S0
def F_X12_next (S0 : St) : Option (St) := L_X12_next_0 S0
set_option maxRecDepth 100000 in
set_option maxHeartbeats 4000000 in
theorem b_X12_next_320 {p : Program} {l : Launch} {e : Env} {s : State} {m : MethodId} {args : Array Value} {below : List Frame} {meth : Method} {c : Code} {D : va_G} {q : Nat → ClassId} {A : Nat → Prop} {o0 : Nat} {a0 : Nat → Nat} {T0 : St} (C : cx p s m args meth c cX12_next 4 none RX12 D q A) {S0 : St} (hF : F_X12_next_320 S0 = some (T0)) {H : Heap} {locs : List Loc} (hP : va_P D vwCl (fl [g12 q o0 a0 S0]) H) (hD : va_D A (fl [g12 q o0 a0 S0])) (hS : va_S A s.heap H locs) {ls : Array Slot} (hl : lv_has ls 4 []) : W p l e rm_X12_next s m args below meth c H locs 0 0 (MQ below (QV D A (fl [g12 q o0 a0 T0])) args s 0 0 A) (F0 m 320 ls [.ref o0]) := by
  unfold F_X12_next_320 at hF
  obtain ⟨hx, hb, hr, hml, hown, hts, hlk, hA, hK, hN, hV⟩ := id C
  refine lv_iconst (v := (4 : Int32)) hx hb dX12_next_320 (by decide) ?_
  refine lv_goto (tgt := 333) hx hb dX12_next_321 (by decide) ?_
  obtain ⟨U1, e2, hF⟩ := nw_s hF
  refine k_put (W8 := fl [g12 q o0 a0 U1]) C fp_X12_193 hP hD hS 0 rfl rfl rfl (Nat.le_of_ble_eq_true rfl) dX12_next_333 (by rw [e2]; rfl) (fun H locs hP hD hS => ?_)
  cases hF
  exact k_vret C hP hS dX12_next_336
set_option maxRecDepth 100000 in
set_option maxHeartbeats 4000000 in
theorem b_X12_next_317 {p : Program} {l : Launch} {e : Env} {s : State} {m : MethodId} {args : Array Value} {below : List Frame} {meth : Method} {c : Code} {D : va_G} {q : Nat → ClassId} {A : Nat → Prop} {o0 : Nat} {a0 : Nat → Nat} {T0 : St} (C : cx p s m args meth c cX12_next 4 none RX12 D q A) {x2 : Int32} {s1 : Int32} {s2 : Int32} {S0 : St} (hF : F_X12_next_317 x2 s1 s2 S0 = some (T0)) {H : Heap} {locs : List Loc} (hP : va_P D vwCl (fl [g12 q o0 a0 S0]) H) (hD : va_D A (fl [g12 q o0 a0 S0])) (hS : va_S A s.heap H locs) {ls : Array Slot} (hl : lv_has ls 4 [(2, .int x2)]) : W p l e rm_X12_next s m args below meth c H locs 0 0 (MQ below (QV D A (fl [g12 q o0 a0 T0])) args s 0 0 A) (F0 m 317 ls [.int s2, .int s1, .ref o0]) := by
  unfold F_X12_next_317 at hF
  obtain ⟨hx, hb, hr, hml, hown, hts, hlk, hA, hK, hN, hV⟩ := id C
  refine lv_icmp_le (tgt := 324) hx hb dX12_next_317 (by decide) (fun c1 => ?_) (fun c1 => ?_)
  · have hF := op_t hF c1
    refine lv_iload_n hx hb dX12_next_324 rfl (lv_at hl 0 rfl) ?_
    refine lv_if_eq (tgt := 332) hx hb dX12_next_325 (by decide) (fun c2 => ?_) (fun c2 => ?_)
    · have hF := op_t hF c2
      refine lv_iconst (v := (2 : Int32)) hx hb dX12_next_332 (by decide) ?_
      obtain ⟨U3, e4, hF⟩ := nw_s hF
      refine k_put (W8 := fl [g12 q o0 a0 U3]) C fp_X12_193 hP hD hS 0 rfl rfl rfl (Nat.le_of_ble_eq_true rfl) dX12_next_333 (by rw [e4]; rfl) (fun H locs hP hD hS => ?_)
      cases hF
      exact k_vret C hP hS dX12_next_336
    · have hF := op_f hF c2
      refine lv_iconst (v := (1 : Int32)) hx hb dX12_next_328 (by decide) ?_
      refine lv_goto (tgt := 333) hx hb dX12_next_329 (by decide) ?_
      obtain ⟨U5, e6, hF⟩ := nw_s hF
      refine k_put (W8 := fl [g12 q o0 a0 U5]) C fp_X12_193 hP hD hS 0 rfl rfl rfl (Nat.le_of_ble_eq_true rfl) dX12_next_333 (by rw [e6]; rfl) (fun H locs hP hD hS => ?_)
      cases hF
      exact k_vret C hP hS dX12_next_336
  · have hF := op_f hF c1
    exact b_X12_next_320 C hF hP hD hS (lv_sub hl [] rfl)
set_option maxRecDepth 100000 in
set_option maxHeartbeats 4000000 in
theorem b_X12_next_275 {p : Program} {l : Launch} {e : Env} {s : State} {m : MethodId} {args : Array Value} {below : List Frame} {meth : Method} {c : Code} {D : va_G} {q : Nat → ClassId} {A : Nat → Prop} {o0 : Nat} {a0 : Nat → Nat} {T0 : St} (C : cx p s m args meth c cX12_next 4 none RX12 D q A) {k181 : Int32 × Int32 × St → Option (St)} (hk181 : ∀ (x2 : Int32) (x3 : Int32) (S0 : St), k181 (x2, x3, S0) = some (T0) → ∀ (H : Heap) (locs : List Loc) (ls : Array Slot), va_P D vwCl (fl [g12 q o0 a0 S0]) H → va_D A (fl [g12 q o0 a0 S0]) → va_S A s.heap H locs → lv_has ls 4 [(0, .ref o0), (2, .int x2), (3, .int x3)] → W p l e rm_X12_next s m args below meth c H locs 0 0 (MQ below (QV D A (fl [g12 q o0 a0 T0])) args s 0 0 A) (F0 m 181 ls [])) {x2 : Int32} {x3 : Int32} {S0 : St} (hF : F_X12_next_275 k181 x2 x3 S0 = some (T0)) {H : Heap} {locs : List Loc} (hP : va_P D vwCl (fl [g12 q o0 a0 S0]) H) (hD : va_D A (fl [g12 q o0 a0 S0])) (hS : va_S A s.heap H locs) {ls : Array Slot} (hl : lv_has ls 4 [(0, .ref o0), (2, .int x2), (3, .int x3)]) : W p l e rm_X12_next s m args below meth c H locs 0 0 (MQ below (QV D A (fl [g12 q o0 a0 T0])) args s 0 0 A) (F0 m 275 ls []) := by
  unfold F_X12_next_275 at hF
  obtain ⟨hx, hb, hr, hml, hown, hts, hlk, hA, hK, hN, hV⟩ := id C
  refine lv_aload_n hx hb dX12_next_275 rfl (lv_at hl 0 rfl) ?_
  refine lv_dup hx hb dX12_next_276 rfl ?_
  refine k_get (v := .int (S0.1 13)) C fg_X12_190 hP 0 rfl rfl dX12_next_277 ?_
  refine lv_iconst (v := (1 : Int32)) hx hb dX12_next_280 (by decide) ?_
  refine lv_iadd hx hb dX12_next_281 ?_
  obtain ⟨U1, e2, hF⟩ := nw_s hF
  refine k_put (W8 := fl [g12 q o0 a0 U1]) C fp_X12_190 hP hD hS 0 rfl rfl rfl (Nat.le_of_ble_eq_true rfl) dX12_next_282 (by rw [e2]; rfl) (fun H locs hP hD hS => ?_)
  refine lv_aload_n hx hb dX12_next_285 rfl (lv_at hl 0 rfl) ?_
  refine lv_dup hx hb dX12_next_286 rfl ?_
  refine k_get (v := .int (U1.1 4)) C fg_X12_21 hP 0 rfl rfl dX12_next_287 ?_
  refine lv_iconst (v := (1 : Int32)) hx hb dX12_next_290 (by decide) ?_
  refine lv_iadd hx hb dX12_next_291 ?_
  obtain ⟨U3, e4, hF⟩ := nw_s hF
  refine k_put (W8 := fl [g12 q o0 a0 U3]) C fp_X12_21 hP hD hS 0 rfl rfl rfl (Nat.le_of_ble_eq_true rfl) dX12_next_292 (by rw [e4]; rfl) (fun H locs hP hD hS => ?_)
  refine lv_goto (tgt := 181) hx hb dX12_next_295 (by decide) ?_
  exact hk181 x2 x3 U3 hF _ _ _ hP hD hS (lv_sub hl [0, 1, 2] rfl)
set_option maxRecDepth 100000 in
set_option maxHeartbeats 4000000 in
theorem b_X12_next_248 {p : Program} {l : Launch} {e : Env} {s : State} {m : MethodId} {args : Array Value} {below : List Frame} {meth : Method} {c : Code} {D : va_G} {q : Nat → ClassId} {A : Nat → Prop} {o0 : Nat} {a0 : Nat → Nat} {T0 : St} (C : cx p s m args meth c cX12_next 4 none RX12 D q A) {k181 : Int32 × Int32 × St → Option (St)} (hk181 : ∀ (x2 : Int32) (x3 : Int32) (S0 : St), k181 (x2, x3, S0) = some (T0) → ∀ (H : Heap) (locs : List Loc) (ls : Array Slot), va_P D vwCl (fl [g12 q o0 a0 S0]) H → va_D A (fl [g12 q o0 a0 S0]) → va_S A s.heap H locs → lv_has ls 4 [(0, .ref o0), (2, .int x2), (3, .int x3)] → W p l e rm_X12_next s m args below meth c H locs 0 0 (MQ below (QV D A (fl [g12 q o0 a0 T0])) args s 0 0 A) (F0 m 181 ls [])) {x2 : Int32} {x3 : Int32} {S0 : St} (hF : F_X12_next_248 k181 x2 x3 S0 = some (T0)) {H : Heap} {locs : List Loc} (hP : va_P D vwCl (fl [g12 q o0 a0 S0]) H) (hD : va_D A (fl [g12 q o0 a0 S0])) (hS : va_S A s.heap H locs) {ls : Array Slot} (hl : lv_has ls 4 [(0, .ref o0), (2, .int x2), (3, .int x3)]) : W p l e rm_X12_next s m args below meth c H locs 0 0 (MQ below (QV D A (fl [g12 q o0 a0 T0])) args s 0 0 A) (F0 m 248 ls []) := by
  unfold F_X12_next_248 at hF
  obtain ⟨hx, hb, hr, hml, hown, hts, hlk, hA, hK, hN, hV⟩ := id C
  refine lv_aload_n hx hb dX12_next_248 rfl (lv_at hl 0 rfl) ?_
  refine k_get (v := .int (S0.1 13)) C fg_X12_190 hP 0 rfl rfl dX12_next_249 ?_
  refine lv_iconst (v := (3 : Int32)) hx hb dX12_next_252 (by decide) ?_
  refine lv_icmp_ge (tgt := 275) hx hb dX12_next_253 (by decide) (fun c1 => ?_) (fun c1 => ?_)
  · have hF := op_t hF c1
    exact b_X12_next_275 C hk181 hF hP hD hS (lv_sub hl [0, 1, 2] rfl)
  · have hF := op_f hF c1
    refine lv_aload_n hx hb dX12_next_256 rfl (lv_at hl 0 rfl) ?_
    refine lv_bipush (v := (10 : Int32)) hx hb dX12_next_257 (by decide) ?_
    refine lv_aload_n hx hb dX12_next_259 rfl (lv_at hl 0 rfl) ?_
    refine k_get (v := .int (S0.1 14)) C fg_X12_203 hP 0 rfl rfl dX12_next_260 ?_
    refine lv_imul hx hb dX12_next_263 ?_
    refine lv_aload_n hx hb dX12_next_264 rfl (lv_at hl 0 rfl) ?_
    obtain ⟨r3, hc2, hF⟩ := ob1_s hF
    refine k_isame C (k_rV (As := []) (rest := [.int ((10 : Int32) * (S0.1 14)), .ref o0]) C (c_X12_peek l D q o0 a0 S0 _ hc2) kc_X12_peek ml_X12_183 rfl rfl (by decide) hP hD hS (va_recv hK hP (ci := 12) (q0 := 0) rfl rfl) rfl hl.1 rfl (Nat.le_of_ble_eq_true rfl) dX12_next_265 (by decide)) hP hD hS (fun H locs hP hD hS => ?_)
    refine lv_iadd hx hb dX12_next_268 ?_
    refine lv_bipush (v := (48 : Int32)) hx hb dX12_next_269 (by decide) ?_
    refine lv_isub hx hb dX12_next_271 ?_
    obtain ⟨U4, e5, hF⟩ := nw_s hF
    refine k_put (W8 := fl [g12 q o0 a0 U4]) C fp_X12_203 hP hD hS 0 rfl rfl rfl (Nat.le_of_ble_eq_true rfl) dX12_next_272 (by rw [e5]; rfl) (fun H locs hP hD hS => ?_)
    exact b_X12_next_275 C hk181 hF hP hD hS (lv_sub hl [0, 1, 2] rfl)
set_option maxRecDepth 100000 in
set_option maxHeartbeats 4000000 in
theorem b_X12_next_221 {p : Program} {l : Launch} {e : Env} {s : State} {m : MethodId} {args : Array Value} {below : List Frame} {meth : Method} {c : Code} {D : va_G} {q : Nat → ClassId} {A : Nat → Prop} {o0 : Nat} {a0 : Nat → Nat} {T0 : St} (C : cx p s m args meth c cX12_next 4 none RX12 D q A) {k181 : Int32 × Int32 × St → Option (St)} (hk181 : ∀ (x2 : Int32) (x3 : Int32) (S0 : St), k181 (x2, x3, S0) = some (T0) → ∀ (H : Heap) (locs : List Loc) (ls : Array Slot), va_P D vwCl (fl [g12 q o0 a0 S0]) H → va_D A (fl [g12 q o0 a0 S0]) → va_S A s.heap H locs → lv_has ls 4 [(0, .ref o0), (2, .int x2), (3, .int x3)] → W p l e rm_X12_next s m args below meth c H locs 0 0 (MQ below (QV D A (fl [g12 q o0 a0 T0])) args s 0 0 A) (F0 m 181 ls [])) {x2 : Int32} {s0 : Int32} {S0 : St} (hF : F_X12_next_221 k181 x2 s0 S0 = some (T0)) {H : Heap} {locs : List Loc} (hP : va_P D vwCl (fl [g12 q o0 a0 S0]) H) (hD : va_D A (fl [g12 q o0 a0 S0])) (hS : va_S A s.heap H locs) {ls : Array Slot} (hl : lv_has ls 4 [(0, .ref o0), (2, .int x2)]) : W p l e rm_X12_next s m args below meth c H locs 0 0 (MQ below (QV D A (fl [g12 q o0 a0 T0])) args s 0 0 A) (F0 m 221 ls [.int s0]) := by
  unfold F_X12_next_221 at hF
  obtain ⟨hx, hb, hr, hml, hown, hts, hlk, hA, hK, hN, hV⟩ := id C
  refine lv_istore_n (lv' := [(3, .int s0), (0, .ref o0), (2, .int x2)]) hx hb dX12_next_221 rfl hl (by decide) rfl (fun ls hl => ?_)
  refine lv_aload_n hx hb dX12_next_222 rfl (lv_at hl 1 rfl) ?_
  refine k_get (v := .int (S0.1 13)) C fg_X12_190 hP 0 rfl rfl dX12_next_223 ?_
  refine lv_bipush (v := (7 : Int32)) hx hb dX12_next_226 (by decide) ?_
  refine lv_icmp_ge (tgt := 248) hx hb dX12_next_228 (by decide) (fun c1 => ?_) (fun c1 => ?_)
  · have hF := op_t hF c1
    exact b_X12_next_248 C hk181 hF hP hD hS (lv_sub hl [1, 2, 0] rfl)
  · have hF := op_f hF c1
    refine lv_aload_n hx hb dX12_next_231 rfl (lv_at hl 1 rfl) ?_
    refine lv_aload_n hx hb dX12_next_232 rfl (lv_at hl 1 rfl) ?_
    refine k_get (v := .long (S0.2.1 17)) C fg_X12_206 hP 0 rfl rfl dX12_next_233 ?_
    refine lv_bipush (v := (8 : Int32)) hx hb dX12_next_236 (by decide) ?_
    refine lv_lshl (v := ((S0.2.1 17) <<< ((8 : Int32).toInt64 &&& 63))) hx hb dX12_next_238 rfl ?_
    refine lv_aload_n hx hb dX12_next_239 rfl (lv_at hl 1 rfl) ?_
    obtain ⟨r3, hc2, hF⟩ := ob1_s hF
    refine k_isame C (k_rV (As := []) (rest := [.long ((S0.2.1 17) <<< ((8 : Int32).toInt64 &&& 63)), .ref o0]) C (c_X12_peek l D q o0 a0 S0 _ hc2) kc_X12_peek ml_X12_183 rfl rfl (by decide) hP hD hS (va_recv hK hP (ci := 12) (q0 := 0) rfl rfl) rfl hl.1 rfl (Nat.le_of_ble_eq_true rfl) dX12_next_240 (by decide)) hP hD hS (fun H locs hP hD hS => ?_)
    refine lv_i2l (v := r3.toInt64) hx hb dX12_next_243 rfl ?_
    refine lv_lor hx hb dX12_next_244 ?_
    obtain ⟨U4, e5, hF⟩ := nw_s hF
    refine k_put (W8 := fl [g12 q o0 a0 U4]) C fp_X12_206 hP hD hS 0 rfl rfl rfl (Nat.le_of_ble_eq_true rfl) dX12_next_245 (by rw [e5]; rfl) (fun H locs hP hD hS => ?_)
    exact b_X12_next_248 C hk181 hF hP hD hS (lv_sub hl [1, 2, 0] rfl)
set_option maxRecDepth 100000 in
set_option maxHeartbeats 4000000 in
theorem b_X12_next_220 {p : Program} {l : Launch} {e : Env} {s : State} {m : MethodId} {args : Array Value} {below : List Frame} {meth : Method} {c : Code} {D : va_G} {q : Nat → ClassId} {A : Nat → Prop} {o0 : Nat} {a0 : Nat → Nat} {T0 : St} (C : cx p s m args meth c cX12_next 4 none RX12 D q A) {k181 : Int32 × Int32 × St → Option (St)} (hk181 : ∀ (x2 : Int32) (x3 : Int32) (S0 : St), k181 (x2, x3, S0) = some (T0) → ∀ (H : Heap) (locs : List Loc) (ls : Array Slot), va_P D vwCl (fl [g12 q o0 a0 S0]) H → va_D A (fl [g12 q o0 a0 S0]) → va_S A s.heap H locs → lv_has ls 4 [(0, .ref o0), (2, .int x2), (3, .int x3)] → W p l e rm_X12_next s m args below meth c H locs 0 0 (MQ below (QV D A (fl [g12 q o0 a0 T0])) args s 0 0 A) (F0 m 181 ls [])) {x2 : Int32} {S0 : St} (hF : F_X12_next_220 k181 x2 S0 = some (T0)) {H : Heap} {locs : List Loc} (hP : va_P D vwCl (fl [g12 q o0 a0 S0]) H) (hD : va_D A (fl [g12 q o0 a0 S0])) (hS : va_S A s.heap H locs) {ls : Array Slot} (hl : lv_has ls 4 [(0, .ref o0), (2, .int x2)]) : W p l e rm_X12_next s m args below meth c H locs 0 0 (MQ below (QV D A (fl [g12 q o0 a0 T0])) args s 0 0 A) (F0 m 220 ls []) := by
  unfold F_X12_next_220 at hF
  obtain ⟨hx, hb, hr, hml, hown, hts, hlk, hA, hK, hN, hV⟩ := id C
  refine lv_iconst (v := (0 : Int32)) hx hb dX12_next_220 (by decide) ?_
  exact b_X12_next_221 C hk181 hF hP hD hS (lv_sub hl [0, 1] rfl)
set_option maxRecDepth 100000 in
set_option maxHeartbeats 4000000 in
theorem b_X12_next_201 {p : Program} {l : Launch} {e : Env} {s : State} {m : MethodId} {args : Array Value} {below : List Frame} {meth : Method} {c : Code} {D : va_G} {q : Nat → ClassId} {A : Nat → Prop} {o0 : Nat} {a0 : Nat → Nat} {T0 : St} (C : cx p s m args meth c cX12_next 4 none RX12 D q A) {k181 : Int32 × Int32 × St → Option (St)} (hk181 : ∀ (x2 : Int32) (x3 : Int32) (S0 : St), k181 (x2, x3, S0) = some (T0) → ∀ (H : Heap) (locs : List Loc) (ls : Array Slot), va_P D vwCl (fl [g12 q o0 a0 S0]) H → va_D A (fl [g12 q o0 a0 S0]) → va_S A s.heap H locs → lv_has ls 4 [(0, .ref o0), (2, .int x2), (3, .int x3)] → W p l e rm_X12_next s m args below meth c H locs 0 0 (MQ below (QV D A (fl [g12 q o0 a0 T0])) args s 0 0 A) (F0 m 181 ls [])) {x2 : Int32} {x3 : Int32} {S0 : St} (hF : F_X12_next_201 k181 x2 x3 S0 = some (T0)) {H : Heap} {locs : List Loc} (hP : va_P D vwCl (fl [g12 q o0 a0 S0]) H) (hD : va_D A (fl [g12 q o0 a0 S0])) (hS : va_S A s.heap H locs) {ls : Array Slot} (hl : lv_has ls 4 [(0, .ref o0), (2, .int x2), (3, .int x3)]) : W p l e rm_X12_next s m args below meth c H locs 0 0 (MQ below (QV D A (fl [g12 q o0 a0 T0])) args s 0 0 A) (F0 m 201 ls []) := by
  unfold F_X12_next_201 at hF
  obtain ⟨hx, hb, hr, hml, hown, hts, hlk, hA, hK, hN, hV⟩ := id C
  refine lv_iload_n hx hb dX12_next_201 rfl (lv_at hl 2 rfl) ?_
  refine lv_if_eq (tgt := 220) hx hb dX12_next_202 (by decide) (fun c1 => ?_) (fun c1 => ?_)
  · have hF := op_t hF c1
    exact b_X12_next_220 C hk181 hF hP hD hS (lv_sub hl [0, 1] rfl)
  · have hF := op_f hF c1
    refine lv_aload_n hx hb dX12_next_205 rfl (lv_at hl 0 rfl) ?_
    obtain ⟨r3, hc2, hF⟩ := ob1_s hF
    refine k_isame C (k_rV (As := []) (rest := []) C (c_X12_peek l D q o0 a0 S0 _ hc2) kc_X12_peek ml_X12_183 rfl rfl (by decide) hP hD hS (va_recv hK hP (ci := 12) (q0 := 0) rfl rfl) rfl hl.1 rfl (Nat.le_of_ble_eq_true rfl) dX12_next_206 (by decide)) hP hD hS (fun H locs hP hD hS => ?_)
    obtain ⟨r5, hc4, hF⟩ := ob1_s hF
    refine k_inil C (k_rS (As := [.int r3]) (rest := []) C (c_X12_isSmall l D q _ r3 hc4) kc_X12_isSmall ml_X12_196 rfl rfl (by decide) (fun k x h => by simp at h) (⟨fun i j x y h => by simp at h, fun k x h => by simp at h⟩ : va_D A []) hS rfl hl.1 rfl (Nat.le_of_ble_eq_true rfl) dX12_next_209 (by decide)) hP hD hS (fun H locs hP hD hS => ?_)
    refine lv_iload_n hx hb dX12_next_212 rfl (lv_at hl 1 rfl) ?_
    refine lv_icmp_ne (tgt := 220) hx hb dX12_next_213 (by decide) (fun c6 => ?_) (fun c6 => ?_)
    · have hF := op_f hF c6
      exact b_X12_next_220 C hk181 hF hP hD hS (lv_sub hl [0, 1] rfl)
    · have hF := op_t hF c6
      refine lv_iconst (v := (1 : Int32)) hx hb dX12_next_216 (by decide) ?_
      refine lv_goto (tgt := 221) hx hb dX12_next_217 (by decide) ?_
      exact b_X12_next_221 C hk181 hF hP hD hS (lv_sub hl [0, 1] rfl)
set_option maxRecDepth 100000 in
set_option maxHeartbeats 4000000 in
theorem b_X12_next_181 {p : Program} {l : Launch} {e : Env} {s : State} {m : MethodId} {args : Array Value} {below : List Frame} {meth : Method} {c : Code} {D : va_G} {q : Nat → ClassId} {A : Nat → Prop} {o0 : Nat} {a0 : Nat → Nat} {T0 : St} (C : cx p s m args meth c cX12_next 4 none RX12 D q A) {k181 : Int32 × Int32 × St → Option (St)} (hk181 : ∀ (x2 : Int32) (x3 : Int32) (S0 : St), k181 (x2, x3, S0) = some (T0) → ∀ (H : Heap) (locs : List Loc) (ls : Array Slot), va_P D vwCl (fl [g12 q o0 a0 S0]) H → va_D A (fl [g12 q o0 a0 S0]) → va_S A s.heap H locs → lv_has ls 4 [(0, .ref o0), (2, .int x2), (3, .int x3)] → W p l e rm_X12_next s m args below meth c H locs 0 0 (MQ below (QV D A (fl [g12 q o0 a0 T0])) args s 0 0 A) (F0 m 181 ls [])) {x2 : Int32} {x3 : Int32} {S0 : St} (hF : F_X12_next_181 k181 x2 x3 S0 = some (T0)) {H : Heap} {locs : List Loc} (hP : va_P D vwCl (fl [g12 q o0 a0 S0]) H) (hD : va_D A (fl [g12 q o0 a0 S0])) (hS : va_S A s.heap H locs) {ls : Array Slot} (hl : lv_has ls 4 [(0, .ref o0), (2, .int x2), (3, .int x3)]) : W p l e rm_X12_next s m args below meth c H locs 0 0 (MQ below (QV D A (fl [g12 q o0 a0 T0])) args s 0 0 A) (F0 m 181 ls []) := by
  unfold F_X12_next_181 at hF
  obtain ⟨hx, hb, hr, hml, hown, hts, hlk, hA, hK, hN, hV⟩ := id C
  refine lv_aload_n hx hb dX12_next_181 rfl (lv_at hl 0 rfl) ?_
  obtain ⟨r2, hc1, hF⟩ := ob1_s hF
  refine k_isame C (k_rV (As := []) (rest := []) C (c_X12_peek l D q o0 a0 S0 _ hc1) kc_X12_peek ml_X12_183 rfl rfl (by decide) hP hD hS (va_recv hK hP (ci := 12) (q0 := 0) rfl rfl) rfl hl.1 rfl (Nat.le_of_ble_eq_true rfl) dX12_next_182 (by decide)) hP hD hS (fun H locs hP hD hS => ?_)
  obtain ⟨r4, hc3, hF⟩ := ob1_s hF
  refine k_inil C (k_rS (As := [.int r2]) (rest := []) C (c_X12_isSmall l D q _ r2 hc3) kc_X12_isSmall ml_X12_196 rfl rfl (by decide) (fun k x h => by simp at h) (⟨fun i j x y h => by simp at h, fun k x h => by simp at h⟩ : va_D A []) hS rfl hl.1 rfl (Nat.le_of_ble_eq_true rfl) dX12_next_185 (by decide)) hP hD hS (fun H locs hP hD hS => ?_)
  refine lv_if_ne (tgt := 201) hx hb dX12_next_188 (by decide) (fun c5 => ?_) (fun c5 => ?_)
  · have hF := op_f hF c5
    exact b_X12_next_201 C hk181 hF hP hD hS (lv_sub hl [0, 1, 2] rfl)
  · have hF := op_t hF c5
    refine lv_aload_n hx hb dX12_next_191 rfl (lv_at hl 0 rfl) ?_
    obtain ⟨r7, hc6, hF⟩ := ob1_s hF
    refine k_isame C (k_rV (As := []) (rest := []) C (c_X12_peek l D q o0 a0 S0 _ hc6) kc_X12_peek ml_X12_183 rfl rfl (by decide) hP hD hS (va_recv hK hP (ci := 12) (q0 := 0) rfl rfl) rfl hl.1 rfl (Nat.le_of_ble_eq_true rfl) dX12_next_192 (by decide)) hP hD hS (fun H locs hP hD hS => ?_)
    obtain ⟨r9, hc8, hF⟩ := ob1_s hF
    refine k_inil C (k_rS (As := [.int r7]) (rest := []) C (c_X12_isDigit l D q _ r7 hc8) kc_X12_isDigit ml_X12_200 rfl rfl (by decide) (fun k x h => by simp at h) (⟨fun i j x y h => by simp at h, fun k x h => by simp at h⟩ : va_D A []) hS rfl hl.1 rfl (Nat.le_of_ble_eq_true rfl) dX12_next_195 (by decide)) hP hD hS (fun H locs hP hD hS => ?_)
    refine lv_if_eq (tgt := 298) hx hb dX12_next_198 (by decide) (fun c10 => ?_) (fun c10 => ?_)
    · have hF := op_t hF c10
      refine lv_aload_n hx hb dX12_next_298 rfl (lv_at hl 0 rfl) ?_
      refine lv_iload_n hx hb dX12_next_299 rfl (lv_at hl 2 rfl) ?_
      refine lv_if_eq (tgt := 320) hx hb dX12_next_300 (by decide) (fun c11 => ?_) (fun c11 => ?_)
      · have hF := op_t hF c11
        exact b_X12_next_320 C hF hP hD hS (lv_sub hl [] rfl)
      · have hF := op_f hF c11
        refine lv_aload_n hx hb dX12_next_303 rfl (lv_at hl 0 rfl) ?_
        refine k_get (v := .int (S0.1 13)) C fg_X12_190 hP 0 rfl rfl dX12_next_304 ?_
        refine lv_iload_n hx hb dX12_next_307 rfl (lv_at hl 1 rfl) ?_
        refine lv_if_eq (tgt := 316) hx hb dX12_next_308 (by decide) (fun c12 => ?_) (fun c12 => ?_)
        · have hF := op_t hF c12
          refine lv_iconst (v := (3 : Int32)) hx hb dX12_next_316 (by decide) ?_
          exact b_X12_next_317 C hF hP hD hS (lv_sub hl [1] rfl)
        · have hF := op_f hF c12
          refine lv_bipush (v := (7 : Int32)) hx hb dX12_next_311 (by decide) ?_
          refine lv_goto (tgt := 317) hx hb dX12_next_313 (by decide) ?_
          exact b_X12_next_317 C hF hP hD hS (lv_sub hl [1] rfl)
    · have hF := op_f hF c10
      exact b_X12_next_201 C hk181 hF hP hD hS (lv_sub hl [0, 1, 2] rfl)
set_option maxRecDepth 100000 in
set_option maxHeartbeats 4000000 in
theorem l_X12_next_181 {p : Program} {l : Launch} {e : Env} {s : State} {m : MethodId} {args : Array Value} {below : List Frame} {meth : Method} {c : Code} {D : va_G} {q : Nat → ClassId} {A : Nat → Prop} {o0 : Nat} {a0 : Nat → Nat} {T0 : St} (C : cx p s m args meth c cX12_next 4 none RX12 D q A) {x2 : Int32} {x3 : Int32} {S0 : St} (hF : L_X12_next_181 x2 x3 S0 = some (T0)) : ∀ (H : Heap) (locs : List Loc) (ls : Array Slot), va_P D vwCl (fl [g12 q o0 a0 S0]) H → va_D A (fl [g12 q o0 a0 S0]) → va_S A s.heap H locs → lv_has ls 4 [(0, .ref o0), (2, .int x2), (3, .int x3)] → W p l e rm_X12_next s m args below meth c H locs 0 0 (MQ below (QV D A (fl [g12 q o0 a0 T0])) args s 0 0 A) (F0 m 181 ls []) :=
  lp_G _ _ (fun z => ∀ (H : Heap) (locs : List Loc) (ls : Array Slot), va_P D vwCl (fl [g12 q o0 a0 z.2.2]) H → va_D A (fl [g12 q o0 a0 z.2.2]) → va_S A s.heap H locs → lv_has ls 4 [(0, .ref o0), (2, .int z.1), (3, .int z.2.1)] → W p l e rm_X12_next s m args below meth c H locs 0 0 (MQ below (QV D A (fl [g12 q o0 a0 T0])) args s 0 0 A) (F0 m 181 ls [])) (fun kz hkz z hz H locs ls hP hD hS hl => b_X12_next_181 C (fun x2 x3 S0 hz => hkz (x2, x3, S0) hz) hz hP hD hS hl) FU (x2, x3, S0) hF
set_option maxRecDepth 100000 in
set_option maxHeartbeats 4000000 in
theorem b_X12_next_164 {p : Program} {l : Launch} {e : Env} {s : State} {m : MethodId} {args : Array Value} {below : List Frame} {meth : Method} {c : Code} {D : va_G} {q : Nat → ClassId} {A : Nat → Prop} {o0 : Nat} {a0 : Nat → Nat} {T0 : St} (C : cx p s m args meth c cX12_next 4 none RX12 D q A) {x1 : Int32} {S0 : St} (hF : F_X12_next_164 x1 S0 = some (T0)) {H : Heap} {locs : List Loc} (hP : va_P D vwCl (fl [g12 q o0 a0 S0]) H) (hD : va_D A (fl [g12 q o0 a0 S0])) (hS : va_S A s.heap H locs) {ls : Array Slot} (hl : lv_has ls 4 [(0, .ref o0), (1, .int x1)]) : W p l e rm_X12_next s m args below meth c H locs 0 0 (MQ below (QV D A (fl [g12 q o0 a0 T0])) args s 0 0 A) (F0 m 164 ls []) := by
  unfold F_X12_next_164 at hF
  obtain ⟨hx, hb, hr, hml, hown, hts, hlk, hA, hK, hN, hV⟩ := id C
  refine lv_iload_n hx hb dX12_next_164 rfl (lv_at hl 1 rfl) ?_
  obtain ⟨r2, hc1, hF⟩ := ob1_s hF
  refine k_inil C (k_rS (As := [.int x1]) (rest := []) C (c_X12_isSmall l D q _ x1 hc1) kc_X12_isSmall ml_X12_196 rfl rfl (by decide) (fun k x h => by simp at h) (⟨fun i j x y h => by simp at h, fun k x h => by simp at h⟩ : va_D A []) hS rfl hl.1 rfl (Nat.le_of_ble_eq_true rfl) dX12_next_165 (by decide)) hP hD hS (fun H locs hP hD hS => ?_)
  refine lv_istore_n (lv' := [(2, .int r2), (0, .ref o0), (1, .int x1)]) hx hb dX12_next_168 rfl hl (by decide) rfl (fun ls hl => ?_)
  refine lv_iconst (v := (1 : Int32)) hx hb dX12_next_169 (by decide) ?_
  refine lv_istore_n (lv' := [(3, .int (1 : Int32)), (2, .int r2), (0, .ref o0), (1, .int x1)]) hx hb dX12_next_170 rfl hl (by decide) rfl (fun ls hl => ?_)
  refine lv_aload_n hx hb dX12_next_171 rfl (lv_at hl 2 rfl) ?_
  refine lv_lconst (v := (0 : Int64)) hx hb dX12_next_172 (by decide) ?_
  obtain ⟨U3, e4, hF⟩ := nw_s hF
  refine k_put (W8 := fl [g12 q o0 a0 U3]) C fp_X12_206 hP hD hS 0 rfl rfl rfl (Nat.le_of_ble_eq_true rfl) dX12_next_173 (by rw [e4]; rfl) (fun H locs hP hD hS => ?_)
  refine lv_aload_n hx hb dX12_next_176 rfl (lv_at hl 2 rfl) ?_
  refine lv_iconst (v := (0 : Int32)) hx hb dX12_next_177 (by decide) ?_
  obtain ⟨U5, e6, hF⟩ := nw_s hF
  refine k_put (W8 := fl [g12 q o0 a0 U5]) C fp_X12_203 hP hD hS 0 rfl rfl rfl (Nat.le_of_ble_eq_true rfl) dX12_next_178 (by rw [e6]; rfl) (fun H locs hP hD hS => ?_)
  exact l_X12_next_181 C hF _ _ _ hP hD hS (lv_sub hl [2, 1, 0] rfl)
set_option maxRecDepth 100000 in
set_option maxHeartbeats 4000000 in
theorem b_X12_next_145 {p : Program} {l : Launch} {e : Env} {s : State} {m : MethodId} {args : Array Value} {below : List Frame} {meth : Method} {c : Code} {D : va_G} {q : Nat → ClassId} {A : Nat → Prop} {o0 : Nat} {a0 : Nat → Nat} {T0 : St} (C : cx p s m args meth c cX12_next 4 none RX12 D q A) {x1 : Int32} {s1 : Int32} {S0 : St} (hF : F_X12_next_145 x1 s1 S0 = some (T0)) {H : Heap} {locs : List Loc} (hP : va_P D vwCl (fl [g12 q o0 a0 S0]) H) (hD : va_D A (fl [g12 q o0 a0 S0])) (hS : va_S A s.heap H locs) {ls : Array Slot} (hl : lv_has ls 4 [(0, .ref o0), (1, .int x1)]) : W p l e rm_X12_next s m args below meth c H locs 0 0 (MQ below (QV D A (fl [g12 q o0 a0 T0])) args s 0 0 A) (F0 m 145 ls [.int s1, .ref o0]) := by
  unfold F_X12_next_145 at hF
  obtain ⟨hx, hb, hr, hml, hown, hts, hlk, hA, hK, hN, hV⟩ := id C
  obtain ⟨U1, e2, hF⟩ := nw_s hF
  refine k_put (W8 := fl [g12 q o0 a0 U1]) C fp_X12_193 hP hD hS 0 rfl rfl rfl (Nat.le_of_ble_eq_true rfl) dX12_next_145 (by rw [e2]; rfl) (fun H locs hP hD hS => ?_)
  refine lv_aload_n hx hb dX12_next_148 rfl (lv_at hl 0 rfl) ?_
  refine lv_iload_n hx hb dX12_next_149 rfl (lv_at hl 1 rfl) ?_
  obtain ⟨U3, e4, hF⟩ := nw_s hF
  refine k_put (W8 := fl [g12 q o0 a0 U3]) C fp_X12_203 hP hD hS 0 rfl rfl rfl (Nat.le_of_ble_eq_true rfl) dX12_next_150 (by rw [e4]; rfl) (fun H locs hP hD hS => ?_)
  refine lv_aload_n hx hb dX12_next_153 rfl (lv_at hl 0 rfl) ?_
  refine lv_dup hx hb dX12_next_154 rfl ?_
  refine k_get (v := .int (U3.1 4)) C fg_X12_21 hP 0 rfl rfl dX12_next_155 ?_
  refine lv_iconst (v := (1 : Int32)) hx hb dX12_next_158 (by decide) ?_
  refine lv_iadd hx hb dX12_next_159 ?_
  obtain ⟨U5, e6, hF⟩ := nw_s hF
  refine k_put (W8 := fl [g12 q o0 a0 U5]) C fp_X12_21 hP hD hS 0 rfl rfl rfl (Nat.le_of_ble_eq_true rfl) dX12_next_160 (by rw [e6]; rfl) (fun H locs hP hD hS => ?_)
  cases hF
  exact k_vret C hP hS dX12_next_163
set_option maxRecDepth 100000 in
set_option maxHeartbeats 4000000 in
theorem b_X12_next_144 {p : Program} {l : Launch} {e : Env} {s : State} {m : MethodId} {args : Array Value} {below : List Frame} {meth : Method} {c : Code} {D : va_G} {q : Nat → ClassId} {A : Nat → Prop} {o0 : Nat} {a0 : Nat → Nat} {T0 : St} (C : cx p s m args meth c cX12_next 4 none RX12 D q A) {x1 : Int32} {S0 : St} (hF : F_X12_next_144 x1 S0 = some (T0)) {H : Heap} {locs : List Loc} (hP : va_P D vwCl (fl [g12 q o0 a0 S0]) H) (hD : va_D A (fl [g12 q o0 a0 S0])) (hS : va_S A s.heap H locs) {ls : Array Slot} (hl : lv_has ls 4 [(0, .ref o0), (1, .int x1)]) : W p l e rm_X12_next s m args below meth c H locs 0 0 (MQ below (QV D A (fl [g12 q o0 a0 T0])) args s 0 0 A) (F0 m 144 ls [.ref o0]) := by
  unfold F_X12_next_144 at hF
  obtain ⟨hx, hb, hr, hml, hown, hts, hlk, hA, hK, hN, hV⟩ := id C
  refine lv_iconst (v := (4 : Int32)) hx hb dX12_next_144 (by decide) ?_
  exact b_X12_next_145 C hF hP hD hS (lv_sub hl [0, 1] rfl)
set_option maxRecDepth 100000 in
set_option maxHeartbeats 4000000 in
theorem b_X12_next_140 {p : Program} {l : Launch} {e : Env} {s : State} {m : MethodId} {args : Array Value} {below : List Frame} {meth : Method} {c : Code} {D : va_G} {q : Nat → ClassId} {A : Nat → Prop} {o0 : Nat} {a0 : Nat → Nat} {T0 : St} (C : cx p s m args meth c cX12_next 4 none RX12 D q A) {x1 : Int32} {S0 : St} (hF : F_X12_next_140 x1 S0 = some (T0)) {H : Heap} {locs : List Loc} (hP : va_P D vwCl (fl [g12 q o0 a0 S0]) H) (hD : va_D A (fl [g12 q o0 a0 S0])) (hS : va_S A s.heap H locs) {ls : Array Slot} (hl : lv_has ls 4 [(0, .ref o0), (1, .int x1)]) : W p l e rm_X12_next s m args below meth c H locs 0 0 (MQ below (QV D A (fl [g12 q o0 a0 T0])) args s 0 0 A) (F0 m 140 ls [.ref o0]) := by
  unfold F_X12_next_140 at hF
  obtain ⟨hx, hb, hr, hml, hown, hts, hlk, hA, hK, hN, hV⟩ := id C
  refine lv_iconst (v := (3 : Int32)) hx hb dX12_next_140 (by decide) ?_
  refine lv_goto (tgt := 145) hx hb dX12_next_141 (by decide) ?_
  exact b_X12_next_145 C hF hP hD hS (lv_sub hl [0, 1] rfl)
set_option maxRecDepth 100000 in
set_option maxHeartbeats 4000000 in
theorem b_X12_next_80 {p : Program} {l : Launch} {e : Env} {s : State} {m : MethodId} {args : Array Value} {below : List Frame} {meth : Method} {c : Code} {D : va_G} {q : Nat → ClassId} {A : Nat → Prop} {o0 : Nat} {a0 : Nat → Nat} {T0 : St} (C : cx p s m args meth c cX12_next 4 none RX12 D q A) {S0 : St} (hF : F_X12_next_80 S0 = some (T0)) {H : Heap} {locs : List Loc} (hP : va_P D vwCl (fl [g12 q o0 a0 S0]) H) (hD : va_D A (fl [g12 q o0 a0 S0])) (hS : va_S A s.heap H locs) {ls : Array Slot} (hl : lv_has ls 4 [(0, .ref o0)]) : W p l e rm_X12_next s m args below meth c H locs 0 0 (MQ below (QV D A (fl [g12 q o0 a0 T0])) args s 0 0 A) (F0 m 80 ls []) := by
  unfold F_X12_next_80 at hF
  obtain ⟨hx, hb, hr, hml, hown, hts, hlk, hA, hK, hN, hV⟩ := id C
  refine lv_aload_n hx hb dX12_next_80 rfl (lv_at hl 0 rfl) ?_
  obtain ⟨r2, hc1, hF⟩ := ob1_s hF
  refine k_isame C (k_rV (As := []) (rest := []) C (c_X12_peek l D q o0 a0 S0 _ hc1) kc_X12_peek ml_X12_183 rfl rfl (by decide) hP hD hS (va_recv hK hP (ci := 12) (q0 := 0) rfl rfl) rfl hl.1 rfl (Nat.le_of_ble_eq_true rfl) dX12_next_81 (by decide)) hP hD hS (fun H locs hP hD hS => ?_)
  refine lv_istore_n (lv' := [(1, .int r2), (0, .ref o0)]) hx hb dX12_next_84 rfl hl (by decide) rfl (fun ls hl => ?_)
  refine lv_iload_n hx hb dX12_next_85 rfl (lv_at hl 0 rfl) ?_
  refine lv_if_ge (tgt := 95) hx hb dX12_next_86 (by decide) (fun c3 => ?_) (fun c3 => ?_)
  · have hF := op_t hF c3
    refine lv_iload_n hx hb dX12_next_95 rfl (lv_at hl 0 rfl) ?_
    obtain ⟨r5, hc4, hF⟩ := ob1_s hF
    refine k_inil C (k_rS (As := [.int r2]) (rest := []) C (c_X12_isSmall l D q _ r2 hc4) kc_X12_isSmall ml_X12_196 rfl rfl (by decide) (fun k x h => by simp at h) (⟨fun i j x y h => by simp at h, fun k x h => by simp at h⟩ : va_D A []) hS rfl hl.1 rfl (Nat.le_of_ble_eq_true rfl) dX12_next_96 (by decide)) hP hD hS (fun H locs hP hD hS => ?_)
    refine lv_if_ne (tgt := 164) hx hb dX12_next_99 (by decide) (fun c6 => ?_) (fun c6 => ?_)
    · have hF := op_f hF c6
      exact b_X12_next_164 C hF hP hD hS (lv_sub hl [1, 0] rfl)
    · have hF := op_t hF c6
      refine lv_iload_n hx hb dX12_next_102 rfl (lv_at hl 0 rfl) ?_
      obtain ⟨r8, hc7, hF⟩ := ob1_s hF
      refine k_inil C (k_rS (As := [.int r2]) (rest := []) C (c_X12_isDigit l D q _ r2 hc7) kc_X12_isDigit ml_X12_200 rfl rfl (by decide) (fun k x h => by simp at h) (⟨fun i j x y h => by simp at h, fun k x h => by simp at h⟩ : va_D A []) hS rfl hl.1 rfl (Nat.le_of_ble_eq_true rfl) dX12_next_103 (by decide)) hP hD hS (fun H locs hP hD hS => ?_)
      refine lv_if_ne (tgt := 164) hx hb dX12_next_106 (by decide) (fun c9 => ?_) (fun c9 => ?_)
      · have hF := op_f hF c9
        exact b_X12_next_164 C hF hP hD hS (lv_sub hl [1, 0] rfl)
      · have hF := op_t hF c9
        refine lv_aload_n hx hb dX12_next_109 rfl (lv_at hl 1 rfl) ?_
        refine lv_iload_n hx hb dX12_next_110 rfl (lv_at hl 0 rfl) ?_
        refine lv_bipush (v := (59 : Int32)) hx hb dX12_next_111 (by decide) ?_
        refine lv_icmp_eq (tgt := 140) hx hb dX12_next_113 (by decide) (fun c10 => ?_) (fun c10 => ?_)
        · have hF := op_t hF c10
          exact b_X12_next_140 C hF hP hD hS (lv_sub hl [1, 0] rfl)
        · have hF := op_f hF c10
          refine lv_iload_n hx hb dX12_next_116 rfl (lv_at hl 0 rfl) ?_
          refine lv_bipush (v := (40 : Int32)) hx hb dX12_next_117 (by decide) ?_
          refine lv_icmp_eq (tgt := 140) hx hb dX12_next_119 (by decide) (fun c11 => ?_) (fun c11 => ?_)
          · have hF := op_t hF c11
            exact b_X12_next_140 C hF hP hD hS (lv_sub hl [1, 0] rfl)
          · have hF := op_f hF c11
            refine lv_iload_n hx hb dX12_next_122 rfl (lv_at hl 0 rfl) ?_
            refine lv_bipush (v := (41 : Int32)) hx hb dX12_next_123 (by decide) ?_
            refine lv_icmp_eq (tgt := 140) hx hb dX12_next_125 (by decide) (fun c12 => ?_) (fun c12 => ?_)
            · have hF := op_t hF c12
              exact b_X12_next_140 C hF hP hD hS (lv_sub hl [1, 0] rfl)
            · have hF := op_f hF c12
              refine lv_iload_n hx hb dX12_next_128 rfl (lv_at hl 0 rfl) ?_
              refine lv_bipush (v := (60 : Int32)) hx hb dX12_next_129 (by decide) ?_
              refine lv_icmp_lt (tgt := 144) hx hb dX12_next_131 (by decide) (fun c13 => ?_) (fun c13 => ?_)
              · have hF := op_t hF c13
                exact b_X12_next_144 C hF hP hD hS (lv_sub hl [1, 0] rfl)
              · have hF := op_f hF c13
                refine lv_iload_n hx hb dX12_next_134 rfl (lv_at hl 0 rfl) ?_
                refine lv_bipush (v := (62 : Int32)) hx hb dX12_next_135 (by decide) ?_
                refine lv_icmp_gt (tgt := 144) hx hb dX12_next_137 (by decide) (fun c14 => ?_) (fun c14 => ?_)
                · have hF := op_t hF c14
                  exact b_X12_next_144 C hF hP hD hS (lv_sub hl [1, 0] rfl)
                · have hF := op_f hF c14
                  exact b_X12_next_140 C hF hP hD hS (lv_sub hl [1, 0] rfl)
  · have hF := op_f hF c3
    refine lv_aload_n hx hb dX12_next_89 rfl (lv_at hl 1 rfl) ?_
    refine lv_iconst (v := (0 : Int32)) hx hb dX12_next_90 (by decide) ?_
    obtain ⟨U15, e16, hF⟩ := nw_s hF
    refine k_put (W8 := fl [g12 q o0 a0 U15]) C fp_X12_193 hP hD hS 0 rfl rfl rfl (Nat.le_of_ble_eq_true rfl) dX12_next_91 (by rw [e16]; rfl) (fun H locs hP hD hS => ?_)
    cases hF
    exact k_vret C hP hS dX12_next_94
set_option maxRecDepth 100000 in
set_option maxHeartbeats 4000000 in
theorem b_X12_next_18 {p : Program} {l : Launch} {e : Env} {s : State} {m : MethodId} {args : Array Value} {below : List Frame} {meth : Method} {c : Code} {D : va_G} {q : Nat → ClassId} {A : Nat → Prop} {o0 : Nat} {a0 : Nat → Nat} {T0 : St} (C : cx p s m args meth c cX12_next 4 none RX12 D q A) {k0 : St → Option (St)} (hk0 : ∀ (S0 : St), k0 S0 = some (T0) → ∀ (H : Heap) (locs : List Loc) (ls : Array Slot), va_P D vwCl (fl [g12 q o0 a0 S0]) H → va_D A (fl [g12 q o0 a0 S0]) → va_S A s.heap H locs → lv_has ls 4 [(0, .ref o0)] → W p l e rm_X12_next s m args below meth c H locs 0 0 (MQ below (QV D A (fl [g12 q o0 a0 T0])) args s 0 0 A) (F0 m 0 ls [])) {S0 : St} (hF : F_X12_next_18 k0 S0 = some (T0)) {H : Heap} {locs : List Loc} (hP : va_P D vwCl (fl [g12 q o0 a0 S0]) H) (hD : va_D A (fl [g12 q o0 a0 S0])) (hS : va_S A s.heap H locs) {ls : Array Slot} (hl : lv_has ls 4 [(0, .ref o0)]) : W p l e rm_X12_next s m args below meth c H locs 0 0 (MQ below (QV D A (fl [g12 q o0 a0 T0])) args s 0 0 A) (F0 m 18 ls []) := by
  unfold F_X12_next_18 at hF
  obtain ⟨hx, hb, hr, hml, hown, hts, hlk, hA, hK, hN, hV⟩ := id C
  refine lv_aload_n hx hb dX12_next_18 rfl (lv_at hl 0 rfl) ?_
  refine lv_dup hx hb dX12_next_19 rfl ?_
  refine k_get (v := .int (S0.1 4)) C fg_X12_21 hP 0 rfl rfl dX12_next_20 ?_
  refine lv_iconst (v := (1 : Int32)) hx hb dX12_next_23 (by decide) ?_
  refine lv_iadd hx hb dX12_next_24 ?_
  obtain ⟨U1, e2, hF⟩ := nw_s hF
  refine k_put (W8 := fl [g12 q o0 a0 U1]) C fp_X12_21 hP hD hS 0 rfl rfl rfl (Nat.le_of_ble_eq_true rfl) dX12_next_25 (by rw [e2]; rfl) (fun H locs hP hD hS => ?_)
  refine lv_goto (tgt := 0) hx hb dX12_next_28 (by decide) ?_
  exact hk0 U1 hF _ _ _ hP hD hS (lv_sub hl [0] rfl)
set_option maxRecDepth 100000 in
set_option maxHeartbeats 4000000 in
theorem b_X12_next_0 {p : Program} {l : Launch} {e : Env} {s : State} {m : MethodId} {args : Array Value} {below : List Frame} {meth : Method} {c : Code} {D : va_G} {q : Nat → ClassId} {A : Nat → Prop} {o0 : Nat} {a0 : Nat → Nat} {T0 : St} (C : cx p s m args meth c cX12_next 4 none RX12 D q A) {k0 : St → Option (St)} (hk0 : ∀ (S0 : St), k0 S0 = some (T0) → ∀ (H : Heap) (locs : List Loc) (ls : Array Slot), va_P D vwCl (fl [g12 q o0 a0 S0]) H → va_D A (fl [g12 q o0 a0 S0]) → va_S A s.heap H locs → lv_has ls 4 [(0, .ref o0)] → W p l e rm_X12_next s m args below meth c H locs 0 0 (MQ below (QV D A (fl [g12 q o0 a0 T0])) args s 0 0 A) (F0 m 0 ls [])) {S0 : St} (hF : F_X12_next_0 k0 S0 = some (T0)) {H : Heap} {locs : List Loc} (hP : va_P D vwCl (fl [g12 q o0 a0 S0]) H) (hD : va_D A (fl [g12 q o0 a0 S0])) (hS : va_S A s.heap H locs) {ls : Array Slot} (hl : lv_has ls 4 [(0, .ref o0)]) : W p l e rm_X12_next s m args below meth c H locs 0 0 (MQ below (QV D A (fl [g12 q o0 a0 T0])) args s 0 0 A) (F0 m 0 ls []) := by
  unfold F_X12_next_0 at hF
  obtain ⟨hx, hb, hr, hml, hown, hts, hlk, hA, hK, hN, hV⟩ := id C
  refine lv_aload_n hx hb dX12_next_0 rfl (lv_at hl 0 rfl) ?_
  obtain ⟨r2, hc1, hF⟩ := ob1_s hF
  refine k_isame C (k_rV (As := []) (rest := []) C (c_X12_peek l D q o0 a0 S0 _ hc1) kc_X12_peek ml_X12_183 rfl rfl (by decide) hP hD hS (va_recv hK hP (ci := 12) (q0 := 0) rfl rfl) rfl hl.1 rfl (Nat.le_of_ble_eq_true rfl) dX12_next_1 (by decide)) hP hD hS (fun H locs hP hD hS => ?_)
  refine lv_bipush (v := (32 : Int32)) hx hb dX12_next_4 (by decide) ?_
  refine lv_icmp_eq (tgt := 18) hx hb dX12_next_6 (by decide) (fun c3 => ?_) (fun c3 => ?_)
  · have hF := op_t hF c3
    exact b_X12_next_18 C hk0 hF hP hD hS (lv_sub hl [0] rfl)
  · have hF := op_f hF c3
    refine lv_aload_n hx hb dX12_next_9 rfl (lv_at hl 0 rfl) ?_
    obtain ⟨r5, hc4, hF⟩ := ob1_s hF
    refine k_isame C (k_rV (As := []) (rest := []) C (c_X12_peek l D q o0 a0 S0 _ hc4) kc_X12_peek ml_X12_183 rfl rfl (by decide) hP hD hS (va_recv hK hP (ci := 12) (q0 := 0) rfl rfl) rfl hl.1 rfl (Nat.le_of_ble_eq_true rfl) dX12_next_10 (by decide)) hP hD hS (fun H locs hP hD hS => ?_)
    refine lv_bipush (v := (10 : Int32)) hx hb dX12_next_13 (by decide) ?_
    refine lv_icmp_ne (tgt := 31) hx hb dX12_next_15 (by decide) (fun c6 => ?_) (fun c6 => ?_)
    · have hF := op_f hF c6
      refine lv_aload_n hx hb dX12_next_31 rfl (lv_at hl 0 rfl) ?_
      refine lv_aload_n hx hb dX12_next_32 rfl (lv_at hl 0 rfl) ?_
      refine k_get (v := .int (S0.1 4)) C fg_X12_21 hP 0 rfl rfl dX12_next_33 ?_
      obtain ⟨U7, e8, hF⟩ := nw_s hF
      refine k_put (W8 := fl [g12 q o0 a0 U7]) C fp_X12_187 hP hD hS 0 rfl rfl rfl (Nat.le_of_ble_eq_true rfl) dX12_next_36 (by rw [e8]; rfl) (fun H locs hP hD hS => ?_)
      refine lv_aload_n hx hb dX12_next_39 rfl (lv_at hl 0 rfl) ?_
      refine lv_iconst (v := (0 : Int32)) hx hb dX12_next_40 (by decide) ?_
      obtain ⟨U9, e10, hF⟩ := nw_s hF
      refine k_put (W8 := fl [g12 q o0 a0 U9]) C fp_X12_190 hP hD hS 0 rfl rfl rfl (Nat.le_of_ble_eq_true rfl) dX12_next_41 (by rw [e10]; rfl) (fun H locs hP hD hS => ?_)
      refine lv_aload_n hx hb dX12_next_44 rfl (lv_at hl 0 rfl) ?_
      refine k_get (v := .int (U9.1 3)) C fg_X12_18 hP 0 rfl rfl dX12_next_45 ?_
      refine lv_aload_n hx hb dX12_next_48 rfl (lv_at hl 0 rfl) ?_
      refine k_get (v := .int (U9.1 5)) C fg_X12_24 hP 0 rfl rfl dX12_next_49 ?_
      refine lv_icmp_le (tgt := 80) hx hb dX12_next_52 (by decide) (fun c11 => ?_) (fun c11 => ?_)
      · have hF := op_t hF c11
        exact b_X12_next_80 C hF hP hD hS (lv_sub hl [0] rfl)
      · have hF := op_f hF c11
        refine lv_aload_n hx hb dX12_next_55 rfl (lv_at hl 0 rfl) ?_
        refine k_get (v := .int (U9.1 4)) C fg_X12_21 hP 0 rfl rfl dX12_next_56 ?_
        refine lv_aload_n hx hb dX12_next_59 rfl (lv_at hl 0 rfl) ?_
        refine k_get (v := .int (U9.1 5)) C fg_X12_24 hP 0 rfl rfl dX12_next_60 ?_
        refine lv_icmp_lt (tgt := 80) hx hb dX12_next_63 (by decide) (fun c12 => ?_) (fun c12 => ?_)
        · have hF := op_t hF c12
          exact b_X12_next_80 C hF hP hD hS (lv_sub hl [0] rfl)
        · have hF := op_f hF c12
          refine lv_aload_n hx hb dX12_next_66 rfl (lv_at hl 0 rfl) ?_
          refine lv_aload_n hx hb dX12_next_67 rfl (lv_at hl 0 rfl) ?_
          refine k_get (v := .int (U9.1 5)) C fg_X12_24 hP 0 rfl rfl dX12_next_68 ?_
          obtain ⟨U13, e14, hF⟩ := nw_s hF
          refine k_put (W8 := fl [g12 q o0 a0 U13]) C fp_X12_187 hP hD hS 0 rfl rfl rfl (Nat.le_of_ble_eq_true rfl) dX12_next_71 (by rw [e14]; rfl) (fun H locs hP hD hS => ?_)
          refine lv_aload_n hx hb dX12_next_74 rfl (lv_at hl 0 rfl) ?_
          refine lv_iconst (v := (4 : Int32)) hx hb dX12_next_75 (by decide) ?_
          obtain ⟨U15, e16, hF⟩ := nw_s hF
          refine k_put (W8 := fl [g12 q o0 a0 U15]) C fp_X12_193 hP hD hS 0 rfl rfl rfl (Nat.le_of_ble_eq_true rfl) dX12_next_76 (by rw [e16]; rfl) (fun H locs hP hD hS => ?_)
          cases hF
          exact k_vret C hP hS dX12_next_79
    · have hF := op_t hF c6
      exact b_X12_next_18 C hk0 hF hP hD hS (lv_sub hl [0] rfl)
set_option maxRecDepth 100000 in
set_option maxHeartbeats 4000000 in
theorem l_X12_next_0 {p : Program} {l : Launch} {e : Env} {s : State} {m : MethodId} {args : Array Value} {below : List Frame} {meth : Method} {c : Code} {D : va_G} {q : Nat → ClassId} {A : Nat → Prop} {o0 : Nat} {a0 : Nat → Nat} {T0 : St} (C : cx p s m args meth c cX12_next 4 none RX12 D q A) {S0 : St} (hF : L_X12_next_0 S0 = some (T0)) : ∀ (H : Heap) (locs : List Loc) (ls : Array Slot), va_P D vwCl (fl [g12 q o0 a0 S0]) H → va_D A (fl [g12 q o0 a0 S0]) → va_S A s.heap H locs → lv_has ls 4 [(0, .ref o0)] → W p l e rm_X12_next s m args below meth c H locs 0 0 (MQ below (QV D A (fl [g12 q o0 a0 T0])) args s 0 0 A) (F0 m 0 ls []) :=
  lp_G _ _ (fun z => ∀ (H : Heap) (locs : List Loc) (ls : Array Slot), va_P D vwCl (fl [g12 q o0 a0 z]) H → va_D A (fl [g12 q o0 a0 z]) → va_S A s.heap H locs → lv_has ls 4 [(0, .ref o0)] → W p l e rm_X12_next s m args below meth c H locs 0 0 (MQ below (QV D A (fl [g12 q o0 a0 T0])) args s 0 0 A) (F0 m 0 ls [])) (fun kz hkz z hz H locs ls hP hD hS hl => b_X12_next_0 C (fun S0 hz => hkz S0 hz) hz hP hD hS hl) FU S0 hF
set_option maxRecDepth 100000 in
set_option maxHeartbeats 4000000 in
theorem c_X12_next (l : Launch) (D : va_G) (q : Nat → ClassId) (o0 : Nat) (a0 : Nat → Nat) (S0 : St) (sz : Nat) {T0 : St} (hF : F_X12_next S0 = some (T0)) : Met l yX12_next (Cond.code yX12_next cX12_next 4 none :: TB) rm_X12_next (PC D q [.ref o0] (fl [g12 q o0 a0 S0]) sz) ((fun A => QV D A (fl [g12 q o0 a0 T0])) (va_A (fl [g12 q o0 a0 S0]) sz)) 0 0 (va_A (fl [g12 q o0 a0 S0]) sz) := by
  refine k_met (w0 := fl [g12 q o0 a0 S0]) (Q := fun A => QV D A (fl [g12 q o0 a0 T0])) (by decide +kernel) (Nat.le_of_ble_eq_true rfl) ?_
  intro p e s m args below meth c A ls C hP hD hS hl
  have hl : lv_has ls 4 [(0, .ref o0)] := hl
  unfold F_X12_next at hF
  have C : cx p s m args meth c cX12_next 4 none RX12 D q A := C
  obtain ⟨hx, hb, hr, hml, hown, hts, hlk, hA, hK, hN, hV⟩ := id C
  exact l_X12_next_0 C hF _ _ _ hP hD hS (lv_sub hl [0] rfl)

abbrev rm_X12_bad : Room := ({ frames := 0, cells := 0, slots := 0, locals := 0 } : Room)
def F_X12_bad (S0 : St) (x1 : Int32) : Option (Int32 × St) := nw (sI S0 15 x1) fun U1 => nw (sI U1 16 (U1.1 12)) fun U3 => some ((0 : Int32), U3)
set_option maxRecDepth 100000 in
set_option maxHeartbeats 4000000 in
theorem c_X12_bad (l : Launch) (D : va_G) (q : Nat → ClassId) (o0 : Nat) (a0 : Nat → Nat) (S0 : St) (sz : Nat) (x1 : Int32) {r : Int32} {T0 : St} (hF : F_X12_bad S0 x1 = some (r, T0)) : Met l yX12_bad (Cond.code yX12_bad cX12_bad 2 (some .boolean) :: TB) rm_X12_bad (PC D q [.ref o0, .int x1] (fl [g12 q o0 a0 S0]) sz) ((fun A => QI D A r (fl [g12 q o0 a0 T0])) (va_A (fl [g12 q o0 a0 S0]) sz)) 0 0 (va_A (fl [g12 q o0 a0 S0]) sz) := by
  refine k_met (w0 := fl [g12 q o0 a0 S0]) (Q := fun A => QI D A r (fl [g12 q o0 a0 T0])) (by decide +kernel) (Nat.le_of_ble_eq_true rfl) ?_
  intro p e s m args below meth c A ls C hP hD hS hl
  have hl : lv_has ls 2 [(0, .ref o0), (1, .int x1)] := hl
  unfold F_X12_bad at hF
  have C : cx p s m args meth c cX12_bad 2 (some .boolean) RX12 D q A := C
  obtain ⟨hx, hb, hr, hml, hown, hts, hlk, hA, hK, hN, hV⟩ := id C
  refine lv_aload_n hx hb dX12_bad_0 rfl (lv_at hl 0 rfl) ?_
  refine lv_iload_n hx hb dX12_bad_1 rfl (lv_at hl 1 rfl) ?_
  obtain ⟨U1, e2, hF⟩ := nw_s hF
  refine k_put (W8 := fl [g12 q o0 a0 U1]) C fp_X12_210 hP hD hS 0 rfl rfl rfl (Nat.le_of_ble_eq_true rfl) dX12_bad_2 (by rw [e2]; rfl) (fun H locs hP hD hS => ?_)
  refine lv_aload_n hx hb dX12_bad_5 rfl (lv_at hl 0 rfl) ?_
  refine lv_aload_n hx hb dX12_bad_6 rfl (lv_at hl 0 rfl) ?_
  refine k_get (v := .int (U1.1 12)) C fg_X12_187 hP 0 rfl rfl dX12_bad_7 ?_
  obtain ⟨U3, e4, hF⟩ := nw_s hF
  refine k_put (W8 := fl [g12 q o0 a0 U3]) C fp_X12_213 hP hD hS 0 rfl rfl rfl (Nat.le_of_ble_eq_true rfl) dX12_bad_10 (by rw [e4]; rfl) (fun H locs hP hD hS => ?_)
  refine lv_iconst (v := (0 : Int32)) hx hb dX12_bad_13 (by decide) ?_
  cases hF
  exact k_zret C (by decide) hP hS dX12_bad_14

abbrev rm_X12_isWord : Room := ({ frames := 0, cells := 0, slots := 0, locals := 0 } : Room)
def F_X12_isWord (S0 : St) (x1 : Int64) : Option (Int32) := if (S0.1 11) = (1 : Int32) then (if (lg_cmp (S0.2.1 17) x1) = 0 then (some ((1 : Int32))) else (some ((0 : Int32)))) else (some ((0 : Int32)))
set_option maxRecDepth 100000 in
set_option maxHeartbeats 4000000 in
theorem c_X12_isWord (l : Launch) (D : va_G) (q : Nat → ClassId) (o0 : Nat) (a0 : Nat → Nat) (S0 : St) (sz : Nat) (x1 : Int64) {r : Int32} (hF : F_X12_isWord S0 x1 = some (r)) : Met l yX12_isWord (Cond.code yX12_isWord cX12_isWord 3 (some .boolean) :: TB) rm_X12_isWord (PC D q [.ref o0, .long x1] (fl [g12 q o0 a0 S0]) sz) ((fun A => QI D A r (fl [g12 q o0 a0 S0])) (va_A (fl [g12 q o0 a0 S0]) sz)) 0 0 (va_A (fl [g12 q o0 a0 S0]) sz) := by
  refine k_met (w0 := fl [g12 q o0 a0 S0]) (Q := fun A => QI D A r (fl [g12 q o0 a0 S0])) (by decide +kernel) (Nat.le_of_ble_eq_true rfl) ?_
  intro p e s m args below meth c A ls C hP hD hS hl
  have hl : lv_has ls 3 [(0, .ref o0), (1, .long x1)] := hl
  unfold F_X12_isWord at hF
  have C : cx p s m args meth c cX12_isWord 3 (some .boolean) RX12 D q A := C
  obtain ⟨hx, hb, hr, hml, hown, hts, hlk, hA, hK, hN, hV⟩ := id C
  refine lv_aload_n hx hb dX12_isWord_0 rfl (lv_at hl 0 rfl) ?_
  refine k_get (v := .int (S0.1 11)) C fg_X12_193 hP 0 rfl rfl dX12_isWord_1 ?_
  refine lv_iconst (v := (1 : Int32)) hx hb dX12_isWord_4 (by decide) ?_
  refine lv_icmp_ne (tgt := 21) hx hb dX12_isWord_5 (by decide) (fun c1 => ?_) (fun c1 => ?_)
  · have hF := op_f hF c1
    refine lv_iconst (v := (0 : Int32)) hx hb dX12_isWord_21 (by decide) ?_
    cases hF
    exact k_zret C (by decide) hP hS dX12_isWord_22
  · have hF := op_t hF c1
    refine lv_aload_n hx hb dX12_isWord_8 rfl (lv_at hl 0 rfl) ?_
    refine k_get (v := .long (S0.2.1 17)) C fg_X12_206 hP 0 rfl rfl dX12_isWord_9 ?_
    refine lv_lload_n hx hb dX12_isWord_12 rfl (lv_at hl 1 rfl) ?_
    refine W.lcmp hx hb dX12_isWord_13 ?_
    refine lv_if_ne (tgt := 21) hx hb dX12_isWord_14 (by decide) (fun c2 => ?_) (fun c2 => ?_)
    · have hF := op_f hF c2
      refine lv_iconst (v := (0 : Int32)) hx hb dX12_isWord_21 (by decide) ?_
      cases hF
      exact k_zret C (by decide) hP hS dX12_isWord_22
    · have hF := op_t hF c2
      refine lv_iconst (v := (1 : Int32)) hx hb dX12_isWord_17 (by decide) ?_
      refine lv_goto (tgt := 22) hx hb dX12_isWord_18 (by decide) ?_
      cases hF
      exact k_zret C (by decide) hP hS dX12_isWord_22

abbrev rm_X12_isSign : Room := ({ frames := 0, cells := 0, slots := 0, locals := 0 } : Room)
def F_X12_isSign (S0 : St) (x1 : Int32) : Option (Int32) := if (S0.1 11) = (3 : Int32) then (if (S0.1 14) = x1 then (some ((1 : Int32))) else (some ((0 : Int32)))) else (some ((0 : Int32)))
set_option maxRecDepth 100000 in
set_option maxHeartbeats 4000000 in
theorem c_X12_isSign (l : Launch) (D : va_G) (q : Nat → ClassId) (o0 : Nat) (a0 : Nat → Nat) (S0 : St) (sz : Nat) (x1 : Int32) {r : Int32} (hF : F_X12_isSign S0 x1 = some (r)) : Met l yX12_isSign (Cond.code yX12_isSign cX12_isSign 2 (some .boolean) :: TB) rm_X12_isSign (PC D q [.ref o0, .int x1] (fl [g12 q o0 a0 S0]) sz) ((fun A => QI D A r (fl [g12 q o0 a0 S0])) (va_A (fl [g12 q o0 a0 S0]) sz)) 0 0 (va_A (fl [g12 q o0 a0 S0]) sz) := by
  refine k_met (w0 := fl [g12 q o0 a0 S0]) (Q := fun A => QI D A r (fl [g12 q o0 a0 S0])) (by decide +kernel) (Nat.le_of_ble_eq_true rfl) ?_
  intro p e s m args below meth c A ls C hP hD hS hl
  have hl : lv_has ls 2 [(0, .ref o0), (1, .int x1)] := hl
  unfold F_X12_isSign at hF
  have C : cx p s m args meth c cX12_isSign 2 (some .boolean) RX12 D q A := C
  obtain ⟨hx, hb, hr, hml, hown, hts, hlk, hA, hK, hN, hV⟩ := id C
  refine lv_aload_n hx hb dX12_isSign_0 rfl (lv_at hl 0 rfl) ?_
  refine k_get (v := .int (S0.1 11)) C fg_X12_193 hP 0 rfl rfl dX12_isSign_1 ?_
  refine lv_iconst (v := (3 : Int32)) hx hb dX12_isSign_4 (by decide) ?_
  refine lv_icmp_ne (tgt := 20) hx hb dX12_isSign_5 (by decide) (fun c1 => ?_) (fun c1 => ?_)
  · have hF := op_f hF c1
    refine lv_iconst (v := (0 : Int32)) hx hb dX12_isSign_20 (by decide) ?_
    cases hF
    exact k_zret C (by decide) hP hS dX12_isSign_21
  · have hF := op_t hF c1
    refine lv_aload_n hx hb dX12_isSign_8 rfl (lv_at hl 0 rfl) ?_
    refine k_get (v := .int (S0.1 14)) C fg_X12_203 hP 0 rfl rfl dX12_isSign_9 ?_
    refine lv_iload_n hx hb dX12_isSign_12 rfl (lv_at hl 1 rfl) ?_
    refine lv_icmp_ne (tgt := 20) hx hb dX12_isSign_13 (by decide) (fun c2 => ?_) (fun c2 => ?_)
    · have hF := op_f hF c2
      refine lv_iconst (v := (0 : Int32)) hx hb dX12_isSign_20 (by decide) ?_
      cases hF
      exact k_zret C (by decide) hP hS dX12_isSign_21
    · have hF := op_t hF c2
      refine lv_iconst (v := (1 : Int32)) hx hb dX12_isSign_16 (by decide) ?_
      refine lv_goto (tgt := 21) hx hb dX12_isSign_17 (by decide) ?_
      cases hF
      exact k_zret C (by decide) hP hS dX12_isSign_21

abbrev rm_X12_sign : Room := ({ frames := 2, cells := 0, slots := 0, locals := 43 } : Room)
def F_X12_sign (S0 : St) (x1 : Int32) : Option (Int32 × St) := ob1 (F_X12_isSign S0 x1) fun r2 => if r2 = 0 then (ob2 (F_X12_bad S0 (1 : Int32)) fun r7 U8 => if nb r7 then none else some (r7, U8)) else (ob1 (F_X12_next S0) fun U5 => some ((1 : Int32), U5))
set_option maxRecDepth 100000 in
set_option maxHeartbeats 4000000 in
theorem c_X12_sign (l : Launch) (D : va_G) (q : Nat → ClassId) (o0 : Nat) (a0 : Nat → Nat) (S0 : St) (sz : Nat) (x1 : Int32) {r : Int32} {T0 : St} (hF : F_X12_sign S0 x1 = some (r, T0)) : Met l yX12_sign (Cond.code yX12_sign cX12_sign 2 (some .boolean) :: TB) rm_X12_sign (PC D q [.ref o0, .int x1] (fl [g12 q o0 a0 S0]) sz) ((fun A => QI D A r (fl [g12 q o0 a0 T0])) (va_A (fl [g12 q o0 a0 S0]) sz)) 0 0 (va_A (fl [g12 q o0 a0 S0]) sz) := by
  refine k_met (w0 := fl [g12 q o0 a0 S0]) (Q := fun A => QI D A r (fl [g12 q o0 a0 T0])) (by decide +kernel) (Nat.le_of_ble_eq_true rfl) ?_
  intro p e s m args below meth c A ls C hP hD hS hl
  have hl : lv_has ls 2 [(0, .ref o0), (1, .int x1)] := hl
  unfold F_X12_sign at hF
  have C : cx p s m args meth c cX12_sign 2 (some .boolean) RX12 D q A := C
  obtain ⟨hx, hb, hr, hml, hown, hts, hlk, hA, hK, hN, hV⟩ := id C
  refine lv_aload_n hx hb dX12_sign_0 rfl (lv_at hl 0 rfl) ?_
  refine lv_iload_n hx hb dX12_sign_1 rfl (lv_at hl 1 rfl) ?_
  obtain ⟨r2, hc1, hF⟩ := ob1_s hF
  refine k_isame C (k_rV (As := [.int x1]) (rest := []) C (c_X12_isSign l D q o0 a0 S0 _ x1 hc1) kc_X12_isSign ml_X12_216 rfl rfl (by decide) hP hD hS (va_recv hK hP (ci := 12) (q0 := 0) rfl rfl) rfl hl.1 rfl (Nat.le_of_ble_eq_true rfl) dX12_sign_2 (by decide)) hP hD hS (fun H locs hP hD hS => ?_)
  refine lv_if_ne (tgt := 14) hx hb dX12_sign_5 (by decide) (fun c3 => ?_) (fun c3 => ?_)
  · have hF := op_f hF c3
    refine lv_aload_n hx hb dX12_sign_14 rfl (lv_at hl 0 rfl) ?_
    obtain ⟨U5, hc4, hF⟩ := ob1_s hF
    refine k_vall C (k_rV (As := []) (rest := []) C (c_X12_next l D q o0 a0 S0 _ hc4) kc_X12_next ml_X12_222 rfl rfl (by decide) hP hD hS (va_recv hK hP (ci := 12) (q0 := 0) rfl rfl) rfl hl.1 rfl (Nat.le_of_ble_eq_true rfl) dX12_sign_15 (by decide)) hP hD hS (by simp only [List.map_cons, List.map_nil, gad12]) (fun H locs hP hD hS => ?_)
    refine lv_iconst (v := (1 : Int32)) hx hb dX12_sign_18 (by decide) ?_
    cases hF
    exact k_zret C (by decide) hP hS dX12_sign_19
  · have hF := op_t hF c3
    refine lv_aload_n hx hb dX12_sign_8 rfl (lv_at hl 0 rfl) ?_
    refine lv_iconst (v := (1 : Int32)) hx hb dX12_sign_9 (by decide) ?_
    obtain ⟨r7, U8, hc6, hF⟩ := ob2_s hF
    refine k_iall C (k_rV (As := [.int (1 : Int32)]) (rest := []) C (c_X12_bad l D q o0 a0 S0 _ (1 : Int32) hc6) kc_X12_bad ml_X12_219 rfl rfl (by decide) hP hD hS (va_recv hK hP (ci := 12) (q0 := 0) rfl rfl) rfl hl.1 rfl (Nat.le_of_ble_eq_true rfl) dX12_sign_10 (by decide)) hP hD hS (by simp only [List.map_cons, List.map_nil, gad12]) (fun H locs hP hD hS => ?_)
    obtain ⟨h9, hF⟩ := op_ck hF
    cases hF
    exact k_zret C h9 hP hS dX12_sign_13
