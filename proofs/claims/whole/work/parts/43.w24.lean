abbrev rm_X8_readView_have : Room := ({ frames := 3, cells := 0, slots := 0, locals := 67 } : Room)
def F_X8_readView_have_19 (x3 : Int32) (s1 : Int32) (S0 : St) (S1 : St) : Option (St × St) := ob2 (F_X5_needNewView S1 s1) fun r2 U3 => if x3 = (-1 : Int32) then (some (S0, U3)) else (if r2 = (-1 : Int32) then (some (S0, U3)) else (if oob x3 6 then none else if oob x3 6 then none else nw (sA S0 9 x3 ((S0.2.2.1 9 x3.toNatClampNeg) ||| ((1 : Int32) <<< (r2 &&& 31)))) fun U8 => some (U8, U3)))
def F_X8_readView_have (S0 : St) (S1 : St) : Option (St × St) := ob2 (F_X5_needPerson S1 S0) fun r2 U3 => if r2 = (-1 : Int32) then (F_X8_readView_have_19 r2 (0 : Int32) S0 U3) else (if oob r2 6 then none else F_X8_readView_have_19 r2 (S0.2.2.1 9 r2.toNatClampNeg) S0 U3)
set_option maxRecDepth 100000 in
set_option maxHeartbeats 4000000 in
theorem b_X8_readView_have_19 {p : Program} {l : Launch} {e : Env} {s : State} {m : MethodId} {args : Array Value} {below : List Frame} {meth : Method} {c : Code} {D : va_G} {q : Nat → ClassId} {A : Nat → Prop} {tp : Nat} {o0 : Nat} {a0 : Nat → Nat} {o1 : Nat} {a1 : Nat → Nat} {T0 : St} {T1 : St} (C : cx p s m args meth c cX8_readView 5 none RX8 D q A) {x3 : Int32} {s1 : Int32} {S0 : St} {S1 : St} (hF : F_X8_readView_have_19 x3 s1 S0 S1 = some (T0, T1)) {H : Heap} {locs : List Loc} (hP : va_P D vwCl (fl [g8 q o0 a0 S0, g5 q o1 a1 tp S1]) H) (hD : va_D A (fl [g8 q o0 a0 S0, g5 q o1 a1 tp S1])) (hS : va_S A s.heap H locs) {ls : Array Slot} (hl : lv_has ls 5 [(2, .ref (a0 10)), (3, .int x3)]) : W p l e rm_X8_readView_have s m args below meth c H locs 0 0 (MQ below (QV D A (fl [g8 q o0 a0 T0, g5 q o1 a1 tp T1])) args s 0 0 A) (F0 m 19 ls [.int s1, .ref o1]) := by
  unfold F_X8_readView_have_19 at hF
  obtain ⟨hx, hb, hr, hml, hown, hts, hlk, hA, hK, hN, hV⟩ := id C
  obtain ⟨r2, U3, hc1, hF⟩ := ob2_s hF
  refine k_igrp (gs8 := [g8 q o0 a0 S0, g5 q o1 a1 tp U3]) C (k_rV (As := [.int s1]) (rest := []) C (c_X5_needNewView l D q tp o1 a1 S1 _ s1 hc1) kc_X5_needNewView ml_X8_124 rfl rfl (by decide) (flP hP [1] rfl) (flD hD [1] (by decide) rfl) hS (va_recv hK hP (ci := 5) (q0 := 11) rfl rfl) rfl hl.1 rfl (Nat.le_of_ble_eq_true rfl) dX8_readView_19 (by decide)) hP hD hS [1] [0] [g8 q o0 a0 S0] 2 (by decide) rfl rfl rfl rfl rfl rfl (by simp only [List.map_cons, List.map_nil, gad5, gad8]) (fun H locs hP hD hS => ?_)
  refine lv_istore (lv' := [(4, .int r2), (2, .ref (a0 10)), (3, .int x3)]) hx hb dX8_readView_22 hl (by decide) rfl (fun ls hl => ?_)
  refine lv_iload_n hx hb dX8_readView_24 rfl (lv_at hl 2 rfl) ?_
  refine lv_iconst (v := (-1 : Int32)) hx hb dX8_readView_25 (by decide) ?_
  refine lv_icmp_eq (tgt := 45) hx hb dX8_readView_26 (by decide) (fun c4 => ?_) (fun c4 => ?_)
  · have hF := op_t hF c4
    cases hF
    exact k_vret C hP hS dX8_readView_45
  · have hF := op_f hF c4
    refine lv_iload hx hb dX8_readView_29 (lv_at hl 0 rfl) ?_
    refine lv_iconst (v := (-1 : Int32)) hx hb dX8_readView_31 (by decide) ?_
    refine lv_icmp_eq (tgt := 45) hx hb dX8_readView_32 (by decide) (fun c5 => ?_) (fun c5 => ?_)
    · have hF := op_t hF c5
      cases hF
      exact k_vret C hP hS dX8_readView_45
    · have hF := op_f hF c5
      refine lv_aload_n hx hb dX8_readView_35 rfl (lv_at hl 1 rfl) ?_
      refine lv_iload_n hx hb dX8_readView_36 rfl (lv_at hl 2 rfl) ?_
      refine lv_dup2_11 hx hb dX8_readView_37 rfl rfl ?_
      obtain ⟨h6, hF⟩ := op_ck hF
      refine k_ild (f := S0.2.2.1 9) C hP 6 rfl h6 dX8_readView_38 ?_
      refine lv_iconst (v := (1 : Int32)) hx hb dX8_readView_39 (by decide) ?_
      refine lv_iload hx hb dX8_readView_40 (lv_at hl 0 rfl) ?_
      refine lv_ishl hx hb dX8_readView_42 ?_
      refine lv_ior hx hb dX8_readView_43 ?_
      obtain ⟨h7, hF⟩ := op_ck hF
      obtain ⟨U8, e9, hF⟩ := nw_s hF
      refine k_ist (f := S0.2.2.1 9) (W8 := fl [g8 q o0 a0 U8, g5 q o1 a1 tp U3]) C hP hD hS 6 rfl h7 dX8_readView_44 (by rw [e9]; rfl) (fun H locs hP hD hS => ?_)
      cases hF
      exact k_vret C hP hS dX8_readView_45
set_option maxRecDepth 100000 in
set_option maxHeartbeats 4000000 in
theorem c_X8_readView_have (l : Launch) (D : va_G) (q : Nat → ClassId) (tp : Nat) (o0 : Nat) (a0 : Nat → Nat) (S0 : St) (o1 : Nat) (a1 : Nat → Nat) (S1 : St) (sz : Nat) {T0 : St} {T1 : St} (hF : F_X8_readView_have S0 S1 = some (T0, T1)) : Met l yX8_readView (Cond.code yX8_readView cX8_readView 5 none :: TB) rm_X8_readView_have (PC D q [.ref o0, .ref o1, .ref (a0 10)] (fl [g8 q o0 a0 S0, g5 q o1 a1 tp S1]) sz) ((fun A => QV D A (fl [g8 q o0 a0 T0, g5 q o1 a1 tp T1])) (va_A (fl [g8 q o0 a0 S0, g5 q o1 a1 tp S1]) sz)) 0 0 (va_A (fl [g8 q o0 a0 S0, g5 q o1 a1 tp S1]) sz) := by
  refine k_met (w0 := fl [g8 q o0 a0 S0, g5 q o1 a1 tp S1]) (Q := fun A => QV D A (fl [g8 q o0 a0 T0, g5 q o1 a1 tp T1])) (by decide +kernel) (Nat.le_of_ble_eq_true rfl) ?_
  intro p e s m args below meth c A ls C hP hD hS hl
  have hl : lv_has ls 5 [(0, .ref o0), (1, .ref o1), (2, .ref (a0 10))] := hl
  unfold F_X8_readView_have at hF
  have C : cx p s m args meth c cX8_readView 5 none RX8 D q A := C
  obtain ⟨hx, hb, hr, hml, hown, hts, hlk, hA, hK, hN, hV⟩ := id C
  refine lv_aload_n hx hb dX8_readView_0 rfl (lv_at hl 1 rfl) ?_
  refine lv_aload_n hx hb dX8_readView_1 rfl (lv_at hl 0 rfl) ?_
  obtain ⟨r2, U3, hc1, hF⟩ := ob2_s hF
  refine k_igrp (gs8 := [g8 q o0 a0 S0, g5 q o1 a1 tp U3]) C (k_rV (As := [.ref o0]) (rest := []) C (c_X5_needPerson l D q tp o1 a1 S1 o0 a0 S0 _ hc1) kc_X5_needPerson ml_X8_120 rfl rfl (by decide) (flP hP [1, 0] rfl) (flD hD [1, 0] (by decide) rfl) hS (va_recv hK hP (ci := 5) (q0 := 11) rfl rfl) rfl hl.1 rfl (Nat.le_of_ble_eq_true rfl) dX8_readView_2 (by decide)) hP hD hS [1, 0] [] [] 2 (by decide) rfl rfl rfl rfl rfl rfl (by simp only [List.map_cons, List.map_nil, gad5, gad8]) (fun H locs hP hD hS => ?_)
  refine lv_istore_n (lv' := [(3, .int r2), (0, .ref o0), (1, .ref o1), (2, .ref (a0 10))]) hx hb dX8_readView_5 rfl hl (by decide) rfl (fun ls hl => ?_)
  refine lv_aload_n hx hb dX8_readView_6 rfl (lv_at hl 2 rfl) ?_
  refine lv_iload_n hx hb dX8_readView_7 rfl (lv_at hl 0 rfl) ?_
  refine lv_iconst (v := (-1 : Int32)) hx hb dX8_readView_8 (by decide) ?_
  refine lv_icmp_ne (tgt := 16) hx hb dX8_readView_9 (by decide) (fun c4 => ?_) (fun c4 => ?_)
  · have hF := op_f hF c4
    refine lv_aload_n hx hb dX8_readView_16 rfl (lv_at hl 3 rfl) ?_
    refine lv_iload_n hx hb dX8_readView_17 rfl (lv_at hl 0 rfl) ?_
    obtain ⟨h5, hF⟩ := op_ck hF
    refine k_ild (f := S0.2.2.1 9) C hP 6 rfl h5 dX8_readView_18 ?_
    exact b_X8_readView_have_19 C hF hP hD hS (lv_sub hl [3, 0] rfl)
  · have hF := op_t hF c4
    refine lv_iconst (v := (0 : Int32)) hx hb dX8_readView_12 (by decide) ?_
    refine lv_goto (tgt := 19) hx hb dX8_readView_13 (by decide) ?_
    exact b_X8_readView_have_19 C hF hP hD hS (lv_sub hl [3, 0] rfl)

abbrev rm_X8_readView_wanted : Room := ({ frames := 3, cells := 0, slots := 0, locals := 67 } : Room)
def F_X8_readView_wanted_19 (x3 : Int32) (s1 : Int32) (S0 : St) (S1 : St) : Option (St × St) := ob2 (F_X5_needNewView S1 s1) fun r2 U3 => if x3 = (-1 : Int32) then (some (S0, U3)) else (if r2 = (-1 : Int32) then (some (S0, U3)) else (if oob x3 6 then none else if oob x3 6 then none else nw (sA S0 10 x3 ((S0.2.2.1 10 x3.toNatClampNeg) ||| ((1 : Int32) <<< (r2 &&& 31)))) fun U8 => some (U8, U3)))
def F_X8_readView_wanted (S0 : St) (S1 : St) : Option (St × St) := ob2 (F_X5_needPerson S1 S0) fun r2 U3 => if r2 = (-1 : Int32) then (F_X8_readView_wanted_19 r2 (0 : Int32) S0 U3) else (if oob r2 6 then none else F_X8_readView_wanted_19 r2 (S0.2.2.1 10 r2.toNatClampNeg) S0 U3)
set_option maxRecDepth 100000 in
set_option maxHeartbeats 4000000 in
theorem b_X8_readView_wanted_19 {p : Program} {l : Launch} {e : Env} {s : State} {m : MethodId} {args : Array Value} {below : List Frame} {meth : Method} {c : Code} {D : va_G} {q : Nat → ClassId} {A : Nat → Prop} {tp : Nat} {o0 : Nat} {a0 : Nat → Nat} {o1 : Nat} {a1 : Nat → Nat} {T0 : St} {T1 : St} (C : cx p s m args meth c cX8_readView 5 none RX8 D q A) {x3 : Int32} {s1 : Int32} {S0 : St} {S1 : St} (hF : F_X8_readView_wanted_19 x3 s1 S0 S1 = some (T0, T1)) {H : Heap} {locs : List Loc} (hP : va_P D vwCl (fl [g8 q o0 a0 S0, g5 q o1 a1 tp S1]) H) (hD : va_D A (fl [g8 q o0 a0 S0, g5 q o1 a1 tp S1])) (hS : va_S A s.heap H locs) {ls : Array Slot} (hl : lv_has ls 5 [(2, .ref (a0 11)), (3, .int x3)]) : W p l e rm_X8_readView_wanted s m args below meth c H locs 0 0 (MQ below (QV D A (fl [g8 q o0 a0 T0, g5 q o1 a1 tp T1])) args s 0 0 A) (F0 m 19 ls [.int s1, .ref o1]) := by
  unfold F_X8_readView_wanted_19 at hF
  obtain ⟨hx, hb, hr, hml, hown, hts, hlk, hA, hK, hN, hV⟩ := id C
  obtain ⟨r2, U3, hc1, hF⟩ := ob2_s hF
  refine k_igrp (gs8 := [g8 q o0 a0 S0, g5 q o1 a1 tp U3]) C (k_rV (As := [.int s1]) (rest := []) C (c_X5_needNewView l D q tp o1 a1 S1 _ s1 hc1) kc_X5_needNewView ml_X8_124 rfl rfl (by decide) (flP hP [1] rfl) (flD hD [1] (by decide) rfl) hS (va_recv hK hP (ci := 5) (q0 := 11) rfl rfl) rfl hl.1 rfl (Nat.le_of_ble_eq_true rfl) dX8_readView_19 (by decide)) hP hD hS [1] [0] [g8 q o0 a0 S0] 2 (by decide) rfl rfl rfl rfl rfl rfl (by simp only [List.map_cons, List.map_nil, gad5, gad8]) (fun H locs hP hD hS => ?_)
  refine lv_istore (lv' := [(4, .int r2), (2, .ref (a0 11)), (3, .int x3)]) hx hb dX8_readView_22 hl (by decide) rfl (fun ls hl => ?_)
  refine lv_iload_n hx hb dX8_readView_24 rfl (lv_at hl 2 rfl) ?_
  refine lv_iconst (v := (-1 : Int32)) hx hb dX8_readView_25 (by decide) ?_
  refine lv_icmp_eq (tgt := 45) hx hb dX8_readView_26 (by decide) (fun c4 => ?_) (fun c4 => ?_)
  · have hF := op_t hF c4
    cases hF
    exact k_vret C hP hS dX8_readView_45
  · have hF := op_f hF c4
    refine lv_iload hx hb dX8_readView_29 (lv_at hl 0 rfl) ?_
    refine lv_iconst (v := (-1 : Int32)) hx hb dX8_readView_31 (by decide) ?_
    refine lv_icmp_eq (tgt := 45) hx hb dX8_readView_32 (by decide) (fun c5 => ?_) (fun c5 => ?_)
    · have hF := op_t hF c5
      cases hF
      exact k_vret C hP hS dX8_readView_45
    · have hF := op_f hF c5
      refine lv_aload_n hx hb dX8_readView_35 rfl (lv_at hl 1 rfl) ?_
      refine lv_iload_n hx hb dX8_readView_36 rfl (lv_at hl 2 rfl) ?_
      refine lv_dup2_11 hx hb dX8_readView_37 rfl rfl ?_
      obtain ⟨h6, hF⟩ := op_ck hF
      refine k_ild (f := S0.2.2.1 10) C hP 7 rfl h6 dX8_readView_38 ?_
      refine lv_iconst (v := (1 : Int32)) hx hb dX8_readView_39 (by decide) ?_
      refine lv_iload hx hb dX8_readView_40 (lv_at hl 0 rfl) ?_
      refine lv_ishl hx hb dX8_readView_42 ?_
      refine lv_ior hx hb dX8_readView_43 ?_
      obtain ⟨h7, hF⟩ := op_ck hF
      obtain ⟨U8, e9, hF⟩ := nw_s hF
      refine k_ist (f := S0.2.2.1 10) (W8 := fl [g8 q o0 a0 U8, g5 q o1 a1 tp U3]) C hP hD hS 7 rfl h7 dX8_readView_44 (by rw [e9]; rfl) (fun H locs hP hD hS => ?_)
      cases hF
      exact k_vret C hP hS dX8_readView_45
set_option maxRecDepth 100000 in
set_option maxHeartbeats 4000000 in
theorem c_X8_readView_wanted (l : Launch) (D : va_G) (q : Nat → ClassId) (tp : Nat) (o0 : Nat) (a0 : Nat → Nat) (S0 : St) (o1 : Nat) (a1 : Nat → Nat) (S1 : St) (sz : Nat) {T0 : St} {T1 : St} (hF : F_X8_readView_wanted S0 S1 = some (T0, T1)) : Met l yX8_readView (Cond.code yX8_readView cX8_readView 5 none :: TB) rm_X8_readView_wanted (PC D q [.ref o0, .ref o1, .ref (a0 11)] (fl [g8 q o0 a0 S0, g5 q o1 a1 tp S1]) sz) ((fun A => QV D A (fl [g8 q o0 a0 T0, g5 q o1 a1 tp T1])) (va_A (fl [g8 q o0 a0 S0, g5 q o1 a1 tp S1]) sz)) 0 0 (va_A (fl [g8 q o0 a0 S0, g5 q o1 a1 tp S1]) sz) := by
  refine k_met (w0 := fl [g8 q o0 a0 S0, g5 q o1 a1 tp S1]) (Q := fun A => QV D A (fl [g8 q o0 a0 T0, g5 q o1 a1 tp T1])) (by decide +kernel) (Nat.le_of_ble_eq_true rfl) ?_
  intro p e s m args below meth c A ls C hP hD hS hl
  have hl : lv_has ls 5 [(0, .ref o0), (1, .ref o1), (2, .ref (a0 11))] := hl
  unfold F_X8_readView_wanted at hF
  have C : cx p s m args meth c cX8_readView 5 none RX8 D q A := C
  obtain ⟨hx, hb, hr, hml, hown, hts, hlk, hA, hK, hN, hV⟩ := id C
  refine lv_aload_n hx hb dX8_readView_0 rfl (lv_at hl 1 rfl) ?_
  refine lv_aload_n hx hb dX8_readView_1 rfl (lv_at hl 0 rfl) ?_
  obtain ⟨r2, U3, hc1, hF⟩ := ob2_s hF
  refine k_igrp (gs8 := [g8 q o0 a0 S0, g5 q o1 a1 tp U3]) C (k_rV (As := [.ref o0]) (rest := []) C (c_X5_needPerson l D q tp o1 a1 S1 o0 a0 S0 _ hc1) kc_X5_needPerson ml_X8_120 rfl rfl (by decide) (flP hP [1, 0] rfl) (flD hD [1, 0] (by decide) rfl) hS (va_recv hK hP (ci := 5) (q0 := 11) rfl rfl) rfl hl.1 rfl (Nat.le_of_ble_eq_true rfl) dX8_readView_2 (by decide)) hP hD hS [1, 0] [] [] 2 (by decide) rfl rfl rfl rfl rfl rfl (by simp only [List.map_cons, List.map_nil, gad5, gad8]) (fun H locs hP hD hS => ?_)
  refine lv_istore_n (lv' := [(3, .int r2), (0, .ref o0), (1, .ref o1), (2, .ref (a0 11))]) hx hb dX8_readView_5 rfl hl (by decide) rfl (fun ls hl => ?_)
  refine lv_aload_n hx hb dX8_readView_6 rfl (lv_at hl 2 rfl) ?_
  refine lv_iload_n hx hb dX8_readView_7 rfl (lv_at hl 0 rfl) ?_
  refine lv_iconst (v := (-1 : Int32)) hx hb dX8_readView_8 (by decide) ?_
  refine lv_icmp_ne (tgt := 16) hx hb dX8_readView_9 (by decide) (fun c4 => ?_) (fun c4 => ?_)
  · have hF := op_f hF c4
    refine lv_aload_n hx hb dX8_readView_16 rfl (lv_at hl 3 rfl) ?_
    refine lv_iload_n hx hb dX8_readView_17 rfl (lv_at hl 0 rfl) ?_
    obtain ⟨h5, hF⟩ := op_ck hF
    refine k_ild (f := S0.2.2.1 10) C hP 7 rfl h5 dX8_readView_18 ?_
    exact b_X8_readView_wanted_19 C hF hP hD hS (lv_sub hl [3, 0] rfl)
  · have hF := op_t hF c4
    refine lv_iconst (v := (0 : Int32)) hx hb dX8_readView_12 (by decide) ?_
    refine lv_goto (tgt := 19) hx hb dX8_readView_13 (by decide) ?_
    exact b_X8_readView_wanted_19 C hF hP hD hS (lv_sub hl [3, 0] rfl)

abbrev rm_X8_readLine : Room := ({ frames := 4, cells := 0, slots := 0, locals := 91 } : Room)
def F_X8_readLine (S0 : St) (S1 : St) : Option (St × St) := ob1 (F_X5_isWord S1 (0 : Int32)) fun r2 => if r2 = 0 then (ob1 (F_X5_isWord S1 (1 : Int32)) fun r5 => if r5 = 0 then (ob2 (F_X5_takeWord S1 (2 : Int32)) fun r8 U9 => if r8 = 0 then (ob2 (F_X5_takeWord U9 (3 : Int32)) fun r12 U13 => if r12 = 0 then (ob1 (F_X5_fail U13 (1 : Int32)) fun U16 => some (S0, U16)) else (ob2 (F_X8_readView_wanted S0 U13) fun U18 U19 => some (U18, U19))) else (ob2 (F_X8_readView_have S0 U9) fun U21 U22 => some (U21, U22))) else (ob2 (F_X8_readPerson S0 S1) fun U24 U25 => some (U24, U25))) else (ob2 (F_X8_readTurret S0 S1) fun U27 U28 => some (U27, U28))
set_option maxRecDepth 100000 in
set_option maxHeartbeats 4000000 in
theorem c_X8_readLine (l : Launch) (D : va_G) (q : Nat → ClassId) (tp : Nat) (o0 : Nat) (a0 : Nat → Nat) (S0 : St) (o1 : Nat) (a1 : Nat → Nat) (S1 : St) (sz : Nat) {T0 : St} {T1 : St} (hF : F_X8_readLine S0 S1 = some (T0, T1)) : Met l yX8_readLine (Cond.code yX8_readLine cX8_readLine 2 none :: TB) rm_X8_readLine (PC D q [.ref o0, .ref o1] (fl [g8 q o0 a0 S0, g5 q o1 a1 tp S1]) sz) ((fun A => QV D A (fl [g8 q o0 a0 T0, g5 q o1 a1 tp T1])) (va_A (fl [g8 q o0 a0 S0, g5 q o1 a1 tp S1]) sz)) 0 0 (va_A (fl [g8 q o0 a0 S0, g5 q o1 a1 tp S1]) sz) := by
  refine k_met (w0 := fl [g8 q o0 a0 S0, g5 q o1 a1 tp S1]) (Q := fun A => QV D A (fl [g8 q o0 a0 T0, g5 q o1 a1 tp T1])) (by decide +kernel) (Nat.le_of_ble_eq_true rfl) ?_
  intro p e s m args below meth c A ls C hP hD hS hl
  have hl : lv_has ls 2 [(0, .ref o0), (1, .ref o1)] := hl
  unfold F_X8_readLine at hF
  have C : cx p s m args meth c cX8_readLine 2 none RX8 D q A := C
  obtain ⟨hx, hb, hr, hml, hown, hts, hlk, hA, hK, hN, hV⟩ := id C
  refine lv_aload_n hx hb dX8_readLine_0 rfl (lv_at hl 1 rfl) ?_
  refine lv_iconst (v := (0 : Int32)) hx hb dX8_readLine_1 (by decide) ?_
  obtain ⟨r2, hc1, hF⟩ := ob1_s hF
  refine k_iro C (k_rV (As := [.int (0 : Int32)]) (rest := []) C (c_X5_isWord l D q tp o1 a1 S1 _ (0 : Int32) hc1) kc_X5_isWord ml_X8_86 rfl rfl (by decide) (flP hP [1] rfl) (flD hD [1] (by decide) rfl) hS (va_recv hK hP (ci := 5) (q0 := 11) rfl rfl) rfl hl.1 rfl (Nat.le_of_ble_eq_true rfl) dX8_readLine_2 (by decide)) hP hD hS [1] [0] [g8 q o0 a0 S0] 2 (by decide) rfl rfl rfl rfl (fun H locs hP hD hS => ?_)
  refine lv_if_eq (tgt := 16) hx hb dX8_readLine_5 (by decide) (fun c3 => ?_) (fun c3 => ?_)
  · have hF := op_t hF c3
    refine lv_aload_n hx hb dX8_readLine_16 rfl (lv_at hl 1 rfl) ?_
    refine lv_iconst (v := (1 : Int32)) hx hb dX8_readLine_17 (by decide) ?_
    obtain ⟨r5, hc4, hF⟩ := ob1_s hF
    refine k_iro C (k_rV (As := [.int (1 : Int32)]) (rest := []) C (c_X5_isWord l D q tp o1 a1 S1 _ (1 : Int32) hc4) kc_X5_isWord ml_X8_86 rfl rfl (by decide) (flP hP [1] rfl) (flD hD [1] (by decide) rfl) hS (va_recv hK hP (ci := 5) (q0 := 11) rfl rfl) rfl hl.1 rfl (Nat.le_of_ble_eq_true rfl) dX8_readLine_18 (by decide)) hP hD hS [1] [0] [g8 q o0 a0 S0] 2 (by decide) rfl rfl rfl rfl (fun H locs hP hD hS => ?_)
    refine lv_if_eq (tgt := 32) hx hb dX8_readLine_21 (by decide) (fun c6 => ?_) (fun c6 => ?_)
    · have hF := op_t hF c6
      refine lv_aload_n hx hb dX8_readLine_32 rfl (lv_at hl 1 rfl) ?_
      refine lv_iconst (v := (2 : Int32)) hx hb dX8_readLine_33 (by decide) ?_
      obtain ⟨r8, U9, hc7, hF⟩ := ob2_s hF
      refine k_igrp (gs8 := [g8 q o0 a0 S0, g5 q o1 a1 tp U9]) C (k_rV (As := [.int (2 : Int32)]) (rest := []) C (c_X5_takeWord l D q tp o1 a1 S1 _ (2 : Int32) hc7) kc_X5_takeWord ml_X8_96 rfl rfl (by decide) (flP hP [1] rfl) (flD hD [1] (by decide) rfl) hS (va_recv hK hP (ci := 5) (q0 := 11) rfl rfl) rfl hl.1 rfl (Nat.le_of_ble_eq_true rfl) dX8_readLine_34 (by decide)) hP hD hS [1] [0] [g8 q o0 a0 S0] 2 (by decide) rfl rfl rfl rfl rfl rfl (by simp only [List.map_cons, List.map_nil, gad5, gad8]) (fun H locs hP hD hS => ?_)
      refine lv_if_eq (tgt := 52) hx hb dX8_readLine_37 (by decide) (fun c10 => ?_) (fun c10 => ?_)
      · have hF := op_t hF c10
        refine lv_aload_n hx hb dX8_readLine_52 rfl (lv_at hl 1 rfl) ?_
        refine lv_iconst (v := (3 : Int32)) hx hb dX8_readLine_53 (by decide) ?_
        obtain ⟨r12, U13, hc11, hF⟩ := ob2_s hF
        refine k_igrp (gs8 := [g8 q o0 a0 S0, g5 q o1 a1 tp U13]) C (k_rV (As := [.int (3 : Int32)]) (rest := []) C (c_X5_takeWord l D q tp o1 a1 U9 _ (3 : Int32) hc11) kc_X5_takeWord ml_X8_96 rfl rfl (by decide) (flP hP [1] rfl) (flD hD [1] (by decide) rfl) hS (va_recv hK hP (ci := 5) (q0 := 11) rfl rfl) rfl hl.1 rfl (Nat.le_of_ble_eq_true rfl) dX8_readLine_54 (by decide)) hP hD hS [1] [0] [g8 q o0 a0 S0] 2 (by decide) rfl rfl rfl rfl rfl rfl (by simp only [List.map_cons, List.map_nil, gad5, gad8]) (fun H locs hP hD hS => ?_)
        refine lv_if_eq (tgt := 72) hx hb dX8_readLine_57 (by decide) (fun c14 => ?_) (fun c14 => ?_)
        · have hF := op_t hF c14
          refine lv_aload_n hx hb dX8_readLine_72 rfl (lv_at hl 1 rfl) ?_
          refine lv_iconst (v := (1 : Int32)) hx hb dX8_readLine_73 (by decide) ?_
          obtain ⟨U16, hc15, hF⟩ := ob1_s hF
          refine k_vgrp (gs8 := [g8 q o0 a0 S0, g5 q o1 a1 tp U16]) C (k_rV (As := [.int (1 : Int32)]) (rest := []) C (c_X5_fail l D q tp o1 a1 U13 _ (1 : Int32) hc15) kc_X5_fail ml_X8_103 rfl rfl (by decide) (flP hP [1] rfl) (flD hD [1] (by decide) rfl) hS (va_recv hK hP (ci := 5) (q0 := 11) rfl rfl) rfl hl.1 rfl (Nat.le_of_ble_eq_true rfl) dX8_readLine_74 (by decide)) hP hD hS [1] [0] [g8 q o0 a0 S0] 2 (by decide) rfl rfl rfl rfl rfl rfl (by simp only [List.map_cons, List.map_nil, gad5, gad8]) (fun H locs hP hD hS => ?_)
          cases hF
          exact k_vret C hP hS dX8_readLine_77
        · have hF := op_f hF c14
          refine lv_aload_n hx hb dX8_readLine_60 rfl (lv_at hl 0 rfl) ?_
          refine lv_aload_n hx hb dX8_readLine_61 rfl (lv_at hl 1 rfl) ?_
          refine lv_aload_n hx hb dX8_readLine_62 rfl (lv_at hl 0 rfl) ?_
          refine k_get (v := .ref (a0 11)) C fg_X8_31 hP 0 rfl rfl dX8_readLine_63 ?_
          obtain ⟨U18, U19, hc17, hF⟩ := ob2_s hF
          refine k_vall C (k_rV (As := [.ref o1, .ref (a0 11)]) (rest := []) C (c_X8_readView_wanted l D q tp o0 a0 S0 o1 a1 U13 _ hc17) kc_X8_readView ml_X8_99 rfl rfl (by decide) hP hD hS (va_recv hK hP (ci := 8) (q0 := 0) rfl rfl) rfl hl.1 rfl (Nat.le_of_ble_eq_true rfl) dX8_readLine_66 (by decide)) hP hD hS (by simp only [List.map_cons, List.map_nil, gad5, gad8]) (fun H locs hP hD hS => ?_)
          refine lv_goto (tgt := 77) hx hb dX8_readLine_69 (by decide) ?_
          cases hF
          exact k_vret C hP hS dX8_readLine_77
      · have hF := op_f hF c10
        refine lv_aload_n hx hb dX8_readLine_40 rfl (lv_at hl 0 rfl) ?_
        refine lv_aload_n hx hb dX8_readLine_41 rfl (lv_at hl 1 rfl) ?_
        refine lv_aload_n hx hb dX8_readLine_42 rfl (lv_at hl 0 rfl) ?_
        refine k_get (v := .ref (a0 10)) C fg_X8_28 hP 0 rfl rfl dX8_readLine_43 ?_
        obtain ⟨U21, U22, hc20, hF⟩ := ob2_s hF
        refine k_vall C (k_rV (As := [.ref o1, .ref (a0 10)]) (rest := []) C (c_X8_readView_have l D q tp o0 a0 S0 o1 a1 U9 _ hc20) kc_X8_readView ml_X8_99 rfl rfl (by decide) hP hD hS (va_recv hK hP (ci := 8) (q0 := 0) rfl rfl) rfl hl.1 rfl (Nat.le_of_ble_eq_true rfl) dX8_readLine_46 (by decide)) hP hD hS (by simp only [List.map_cons, List.map_nil, gad5, gad8]) (fun H locs hP hD hS => ?_)
        refine lv_goto (tgt := 77) hx hb dX8_readLine_49 (by decide) ?_
        cases hF
        exact k_vret C hP hS dX8_readLine_77
    · have hF := op_f hF c6
      refine lv_aload_n hx hb dX8_readLine_24 rfl (lv_at hl 0 rfl) ?_
      refine lv_aload_n hx hb dX8_readLine_25 rfl (lv_at hl 1 rfl) ?_
      obtain ⟨U24, U25, hc23, hF⟩ := ob2_s hF
      refine k_vall C (k_rV (As := [.ref o1]) (rest := []) C (c_X8_readPerson l D q tp o0 a0 S0 o1 a1 S1 _ hc23) kc_X8_readPerson ml_X8_93 rfl rfl (by decide) hP hD hS (va_recv hK hP (ci := 8) (q0 := 0) rfl rfl) rfl hl.1 rfl (Nat.le_of_ble_eq_true rfl) dX8_readLine_26 (by decide)) hP hD hS (by simp only [List.map_cons, List.map_nil, gad5, gad8]) (fun H locs hP hD hS => ?_)
      refine lv_goto (tgt := 77) hx hb dX8_readLine_29 (by decide) ?_
      cases hF
      exact k_vret C hP hS dX8_readLine_77
  · have hF := op_f hF c3
    refine lv_aload_n hx hb dX8_readLine_8 rfl (lv_at hl 0 rfl) ?_
    refine lv_aload_n hx hb dX8_readLine_9 rfl (lv_at hl 1 rfl) ?_
    obtain ⟨U27, U28, hc26, hF⟩ := ob2_s hF
    refine k_vall C (k_rV (As := [.ref o1]) (rest := []) C (c_X8_readTurret l D q tp o0 a0 S0 o1 a1 S1 _ hc26) kc_X8_readTurret ml_X8_90 rfl rfl (by decide) hP hD hS (va_recv hK hP (ci := 8) (q0 := 0) rfl rfl) rfl hl.1 rfl (Nat.le_of_ble_eq_true rfl) dX8_readLine_10 (by decide)) hP hD hS (by simp only [List.map_cons, List.map_nil, gad5, gad8]) (fun H locs hP hD hS => ?_)
    refine lv_goto (tgt := 77) hx hb dX8_readLine_13 (by decide) ?_
    cases hF
    exact k_vret C hP hS dX8_readLine_77

abbrev rm_X8_readFrom : Room := ({ frames := 5, cells := 0, slots := 0, locals := 112 } : Room)
def F_X8_readFrom_65 (x2 : Int32) (S0 : St) (S1 : St) (S2 : St) : Option (Int32 × St × St) := ob2 (F_X5_closes S1) fun r2 U3 => if r2 = 0 then (some ((-1 : Int32), S0, U3)) else (some (x2, S0, U3))
def F_X8_readFrom_34 (k34 : Int32 × St × St × St → Option (Int32 × St × St)) (x2 : Int32) (S0 : St) (S1 : St) (S2 : St) : Option (Int32 × St × St) := if (900 : Int32) ≤ x2 then (F_X8_readFrom_65 x2 S0 S1 S2) else (ob1 (F_X5_goesOn S1) fun r3 => if r3 = 0 then (F_X8_readFrom_65 x2 S0 S1 S2) else (ob2 (F_X8_readLine S0 S1) fun U6 U7 => ob1 (F_X5_needMark U7 (59 : Int32)) fun U9 => k34 ((x2 + 1), U6, U9, S2)))
def L_X8_readFrom_34 (x2 : Int32) (S0 : St) (S1 : St) (S2 : St) : Option (Int32 × St × St) := lp (fun kz z => F_X8_readFrom_34 kz z.1 z.2.1 z.2.2.1 z.2.2.2) FU (x2, S0, S1, S2)
def F_X8_readFrom (S0 : St) (S1 : St) (S2 : St) : Option (Int32 × St × St) := nw (sI S0 0 (0 : Int32)) fun U1 => nw (sI U1 5 (0 : Int32)) fun U3 => nw (sI U3 6 (0 : Int32)) fun U5 => nw (sI U5 7 (0 : Int32)) fun U7 => nw (sI U7 14 (0 : Int32)) fun U9 => ob1 (F_X5_begin S1 S2 (900 : Int32)) fun U12 => L_X8_readFrom_34 (0 : Int32) U9 U12 S2
set_option maxRecDepth 100000 in
set_option maxHeartbeats 4000000 in
theorem b_X8_readFrom_65 {p : Program} {l : Launch} {e : Env} {s : State} {m : MethodId} {args : Array Value} {below : List Frame} {meth : Method} {c : Code} {D : va_G} {q : Nat → ClassId} {A : Nat → Prop} {tp : Nat} {o0 : Nat} {a0 : Nat → Nat} {o1 : Nat} {a1 : Nat → Nat} {a2 : Nat → Nat} {r : Int32} {T0 : St} {T1 : St} (C : cx p s m args meth c cX8_readFrom 3 (some .int) RX8 D q A) {x2 : Int32} {S0 : St} {S1 : St} {S2 : St} (hF : F_X8_readFrom_65 x2 S0 S1 S2 = some (r, T0, T1)) {H : Heap} {locs : List Loc} (hP : va_P D vwCl (fl [g8 q o0 a0 S0, g5 q o1 a1 tp S1, g9 q tp a2 940 S2]) H) (hD : va_D A (fl [g8 q o0 a0 S0, g5 q o1 a1 tp S1, g9 q tp a2 940 S2])) (hS : va_S A s.heap H locs) {ls : Array Slot} (hl : lv_has ls 3 [(1, .ref o1), (2, .int x2)]) : W p l e rm_X8_readFrom s m args below meth c H locs 0 0 (MQ below (QI D A r (fl [g8 q o0 a0 T0, g5 q o1 a1 tp T1, g9 q tp a2 940 S2])) args s 0 0 A) (F0 m 65 ls []) := by
  unfold F_X8_readFrom_65 at hF
  obtain ⟨hx, hb, hr, hml, hown, hts, hlk, hA, hK, hN, hV⟩ := id C
  refine lv_aload_n hx hb dX8_readFrom_65 rfl (lv_at hl 0 rfl) ?_
  obtain ⟨r2, U3, hc1, hF⟩ := ob2_s hF
  refine k_igrp (gs8 := [g8 q o0 a0 S0, g5 q o1 a1 tp U3, g9 q tp a2 940 S2]) C (k_rV (As := []) (rest := []) C (c_X5_closes l D q tp o1 a1 S1 _ hc1) kc_X5_closes ml_X8_83 rfl rfl (by decide) (flP hP [1] rfl) (flD hD [1] (by decide) rfl) hS (va_recv hK hP (ci := 5) (q0 := 11) rfl rfl) rfl hl.1 rfl (Nat.le_of_ble_eq_true rfl) dX8_readFrom_66 (by decide)) hP hD hS [1] [0, 2] [g8 q o0 a0 S0, g9 q tp a2 940 S2] 3 (by decide) rfl rfl rfl rfl rfl rfl (by simp only [List.map_cons, List.map_nil, gad5, gad8, gad9]) (fun H locs hP hD hS => ?_)
  refine lv_if_eq (tgt := 76) hx hb dX8_readFrom_69 (by decide) (fun c4 => ?_) (fun c4 => ?_)
  · have hF := op_t hF c4
    refine lv_iconst (v := (-1 : Int32)) hx hb dX8_readFrom_76 (by decide) ?_
    cases hF
    exact k_iret C hP hS dX8_readFrom_77
  · have hF := op_f hF c4
    refine lv_iload_n hx hb dX8_readFrom_72 rfl (lv_at hl 1 rfl) ?_
    refine lv_goto (tgt := 77) hx hb dX8_readFrom_73 (by decide) ?_
    cases hF
    exact k_iret C hP hS dX8_readFrom_77
set_option maxRecDepth 100000 in
set_option maxHeartbeats 4000000 in
theorem b_X8_readFrom_34 {p : Program} {l : Launch} {e : Env} {s : State} {m : MethodId} {args : Array Value} {below : List Frame} {meth : Method} {c : Code} {D : va_G} {q : Nat → ClassId} {A : Nat → Prop} {tp : Nat} {o0 : Nat} {a0 : Nat → Nat} {o1 : Nat} {a1 : Nat → Nat} {a2 : Nat → Nat} {r : Int32} {T0 : St} {T1 : St} (C : cx p s m args meth c cX8_readFrom 3 (some .int) RX8 D q A) {k34 : Int32 × St × St × St → Option (Int32 × St × St)} (hk34 : ∀ (x2 : Int32) (S0 : St) (S1 : St) (S2 : St), k34 (x2, S0, S1, S2) = some (r, T0, T1) → ∀ (H : Heap) (locs : List Loc) (ls : Array Slot), va_P D vwCl (fl [g8 q o0 a0 S0, g5 q o1 a1 tp S1, g9 q tp a2 940 S2]) H → va_D A (fl [g8 q o0 a0 S0, g5 q o1 a1 tp S1, g9 q tp a2 940 S2]) → va_S A s.heap H locs → lv_has ls 3 [(0, .ref o0), (1, .ref o1), (2, .int x2)] → W p l e rm_X8_readFrom s m args below meth c H locs 0 0 (MQ below (QI D A r (fl [g8 q o0 a0 T0, g5 q o1 a1 tp T1, g9 q tp a2 940 S2])) args s 0 0 A) (F0 m 34 ls [])) {x2 : Int32} {S0 : St} {S1 : St} {S2 : St} (hF : F_X8_readFrom_34 k34 x2 S0 S1 S2 = some (r, T0, T1)) {H : Heap} {locs : List Loc} (hP : va_P D vwCl (fl [g8 q o0 a0 S0, g5 q o1 a1 tp S1, g9 q tp a2 940 S2]) H) (hD : va_D A (fl [g8 q o0 a0 S0, g5 q o1 a1 tp S1, g9 q tp a2 940 S2])) (hS : va_S A s.heap H locs) {ls : Array Slot} (hl : lv_has ls 3 [(0, .ref o0), (1, .ref o1), (2, .int x2)]) : W p l e rm_X8_readFrom s m args below meth c H locs 0 0 (MQ below (QI D A r (fl [g8 q o0 a0 T0, g5 q o1 a1 tp T1, g9 q tp a2 940 S2])) args s 0 0 A) (F0 m 34 ls []) := by
  unfold F_X8_readFrom_34 at hF
  obtain ⟨hx, hb, hr, hml, hown, hts, hlk, hA, hK, hN, hV⟩ := id C
  refine lv_iload_n hx hb dX8_readFrom_34 rfl (lv_at hl 2 rfl) ?_
  refine lv_sipush (v := (900 : Int32)) hx hb dX8_readFrom_35 (by decide) ?_
  refine lv_icmp_ge (tgt := 65) hx hb dX8_readFrom_38 (by decide) (fun c1 => ?_) (fun c1 => ?_)
  · have hF := op_t hF c1
    exact b_X8_readFrom_65 C hF hP hD hS (lv_sub hl [1, 2] rfl)
  · have hF := op_f hF c1
    refine lv_aload_n hx hb dX8_readFrom_41 rfl (lv_at hl 1 rfl) ?_
    obtain ⟨r3, hc2, hF⟩ := ob1_s hF
    refine k_iro C (k_rV (As := []) (rest := []) C (c_X5_goesOn l D q tp o1 a1 S1 _ hc2) kc_X5_goesOn ml_X8_71 rfl rfl (by decide) (flP hP [1] rfl) (flD hD [1] (by decide) rfl) hS (va_recv hK hP (ci := 5) (q0 := 11) rfl rfl) rfl hl.1 rfl (Nat.le_of_ble_eq_true rfl) dX8_readFrom_42 (by decide)) hP hD hS [1] [0, 2] [g8 q o0 a0 S0, g9 q tp a2 940 S2] 3 (by decide) rfl rfl rfl rfl (fun H locs hP hD hS => ?_)
    refine lv_if_eq (tgt := 65) hx hb dX8_readFrom_45 (by decide) (fun c4 => ?_) (fun c4 => ?_)
    · have hF := op_t hF c4
      exact b_X8_readFrom_65 C hF hP hD hS (lv_sub hl [1, 2] rfl)
    · have hF := op_f hF c4
      refine lv_aload_n hx hb dX8_readFrom_48 rfl (lv_at hl 0 rfl) ?_
      refine lv_aload_n hx hb dX8_readFrom_49 rfl (lv_at hl 1 rfl) ?_
      obtain ⟨U6, U7, hc5, hF⟩ := ob2_s hF
      refine k_vgrp (gs8 := [g8 q o0 a0 U6, g5 q o1 a1 tp U7, g9 q tp a2 940 S2]) C (k_rV (As := [.ref o1]) (rest := []) C (c_X8_readLine l D q tp o0 a0 S0 o1 a1 S1 _ hc5) kc_X8_readLine ml_X8_75 rfl rfl (by decide) (flP hP [0, 1] rfl) (flD hD [0, 1] (by decide) rfl) hS (va_recv hK hP (ci := 8) (q0 := 0) rfl rfl) rfl hl.1 rfl (Nat.le_of_ble_eq_true rfl) dX8_readFrom_50 (by decide)) hP hD hS [0, 1] [2] [g9 q tp a2 940 S2] 3 (by decide) rfl rfl rfl rfl rfl rfl (by simp only [List.map_cons, List.map_nil, gad5, gad8, gad9]) (fun H locs hP hD hS => ?_)
      refine lv_aload_n hx hb dX8_readFrom_53 rfl (lv_at hl 1 rfl) ?_
      refine lv_bipush (v := (59 : Int32)) hx hb dX8_readFrom_54 (by decide) ?_
      obtain ⟨U9, hc8, hF⟩ := ob1_s hF
      refine k_vgrp (gs8 := [g8 q o0 a0 U6, g5 q o1 a1 tp U9, g9 q tp a2 940 S2]) C (k_rV (As := [.int (59 : Int32)]) (rest := []) C (c_X5_needMark l D q tp o1 a1 U7 _ (59 : Int32) hc8) kc_X5_needMark ml_X8_79 rfl rfl (by decide) (flP hP [1] rfl) (flD hD [1] (by decide) rfl) hS (va_recv hK hP (ci := 5) (q0 := 11) rfl rfl) rfl hl.1 rfl (Nat.le_of_ble_eq_true rfl) dX8_readFrom_56 (by decide)) hP hD hS [1] [0, 2] [g8 q o0 a0 U6, g9 q tp a2 940 S2] 3 (by decide) rfl rfl rfl rfl rfl rfl (by simp only [List.map_cons, List.map_nil, gad5, gad8, gad9]) (fun H locs hP hD hS => ?_)
      refine lv_iinc (v := (x2 + 1)) (lv' := [(2, .int (x2 + 1)), (0, .ref o0), (1, .ref o1)]) hx hb dX8_readFrom_59 hl (k := 2) rfl rfl (by decide) rfl (fun ls hl => ?_)
      refine lv_goto (tgt := 34) hx hb dX8_readFrom_62 (by decide) ?_
      exact hk34 (x2 + 1) U6 U9 S2 hF _ _ _ hP hD hS (lv_sub hl [1, 2, 0] rfl)
set_option maxRecDepth 100000 in
set_option maxHeartbeats 4000000 in
theorem l_X8_readFrom_34 {p : Program} {l : Launch} {e : Env} {s : State} {m : MethodId} {args : Array Value} {below : List Frame} {meth : Method} {c : Code} {D : va_G} {q : Nat → ClassId} {A : Nat → Prop} {tp : Nat} {o0 : Nat} {a0 : Nat → Nat} {o1 : Nat} {a1 : Nat → Nat} {a2 : Nat → Nat} {r : Int32} {T0 : St} {T1 : St} (C : cx p s m args meth c cX8_readFrom 3 (some .int) RX8 D q A) {x2 : Int32} {S0 : St} {S1 : St} {S2 : St} (hF : L_X8_readFrom_34 x2 S0 S1 S2 = some (r, T0, T1)) : ∀ (H : Heap) (locs : List Loc) (ls : Array Slot), va_P D vwCl (fl [g8 q o0 a0 S0, g5 q o1 a1 tp S1, g9 q tp a2 940 S2]) H → va_D A (fl [g8 q o0 a0 S0, g5 q o1 a1 tp S1, g9 q tp a2 940 S2]) → va_S A s.heap H locs → lv_has ls 3 [(0, .ref o0), (1, .ref o1), (2, .int x2)] → W p l e rm_X8_readFrom s m args below meth c H locs 0 0 (MQ below (QI D A r (fl [g8 q o0 a0 T0, g5 q o1 a1 tp T1, g9 q tp a2 940 S2])) args s 0 0 A) (F0 m 34 ls []) :=
  lp_G _ _ (fun z => ∀ (H : Heap) (locs : List Loc) (ls : Array Slot), va_P D vwCl (fl [g8 q o0 a0 z.2.1, g5 q o1 a1 tp z.2.2.1, g9 q tp a2 940 z.2.2.2]) H → va_D A (fl [g8 q o0 a0 z.2.1, g5 q o1 a1 tp z.2.2.1, g9 q tp a2 940 z.2.2.2]) → va_S A s.heap H locs → lv_has ls 3 [(0, .ref o0), (1, .ref o1), (2, .int z.1)] → W p l e rm_X8_readFrom s m args below meth c H locs 0 0 (MQ below (QI D A r (fl [g8 q o0 a0 T0, g5 q o1 a1 tp T1, g9 q tp a2 940 z.2.2.2])) args s 0 0 A) (F0 m 34 ls [])) (fun kz hkz z hz H locs ls hP hD hS hl => b_X8_readFrom_34 C (fun x2 S0 S1 S2 hz => hkz (x2, S0, S1, S2) hz) hz hP hD hS hl) FU (x2, S0, S1, S2) hF
set_option maxRecDepth 100000 in
set_option maxHeartbeats 4000000 in
theorem c_X8_readFrom (l : Launch) (D : va_G) (q : Nat → ClassId) (tp : Nat) (o0 : Nat) (a0 : Nat → Nat) (S0 : St) (o1 : Nat) (a1 : Nat → Nat) (S1 : St) (a2 : Nat → Nat) (S2 : St) (sz : Nat) {r : Int32} {T0 : St} {T1 : St} (hF : F_X8_readFrom S0 S1 S2 = some (r, T0, T1)) : Met l yX8_readFrom (Cond.code yX8_readFrom cX8_readFrom 3 (some .int) :: TB) rm_X8_readFrom (PC D q [.ref o0, .ref o1] (fl [g8 q o0 a0 S0, g5 q o1 a1 tp S1, g9 q tp a2 940 S2]) sz) ((fun A => QI D A r (fl [g8 q o0 a0 T0, g5 q o1 a1 tp T1, g9 q tp a2 940 S2])) (va_A (fl [g8 q o0 a0 S0, g5 q o1 a1 tp S1, g9 q tp a2 940 S2]) sz)) 0 0 (va_A (fl [g8 q o0 a0 S0, g5 q o1 a1 tp S1, g9 q tp a2 940 S2]) sz) := by
  refine k_met (w0 := fl [g8 q o0 a0 S0, g5 q o1 a1 tp S1, g9 q tp a2 940 S2]) (Q := fun A => QI D A r (fl [g8 q o0 a0 T0, g5 q o1 a1 tp T1, g9 q tp a2 940 S2])) (by decide +kernel) (Nat.le_of_ble_eq_true rfl) ?_
  intro p e s m args below meth c A ls C hP hD hS hl
  have hl : lv_has ls 3 [(0, .ref o0), (1, .ref o1)] := hl
  unfold F_X8_readFrom at hF
  have C : cx p s m args meth c cX8_readFrom 3 (some .int) RX8 D q A := C
  obtain ⟨hx, hb, hr, hml, hown, hts, hlk, hA, hK, hN, hV⟩ := id C
  refine lv_aload_n hx hb dX8_readFrom_0 rfl (lv_at hl 0 rfl) ?_
  refine lv_iconst (v := (0 : Int32)) hx hb dX8_readFrom_1 (by decide) ?_
  obtain ⟨U1, e2, hF⟩ := nw_s hF
  refine k_put (W8 := fl [g8 q o0 a0 U1, g5 q o1 a1 tp S1, g9 q tp a2 940 S2]) C fp_X8_43 hP hD hS 0 rfl rfl rfl (Nat.le_of_ble_eq_true rfl) dX8_readFrom_2 (by rw [e2]; rfl) (fun H locs hP hD hS => ?_)
  refine lv_aload_n hx hb dX8_readFrom_5 rfl (lv_at hl 0 rfl) ?_
  refine lv_iconst (v := (0 : Int32)) hx hb dX8_readFrom_6 (by decide) ?_
  obtain ⟨U3, e4, hF⟩ := nw_s hF
  refine k_put (W8 := fl [g8 q o0 a0 U3, g5 q o1 a1 tp S1, g9 q tp a2 940 S2]) C fp_X8_53 hP hD hS 0 rfl rfl rfl (Nat.le_of_ble_eq_true rfl) dX8_readFrom_7 (by rw [e4]; rfl) (fun H locs hP hD hS => ?_)
  refine lv_aload_n hx hb dX8_readFrom_10 rfl (lv_at hl 0 rfl) ?_
  refine lv_iconst (v := (0 : Int32)) hx hb dX8_readFrom_11 (by decide) ?_
  obtain ⟨U5, e6, hF⟩ := nw_s hF
  refine k_put (W8 := fl [g8 q o0 a0 U5, g5 q o1 a1 tp S1, g9 q tp a2 940 S2]) C fp_X8_56 hP hD hS 0 rfl rfl rfl (Nat.le_of_ble_eq_true rfl) dX8_readFrom_12 (by rw [e6]; rfl) (fun H locs hP hD hS => ?_)
  refine lv_aload_n hx hb dX8_readFrom_15 rfl (lv_at hl 0 rfl) ?_
  refine lv_iconst (v := (0 : Int32)) hx hb dX8_readFrom_16 (by decide) ?_
  obtain ⟨U7, e8, hF⟩ := nw_s hF
  refine k_put (W8 := fl [g8 q o0 a0 U7, g5 q o1 a1 tp S1, g9 q tp a2 940 S2]) C fp_X8_59 hP hD hS 0 rfl rfl rfl (Nat.le_of_ble_eq_true rfl) dX8_readFrom_17 (by rw [e8]; rfl) (fun H locs hP hD hS => ?_)
  refine lv_aload_n hx hb dX8_readFrom_20 rfl (lv_at hl 0 rfl) ?_
  refine lv_iconst (v := (0 : Int32)) hx hb dX8_readFrom_21 (by decide) ?_
  obtain ⟨U9, e10, hF⟩ := nw_s hF
  refine k_put (W8 := fl [g8 q o0 a0 U9, g5 q o1 a1 tp S1, g9 q tp a2 940 S2]) C fp_X8_62 hP hD hS 0 rfl rfl rfl (Nat.le_of_ble_eq_true rfl) dX8_readFrom_22 (by rw [e10]; rfl) (fun H locs hP hD hS => ?_)
  refine lv_aload_n hx hb dX8_readFrom_25 rfl (lv_at hl 1 rfl) ?_
  refine lv_sipush (v := (900 : Int32)) hx hb dX8_readFrom_26 (by decide) ?_
  obtain ⟨U12, hc11, hF⟩ := ob1_s hF
  refine k_vgrp (gs8 := [g8 q o0 a0 U9, g5 q o1 a1 tp U12, g9 q tp a2 940 S2]) C (k_rV (As := [.int (900 : Int32)]) (rest := []) C (c_X5_begin l D q tp o1 a1 S1 a2 S2 _ (900 : Int32) hc11) kc_X5_begin ml_X8_65 rfl rfl (by decide) (flP hP [1, 2] rfl) (flD hD [1, 2] (by decide) rfl) hS (va_recv hK hP (ci := 5) (q0 := 11) rfl rfl) rfl hl.1 rfl (Nat.le_of_ble_eq_true rfl) dX8_readFrom_29 (by decide)) hP hD hS [1, 2] [0] [g8 q o0 a0 U9] 3 (by decide) rfl rfl rfl rfl rfl rfl (by simp only [List.map_cons, List.map_nil, gad5, gad8, gad9]) (fun H locs hP hD hS => ?_)
  refine lv_iconst (v := (0 : Int32)) hx hb dX8_readFrom_32 (by decide) ?_
  refine lv_istore_n (lv' := [(2, .int (0 : Int32)), (0, .ref o0), (1, .ref o1)]) hx hb dX8_readFrom_33 rfl hl (by decide) rfl (fun ls hl => ?_)
  exact l_X8_readFrom_34 C hF _ _ _ hP hD hS (lv_sub hl [1, 2, 0] rfl)

abbrev rm_X8_hasTurret : Room := ({ frames := 0, cells := 0, slots := 0, locals := 0 } : Room)
def F_X8_hasTurret (S0 : St) (x1 : Int32) : Option (Int32) := if x1 < 0 then (some ((0 : Int32))) else (if (S0.1 0) ≤ x1 then (some ((0 : Int32))) else (some ((1 : Int32))))
set_option maxRecDepth 100000 in
set_option maxHeartbeats 4000000 in
theorem c_X8_hasTurret (l : Launch) (D : va_G) (q : Nat → ClassId) (o0 : Nat) (a0 : Nat → Nat) (S0 : St) (sz : Nat) (x1 : Int32) {r : Int32} (hF : F_X8_hasTurret S0 x1 = some (r)) : Met l yX8_hasTurret (Cond.code yX8_hasTurret cX8_hasTurret 2 (some .boolean) :: TB) rm_X8_hasTurret (PC D q [.ref o0, .int x1] (fl [g8 q o0 a0 S0]) sz) ((fun A => QI D A r (fl [g8 q o0 a0 S0])) (va_A (fl [g8 q o0 a0 S0]) sz)) 0 0 (va_A (fl [g8 q o0 a0 S0]) sz) := by
  refine k_met (w0 := fl [g8 q o0 a0 S0]) (Q := fun A => QI D A r (fl [g8 q o0 a0 S0])) (by decide +kernel) (Nat.le_of_ble_eq_true rfl) ?_
  intro p e s m args below meth c A ls C hP hD hS hl
  have hl : lv_has ls 2 [(0, .ref o0), (1, .int x1)] := hl
  unfold F_X8_hasTurret at hF
  have C : cx p s m args meth c cX8_hasTurret 2 (some .boolean) RX8 D q A := C
  obtain ⟨hx, hb, hr, hml, hown, hts, hlk, hA, hK, hN, hV⟩ := id C
  refine lv_iload_n hx hb dX8_hasTurret_0 rfl (lv_at hl 1 rfl) ?_
  refine lv_if_lt (tgt := 16) hx hb dX8_hasTurret_1 (by decide) (fun c1 => ?_) (fun c1 => ?_)
  · have hF := op_t hF c1
    refine lv_iconst (v := (0 : Int32)) hx hb dX8_hasTurret_16 (by decide) ?_
    cases hF
    exact k_zret C (by decide) hP hS dX8_hasTurret_17
  · have hF := op_f hF c1
    refine lv_iload_n hx hb dX8_hasTurret_4 rfl (lv_at hl 1 rfl) ?_
    refine lv_aload_n hx hb dX8_hasTurret_5 rfl (lv_at hl 0 rfl) ?_
    refine k_get (v := .int (S0.1 0)) C fg_X8_43 hP 0 rfl rfl dX8_hasTurret_6 ?_
    refine lv_icmp_ge (tgt := 16) hx hb dX8_hasTurret_9 (by decide) (fun c2 => ?_) (fun c2 => ?_)
    · have hF := op_t hF c2
      refine lv_iconst (v := (0 : Int32)) hx hb dX8_hasTurret_16 (by decide) ?_
      cases hF
      exact k_zret C (by decide) hP hS dX8_hasTurret_17
    · have hF := op_f hF c2
      refine lv_iconst (v := (1 : Int32)) hx hb dX8_hasTurret_12 (by decide) ?_
      refine lv_goto (tgt := 17) hx hb dX8_hasTurret_13 (by decide) ?_
      cases hF
      exact k_zret C (by decide) hP hS dX8_hasTurret_17

abbrev rm_X8_hasPerson : Room := ({ frames := 0, cells := 0, slots := 0, locals := 0 } : Room)
def F_X8_hasPerson (S0 : St) (x1 : Int32) : Option (Int32) := if x1 < 0 then (some ((0 : Int32))) else (if (S0.1 7) ≤ x1 then (some ((0 : Int32))) else (some ((1 : Int32))))
set_option maxRecDepth 100000 in
set_option maxHeartbeats 4000000 in
theorem c_X8_hasPerson (l : Launch) (D : va_G) (q : Nat → ClassId) (o0 : Nat) (a0 : Nat → Nat) (S0 : St) (sz : Nat) (x1 : Int32) {r : Int32} (hF : F_X8_hasPerson S0 x1 = some (r)) : Met l yX8_hasPerson (Cond.code yX8_hasPerson cX8_hasPerson 2 (some .boolean) :: TB) rm_X8_hasPerson (PC D q [.ref o0, .int x1] (fl [g8 q o0 a0 S0]) sz) ((fun A => QI D A r (fl [g8 q o0 a0 S0])) (va_A (fl [g8 q o0 a0 S0]) sz)) 0 0 (va_A (fl [g8 q o0 a0 S0]) sz) := by
  refine k_met (w0 := fl [g8 q o0 a0 S0]) (Q := fun A => QI D A r (fl [g8 q o0 a0 S0])) (by decide +kernel) (Nat.le_of_ble_eq_true rfl) ?_
  intro p e s m args below meth c A ls C hP hD hS hl
  have hl : lv_has ls 2 [(0, .ref o0), (1, .int x1)] := hl
  unfold F_X8_hasPerson at hF
  have C : cx p s m args meth c cX8_hasPerson 2 (some .boolean) RX8 D q A := C
  obtain ⟨hx, hb, hr, hml, hown, hts, hlk, hA, hK, hN, hV⟩ := id C
  refine lv_iload_n hx hb dX8_hasPerson_0 rfl (lv_at hl 1 rfl) ?_
  refine lv_if_lt (tgt := 16) hx hb dX8_hasPerson_1 (by decide) (fun c1 => ?_) (fun c1 => ?_)
  · have hF := op_t hF c1
    refine lv_iconst (v := (0 : Int32)) hx hb dX8_hasPerson_16 (by decide) ?_
    cases hF
    exact k_zret C (by decide) hP hS dX8_hasPerson_17
  · have hF := op_f hF c1
    refine lv_iload_n hx hb dX8_hasPerson_4 rfl (lv_at hl 1 rfl) ?_
    refine lv_aload_n hx hb dX8_hasPerson_5 rfl (lv_at hl 0 rfl) ?_
    refine k_get (v := .int (S0.1 7)) C fg_X8_59 hP 0 rfl rfl dX8_hasPerson_6 ?_
    refine lv_icmp_ge (tgt := 16) hx hb dX8_hasPerson_9 (by decide) (fun c2 => ?_) (fun c2 => ?_)
    · have hF := op_t hF c2
      refine lv_iconst (v := (0 : Int32)) hx hb dX8_hasPerson_16 (by decide) ?_
      cases hF
      exact k_zret C (by decide) hP hS dX8_hasPerson_17
    · have hF := op_f hF c2
      refine lv_iconst (v := (1 : Int32)) hx hb dX8_hasPerson_12 (by decide) ?_
      refine lv_goto (tgt := 17) hx hb dX8_hasPerson_13 (by decide) ?_
      cases hF
      exact k_zret C (by decide) hP hS dX8_hasPerson_17

abbrev rm_X8_lookBits : Room := ({ frames := 2, cells := 0, slots := 0, locals := 43 } : Room)
def F_X8_lookBits_11 (k11 : Int32 × Int32 × Int32 × Int32 × St → Option (Int32)) (x1 : Int32) (x2 : Int32) (x3 : Int32) (x4 : Int32) (S0 : St) : Option (Int32) := if x3 ≤ x4 then (some (x2)) else (ob1 (F_X8_lookAt S0 x1 x4) fun r3 => nw (x2 ||| ((1 : Int32) <<< (r3 &&& 31))) fun v4 => k11 (x1, v4, x3, (x4 + 1), S0))
def L_X8_lookBits_11 (x1 : Int32) (x2 : Int32) (x3 : Int32) (x4 : Int32) (S0 : St) : Option (Int32) := lp (fun kz z => F_X8_lookBits_11 kz z.1 z.2.1 z.2.2.1 z.2.2.2.1 z.2.2.2.2) FU (x1, x2, x3, x4, S0)
def F_X8_lookBits (S0 : St) (x1 : Int32) : Option (Int32) := ob1 (F_X8_lookCount S0 x1) fun r2 => L_X8_lookBits_11 x1 (0 : Int32) r2 (0 : Int32) S0
set_option maxRecDepth 100000 in
set_option maxHeartbeats 4000000 in
theorem b_X8_lookBits_11 {p : Program} {l : Launch} {e : Env} {s : State} {m : MethodId} {args : Array Value} {below : List Frame} {meth : Method} {c : Code} {D : va_G} {q : Nat → ClassId} {A : Nat → Prop} {o0 : Nat} {a0 : Nat → Nat} {r : Int32} (C : cx p s m args meth c cX8_lookBits 5 (some .int) RX8 D q A) {k11 : Int32 × Int32 × Int32 × Int32 × St → Option (Int32)} (hk11 : ∀ (x1 : Int32) (x2 : Int32) (x3 : Int32) (x4 : Int32) (S0 : St), k11 (x1, x2, x3, x4, S0) = some (r) → ∀ (H : Heap) (locs : List Loc) (ls : Array Slot), va_P D vwCl (fl [g8 q o0 a0 S0]) H → va_D A (fl [g8 q o0 a0 S0]) → va_S A s.heap H locs → lv_has ls 5 [(0, .ref o0), (1, .int x1), (2, .int x2), (3, .int x3), (4, .int x4)] → W p l e rm_X8_lookBits s m args below meth c H locs 0 0 (MQ below (QI D A r (fl [g8 q o0 a0 S0])) args s 0 0 A) (F0 m 11 ls [])) {x1 : Int32} {x2 : Int32} {x3 : Int32} {x4 : Int32} {S0 : St} (hF : F_X8_lookBits_11 k11 x1 x2 x3 x4 S0 = some (r)) {H : Heap} {locs : List Loc} (hP : va_P D vwCl (fl [g8 q o0 a0 S0]) H) (hD : va_D A (fl [g8 q o0 a0 S0])) (hS : va_S A s.heap H locs) {ls : Array Slot} (hl : lv_has ls 5 [(0, .ref o0), (1, .int x1), (2, .int x2), (3, .int x3), (4, .int x4)]) : W p l e rm_X8_lookBits s m args below meth c H locs 0 0 (MQ below (QI D A r (fl [g8 q o0 a0 S0])) args s 0 0 A) (F0 m 11 ls []) := by
  unfold F_X8_lookBits_11 at hF
  obtain ⟨hx, hb, hr, hml, hown, hts, hlk, hA, hK, hN, hV⟩ := id C
  refine lv_iload hx hb dX8_lookBits_11 (lv_at hl 4 rfl) ?_
  refine lv_iload_n hx hb dX8_lookBits_13 rfl (lv_at hl 3 rfl) ?_
  refine lv_icmp_ge (tgt := 35) hx hb dX8_lookBits_14 (by decide) (fun c1 => ?_) (fun c1 => ?_)
  · have hF := op_t hF c1
    refine lv_iload_n hx hb dX8_lookBits_35 rfl (lv_at hl 2 rfl) ?_
    cases hF
    exact k_iret C hP hS dX8_lookBits_36
  · have hF := op_f hF c1
    refine lv_iload_n hx hb dX8_lookBits_17 rfl (lv_at hl 2 rfl) ?_
    refine lv_iconst (v := (1 : Int32)) hx hb dX8_lookBits_18 (by decide) ?_
    refine lv_aload_n hx hb dX8_lookBits_19 rfl (lv_at hl 0 rfl) ?_
    refine lv_iload_n hx hb dX8_lookBits_20 rfl (lv_at hl 1 rfl) ?_
    refine lv_iload hx hb dX8_lookBits_21 (lv_at hl 4 rfl) ?_
    obtain ⟨r3, hc2, hF⟩ := ob1_s hF
    refine k_isame C (k_rV (As := [.int x1, .int x4]) (rest := [.int (1 : Int32), .int x2]) C (c_X8_lookAt l D q o0 a0 S0 _ x1 x4 hc2) kc_X8_lookAt ml_X8_134 rfl rfl (by decide) hP hD hS (va_recv hK hP (ci := 8) (q0 := 0) rfl rfl) rfl hl.1 rfl (Nat.le_of_ble_eq_true rfl) dX8_lookBits_23 (by decide)) hP hD hS (fun H locs hP hD hS => ?_)
    refine lv_ishl hx hb dX8_lookBits_26 ?_
    refine lv_ior hx hb dX8_lookBits_27 ?_
    obtain ⟨v4, e5, hF⟩ := nw_s hF
    refine k_rni e5 ?_
    refine lv_istore_n (lv' := [(2, .int v4), (0, .ref o0), (1, .int x1), (3, .int x3), (4, .int x4)]) hx hb dX8_lookBits_28 rfl hl (by decide) rfl (fun ls hl => ?_)
    refine lv_iinc (v := (x4 + 1)) (lv' := [(4, .int (x4 + 1)), (2, .int v4), (0, .ref o0), (1, .int x1), (3, .int x3)]) hx hb dX8_lookBits_29 hl (k := 4) rfl rfl (by decide) rfl (fun ls hl => ?_)
    refine lv_goto (tgt := 11) hx hb dX8_lookBits_32 (by decide) ?_
    exact hk11 x1 v4 x3 (x4 + 1) S0 hF _ _ _ hP hD hS (lv_sub hl [2, 3, 1, 4, 0] rfl)
set_option maxRecDepth 100000 in
set_option maxHeartbeats 4000000 in
theorem l_X8_lookBits_11 {p : Program} {l : Launch} {e : Env} {s : State} {m : MethodId} {args : Array Value} {below : List Frame} {meth : Method} {c : Code} {D : va_G} {q : Nat → ClassId} {A : Nat → Prop} {o0 : Nat} {a0 : Nat → Nat} {r : Int32} (C : cx p s m args meth c cX8_lookBits 5 (some .int) RX8 D q A) {x1 : Int32} {x2 : Int32} {x3 : Int32} {x4 : Int32} {S0 : St} (hF : L_X8_lookBits_11 x1 x2 x3 x4 S0 = some (r)) : ∀ (H : Heap) (locs : List Loc) (ls : Array Slot), va_P D vwCl (fl [g8 q o0 a0 S0]) H → va_D A (fl [g8 q o0 a0 S0]) → va_S A s.heap H locs → lv_has ls 5 [(0, .ref o0), (1, .int x1), (2, .int x2), (3, .int x3), (4, .int x4)] → W p l e rm_X8_lookBits s m args below meth c H locs 0 0 (MQ below (QI D A r (fl [g8 q o0 a0 S0])) args s 0 0 A) (F0 m 11 ls []) :=
  lp_G _ _ (fun z => ∀ (H : Heap) (locs : List Loc) (ls : Array Slot), va_P D vwCl (fl [g8 q o0 a0 z.2.2.2.2]) H → va_D A (fl [g8 q o0 a0 z.2.2.2.2]) → va_S A s.heap H locs → lv_has ls 5 [(0, .ref o0), (1, .int z.1), (2, .int z.2.1), (3, .int z.2.2.1), (4, .int z.2.2.2.1)] → W p l e rm_X8_lookBits s m args below meth c H locs 0 0 (MQ below (QI D A r (fl [g8 q o0 a0 z.2.2.2.2])) args s 0 0 A) (F0 m 11 ls [])) (fun kz hkz z hz H locs ls hP hD hS hl => b_X8_lookBits_11 C (fun x1 x2 x3 x4 S0 hz => hkz (x1, x2, x3, x4, S0) hz) hz hP hD hS hl) FU (x1, x2, x3, x4, S0) hF
set_option maxRecDepth 100000 in
set_option maxHeartbeats 4000000 in
theorem c_X8_lookBits (l : Launch) (D : va_G) (q : Nat → ClassId) (o0 : Nat) (a0 : Nat → Nat) (S0 : St) (sz : Nat) (x1 : Int32) {r : Int32} (hF : F_X8_lookBits S0 x1 = some (r)) : Met l yX8_lookBits (Cond.code yX8_lookBits cX8_lookBits 5 (some .int) :: TB) rm_X8_lookBits (PC D q [.ref o0, .int x1] (fl [g8 q o0 a0 S0]) sz) ((fun A => QI D A r (fl [g8 q o0 a0 S0])) (va_A (fl [g8 q o0 a0 S0]) sz)) 0 0 (va_A (fl [g8 q o0 a0 S0]) sz) := by
  refine k_met (w0 := fl [g8 q o0 a0 S0]) (Q := fun A => QI D A r (fl [g8 q o0 a0 S0])) (by decide +kernel) (Nat.le_of_ble_eq_true rfl) ?_
  intro p e s m args below meth c A ls C hP hD hS hl
  have hl : lv_has ls 5 [(0, .ref o0), (1, .int x1)] := hl
  unfold F_X8_lookBits at hF
  have C : cx p s m args meth c cX8_lookBits 5 (some .int) RX8 D q A := C
  obtain ⟨hx, hb, hr, hml, hown, hts, hlk, hA, hK, hN, hV⟩ := id C
  refine lv_iconst (v := (0 : Int32)) hx hb dX8_lookBits_0 (by decide) ?_
  refine lv_istore_n (lv' := [(2, .int (0 : Int32)), (0, .ref o0), (1, .int x1)]) hx hb dX8_lookBits_1 rfl hl (by decide) rfl (fun ls hl => ?_)
  refine lv_aload_n hx hb dX8_lookBits_2 rfl (lv_at hl 1 rfl) ?_
  refine lv_iload_n hx hb dX8_lookBits_3 rfl (lv_at hl 2 rfl) ?_
  obtain ⟨r2, hc1, hF⟩ := ob1_s hF
  refine k_isame C (k_rV (As := [.int x1]) (rest := []) C (c_X8_lookCount l D q o0 a0 S0 _ x1 hc1) kc_X8_lookCount ml_X8_131 rfl rfl (by decide) hP hD hS (va_recv hK hP (ci := 8) (q0 := 0) rfl rfl) rfl hl.1 rfl (Nat.le_of_ble_eq_true rfl) dX8_lookBits_4 (by decide)) hP hD hS (fun H locs hP hD hS => ?_)
  refine lv_istore_n (lv' := [(3, .int r2), (2, .int (0 : Int32)), (0, .ref o0), (1, .int x1)]) hx hb dX8_lookBits_7 rfl hl (by decide) rfl (fun ls hl => ?_)
  refine lv_iconst (v := (0 : Int32)) hx hb dX8_lookBits_8 (by decide) ?_
  refine lv_istore (lv' := [(4, .int (0 : Int32)), (3, .int r2), (2, .int (0 : Int32)), (0, .ref o0), (1, .int x1)]) hx hb dX8_lookBits_9 hl (by decide) rfl (fun ls hl => ?_)
  exact l_X8_lookBits_11 C hF _ _ _ hP hD hS (lv_sub hl [3, 4, 2, 1, 0] rfl)

abbrev rm_X8_lookBitsOfAll : Room := ({ frames := 3, cells := 0, slots := 0, locals := 67 } : Room)
def F_X8_lookBitsOfAll_29 (k4 : Int32 × Int32 × Int32 × St → Option (Int32)) (x1 : Int32) (x2 : Int32) (x3 : Int32) (S0 : St) : Option (Int32) := k4 (x1, x2, (x3 + 1), S0)
def F_X8_lookBitsOfAll_4 (k4 : Int32 × Int32 × Int32 × St → Option (Int32)) (x1 : Int32) (x2 : Int32) (x3 : Int32) (S0 : St) : Option (Int32) := if (S0.1 0) ≤ x3 then (some (x2)) else (if ((x1 >>> (x3 &&& 31)) &&& (1 : Int32)) = (1 : Int32) then (ob1 (F_X8_lookBits S0 x3) fun r4 => F_X8_lookBitsOfAll_29 k4 x1 (x2 ||| r4) x3 S0) else (F_X8_lookBitsOfAll_29 k4 x1 x2 x3 S0))
def L_X8_lookBitsOfAll_4 (x1 : Int32) (x2 : Int32) (x3 : Int32) (S0 : St) : Option (Int32) := lp (fun kz z => F_X8_lookBitsOfAll_4 kz z.1 z.2.1 z.2.2.1 z.2.2.2) FU (x1, x2, x3, S0)
def F_X8_lookBitsOfAll (S0 : St) (x1 : Int32) : Option (Int32) := L_X8_lookBitsOfAll_4 x1 (0 : Int32) (0 : Int32) S0
set_option maxRecDepth 100000 in
set_option maxHeartbeats 4000000 in
theorem b_X8_lookBitsOfAll_29 {p : Program} {l : Launch} {e : Env} {s : State} {m : MethodId} {args : Array Value} {below : List Frame} {meth : Method} {c : Code} {D : va_G} {q : Nat → ClassId} {A : Nat → Prop} {o0 : Nat} {a0 : Nat → Nat} {r : Int32} (C : cx p s m args meth c cX8_lookBitsOfAll 4 (some .int) RX8 D q A) {k4 : Int32 × Int32 × Int32 × St → Option (Int32)} (hk4 : ∀ (x1 : Int32) (x2 : Int32) (x3 : Int32) (S0 : St), k4 (x1, x2, x3, S0) = some (r) → ∀ (H : Heap) (locs : List Loc) (ls : Array Slot), va_P D vwCl (fl [g8 q o0 a0 S0]) H → va_D A (fl [g8 q o0 a0 S0]) → va_S A s.heap H locs → lv_has ls 4 [(0, .ref o0), (1, .int x1), (2, .int x2), (3, .int x3)] → W p l e rm_X8_lookBitsOfAll s m args below meth c H locs 0 0 (MQ below (QI D A r (fl [g8 q o0 a0 S0])) args s 0 0 A) (F0 m 4 ls [])) {x1 : Int32} {x2 : Int32} {x3 : Int32} {S0 : St} (hF : F_X8_lookBitsOfAll_29 k4 x1 x2 x3 S0 = some (r)) {H : Heap} {locs : List Loc} (hP : va_P D vwCl (fl [g8 q o0 a0 S0]) H) (hD : va_D A (fl [g8 q o0 a0 S0])) (hS : va_S A s.heap H locs) {ls : Array Slot} (hl : lv_has ls 4 [(0, .ref o0), (1, .int x1), (2, .int x2), (3, .int x3)]) : W p l e rm_X8_lookBitsOfAll s m args below meth c H locs 0 0 (MQ below (QI D A r (fl [g8 q o0 a0 S0])) args s 0 0 A) (F0 m 29 ls []) := by
  unfold F_X8_lookBitsOfAll_29 at hF
  obtain ⟨hx, hb, hr, hml, hown, hts, hlk, hA, hK, hN, hV⟩ := id C
  refine lv_iinc (v := (x3 + 1)) (lv' := [(3, .int (x3 + 1)), (0, .ref o0), (1, .int x1), (2, .int x2)]) hx hb dX8_lookBitsOfAll_29 hl (k := 3) rfl rfl (by decide) rfl (fun ls hl => ?_)
  refine lv_goto (tgt := 4) hx hb dX8_lookBitsOfAll_32 (by decide) ?_
  exact hk4 x1 x2 (x3 + 1) S0 hF _ _ _ hP hD hS (lv_sub hl [1, 2, 3, 0] rfl)
set_option maxRecDepth 100000 in
set_option maxHeartbeats 4000000 in
theorem b_X8_lookBitsOfAll_4 {p : Program} {l : Launch} {e : Env} {s : State} {m : MethodId} {args : Array Value} {below : List Frame} {meth : Method} {c : Code} {D : va_G} {q : Nat → ClassId} {A : Nat → Prop} {o0 : Nat} {a0 : Nat → Nat} {r : Int32} (C : cx p s m args meth c cX8_lookBitsOfAll 4 (some .int) RX8 D q A) {k4 : Int32 × Int32 × Int32 × St → Option (Int32)} (hk4 : ∀ (x1 : Int32) (x2 : Int32) (x3 : Int32) (S0 : St), k4 (x1, x2, x3, S0) = some (r) → ∀ (H : Heap) (locs : List Loc) (ls : Array Slot), va_P D vwCl (fl [g8 q o0 a0 S0]) H → va_D A (fl [g8 q o0 a0 S0]) → va_S A s.heap H locs → lv_has ls 4 [(0, .ref o0), (1, .int x1), (2, .int x2), (3, .int x3)] → W p l e rm_X8_lookBitsOfAll s m args below meth c H locs 0 0 (MQ below (QI D A r (fl [g8 q o0 a0 S0])) args s 0 0 A) (F0 m 4 ls [])) {x1 : Int32} {x2 : Int32} {x3 : Int32} {S0 : St} (hF : F_X8_lookBitsOfAll_4 k4 x1 x2 x3 S0 = some (r)) {H : Heap} {locs : List Loc} (hP : va_P D vwCl (fl [g8 q o0 a0 S0]) H) (hD : va_D A (fl [g8 q o0 a0 S0])) (hS : va_S A s.heap H locs) {ls : Array Slot} (hl : lv_has ls 4 [(0, .ref o0), (1, .int x1), (2, .int x2), (3, .int x3)]) : W p l e rm_X8_lookBitsOfAll s m args below meth c H locs 0 0 (MQ below (QI D A r (fl [g8 q o0 a0 S0])) args s 0 0 A) (F0 m 4 ls []) := by
  unfold F_X8_lookBitsOfAll_4 at hF
  obtain ⟨hx, hb, hr, hml, hown, hts, hlk, hA, hK, hN, hV⟩ := id C
  refine lv_iload_n hx hb dX8_lookBitsOfAll_4 rfl (lv_at hl 3 rfl) ?_
  refine lv_aload_n hx hb dX8_lookBitsOfAll_5 rfl (lv_at hl 0 rfl) ?_
  refine k_get (v := .int (S0.1 0)) C fg_X8_43 hP 0 rfl rfl dX8_lookBitsOfAll_6 ?_
  refine lv_icmp_ge (tgt := 35) hx hb dX8_lookBitsOfAll_9 (by decide) (fun c1 => ?_) (fun c1 => ?_)
  · have hF := op_t hF c1
    refine lv_iload_n hx hb dX8_lookBitsOfAll_35 rfl (lv_at hl 2 rfl) ?_
    cases hF
    exact k_iret C hP hS dX8_lookBitsOfAll_36
  · have hF := op_f hF c1
    refine lv_iload_n hx hb dX8_lookBitsOfAll_12 rfl (lv_at hl 1 rfl) ?_
    refine lv_iload_n hx hb dX8_lookBitsOfAll_13 rfl (lv_at hl 3 rfl) ?_
    refine lv_ishr hx hb dX8_lookBitsOfAll_14 ?_
    refine lv_iconst (v := (1 : Int32)) hx hb dX8_lookBitsOfAll_15 (by decide) ?_
    refine lv_iand hx hb dX8_lookBitsOfAll_16 ?_
    refine lv_iconst (v := (1 : Int32)) hx hb dX8_lookBitsOfAll_17 (by decide) ?_
    refine lv_icmp_ne (tgt := 29) hx hb dX8_lookBitsOfAll_18 (by decide) (fun c2 => ?_) (fun c2 => ?_)
    · have hF := op_f hF c2
      exact b_X8_lookBitsOfAll_29 C hk4 hF hP hD hS (lv_sub hl [0, 1, 2, 3] rfl)
    · have hF := op_t hF c2
      refine lv_iload_n hx hb dX8_lookBitsOfAll_21 rfl (lv_at hl 2 rfl) ?_
      refine lv_aload_n hx hb dX8_lookBitsOfAll_22 rfl (lv_at hl 0 rfl) ?_
      refine lv_iload_n hx hb dX8_lookBitsOfAll_23 rfl (lv_at hl 3 rfl) ?_
      obtain ⟨r4, hc3, hF⟩ := ob1_s hF
      refine k_isame C (k_rV (As := [.int x3]) (rest := [.int x2]) C (c_X8_lookBits l D q o0 a0 S0 _ x3 hc3) kc_X8_lookBits ml_X8_137 rfl rfl (by decide) hP hD hS (va_recv hK hP (ci := 8) (q0 := 0) rfl rfl) rfl hl.1 rfl (Nat.le_of_ble_eq_true rfl) dX8_lookBitsOfAll_24 (by decide)) hP hD hS (fun H locs hP hD hS => ?_)
      refine lv_ior hx hb dX8_lookBitsOfAll_27 ?_
      refine lv_istore_n (lv' := [(2, .int (x2 ||| r4)), (0, .ref o0), (1, .int x1), (3, .int x3)]) hx hb dX8_lookBitsOfAll_28 rfl hl (by decide) rfl (fun ls hl => ?_)
      exact b_X8_lookBitsOfAll_29 C hk4 hF hP hD hS (lv_sub hl [1, 2, 0, 3] rfl)
set_option maxRecDepth 100000 in
set_option maxHeartbeats 4000000 in
theorem l_X8_lookBitsOfAll_4 {p : Program} {l : Launch} {e : Env} {s : State} {m : MethodId} {args : Array Value} {below : List Frame} {meth : Method} {c : Code} {D : va_G} {q : Nat → ClassId} {A : Nat → Prop} {o0 : Nat} {a0 : Nat → Nat} {r : Int32} (C : cx p s m args meth c cX8_lookBitsOfAll 4 (some .int) RX8 D q A) {x1 : Int32} {x2 : Int32} {x3 : Int32} {S0 : St} (hF : L_X8_lookBitsOfAll_4 x1 x2 x3 S0 = some (r)) : ∀ (H : Heap) (locs : List Loc) (ls : Array Slot), va_P D vwCl (fl [g8 q o0 a0 S0]) H → va_D A (fl [g8 q o0 a0 S0]) → va_S A s.heap H locs → lv_has ls 4 [(0, .ref o0), (1, .int x1), (2, .int x2), (3, .int x3)] → W p l e rm_X8_lookBitsOfAll s m args below meth c H locs 0 0 (MQ below (QI D A r (fl [g8 q o0 a0 S0])) args s 0 0 A) (F0 m 4 ls []) :=
  lp_G _ _ (fun z => ∀ (H : Heap) (locs : List Loc) (ls : Array Slot), va_P D vwCl (fl [g8 q o0 a0 z.2.2.2]) H → va_D A (fl [g8 q o0 a0 z.2.2.2]) → va_S A s.heap H locs → lv_has ls 4 [(0, .ref o0), (1, .int z.1), (2, .int z.2.1), (3, .int z.2.2.1)] → W p l e rm_X8_lookBitsOfAll s m args below meth c H locs 0 0 (MQ below (QI D A r (fl [g8 q o0 a0 z.2.2.2])) args s 0 0 A) (F0 m 4 ls [])) (fun kz hkz z hz H locs ls hP hD hS hl => b_X8_lookBitsOfAll_4 C (fun x1 x2 x3 S0 hz => hkz (x1, x2, x3, S0) hz) hz hP hD hS hl) FU (x1, x2, x3, S0) hF
set_option maxRecDepth 100000 in
set_option maxHeartbeats 4000000 in
theorem c_X8_lookBitsOfAll (l : Launch) (D : va_G) (q : Nat → ClassId) (o0 : Nat) (a0 : Nat → Nat) (S0 : St) (sz : Nat) (x1 : Int32) {r : Int32} (hF : F_X8_lookBitsOfAll S0 x1 = some (r)) : Met l yX8_lookBitsOfAll (Cond.code yX8_lookBitsOfAll cX8_lookBitsOfAll 4 (some .int) :: TB) rm_X8_lookBitsOfAll (PC D q [.ref o0, .int x1] (fl [g8 q o0 a0 S0]) sz) ((fun A => QI D A r (fl [g8 q o0 a0 S0])) (va_A (fl [g8 q o0 a0 S0]) sz)) 0 0 (va_A (fl [g8 q o0 a0 S0]) sz) := by
  refine k_met (w0 := fl [g8 q o0 a0 S0]) (Q := fun A => QI D A r (fl [g8 q o0 a0 S0])) (by decide +kernel) (Nat.le_of_ble_eq_true rfl) ?_
  intro p e s m args below meth c A ls C hP hD hS hl
  have hl : lv_has ls 4 [(0, .ref o0), (1, .int x1)] := hl
  unfold F_X8_lookBitsOfAll at hF
  have C : cx p s m args meth c cX8_lookBitsOfAll 4 (some .int) RX8 D q A := C
  obtain ⟨hx, hb, hr, hml, hown, hts, hlk, hA, hK, hN, hV⟩ := id C
  refine lv_iconst (v := (0 : Int32)) hx hb dX8_lookBitsOfAll_0 (by decide) ?_
  refine lv_istore_n (lv' := [(2, .int (0 : Int32)), (0, .ref o0), (1, .int x1)]) hx hb dX8_lookBitsOfAll_1 rfl hl (by decide) rfl (fun ls hl => ?_)
  refine lv_iconst (v := (0 : Int32)) hx hb dX8_lookBitsOfAll_2 (by decide) ?_
  refine lv_istore_n (lv' := [(3, .int (0 : Int32)), (2, .int (0 : Int32)), (0, .ref o0), (1, .int x1)]) hx hb dX8_lookBitsOfAll_3 rfl hl (by decide) rfl (fun ls hl => ?_)
  exact l_X8_lookBitsOfAll_4 C hF _ _ _ hP hD hS (lv_sub hl [2, 3, 1, 0] rfl)

abbrev rm_X8_upBits : Room := ({ frames := 0, cells := 0, slots := 0, locals := 0 } : Room)
def F_X8_upBits_30 (k4 : Int32 × Int32 × St → Option (Int32)) (x2 : Int32) (s0 : Int32) (s1 : Int32) (S0 : St) : Option (Int32) := k4 ((s0 ||| s1), (x2 + 1), S0)
def F_X8_upBits_4 (k4 : Int32 × Int32 × St → Option (Int32)) (x1 : Int32) (x2 : Int32) (S0 : St) : Option (Int32) := if (S0.1 7) ≤ x2 then (some (x1)) else (if oob x2 6 then none else if (S0.2.2.1 12 x2.toNatClampNeg) = (-1 : Int32) then (F_X8_upBits_30 k4 x2 x1 (0 : Int32) S0) else (F_X8_upBits_30 k4 x2 x1 ((1 : Int32) <<< (x2 &&& 31)) S0))
def L_X8_upBits_4 (x1 : Int32) (x2 : Int32) (S0 : St) : Option (Int32) := lp (fun kz z => F_X8_upBits_4 kz z.1 z.2.1 z.2.2) FU (x1, x2, S0)
def F_X8_upBits (S0 : St) : Option (Int32) := L_X8_upBits_4 (0 : Int32) (0 : Int32) S0
set_option maxRecDepth 100000 in
set_option maxHeartbeats 4000000 in
theorem b_X8_upBits_30 {p : Program} {l : Launch} {e : Env} {s : State} {m : MethodId} {args : Array Value} {below : List Frame} {meth : Method} {c : Code} {D : va_G} {q : Nat → ClassId} {A : Nat → Prop} {o0 : Nat} {a0 : Nat → Nat} {r : Int32} (C : cx p s m args meth c cX8_upBits 3 (some .int) RX8 D q A) {k4 : Int32 × Int32 × St → Option (Int32)} (hk4 : ∀ (x1 : Int32) (x2 : Int32) (S0 : St), k4 (x1, x2, S0) = some (r) → ∀ (H : Heap) (locs : List Loc) (ls : Array Slot), va_P D vwCl (fl [g8 q o0 a0 S0]) H → va_D A (fl [g8 q o0 a0 S0]) → va_S A s.heap H locs → lv_has ls 3 [(0, .ref o0), (1, .int x1), (2, .int x2)] → W p l e rm_X8_upBits s m args below meth c H locs 0 0 (MQ below (QI D A r (fl [g8 q o0 a0 S0])) args s 0 0 A) (F0 m 4 ls [])) {x2 : Int32} {s0 : Int32} {s1 : Int32} {S0 : St} (hF : F_X8_upBits_30 k4 x2 s0 s1 S0 = some (r)) {H : Heap} {locs : List Loc} (hP : va_P D vwCl (fl [g8 q o0 a0 S0]) H) (hD : va_D A (fl [g8 q o0 a0 S0])) (hS : va_S A s.heap H locs) {ls : Array Slot} (hl : lv_has ls 3 [(0, .ref o0), (2, .int x2)]) : W p l e rm_X8_upBits s m args below meth c H locs 0 0 (MQ below (QI D A r (fl [g8 q o0 a0 S0])) args s 0 0 A) (F0 m 30 ls [.int s1, .int s0]) := by
  unfold F_X8_upBits_30 at hF
  obtain ⟨hx, hb, hr, hml, hown, hts, hlk, hA, hK, hN, hV⟩ := id C
  refine lv_ior hx hb dX8_upBits_30 ?_
  refine lv_istore_n (lv' := [(1, .int (s0 ||| s1)), (0, .ref o0), (2, .int x2)]) hx hb dX8_upBits_31 rfl hl (by decide) rfl (fun ls hl => ?_)
  refine lv_iinc (v := (x2 + 1)) (lv' := [(2, .int (x2 + 1)), (1, .int (s0 ||| s1)), (0, .ref o0)]) hx hb dX8_upBits_32 hl (k := 2) rfl rfl (by decide) rfl (fun ls hl => ?_)
  refine lv_goto (tgt := 4) hx hb dX8_upBits_35 (by decide) ?_
  exact hk4 (s0 ||| s1) (x2 + 1) S0 hF _ _ _ hP hD hS (lv_sub hl [2, 1, 0] rfl)
set_option maxRecDepth 100000 in
set_option maxHeartbeats 4000000 in
theorem b_X8_upBits_4 {p : Program} {l : Launch} {e : Env} {s : State} {m : MethodId} {args : Array Value} {below : List Frame} {meth : Method} {c : Code} {D : va_G} {q : Nat → ClassId} {A : Nat → Prop} {o0 : Nat} {a0 : Nat → Nat} {r : Int32} (C : cx p s m args meth c cX8_upBits 3 (some .int) RX8 D q A) {k4 : Int32 × Int32 × St → Option (Int32)} (hk4 : ∀ (x1 : Int32) (x2 : Int32) (S0 : St), k4 (x1, x2, S0) = some (r) → ∀ (H : Heap) (locs : List Loc) (ls : Array Slot), va_P D vwCl (fl [g8 q o0 a0 S0]) H → va_D A (fl [g8 q o0 a0 S0]) → va_S A s.heap H locs → lv_has ls 3 [(0, .ref o0), (1, .int x1), (2, .int x2)] → W p l e rm_X8_upBits s m args below meth c H locs 0 0 (MQ below (QI D A r (fl [g8 q o0 a0 S0])) args s 0 0 A) (F0 m 4 ls [])) {x1 : Int32} {x2 : Int32} {S0 : St} (hF : F_X8_upBits_4 k4 x1 x2 S0 = some (r)) {H : Heap} {locs : List Loc} (hP : va_P D vwCl (fl [g8 q o0 a0 S0]) H) (hD : va_D A (fl [g8 q o0 a0 S0])) (hS : va_S A s.heap H locs) {ls : Array Slot} (hl : lv_has ls 3 [(0, .ref o0), (1, .int x1), (2, .int x2)]) : W p l e rm_X8_upBits s m args below meth c H locs 0 0 (MQ below (QI D A r (fl [g8 q o0 a0 S0])) args s 0 0 A) (F0 m 4 ls []) := by
  unfold F_X8_upBits_4 at hF
  obtain ⟨hx, hb, hr, hml, hown, hts, hlk, hA, hK, hN, hV⟩ := id C
  refine lv_iload_n hx hb dX8_upBits_4 rfl (lv_at hl 2 rfl) ?_
  refine lv_aload_n hx hb dX8_upBits_5 rfl (lv_at hl 0 rfl) ?_
  refine k_get (v := .int (S0.1 7)) C fg_X8_59 hP 0 rfl rfl dX8_upBits_6 ?_
  refine lv_icmp_ge (tgt := 38) hx hb dX8_upBits_9 (by decide) (fun c1 => ?_) (fun c1 => ?_)
  · have hF := op_t hF c1
    refine lv_iload_n hx hb dX8_upBits_38 rfl (lv_at hl 1 rfl) ?_
    cases hF
    exact k_iret C hP hS dX8_upBits_39
  · have hF := op_f hF c1
    refine lv_iload_n hx hb dX8_upBits_12 rfl (lv_at hl 1 rfl) ?_
    refine lv_aload_n hx hb dX8_upBits_13 rfl (lv_at hl 0 rfl) ?_
    refine k_get (v := .ref (a0 13)) C fg_X8_37 hP 0 rfl rfl dX8_upBits_14 ?_
    refine lv_iload_n hx hb dX8_upBits_17 rfl (lv_at hl 2 rfl) ?_
    obtain ⟨h2, hF⟩ := op_ck hF
    refine k_ild (f := S0.2.2.1 12) C hP 9 rfl h2 dX8_upBits_18 ?_
    refine lv_iconst (v := (-1 : Int32)) hx hb dX8_upBits_19 (by decide) ?_
    refine lv_icmp_ne (tgt := 27) hx hb dX8_upBits_20 (by decide) (fun c3 => ?_) (fun c3 => ?_)
    · have hF := op_f hF c3
      refine lv_iconst (v := (1 : Int32)) hx hb dX8_upBits_27 (by decide) ?_
      refine lv_iload_n hx hb dX8_upBits_28 rfl (lv_at hl 2 rfl) ?_
      refine lv_ishl hx hb dX8_upBits_29 ?_
      exact b_X8_upBits_30 C hk4 hF hP hD hS (lv_sub hl [0, 2] rfl)
    · have hF := op_t hF c3
      refine lv_iconst (v := (0 : Int32)) hx hb dX8_upBits_23 (by decide) ?_
      refine lv_goto (tgt := 30) hx hb dX8_upBits_24 (by decide) ?_
      exact b_X8_upBits_30 C hk4 hF hP hD hS (lv_sub hl [0, 2] rfl)
set_option maxRecDepth 100000 in
set_option maxHeartbeats 4000000 in
theorem l_X8_upBits_4 {p : Program} {l : Launch} {e : Env} {s : State} {m : MethodId} {args : Array Value} {below : List Frame} {meth : Method} {c : Code} {D : va_G} {q : Nat → ClassId} {A : Nat → Prop} {o0 : Nat} {a0 : Nat → Nat} {r : Int32} (C : cx p s m args meth c cX8_upBits 3 (some .int) RX8 D q A) {x1 : Int32} {x2 : Int32} {S0 : St} (hF : L_X8_upBits_4 x1 x2 S0 = some (r)) : ∀ (H : Heap) (locs : List Loc) (ls : Array Slot), va_P D vwCl (fl [g8 q o0 a0 S0]) H → va_D A (fl [g8 q o0 a0 S0]) → va_S A s.heap H locs → lv_has ls 3 [(0, .ref o0), (1, .int x1), (2, .int x2)] → W p l e rm_X8_upBits s m args below meth c H locs 0 0 (MQ below (QI D A r (fl [g8 q o0 a0 S0])) args s 0 0 A) (F0 m 4 ls []) :=
  lp_G _ _ (fun z => ∀ (H : Heap) (locs : List Loc) (ls : Array Slot), va_P D vwCl (fl [g8 q o0 a0 z.2.2]) H → va_D A (fl [g8 q o0 a0 z.2.2]) → va_S A s.heap H locs → lv_has ls 3 [(0, .ref o0), (1, .int z.1), (2, .int z.2.1)] → W p l e rm_X8_upBits s m args below meth c H locs 0 0 (MQ below (QI D A r (fl [g8 q o0 a0 z.2.2])) args s 0 0 A) (F0 m 4 ls [])) (fun kz hkz z hz H locs ls hP hD hS hl => b_X8_upBits_4 C (fun x1 x2 S0 hz => hkz (x1, x2, S0) hz) hz hP hD hS hl) FU (x1, x2, S0) hF
set_option maxRecDepth 100000 in
set_option maxHeartbeats 4000000 in
theorem c_X8_upBits (l : Launch) (D : va_G) (q : Nat → ClassId) (o0 : Nat) (a0 : Nat → Nat) (S0 : St) (sz : Nat) {r : Int32} (hF : F_X8_upBits S0 = some (r)) : Met l yX8_upBits (Cond.code yX8_upBits cX8_upBits 3 (some .int) :: TB) rm_X8_upBits (PC D q [.ref o0] (fl [g8 q o0 a0 S0]) sz) ((fun A => QI D A r (fl [g8 q o0 a0 S0])) (va_A (fl [g8 q o0 a0 S0]) sz)) 0 0 (va_A (fl [g8 q o0 a0 S0]) sz) := by
  refine k_met (w0 := fl [g8 q o0 a0 S0]) (Q := fun A => QI D A r (fl [g8 q o0 a0 S0])) (by decide +kernel) (Nat.le_of_ble_eq_true rfl) ?_
  intro p e s m args below meth c A ls C hP hD hS hl
  have hl : lv_has ls 3 [(0, .ref o0)] := hl
  unfold F_X8_upBits at hF
  have C : cx p s m args meth c cX8_upBits 3 (some .int) RX8 D q A := C
  obtain ⟨hx, hb, hr, hml, hown, hts, hlk, hA, hK, hN, hV⟩ := id C
  refine lv_iconst (v := (0 : Int32)) hx hb dX8_upBits_0 (by decide) ?_
  refine lv_istore_n (lv' := [(1, .int (0 : Int32)), (0, .ref o0)]) hx hb dX8_upBits_1 rfl hl (by decide) rfl (fun ls hl => ?_)
  refine lv_iconst (v := (0 : Int32)) hx hb dX8_upBits_2 (by decide) ?_
  refine lv_istore_n (lv' := [(2, .int (0 : Int32)), (1, .int (0 : Int32)), (0, .ref o0)]) hx hb dX8_upBits_3 rfl hl (by decide) rfl (fun ls hl => ?_)
  exact l_X8_upBits_4 C hF _ _ _ hP hD hS (lv_sub hl [2, 1, 0] rfl)

abbrev rm_X8_mildBits : Room := ({ frames := 0, cells := 0, slots := 0, locals := 0 } : Room)
def F_X8_mildBits_29 (k4 : Int32 × Int32 × St → Option (Int32)) (x2 : Int32) (s0 : Int32) (s1 : Int32) (S0 : St) : Option (Int32) := k4 ((s0 ||| s1), (x2 + 1), S0)
def F_X8_mildBits_4 (k4 : Int32 × Int32 × St → Option (Int32)) (x1 : Int32) (x2 : Int32) (S0 : St) : Option (Int32) := if (S0.1 7) ≤ x2 then (some (x1)) else (if oob x2 6 then none else if (S0.2.2.1 9 x2.toNatClampNeg) = 0 then (F_X8_mildBits_29 k4 x2 x1 ((1 : Int32) <<< (x2 &&& 31)) S0) else (F_X8_mildBits_29 k4 x2 x1 (0 : Int32) S0))
def L_X8_mildBits_4 (x1 : Int32) (x2 : Int32) (S0 : St) : Option (Int32) := lp (fun kz z => F_X8_mildBits_4 kz z.1 z.2.1 z.2.2) FU (x1, x2, S0)
def F_X8_mildBits (S0 : St) : Option (Int32) := L_X8_mildBits_4 (0 : Int32) (0 : Int32) S0
set_option maxRecDepth 100000 in
set_option maxHeartbeats 4000000 in
theorem b_X8_mildBits_29 {p : Program} {l : Launch} {e : Env} {s : State} {m : MethodId} {args : Array Value} {below : List Frame} {meth : Method} {c : Code} {D : va_G} {q : Nat → ClassId} {A : Nat → Prop} {o0 : Nat} {a0 : Nat → Nat} {r : Int32} (C : cx p s m args meth c cX8_mildBits 3 (some .int) RX8 D q A) {k4 : Int32 × Int32 × St → Option (Int32)} (hk4 : ∀ (x1 : Int32) (x2 : Int32) (S0 : St), k4 (x1, x2, S0) = some (r) → ∀ (H : Heap) (locs : List Loc) (ls : Array Slot), va_P D vwCl (fl [g8 q o0 a0 S0]) H → va_D A (fl [g8 q o0 a0 S0]) → va_S A s.heap H locs → lv_has ls 3 [(0, .ref o0), (1, .int x1), (2, .int x2)] → W p l e rm_X8_mildBits s m args below meth c H locs 0 0 (MQ below (QI D A r (fl [g8 q o0 a0 S0])) args s 0 0 A) (F0 m 4 ls [])) {x2 : Int32} {s0 : Int32} {s1 : Int32} {S0 : St} (hF : F_X8_mildBits_29 k4 x2 s0 s1 S0 = some (r)) {H : Heap} {locs : List Loc} (hP : va_P D vwCl (fl [g8 q o0 a0 S0]) H) (hD : va_D A (fl [g8 q o0 a0 S0])) (hS : va_S A s.heap H locs) {ls : Array Slot} (hl : lv_has ls 3 [(0, .ref o0), (2, .int x2)]) : W p l e rm_X8_mildBits s m args below meth c H locs 0 0 (MQ below (QI D A r (fl [g8 q o0 a0 S0])) args s 0 0 A) (F0 m 29 ls [.int s1, .int s0]) := by
  unfold F_X8_mildBits_29 at hF
  obtain ⟨hx, hb, hr, hml, hown, hts, hlk, hA, hK, hN, hV⟩ := id C
  refine lv_ior hx hb dX8_mildBits_29 ?_
  refine lv_istore_n (lv' := [(1, .int (s0 ||| s1)), (0, .ref o0), (2, .int x2)]) hx hb dX8_mildBits_30 rfl hl (by decide) rfl (fun ls hl => ?_)
  refine lv_iinc (v := (x2 + 1)) (lv' := [(2, .int (x2 + 1)), (1, .int (s0 ||| s1)), (0, .ref o0)]) hx hb dX8_mildBits_31 hl (k := 2) rfl rfl (by decide) rfl (fun ls hl => ?_)
  refine lv_goto (tgt := 4) hx hb dX8_mildBits_34 (by decide) ?_
  exact hk4 (s0 ||| s1) (x2 + 1) S0 hF _ _ _ hP hD hS (lv_sub hl [2, 1, 0] rfl)
set_option maxRecDepth 100000 in
set_option maxHeartbeats 4000000 in
theorem b_X8_mildBits_4 {p : Program} {l : Launch} {e : Env} {s : State} {m : MethodId} {args : Array Value} {below : List Frame} {meth : Method} {c : Code} {D : va_G} {q : Nat → ClassId} {A : Nat → Prop} {o0 : Nat} {a0 : Nat → Nat} {r : Int32} (C : cx p s m args meth c cX8_mildBits 3 (some .int) RX8 D q A) {k4 : Int32 × Int32 × St → Option (Int32)} (hk4 : ∀ (x1 : Int32) (x2 : Int32) (S0 : St), k4 (x1, x2, S0) = some (r) → ∀ (H : Heap) (locs : List Loc) (ls : Array Slot), va_P D vwCl (fl [g8 q o0 a0 S0]) H → va_D A (fl [g8 q o0 a0 S0]) → va_S A s.heap H locs → lv_has ls 3 [(0, .ref o0), (1, .int x1), (2, .int x2)] → W p l e rm_X8_mildBits s m args below meth c H locs 0 0 (MQ below (QI D A r (fl [g8 q o0 a0 S0])) args s 0 0 A) (F0 m 4 ls [])) {x1 : Int32} {x2 : Int32} {S0 : St} (hF : F_X8_mildBits_4 k4 x1 x2 S0 = some (r)) {H : Heap} {locs : List Loc} (hP : va_P D vwCl (fl [g8 q o0 a0 S0]) H) (hD : va_D A (fl [g8 q o0 a0 S0])) (hS : va_S A s.heap H locs) {ls : Array Slot} (hl : lv_has ls 3 [(0, .ref o0), (1, .int x1), (2, .int x2)]) : W p l e rm_X8_mildBits s m args below meth c H locs 0 0 (MQ below (QI D A r (fl [g8 q o0 a0 S0])) args s 0 0 A) (F0 m 4 ls []) := by
  unfold F_X8_mildBits_4 at hF
  obtain ⟨hx, hb, hr, hml, hown, hts, hlk, hA, hK, hN, hV⟩ := id C
  refine lv_iload_n hx hb dX8_mildBits_4 rfl (lv_at hl 2 rfl) ?_
  refine lv_aload_n hx hb dX8_mildBits_5 rfl (lv_at hl 0 rfl) ?_
  refine k_get (v := .int (S0.1 7)) C fg_X8_59 hP 0 rfl rfl dX8_mildBits_6 ?_
  refine lv_icmp_ge (tgt := 37) hx hb dX8_mildBits_9 (by decide) (fun c1 => ?_) (fun c1 => ?_)
  · have hF := op_t hF c1
    refine lv_iload_n hx hb dX8_mildBits_37 rfl (lv_at hl 1 rfl) ?_
    cases hF
    exact k_iret C hP hS dX8_mildBits_38
  · have hF := op_f hF c1
    refine lv_iload_n hx hb dX8_mildBits_12 rfl (lv_at hl 1 rfl) ?_
    refine lv_aload_n hx hb dX8_mildBits_13 rfl (lv_at hl 0 rfl) ?_
    refine k_get (v := .ref (a0 10)) C fg_X8_28 hP 0 rfl rfl dX8_mildBits_14 ?_
    refine lv_iload_n hx hb dX8_mildBits_17 rfl (lv_at hl 2 rfl) ?_
    obtain ⟨h2, hF⟩ := op_ck hF
    refine k_ild (f := S0.2.2.1 9) C hP 6 rfl h2 dX8_mildBits_18 ?_
    refine lv_if_ne (tgt := 28) hx hb dX8_mildBits_19 (by decide) (fun c3 => ?_) (fun c3 => ?_)
    · have hF := op_f hF c3
      refine lv_iconst (v := (0 : Int32)) hx hb dX8_mildBits_28 (by decide) ?_
      exact b_X8_mildBits_29 C hk4 hF hP hD hS (lv_sub hl [0, 2] rfl)
    · have hF := op_t hF c3
      refine lv_iconst (v := (1 : Int32)) hx hb dX8_mildBits_22 (by decide) ?_
      refine lv_iload_n hx hb dX8_mildBits_23 rfl (lv_at hl 2 rfl) ?_
      refine lv_ishl hx hb dX8_mildBits_24 ?_
      refine lv_goto (tgt := 29) hx hb dX8_mildBits_25 (by decide) ?_
      exact b_X8_mildBits_29 C hk4 hF hP hD hS (lv_sub hl [0, 2] rfl)
set_option maxRecDepth 100000 in
set_option maxHeartbeats 4000000 in
theorem l_X8_mildBits_4 {p : Program} {l : Launch} {e : Env} {s : State} {m : MethodId} {args : Array Value} {below : List Frame} {meth : Method} {c : Code} {D : va_G} {q : Nat → ClassId} {A : Nat → Prop} {o0 : Nat} {a0 : Nat → Nat} {r : Int32} (C : cx p s m args meth c cX8_mildBits 3 (some .int) RX8 D q A) {x1 : Int32} {x2 : Int32} {S0 : St} (hF : L_X8_mildBits_4 x1 x2 S0 = some (r)) : ∀ (H : Heap) (locs : List Loc) (ls : Array Slot), va_P D vwCl (fl [g8 q o0 a0 S0]) H → va_D A (fl [g8 q o0 a0 S0]) → va_S A s.heap H locs → lv_has ls 3 [(0, .ref o0), (1, .int x1), (2, .int x2)] → W p l e rm_X8_mildBits s m args below meth c H locs 0 0 (MQ below (QI D A r (fl [g8 q o0 a0 S0])) args s 0 0 A) (F0 m 4 ls []) :=
  lp_G _ _ (fun z => ∀ (H : Heap) (locs : List Loc) (ls : Array Slot), va_P D vwCl (fl [g8 q o0 a0 z.2.2]) H → va_D A (fl [g8 q o0 a0 z.2.2]) → va_S A s.heap H locs → lv_has ls 3 [(0, .ref o0), (1, .int z.1), (2, .int z.2.1)] → W p l e rm_X8_mildBits s m args below meth c H locs 0 0 (MQ below (QI D A r (fl [g8 q o0 a0 z.2.2])) args s 0 0 A) (F0 m 4 ls [])) (fun kz hkz z hz H locs ls hP hD hS hl => b_X8_mildBits_4 C (fun x1 x2 S0 hz => hkz (x1, x2, S0) hz) hz hP hD hS hl) FU (x1, x2, S0) hF
set_option maxRecDepth 100000 in
set_option maxHeartbeats 4000000 in
theorem c_X8_mildBits (l : Launch) (D : va_G) (q : Nat → ClassId) (o0 : Nat) (a0 : Nat → Nat) (S0 : St) (sz : Nat) {r : Int32} (hF : F_X8_mildBits S0 = some (r)) : Met l yX8_mildBits (Cond.code yX8_mildBits cX8_mildBits 3 (some .int) :: TB) rm_X8_mildBits (PC D q [.ref o0] (fl [g8 q o0 a0 S0]) sz) ((fun A => QI D A r (fl [g8 q o0 a0 S0])) (va_A (fl [g8 q o0 a0 S0]) sz)) 0 0 (va_A (fl [g8 q o0 a0 S0]) sz) := by
  refine k_met (w0 := fl [g8 q o0 a0 S0]) (Q := fun A => QI D A r (fl [g8 q o0 a0 S0])) (by decide +kernel) (Nat.le_of_ble_eq_true rfl) ?_
  intro p e s m args below meth c A ls C hP hD hS hl
  have hl : lv_has ls 3 [(0, .ref o0)] := hl
  unfold F_X8_mildBits at hF
  have C : cx p s m args meth c cX8_mildBits 3 (some .int) RX8 D q A := C
  obtain ⟨hx, hb, hr, hml, hown, hts, hlk, hA, hK, hN, hV⟩ := id C
  refine lv_iconst (v := (0 : Int32)) hx hb dX8_mildBits_0 (by decide) ?_
  refine lv_istore_n (lv' := [(1, .int (0 : Int32)), (0, .ref o0)]) hx hb dX8_mildBits_1 rfl hl (by decide) rfl (fun ls hl => ?_)
  refine lv_iconst (v := (0 : Int32)) hx hb dX8_mildBits_2 (by decide) ?_
  refine lv_istore_n (lv' := [(2, .int (0 : Int32)), (1, .int (0 : Int32)), (0, .ref o0)]) hx hb dX8_mildBits_3 rfl hl (by decide) rfl (fun ls hl => ?_)
  exact l_X8_mildBits_4 C hF _ _ _ hP hD hS (lv_sub hl [2, 1, 0] rfl)

abbrev rm_X8_pleasedBits : Room := ({ frames := 1, cells := 0, slots := 0, locals := 21 } : Room)
def F_X8_pleasedBits_28 (k4 : Int32 × Int32 × St → Option (Int32)) (x2 : Int32) (s0 : Int32) (s1 : Int32) (S0 : St) : Option (Int32) := k4 ((s0 ||| s1), (x2 + 1), S0)
def F_X8_pleasedBits_4 (k4 : Int32 × Int32 × St → Option (Int32)) (x1 : Int32) (x2 : Int32) (S0 : St) : Option (Int32) := if (S0.1 7) ≤ x2 then (some (x1)) else (ob1 (F_X8_isPleased S0 x2) fun r3 => if r3 = 0 then (F_X8_pleasedBits_28 k4 x2 x1 (0 : Int32) S0) else (F_X8_pleasedBits_28 k4 x2 x1 ((1 : Int32) <<< (x2 &&& 31)) S0))
def L_X8_pleasedBits_4 (x1 : Int32) (x2 : Int32) (S0 : St) : Option (Int32) := lp (fun kz z => F_X8_pleasedBits_4 kz z.1 z.2.1 z.2.2) FU (x1, x2, S0)
def F_X8_pleasedBits (S0 : St) : Option (Int32) := L_X8_pleasedBits_4 (0 : Int32) (0 : Int32) S0
set_option maxRecDepth 100000 in
set_option maxHeartbeats 4000000 in
theorem b_X8_pleasedBits_28 {p : Program} {l : Launch} {e : Env} {s : State} {m : MethodId} {args : Array Value} {below : List Frame} {meth : Method} {c : Code} {D : va_G} {q : Nat → ClassId} {A : Nat → Prop} {o0 : Nat} {a0 : Nat → Nat} {r : Int32} (C : cx p s m args meth c cX8_pleasedBits 3 (some .int) RX8 D q A) {k4 : Int32 × Int32 × St → Option (Int32)} (hk4 : ∀ (x1 : Int32) (x2 : Int32) (S0 : St), k4 (x1, x2, S0) = some (r) → ∀ (H : Heap) (locs : List Loc) (ls : Array Slot), va_P D vwCl (fl [g8 q o0 a0 S0]) H → va_D A (fl [g8 q o0 a0 S0]) → va_S A s.heap H locs → lv_has ls 3 [(0, .ref o0), (1, .int x1), (2, .int x2)] → W p l e rm_X8_pleasedBits s m args below meth c H locs 0 0 (MQ below (QI D A r (fl [g8 q o0 a0 S0])) args s 0 0 A) (F0 m 4 ls [])) {x2 : Int32} {s0 : Int32} {s1 : Int32} {S0 : St} (hF : F_X8_pleasedBits_28 k4 x2 s0 s1 S0 = some (r)) {H : Heap} {locs : List Loc} (hP : va_P D vwCl (fl [g8 q o0 a0 S0]) H) (hD : va_D A (fl [g8 q o0 a0 S0])) (hS : va_S A s.heap H locs) {ls : Array Slot} (hl : lv_has ls 3 [(0, .ref o0), (2, .int x2)]) : W p l e rm_X8_pleasedBits s m args below meth c H locs 0 0 (MQ below (QI D A r (fl [g8 q o0 a0 S0])) args s 0 0 A) (F0 m 28 ls [.int s1, .int s0]) := by
  unfold F_X8_pleasedBits_28 at hF
  obtain ⟨hx, hb, hr, hml, hown, hts, hlk, hA, hK, hN, hV⟩ := id C
  refine lv_ior hx hb dX8_pleasedBits_28 ?_
  refine lv_istore_n (lv' := [(1, .int (s0 ||| s1)), (0, .ref o0), (2, .int x2)]) hx hb dX8_pleasedBits_29 rfl hl (by decide) rfl (fun ls hl => ?_)
  refine lv_iinc (v := (x2 + 1)) (lv' := [(2, .int (x2 + 1)), (1, .int (s0 ||| s1)), (0, .ref o0)]) hx hb dX8_pleasedBits_30 hl (k := 2) rfl rfl (by decide) rfl (fun ls hl => ?_)
  refine lv_goto (tgt := 4) hx hb dX8_pleasedBits_33 (by decide) ?_
  exact hk4 (s0 ||| s1) (x2 + 1) S0 hF _ _ _ hP hD hS (lv_sub hl [2, 1, 0] rfl)
set_option maxRecDepth 100000 in
set_option maxHeartbeats 4000000 in
theorem b_X8_pleasedBits_4 {p : Program} {l : Launch} {e : Env} {s : State} {m : MethodId} {args : Array Value} {below : List Frame} {meth : Method} {c : Code} {D : va_G} {q : Nat → ClassId} {A : Nat → Prop} {o0 : Nat} {a0 : Nat → Nat} {r : Int32} (C : cx p s m args meth c cX8_pleasedBits 3 (some .int) RX8 D q A) {k4 : Int32 × Int32 × St → Option (Int32)} (hk4 : ∀ (x1 : Int32) (x2 : Int32) (S0 : St), k4 (x1, x2, S0) = some (r) → ∀ (H : Heap) (locs : List Loc) (ls : Array Slot), va_P D vwCl (fl [g8 q o0 a0 S0]) H → va_D A (fl [g8 q o0 a0 S0]) → va_S A s.heap H locs → lv_has ls 3 [(0, .ref o0), (1, .int x1), (2, .int x2)] → W p l e rm_X8_pleasedBits s m args below meth c H locs 0 0 (MQ below (QI D A r (fl [g8 q o0 a0 S0])) args s 0 0 A) (F0 m 4 ls [])) {x1 : Int32} {x2 : Int32} {S0 : St} (hF : F_X8_pleasedBits_4 k4 x1 x2 S0 = some (r)) {H : Heap} {locs : List Loc} (hP : va_P D vwCl (fl [g8 q o0 a0 S0]) H) (hD : va_D A (fl [g8 q o0 a0 S0])) (hS : va_S A s.heap H locs) {ls : Array Slot} (hl : lv_has ls 3 [(0, .ref o0), (1, .int x1), (2, .int x2)]) : W p l e rm_X8_pleasedBits s m args below meth c H locs 0 0 (MQ below (QI D A r (fl [g8 q o0 a0 S0])) args s 0 0 A) (F0 m 4 ls []) := by
  unfold F_X8_pleasedBits_4 at hF
  obtain ⟨hx, hb, hr, hml, hown, hts, hlk, hA, hK, hN, hV⟩ := id C
  refine lv_iload_n hx hb dX8_pleasedBits_4 rfl (lv_at hl 2 rfl) ?_
  refine lv_aload_n hx hb dX8_pleasedBits_5 rfl (lv_at hl 0 rfl) ?_
  refine k_get (v := .int (S0.1 7)) C fg_X8_59 hP 0 rfl rfl dX8_pleasedBits_6 ?_
  refine lv_icmp_ge (tgt := 36) hx hb dX8_pleasedBits_9 (by decide) (fun c1 => ?_) (fun c1 => ?_)
  · have hF := op_t hF c1
    refine lv_iload_n hx hb dX8_pleasedBits_36 rfl (lv_at hl 1 rfl) ?_
    cases hF
    exact k_iret C hP hS dX8_pleasedBits_37
  · have hF := op_f hF c1
    refine lv_iload_n hx hb dX8_pleasedBits_12 rfl (lv_at hl 1 rfl) ?_
    refine lv_aload_n hx hb dX8_pleasedBits_13 rfl (lv_at hl 0 rfl) ?_
    refine lv_iload_n hx hb dX8_pleasedBits_14 rfl (lv_at hl 2 rfl) ?_
    obtain ⟨r3, hc2, hF⟩ := ob1_s hF
    refine k_isame C (k_rV (As := [.int x2]) (rest := [.int x1]) C (c_X8_isPleased l D q o0 a0 S0 _ x2 hc2) kc_X8_isPleased ml_X8_143 rfl rfl (by decide) hP hD hS (va_recv hK hP (ci := 8) (q0 := 0) rfl rfl) rfl hl.1 rfl (Nat.le_of_ble_eq_true rfl) dX8_pleasedBits_15 (by decide)) hP hD hS (fun H locs hP hD hS => ?_)
    refine lv_if_eq (tgt := 27) hx hb dX8_pleasedBits_18 (by decide) (fun c4 => ?_) (fun c4 => ?_)
    · have hF := op_t hF c4
      refine lv_iconst (v := (0 : Int32)) hx hb dX8_pleasedBits_27 (by decide) ?_
      exact b_X8_pleasedBits_28 C hk4 hF hP hD hS (lv_sub hl [0, 2] rfl)
    · have hF := op_f hF c4
      refine lv_iconst (v := (1 : Int32)) hx hb dX8_pleasedBits_21 (by decide) ?_
      refine lv_iload_n hx hb dX8_pleasedBits_22 rfl (lv_at hl 2 rfl) ?_
      refine lv_ishl hx hb dX8_pleasedBits_23 ?_
      refine lv_goto (tgt := 28) hx hb dX8_pleasedBits_24 (by decide) ?_
      exact b_X8_pleasedBits_28 C hk4 hF hP hD hS (lv_sub hl [0, 2] rfl)
set_option maxRecDepth 100000 in
set_option maxHeartbeats 4000000 in
theorem l_X8_pleasedBits_4 {p : Program} {l : Launch} {e : Env} {s : State} {m : MethodId} {args : Array Value} {below : List Frame} {meth : Method} {c : Code} {D : va_G} {q : Nat → ClassId} {A : Nat → Prop} {o0 : Nat} {a0 : Nat → Nat} {r : Int32} (C : cx p s m args meth c cX8_pleasedBits 3 (some .int) RX8 D q A) {x1 : Int32} {x2 : Int32} {S0 : St} (hF : L_X8_pleasedBits_4 x1 x2 S0 = some (r)) : ∀ (H : Heap) (locs : List Loc) (ls : Array Slot), va_P D vwCl (fl [g8 q o0 a0 S0]) H → va_D A (fl [g8 q o0 a0 S0]) → va_S A s.heap H locs → lv_has ls 3 [(0, .ref o0), (1, .int x1), (2, .int x2)] → W p l e rm_X8_pleasedBits s m args below meth c H locs 0 0 (MQ below (QI D A r (fl [g8 q o0 a0 S0])) args s 0 0 A) (F0 m 4 ls []) :=
  lp_G _ _ (fun z => ∀ (H : Heap) (locs : List Loc) (ls : Array Slot), va_P D vwCl (fl [g8 q o0 a0 z.2.2]) H → va_D A (fl [g8 q o0 a0 z.2.2]) → va_S A s.heap H locs → lv_has ls 3 [(0, .ref o0), (1, .int z.1), (2, .int z.2.1)] → W p l e rm_X8_pleasedBits s m args below meth c H locs 0 0 (MQ below (QI D A r (fl [g8 q o0 a0 z.2.2])) args s 0 0 A) (F0 m 4 ls [])) (fun kz hkz z hz H locs ls hP hD hS hl => b_X8_pleasedBits_4 C (fun x1 x2 S0 hz => hkz (x1, x2, S0) hz) hz hP hD hS hl) FU (x1, x2, S0) hF
set_option maxRecDepth 100000 in
set_option maxHeartbeats 4000000 in
theorem c_X8_pleasedBits (l : Launch) (D : va_G) (q : Nat → ClassId) (o0 : Nat) (a0 : Nat → Nat) (S0 : St) (sz : Nat) {r : Int32} (hF : F_X8_pleasedBits S0 = some (r)) : Met l yX8_pleasedBits (Cond.code yX8_pleasedBits cX8_pleasedBits 3 (some .int) :: TB) rm_X8_pleasedBits (PC D q [.ref o0] (fl [g8 q o0 a0 S0]) sz) ((fun A => QI D A r (fl [g8 q o0 a0 S0])) (va_A (fl [g8 q o0 a0 S0]) sz)) 0 0 (va_A (fl [g8 q o0 a0 S0]) sz) := by
  refine k_met (w0 := fl [g8 q o0 a0 S0]) (Q := fun A => QI D A r (fl [g8 q o0 a0 S0])) (by decide +kernel) (Nat.le_of_ble_eq_true rfl) ?_
  intro p e s m args below meth c A ls C hP hD hS hl
  have hl : lv_has ls 3 [(0, .ref o0)] := hl
  unfold F_X8_pleasedBits at hF
  have C : cx p s m args meth c cX8_pleasedBits 3 (some .int) RX8 D q A := C
  obtain ⟨hx, hb, hr, hml, hown, hts, hlk, hA, hK, hN, hV⟩ := id C
  refine lv_iconst (v := (0 : Int32)) hx hb dX8_pleasedBits_0 (by decide) ?_
  refine lv_istore_n (lv' := [(1, .int (0 : Int32)), (0, .ref o0)]) hx hb dX8_pleasedBits_1 rfl hl (by decide) rfl (fun ls hl => ?_)
  refine lv_iconst (v := (0 : Int32)) hx hb dX8_pleasedBits_2 (by decide) ?_
  refine lv_istore_n (lv' := [(2, .int (0 : Int32)), (1, .int (0 : Int32)), (0, .ref o0)]) hx hb dX8_pleasedBits_3 rfl hl (by decide) rfl (fun ls hl => ?_)
  exact l_X8_pleasedBits_4 C hF _ _ _ hP hD hS (lv_sub hl [2, 1, 0] rfl)

abbrev rm_X8_allClimbs : Room := ({ frames := 0, cells := 0, slots := 0, locals := 0 } : Room)
def F_X8_allClimbs_4 (k4 : Int32 × Int32 × St → Option (Int32)) (x1 : Int32) (x2 : Int32) (S0 : St) : Option (Int32) := if (S0.1 7) ≤ x2 then (some (x1)) else (if oob x2 6 then none else nw (x1 + (S0.2.2.1 13 x2.toNatClampNeg)) fun v3 => k4 (v3, (x2 + 1), S0))
def L_X8_allClimbs_4 (x1 : Int32) (x2 : Int32) (S0 : St) : Option (Int32) := lp (fun kz z => F_X8_allClimbs_4 kz z.1 z.2.1 z.2.2) FU (x1, x2, S0)
def F_X8_allClimbs (S0 : St) : Option (Int32) := L_X8_allClimbs_4 (0 : Int32) (0 : Int32) S0
set_option maxRecDepth 100000 in
set_option maxHeartbeats 4000000 in
theorem b_X8_allClimbs_4 {p : Program} {l : Launch} {e : Env} {s : State} {m : MethodId} {args : Array Value} {below : List Frame} {meth : Method} {c : Code} {D : va_G} {q : Nat → ClassId} {A : Nat → Prop} {o0 : Nat} {a0 : Nat → Nat} {r : Int32} (C : cx p s m args meth c cX8_allClimbs 3 (some .int) RX8 D q A) {k4 : Int32 × Int32 × St → Option (Int32)} (hk4 : ∀ (x1 : Int32) (x2 : Int32) (S0 : St), k4 (x1, x2, S0) = some (r) → ∀ (H : Heap) (locs : List Loc) (ls : Array Slot), va_P D vwCl (fl [g8 q o0 a0 S0]) H → va_D A (fl [g8 q o0 a0 S0]) → va_S A s.heap H locs → lv_has ls 3 [(0, .ref o0), (1, .int x1), (2, .int x2)] → W p l e rm_X8_allClimbs s m args below meth c H locs 0 0 (MQ below (QI D A r (fl [g8 q o0 a0 S0])) args s 0 0 A) (F0 m 4 ls [])) {x1 : Int32} {x2 : Int32} {S0 : St} (hF : F_X8_allClimbs_4 k4 x1 x2 S0 = some (r)) {H : Heap} {locs : List Loc} (hP : va_P D vwCl (fl [g8 q o0 a0 S0]) H) (hD : va_D A (fl [g8 q o0 a0 S0])) (hS : va_S A s.heap H locs) {ls : Array Slot} (hl : lv_has ls 3 [(0, .ref o0), (1, .int x1), (2, .int x2)]) : W p l e rm_X8_allClimbs s m args below meth c H locs 0 0 (MQ below (QI D A r (fl [g8 q o0 a0 S0])) args s 0 0 A) (F0 m 4 ls []) := by
  unfold F_X8_allClimbs_4 at hF
  obtain ⟨hx, hb, hr, hml, hown, hts, hlk, hA, hK, hN, hV⟩ := id C
  refine lv_iload_n hx hb dX8_allClimbs_4 rfl (lv_at hl 2 rfl) ?_
  refine lv_aload_n hx hb dX8_allClimbs_5 rfl (lv_at hl 0 rfl) ?_
  refine k_get (v := .int (S0.1 7)) C fg_X8_59 hP 0 rfl rfl dX8_allClimbs_6 ?_
  refine lv_icmp_ge (tgt := 27) hx hb dX8_allClimbs_9 (by decide) (fun c1 => ?_) (fun c1 => ?_)
  · have hF := op_t hF c1
    refine lv_iload_n hx hb dX8_allClimbs_27 rfl (lv_at hl 1 rfl) ?_
    cases hF
    exact k_iret C hP hS dX8_allClimbs_28
  · have hF := op_f hF c1
    refine lv_iload_n hx hb dX8_allClimbs_12 rfl (lv_at hl 1 rfl) ?_
    refine lv_aload_n hx hb dX8_allClimbs_13 rfl (lv_at hl 0 rfl) ?_
    refine k_get (v := .ref (a0 14)) C fg_X8_40 hP 0 rfl rfl dX8_allClimbs_14 ?_
    refine lv_iload_n hx hb dX8_allClimbs_17 rfl (lv_at hl 2 rfl) ?_
    obtain ⟨h2, hF⟩ := op_ck hF
    refine k_ild (f := S0.2.2.1 13) C hP 10 rfl h2 dX8_allClimbs_18 ?_
    refine lv_iadd hx hb dX8_allClimbs_19 ?_
    obtain ⟨v3, e4, hF⟩ := nw_s hF
    refine k_rni e4 ?_
    refine lv_istore_n (lv' := [(1, .int v3), (0, .ref o0), (2, .int x2)]) hx hb dX8_allClimbs_20 rfl hl (by decide) rfl (fun ls hl => ?_)
    refine lv_iinc (v := (x2 + 1)) (lv' := [(2, .int (x2 + 1)), (1, .int v3), (0, .ref o0)]) hx hb dX8_allClimbs_21 hl (k := 2) rfl rfl (by decide) rfl (fun ls hl => ?_)
    refine lv_goto (tgt := 4) hx hb dX8_allClimbs_24 (by decide) ?_
    exact hk4 v3 (x2 + 1) S0 hF _ _ _ hP hD hS (lv_sub hl [2, 1, 0] rfl)
set_option maxRecDepth 100000 in
set_option maxHeartbeats 4000000 in
theorem l_X8_allClimbs_4 {p : Program} {l : Launch} {e : Env} {s : State} {m : MethodId} {args : Array Value} {below : List Frame} {meth : Method} {c : Code} {D : va_G} {q : Nat → ClassId} {A : Nat → Prop} {o0 : Nat} {a0 : Nat → Nat} {r : Int32} (C : cx p s m args meth c cX8_allClimbs 3 (some .int) RX8 D q A) {x1 : Int32} {x2 : Int32} {S0 : St} (hF : L_X8_allClimbs_4 x1 x2 S0 = some (r)) : ∀ (H : Heap) (locs : List Loc) (ls : Array Slot), va_P D vwCl (fl [g8 q o0 a0 S0]) H → va_D A (fl [g8 q o0 a0 S0]) → va_S A s.heap H locs → lv_has ls 3 [(0, .ref o0), (1, .int x1), (2, .int x2)] → W p l e rm_X8_allClimbs s m args below meth c H locs 0 0 (MQ below (QI D A r (fl [g8 q o0 a0 S0])) args s 0 0 A) (F0 m 4 ls []) :=
  lp_G _ _ (fun z => ∀ (H : Heap) (locs : List Loc) (ls : Array Slot), va_P D vwCl (fl [g8 q o0 a0 z.2.2]) H → va_D A (fl [g8 q o0 a0 z.2.2]) → va_S A s.heap H locs → lv_has ls 3 [(0, .ref o0), (1, .int z.1), (2, .int z.2.1)] → W p l e rm_X8_allClimbs s m args below meth c H locs 0 0 (MQ below (QI D A r (fl [g8 q o0 a0 z.2.2])) args s 0 0 A) (F0 m 4 ls [])) (fun kz hkz z hz H locs ls hP hD hS hl => b_X8_allClimbs_4 C (fun x1 x2 S0 hz => hkz (x1, x2, S0) hz) hz hP hD hS hl) FU (x1, x2, S0) hF
set_option maxRecDepth 100000 in
set_option maxHeartbeats 4000000 in
theorem c_X8_allClimbs (l : Launch) (D : va_G) (q : Nat → ClassId) (o0 : Nat) (a0 : Nat → Nat) (S0 : St) (sz : Nat) {r : Int32} (hF : F_X8_allClimbs S0 = some (r)) : Met l yX8_allClimbs (Cond.code yX8_allClimbs cX8_allClimbs 3 (some .int) :: TB) rm_X8_allClimbs (PC D q [.ref o0] (fl [g8 q o0 a0 S0]) sz) ((fun A => QI D A r (fl [g8 q o0 a0 S0])) (va_A (fl [g8 q o0 a0 S0]) sz)) 0 0 (va_A (fl [g8 q o0 a0 S0]) sz) := by
  refine k_met (w0 := fl [g8 q o0 a0 S0]) (Q := fun A => QI D A r (fl [g8 q o0 a0 S0])) (by decide +kernel) (Nat.le_of_ble_eq_true rfl) ?_
  intro p e s m args below meth c A ls C hP hD hS hl
  have hl : lv_has ls 3 [(0, .ref o0)] := hl
  unfold F_X8_allClimbs at hF
  have C : cx p s m args meth c cX8_allClimbs 3 (some .int) RX8 D q A := C
  obtain ⟨hx, hb, hr, hml, hown, hts, hlk, hA, hK, hN, hV⟩ := id C
  refine lv_iconst (v := (0 : Int32)) hx hb dX8_allClimbs_0 (by decide) ?_
  refine lv_istore_n (lv' := [(1, .int (0 : Int32)), (0, .ref o0)]) hx hb dX8_allClimbs_1 rfl hl (by decide) rfl (fun ls hl => ?_)
  refine lv_iconst (v := (0 : Int32)) hx hb dX8_allClimbs_2 (by decide) ?_
  refine lv_istore_n (lv' := [(2, .int (0 : Int32)), (1, .int (0 : Int32)), (0, .ref o0)]) hx hb dX8_allClimbs_3 rfl hl (by decide) rfl (fun ls hl => ?_)
  exact l_X8_allClimbs_4 C hF _ _ _ hP hD hS (lv_sub hl [2, 1, 0] rfl)

abbrev rm_X8_allViews : Room := ({ frames := 1, cells := 0, slots := 0, locals := 20 } : Room)
def F_X8_allViews_4 (k4 : Int32 × Int32 × St → Option (Int32)) (x1 : Int32) (x2 : Int32) (S0 : St) : Option (Int32) := if (S0.1 7) ≤ x2 then (some (x1)) else (if oob x2 6 then none else ob1 (F_J6_bitCount_0f7a4 (S0.2.2.1 9 x2.toNatClampNeg)) fun r4 => k4 ((x1 + r4), (x2 + 1), S0))
def L_X8_allViews_4 (x1 : Int32) (x2 : Int32) (S0 : St) : Option (Int32) := lp (fun kz z => F_X8_allViews_4 kz z.1 z.2.1 z.2.2) FU (x1, x2, S0)
def F_X8_allViews (S0 : St) : Option (Int32) := L_X8_allViews_4 (0 : Int32) (0 : Int32) S0
set_option maxRecDepth 100000 in
set_option maxHeartbeats 4000000 in
theorem b_X8_allViews_4 {p : Program} {l : Launch} {e : Env} {s : State} {m : MethodId} {args : Array Value} {below : List Frame} {meth : Method} {c : Code} {D : va_G} {q : Nat → ClassId} {A : Nat → Prop} {o0 : Nat} {a0 : Nat → Nat} {r : Int32} (C : cx p s m args meth c cX8_allViews 3 (some .int) RX8 D q A) {k4 : Int32 × Int32 × St → Option (Int32)} (hk4 : ∀ (x1 : Int32) (x2 : Int32) (S0 : St), k4 (x1, x2, S0) = some (r) → ∀ (H : Heap) (locs : List Loc) (ls : Array Slot), va_P D vwCl (fl [g8 q o0 a0 S0]) H → va_D A (fl [g8 q o0 a0 S0]) → va_S A s.heap H locs → lv_has ls 3 [(0, .ref o0), (1, .int x1), (2, .int x2)] → W p l e rm_X8_allViews s m args below meth c H locs 0 0 (MQ below (QI D A r (fl [g8 q o0 a0 S0])) args s 0 0 A) (F0 m 4 ls [])) {x1 : Int32} {x2 : Int32} {S0 : St} (hF : F_X8_allViews_4 k4 x1 x2 S0 = some (r)) {H : Heap} {locs : List Loc} (hP : va_P D vwCl (fl [g8 q o0 a0 S0]) H) (hD : va_D A (fl [g8 q o0 a0 S0])) (hS : va_S A s.heap H locs) {ls : Array Slot} (hl : lv_has ls 3 [(0, .ref o0), (1, .int x1), (2, .int x2)]) : W p l e rm_X8_allViews s m args below meth c H locs 0 0 (MQ below (QI D A r (fl [g8 q o0 a0 S0])) args s 0 0 A) (F0 m 4 ls []) := by
  unfold F_X8_allViews_4 at hF
  obtain ⟨hx, hb, hr, hml, hown, hts, hlk, hA, hK, hN, hV⟩ := id C
  refine lv_iload_n hx hb dX8_allViews_4 rfl (lv_at hl 2 rfl) ?_
  refine lv_aload_n hx hb dX8_allViews_5 rfl (lv_at hl 0 rfl) ?_
  refine k_get (v := .int (S0.1 7)) C fg_X8_59 hP 0 rfl rfl dX8_allViews_6 ?_
  refine lv_icmp_ge (tgt := 30) hx hb dX8_allViews_9 (by decide) (fun c1 => ?_) (fun c1 => ?_)
  · have hF := op_t hF c1
    refine lv_iload_n hx hb dX8_allViews_30 rfl (lv_at hl 1 rfl) ?_
    cases hF
    exact k_iret C hP hS dX8_allViews_31
  · have hF := op_f hF c1
    refine lv_iload_n hx hb dX8_allViews_12 rfl (lv_at hl 1 rfl) ?_
    refine lv_aload_n hx hb dX8_allViews_13 rfl (lv_at hl 0 rfl) ?_
    refine k_get (v := .ref (a0 10)) C fg_X8_28 hP 0 rfl rfl dX8_allViews_14 ?_
    refine lv_iload_n hx hb dX8_allViews_17 rfl (lv_at hl 2 rfl) ?_
    obtain ⟨h2, hF⟩ := op_ck hF
    refine k_ild (f := S0.2.2.1 9) C hP 6 rfl h2 dX8_allViews_18 ?_
    obtain ⟨r4, hc3, hF⟩ := ob1_s hF
    refine k_inil C (k_rS (As := [.int (S0.2.2.1 9 x2.toNatClampNeg)]) (rest := [.int x1]) C (c_J6_bitCount_0f7a4 l D q _ (S0.2.2.1 9 x2.toNatClampNeg) hc3) kc_J6_bitCount_0f7a4 ml_X8_146 rfl rfl (by decide) (fun k x h => by simp at h) (⟨fun i j x y h => by simp at h, fun k x h => by simp at h⟩ : va_D A []) hS rfl hl.1 rfl (Nat.le_of_ble_eq_true rfl) dX8_allViews_19 (by decide)) hP hD hS (fun H locs hP hD hS => ?_)
    refine lv_iadd hx hb dX8_allViews_22 ?_
    refine lv_istore_n (lv' := [(1, .int (x1 + r4)), (0, .ref o0), (2, .int x2)]) hx hb dX8_allViews_23 rfl hl (by decide) rfl (fun ls hl => ?_)
    refine lv_iinc (v := (x2 + 1)) (lv' := [(2, .int (x2 + 1)), (1, .int (x1 + r4)), (0, .ref o0)]) hx hb dX8_allViews_24 hl (k := 2) rfl rfl (by decide) rfl (fun ls hl => ?_)
    refine lv_goto (tgt := 4) hx hb dX8_allViews_27 (by decide) ?_
    exact hk4 (x1 + r4) (x2 + 1) S0 hF _ _ _ hP hD hS (lv_sub hl [2, 1, 0] rfl)
set_option maxRecDepth 100000 in
set_option maxHeartbeats 4000000 in
theorem l_X8_allViews_4 {p : Program} {l : Launch} {e : Env} {s : State} {m : MethodId} {args : Array Value} {below : List Frame} {meth : Method} {c : Code} {D : va_G} {q : Nat → ClassId} {A : Nat → Prop} {o0 : Nat} {a0 : Nat → Nat} {r : Int32} (C : cx p s m args meth c cX8_allViews 3 (some .int) RX8 D q A) {x1 : Int32} {x2 : Int32} {S0 : St} (hF : L_X8_allViews_4 x1 x2 S0 = some (r)) : ∀ (H : Heap) (locs : List Loc) (ls : Array Slot), va_P D vwCl (fl [g8 q o0 a0 S0]) H → va_D A (fl [g8 q o0 a0 S0]) → va_S A s.heap H locs → lv_has ls 3 [(0, .ref o0), (1, .int x1), (2, .int x2)] → W p l e rm_X8_allViews s m args below meth c H locs 0 0 (MQ below (QI D A r (fl [g8 q o0 a0 S0])) args s 0 0 A) (F0 m 4 ls []) :=
  lp_G _ _ (fun z => ∀ (H : Heap) (locs : List Loc) (ls : Array Slot), va_P D vwCl (fl [g8 q o0 a0 z.2.2]) H → va_D A (fl [g8 q o0 a0 z.2.2]) → va_S A s.heap H locs → lv_has ls 3 [(0, .ref o0), (1, .int z.1), (2, .int z.2.1)] → W p l e rm_X8_allViews s m args below meth c H locs 0 0 (MQ below (QI D A r (fl [g8 q o0 a0 z.2.2])) args s 0 0 A) (F0 m 4 ls [])) (fun kz hkz z hz H locs ls hP hD hS hl => b_X8_allViews_4 C (fun x1 x2 S0 hz => hkz (x1, x2, S0) hz) hz hP hD hS hl) FU (x1, x2, S0) hF
set_option maxRecDepth 100000 in
set_option maxHeartbeats 4000000 in
theorem c_X8_allViews (l : Launch) (D : va_G) (q : Nat → ClassId) (o0 : Nat) (a0 : Nat → Nat) (S0 : St) (sz : Nat) {r : Int32} (hF : F_X8_allViews S0 = some (r)) : Met l yX8_allViews (Cond.code yX8_allViews cX8_allViews 3 (some .int) :: TB) rm_X8_allViews (PC D q [.ref o0] (fl [g8 q o0 a0 S0]) sz) ((fun A => QI D A r (fl [g8 q o0 a0 S0])) (va_A (fl [g8 q o0 a0 S0]) sz)) 0 0 (va_A (fl [g8 q o0 a0 S0]) sz) := by
  refine k_met (w0 := fl [g8 q o0 a0 S0]) (Q := fun A => QI D A r (fl [g8 q o0 a0 S0])) (by decide +kernel) (Nat.le_of_ble_eq_true rfl) ?_
  intro p e s m args below meth c A ls C hP hD hS hl
  have hl : lv_has ls 3 [(0, .ref o0)] := hl
  unfold F_X8_allViews at hF
  have C : cx p s m args meth c cX8_allViews 3 (some .int) RX8 D q A := C
  obtain ⟨hx, hb, hr, hml, hown, hts, hlk, hA, hK, hN, hV⟩ := id C
  refine lv_iconst (v := (0 : Int32)) hx hb dX8_allViews_0 (by decide) ?_
  refine lv_istore_n (lv' := [(1, .int (0 : Int32)), (0, .ref o0)]) hx hb dX8_allViews_1 rfl hl (by decide) rfl (fun ls hl => ?_)
  refine lv_iconst (v := (0 : Int32)) hx hb dX8_allViews_2 (by decide) ?_
  refine lv_istore_n (lv' := [(2, .int (0 : Int32)), (1, .int (0 : Int32)), (0, .ref o0)]) hx hb dX8_allViews_3 rfl hl (by decide) rfl (fun ls hl => ?_)
  exact l_X8_allViews_4 C hF _ _ _ hP hD hS (lv_sub hl [2, 1, 0] rfl)

abbrev rm_X8_howManyHave : Room := ({ frames := 0, cells := 0, slots := 0, locals := 0 } : Room)
def F_X8_howManyHave_4 (k4 : Int32 × Int32 × Int32 × St → Option (Int32)) (x1 : Int32) (x2 : Int32) (x3 : Int32) (S0 : St) : Option (Int32) := if (S0.1 7) ≤ x3 then (some (x2)) else (if oob x3 6 then none else nw (x2 + (((S0.2.2.1 9 x3.toNatClampNeg) >>> (x1 &&& 31)) &&& (1 : Int32))) fun v3 => k4 (x1, v3, (x3 + 1), S0))
def L_X8_howManyHave_4 (x1 : Int32) (x2 : Int32) (x3 : Int32) (S0 : St) : Option (Int32) := lp (fun kz z => F_X8_howManyHave_4 kz z.1 z.2.1 z.2.2.1 z.2.2.2) FU (x1, x2, x3, S0)
def F_X8_howManyHave (S0 : St) (x1 : Int32) : Option (Int32) := L_X8_howManyHave_4 x1 (0 : Int32) (0 : Int32) S0
set_option maxRecDepth 100000 in
set_option maxHeartbeats 4000000 in
theorem b_X8_howManyHave_4 {p : Program} {l : Launch} {e : Env} {s : State} {m : MethodId} {args : Array Value} {below : List Frame} {meth : Method} {c : Code} {D : va_G} {q : Nat → ClassId} {A : Nat → Prop} {o0 : Nat} {a0 : Nat → Nat} {r : Int32} (C : cx p s m args meth c cX8_howManyHave 4 (some .int) RX8 D q A) {k4 : Int32 × Int32 × Int32 × St → Option (Int32)} (hk4 : ∀ (x1 : Int32) (x2 : Int32) (x3 : Int32) (S0 : St), k4 (x1, x2, x3, S0) = some (r) → ∀ (H : Heap) (locs : List Loc) (ls : Array Slot), va_P D vwCl (fl [g8 q o0 a0 S0]) H → va_D A (fl [g8 q o0 a0 S0]) → va_S A s.heap H locs → lv_has ls 4 [(0, .ref o0), (1, .int x1), (2, .int x2), (3, .int x3)] → W p l e rm_X8_howManyHave s m args below meth c H locs 0 0 (MQ below (QI D A r (fl [g8 q o0 a0 S0])) args s 0 0 A) (F0 m 4 ls [])) {x1 : Int32} {x2 : Int32} {x3 : Int32} {S0 : St} (hF : F_X8_howManyHave_4 k4 x1 x2 x3 S0 = some (r)) {H : Heap} {locs : List Loc} (hP : va_P D vwCl (fl [g8 q o0 a0 S0]) H) (hD : va_D A (fl [g8 q o0 a0 S0])) (hS : va_S A s.heap H locs) {ls : Array Slot} (hl : lv_has ls 4 [(0, .ref o0), (1, .int x1), (2, .int x2), (3, .int x3)]) : W p l e rm_X8_howManyHave s m args below meth c H locs 0 0 (MQ below (QI D A r (fl [g8 q o0 a0 S0])) args s 0 0 A) (F0 m 4 ls []) := by
  unfold F_X8_howManyHave_4 at hF
  obtain ⟨hx, hb, hr, hml, hown, hts, hlk, hA, hK, hN, hV⟩ := id C
  refine lv_iload_n hx hb dX8_howManyHave_4 rfl (lv_at hl 3 rfl) ?_
  refine lv_aload_n hx hb dX8_howManyHave_5 rfl (lv_at hl 0 rfl) ?_
  refine k_get (v := .int (S0.1 7)) C fg_X8_59 hP 0 rfl rfl dX8_howManyHave_6 ?_
  refine lv_icmp_ge (tgt := 31) hx hb dX8_howManyHave_9 (by decide) (fun c1 => ?_) (fun c1 => ?_)
  · have hF := op_t hF c1
    refine lv_iload_n hx hb dX8_howManyHave_31 rfl (lv_at hl 2 rfl) ?_
    cases hF
    exact k_iret C hP hS dX8_howManyHave_32
  · have hF := op_f hF c1
    refine lv_iload_n hx hb dX8_howManyHave_12 rfl (lv_at hl 2 rfl) ?_
    refine lv_aload_n hx hb dX8_howManyHave_13 rfl (lv_at hl 0 rfl) ?_
    refine k_get (v := .ref (a0 10)) C fg_X8_28 hP 0 rfl rfl dX8_howManyHave_14 ?_
    refine lv_iload_n hx hb dX8_howManyHave_17 rfl (lv_at hl 3 rfl) ?_
    obtain ⟨h2, hF⟩ := op_ck hF
    refine k_ild (f := S0.2.2.1 9) C hP 6 rfl h2 dX8_howManyHave_18 ?_
    refine lv_iload_n hx hb dX8_howManyHave_19 rfl (lv_at hl 1 rfl) ?_
    refine lv_ishr hx hb dX8_howManyHave_20 ?_
    refine lv_iconst (v := (1 : Int32)) hx hb dX8_howManyHave_21 (by decide) ?_
    refine lv_iand hx hb dX8_howManyHave_22 ?_
    refine lv_iadd hx hb dX8_howManyHave_23 ?_
    obtain ⟨v3, e4, hF⟩ := nw_s hF
    refine k_rni e4 ?_
    refine lv_istore_n (lv' := [(2, .int v3), (0, .ref o0), (1, .int x1), (3, .int x3)]) hx hb dX8_howManyHave_24 rfl hl (by decide) rfl (fun ls hl => ?_)
    refine lv_iinc (v := (x3 + 1)) (lv' := [(3, .int (x3 + 1)), (2, .int v3), (0, .ref o0), (1, .int x1)]) hx hb dX8_howManyHave_25 hl (k := 3) rfl rfl (by decide) rfl (fun ls hl => ?_)
    refine lv_goto (tgt := 4) hx hb dX8_howManyHave_28 (by decide) ?_
    exact hk4 x1 v3 (x3 + 1) S0 hF _ _ _ hP hD hS (lv_sub hl [2, 3, 1, 0] rfl)
set_option maxRecDepth 100000 in
set_option maxHeartbeats 4000000 in
theorem l_X8_howManyHave_4 {p : Program} {l : Launch} {e : Env} {s : State} {m : MethodId} {args : Array Value} {below : List Frame} {meth : Method} {c : Code} {D : va_G} {q : Nat → ClassId} {A : Nat → Prop} {o0 : Nat} {a0 : Nat → Nat} {r : Int32} (C : cx p s m args meth c cX8_howManyHave 4 (some .int) RX8 D q A) {x1 : Int32} {x2 : Int32} {x3 : Int32} {S0 : St} (hF : L_X8_howManyHave_4 x1 x2 x3 S0 = some (r)) : ∀ (H : Heap) (locs : List Loc) (ls : Array Slot), va_P D vwCl (fl [g8 q o0 a0 S0]) H → va_D A (fl [g8 q o0 a0 S0]) → va_S A s.heap H locs → lv_has ls 4 [(0, .ref o0), (1, .int x1), (2, .int x2), (3, .int x3)] → W p l e rm_X8_howManyHave s m args below meth c H locs 0 0 (MQ below (QI D A r (fl [g8 q o0 a0 S0])) args s 0 0 A) (F0 m 4 ls []) :=
  lp_G _ _ (fun z => ∀ (H : Heap) (locs : List Loc) (ls : Array Slot), va_P D vwCl (fl [g8 q o0 a0 z.2.2.2]) H → va_D A (fl [g8 q o0 a0 z.2.2.2]) → va_S A s.heap H locs → lv_has ls 4 [(0, .ref o0), (1, .int z.1), (2, .int z.2.1), (3, .int z.2.2.1)] → W p l e rm_X8_howManyHave s m args below meth c H locs 0 0 (MQ below (QI D A r (fl [g8 q o0 a0 z.2.2.2])) args s 0 0 A) (F0 m 4 ls [])) (fun kz hkz z hz H locs ls hP hD hS hl => b_X8_howManyHave_4 C (fun x1 x2 x3 S0 hz => hkz (x1, x2, x3, S0) hz) hz hP hD hS hl) FU (x1, x2, x3, S0) hF
set_option maxRecDepth 100000 in
set_option maxHeartbeats 4000000 in
theorem c_X8_howManyHave (l : Launch) (D : va_G) (q : Nat → ClassId) (o0 : Nat) (a0 : Nat → Nat) (S0 : St) (sz : Nat) (x1 : Int32) {r : Int32} (hF : F_X8_howManyHave S0 x1 = some (r)) : Met l yX8_howManyHave (Cond.code yX8_howManyHave cX8_howManyHave 4 (some .int) :: TB) rm_X8_howManyHave (PC D q [.ref o0, .int x1] (fl [g8 q o0 a0 S0]) sz) ((fun A => QI D A r (fl [g8 q o0 a0 S0])) (va_A (fl [g8 q o0 a0 S0]) sz)) 0 0 (va_A (fl [g8 q o0 a0 S0]) sz) := by
  refine k_met (w0 := fl [g8 q o0 a0 S0]) (Q := fun A => QI D A r (fl [g8 q o0 a0 S0])) (by decide +kernel) (Nat.le_of_ble_eq_true rfl) ?_
  intro p e s m args below meth c A ls C hP hD hS hl
  have hl : lv_has ls 4 [(0, .ref o0), (1, .int x1)] := hl
  unfold F_X8_howManyHave at hF
  have C : cx p s m args meth c cX8_howManyHave 4 (some .int) RX8 D q A := C
  obtain ⟨hx, hb, hr, hml, hown, hts, hlk, hA, hK, hN, hV⟩ := id C
  refine lv_iconst (v := (0 : Int32)) hx hb dX8_howManyHave_0 (by decide) ?_
  refine lv_istore_n (lv' := [(2, .int (0 : Int32)), (0, .ref o0), (1, .int x1)]) hx hb dX8_howManyHave_1 rfl hl (by decide) rfl (fun ls hl => ?_)
  refine lv_iconst (v := (0 : Int32)) hx hb dX8_howManyHave_2 (by decide) ?_
  refine lv_istore_n (lv' := [(3, .int (0 : Int32)), (2, .int (0 : Int32)), (0, .ref o0), (1, .int x1)]) hx hb dX8_howManyHave_3 rfl hl (by decide) rfl (fun ls hl => ?_)
  exact l_X8_howManyHave_4 C hF _ _ _ hP hD hS (lv_sub hl [2, 3, 1, 0] rfl)

abbrev rm_X8_friendsOf : Room := ({ frames := 0, cells := 0, slots := 0, locals := 0 } : Room)
def F_X8_friendsOf_78 (k27 : Int32 × Int32 × Int32 × Int32 × St → Option (Int32)) (x1 : Int32) (x2 : Int32) (x3 : Int32) (x4 : Int32) (S0 : St) : Option (Int32) := k27 (x1, x2, x3, (x4 + 1), S0)
def F_X8_friendsOf_27 (k27 : Int32 × Int32 × Int32 × Int32 × St → Option (Int32)) (x1 : Int32) (x2 : Int32) (x3 : Int32) (x4 : Int32) (S0 : St) : Option (Int32) := if (S0.1 7) ≤ x4 then (some (x3)) else (if x4 = x1 then (F_X8_friendsOf_78 k27 x1 x2 x3 x4 S0) else (if oob x4 6 then none else if ((S0.2.2.1 9 x4.toNatClampNeg) &&& x2) = 0 then (if oob x4 6 then none else if oob x1 6 then none else if ((S0.2.2.1 9 x4.toNatClampNeg) &&& (S0.2.2.1 9 x1.toNatClampNeg)) = 0 then (F_X8_friendsOf_78 k27 x1 x2 x3 x4 S0) else (nw (x3 ||| ((1 : Int32) <<< (x4 &&& 31))) fun v8 => F_X8_friendsOf_78 k27 x1 x2 v8 x4 S0)) else (F_X8_friendsOf_78 k27 x1 x2 x3 x4 S0)))
def L_X8_friendsOf_27 (x1 : Int32) (x2 : Int32) (x3 : Int32) (x4 : Int32) (S0 : St) : Option (Int32) := lp (fun kz z => F_X8_friendsOf_27 kz z.1 z.2.1 z.2.2.1 z.2.2.2.1 z.2.2.2.2) FU (x1, x2, x3, x4, S0)
def F_X8_friendsOf (S0 : St) (x1 : Int32) : Option (Int32) := if oob x1 6 then none else if oob x1 6 then none else nw ((((S0.2.2.1 9 x1.toNatClampNeg) <<< ((4 : Int32) &&& 31)) ||| ((S0.2.2.1 9 x1.toNatClampNeg) >>> ((4 : Int32) &&& 31))) &&& (255 : Int32)) fun v3 => L_X8_friendsOf_27 x1 v3 (0 : Int32) (0 : Int32) S0
set_option maxRecDepth 100000 in
set_option maxHeartbeats 4000000 in
theorem b_X8_friendsOf_78 {p : Program} {l : Launch} {e : Env} {s : State} {m : MethodId} {args : Array Value} {below : List Frame} {meth : Method} {c : Code} {D : va_G} {q : Nat → ClassId} {A : Nat → Prop} {o0 : Nat} {a0 : Nat → Nat} {r : Int32} (C : cx p s m args meth c cX8_friendsOf 5 (some .int) RX8 D q A) {k27 : Int32 × Int32 × Int32 × Int32 × St → Option (Int32)} (hk27 : ∀ (x1 : Int32) (x2 : Int32) (x3 : Int32) (x4 : Int32) (S0 : St), k27 (x1, x2, x3, x4, S0) = some (r) → ∀ (H : Heap) (locs : List Loc) (ls : Array Slot), va_P D vwCl (fl [g8 q o0 a0 S0]) H → va_D A (fl [g8 q o0 a0 S0]) → va_S A s.heap H locs → lv_has ls 5 [(0, .ref o0), (1, .int x1), (2, .int x2), (3, .int x3), (4, .int x4)] → W p l e rm_X8_friendsOf s m args below meth c H locs 0 0 (MQ below (QI D A r (fl [g8 q o0 a0 S0])) args s 0 0 A) (F0 m 27 ls [])) {x1 : Int32} {x2 : Int32} {x3 : Int32} {x4 : Int32} {S0 : St} (hF : F_X8_friendsOf_78 k27 x1 x2 x3 x4 S0 = some (r)) {H : Heap} {locs : List Loc} (hP : va_P D vwCl (fl [g8 q o0 a0 S0]) H) (hD : va_D A (fl [g8 q o0 a0 S0])) (hS : va_S A s.heap H locs) {ls : Array Slot} (hl : lv_has ls 5 [(0, .ref o0), (1, .int x1), (2, .int x2), (3, .int x3), (4, .int x4)]) : W p l e rm_X8_friendsOf s m args below meth c H locs 0 0 (MQ below (QI D A r (fl [g8 q o0 a0 S0])) args s 0 0 A) (F0 m 78 ls []) := by
  unfold F_X8_friendsOf_78 at hF
  obtain ⟨hx, hb, hr, hml, hown, hts, hlk, hA, hK, hN, hV⟩ := id C
  refine lv_iinc (v := (x4 + 1)) (lv' := [(4, .int (x4 + 1)), (0, .ref o0), (1, .int x1), (2, .int x2), (3, .int x3)]) hx hb dX8_friendsOf_78 hl (k := 4) rfl rfl (by decide) rfl (fun ls hl => ?_)
  refine lv_goto (tgt := 27) hx hb dX8_friendsOf_81 (by decide) ?_
  exact hk27 x1 x2 x3 (x4 + 1) S0 hF _ _ _ hP hD hS (lv_sub hl [1, 2, 3, 4, 0] rfl)
set_option maxRecDepth 100000 in
set_option maxHeartbeats 4000000 in
theorem b_X8_friendsOf_27 {p : Program} {l : Launch} {e : Env} {s : State} {m : MethodId} {args : Array Value} {below : List Frame} {meth : Method} {c : Code} {D : va_G} {q : Nat → ClassId} {A : Nat → Prop} {o0 : Nat} {a0 : Nat → Nat} {r : Int32} (C : cx p s m args meth c cX8_friendsOf 5 (some .int) RX8 D q A) {k27 : Int32 × Int32 × Int32 × Int32 × St → Option (Int32)} (hk27 : ∀ (x1 : Int32) (x2 : Int32) (x3 : Int32) (x4 : Int32) (S0 : St), k27 (x1, x2, x3, x4, S0) = some (r) → ∀ (H : Heap) (locs : List Loc) (ls : Array Slot), va_P D vwCl (fl [g8 q o0 a0 S0]) H → va_D A (fl [g8 q o0 a0 S0]) → va_S A s.heap H locs → lv_has ls 5 [(0, .ref o0), (1, .int x1), (2, .int x2), (3, .int x3), (4, .int x4)] → W p l e rm_X8_friendsOf s m args below meth c H locs 0 0 (MQ below (QI D A r (fl [g8 q o0 a0 S0])) args s 0 0 A) (F0 m 27 ls [])) {x1 : Int32} {x2 : Int32} {x3 : Int32} {x4 : Int32} {S0 : St} (hF : F_X8_friendsOf_27 k27 x1 x2 x3 x4 S0 = some (r)) {H : Heap} {locs : List Loc} (hP : va_P D vwCl (fl [g8 q o0 a0 S0]) H) (hD : va_D A (fl [g8 q o0 a0 S0])) (hS : va_S A s.heap H locs) {ls : Array Slot} (hl : lv_has ls 5 [(0, .ref o0), (1, .int x1), (2, .int x2), (3, .int x3), (4, .int x4)]) : W p l e rm_X8_friendsOf s m args below meth c H locs 0 0 (MQ below (QI D A r (fl [g8 q o0 a0 S0])) args s 0 0 A) (F0 m 27 ls []) := by
  unfold F_X8_friendsOf_27 at hF
  obtain ⟨hx, hb, hr, hml, hown, hts, hlk, hA, hK, hN, hV⟩ := id C
  refine lv_iload hx hb dX8_friendsOf_27 (lv_at hl 4 rfl) ?_
  refine lv_aload_n hx hb dX8_friendsOf_29 rfl (lv_at hl 0 rfl) ?_
  refine k_get (v := .int (S0.1 7)) C fg_X8_59 hP 0 rfl rfl dX8_friendsOf_30 ?_
  refine lv_icmp_ge (tgt := 84) hx hb dX8_friendsOf_33 (by decide) (fun c1 => ?_) (fun c1 => ?_)
  · have hF := op_t hF c1
    refine lv_iload_n hx hb dX8_friendsOf_84 rfl (lv_at hl 3 rfl) ?_
    cases hF
    exact k_iret C hP hS dX8_friendsOf_85
  · have hF := op_f hF c1
    refine lv_iload hx hb dX8_friendsOf_36 (lv_at hl 4 rfl) ?_
    refine lv_iload_n hx hb dX8_friendsOf_38 rfl (lv_at hl 1 rfl) ?_
    refine lv_icmp_eq (tgt := 78) hx hb dX8_friendsOf_39 (by decide) (fun c2 => ?_) (fun c2 => ?_)
    · have hF := op_t hF c2
      exact b_X8_friendsOf_78 C hk27 hF hP hD hS (lv_sub hl [0, 1, 2, 3, 4] rfl)
    · have hF := op_f hF c2
      refine lv_aload_n hx hb dX8_friendsOf_42 rfl (lv_at hl 0 rfl) ?_
      refine k_get (v := .ref (a0 10)) C fg_X8_28 hP 0 rfl rfl dX8_friendsOf_43 ?_
      refine lv_iload hx hb dX8_friendsOf_46 (lv_at hl 4 rfl) ?_
      obtain ⟨h3, hF⟩ := op_ck hF
      refine k_ild (f := S0.2.2.1 9) C hP 6 rfl h3 dX8_friendsOf_48 ?_
      refine lv_iload_n hx hb dX8_friendsOf_49 rfl (lv_at hl 2 rfl) ?_
      refine lv_iand hx hb dX8_friendsOf_50 ?_
      refine lv_if_ne (tgt := 78) hx hb dX8_friendsOf_51 (by decide) (fun c4 => ?_) (fun c4 => ?_)
      · have hF := op_f hF c4
        exact b_X8_friendsOf_78 C hk27 hF hP hD hS (lv_sub hl [0, 1, 2, 3, 4] rfl)
      · have hF := op_t hF c4
        refine lv_aload_n hx hb dX8_friendsOf_54 rfl (lv_at hl 0 rfl) ?_
        refine k_get (v := .ref (a0 10)) C fg_X8_28 hP 0 rfl rfl dX8_friendsOf_55 ?_
        refine lv_iload hx hb dX8_friendsOf_58 (lv_at hl 4 rfl) ?_
        obtain ⟨h5, hF⟩ := op_ck hF
        refine k_ild (f := S0.2.2.1 9) C hP 6 rfl h5 dX8_friendsOf_60 ?_
        refine lv_aload_n hx hb dX8_friendsOf_61 rfl (lv_at hl 0 rfl) ?_
        refine k_get (v := .ref (a0 10)) C fg_X8_28 hP 0 rfl rfl dX8_friendsOf_62 ?_
        refine lv_iload_n hx hb dX8_friendsOf_65 rfl (lv_at hl 1 rfl) ?_
        obtain ⟨h6, hF⟩ := op_ck hF
        refine k_ild (f := S0.2.2.1 9) C hP 6 rfl h6 dX8_friendsOf_66 ?_
        refine lv_iand hx hb dX8_friendsOf_67 ?_
        refine lv_if_eq (tgt := 78) hx hb dX8_friendsOf_68 (by decide) (fun c7 => ?_) (fun c7 => ?_)
        · have hF := op_t hF c7
          exact b_X8_friendsOf_78 C hk27 hF hP hD hS (lv_sub hl [0, 1, 2, 3, 4] rfl)
        · have hF := op_f hF c7
          refine lv_iload_n hx hb dX8_friendsOf_71 rfl (lv_at hl 3 rfl) ?_
          refine lv_iconst (v := (1 : Int32)) hx hb dX8_friendsOf_72 (by decide) ?_
          refine lv_iload hx hb dX8_friendsOf_73 (lv_at hl 4 rfl) ?_
          refine lv_ishl hx hb dX8_friendsOf_75 ?_
          refine lv_ior hx hb dX8_friendsOf_76 ?_
          obtain ⟨v8, e9, hF⟩ := nw_s hF
          refine k_rni e9 ?_
          refine lv_istore_n (lv' := [(3, .int v8), (0, .ref o0), (1, .int x1), (2, .int x2), (4, .int x4)]) hx hb dX8_friendsOf_77 rfl hl (by decide) rfl (fun ls hl => ?_)
          exact b_X8_friendsOf_78 C hk27 hF hP hD hS (lv_sub hl [1, 2, 3, 0, 4] rfl)
set_option maxRecDepth 100000 in
set_option maxHeartbeats 4000000 in
theorem l_X8_friendsOf_27 {p : Program} {l : Launch} {e : Env} {s : State} {m : MethodId} {args : Array Value} {below : List Frame} {meth : Method} {c : Code} {D : va_G} {q : Nat → ClassId} {A : Nat → Prop} {o0 : Nat} {a0 : Nat → Nat} {r : Int32} (C : cx p s m args meth c cX8_friendsOf 5 (some .int) RX8 D q A) {x1 : Int32} {x2 : Int32} {x3 : Int32} {x4 : Int32} {S0 : St} (hF : L_X8_friendsOf_27 x1 x2 x3 x4 S0 = some (r)) : ∀ (H : Heap) (locs : List Loc) (ls : Array Slot), va_P D vwCl (fl [g8 q o0 a0 S0]) H → va_D A (fl [g8 q o0 a0 S0]) → va_S A s.heap H locs → lv_has ls 5 [(0, .ref o0), (1, .int x1), (2, .int x2), (3, .int x3), (4, .int x4)] → W p l e rm_X8_friendsOf s m args below meth c H locs 0 0 (MQ below (QI D A r (fl [g8 q o0 a0 S0])) args s 0 0 A) (F0 m 27 ls []) :=
  lp_G _ _ (fun z => ∀ (H : Heap) (locs : List Loc) (ls : Array Slot), va_P D vwCl (fl [g8 q o0 a0 z.2.2.2.2]) H → va_D A (fl [g8 q o0 a0 z.2.2.2.2]) → va_S A s.heap H locs → lv_has ls 5 [(0, .ref o0), (1, .int z.1), (2, .int z.2.1), (3, .int z.2.2.1), (4, .int z.2.2.2.1)] → W p l e rm_X8_friendsOf s m args below meth c H locs 0 0 (MQ below (QI D A r (fl [g8 q o0 a0 z.2.2.2.2])) args s 0 0 A) (F0 m 27 ls [])) (fun kz hkz z hz H locs ls hP hD hS hl => b_X8_friendsOf_27 C (fun x1 x2 x3 x4 S0 hz => hkz (x1, x2, x3, x4, S0) hz) hz hP hD hS hl) FU (x1, x2, x3, x4, S0) hF
set_option maxRecDepth 100000 in
set_option maxHeartbeats 4000000 in
theorem c_X8_friendsOf (l : Launch) (D : va_G) (q : Nat → ClassId) (o0 : Nat) (a0 : Nat → Nat) (S0 : St) (sz : Nat) (x1 : Int32) {r : Int32} (hF : F_X8_friendsOf S0 x1 = some (r)) : Met l yX8_friendsOf (Cond.code yX8_friendsOf cX8_friendsOf 5 (some .int) :: TB) rm_X8_friendsOf (PC D q [.ref o0, .int x1] (fl [g8 q o0 a0 S0]) sz) ((fun A => QI D A r (fl [g8 q o0 a0 S0])) (va_A (fl [g8 q o0 a0 S0]) sz)) 0 0 (va_A (fl [g8 q o0 a0 S0]) sz) := by
  refine k_met (w0 := fl [g8 q o0 a0 S0]) (Q := fun A => QI D A r (fl [g8 q o0 a0 S0])) (by decide +kernel) (Nat.le_of_ble_eq_true rfl) ?_
  intro p e s m args below meth c A ls C hP hD hS hl
  have hl : lv_has ls 5 [(0, .ref o0), (1, .int x1)] := hl
  unfold F_X8_friendsOf at hF
  have C : cx p s m args meth c cX8_friendsOf 5 (some .int) RX8 D q A := C
  obtain ⟨hx, hb, hr, hml, hown, hts, hlk, hA, hK, hN, hV⟩ := id C
  refine lv_aload_n hx hb dX8_friendsOf_0 rfl (lv_at hl 0 rfl) ?_
  refine k_get (v := .ref (a0 10)) C fg_X8_28 hP 0 rfl rfl dX8_friendsOf_1 ?_
  refine lv_iload_n hx hb dX8_friendsOf_4 rfl (lv_at hl 1 rfl) ?_
  obtain ⟨h1, hF⟩ := op_ck hF
  refine k_ild (f := S0.2.2.1 9) C hP 6 rfl h1 dX8_friendsOf_5 ?_
  refine lv_iconst (v := (4 : Int32)) hx hb dX8_friendsOf_6 (by decide) ?_
  refine lv_ishl hx hb dX8_friendsOf_7 ?_
  refine lv_aload_n hx hb dX8_friendsOf_8 rfl (lv_at hl 0 rfl) ?_
  refine k_get (v := .ref (a0 10)) C fg_X8_28 hP 0 rfl rfl dX8_friendsOf_9 ?_
  refine lv_iload_n hx hb dX8_friendsOf_12 rfl (lv_at hl 1 rfl) ?_
  obtain ⟨h2, hF⟩ := op_ck hF
  refine k_ild (f := S0.2.2.1 9) C hP 6 rfl h2 dX8_friendsOf_13 ?_
  refine lv_iconst (v := (4 : Int32)) hx hb dX8_friendsOf_14 (by decide) ?_
  refine lv_ishr hx hb dX8_friendsOf_15 ?_
  refine lv_ior hx hb dX8_friendsOf_16 ?_
  refine lv_sipush (v := (255 : Int32)) hx hb dX8_friendsOf_17 (by decide) ?_
  refine lv_iand hx hb dX8_friendsOf_20 ?_
  obtain ⟨v3, e4, hF⟩ := nw_s hF
  refine k_rni e4 ?_
  refine lv_istore_n (lv' := [(2, .int v3), (0, .ref o0), (1, .int x1)]) hx hb dX8_friendsOf_21 rfl hl (by decide) rfl (fun ls hl => ?_)
  refine lv_iconst (v := (0 : Int32)) hx hb dX8_friendsOf_22 (by decide) ?_
  refine lv_istore_n (lv' := [(3, .int (0 : Int32)), (2, .int v3), (0, .ref o0), (1, .int x1)]) hx hb dX8_friendsOf_23 rfl hl (by decide) rfl (fun ls hl => ?_)
  refine lv_iconst (v := (0 : Int32)) hx hb dX8_friendsOf_24 (by decide) ?_
  refine lv_istore (lv' := [(4, .int (0 : Int32)), (3, .int (0 : Int32)), (2, .int v3), (0, .ref o0), (1, .int x1)]) hx hb dX8_friendsOf_25 hl (by decide) rfl (fun ls hl => ?_)
  exact l_X8_friendsOf_27 C hF _ _ _ hP hD hS (lv_sub hl [3, 4, 2, 1, 0] rfl)

abbrev rm_X9_addByte : Room := ({ frames := 0, cells := 0, slots := 0, locals := 0 } : Room)
def F_X9_addByte (n0 : Nat) (S0 : St) (x1 : Int32) : Option (St) := if (Int32.ofNat n0) ≤ (S0.1 1) then (some (S0)) else (if oob (S0.1 1) n0 then none else nw (sA S0 0 (S0.1 1) x1) fun U3 => nw (sI U3 1 ((U3.1 1) + (1 : Int32))) fun U5 => some (U5))
set_option maxRecDepth 100000 in
set_option maxHeartbeats 4000000 in
theorem c_X9_addByte (l : Launch) (D : va_G) (q : Nat → ClassId) (o0 : Nat) (a0 : Nat → Nat) (n0 : Nat) (S0 : St) (sz : Nat) (x1 : Int32) {T0 : St} (hF : F_X9_addByte n0 S0 x1 = some (T0)) : Met l yX9_addByte (Cond.code yX9_addByte cX9_addByte 2 none :: TB) rm_X9_addByte (PC D q [.ref o0, .int x1] (fl [g9 q o0 a0 n0 S0]) sz) ((fun A => QV D A (fl [g9 q o0 a0 n0 T0])) (va_A (fl [g9 q o0 a0 n0 S0]) sz)) 0 0 (va_A (fl [g9 q o0 a0 n0 S0]) sz) := by
  refine k_met (w0 := fl [g9 q o0 a0 n0 S0]) (Q := fun A => QV D A (fl [g9 q o0 a0 n0 T0])) (by decide +kernel) (Nat.le_of_ble_eq_true rfl) ?_
  intro p e s m args below meth c A ls C hP hD hS hl
  have hl : lv_has ls 2 [(0, .ref o0), (1, .int x1)] := hl
  unfold F_X9_addByte at hF
  have C : cx p s m args meth c cX9_addByte 2 none RX9 D q A := C
  obtain ⟨hx, hb, hr, hml, hown, hts, hlk, hA, hK, hN, hV⟩ := id C
  refine lv_aload_n hx hb dX9_addByte_0 rfl (lv_at hl 0 rfl) ?_
  refine k_get (v := .int (S0.1 1)) C fg_X9_15 hP 0 rfl rfl dX9_addByte_1 ?_
  refine lv_aload_n hx hb dX9_addByte_4 rfl (lv_at hl 0 rfl) ?_
  refine k_get (v := .ref (a0 1)) C fg_X9_9 hP 0 rfl rfl dX9_addByte_5 ?_
  refine k_len (v := (Int32.ofNat n0)) C hP 1 1 rfl rfl rfl dX9_addByte_8 ?_
  refine lv_icmp_ge (tgt := 32) hx hb dX9_addByte_9 (by decide) (fun c1 => ?_) (fun c1 => ?_)
  · have hF := op_t hF c1
    cases hF
    exact k_vret C hP hS dX9_addByte_32
  · have hF := op_f hF c1
    refine lv_aload_n hx hb dX9_addByte_12 rfl (lv_at hl 0 rfl) ?_
    refine k_get (v := .ref (a0 1)) C fg_X9_9 hP 0 rfl rfl dX9_addByte_13 ?_
    refine lv_aload_n hx hb dX9_addByte_16 rfl (lv_at hl 0 rfl) ?_
    refine k_get (v := .int (S0.1 1)) C fg_X9_15 hP 0 rfl rfl dX9_addByte_17 ?_
    refine lv_iload_n hx hb dX9_addByte_20 rfl (lv_at hl 1 rfl) ?_
    obtain ⟨h2, hF⟩ := op_ck hF
    obtain ⟨U3, e4, hF⟩ := nw_s hF
    refine k_ist (f := S0.2.2.1 0) (W8 := fl [g9 q o0 a0 n0 U3]) C hP hD hS 1 rfl h2 dX9_addByte_21 (by rw [e4]; rfl) (fun H locs hP hD hS => ?_)
    refine lv_aload_n hx hb dX9_addByte_22 rfl (lv_at hl 0 rfl) ?_
    refine lv_dup hx hb dX9_addByte_23 rfl ?_
    refine k_get (v := .int (U3.1 1)) C fg_X9_15 hP 0 rfl rfl dX9_addByte_24 ?_
    refine lv_iconst (v := (1 : Int32)) hx hb dX9_addByte_27 (by decide) ?_
    refine lv_iadd hx hb dX9_addByte_28 ?_
    obtain ⟨U5, e6, hF⟩ := nw_s hF
    refine k_put (W8 := fl [g9 q o0 a0 n0 U5]) C fp_X9_15 hP hD hS 0 rfl rfl rfl (Nat.le_of_ble_eq_true rfl) dX9_addByte_29 (by rw [e6]; rfl) (fun H locs hP hD hS => ?_)
    cases hF
    exact k_vret C hP hS dX9_addByte_32

abbrev rm_X9_addNumber : Room := ({ frames := 1, cells := 0, slots := 0, locals := 21 } : Room)
def F_X9_addNumber_3 (n0 : Nat) (k3 : Int32 × Int32 × St → Option (St)) (x1 : Int32) (x2 : Int32) (S0 : St) : Option (St) := if x2 < 0 then (some (S0)) else (ob1 (F_X9_addByte n0 S0 ((x1.toUInt32 >>> (x2.toUInt32 &&& Int32.toUInt32 31)).toInt32 &&& (255 : Int32))) fun U3 => k3 (x1, (x2 + (-8)), U3))
def L_X9_addNumber_3 (n0 : Nat) (x1 : Int32) (x2 : Int32) (S0 : St) : Option (St) := lp (fun kz z => F_X9_addNumber_3 n0 kz z.1 z.2.1 z.2.2) FU (x1, x2, S0)
def F_X9_addNumber (n0 : Nat) (S0 : St) (x1 : Int32) : Option (St) := L_X9_addNumber_3 n0 x1 (24 : Int32) S0
set_option maxRecDepth 100000 in
set_option maxHeartbeats 4000000 in
theorem b_X9_addNumber_3 {p : Program} {l : Launch} {e : Env} {s : State} {m : MethodId} {args : Array Value} {below : List Frame} {meth : Method} {c : Code} {D : va_G} {q : Nat → ClassId} {A : Nat → Prop} {o0 : Nat} {a0 : Nat → Nat} {n0 : Nat} {T0 : St} (C : cx p s m args meth c cX9_addNumber 3 none RX9 D q A) {k3 : Int32 × Int32 × St → Option (St)} (hk3 : ∀ (x1 : Int32) (x2 : Int32) (S0 : St), k3 (x1, x2, S0) = some (T0) → ∀ (H : Heap) (locs : List Loc) (ls : Array Slot), va_P D vwCl (fl [g9 q o0 a0 n0 S0]) H → va_D A (fl [g9 q o0 a0 n0 S0]) → va_S A s.heap H locs → lv_has ls 3 [(0, .ref o0), (1, .int x1), (2, .int x2)] → W p l e rm_X9_addNumber s m args below meth c H locs 0 0 (MQ below (QV D A (fl [g9 q o0 a0 n0 T0])) args s 0 0 A) (F0 m 3 ls [])) {x1 : Int32} {x2 : Int32} {S0 : St} (hF : F_X9_addNumber_3 n0 k3 x1 x2 S0 = some (T0)) {H : Heap} {locs : List Loc} (hP : va_P D vwCl (fl [g9 q o0 a0 n0 S0]) H) (hD : va_D A (fl [g9 q o0 a0 n0 S0])) (hS : va_S A s.heap H locs) {ls : Array Slot} (hl : lv_has ls 3 [(0, .ref o0), (1, .int x1), (2, .int x2)]) : W p l e rm_X9_addNumber s m args below meth c H locs 0 0 (MQ below (QV D A (fl [g9 q o0 a0 n0 T0])) args s 0 0 A) (F0 m 3 ls []) := by
  unfold F_X9_addNumber_3 at hF
  obtain ⟨hx, hb, hr, hml, hown, hts, hlk, hA, hK, hN, hV⟩ := id C
  refine lv_iload_n hx hb dX9_addNumber_3 rfl (lv_at hl 2 rfl) ?_
  refine lv_if_lt (tgt := 24) hx hb dX9_addNumber_4 (by decide) (fun c1 => ?_) (fun c1 => ?_)
  · have hF := op_t hF c1
    cases hF
    exact k_vret C hP hS dX9_addNumber_24
  · have hF := op_f hF c1
    refine lv_aload_n hx hb dX9_addNumber_7 rfl (lv_at hl 0 rfl) ?_
    refine lv_iload_n hx hb dX9_addNumber_8 rfl (lv_at hl 1 rfl) ?_
    refine lv_iload_n hx hb dX9_addNumber_9 rfl (lv_at hl 2 rfl) ?_
    refine lv_iushr (v := (x1.toUInt32 >>> (x2.toUInt32 &&& Int32.toUInt32 31)).toInt32) hx hb dX9_addNumber_10 rfl ?_
    refine lv_sipush (v := (255 : Int32)) hx hb dX9_addNumber_11 (by decide) ?_
    refine lv_iand hx hb dX9_addNumber_14 ?_
    obtain ⟨U3, hc2, hF⟩ := ob1_s hF
    refine k_vall C (k_rV (As := [.int ((x1.toUInt32 >>> (x2.toUInt32 &&& Int32.toUInt32 31)).toInt32 &&& (255 : Int32))]) (rest := []) C (c_X9_addByte l D q o0 a0 n0 S0 _ ((x1.toUInt32 >>> (x2.toUInt32 &&& Int32.toUInt32 31)).toInt32 &&& (255 : Int32)) hc2) kc_X9_addByte ml_X9_19 rfl rfl (by decide) hP hD hS (va_recv hK hP (ci := 9) (q0 := 0) rfl rfl) rfl hl.1 rfl (Nat.le_of_ble_eq_true rfl) dX9_addNumber_15 (by decide)) hP hD hS (by simp only [List.map_cons, List.map_nil, gad9]) (fun H locs hP hD hS => ?_)
    refine lv_iinc (v := (x2 + (-8))) (lv' := [(2, .int (x2 + (-8))), (0, .ref o0), (1, .int x1)]) hx hb dX9_addNumber_18 hl (k := 2) rfl rfl (by decide) rfl (fun ls hl => ?_)
    refine lv_goto (tgt := 3) hx hb dX9_addNumber_21 (by decide) ?_
    exact hk3 x1 (x2 + (-8)) U3 hF _ _ _ hP hD hS (lv_sub hl [1, 2, 0] rfl)
set_option maxRecDepth 100000 in
set_option maxHeartbeats 4000000 in
theorem l_X9_addNumber_3 {p : Program} {l : Launch} {e : Env} {s : State} {m : MethodId} {args : Array Value} {below : List Frame} {meth : Method} {c : Code} {D : va_G} {q : Nat → ClassId} {A : Nat → Prop} {o0 : Nat} {a0 : Nat → Nat} {n0 : Nat} {T0 : St} (C : cx p s m args meth c cX9_addNumber 3 none RX9 D q A) {x1 : Int32} {x2 : Int32} {S0 : St} (hF : L_X9_addNumber_3 n0 x1 x2 S0 = some (T0)) : ∀ (H : Heap) (locs : List Loc) (ls : Array Slot), va_P D vwCl (fl [g9 q o0 a0 n0 S0]) H → va_D A (fl [g9 q o0 a0 n0 S0]) → va_S A s.heap H locs → lv_has ls 3 [(0, .ref o0), (1, .int x1), (2, .int x2)] → W p l e rm_X9_addNumber s m args below meth c H locs 0 0 (MQ below (QV D A (fl [g9 q o0 a0 n0 T0])) args s 0 0 A) (F0 m 3 ls []) :=
  lp_G _ _ (fun z => ∀ (H : Heap) (locs : List Loc) (ls : Array Slot), va_P D vwCl (fl [g9 q o0 a0 n0 z.2.2]) H → va_D A (fl [g9 q o0 a0 n0 z.2.2]) → va_S A s.heap H locs → lv_has ls 3 [(0, .ref o0), (1, .int z.1), (2, .int z.2.1)] → W p l e rm_X9_addNumber s m args below meth c H locs 0 0 (MQ below (QV D A (fl [g9 q o0 a0 n0 T0])) args s 0 0 A) (F0 m 3 ls [])) (fun kz hkz z hz H locs ls hP hD hS hl => b_X9_addNumber_3 C (fun x1 x2 S0 hz => hkz (x1, x2, S0) hz) hz hP hD hS hl) FU (x1, x2, S0) hF
set_option maxRecDepth 100000 in
set_option maxHeartbeats 4000000 in
theorem c_X9_addNumber (l : Launch) (D : va_G) (q : Nat → ClassId) (o0 : Nat) (a0 : Nat → Nat) (n0 : Nat) (S0 : St) (sz : Nat) (x1 : Int32) {T0 : St} (hF : F_X9_addNumber n0 S0 x1 = some (T0)) : Met l yX9_addNumber (Cond.code yX9_addNumber cX9_addNumber 3 none :: TB) rm_X9_addNumber (PC D q [.ref o0, .int x1] (fl [g9 q o0 a0 n0 S0]) sz) ((fun A => QV D A (fl [g9 q o0 a0 n0 T0])) (va_A (fl [g9 q o0 a0 n0 S0]) sz)) 0 0 (va_A (fl [g9 q o0 a0 n0 S0]) sz) := by
  refine k_met (w0 := fl [g9 q o0 a0 n0 S0]) (Q := fun A => QV D A (fl [g9 q o0 a0 n0 T0])) (by decide +kernel) (Nat.le_of_ble_eq_true rfl) ?_
  intro p e s m args below meth c A ls C hP hD hS hl
  have hl : lv_has ls 3 [(0, .ref o0), (1, .int x1)] := hl
  unfold F_X9_addNumber at hF
  have C : cx p s m args meth c cX9_addNumber 3 none RX9 D q A := C
  obtain ⟨hx, hb, hr, hml, hown, hts, hlk, hA, hK, hN, hV⟩ := id C
  refine lv_bipush (v := (24 : Int32)) hx hb dX9_addNumber_0 (by decide) ?_
  refine lv_istore_n (lv' := [(2, .int (24 : Int32)), (0, .ref o0), (1, .int x1)]) hx hb dX9_addNumber_2 rfl hl (by decide) rfl (fun ls hl => ?_)
  exact l_X9_addNumber_3 C hF _ _ _ hP hD hS (lv_sub hl [1, 2, 0] rfl)

abbrev rm_X9_addWord : Room := ({ frames := 1, cells := 0, slots := 0, locals := 21 } : Room)
def F_X9_addWord_30 (n0 : Nat) (k3 : Int64 × Int32 × St → Option (St)) (x1 : Int64) (x3 : Int32) (S0 : St) : Option (St) := k3 (x1, (x3 + (-5)), S0)
def F_X9_addWord_3 (n0 : Nat) (k3 : Int64 × Int32 × St → Option (St)) (x1 : Int64) (x3 : Int32) (S0 : St) : Option (St) := if x3 < 0 then (some (S0)) else (nw ((x1.toUInt64 >>> (x3.toInt64.toUInt64 &&& Int64.toUInt64 63)).toInt64.toInt32 &&& (31 : Int32)) fun v2 => if v2 = 0 then (F_X9_addWord_30 n0 k3 x1 x3 S0) else (ob1 (F_X9_addByte n0 S0 (v2 + (96 : Int32))) fun U6 => F_X9_addWord_30 n0 k3 x1 x3 U6))
def L_X9_addWord_3 (n0 : Nat) (x1 : Int64) (x3 : Int32) (S0 : St) : Option (St) := lp (fun kz z => F_X9_addWord_3 n0 kz z.1 z.2.1 z.2.2) FU (x1, x3, S0)
def F_X9_addWord (n0 : Nat) (S0 : St) (x1 : Int64) : Option (St) := L_X9_addWord_3 n0 x1 (30 : Int32) S0
set_option maxRecDepth 100000 in
set_option maxHeartbeats 4000000 in
theorem b_X9_addWord_30 {p : Program} {l : Launch} {e : Env} {s : State} {m : MethodId} {args : Array Value} {below : List Frame} {meth : Method} {c : Code} {D : va_G} {q : Nat → ClassId} {A : Nat → Prop} {o0 : Nat} {a0 : Nat → Nat} {n0 : Nat} {T0 : St} (C : cx p s m args meth c cX9_addWord 5 none RX9 D q A) {k3 : Int64 × Int32 × St → Option (St)} (hk3 : ∀ (x1 : Int64) (x3 : Int32) (S0 : St), k3 (x1, x3, S0) = some (T0) → ∀ (H : Heap) (locs : List Loc) (ls : Array Slot), va_P D vwCl (fl [g9 q o0 a0 n0 S0]) H → va_D A (fl [g9 q o0 a0 n0 S0]) → va_S A s.heap H locs → lv_has ls 5 [(0, .ref o0), (1, .long x1), (3, .int x3)] → W p l e rm_X9_addWord s m args below meth c H locs 0 0 (MQ below (QV D A (fl [g9 q o0 a0 n0 T0])) args s 0 0 A) (F0 m 3 ls [])) {x1 : Int64} {x3 : Int32} {S0 : St} (hF : F_X9_addWord_30 n0 k3 x1 x3 S0 = some (T0)) {H : Heap} {locs : List Loc} (hP : va_P D vwCl (fl [g9 q o0 a0 n0 S0]) H) (hD : va_D A (fl [g9 q o0 a0 n0 S0])) (hS : va_S A s.heap H locs) {ls : Array Slot} (hl : lv_has ls 5 [(0, .ref o0), (1, .long x1), (3, .int x3)]) : W p l e rm_X9_addWord s m args below meth c H locs 0 0 (MQ below (QV D A (fl [g9 q o0 a0 n0 T0])) args s 0 0 A) (F0 m 30 ls []) := by
  unfold F_X9_addWord_30 at hF
  obtain ⟨hx, hb, hr, hml, hown, hts, hlk, hA, hK, hN, hV⟩ := id C
  refine lv_iinc (v := (x3 + (-5))) (lv' := [(3, .int (x3 + (-5))), (0, .ref o0), (1, .long x1)]) hx hb dX9_addWord_30 hl (k := 2) rfl rfl (by decide) rfl (fun ls hl => ?_)
  refine lv_goto (tgt := 3) hx hb dX9_addWord_33 (by decide) ?_
  exact hk3 x1 (x3 + (-5)) S0 hF _ _ _ hP hD hS (lv_sub hl [1, 2, 0] rfl)
set_option maxRecDepth 100000 in
set_option maxHeartbeats 4000000 in
theorem b_X9_addWord_3 {p : Program} {l : Launch} {e : Env} {s : State} {m : MethodId} {args : Array Value} {below : List Frame} {meth : Method} {c : Code} {D : va_G} {q : Nat → ClassId} {A : Nat → Prop} {o0 : Nat} {a0 : Nat → Nat} {n0 : Nat} {T0 : St} (C : cx p s m args meth c cX9_addWord 5 none RX9 D q A) {k3 : Int64 × Int32 × St → Option (St)} (hk3 : ∀ (x1 : Int64) (x3 : Int32) (S0 : St), k3 (x1, x3, S0) = some (T0) → ∀ (H : Heap) (locs : List Loc) (ls : Array Slot), va_P D vwCl (fl [g9 q o0 a0 n0 S0]) H → va_D A (fl [g9 q o0 a0 n0 S0]) → va_S A s.heap H locs → lv_has ls 5 [(0, .ref o0), (1, .long x1), (3, .int x3)] → W p l e rm_X9_addWord s m args below meth c H locs 0 0 (MQ below (QV D A (fl [g9 q o0 a0 n0 T0])) args s 0 0 A) (F0 m 3 ls [])) {x1 : Int64} {x3 : Int32} {S0 : St} (hF : F_X9_addWord_3 n0 k3 x1 x3 S0 = some (T0)) {H : Heap} {locs : List Loc} (hP : va_P D vwCl (fl [g9 q o0 a0 n0 S0]) H) (hD : va_D A (fl [g9 q o0 a0 n0 S0])) (hS : va_S A s.heap H locs) {ls : Array Slot} (hl : lv_has ls 5 [(0, .ref o0), (1, .long x1), (3, .int x3)]) : W p l e rm_X9_addWord s m args below meth c H locs 0 0 (MQ below (QV D A (fl [g9 q o0 a0 n0 T0])) args s 0 0 A) (F0 m 3 ls []) := by
  unfold F_X9_addWord_3 at hF
  obtain ⟨hx, hb, hr, hml, hown, hts, hlk, hA, hK, hN, hV⟩ := id C
  refine lv_iload_n hx hb dX9_addWord_3 rfl (lv_at hl 2 rfl) ?_
  refine lv_if_lt (tgt := 36) hx hb dX9_addWord_4 (by decide) (fun c1 => ?_) (fun c1 => ?_)
  · have hF := op_t hF c1
    cases hF
    exact k_vret C hP hS dX9_addWord_36
  · have hF := op_f hF c1
    refine lv_lload_n hx hb dX9_addWord_7 rfl (lv_at hl 1 rfl) ?_
    refine lv_iload_n hx hb dX9_addWord_8 rfl (lv_at hl 2 rfl) ?_
    refine lv_lushr (v := (x1.toUInt64 >>> (x3.toInt64.toUInt64 &&& Int64.toUInt64 63)).toInt64) hx hb dX9_addWord_9 rfl ?_
    refine lv_l2i (v := (x1.toUInt64 >>> (x3.toInt64.toUInt64 &&& Int64.toUInt64 63)).toInt64.toInt32) hx hb dX9_addWord_10 rfl ?_
    refine lv_bipush (v := (31 : Int32)) hx hb dX9_addWord_11 (by decide) ?_
    refine lv_iand hx hb dX9_addWord_13 ?_
    obtain ⟨v2, e3, hF⟩ := nw_s hF
    refine k_rni e3 ?_
    refine lv_istore (lv' := [(4, .int v2), (0, .ref o0), (1, .long x1), (3, .int x3)]) hx hb dX9_addWord_14 hl (by decide) rfl (fun ls hl => ?_)
    refine lv_iload hx hb dX9_addWord_16 (lv_at hl 0 rfl) ?_
    refine lv_if_eq (tgt := 30) hx hb dX9_addWord_18 (by decide) (fun c4 => ?_) (fun c4 => ?_)
    · have hF := op_t hF c4
      exact b_X9_addWord_30 C hk3 hF hP hD hS (lv_sub hl [1, 2, 3] rfl)
    · have hF := op_f hF c4
      refine lv_aload_n hx hb dX9_addWord_21 rfl (lv_at hl 1 rfl) ?_
      refine lv_iload hx hb dX9_addWord_22 (lv_at hl 0 rfl) ?_
      refine lv_bipush (v := (96 : Int32)) hx hb dX9_addWord_24 (by decide) ?_
      refine lv_iadd hx hb dX9_addWord_26 ?_
      obtain ⟨U6, hc5, hF⟩ := ob1_s hF
      refine k_vall C (k_rV (As := [.int (v2 + (96 : Int32))]) (rest := []) C (c_X9_addByte l D q o0 a0 n0 S0 _ (v2 + (96 : Int32)) hc5) kc_X9_addByte ml_X9_19 rfl rfl (by decide) hP hD hS (va_recv hK hP (ci := 9) (q0 := 0) rfl rfl) rfl hl.1 rfl (Nat.le_of_ble_eq_true rfl) dX9_addWord_27 (by decide)) hP hD hS (by simp only [List.map_cons, List.map_nil, gad9]) (fun H locs hP hD hS => ?_)
      exact b_X9_addWord_30 C hk3 hF hP hD hS (lv_sub hl [1, 2, 3] rfl)
set_option maxRecDepth 100000 in
set_option maxHeartbeats 4000000 in
theorem l_X9_addWord_3 {p : Program} {l : Launch} {e : Env} {s : State} {m : MethodId} {args : Array Value} {below : List Frame} {meth : Method} {c : Code} {D : va_G} {q : Nat → ClassId} {A : Nat → Prop} {o0 : Nat} {a0 : Nat → Nat} {n0 : Nat} {T0 : St} (C : cx p s m args meth c cX9_addWord 5 none RX9 D q A) {x1 : Int64} {x3 : Int32} {S0 : St} (hF : L_X9_addWord_3 n0 x1 x3 S0 = some (T0)) : ∀ (H : Heap) (locs : List Loc) (ls : Array Slot), va_P D vwCl (fl [g9 q o0 a0 n0 S0]) H → va_D A (fl [g9 q o0 a0 n0 S0]) → va_S A s.heap H locs → lv_has ls 5 [(0, .ref o0), (1, .long x1), (3, .int x3)] → W p l e rm_X9_addWord s m args below meth c H locs 0 0 (MQ below (QV D A (fl [g9 q o0 a0 n0 T0])) args s 0 0 A) (F0 m 3 ls []) :=
  lp_G _ _ (fun z => ∀ (H : Heap) (locs : List Loc) (ls : Array Slot), va_P D vwCl (fl [g9 q o0 a0 n0 z.2.2]) H → va_D A (fl [g9 q o0 a0 n0 z.2.2]) → va_S A s.heap H locs → lv_has ls 5 [(0, .ref o0), (1, .long z.1), (3, .int z.2.1)] → W p l e rm_X9_addWord s m args below meth c H locs 0 0 (MQ below (QV D A (fl [g9 q o0 a0 n0 T0])) args s 0 0 A) (F0 m 3 ls [])) (fun kz hkz z hz H locs ls hP hD hS hl => b_X9_addWord_3 C (fun x1 x3 S0 hz => hkz (x1, x3, S0) hz) hz hP hD hS hl) FU (x1, x3, S0) hF
set_option maxRecDepth 100000 in
set_option maxHeartbeats 4000000 in
theorem c_X9_addWord (l : Launch) (D : va_G) (q : Nat → ClassId) (o0 : Nat) (a0 : Nat → Nat) (n0 : Nat) (S0 : St) (sz : Nat) (x1 : Int64) {T0 : St} (hF : F_X9_addWord n0 S0 x1 = some (T0)) : Met l yX9_addWord (Cond.code yX9_addWord cX9_addWord 5 none :: TB) rm_X9_addWord (PC D q [.ref o0, .long x1] (fl [g9 q o0 a0 n0 S0]) sz) ((fun A => QV D A (fl [g9 q o0 a0 n0 T0])) (va_A (fl [g9 q o0 a0 n0 S0]) sz)) 0 0 (va_A (fl [g9 q o0 a0 n0 S0]) sz) := by
  refine k_met (w0 := fl [g9 q o0 a0 n0 S0]) (Q := fun A => QV D A (fl [g9 q o0 a0 n0 T0])) (by decide +kernel) (Nat.le_of_ble_eq_true rfl) ?_
  intro p e s m args below meth c A ls C hP hD hS hl
  have hl : lv_has ls 5 [(0, .ref o0), (1, .long x1)] := hl
  unfold F_X9_addWord at hF
  have C : cx p s m args meth c cX9_addWord 5 none RX9 D q A := C
  obtain ⟨hx, hb, hr, hml, hown, hts, hlk, hA, hK, hN, hV⟩ := id C
  refine lv_bipush (v := (30 : Int32)) hx hb dX9_addWord_0 (by decide) ?_
  refine lv_istore_n (lv' := [(3, .int (30 : Int32)), (0, .ref o0), (1, .long x1)]) hx hb dX9_addWord_2 rfl hl (by decide) rfl (fun ls hl => ?_)
  exact l_X9_addWord_3 C hF _ _ _ hP hD hS (lv_sub hl [1, 2, 0] rfl)

abbrev rm_X10_listen : Room := ({ frames := 2, cells := 0, slots := 0, locals := 41 } : Room)
def F_X10_listen_62 (k5 : Int32 × Int32 × Int32 × Int32 × St → Option (St)) (x1 : Int32) (x2 : Int32) (x3 : Int32) (x4 : Int32) (S0 : St) : Option (St) := k5 (x1, x2, x3, (x4 + 1), S0)
def F_X10_listen_5 (k5 : Int32 × Int32 × Int32 × Int32 × St → Option (St)) (x1 : Int32) (x2 : Int32) (x3 : Int32) (x4 : Int32) (S0 : St) : Option (St) := if (S0.1 1) ≤ x4 then (if x3 ≤ 0 then (if 0 ≤ x3 then (some (S0)) else (if oob x1 6 then none else ob1 (F_X11_opposite x2) fun r6 => ob1 (F_X11_having (S0.2.2.1 0 x1.toNatClampNeg) r6) fun r8 => if oob x1 6 then none else nw (sA S0 0 x1 r8) fun U10 => some (U10))) else (if oob x1 6 then none else ob1 (F_X11_having (S0.2.2.1 0 x1.toNatClampNeg) x2) fun r14 => if oob x1 6 then none else nw (sA S0 0 x1 r14) fun U16 => some (U16))) else (if x4 = x1 then (F_X10_listen_62 k5 x1 x2 x3 x4 S0) else (if (((S0.1 2) >>> (x4 &&& 31)) &&& (1 : Int32)) = (1 : Int32) then (if oob x4 6 then none else if oob x4 6 then none else ob1 (F_X11_opposite x2) fun r23 => nw (x3 + ((((S0.2.2.1 0 x4.toNatClampNeg) >>> (x2 &&& 31)) &&& (1 : Int32)) - (((S0.2.2.1 0 x4.toNatClampNeg) >>> (r23 &&& 31)) &&& (1 : Int32)))) fun v24 => F_X10_listen_62 k5 x1 x2 v24 x4 S0) else (F_X10_listen_62 k5 x1 x2 x3 x4 S0)))
def L_X10_listen_5 (x1 : Int32) (x2 : Int32) (x3 : Int32) (x4 : Int32) (S0 : St) : Option (St) := lp (fun kz z => F_X10_listen_5 kz z.1 z.2.1 z.2.2.1 z.2.2.2.1 z.2.2.2.2) FU (x1, x2, x3, x4, S0)
def F_X10_listen (S0 : St) (x1 : Int32) (x2 : Int32) : Option (St) := L_X10_listen_5 x1 x2 (0 : Int32) (0 : Int32) S0
set_option maxRecDepth 100000 in
set_option maxHeartbeats 4000000 in
theorem b_X10_listen_62 {p : Program} {l : Launch} {e : Env} {s : State} {m : MethodId} {args : Array Value} {below : List Frame} {meth : Method} {c : Code} {D : va_G} {q : Nat → ClassId} {A : Nat → Prop} {o0 : Nat} {a0 : Nat → Nat} {T0 : St} (C : cx p s m args meth c cX10_listen 5 none RX10 D q A) {k5 : Int32 × Int32 × Int32 × Int32 × St → Option (St)} (hk5 : ∀ (x1 : Int32) (x2 : Int32) (x3 : Int32) (x4 : Int32) (S0 : St), k5 (x1, x2, x3, x4, S0) = some (T0) → ∀ (H : Heap) (locs : List Loc) (ls : Array Slot), va_P D vwCl (fl [g10 q o0 a0 S0]) H → va_D A (fl [g10 q o0 a0 S0]) → va_S A s.heap H locs → lv_has ls 5 [(0, .ref o0), (1, .int x1), (2, .int x2), (3, .int x3), (4, .int x4)] → W p l e rm_X10_listen s m args below meth c H locs 0 0 (MQ below (QV D A (fl [g10 q o0 a0 T0])) args s 0 0 A) (F0 m 5 ls [])) {x1 : Int32} {x2 : Int32} {x3 : Int32} {x4 : Int32} {S0 : St} (hF : F_X10_listen_62 k5 x1 x2 x3 x4 S0 = some (T0)) {H : Heap} {locs : List Loc} (hP : va_P D vwCl (fl [g10 q o0 a0 S0]) H) (hD : va_D A (fl [g10 q o0 a0 S0])) (hS : va_S A s.heap H locs) {ls : Array Slot} (hl : lv_has ls 5 [(0, .ref o0), (1, .int x1), (2, .int x2), (3, .int x3), (4, .int x4)]) : W p l e rm_X10_listen s m args below meth c H locs 0 0 (MQ below (QV D A (fl [g10 q o0 a0 T0])) args s 0 0 A) (F0 m 62 ls []) := by
  unfold F_X10_listen_62 at hF
  obtain ⟨hx, hb, hr, hml, hown, hts, hlk, hA, hK, hN, hV⟩ := id C
  refine lv_iinc (v := (x4 + 1)) (lv' := [(4, .int (x4 + 1)), (0, .ref o0), (1, .int x1), (2, .int x2), (3, .int x3)]) hx hb dX10_listen_62 hl (k := 4) rfl rfl (by decide) rfl (fun ls hl => ?_)
  refine lv_goto (tgt := 5) hx hb dX10_listen_65 (by decide) ?_
  exact hk5 x1 x2 x3 (x4 + 1) S0 hF _ _ _ hP hD hS (lv_sub hl [1, 2, 3, 4, 0] rfl)
set_option maxRecDepth 100000 in
set_option maxHeartbeats 4000000 in
theorem b_X10_listen_5 {p : Program} {l : Launch} {e : Env} {s : State} {m : MethodId} {args : Array Value} {below : List Frame} {meth : Method} {c : Code} {D : va_G} {q : Nat → ClassId} {A : Nat → Prop} {o0 : Nat} {a0 : Nat → Nat} {T0 : St} (C : cx p s m args meth c cX10_listen 5 none RX10 D q A) {k5 : Int32 × Int32 × Int32 × Int32 × St → Option (St)} (hk5 : ∀ (x1 : Int32) (x2 : Int32) (x3 : Int32) (x4 : Int32) (S0 : St), k5 (x1, x2, x3, x4, S0) = some (T0) → ∀ (H : Heap) (locs : List Loc) (ls : Array Slot), va_P D vwCl (fl [g10 q o0 a0 S0]) H → va_D A (fl [g10 q o0 a0 S0]) → va_S A s.heap H locs → lv_has ls 5 [(0, .ref o0), (1, .int x1), (2, .int x2), (3, .int x3), (4, .int x4)] → W p l e rm_X10_listen s m args below meth c H locs 0 0 (MQ below (QV D A (fl [g10 q o0 a0 T0])) args s 0 0 A) (F0 m 5 ls [])) {x1 : Int32} {x2 : Int32} {x3 : Int32} {x4 : Int32} {S0 : St} (hF : F_X10_listen_5 k5 x1 x2 x3 x4 S0 = some (T0)) {H : Heap} {locs : List Loc} (hP : va_P D vwCl (fl [g10 q o0 a0 S0]) H) (hD : va_D A (fl [g10 q o0 a0 S0])) (hS : va_S A s.heap H locs) {ls : Array Slot} (hl : lv_has ls 5 [(0, .ref o0), (1, .int x1), (2, .int x2), (3, .int x3), (4, .int x4)]) : W p l e rm_X10_listen s m args below meth c H locs 0 0 (MQ below (QV D A (fl [g10 q o0 a0 T0])) args s 0 0 A) (F0 m 5 ls []) := by
  unfold F_X10_listen_5 at hF
  obtain ⟨hx, hb, hr, hml, hown, hts, hlk, hA, hK, hN, hV⟩ := id C
  refine lv_iload hx hb dX10_listen_5 (lv_at hl 4 rfl) ?_
  refine lv_aload_n hx hb dX10_listen_7 rfl (lv_at hl 0 rfl) ?_
  refine k_get (v := .int (S0.1 1)) C fg_X10_15 hP 0 rfl rfl dX10_listen_8 ?_
  refine lv_icmp_ge (tgt := 68) hx hb dX10_listen_11 (by decide) (fun c1 => ?_) (fun c1 => ?_)
  · have hF := op_t hF c1
    refine lv_iload_n hx hb dX10_listen_68 rfl (lv_at hl 3 rfl) ?_
    refine lv_if_le (tgt := 91) hx hb dX10_listen_69 (by decide) (fun c2 => ?_) (fun c2 => ?_)
    · have hF := op_t hF c2
      refine lv_iload_n hx hb dX10_listen_91 rfl (lv_at hl 3 rfl) ?_
      refine lv_if_ge (tgt := 114) hx hb dX10_listen_92 (by decide) (fun c3 => ?_) (fun c3 => ?_)
      · have hF := op_t hF c3
        cases hF
        exact k_vret C hP hS dX10_listen_114
      · have hF := op_f hF c3
        refine lv_aload_n hx hb dX10_listen_95 rfl (lv_at hl 0 rfl) ?_
        refine k_get (v := .ref (a0 1)) C fg_X10_9 hP 0 rfl rfl dX10_listen_96 ?_
        refine lv_iload_n hx hb dX10_listen_99 rfl (lv_at hl 1 rfl) ?_
        refine lv_aload_n hx hb dX10_listen_100 rfl (lv_at hl 0 rfl) ?_
        refine k_get (v := .ref (a0 1)) C fg_X10_9 hP 0 rfl rfl dX10_listen_101 ?_
        refine lv_iload_n hx hb dX10_listen_104 rfl (lv_at hl 1 rfl) ?_
        obtain ⟨h4, hF⟩ := op_ck hF
        refine k_ild (f := S0.2.2.1 0) C hP 1 rfl h4 dX10_listen_105 ?_
        refine lv_iload_n hx hb dX10_listen_106 rfl (lv_at hl 2 rfl) ?_
        obtain ⟨r6, hc5, hF⟩ := ob1_s hF
        refine k_inil C (k_rN (As := [.int x2]) (rest := [.int (S0.2.2.1 0 x1.toNatClampNeg), .int x1, .ref (a0 1)]) C (c_X11_opposite l D q _ x2 hc5) kc_X11_opposite (List.mem_of_getElem? (i := 3) rfl) rfl rfl (by decide) (fun k x h => by simp at h) (⟨fun i j x y h => by simp at h, fun k x h => by simp at h⟩ : va_D A []) hS rfl hl.1 rfl (Nat.le_of_ble_eq_true rfl) dX10_listen_107 (by decide)) hP hD hS (fun H locs hP hD hS => ?_)
        obtain ⟨r8, hc7, hF⟩ := ob1_s hF
        refine k_inil C (k_rN (As := [.int (S0.2.2.1 0 x1.toNatClampNeg), .int r6]) (rest := [.int x1, .ref (a0 1)]) C (c_X11_having l D q _ (S0.2.2.1 0 x1.toNatClampNeg) r6 hc7) kc_X11_having (List.mem_of_getElem? (i := 4) rfl) rfl rfl (by decide) (fun k x h => by simp at h) (⟨fun i j x y h => by simp at h, fun k x h => by simp at h⟩ : va_D A []) hS rfl hl.1 rfl (Nat.le_of_ble_eq_true rfl) dX10_listen_110 (by decide)) hP hD hS (fun H locs hP hD hS => ?_)
        obtain ⟨h9, hF⟩ := op_ck hF
        obtain ⟨U10, e11, hF⟩ := nw_s hF
        refine k_ist (f := S0.2.2.1 0) (W8 := fl [g10 q o0 a0 U10]) C hP hD hS 1 rfl h9 dX10_listen_113 (by rw [e11]; rfl) (fun H locs hP hD hS => ?_)
        cases hF
        exact k_vret C hP hS dX10_listen_114
    · have hF := op_f hF c2
      refine lv_aload_n hx hb dX10_listen_72 rfl (lv_at hl 0 rfl) ?_
      refine k_get (v := .ref (a0 1)) C fg_X10_9 hP 0 rfl rfl dX10_listen_73 ?_
      refine lv_iload_n hx hb dX10_listen_76 rfl (lv_at hl 1 rfl) ?_
      refine lv_aload_n hx hb dX10_listen_77 rfl (lv_at hl 0 rfl) ?_
      refine k_get (v := .ref (a0 1)) C fg_X10_9 hP 0 rfl rfl dX10_listen_78 ?_
      refine lv_iload_n hx hb dX10_listen_81 rfl (lv_at hl 1 rfl) ?_
      obtain ⟨h12, hF⟩ := op_ck hF
      refine k_ild (f := S0.2.2.1 0) C hP 1 rfl h12 dX10_listen_82 ?_
      refine lv_iload_n hx hb dX10_listen_83 rfl (lv_at hl 2 rfl) ?_
      obtain ⟨r14, hc13, hF⟩ := ob1_s hF
      refine k_inil C (k_rN (As := [.int (S0.2.2.1 0 x1.toNatClampNeg), .int x2]) (rest := [.int x1, .ref (a0 1)]) C (c_X11_having l D q _ (S0.2.2.1 0 x1.toNatClampNeg) x2 hc13) kc_X11_having (List.mem_of_getElem? (i := 4) rfl) rfl rfl (by decide) (fun k x h => by simp at h) (⟨fun i j x y h => by simp at h, fun k x h => by simp at h⟩ : va_D A []) hS rfl hl.1 rfl (Nat.le_of_ble_eq_true rfl) dX10_listen_84 (by decide)) hP hD hS (fun H locs hP hD hS => ?_)
      obtain ⟨h15, hF⟩ := op_ck hF
      obtain ⟨U16, e17, hF⟩ := nw_s hF
      refine k_ist (f := S0.2.2.1 0) (W8 := fl [g10 q o0 a0 U16]) C hP hD hS 1 rfl h15 dX10_listen_87 (by rw [e17]; rfl) (fun H locs hP hD hS => ?_)
      refine lv_goto (tgt := 114) hx hb dX10_listen_88 (by decide) ?_
      cases hF
      exact k_vret C hP hS dX10_listen_114
  · have hF := op_f hF c1
    refine lv_iload hx hb dX10_listen_14 (lv_at hl 4 rfl) ?_
    refine lv_iload_n hx hb dX10_listen_16 rfl (lv_at hl 1 rfl) ?_
    refine lv_icmp_eq (tgt := 62) hx hb dX10_listen_17 (by decide) (fun c18 => ?_) (fun c18 => ?_)
    · have hF := op_t hF c18
      exact b_X10_listen_62 C hk5 hF hP hD hS (lv_sub hl [0, 1, 2, 3, 4] rfl)
    · have hF := op_f hF c18
      refine lv_aload_n hx hb dX10_listen_20 rfl (lv_at hl 0 rfl) ?_
      refine k_get (v := .int (S0.1 2)) C fg_X10_26 hP 0 rfl rfl dX10_listen_21 ?_
      refine lv_iload hx hb dX10_listen_24 (lv_at hl 4 rfl) ?_
      refine lv_ishr hx hb dX10_listen_26 ?_
      refine lv_iconst (v := (1 : Int32)) hx hb dX10_listen_27 (by decide) ?_
      refine lv_iand hx hb dX10_listen_28 ?_
      refine lv_iconst (v := (1 : Int32)) hx hb dX10_listen_29 (by decide) ?_
      refine lv_icmp_ne (tgt := 62) hx hb dX10_listen_30 (by decide) (fun c19 => ?_) (fun c19 => ?_)
      · have hF := op_f hF c19
        exact b_X10_listen_62 C hk5 hF hP hD hS (lv_sub hl [0, 1, 2, 3, 4] rfl)
      · have hF := op_t hF c19
        refine lv_iload_n hx hb dX10_listen_33 rfl (lv_at hl 3 rfl) ?_
        refine lv_aload_n hx hb dX10_listen_34 rfl (lv_at hl 0 rfl) ?_
        refine k_get (v := .ref (a0 1)) C fg_X10_9 hP 0 rfl rfl dX10_listen_35 ?_
        refine lv_iload hx hb dX10_listen_38 (lv_at hl 4 rfl) ?_
        obtain ⟨h20, hF⟩ := op_ck hF
        refine k_ild (f := S0.2.2.1 0) C hP 1 rfl h20 dX10_listen_40 ?_
        refine lv_iload_n hx hb dX10_listen_41 rfl (lv_at hl 2 rfl) ?_
        refine lv_ishr hx hb dX10_listen_42 ?_
        refine lv_iconst (v := (1 : Int32)) hx hb dX10_listen_43 (by decide) ?_
        refine lv_iand hx hb dX10_listen_44 ?_
        refine lv_aload_n hx hb dX10_listen_45 rfl (lv_at hl 0 rfl) ?_
        refine k_get (v := .ref (a0 1)) C fg_X10_9 hP 0 rfl rfl dX10_listen_46 ?_
        refine lv_iload hx hb dX10_listen_49 (lv_at hl 4 rfl) ?_
        obtain ⟨h21, hF⟩ := op_ck hF
        refine k_ild (f := S0.2.2.1 0) C hP 1 rfl h21 dX10_listen_51 ?_
        refine lv_iload_n hx hb dX10_listen_52 rfl (lv_at hl 2 rfl) ?_
        obtain ⟨r23, hc22, hF⟩ := ob1_s hF
        refine k_inil C (k_rN (As := [.int x2]) (rest := [.int (S0.2.2.1 0 x4.toNatClampNeg), .int (((S0.2.2.1 0 x4.toNatClampNeg) >>> (x2 &&& 31)) &&& (1 : Int32)), .int x3]) C (c_X11_opposite l D q _ x2 hc22) kc_X11_opposite (List.mem_of_getElem? (i := 3) rfl) rfl rfl (by decide) (fun k x h => by simp at h) (⟨fun i j x y h => by simp at h, fun k x h => by simp at h⟩ : va_D A []) hS rfl hl.1 rfl (Nat.le_of_ble_eq_true rfl) dX10_listen_53 (by decide)) hP hD hS (fun H locs hP hD hS => ?_)
        refine lv_ishr hx hb dX10_listen_56 ?_
        refine lv_iconst (v := (1 : Int32)) hx hb dX10_listen_57 (by decide) ?_
        refine lv_iand hx hb dX10_listen_58 ?_
        refine lv_isub hx hb dX10_listen_59 ?_
        refine lv_iadd hx hb dX10_listen_60 ?_
        obtain ⟨v24, e25, hF⟩ := nw_s hF
        refine k_rni e25 ?_
        refine lv_istore_n (lv' := [(3, .int v24), (0, .ref o0), (1, .int x1), (2, .int x2), (4, .int x4)]) hx hb dX10_listen_61 rfl hl (by decide) rfl (fun ls hl => ?_)
        exact b_X10_listen_62 C hk5 hF hP hD hS (lv_sub hl [1, 2, 3, 0, 4] rfl)
set_option maxRecDepth 100000 in
set_option maxHeartbeats 4000000 in
theorem l_X10_listen_5 {p : Program} {l : Launch} {e : Env} {s : State} {m : MethodId} {args : Array Value} {below : List Frame} {meth : Method} {c : Code} {D : va_G} {q : Nat → ClassId} {A : Nat → Prop} {o0 : Nat} {a0 : Nat → Nat} {T0 : St} (C : cx p s m args meth c cX10_listen 5 none RX10 D q A) {x1 : Int32} {x2 : Int32} {x3 : Int32} {x4 : Int32} {S0 : St} (hF : L_X10_listen_5 x1 x2 x3 x4 S0 = some (T0)) : ∀ (H : Heap) (locs : List Loc) (ls : Array Slot), va_P D vwCl (fl [g10 q o0 a0 S0]) H → va_D A (fl [g10 q o0 a0 S0]) → va_S A s.heap H locs → lv_has ls 5 [(0, .ref o0), (1, .int x1), (2, .int x2), (3, .int x3), (4, .int x4)] → W p l e rm_X10_listen s m args below meth c H locs 0 0 (MQ below (QV D A (fl [g10 q o0 a0 T0])) args s 0 0 A) (F0 m 5 ls []) :=
  lp_G _ _ (fun z => ∀ (H : Heap) (locs : List Loc) (ls : Array Slot), va_P D vwCl (fl [g10 q o0 a0 z.2.2.2.2]) H → va_D A (fl [g10 q o0 a0 z.2.2.2.2]) → va_S A s.heap H locs → lv_has ls 5 [(0, .ref o0), (1, .int z.1), (2, .int z.2.1), (3, .int z.2.2.1), (4, .int z.2.2.2.1)] → W p l e rm_X10_listen s m args below meth c H locs 0 0 (MQ below (QV D A (fl [g10 q o0 a0 T0])) args s 0 0 A) (F0 m 5 ls [])) (fun kz hkz z hz H locs ls hP hD hS hl => b_X10_listen_5 C (fun x1 x2 x3 x4 S0 hz => hkz (x1, x2, x3, x4, S0) hz) hz hP hD hS hl) FU (x1, x2, x3, x4, S0) hF
set_option maxRecDepth 100000 in
set_option maxHeartbeats 4000000 in
theorem c_X10_listen (l : Launch) (D : va_G) (q : Nat → ClassId) (o0 : Nat) (a0 : Nat → Nat) (S0 : St) (sz : Nat) (x1 : Int32) (x2 : Int32) {T0 : St} (hF : F_X10_listen S0 x1 x2 = some (T0)) : Met l yX10_listen (Cond.code yX10_listen cX10_listen 5 none :: TB) rm_X10_listen (PC D q [.ref o0, .int x1, .int x2] (fl [g10 q o0 a0 S0]) sz) ((fun A => QV D A (fl [g10 q o0 a0 T0])) (va_A (fl [g10 q o0 a0 S0]) sz)) 0 0 (va_A (fl [g10 q o0 a0 S0]) sz) := by
  refine k_met (w0 := fl [g10 q o0 a0 S0]) (Q := fun A => QV D A (fl [g10 q o0 a0 T0])) (by decide +kernel) (Nat.le_of_ble_eq_true rfl) ?_
  intro p e s m args below meth c A ls C hP hD hS hl
  have hl : lv_has ls 5 [(0, .ref o0), (1, .int x1), (2, .int x2)] := hl
  unfold F_X10_listen at hF
  have C : cx p s m args meth c cX10_listen 5 none RX10 D q A := C
  obtain ⟨hx, hb, hr, hml, hown, hts, hlk, hA, hK, hN, hV⟩ := id C
  refine lv_iconst (v := (0 : Int32)) hx hb dX10_listen_0 (by decide) ?_
  refine lv_istore_n (lv' := [(3, .int (0 : Int32)), (0, .ref o0), (1, .int x1), (2, .int x2)]) hx hb dX10_listen_1 rfl hl (by decide) rfl (fun ls hl => ?_)
  refine lv_iconst (v := (0 : Int32)) hx hb dX10_listen_2 (by decide) ?_
  refine lv_istore (lv' := [(4, .int (0 : Int32)), (3, .int (0 : Int32)), (0, .ref o0), (1, .int x1), (2, .int x2)]) hx hb dX10_listen_3 hl (by decide) rfl (fun ls hl => ?_)
  exact l_X10_listen_5 C hF _ _ _ hP hD hS (lv_sub hl [2, 3, 4, 1, 0] rfl)

abbrev rm_X10_goRound : Room := ({ frames := 3, cells := 0, slots := 0, locals := 65 } : Room)
def F_X10_goRound_71 (k4 : Int32 × Int32 × St → Option (Int32 × St)) (x1 : Int32) (x2 : Int32) (S0 : St) : Option (Int32 × St) := k4 (x1, (x2 + 1), S0)
def F_X10_goRound_69 (k4 : Int32 × Int32 × St → Option (Int32 × St)) (x2 : Int32) (s0 : Int32) (s1 : Int32) (S0 : St) : Option (Int32 × St) := F_X10_goRound_71 k4 (s0 ||| s1) x2 S0
def F_X10_goRound_34 (k4 : Int32 × Int32 × St → Option (Int32 × St)) (k34 : Int32 × Int32 × Int32 × Int32 × St → Option (Int32 × St)) (x1 : Int32) (x2 : Int32) (x3 : Int32) (x4 : Int32) (S0 : St) : Option (Int32 × St) := if (4 : Int32) ≤ x4 then (if oob x2 6 then none else if (S0.2.2.1 0 x2.toNatClampNeg) = x3 then (F_X10_goRound_69 k4 x2 x1 (0 : Int32) S0) else (F_X10_goRound_69 k4 x2 x1 (1 : Int32) S0)) else (ob1 (F_X10_listen S0 x2 x4) fun U5 => k34 (x1, x2, x3, (x4 + 1), U5))
def L_X10_goRound_34 (k4 : Int32 × Int32 × St → Option (Int32 × St)) (x1 : Int32) (x2 : Int32) (x3 : Int32) (x4 : Int32) (S0 : St) : Option (Int32 × St) := lp (fun kz z => F_X10_goRound_34 k4 kz z.1 z.2.1 z.2.2.1 z.2.2.2.1 z.2.2.2.2) FU (x1, x2, x3, x4, S0)
def F_X10_goRound_4 (k4 : Int32 × Int32 × St → Option (Int32 × St)) (x1 : Int32) (x2 : Int32) (S0 : St) : Option (Int32 × St) := if (S0.1 1) ≤ x2 then (if nb x1 then none else some (x1, S0)) else (if (((S0.1 2) >>> (x2 &&& 31)) &&& (1 : Int32)) = (1 : Int32) then (if oob x2 6 then none else L_X10_goRound_34 k4 x1 x2 (S0.2.2.1 0 x2.toNatClampNeg) (0 : Int32) S0) else (F_X10_goRound_71 k4 x1 x2 S0))
def L_X10_goRound_4 (x1 : Int32) (x2 : Int32) (S0 : St) : Option (Int32 × St) := lp (fun kz z => F_X10_goRound_4 kz z.1 z.2.1 z.2.2) FU (x1, x2, S0)
def F_X10_goRound (S0 : St) : Option (Int32 × St) := L_X10_goRound_4 (0 : Int32) (0 : Int32) S0
set_option maxRecDepth 100000 in
set_option maxHeartbeats 4000000 in
theorem b_X10_goRound_71 {p : Program} {l : Launch} {e : Env} {s : State} {m : MethodId} {args : Array Value} {below : List Frame} {meth : Method} {c : Code} {D : va_G} {q : Nat → ClassId} {A : Nat → Prop} {o0 : Nat} {a0 : Nat → Nat} {r : Int32} {T0 : St} (C : cx p s m args meth c cX10_goRound 5 (some .boolean) RX10 D q A) {k4 : Int32 × Int32 × St → Option (Int32 × St)} (hk4 : ∀ (x1 : Int32) (x2 : Int32) (S0 : St), k4 (x1, x2, S0) = some (r, T0) → ∀ (H : Heap) (locs : List Loc) (ls : Array Slot), va_P D vwCl (fl [g10 q o0 a0 S0]) H → va_D A (fl [g10 q o0 a0 S0]) → va_S A s.heap H locs → lv_has ls 5 [(0, .ref o0), (1, .int x1), (2, .int x2)] → W p l e rm_X10_goRound s m args below meth c H locs 0 0 (MQ below (QI D A r (fl [g10 q o0 a0 T0])) args s 0 0 A) (F0 m 4 ls [])) {x1 : Int32} {x2 : Int32} {S0 : St} (hF : F_X10_goRound_71 k4 x1 x2 S0 = some (r, T0)) {H : Heap} {locs : List Loc} (hP : va_P D vwCl (fl [g10 q o0 a0 S0]) H) (hD : va_D A (fl [g10 q o0 a0 S0])) (hS : va_S A s.heap H locs) {ls : Array Slot} (hl : lv_has ls 5 [(0, .ref o0), (1, .int x1), (2, .int x2)]) : W p l e rm_X10_goRound s m args below meth c H locs 0 0 (MQ below (QI D A r (fl [g10 q o0 a0 T0])) args s 0 0 A) (F0 m 71 ls []) := by
  unfold F_X10_goRound_71 at hF
  obtain ⟨hx, hb, hr, hml, hown, hts, hlk, hA, hK, hN, hV⟩ := id C
  refine lv_iinc (v := (x2 + 1)) (lv' := [(2, .int (x2 + 1)), (0, .ref o0), (1, .int x1)]) hx hb dX10_goRound_71 hl (k := 2) rfl rfl (by decide) rfl (fun ls hl => ?_)
  refine lv_goto (tgt := 4) hx hb dX10_goRound_74 (by decide) ?_
  exact hk4 x1 (x2 + 1) S0 hF _ _ _ hP hD hS (lv_sub hl [1, 2, 0] rfl)
set_option maxRecDepth 100000 in
set_option maxHeartbeats 4000000 in
theorem b_X10_goRound_69 {p : Program} {l : Launch} {e : Env} {s : State} {m : MethodId} {args : Array Value} {below : List Frame} {meth : Method} {c : Code} {D : va_G} {q : Nat → ClassId} {A : Nat → Prop} {o0 : Nat} {a0 : Nat → Nat} {r : Int32} {T0 : St} (C : cx p s m args meth c cX10_goRound 5 (some .boolean) RX10 D q A) {k4 : Int32 × Int32 × St → Option (Int32 × St)} (hk4 : ∀ (x1 : Int32) (x2 : Int32) (S0 : St), k4 (x1, x2, S0) = some (r, T0) → ∀ (H : Heap) (locs : List Loc) (ls : Array Slot), va_P D vwCl (fl [g10 q o0 a0 S0]) H → va_D A (fl [g10 q o0 a0 S0]) → va_S A s.heap H locs → lv_has ls 5 [(0, .ref o0), (1, .int x1), (2, .int x2)] → W p l e rm_X10_goRound s m args below meth c H locs 0 0 (MQ below (QI D A r (fl [g10 q o0 a0 T0])) args s 0 0 A) (F0 m 4 ls [])) {x2 : Int32} {s0 : Int32} {s1 : Int32} {S0 : St} (hF : F_X10_goRound_69 k4 x2 s0 s1 S0 = some (r, T0)) {H : Heap} {locs : List Loc} (hP : va_P D vwCl (fl [g10 q o0 a0 S0]) H) (hD : va_D A (fl [g10 q o0 a0 S0])) (hS : va_S A s.heap H locs) {ls : Array Slot} (hl : lv_has ls 5 [(0, .ref o0), (2, .int x2)]) : W p l e rm_X10_goRound s m args below meth c H locs 0 0 (MQ below (QI D A r (fl [g10 q o0 a0 T0])) args s 0 0 A) (F0 m 69 ls [.int s1, .int s0]) := by
  unfold F_X10_goRound_69 at hF
  obtain ⟨hx, hb, hr, hml, hown, hts, hlk, hA, hK, hN, hV⟩ := id C
  refine lv_ior hx hb dX10_goRound_69 ?_
  refine lv_istore_n (lv' := [(1, .int (s0 ||| s1)), (0, .ref o0), (2, .int x2)]) hx hb dX10_goRound_70 rfl hl (by decide) rfl (fun ls hl => ?_)
  exact b_X10_goRound_71 C hk4 hF hP hD hS (lv_sub hl [1, 0, 2] rfl)
set_option maxRecDepth 100000 in
set_option maxHeartbeats 4000000 in
theorem b_X10_goRound_34 {p : Program} {l : Launch} {e : Env} {s : State} {m : MethodId} {args : Array Value} {below : List Frame} {meth : Method} {c : Code} {D : va_G} {q : Nat → ClassId} {A : Nat → Prop} {o0 : Nat} {a0 : Nat → Nat} {r : Int32} {T0 : St} (C : cx p s m args meth c cX10_goRound 5 (some .boolean) RX10 D q A) {k4 : Int32 × Int32 × St → Option (Int32 × St)} (hk4 : ∀ (x1 : Int32) (x2 : Int32) (S0 : St), k4 (x1, x2, S0) = some (r, T0) → ∀ (H : Heap) (locs : List Loc) (ls : Array Slot), va_P D vwCl (fl [g10 q o0 a0 S0]) H → va_D A (fl [g10 q o0 a0 S0]) → va_S A s.heap H locs → lv_has ls 5 [(0, .ref o0), (1, .int x1), (2, .int x2)] → W p l e rm_X10_goRound s m args below meth c H locs 0 0 (MQ below (QI D A r (fl [g10 q o0 a0 T0])) args s 0 0 A) (F0 m 4 ls [])) {k34 : Int32 × Int32 × Int32 × Int32 × St → Option (Int32 × St)} (hk34 : ∀ (x1 : Int32) (x2 : Int32) (x3 : Int32) (x4 : Int32) (S0 : St), k34 (x1, x2, x3, x4, S0) = some (r, T0) → ∀ (H : Heap) (locs : List Loc) (ls : Array Slot), va_P D vwCl (fl [g10 q o0 a0 S0]) H → va_D A (fl [g10 q o0 a0 S0]) → va_S A s.heap H locs → lv_has ls 5 [(0, .ref o0), (1, .int x1), (2, .int x2), (3, .int x3), (4, .int x4)] → W p l e rm_X10_goRound s m args below meth c H locs 0 0 (MQ below (QI D A r (fl [g10 q o0 a0 T0])) args s 0 0 A) (F0 m 34 ls [])) {x1 : Int32} {x2 : Int32} {x3 : Int32} {x4 : Int32} {S0 : St} (hF : F_X10_goRound_34 k4 k34 x1 x2 x3 x4 S0 = some (r, T0)) {H : Heap} {locs : List Loc} (hP : va_P D vwCl (fl [g10 q o0 a0 S0]) H) (hD : va_D A (fl [g10 q o0 a0 S0])) (hS : va_S A s.heap H locs) {ls : Array Slot} (hl : lv_has ls 5 [(0, .ref o0), (1, .int x1), (2, .int x2), (3, .int x3), (4, .int x4)]) : W p l e rm_X10_goRound s m args below meth c H locs 0 0 (MQ below (QI D A r (fl [g10 q o0 a0 T0])) args s 0 0 A) (F0 m 34 ls []) := by
  unfold F_X10_goRound_34 at hF
  obtain ⟨hx, hb, hr, hml, hown, hts, hlk, hA, hK, hN, hV⟩ := id C
  refine lv_iload hx hb dX10_goRound_34 (lv_at hl 4 rfl) ?_
  refine lv_iconst (v := (4 : Int32)) hx hb dX10_goRound_36 (by decide) ?_
  refine lv_icmp_ge (tgt := 53) hx hb dX10_goRound_37 (by decide) (fun c1 => ?_) (fun c1 => ?_)
  · have hF := op_t hF c1
    refine lv_iload_n hx hb dX10_goRound_53 rfl (lv_at hl 1 rfl) ?_
    refine lv_aload_n hx hb dX10_goRound_54 rfl (lv_at hl 0 rfl) ?_
    refine k_get (v := .ref (a0 1)) C fg_X10_9 hP 0 rfl rfl dX10_goRound_55 ?_
    refine lv_iload_n hx hb dX10_goRound_58 rfl (lv_at hl 2 rfl) ?_
    obtain ⟨h2, hF⟩ := op_ck hF
    refine k_ild (f := S0.2.2.1 0) C hP 1 rfl h2 dX10_goRound_59 ?_
    refine lv_iload_n hx hb dX10_goRound_60 rfl (lv_at hl 3 rfl) ?_
    refine lv_icmp_eq (tgt := 68) hx hb dX10_goRound_61 (by decide) (fun c3 => ?_) (fun c3 => ?_)
    · have hF := op_t hF c3
      refine lv_iconst (v := (0 : Int32)) hx hb dX10_goRound_68 (by decide) ?_
      exact b_X10_goRound_69 C hk4 hF hP hD hS (lv_sub hl [0, 2] rfl)
    · have hF := op_f hF c3
      refine lv_iconst (v := (1 : Int32)) hx hb dX10_goRound_64 (by decide) ?_
      refine lv_goto (tgt := 69) hx hb dX10_goRound_65 (by decide) ?_
      exact b_X10_goRound_69 C hk4 hF hP hD hS (lv_sub hl [0, 2] rfl)
  · have hF := op_f hF c1
    refine lv_aload_n hx hb dX10_goRound_40 rfl (lv_at hl 0 rfl) ?_
    refine lv_iload_n hx hb dX10_goRound_41 rfl (lv_at hl 2 rfl) ?_
    refine lv_iload hx hb dX10_goRound_42 (lv_at hl 4 rfl) ?_
    obtain ⟨U5, hc4, hF⟩ := ob1_s hF
    refine k_vall C (k_rV (As := [.int x2, .int x4]) (rest := []) C (c_X10_listen l D q o0 a0 S0 _ x2 x4 hc4) kc_X10_listen ml_X10_40 rfl rfl (by decide) hP hD hS (va_recv hK hP (ci := 10) (q0 := 0) rfl rfl) rfl hl.1 rfl (Nat.le_of_ble_eq_true rfl) dX10_goRound_44 (by decide)) hP hD hS (by simp only [List.map_cons, List.map_nil, gad10]) (fun H locs hP hD hS => ?_)
    refine lv_iinc (v := (x4 + 1)) (lv' := [(4, .int (x4 + 1)), (0, .ref o0), (1, .int x1), (2, .int x2), (3, .int x3)]) hx hb dX10_goRound_47 hl (k := 4) rfl rfl (by decide) rfl (fun ls hl => ?_)
    refine lv_goto (tgt := 34) hx hb dX10_goRound_50 (by decide) ?_
    exact hk34 x1 x2 x3 (x4 + 1) U5 hF _ _ _ hP hD hS (lv_sub hl [1, 2, 3, 4, 0] rfl)
set_option maxRecDepth 100000 in
set_option maxHeartbeats 4000000 in
theorem l_X10_goRound_34 {p : Program} {l : Launch} {e : Env} {s : State} {m : MethodId} {args : Array Value} {below : List Frame} {meth : Method} {c : Code} {D : va_G} {q : Nat → ClassId} {A : Nat → Prop} {o0 : Nat} {a0 : Nat → Nat} {r : Int32} {T0 : St} (C : cx p s m args meth c cX10_goRound 5 (some .boolean) RX10 D q A) {k4 : Int32 × Int32 × St → Option (Int32 × St)} (hk4 : ∀ (x1 : Int32) (x2 : Int32) (S0 : St), k4 (x1, x2, S0) = some (r, T0) → ∀ (H : Heap) (locs : List Loc) (ls : Array Slot), va_P D vwCl (fl [g10 q o0 a0 S0]) H → va_D A (fl [g10 q o0 a0 S0]) → va_S A s.heap H locs → lv_has ls 5 [(0, .ref o0), (1, .int x1), (2, .int x2)] → W p l e rm_X10_goRound s m args below meth c H locs 0 0 (MQ below (QI D A r (fl [g10 q o0 a0 T0])) args s 0 0 A) (F0 m 4 ls [])) {x1 : Int32} {x2 : Int32} {x3 : Int32} {x4 : Int32} {S0 : St} (hF : L_X10_goRound_34 k4 x1 x2 x3 x4 S0 = some (r, T0)) : ∀ (H : Heap) (locs : List Loc) (ls : Array Slot), va_P D vwCl (fl [g10 q o0 a0 S0]) H → va_D A (fl [g10 q o0 a0 S0]) → va_S A s.heap H locs → lv_has ls 5 [(0, .ref o0), (1, .int x1), (2, .int x2), (3, .int x3), (4, .int x4)] → W p l e rm_X10_goRound s m args below meth c H locs 0 0 (MQ below (QI D A r (fl [g10 q o0 a0 T0])) args s 0 0 A) (F0 m 34 ls []) :=
  lp_G _ _ (fun z => ∀ (H : Heap) (locs : List Loc) (ls : Array Slot), va_P D vwCl (fl [g10 q o0 a0 z.2.2.2.2]) H → va_D A (fl [g10 q o0 a0 z.2.2.2.2]) → va_S A s.heap H locs → lv_has ls 5 [(0, .ref o0), (1, .int z.1), (2, .int z.2.1), (3, .int z.2.2.1), (4, .int z.2.2.2.1)] → W p l e rm_X10_goRound s m args below meth c H locs 0 0 (MQ below (QI D A r (fl [g10 q o0 a0 T0])) args s 0 0 A) (F0 m 34 ls [])) (fun kz hkz z hz H locs ls hP hD hS hl => b_X10_goRound_34 C hk4 (fun x1 x2 x3 x4 S0 hz => hkz (x1, x2, x3, x4, S0) hz) hz hP hD hS hl) FU (x1, x2, x3, x4, S0) hF
set_option maxRecDepth 100000 in
set_option maxHeartbeats 4000000 in
theorem b_X10_goRound_4 {p : Program} {l : Launch} {e : Env} {s : State} {m : MethodId} {args : Array Value} {below : List Frame} {meth : Method} {c : Code} {D : va_G} {q : Nat → ClassId} {A : Nat → Prop} {o0 : Nat} {a0 : Nat → Nat} {r : Int32} {T0 : St} (C : cx p s m args meth c cX10_goRound 5 (some .boolean) RX10 D q A) {k4 : Int32 × Int32 × St → Option (Int32 × St)} (hk4 : ∀ (x1 : Int32) (x2 : Int32) (S0 : St), k4 (x1, x2, S0) = some (r, T0) → ∀ (H : Heap) (locs : List Loc) (ls : Array Slot), va_P D vwCl (fl [g10 q o0 a0 S0]) H → va_D A (fl [g10 q o0 a0 S0]) → va_S A s.heap H locs → lv_has ls 5 [(0, .ref o0), (1, .int x1), (2, .int x2)] → W p l e rm_X10_goRound s m args below meth c H locs 0 0 (MQ below (QI D A r (fl [g10 q o0 a0 T0])) args s 0 0 A) (F0 m 4 ls [])) {x1 : Int32} {x2 : Int32} {S0 : St} (hF : F_X10_goRound_4 k4 x1 x2 S0 = some (r, T0)) {H : Heap} {locs : List Loc} (hP : va_P D vwCl (fl [g10 q o0 a0 S0]) H) (hD : va_D A (fl [g10 q o0 a0 S0])) (hS : va_S A s.heap H locs) {ls : Array Slot} (hl : lv_has ls 5 [(0, .ref o0), (1, .int x1), (2, .int x2)]) : W p l e rm_X10_goRound s m args below meth c H locs 0 0 (MQ below (QI D A r (fl [g10 q o0 a0 T0])) args s 0 0 A) (F0 m 4 ls []) := by
  unfold F_X10_goRound_4 at hF
  obtain ⟨hx, hb, hr, hml, hown, hts, hlk, hA, hK, hN, hV⟩ := id C
  refine lv_iload_n hx hb dX10_goRound_4 rfl (lv_at hl 2 rfl) ?_
  refine lv_aload_n hx hb dX10_goRound_5 rfl (lv_at hl 0 rfl) ?_
  refine k_get (v := .int (S0.1 1)) C fg_X10_15 hP 0 rfl rfl dX10_goRound_6 ?_
  refine lv_icmp_ge (tgt := 77) hx hb dX10_goRound_9 (by decide) (fun c1 => ?_) (fun c1 => ?_)
  · have hF := op_t hF c1
    refine lv_iload_n hx hb dX10_goRound_77 rfl (lv_at hl 1 rfl) ?_
    obtain ⟨h2, hF⟩ := op_ck hF
    cases hF
    exact k_zret C h2 hP hS dX10_goRound_78
  · have hF := op_f hF c1
    refine lv_aload_n hx hb dX10_goRound_12 rfl (lv_at hl 0 rfl) ?_
    refine k_get (v := .int (S0.1 2)) C fg_X10_26 hP 0 rfl rfl dX10_goRound_13 ?_
    refine lv_iload_n hx hb dX10_goRound_16 rfl (lv_at hl 2 rfl) ?_
    refine lv_ishr hx hb dX10_goRound_17 ?_
    refine lv_iconst (v := (1 : Int32)) hx hb dX10_goRound_18 (by decide) ?_
    refine lv_iand hx hb dX10_goRound_19 ?_
    refine lv_iconst (v := (1 : Int32)) hx hb dX10_goRound_20 (by decide) ?_
    refine lv_icmp_ne (tgt := 71) hx hb dX10_goRound_21 (by decide) (fun c3 => ?_) (fun c3 => ?_)
    · have hF := op_f hF c3
      exact b_X10_goRound_71 C hk4 hF hP hD hS (lv_sub hl [0, 1, 2] rfl)
    · have hF := op_t hF c3
      refine lv_aload_n hx hb dX10_goRound_24 rfl (lv_at hl 0 rfl) ?_
      refine k_get (v := .ref (a0 1)) C fg_X10_9 hP 0 rfl rfl dX10_goRound_25 ?_
      refine lv_iload_n hx hb dX10_goRound_28 rfl (lv_at hl 2 rfl) ?_
      obtain ⟨h4, hF⟩ := op_ck hF
      refine k_ild (f := S0.2.2.1 0) C hP 1 rfl h4 dX10_goRound_29 ?_
      refine lv_istore_n (lv' := [(3, .int (S0.2.2.1 0 x2.toNatClampNeg)), (0, .ref o0), (1, .int x1), (2, .int x2)]) hx hb dX10_goRound_30 rfl hl (by decide) rfl (fun ls hl => ?_)
      refine lv_iconst (v := (0 : Int32)) hx hb dX10_goRound_31 (by decide) ?_
      refine lv_istore (lv' := [(4, .int (0 : Int32)), (3, .int (S0.2.2.1 0 x2.toNatClampNeg)), (0, .ref o0), (1, .int x1), (2, .int x2)]) hx hb dX10_goRound_32 hl (by decide) rfl (fun ls hl => ?_)
      exact l_X10_goRound_34 C hk4 hF _ _ _ hP hD hS (lv_sub hl [2, 3, 4, 1, 0] rfl)
set_option maxRecDepth 100000 in
set_option maxHeartbeats 4000000 in
theorem l_X10_goRound_4 {p : Program} {l : Launch} {e : Env} {s : State} {m : MethodId} {args : Array Value} {below : List Frame} {meth : Method} {c : Code} {D : va_G} {q : Nat → ClassId} {A : Nat → Prop} {o0 : Nat} {a0 : Nat → Nat} {r : Int32} {T0 : St} (C : cx p s m args meth c cX10_goRound 5 (some .boolean) RX10 D q A) {x1 : Int32} {x2 : Int32} {S0 : St} (hF : L_X10_goRound_4 x1 x2 S0 = some (r, T0)) : ∀ (H : Heap) (locs : List Loc) (ls : Array Slot), va_P D vwCl (fl [g10 q o0 a0 S0]) H → va_D A (fl [g10 q o0 a0 S0]) → va_S A s.heap H locs → lv_has ls 5 [(0, .ref o0), (1, .int x1), (2, .int x2)] → W p l e rm_X10_goRound s m args below meth c H locs 0 0 (MQ below (QI D A r (fl [g10 q o0 a0 T0])) args s 0 0 A) (F0 m 4 ls []) :=
  lp_G _ _ (fun z => ∀ (H : Heap) (locs : List Loc) (ls : Array Slot), va_P D vwCl (fl [g10 q o0 a0 z.2.2]) H → va_D A (fl [g10 q o0 a0 z.2.2]) → va_S A s.heap H locs → lv_has ls 5 [(0, .ref o0), (1, .int z.1), (2, .int z.2.1)] → W p l e rm_X10_goRound s m args below meth c H locs 0 0 (MQ below (QI D A r (fl [g10 q o0 a0 T0])) args s 0 0 A) (F0 m 4 ls [])) (fun kz hkz z hz H locs ls hP hD hS hl => b_X10_goRound_4 C (fun x1 x2 S0 hz => hkz (x1, x2, S0) hz) hz hP hD hS hl) FU (x1, x2, S0) hF
set_option maxRecDepth 100000 in
set_option maxHeartbeats 4000000 in
theorem c_X10_goRound (l : Launch) (D : va_G) (q : Nat → ClassId) (o0 : Nat) (a0 : Nat → Nat) (S0 : St) (sz : Nat) {r : Int32} {T0 : St} (hF : F_X10_goRound S0 = some (r, T0)) : Met l yX10_goRound (Cond.code yX10_goRound cX10_goRound 5 (some .boolean) :: TB) rm_X10_goRound (PC D q [.ref o0] (fl [g10 q o0 a0 S0]) sz) ((fun A => QI D A r (fl [g10 q o0 a0 T0])) (va_A (fl [g10 q o0 a0 S0]) sz)) 0 0 (va_A (fl [g10 q o0 a0 S0]) sz) := by
  refine k_met (w0 := fl [g10 q o0 a0 S0]) (Q := fun A => QI D A r (fl [g10 q o0 a0 T0])) (by decide +kernel) (Nat.le_of_ble_eq_true rfl) ?_
  intro p e s m args below meth c A ls C hP hD hS hl
  have hl : lv_has ls 5 [(0, .ref o0)] := hl
  unfold F_X10_goRound at hF
  have C : cx p s m args meth c cX10_goRound 5 (some .boolean) RX10 D q A := C
  obtain ⟨hx, hb, hr, hml, hown, hts, hlk, hA, hK, hN, hV⟩ := id C
  refine lv_iconst (v := (0 : Int32)) hx hb dX10_goRound_0 (by decide) ?_
  refine lv_istore_n (lv' := [(1, .int (0 : Int32)), (0, .ref o0)]) hx hb dX10_goRound_1 rfl hl (by decide) rfl (fun ls hl => ?_)
  refine lv_iconst (v := (0 : Int32)) hx hb dX10_goRound_2 (by decide) ?_
  refine lv_istore_n (lv' := [(2, .int (0 : Int32)), (1, .int (0 : Int32)), (0, .ref o0)]) hx hb dX10_goRound_3 rfl hl (by decide) rfl (fun ls hl => ?_)
  exact l_X10_goRound_4 C hF _ _ _ hP hD hS (lv_sub hl [2, 1, 0] rfl)

abbrev rm_X10_sit : Room := ({ frames := 4, cells := 0, slots := 0, locals := 89 } : Room)
def F_X10_sit_46 (k46 : Int32 × Int32 × St × St → Option (Int32 × St)) (x2 : Int32) (x3 : Int32) (S0 : St) (S1 : St) : Option (Int32 × St) := if x3 = 0 then (some (x2, S0)) else (if (10 : Int32) ≤ x2 then (some (x2, S0)) else (ob2 (F_X10_goRound S0) fun r4 U5 => k46 ((x2 + 1), r4, U5, S1)))
def L_X10_sit_46 (x2 : Int32) (x3 : Int32) (S0 : St) (S1 : St) : Option (Int32 × St) := lp (fun kz z => F_X10_sit_46 kz z.1 z.2.1 z.2.2.1 z.2.2.2) FU (x2, x3, S0, S1)
def F_X10_sit (S0 : St) (S1 : St) : Option (Int32 × St) := nw (sI S0 1 (S1.1 7)) fun U1 => ob1 (F_X8_upBits S1) fun r4 => nw (sI U1 2 ((((1 : Int32) <<< ((U1.1 1) &&& 31)) - (1 : Int32)) &&& (r4 ^^^ (-1 : Int32)))) fun U5 => nw (sF U5 0 (S1.2.2.1 9)) fun U7 => L_X10_sit_46 (0 : Int32) (1 : Int32) U7 S1
set_option maxRecDepth 100000 in
set_option maxHeartbeats 4000000 in
theorem b_X10_sit_46 {p : Program} {l : Launch} {e : Env} {s : State} {m : MethodId} {args : Array Value} {below : List Frame} {meth : Method} {c : Code} {D : va_G} {q : Nat → ClassId} {A : Nat → Prop} {o0 : Nat} {a0 : Nat → Nat} {o1 : Nat} {a1 : Nat → Nat} {r : Int32} {T0 : St} (C : cx p s m args meth c cX10_sit 4 (some .int) RX10 D q A) {k46 : Int32 × Int32 × St × St → Option (Int32 × St)} (hk46 : ∀ (x2 : Int32) (x3 : Int32) (S0 : St) (S1 : St), k46 (x2, x3, S0, S1) = some (r, T0) → ∀ (H : Heap) (locs : List Loc) (ls : Array Slot), va_P D vwCl (fl [g10 q o0 a0 S0, g8 q o1 a1 S1]) H → va_D A (fl [g10 q o0 a0 S0, g8 q o1 a1 S1]) → va_S A s.heap H locs → lv_has ls 4 [(0, .ref o0), (2, .int x2), (3, .int x3)] → W p l e rm_X10_sit s m args below meth c H locs 0 0 (MQ below (QI D A r (fl [g10 q o0 a0 T0, g8 q o1 a1 S1])) args s 0 0 A) (F0 m 46 ls [])) {x2 : Int32} {x3 : Int32} {S0 : St} {S1 : St} (hF : F_X10_sit_46 k46 x2 x3 S0 S1 = some (r, T0)) {H : Heap} {locs : List Loc} (hP : va_P D vwCl (fl [g10 q o0 a0 S0, g8 q o1 a1 S1]) H) (hD : va_D A (fl [g10 q o0 a0 S0, g8 q o1 a1 S1])) (hS : va_S A s.heap H locs) {ls : Array Slot} (hl : lv_has ls 4 [(0, .ref o0), (2, .int x2), (3, .int x3)]) : W p l e rm_X10_sit s m args below meth c H locs 0 0 (MQ below (QI D A r (fl [g10 q o0 a0 T0, g8 q o1 a1 S1])) args s 0 0 A) (F0 m 46 ls []) := by
  unfold F_X10_sit_46 at hF
  obtain ⟨hx, hb, hr, hml, hown, hts, hlk, hA, hK, hN, hV⟩ := id C
  refine lv_iload_n hx hb dX10_sit_46 rfl (lv_at hl 2 rfl) ?_
  refine lv_if_eq (tgt := 67) hx hb dX10_sit_47 (by decide) (fun c1 => ?_) (fun c1 => ?_)
  · have hF := op_t hF c1
    refine lv_iload_n hx hb dX10_sit_67 rfl (lv_at hl 1 rfl) ?_
    cases hF
    exact k_iret C hP hS dX10_sit_68
  · have hF := op_f hF c1
    refine lv_iload_n hx hb dX10_sit_50 rfl (lv_at hl 1 rfl) ?_
    refine lv_bipush (v := (10 : Int32)) hx hb dX10_sit_51 (by decide) ?_
    refine lv_icmp_ge (tgt := 67) hx hb dX10_sit_53 (by decide) (fun c2 => ?_) (fun c2 => ?_)
    · have hF := op_t hF c2
      refine lv_iload_n hx hb dX10_sit_67 rfl (lv_at hl 1 rfl) ?_
      cases hF
      exact k_iret C hP hS dX10_sit_68
    · have hF := op_f hF c2
      refine lv_aload_n hx hb dX10_sit_56 rfl (lv_at hl 0 rfl) ?_
      obtain ⟨r4, U5, hc3, hF⟩ := ob2_s hF
      refine k_igrp (gs8 := [g10 q o0 a0 U5, g8 q o1 a1 S1]) C (k_rV (As := []) (rest := []) C (c_X10_goRound l D q o0 a0 S0 _ hc3) kc_X10_goRound ml_X10_36 rfl rfl (by decide) (flP hP [0] rfl) (flD hD [0] (by decide) rfl) hS (va_recv hK hP (ci := 10) (q0 := 0) rfl rfl) rfl hl.1 rfl (Nat.le_of_ble_eq_true rfl) dX10_sit_57 (by decide)) hP hD hS [0] [1] [g8 q o1 a1 S1] 2 (by decide) rfl rfl rfl rfl rfl rfl (by simp only [List.map_cons, List.map_nil, gad10, gad8]) (fun H locs hP hD hS => ?_)
      refine lv_istore_n (lv' := [(3, .int r4), (0, .ref o0), (2, .int x2)]) hx hb dX10_sit_60 rfl hl (by decide) rfl (fun ls hl => ?_)
      refine lv_iinc (v := (x2 + 1)) (lv' := [(2, .int (x2 + 1)), (3, .int r4), (0, .ref o0)]) hx hb dX10_sit_61 hl (k := 2) rfl rfl (by decide) rfl (fun ls hl => ?_)
      refine lv_goto (tgt := 46) hx hb dX10_sit_64 (by decide) ?_
      exact hk46 (x2 + 1) r4 U5 S1 hF _ _ _ hP hD hS (lv_sub hl [2, 0, 1] rfl)
set_option maxRecDepth 100000 in
set_option maxHeartbeats 4000000 in
theorem l_X10_sit_46 {p : Program} {l : Launch} {e : Env} {s : State} {m : MethodId} {args : Array Value} {below : List Frame} {meth : Method} {c : Code} {D : va_G} {q : Nat → ClassId} {A : Nat → Prop} {o0 : Nat} {a0 : Nat → Nat} {o1 : Nat} {a1 : Nat → Nat} {r : Int32} {T0 : St} (C : cx p s m args meth c cX10_sit 4 (some .int) RX10 D q A) {x2 : Int32} {x3 : Int32} {S0 : St} {S1 : St} (hF : L_X10_sit_46 x2 x3 S0 S1 = some (r, T0)) : ∀ (H : Heap) (locs : List Loc) (ls : Array Slot), va_P D vwCl (fl [g10 q o0 a0 S0, g8 q o1 a1 S1]) H → va_D A (fl [g10 q o0 a0 S0, g8 q o1 a1 S1]) → va_S A s.heap H locs → lv_has ls 4 [(0, .ref o0), (2, .int x2), (3, .int x3)] → W p l e rm_X10_sit s m args below meth c H locs 0 0 (MQ below (QI D A r (fl [g10 q o0 a0 T0, g8 q o1 a1 S1])) args s 0 0 A) (F0 m 46 ls []) :=
  lp_G _ _ (fun z => ∀ (H : Heap) (locs : List Loc) (ls : Array Slot), va_P D vwCl (fl [g10 q o0 a0 z.2.2.1, g8 q o1 a1 z.2.2.2]) H → va_D A (fl [g10 q o0 a0 z.2.2.1, g8 q o1 a1 z.2.2.2]) → va_S A s.heap H locs → lv_has ls 4 [(0, .ref o0), (2, .int z.1), (3, .int z.2.1)] → W p l e rm_X10_sit s m args below meth c H locs 0 0 (MQ below (QI D A r (fl [g10 q o0 a0 T0, g8 q o1 a1 z.2.2.2])) args s 0 0 A) (F0 m 46 ls [])) (fun kz hkz z hz H locs ls hP hD hS hl => b_X10_sit_46 C (fun x2 x3 S0 S1 hz => hkz (x2, x3, S0, S1) hz) hz hP hD hS hl) FU (x2, x3, S0, S1) hF
set_option maxRecDepth 100000 in
set_option maxHeartbeats 4000000 in
theorem c_X10_sit (l : Launch) (D : va_G) (q : Nat → ClassId) (o0 : Nat) (a0 : Nat → Nat) (S0 : St) (o1 : Nat) (a1 : Nat → Nat) (S1 : St) (sz : Nat) {r : Int32} {T0 : St} (hF : F_X10_sit S0 S1 = some (r, T0)) : Met l yX10_sit (Cond.code yX10_sit cX10_sit 4 (some .int) :: TB) rm_X10_sit (PC D q [.ref o0, .ref o1] (fl [g10 q o0 a0 S0, g8 q o1 a1 S1]) sz) ((fun A => QI D A r (fl [g10 q o0 a0 T0, g8 q o1 a1 S1])) (va_A (fl [g10 q o0 a0 S0, g8 q o1 a1 S1]) sz)) 0 0 (va_A (fl [g10 q o0 a0 S0, g8 q o1 a1 S1]) sz) := by
  refine k_met (w0 := fl [g10 q o0 a0 S0, g8 q o1 a1 S1]) (Q := fun A => QI D A r (fl [g10 q o0 a0 T0, g8 q o1 a1 S1])) (by decide +kernel) (Nat.le_of_ble_eq_true rfl) ?_
  intro p e s m args below meth c A ls C hP hD hS hl
  have hl : lv_has ls 4 [(0, .ref o0), (1, .ref o1)] := hl
  unfold F_X10_sit at hF
  have C : cx p s m args meth c cX10_sit 4 (some .int) RX10 D q A := C
  obtain ⟨hx, hb, hr, hml, hown, hts, hlk, hA, hK, hN, hV⟩ := id C
  refine lv_aload_n hx hb dX10_sit_0 rfl (lv_at hl 0 rfl) ?_
  refine lv_aload_n hx hb dX10_sit_1 rfl (lv_at hl 1 rfl) ?_
  refine k_get (v := .int (S1.1 7)) C fg_X10_19 hP 2 rfl rfl dX10_sit_2 ?_
  obtain ⟨U1, e2, hF⟩ := nw_s hF
  refine k_put (W8 := fl [g10 q o0 a0 U1, g8 q o1 a1 S1]) C fp_X10_15 hP hD hS 0 rfl rfl rfl (Nat.le_of_ble_eq_true rfl) dX10_sit_5 (by rw [e2]; rfl) (fun H locs hP hD hS => ?_)
  refine lv_aload_n hx hb dX10_sit_8 rfl (lv_at hl 0 rfl) ?_
  refine lv_iconst (v := (1 : Int32)) hx hb dX10_sit_9 (by decide) ?_
  refine lv_aload_n hx hb dX10_sit_10 rfl (lv_at hl 0 rfl) ?_
  refine k_get (v := .int (U1.1 1)) C fg_X10_15 hP 0 rfl rfl dX10_sit_11 ?_
  refine lv_ishl hx hb dX10_sit_14 ?_
  refine lv_iconst (v := (1 : Int32)) hx hb dX10_sit_15 (by decide) ?_
  refine lv_isub hx hb dX10_sit_16 ?_
  refine lv_aload_n hx hb dX10_sit_17 rfl (lv_at hl 1 rfl) ?_
  obtain ⟨r4, hc3, hF⟩ := ob1_s hF
  refine k_iro C (k_rV (As := []) (rest := [.int (((1 : Int32) <<< ((U1.1 1) &&& 31)) - (1 : Int32)), .ref o0]) C (c_X8_upBits l D q o1 a1 S1 _ hc3) kc_X8_upBits ml_X10_22 rfl rfl (by decide) (flP hP [1] rfl) (flD hD [1] (by decide) rfl) hS (va_recv hK hP (ci := 8) (q0 := 2) rfl rfl) rfl hl.1 rfl (Nat.le_of_ble_eq_true rfl) dX10_sit_18 (by decide)) hP hD hS [1] [0] [g10 q o0 a0 U1] 2 (by decide) rfl rfl rfl rfl (fun H locs hP hD hS => ?_)
  refine lv_iconst (v := (-1 : Int32)) hx hb dX10_sit_21 (by decide) ?_
  refine lv_ixor hx hb dX10_sit_22 ?_
  refine lv_iand hx hb dX10_sit_23 ?_
  obtain ⟨U5, e6, hF⟩ := nw_s hF
  refine k_put (W8 := fl [g10 q o0 a0 U5, g8 q o1 a1 S1]) C fp_X10_26 hP hD hS 0 rfl rfl rfl (Nat.le_of_ble_eq_true rfl) dX10_sit_24 (by rw [e6]; rfl) (fun H locs hP hD hS => ?_)
  refine lv_aload_n hx hb dX10_sit_27 rfl (lv_at hl 1 rfl) ?_
  refine k_get (v := .ref (a1 10)) C fg_X10_29 hP 2 rfl rfl dX10_sit_28 ?_
  refine lv_iconst (v := (0 : Int32)) hx hb dX10_sit_31 (by decide) ?_
  refine lv_aload_n hx hb dX10_sit_32 rfl (lv_at hl 0 rfl) ?_
  refine k_get (v := .ref (a0 1)) C fg_X10_9 hP 0 rfl rfl dX10_sit_33 ?_
  refine lv_iconst (v := (0 : Int32)) hx hb dX10_sit_36 (by decide) ?_
  refine lv_bipush (v := (6 : Int32)) hx hb dX10_sit_37 (by decide) ?_
  obtain ⟨U7, e8, hF⟩ := nw_s hF
  refine k_cpi (f := S1.2.2.1 9) (g := U5.2.2.1 0) (W8 := fl [g10 q o0 a0 U7, g8 q o1 a1 S1]) C ml_X10_30 hl.1 hP hD hS 8 1 rfl rfl ⟨by decide, by decide⟩ (Nat.le_of_ble_eq_true rfl) ⟨by decide, by decide⟩ dX10_sit_39 (by rw [e8]; rfl) (fun H locs hP hD hS => ?_)
  refine lv_iconst (v := (0 : Int32)) hx hb dX10_sit_42 (by decide) ?_
  refine lv_istore_n (lv' := [(2, .int (0 : Int32)), (0, .ref o0), (1, .ref o1)]) hx hb dX10_sit_43 rfl hl (by decide) rfl (fun ls hl => ?_)
  refine lv_iconst (v := (1 : Int32)) hx hb dX10_sit_44 (by decide) ?_
  refine lv_istore_n (lv' := [(3, .int (1 : Int32)), (2, .int (0 : Int32)), (0, .ref o0), (1, .ref o1)]) hx hb dX10_sit_45 rfl hl (by decide) rfl (fun ls hl => ?_)
  exact l_X10_sit_46 C hF _ _ _ hP hD hS (lv_sub hl [2, 1, 0] rfl)

abbrev rm_X11_feed : Room := ({ frames := 2, cells := 0, slots := 0, locals := 43 } : Room)
def F_X11_feed (S0 : St) (S1 : St) (x1 : Int32) (x2 : Int32) (x3 : Int32) (x4 : Int32) (x5 : Int32) : Option (Int32 × St) := if ((S1.1 1) + (20 : Int32)) ≤ (940 : Int32) then (ob1 (F_X9_addNumber 940 S1 x1) fun U3 => ob1 (F_X9_addNumber 940 U3 x2) fun U5 => ob1 (F_X9_addNumber 940 U5 x3) fun U7 => ob1 (F_X9_addNumber 940 U7 x4) fun U9 => ob1 (F_X9_addNumber 940 U9 x5) fun U11 => some ((U11.1 1), U11)) else (some ((-1 : Int32), S1))
set_option maxRecDepth 100000 in
set_option maxHeartbeats 4000000 in
theorem c_X11_feed (l : Launch) (D : va_G) (q : Nat → ClassId) (tp : Nat) (o0 : Nat) (a0 : Nat → Nat) (S0 : St) (a1 : Nat → Nat) (S1 : St) (sz : Nat) (x1 : Int32) (x2 : Int32) (x3 : Int32) (x4 : Int32) (x5 : Int32) {r : Int32} {T1 : St} (hF : F_X11_feed S0 S1 x1 x2 x3 x4 x5 = some (r, T1)) : Met l yX11_feed (Cond.code yX11_feed cX11_feed 6 (some .int) :: TB) rm_X11_feed (PC D q [.ref o0, .int x1, .int x2, .int x3, .int x4, .int x5] (fl [g11 q o0 a0 tp S0, g9 q tp a1 940 S1]) sz) ((fun A => QI D A r (fl [g11 q o0 a0 tp S0, g9 q tp a1 940 T1])) (va_A (fl [g11 q o0 a0 tp S0, g9 q tp a1 940 S1]) sz)) 0 0 (va_A (fl [g11 q o0 a0 tp S0, g9 q tp a1 940 S1]) sz) := by
  refine k_met (w0 := fl [g11 q o0 a0 tp S0, g9 q tp a1 940 S1]) (Q := fun A => QI D A r (fl [g11 q o0 a0 tp S0, g9 q tp a1 940 T1])) (by decide +kernel) (Nat.le_of_ble_eq_true rfl) ?_
  intro p e s m args below meth c A ls C hP hD hS hl
  have hl : lv_has ls 6 [(0, .ref o0), (1, .int x1), (2, .int x2), (3, .int x3), (4, .int x4), (5, .int x5)] := hl
  unfold F_X11_feed at hF
  have C : cx p s m args meth c cX11_feed 6 (some .int) RX11 D q A := C
  obtain ⟨hx, hb, hr, hml, hown, hts, hlk, hA, hK, hN, hV⟩ := id C
  refine lv_aload_n hx hb dX11_feed_0 rfl (lv_at hl 0 rfl) ?_
  refine k_get (v := .ref tp) C fg_X11_20 hP 0 rfl rfl dX11_feed_1 ?_
  refine k_get (v := .int (S1.1 1)) C fg_X11_111 hP 2 rfl rfl dX11_feed_4 ?_
  refine lv_bipush (v := (20 : Int32)) hx hb dX11_feed_7 (by decide) ?_
  refine lv_iadd hx hb dX11_feed_9 ?_
  refine lv_sipush (v := (940 : Int32)) hx hb dX11_feed_10 (by decide) ?_
  refine lv_icmp_le (tgt := 18) hx hb dX11_feed_13 (by decide) (fun c1 => ?_) (fun c1 => ?_)
  · have hF := op_t hF c1
    refine lv_aload_n hx hb dX11_feed_18 rfl (lv_at hl 0 rfl) ?_
    refine k_get (v := .ref tp) C fg_X11_20 hP 0 rfl rfl dX11_feed_19 ?_
    refine lv_iload_n hx hb dX11_feed_22 rfl (lv_at hl 1 rfl) ?_
    obtain ⟨U3, hc2, hF⟩ := ob1_s hF
    refine k_vgrp (gs8 := [g11 q o0 a0 tp S0, g9 q tp a1 940 U3]) C (k_rV (As := [.int x1]) (rest := []) C (c_X9_addNumber l D q tp a1 940 S1 _ x1 hc2) kc_X9_addNumber ml_X11_114 rfl rfl (by decide) (flP hP [1] rfl) (flD hD [1] (by decide) rfl) hS (va_recv hK hP (ci := 9) (q0 := 2) rfl rfl) rfl hl.1 rfl (Nat.le_of_ble_eq_true rfl) dX11_feed_23 (by decide)) hP hD hS [1] [0] [g11 q o0 a0 tp S0] 2 (by decide) rfl rfl rfl rfl rfl rfl (by simp only [List.map_cons, List.map_nil, gad11, gad9]) (fun H locs hP hD hS => ?_)
    refine lv_aload_n hx hb dX11_feed_26 rfl (lv_at hl 0 rfl) ?_
    refine k_get (v := .ref tp) C fg_X11_20 hP 0 rfl rfl dX11_feed_27 ?_
    refine lv_iload_n hx hb dX11_feed_30 rfl (lv_at hl 2 rfl) ?_
    obtain ⟨U5, hc4, hF⟩ := ob1_s hF
    refine k_vgrp (gs8 := [g11 q o0 a0 tp S0, g9 q tp a1 940 U5]) C (k_rV (As := [.int x2]) (rest := []) C (c_X9_addNumber l D q tp a1 940 U3 _ x2 hc4) kc_X9_addNumber ml_X11_114 rfl rfl (by decide) (flP hP [1] rfl) (flD hD [1] (by decide) rfl) hS (va_recv hK hP (ci := 9) (q0 := 2) rfl rfl) rfl hl.1 rfl (Nat.le_of_ble_eq_true rfl) dX11_feed_31 (by decide)) hP hD hS [1] [0] [g11 q o0 a0 tp S0] 2 (by decide) rfl rfl rfl rfl rfl rfl (by simp only [List.map_cons, List.map_nil, gad11, gad9]) (fun H locs hP hD hS => ?_)
    refine lv_aload_n hx hb dX11_feed_34 rfl (lv_at hl 0 rfl) ?_
    refine k_get (v := .ref tp) C fg_X11_20 hP 0 rfl rfl dX11_feed_35 ?_
    refine lv_iload_n hx hb dX11_feed_38 rfl (lv_at hl 3 rfl) ?_
    obtain ⟨U7, hc6, hF⟩ := ob1_s hF
    refine k_vgrp (gs8 := [g11 q o0 a0 tp S0, g9 q tp a1 940 U7]) C (k_rV (As := [.int x3]) (rest := []) C (c_X9_addNumber l D q tp a1 940 U5 _ x3 hc6) kc_X9_addNumber ml_X11_114 rfl rfl (by decide) (flP hP [1] rfl) (flD hD [1] (by decide) rfl) hS (va_recv hK hP (ci := 9) (q0 := 2) rfl rfl) rfl hl.1 rfl (Nat.le_of_ble_eq_true rfl) dX11_feed_39 (by decide)) hP hD hS [1] [0] [g11 q o0 a0 tp S0] 2 (by decide) rfl rfl rfl rfl rfl rfl (by simp only [List.map_cons, List.map_nil, gad11, gad9]) (fun H locs hP hD hS => ?_)
    refine lv_aload_n hx hb dX11_feed_42 rfl (lv_at hl 0 rfl) ?_
    refine k_get (v := .ref tp) C fg_X11_20 hP 0 rfl rfl dX11_feed_43 ?_
    refine lv_iload hx hb dX11_feed_46 (lv_at hl 4 rfl) ?_
    obtain ⟨U9, hc8, hF⟩ := ob1_s hF
    refine k_vgrp (gs8 := [g11 q o0 a0 tp S0, g9 q tp a1 940 U9]) C (k_rV (As := [.int x4]) (rest := []) C (c_X9_addNumber l D q tp a1 940 U7 _ x4 hc8) kc_X9_addNumber ml_X11_114 rfl rfl (by decide) (flP hP [1] rfl) (flD hD [1] (by decide) rfl) hS (va_recv hK hP (ci := 9) (q0 := 2) rfl rfl) rfl hl.1 rfl (Nat.le_of_ble_eq_true rfl) dX11_feed_48 (by decide)) hP hD hS [1] [0] [g11 q o0 a0 tp S0] 2 (by decide) rfl rfl rfl rfl rfl rfl (by simp only [List.map_cons, List.map_nil, gad11, gad9]) (fun H locs hP hD hS => ?_)
    refine lv_aload_n hx hb dX11_feed_51 rfl (lv_at hl 0 rfl) ?_
    refine k_get (v := .ref tp) C fg_X11_20 hP 0 rfl rfl dX11_feed_52 ?_
    refine lv_iload hx hb dX11_feed_55 (lv_at hl 5 rfl) ?_
    obtain ⟨U11, hc10, hF⟩ := ob1_s hF
    refine k_vgrp (gs8 := [g11 q o0 a0 tp S0, g9 q tp a1 940 U11]) C (k_rV (As := [.int x5]) (rest := []) C (c_X9_addNumber l D q tp a1 940 U9 _ x5 hc10) kc_X9_addNumber ml_X11_114 rfl rfl (by decide) (flP hP [1] rfl) (flD hD [1] (by decide) rfl) hS (va_recv hK hP (ci := 9) (q0 := 2) rfl rfl) rfl hl.1 rfl (Nat.le_of_ble_eq_true rfl) dX11_feed_57 (by decide)) hP hD hS [1] [0] [g11 q o0 a0 tp S0] 2 (by decide) rfl rfl rfl rfl rfl rfl (by simp only [List.map_cons, List.map_nil, gad11, gad9]) (fun H locs hP hD hS => ?_)
    refine lv_aload_n hx hb dX11_feed_60 rfl (lv_at hl 0 rfl) ?_
    refine k_get (v := .ref tp) C fg_X11_20 hP 0 rfl rfl dX11_feed_61 ?_
    refine k_get (v := .int (U11.1 1)) C fg_X11_111 hP 2 rfl rfl dX11_feed_64 ?_
    cases hF
    exact k_iret C hP hS dX11_feed_67
  · have hF := op_f hF c1
    refine lv_iconst (v := (-1 : Int32)) hx hb dX11_feed_16 (by decide) ?_
    cases hF
    exact k_iret C hP hS dX11_feed_17

abbrev rm_X11_end : Room := ({ frames := 0, cells := 0, slots := 0, locals := 0 } : Room)
def F_X11_end (S0 : St) (S1 : St) (x1 : Int32) : Option (Int32 × St) := if x1 < 0 then (some ((0 : Int32), S1)) else (if x1 ≤ (S1.1 1) then (nw (sI S1 1 x1) fun U3 => some ((1 : Int32), U3)) else (some ((0 : Int32), S1)))
set_option maxRecDepth 100000 in
set_option maxHeartbeats 4000000 in
theorem c_X11_end (l : Launch) (D : va_G) (q : Nat → ClassId) (tp : Nat) (o0 : Nat) (a0 : Nat → Nat) (S0 : St) (a1 : Nat → Nat) (S1 : St) (sz : Nat) (x1 : Int32) {r : Int32} {T1 : St} (hF : F_X11_end S0 S1 x1 = some (r, T1)) : Met l yX11_end (Cond.code yX11_end cX11_end 2 (some .boolean) :: TB) rm_X11_end (PC D q [.ref o0, .int x1] (fl [g11 q o0 a0 tp S0, g9 q tp a1 940 S1]) sz) ((fun A => QI D A r (fl [g11 q o0 a0 tp S0, g9 q tp a1 940 T1])) (va_A (fl [g11 q o0 a0 tp S0, g9 q tp a1 940 S1]) sz)) 0 0 (va_A (fl [g11 q o0 a0 tp S0, g9 q tp a1 940 S1]) sz) := by
  refine k_met (w0 := fl [g11 q o0 a0 tp S0, g9 q tp a1 940 S1]) (Q := fun A => QI D A r (fl [g11 q o0 a0 tp S0, g9 q tp a1 940 T1])) (by decide +kernel) (Nat.le_of_ble_eq_true rfl) ?_
  intro p e s m args below meth c A ls C hP hD hS hl
  have hl : lv_has ls 2 [(0, .ref o0), (1, .int x1)] := hl
  unfold F_X11_end at hF
  have C : cx p s m args meth c cX11_end 2 (some .boolean) RX11 D q A := C
  obtain ⟨hx, hb, hr, hml, hown, hts, hlk, hA, hK, hN, hV⟩ := id C
  refine lv_iload_n hx hb dX11_end_0 rfl (lv_at hl 1 rfl) ?_
  refine lv_if_lt (tgt := 15) hx hb dX11_end_1 (by decide) (fun c1 => ?_) (fun c1 => ?_)
  · have hF := op_t hF c1
    refine lv_iconst (v := (0 : Int32)) hx hb dX11_end_15 (by decide) ?_
    cases hF
    exact k_zret C (by decide) hP hS dX11_end_16
  · have hF := op_f hF c1
    refine lv_iload_n hx hb dX11_end_4 rfl (lv_at hl 1 rfl) ?_
    refine lv_aload_n hx hb dX11_end_5 rfl (lv_at hl 0 rfl) ?_
    refine k_get (v := .ref tp) C fg_X11_20 hP 0 rfl rfl dX11_end_6 ?_
    refine k_get (v := .int (S1.1 1)) C fg_X11_111 hP 2 rfl rfl dX11_end_9 ?_
    refine lv_icmp_le (tgt := 17) hx hb dX11_end_12 (by decide) (fun c2 => ?_) (fun c2 => ?_)
    · have hF := op_t hF c2
      refine lv_aload_n hx hb dX11_end_17 rfl (lv_at hl 0 rfl) ?_
      refine k_get (v := .ref tp) C fg_X11_20 hP 0 rfl rfl dX11_end_18 ?_
      refine lv_iload_n hx hb dX11_end_21 rfl (lv_at hl 1 rfl) ?_
      obtain ⟨U3, e4, hF⟩ := nw_s hF
      refine k_put (W8 := fl [g11 q o0 a0 tp S0, g9 q tp a1 940 U3]) C fp_X11_111 hP hD hS 2 rfl rfl rfl (Nat.le_of_ble_eq_true rfl) dX11_end_22 (by rw [e4]; rfl) (fun H locs hP hD hS => ?_)
      refine lv_iconst (v := (1 : Int32)) hx hb dX11_end_25 (by decide) ?_
      cases hF
      exact k_zret C (by decide) hP hS dX11_end_26
    · have hF := op_f hF c2
      refine lv_iconst (v := (0 : Int32)) hx hb dX11_end_15 (by decide) ?_
      cases hF
      exact k_zret C (by decide) hP hS dX11_end_16

abbrev rm_X11_closeText : Room := ({ frames := 0, cells := 0, slots := 0, locals := 0 } : Room)
def F_X11_closeText (S0 : St) (S1 : St) (S2 : St) : Option (St × St) := nw (sI S0 15 (S1.1 8)) fun U1 => nw (sI S2 1 (0 : Int32)) fun U3 => some (U1, U3)
set_option maxRecDepth 100000 in
set_option maxHeartbeats 4000000 in
theorem c_X11_closeText (l : Launch) (D : va_G) (q : Nat → ClassId) (tp : Nat) (o0 : Nat) (a0 : Nat → Nat) (S0 : St) (a1 : Nat → Nat) (S1 : St) (a2 : Nat → Nat) (S2 : St) (sz : Nat) {T0 : St} {T2 : St} (hF : F_X11_closeText S0 S1 S2 = some (T0, T2)) : Met l yX11_closeText (Cond.code yX11_closeText cX11_closeText 1 none :: TB) rm_X11_closeText (PC D q [.ref o0] (fl [g11 q o0 a0 tp S0, g5 q (a0 1) a1 tp S1, g9 q tp a2 940 S2]) sz) ((fun A => QV D A (fl [g11 q o0 a0 tp T0, g5 q (a0 1) a1 tp S1, g9 q tp a2 940 T2])) (va_A (fl [g11 q o0 a0 tp S0, g5 q (a0 1) a1 tp S1, g9 q tp a2 940 S2]) sz)) 0 0 (va_A (fl [g11 q o0 a0 tp S0, g5 q (a0 1) a1 tp S1, g9 q tp a2 940 S2]) sz) := by
  refine k_met (w0 := fl [g11 q o0 a0 tp S0, g5 q (a0 1) a1 tp S1, g9 q tp a2 940 S2]) (Q := fun A => QV D A (fl [g11 q o0 a0 tp T0, g5 q (a0 1) a1 tp S1, g9 q tp a2 940 T2])) (by decide +kernel) (Nat.le_of_ble_eq_true rfl) ?_
  intro p e s m args below meth c A ls C hP hD hS hl
  have hl : lv_has ls 1 [(0, .ref o0)] := hl
  unfold F_X11_closeText at hF
  have C : cx p s m args meth c cX11_closeText 1 none RX11 D q A := C
  obtain ⟨hx, hb, hr, hml, hown, hts, hlk, hA, hK, hN, hV⟩ := id C
  refine lv_aload_n hx hb dX11_closeText_0 rfl (lv_at hl 0 rfl) ?_
  refine lv_aload_n hx hb dX11_closeText_1 rfl (lv_at hl 0 rfl) ?_
  refine k_get (v := .ref (a0 1)) C fg_X11_10 hP 0 rfl rfl dX11_closeText_2 ?_
  refine k_get (v := .int (S1.1 8)) C fg_X11_372 hP 2 rfl rfl dX11_closeText_5 ?_
  obtain ⟨U1, e2, hF⟩ := nw_s hF
  refine k_put (W8 := fl [g11 q o0 a0 tp U1, g5 q (a0 1) a1 tp S1, g9 q tp a2 940 S2]) C fp_X11_104 hP hD hS 0 rfl rfl rfl (Nat.le_of_ble_eq_true rfl) dX11_closeText_8 (by rw [e2]; rfl) (fun H locs hP hD hS => ?_)
  refine lv_aload_n hx hb dX11_closeText_11 rfl (lv_at hl 0 rfl) ?_
  refine k_get (v := .ref tp) C fg_X11_20 hP 0 rfl rfl dX11_closeText_12 ?_
  refine lv_iconst (v := (0 : Int32)) hx hb dX11_closeText_15 (by decide) ?_
  obtain ⟨U3, e4, hF⟩ := nw_s hF
  refine k_put (W8 := fl [g11 q o0 a0 tp U1, g5 q (a0 1) a1 tp S1, g9 q tp a2 940 U3]) C fp_X11_111 hP hD hS 7 rfl rfl rfl (Nat.le_of_ble_eq_true rfl) dX11_closeText_16 (by rw [e4]; rfl) (fun H locs hP hD hS => ?_)
  cases hF
  exact k_vret C hP hS dX11_closeText_19

abbrev rm_X11_fault : Room := ({ frames := 0, cells := 0, slots := 0, locals := 0 } : Room)
def F_X11_fault (S0 : St) : Option (Int32) := some ((S0.1 15))
set_option maxRecDepth 100000 in
set_option maxHeartbeats 4000000 in
theorem c_X11_fault (l : Launch) (D : va_G) (q : Nat → ClassId) (tp : Nat) (o0 : Nat) (a0 : Nat → Nat) (S0 : St) (sz : Nat) {r : Int32} (hF : F_X11_fault S0 = some (r)) : Met l yX11_fault (Cond.code yX11_fault cX11_fault 1 (some .int) :: TB) rm_X11_fault (PC D q [.ref o0] (fl [g11 q o0 a0 tp S0]) sz) ((fun A => QI D A r (fl [g11 q o0 a0 tp S0])) (va_A (fl [g11 q o0 a0 tp S0]) sz)) 0 0 (va_A (fl [g11 q o0 a0 tp S0]) sz) := by
  refine k_met (w0 := fl [g11 q o0 a0 tp S0]) (Q := fun A => QI D A r (fl [g11 q o0 a0 tp S0])) (by decide +kernel) (Nat.le_of_ble_eq_true rfl) ?_
  intro p e s m args below meth c A ls C hP hD hS hl
  have hl : lv_has ls 1 [(0, .ref o0)] := hl
  unfold F_X11_fault at hF
  have C : cx p s m args meth c cX11_fault 1 (some .int) RX11 D q A := C
  obtain ⟨hx, hb, hr, hml, hown, hts, hlk, hA, hK, hN, hV⟩ := id C
  refine lv_aload_n hx hb dX11_fault_0 rfl (lv_at hl 0 rfl) ?_
  refine k_get (v := .int (S0.1 15)) C fg_X11_104 hP 0 rfl rfl dX11_fault_1 ?_
  cases hF
  exact k_iret C hP hS dX11_fault_4

abbrev rm_X11_turret : Room := ({ frames := 3, cells := 0, slots := 0, locals := 67 } : Room)
def F_X11_turret (S0 : St) (S1 : St) (x1 : Int32) (x2 : Int32) : Option (Int32) := ob1 (F_X8_hasTurret S1 x1) fun r2 => if r2 = 0 then (some ((-1 : Int32))) else (if x2 = (0 : Int32) then (if oob x1 7 then none else some ((S1.2.2.1 2 x1.toNatClampNeg))) else if x2 = (1 : Int32) then (if oob x1 7 then none else some ((S1.2.2.1 3 x1.toNatClampNeg))) else if x2 = (2 : Int32) then (if oob x1 7 then none else some ((S1.2.2.1 4 x1.toNatClampNeg))) else if x2 = (3 : Int32) then (some ((((S1.1 5) >>> (x1 &&& 31)) &&& (1 : Int32)))) else if x2 = (4 : Int32) then (some ((((S1.1 6) >>> (x1 &&& 31)) &&& (1 : Int32)))) else if x2 = (5 : Int32) then (ob1 (F_X8_whoIsUp S1 x1) fun r14 => some (r14)) else if x2 = (6 : Int32) then (ob1 (F_X8_lookBits S1 x1) fun r17 => some (r17)) else some ((-1 : Int32)))
set_option maxRecDepth 100000 in
set_option maxHeartbeats 4000000 in
theorem c_X11_turret (l : Launch) (D : va_G) (q : Nat → ClassId) (tp : Nat) (o0 : Nat) (a0 : Nat → Nat) (S0 : St) (a1 : Nat → Nat) (S1 : St) (sz : Nat) (x1 : Int32) (x2 : Int32) {r : Int32} (hF : F_X11_turret S0 S1 x1 x2 = some (r)) : Met l yX11_turret (Cond.code yX11_turret cX11_turret 3 (some .int) :: TB) rm_X11_turret (PC D q [.ref o0, .int x1, .int x2] (fl [g11 q o0 a0 tp S0, g8 q (a0 3) a1 S1]) sz) ((fun A => QI D A r (fl [g11 q o0 a0 tp S0, g8 q (a0 3) a1 S1])) (va_A (fl [g11 q o0 a0 tp S0, g8 q (a0 3) a1 S1]) sz)) 0 0 (va_A (fl [g11 q o0 a0 tp S0, g8 q (a0 3) a1 S1]) sz) := by
  refine k_met (w0 := fl [g11 q o0 a0 tp S0, g8 q (a0 3) a1 S1]) (Q := fun A => QI D A r (fl [g11 q o0 a0 tp S0, g8 q (a0 3) a1 S1])) (by decide +kernel) (Nat.le_of_ble_eq_true rfl) ?_
  intro p e s m args below meth c A ls C hP hD hS hl
  have hl : lv_has ls 3 [(0, .ref o0), (1, .int x1), (2, .int x2)] := hl
  unfold F_X11_turret at hF
  have C : cx p s m args meth c cX11_turret 3 (some .int) RX11 D q A := C
  obtain ⟨hx, hb, hr, hml, hown, hts, hlk, hA, hK, hN, hV⟩ := id C
  refine lv_aload_n hx hb dX11_turret_0 rfl (lv_at hl 0 rfl) ?_
  refine k_get (v := .ref (a0 3)) C fg_X11_26 hP 0 rfl rfl dX11_turret_1 ?_
  refine lv_iload_n hx hb dX11_turret_4 rfl (lv_at hl 1 rfl) ?_
  obtain ⟨r2, hc1, hF⟩ := ob1_s hF
  refine k_iro C (k_rV (As := [.int x1]) (rest := []) C (c_X8_hasTurret l D q (a0 3) a1 S1 _ x1 hc1) kc_X8_hasTurret ml_X11_172 rfl rfl (by decide) (flP hP [1] rfl) (flD hD [1] (by decide) rfl) hS (va_recv hK hP (ci := 8) (q0 := 2) rfl rfl) rfl hl.1 rfl (Nat.le_of_ble_eq_true rfl) dX11_turret_5 (by decide)) hP hD hS [1] [0] [g11 q o0 a0 tp S0] 2 (by decide) rfl rfl rfl rfl (fun H locs hP hD hS => ?_)
  refine lv_if_ne (tgt := 13) hx hb dX11_turret_8 (by decide) (fun c3 => ?_) (fun c3 => ?_)
  · have hF := op_f hF c3
    refine lv_iload_n hx hb dX11_turret_13 rfl (lv_at hl 2 rfl) ?_
    by_cases c4 : x2 = (0 : Int32)
    · have hF := op_t hF c4
      refine lv_tableIn (tgt := 56) hx hb dX11_turret_14 (by rw [c4]; decide) (by rw [c4]; decide) (by rw [c4]; rfl) (by decide) ?_
      refine lv_aload_n hx hb dX11_turret_56 rfl (lv_at hl 0 rfl) ?_
      refine k_get (v := .ref (a0 3)) C fg_X11_26 hP 0 rfl rfl dX11_turret_57 ?_
      refine k_get (v := .ref (a1 3)) C fg_X11_175 hP 2 rfl rfl dX11_turret_60 ?_
      refine lv_iload_n hx hb dX11_turret_63 rfl (lv_at hl 1 rfl) ?_
      obtain ⟨h5, hF⟩ := op_ck hF
      refine k_ild (f := S1.2.2.1 2) C hP 4 rfl h5 dX11_turret_64 ?_
      cases hF
      exact k_iret C hP hS dX11_turret_65
    have hF := op_f hF c4
    by_cases c6 : x2 = (1 : Int32)
    · have hF := op_t hF c6
      refine lv_tableIn (tgt := 66) hx hb dX11_turret_14 (by rw [c6]; decide) (by rw [c6]; decide) (by rw [c6]; rfl) (by decide) ?_
      refine lv_aload_n hx hb dX11_turret_66 rfl (lv_at hl 0 rfl) ?_
      refine k_get (v := .ref (a0 3)) C fg_X11_26 hP 0 rfl rfl dX11_turret_67 ?_
      refine k_get (v := .ref (a1 4)) C fg_X11_178 hP 2 rfl rfl dX11_turret_70 ?_
      refine lv_iload_n hx hb dX11_turret_73 rfl (lv_at hl 1 rfl) ?_
      obtain ⟨h7, hF⟩ := op_ck hF
      refine k_ild (f := S1.2.2.1 3) C hP 5 rfl h7 dX11_turret_74 ?_
      cases hF
      exact k_iret C hP hS dX11_turret_75
    have hF := op_f hF c6
    by_cases c8 : x2 = (2 : Int32)
    · have hF := op_t hF c8
      refine lv_tableIn (tgt := 76) hx hb dX11_turret_14 (by rw [c8]; decide) (by rw [c8]; decide) (by rw [c8]; rfl) (by decide) ?_
      refine lv_aload_n hx hb dX11_turret_76 rfl (lv_at hl 0 rfl) ?_
      refine k_get (v := .ref (a0 3)) C fg_X11_26 hP 0 rfl rfl dX11_turret_77 ?_
      refine k_get (v := .ref (a1 5)) C fg_X11_181 hP 2 rfl rfl dX11_turret_80 ?_
      refine lv_iload_n hx hb dX11_turret_83 rfl (lv_at hl 1 rfl) ?_
      obtain ⟨h9, hF⟩ := op_ck hF
      refine k_ild (f := S1.2.2.1 4) C hP 6 rfl h9 dX11_turret_84 ?_
      cases hF
      exact k_iret C hP hS dX11_turret_85
    have hF := op_f hF c8
    by_cases c10 : x2 = (3 : Int32)
    · have hF := op_t hF c10
      refine lv_tableIn (tgt := 86) hx hb dX11_turret_14 (by rw [c10]; decide) (by rw [c10]; decide) (by rw [c10]; rfl) (by decide) ?_
      refine lv_aload_n hx hb dX11_turret_86 rfl (lv_at hl 0 rfl) ?_
      refine k_get (v := .ref (a0 3)) C fg_X11_26 hP 0 rfl rfl dX11_turret_87 ?_
      refine k_get (v := .int (S1.1 5)) C fg_X11_184 hP 2 rfl rfl dX11_turret_90 ?_
      refine lv_iload_n hx hb dX11_turret_93 rfl (lv_at hl 1 rfl) ?_
      refine lv_ishr hx hb dX11_turret_94 ?_
      refine lv_iconst (v := (1 : Int32)) hx hb dX11_turret_95 (by decide) ?_
      refine lv_iand hx hb dX11_turret_96 ?_
      cases hF
      exact k_iret C hP hS dX11_turret_97
    have hF := op_f hF c10
    by_cases c11 : x2 = (4 : Int32)
    · have hF := op_t hF c11
      refine lv_tableIn (tgt := 98) hx hb dX11_turret_14 (by rw [c11]; decide) (by rw [c11]; decide) (by rw [c11]; rfl) (by decide) ?_
      refine lv_aload_n hx hb dX11_turret_98 rfl (lv_at hl 0 rfl) ?_
      refine k_get (v := .ref (a0 3)) C fg_X11_26 hP 0 rfl rfl dX11_turret_99 ?_
      refine k_get (v := .int (S1.1 6)) C fg_X11_187 hP 2 rfl rfl dX11_turret_102 ?_
      refine lv_iload_n hx hb dX11_turret_105 rfl (lv_at hl 1 rfl) ?_
      refine lv_ishr hx hb dX11_turret_106 ?_
      refine lv_iconst (v := (1 : Int32)) hx hb dX11_turret_107 (by decide) ?_
      refine lv_iand hx hb dX11_turret_108 ?_
      cases hF
      exact k_iret C hP hS dX11_turret_109
    have hF := op_f hF c11
    by_cases c12 : x2 = (5 : Int32)
    · have hF := op_t hF c12
      refine lv_tableIn (tgt := 110) hx hb dX11_turret_14 (by rw [c12]; decide) (by rw [c12]; decide) (by rw [c12]; rfl) (by decide) ?_
      refine lv_aload_n hx hb dX11_turret_110 rfl (lv_at hl 0 rfl) ?_
      refine k_get (v := .ref (a0 3)) C fg_X11_26 hP 0 rfl rfl dX11_turret_111 ?_
      refine lv_iload_n hx hb dX11_turret_114 rfl (lv_at hl 1 rfl) ?_
      obtain ⟨r14, hc13, hF⟩ := ob1_s hF
      refine k_iro C (k_rV (As := [.int x1]) (rest := []) C (c_X8_whoIsUp l D q (a0 3) a1 S1 _ x1 hc13) kc_X8_whoIsUp ml_X11_190 rfl rfl (by decide) (flP hP [1] rfl) (flD hD [1] (by decide) rfl) hS (va_recv hK hP (ci := 8) (q0 := 2) rfl rfl) rfl hl.1 rfl (Nat.le_of_ble_eq_true rfl) dX11_turret_115 (by decide)) hP hD hS [1] [0] [g11 q o0 a0 tp S0] 2 (by decide) rfl rfl rfl rfl (fun H locs hP hD hS => ?_)
      cases hF
      exact k_iret C hP hS dX11_turret_118
    have hF := op_f hF c12
    by_cases c15 : x2 = (6 : Int32)
    · have hF := op_t hF c15
      refine lv_tableIn (tgt := 119) hx hb dX11_turret_14 (by rw [c15]; decide) (by rw [c15]; decide) (by rw [c15]; rfl) (by decide) ?_
      refine lv_aload_n hx hb dX11_turret_119 rfl (lv_at hl 0 rfl) ?_
      refine k_get (v := .ref (a0 3)) C fg_X11_26 hP 0 rfl rfl dX11_turret_120 ?_
      refine lv_iload_n hx hb dX11_turret_123 rfl (lv_at hl 1 rfl) ?_
      obtain ⟨r17, hc16, hF⟩ := ob1_s hF
      refine k_iro C (k_rV (As := [.int x1]) (rest := []) C (c_X8_lookBits l D q (a0 3) a1 S1 _ x1 hc16) kc_X8_lookBits ml_X11_193 rfl rfl (by decide) (flP hP [1] rfl) (flD hD [1] (by decide) rfl) hS (va_recv hK hP (ci := 8) (q0 := 2) rfl rfl) rfl hl.1 rfl (Nat.le_of_ble_eq_true rfl) dX11_turret_124 (by decide)) hP hD hS [1] [0] [g11 q o0 a0 tp S0] 2 (by decide) rfl rfl rfl rfl (fun H locs hP hD hS => ?_)
      cases hF
      exact k_iret C hP hS dX11_turret_127
    have hF := op_f hF c15
    have nc4 := lv_neT (a := 0) c4 (by decide)
    have nc6 := lv_neT (a := 1) c6 (by decide)
    have nc8 := lv_neT (a := 2) c8 (by decide)
    have nc10 := lv_neT (a := 3) c10 (by decide)
    have nc11 := lv_neT (a := 4) c11 (by decide)
    have nc12 := lv_neT (a := 5) c12 (by decide)
    have nc15 := lv_neT (a := 6) c15 (by decide)
    refine lv_tableOut (tgt := 128) hx hb dX11_turret_14 (by omega) (by decide) ?_
    refine lv_iconst (v := (-1 : Int32)) hx hb dX11_turret_128 (by decide) ?_
    cases hF
    exact k_iret C hP hS dX11_turret_129
  · have hF := op_t hF c3
    refine lv_iconst (v := (-1 : Int32)) hx hb dX11_turret_11 (by decide) ?_
    cases hF
    exact k_iret C hP hS dX11_turret_12

abbrev rm_X11_looks : Room := ({ frames := 2, cells := 0, slots := 0, locals := 43 } : Room)
def F_X11_looks (S0 : St) (S1 : St) (x1 : Int32) (x2 : Int32) : Option (Int32) := ob1 (F_X8_hasTurret S1 x1) fun r2 => if r2 = 0 then (some ((-1 : Int32))) else (if x2 < 0 then (some ((-1 : Int32))) else (ob1 (F_X8_lookCount S1 x1) fun r6 => if x2 < r6 then (ob1 (F_X8_lookAt S1 x1 x2) fun r9 => some (r9)) else (some ((-1 : Int32)))))
set_option maxRecDepth 100000 in
set_option maxHeartbeats 4000000 in
theorem c_X11_looks (l : Launch) (D : va_G) (q : Nat → ClassId) (tp : Nat) (o0 : Nat) (a0 : Nat → Nat) (S0 : St) (a1 : Nat → Nat) (S1 : St) (sz : Nat) (x1 : Int32) (x2 : Int32) {r : Int32} (hF : F_X11_looks S0 S1 x1 x2 = some (r)) : Met l yX11_looks (Cond.code yX11_looks cX11_looks 3 (some .int) :: TB) rm_X11_looks (PC D q [.ref o0, .int x1, .int x2] (fl [g11 q o0 a0 tp S0, g8 q (a0 3) a1 S1]) sz) ((fun A => QI D A r (fl [g11 q o0 a0 tp S0, g8 q (a0 3) a1 S1])) (va_A (fl [g11 q o0 a0 tp S0, g8 q (a0 3) a1 S1]) sz)) 0 0 (va_A (fl [g11 q o0 a0 tp S0, g8 q (a0 3) a1 S1]) sz) := by
  refine k_met (w0 := fl [g11 q o0 a0 tp S0, g8 q (a0 3) a1 S1]) (Q := fun A => QI D A r (fl [g11 q o0 a0 tp S0, g8 q (a0 3) a1 S1])) (by decide +kernel) (Nat.le_of_ble_eq_true rfl) ?_
  intro p e s m args below meth c A ls C hP hD hS hl
  have hl : lv_has ls 3 [(0, .ref o0), (1, .int x1), (2, .int x2)] := hl
  unfold F_X11_looks at hF
  have C : cx p s m args meth c cX11_looks 3 (some .int) RX11 D q A := C
  obtain ⟨hx, hb, hr, hml, hown, hts, hlk, hA, hK, hN, hV⟩ := id C
  refine lv_aload_n hx hb dX11_looks_0 rfl (lv_at hl 0 rfl) ?_
  refine k_get (v := .ref (a0 3)) C fg_X11_26 hP 0 rfl rfl dX11_looks_1 ?_
  refine lv_iload_n hx hb dX11_looks_4 rfl (lv_at hl 1 rfl) ?_
  obtain ⟨r2, hc1, hF⟩ := ob1_s hF
  refine k_iro C (k_rV (As := [.int x1]) (rest := []) C (c_X8_hasTurret l D q (a0 3) a1 S1 _ x1 hc1) kc_X8_hasTurret ml_X11_172 rfl rfl (by decide) (flP hP [1] rfl) (flD hD [1] (by decide) rfl) hS (va_recv hK hP (ci := 8) (q0 := 2) rfl rfl) rfl hl.1 rfl (Nat.le_of_ble_eq_true rfl) dX11_looks_5 (by decide)) hP hD hS [1] [0] [g11 q o0 a0 tp S0] 2 (by decide) rfl rfl rfl rfl (fun H locs hP hD hS => ?_)
  refine lv_if_eq (tgt := 27) hx hb dX11_looks_8 (by decide) (fun c3 => ?_) (fun c3 => ?_)
  · have hF := op_t hF c3
    refine lv_iconst (v := (-1 : Int32)) hx hb dX11_looks_27 (by decide) ?_
    cases hF
    exact k_iret C hP hS dX11_looks_28
  · have hF := op_f hF c3
    refine lv_iload_n hx hb dX11_looks_11 rfl (lv_at hl 2 rfl) ?_
    refine lv_if_lt (tgt := 27) hx hb dX11_looks_12 (by decide) (fun c4 => ?_) (fun c4 => ?_)
    · have hF := op_t hF c4
      refine lv_iconst (v := (-1 : Int32)) hx hb dX11_looks_27 (by decide) ?_
      cases hF
      exact k_iret C hP hS dX11_looks_28
    · have hF := op_f hF c4
      refine lv_iload_n hx hb dX11_looks_15 rfl (lv_at hl 2 rfl) ?_
      refine lv_aload_n hx hb dX11_looks_16 rfl (lv_at hl 0 rfl) ?_
      refine k_get (v := .ref (a0 3)) C fg_X11_26 hP 0 rfl rfl dX11_looks_17 ?_
      refine lv_iload_n hx hb dX11_looks_20 rfl (lv_at hl 1 rfl) ?_
      obtain ⟨r6, hc5, hF⟩ := ob1_s hF
      refine k_iro C (k_rV (As := [.int x1]) (rest := [.int x2]) C (c_X8_lookCount l D q (a0 3) a1 S1 _ x1 hc5) kc_X8_lookCount ml_X11_196 rfl rfl (by decide) (flP hP [1] rfl) (flD hD [1] (by decide) rfl) hS (va_recv hK hP (ci := 8) (q0 := 2) rfl rfl) rfl hl.1 rfl (Nat.le_of_ble_eq_true rfl) dX11_looks_21 (by decide)) hP hD hS [1] [0] [g11 q o0 a0 tp S0] 2 (by decide) rfl rfl rfl rfl (fun H locs hP hD hS => ?_)
      refine lv_icmp_lt (tgt := 29) hx hb dX11_looks_24 (by decide) (fun c7 => ?_) (fun c7 => ?_)
      · have hF := op_t hF c7
        refine lv_aload_n hx hb dX11_looks_29 rfl (lv_at hl 0 rfl) ?_
        refine k_get (v := .ref (a0 3)) C fg_X11_26 hP 0 rfl rfl dX11_looks_30 ?_
        refine lv_iload_n hx hb dX11_looks_33 rfl (lv_at hl 1 rfl) ?_
        refine lv_iload_n hx hb dX11_looks_34 rfl (lv_at hl 2 rfl) ?_
        obtain ⟨r9, hc8, hF⟩ := ob1_s hF
        refine k_iro C (k_rV (As := [.int x1, .int x2]) (rest := []) C (c_X8_lookAt l D q (a0 3) a1 S1 _ x1 x2 hc8) kc_X8_lookAt ml_X11_199 rfl rfl (by decide) (flP hP [1] rfl) (flD hD [1] (by decide) rfl) hS (va_recv hK hP (ci := 8) (q0 := 2) rfl rfl) rfl hl.1 rfl (Nat.le_of_ble_eq_true rfl) dX11_looks_35 (by decide)) hP hD hS [1] [0] [g11 q o0 a0 tp S0] 2 (by decide) rfl rfl rfl rfl (fun H locs hP hD hS => ?_)
        cases hF
        exact k_iret C hP hS dX11_looks_38
      · have hF := op_f hF c7
        refine lv_iconst (v := (-1 : Int32)) hx hb dX11_looks_27 (by decide) ?_
        cases hF
        exact k_iret C hP hS dX11_looks_28

abbrev rm_X11_now : Room := ({ frames := 2, cells := 0, slots := 0, locals := 43 } : Room)
def F_X11_now (S0 : St) (S1 : St) (x1 : Int32) : Option (Int32) := if x1 = (0 : Int32) then (some ((S1.1 14))) else if x1 = (1 : Int32) then (ob1 (F_X8_upBits S1) fun r4 => some (r4)) else if x1 = (2 : Int32) then (ob1 (F_X8_mildBits S1) fun r7 => some (r7)) else if x1 = (3 : Int32) then (ob1 (F_X8_pleasedBits S1) fun r10 => some (r10)) else if x1 = (4 : Int32) then (some ((S1.1 6))) else if x1 = (5 : Int32) then (ob1 (F_X8_allClimbs S1) fun r14 => some (r14)) else if x1 = (6 : Int32) then (ob1 (F_X8_allViews S1) fun r17 => some (r17)) else some ((-1 : Int32))
set_option maxRecDepth 100000 in
set_option maxHeartbeats 4000000 in
theorem c_X11_now (l : Launch) (D : va_G) (q : Nat → ClassId) (tp : Nat) (o0 : Nat) (a0 : Nat → Nat) (S0 : St) (a1 : Nat → Nat) (S1 : St) (sz : Nat) (x1 : Int32) {r : Int32} (hF : F_X11_now S0 S1 x1 = some (r)) : Met l yX11_now (Cond.code yX11_now cX11_now 2 (some .int) :: TB) rm_X11_now (PC D q [.ref o0, .int x1] (fl [g11 q o0 a0 tp S0, g8 q (a0 3) a1 S1]) sz) ((fun A => QI D A r (fl [g11 q o0 a0 tp S0, g8 q (a0 3) a1 S1])) (va_A (fl [g11 q o0 a0 tp S0, g8 q (a0 3) a1 S1]) sz)) 0 0 (va_A (fl [g11 q o0 a0 tp S0, g8 q (a0 3) a1 S1]) sz) := by
  refine k_met (w0 := fl [g11 q o0 a0 tp S0, g8 q (a0 3) a1 S1]) (Q := fun A => QI D A r (fl [g11 q o0 a0 tp S0, g8 q (a0 3) a1 S1])) (by decide +kernel) (Nat.le_of_ble_eq_true rfl) ?_
  intro p e s m args below meth c A ls C hP hD hS hl
  have hl : lv_has ls 2 [(0, .ref o0), (1, .int x1)] := hl
  unfold F_X11_now at hF
  have C : cx p s m args meth c cX11_now 2 (some .int) RX11 D q A := C
  obtain ⟨hx, hb, hr, hml, hown, hts, hlk, hA, hK, hN, hV⟩ := id C
  refine lv_iload_n hx hb dX11_now_0 rfl (lv_at hl 1 rfl) ?_
  by_cases c1 : x1 = (0 : Int32)
  · have hF := op_t hF c1
    refine lv_tableIn (tgt := 44) hx hb dX11_now_1 (by rw [c1]; decide) (by rw [c1]; decide) (by rw [c1]; rfl) (by decide) ?_
    refine lv_aload_n hx hb dX11_now_44 rfl (lv_at hl 0 rfl) ?_
    refine k_get (v := .ref (a0 3)) C fg_X11_26 hP 0 rfl rfl dX11_now_45 ?_
    refine k_get (v := .int (S1.1 14)) C fg_X11_203 hP 2 rfl rfl dX11_now_48 ?_
    cases hF
    exact k_iret C hP hS dX11_now_51
  have hF := op_f hF c1
  by_cases c2 : x1 = (1 : Int32)
  · have hF := op_t hF c2
    refine lv_tableIn (tgt := 52) hx hb dX11_now_1 (by rw [c2]; decide) (by rw [c2]; decide) (by rw [c2]; rfl) (by decide) ?_
    refine lv_aload_n hx hb dX11_now_52 rfl (lv_at hl 0 rfl) ?_
    refine k_get (v := .ref (a0 3)) C fg_X11_26 hP 0 rfl rfl dX11_now_53 ?_
    obtain ⟨r4, hc3, hF⟩ := ob1_s hF
    refine k_iro C (k_rV (As := []) (rest := []) C (c_X8_upBits l D q (a0 3) a1 S1 _ hc3) kc_X8_upBits ml_X11_206 rfl rfl (by decide) (flP hP [1] rfl) (flD hD [1] (by decide) rfl) hS (va_recv hK hP (ci := 8) (q0 := 2) rfl rfl) rfl hl.1 rfl (Nat.le_of_ble_eq_true rfl) dX11_now_56 (by decide)) hP hD hS [1] [0] [g11 q o0 a0 tp S0] 2 (by decide) rfl rfl rfl rfl (fun H locs hP hD hS => ?_)
    cases hF
    exact k_iret C hP hS dX11_now_59
  have hF := op_f hF c2
  by_cases c5 : x1 = (2 : Int32)
  · have hF := op_t hF c5
    refine lv_tableIn (tgt := 60) hx hb dX11_now_1 (by rw [c5]; decide) (by rw [c5]; decide) (by rw [c5]; rfl) (by decide) ?_
    refine lv_aload_n hx hb dX11_now_60 rfl (lv_at hl 0 rfl) ?_
    refine k_get (v := .ref (a0 3)) C fg_X11_26 hP 0 rfl rfl dX11_now_61 ?_
    obtain ⟨r7, hc6, hF⟩ := ob1_s hF
    refine k_iro C (k_rV (As := []) (rest := []) C (c_X8_mildBits l D q (a0 3) a1 S1 _ hc6) kc_X8_mildBits ml_X11_210 rfl rfl (by decide) (flP hP [1] rfl) (flD hD [1] (by decide) rfl) hS (va_recv hK hP (ci := 8) (q0 := 2) rfl rfl) rfl hl.1 rfl (Nat.le_of_ble_eq_true rfl) dX11_now_64 (by decide)) hP hD hS [1] [0] [g11 q o0 a0 tp S0] 2 (by decide) rfl rfl rfl rfl (fun H locs hP hD hS => ?_)
    cases hF
    exact k_iret C hP hS dX11_now_67
  have hF := op_f hF c5
  by_cases c8 : x1 = (3 : Int32)
  · have hF := op_t hF c8
    refine lv_tableIn (tgt := 68) hx hb dX11_now_1 (by rw [c8]; decide) (by rw [c8]; decide) (by rw [c8]; rfl) (by decide) ?_
    refine lv_aload_n hx hb dX11_now_68 rfl (lv_at hl 0 rfl) ?_
    refine k_get (v := .ref (a0 3)) C fg_X11_26 hP 0 rfl rfl dX11_now_69 ?_
    obtain ⟨r10, hc9, hF⟩ := ob1_s hF
    refine k_iro C (k_rV (As := []) (rest := []) C (c_X8_pleasedBits l D q (a0 3) a1 S1 _ hc9) kc_X8_pleasedBits ml_X11_213 rfl rfl (by decide) (flP hP [1] rfl) (flD hD [1] (by decide) rfl) hS (va_recv hK hP (ci := 8) (q0 := 2) rfl rfl) rfl hl.1 rfl (Nat.le_of_ble_eq_true rfl) dX11_now_72 (by decide)) hP hD hS [1] [0] [g11 q o0 a0 tp S0] 2 (by decide) rfl rfl rfl rfl (fun H locs hP hD hS => ?_)
    cases hF
    exact k_iret C hP hS dX11_now_75
  have hF := op_f hF c8
  by_cases c11 : x1 = (4 : Int32)
  · have hF := op_t hF c11
    refine lv_tableIn (tgt := 76) hx hb dX11_now_1 (by rw [c11]; decide) (by rw [c11]; decide) (by rw [c11]; rfl) (by decide) ?_
    refine lv_aload_n hx hb dX11_now_76 rfl (lv_at hl 0 rfl) ?_
    refine k_get (v := .ref (a0 3)) C fg_X11_26 hP 0 rfl rfl dX11_now_77 ?_
    refine k_get (v := .int (S1.1 6)) C fg_X11_187 hP 2 rfl rfl dX11_now_80 ?_
    cases hF
    exact k_iret C hP hS dX11_now_83
  have hF := op_f hF c11
  by_cases c12 : x1 = (5 : Int32)
  · have hF := op_t hF c12
    refine lv_tableIn (tgt := 84) hx hb dX11_now_1 (by rw [c12]; decide) (by rw [c12]; decide) (by rw [c12]; rfl) (by decide) ?_
    refine lv_aload_n hx hb dX11_now_84 rfl (lv_at hl 0 rfl) ?_
    refine k_get (v := .ref (a0 3)) C fg_X11_26 hP 0 rfl rfl dX11_now_85 ?_
    obtain ⟨r14, hc13, hF⟩ := ob1_s hF
    refine k_iro C (k_rV (As := []) (rest := []) C (c_X8_allClimbs l D q (a0 3) a1 S1 _ hc13) kc_X8_allClimbs ml_X11_216 rfl rfl (by decide) (flP hP [1] rfl) (flD hD [1] (by decide) rfl) hS (va_recv hK hP (ci := 8) (q0 := 2) rfl rfl) rfl hl.1 rfl (Nat.le_of_ble_eq_true rfl) dX11_now_88 (by decide)) hP hD hS [1] [0] [g11 q o0 a0 tp S0] 2 (by decide) rfl rfl rfl rfl (fun H locs hP hD hS => ?_)
    cases hF
    exact k_iret C hP hS dX11_now_91
  have hF := op_f hF c12
  by_cases c15 : x1 = (6 : Int32)
  · have hF := op_t hF c15
    refine lv_tableIn (tgt := 92) hx hb dX11_now_1 (by rw [c15]; decide) (by rw [c15]; decide) (by rw [c15]; rfl) (by decide) ?_
    refine lv_aload_n hx hb dX11_now_92 rfl (lv_at hl 0 rfl) ?_
    refine k_get (v := .ref (a0 3)) C fg_X11_26 hP 0 rfl rfl dX11_now_93 ?_
    obtain ⟨r17, hc16, hF⟩ := ob1_s hF
    refine k_iro C (k_rV (As := []) (rest := []) C (c_X8_allViews l D q (a0 3) a1 S1 _ hc16) kc_X8_allViews ml_X11_219 rfl rfl (by decide) (flP hP [1] rfl) (flD hD [1] (by decide) rfl) hS (va_recv hK hP (ci := 8) (q0 := 2) rfl rfl) rfl hl.1 rfl (Nat.le_of_ble_eq_true rfl) dX11_now_96 (by decide)) hP hD hS [1] [0] [g11 q o0 a0 tp S0] 2 (by decide) rfl rfl rfl rfl (fun H locs hP hD hS => ?_)
    cases hF
    exact k_iret C hP hS dX11_now_99
  have hF := op_f hF c15
  have nc1 := lv_neT (a := 0) c1 (by decide)
  have nc2 := lv_neT (a := 1) c2 (by decide)
  have nc5 := lv_neT (a := 2) c5 (by decide)
  have nc8 := lv_neT (a := 3) c8 (by decide)
  have nc11 := lv_neT (a := 4) c11 (by decide)
  have nc12 := lv_neT (a := 5) c12 (by decide)
  have nc15 := lv_neT (a := 6) c15 (by decide)
  refine lv_tableOut (tgt := 100) hx hb dX11_now_1 (by omega) (by decide) ?_
  refine lv_iconst (v := (-1 : Int32)) hx hb dX11_now_100 (by decide) ?_
  cases hF
  exact k_iret C hP hS dX11_now_101

abbrev rm_X11_settle : Room := ({ frames := 2, cells := 0, slots := 0, locals := 41 } : Room)
def F_X11_settle (S0 : St) (S1 : St) (x1 : Int32) : Option (Int32 × St) := if x1 = 0 then (ob1 (F_X2_keep S1) fun U3 => some (x1, U3)) else (some (x1, S1))
set_option maxRecDepth 100000 in
set_option maxHeartbeats 4000000 in
theorem c_X11_settle (l : Launch) (D : va_G) (q : Nat → ClassId) (tp : Nat) (o0 : Nat) (a0 : Nat → Nat) (S0 : St) (a1 : Nat → Nat) (S1 : St) (sz : Nat) (x1 : Int32) {r : Int32} {T1 : St} (hF : F_X11_settle S0 S1 x1 = some (r, T1)) : Met l yX11_settle (Cond.code yX11_settle cX11_settle 2 (some .int) :: TB) rm_X11_settle (PC D q [.ref o0, .int x1] (fl [g11 q o0 a0 tp S0, g2 q (a0 8) a1 S1]) sz) ((fun A => QI D A r (fl [g11 q o0 a0 tp S0, g2 q (a0 8) a1 T1])) (va_A (fl [g11 q o0 a0 tp S0, g2 q (a0 8) a1 S1]) sz)) 0 0 (va_A (fl [g11 q o0 a0 tp S0, g2 q (a0 8) a1 S1]) sz) := by
  refine k_met (w0 := fl [g11 q o0 a0 tp S0, g2 q (a0 8) a1 S1]) (Q := fun A => QI D A r (fl [g11 q o0 a0 tp S0, g2 q (a0 8) a1 T1])) (by decide +kernel) (Nat.le_of_ble_eq_true rfl) ?_
  intro p e s m args below meth c A ls C hP hD hS hl
  have hl : lv_has ls 2 [(0, .ref o0), (1, .int x1)] := hl
  unfold F_X11_settle at hF
  have C : cx p s m args meth c cX11_settle 2 (some .int) RX11 D q A := C
  obtain ⟨hx, hb, hr, hml, hown, hts, hlk, hA, hK, hN, hV⟩ := id C
  refine lv_iload_n hx hb dX11_settle_0 rfl (lv_at hl 1 rfl) ?_
  refine lv_if_ne (tgt := 11) hx hb dX11_settle_1 (by decide) (fun c1 => ?_) (fun c1 => ?_)
  · have hF := op_f hF c1
    refine lv_iload_n hx hb dX11_settle_11 rfl (lv_at hl 1 rfl) ?_
    cases hF
    exact k_iret C hP hS dX11_settle_12
  · have hF := op_t hF c1
    refine lv_aload_n hx hb dX11_settle_4 rfl (lv_at hl 0 rfl) ?_
    refine k_get (v := .ref (a0 8)) C fg_X11_53 hP 0 rfl rfl dX11_settle_5 ?_
    obtain ⟨U3, hc2, hF⟩ := ob1_s hF
    refine k_vgrp (gs8 := [g11 q o0 a0 tp S0, g2 q (a0 8) a1 U3]) C (k_rV (As := []) (rest := []) C (c_X2_keep l D q (a0 8) a1 S1 _ hc2) kc_X2_keep ml_X11_375 rfl rfl (by decide) (flP hP [1] rfl) (flD hD [1] (by decide) rfl) hS (va_recv hK hP (ci := 2) (q0 := 2) rfl rfl) rfl hl.1 rfl (Nat.le_of_ble_eq_true rfl) dX11_settle_8 (by decide)) hP hD hS [1] [0] [g11 q o0 a0 tp S0] 2 (by decide) rfl rfl rfl rfl rfl rfl (by simp only [List.map_cons, List.map_nil, gad11, gad2]) (fun H locs hP hD hS => ?_)
    refine lv_iload_n hx hb dX11_settle_11 rfl (lv_at hl 1 rfl) ?_
    cases hF
    exact k_iret C hP hS dX11_settle_12

abbrev rm_X11_settleMany : Room := ({ frames := 2, cells := 0, slots := 0, locals := 41 } : Room)
def F_X11_settleMany (S0 : St) (S1 : St) (x1 : Int32) : Option (Int32 × St) := if x1 ≤ 0 then (some (x1, S1)) else (ob1 (F_X2_keep S1) fun U3 => some (x1, U3))
set_option maxRecDepth 100000 in
set_option maxHeartbeats 4000000 in
theorem c_X11_settleMany (l : Launch) (D : va_G) (q : Nat → ClassId) (tp : Nat) (o0 : Nat) (a0 : Nat → Nat) (S0 : St) (a1 : Nat → Nat) (S1 : St) (sz : Nat) (x1 : Int32) {r : Int32} {T1 : St} (hF : F_X11_settleMany S0 S1 x1 = some (r, T1)) : Met l yX11_settleMany (Cond.code yX11_settleMany cX11_settleMany 2 (some .int) :: TB) rm_X11_settleMany (PC D q [.ref o0, .int x1] (fl [g11 q o0 a0 tp S0, g2 q (a0 8) a1 S1]) sz) ((fun A => QI D A r (fl [g11 q o0 a0 tp S0, g2 q (a0 8) a1 T1])) (va_A (fl [g11 q o0 a0 tp S0, g2 q (a0 8) a1 S1]) sz)) 0 0 (va_A (fl [g11 q o0 a0 tp S0, g2 q (a0 8) a1 S1]) sz) := by
  refine k_met (w0 := fl [g11 q o0 a0 tp S0, g2 q (a0 8) a1 S1]) (Q := fun A => QI D A r (fl [g11 q o0 a0 tp S0, g2 q (a0 8) a1 T1])) (by decide +kernel) (Nat.le_of_ble_eq_true rfl) ?_
  intro p e s m args below meth c A ls C hP hD hS hl
  have hl : lv_has ls 2 [(0, .ref o0), (1, .int x1)] := hl
  unfold F_X11_settleMany at hF
  have C : cx p s m args meth c cX11_settleMany 2 (some .int) RX11 D q A := C
  obtain ⟨hx, hb, hr, hml, hown, hts, hlk, hA, hK, hN, hV⟩ := id C
  refine lv_iload_n hx hb dX11_settleMany_0 rfl (lv_at hl 1 rfl) ?_
  refine lv_if_le (tgt := 11) hx hb dX11_settleMany_1 (by decide) (fun c1 => ?_) (fun c1 => ?_)
  · have hF := op_t hF c1
    refine lv_iload_n hx hb dX11_settleMany_11 rfl (lv_at hl 1 rfl) ?_
    cases hF
    exact k_iret C hP hS dX11_settleMany_12
  · have hF := op_f hF c1
    refine lv_aload_n hx hb dX11_settleMany_4 rfl (lv_at hl 0 rfl) ?_
    refine k_get (v := .ref (a0 8)) C fg_X11_53 hP 0 rfl rfl dX11_settleMany_5 ?_
    obtain ⟨U3, hc2, hF⟩ := ob1_s hF
    refine k_vgrp (gs8 := [g11 q o0 a0 tp S0, g2 q (a0 8) a1 U3]) C (k_rV (As := []) (rest := []) C (c_X2_keep l D q (a0 8) a1 S1 _ hc2) kc_X2_keep ml_X11_375 rfl rfl (by decide) (flP hP [1] rfl) (flD hD [1] (by decide) rfl) hS (va_recv hK hP (ci := 2) (q0 := 2) rfl rfl) rfl hl.1 rfl (Nat.le_of_ble_eq_true rfl) dX11_settleMany_8 (by decide)) hP hD hS [1] [0] [g11 q o0 a0 tp S0] 2 (by decide) rfl rfl rfl rfl rfl rfl (by simp only [List.map_cons, List.map_nil, gad11, gad2]) (fun H locs hP hD hS => ?_)
    refine lv_iload_n hx hb dX11_settleMany_11 rfl (lv_at hl 1 rfl) ?_
    cases hF
    exact k_iret C hP hS dX11_settleMany_12

abbrev rm_X11_behind : Room := ({ frames := 3, cells := 0, slots := 0, locals := 68 } : Room)
def F_X11_behind (S0 : St) (S1 : St) (x1 : Int32) (x2 : Int32) : Option (Int32) := if x1 < 0 then (some ((-1 : Int32))) else (if (255 : Int32) < x1 then (some ((-1 : Int32))) else (ob1 (F_X8_hasTurret S1 x2) fun r4 => if r4 = 0 then (some ((-1 : Int32))) else (ob1 (F_X8_afterClimb S1 x1 x2) fun r7 => some (r7))))
set_option maxRecDepth 100000 in
set_option maxHeartbeats 4000000 in
theorem c_X11_behind (l : Launch) (D : va_G) (q : Nat → ClassId) (tp : Nat) (o0 : Nat) (a0 : Nat → Nat) (S0 : St) (a1 : Nat → Nat) (S1 : St) (sz : Nat) (x1 : Int32) (x2 : Int32) {r : Int32} (hF : F_X11_behind S0 S1 x1 x2 = some (r)) : Met l yX11_behind (Cond.code yX11_behind cX11_behind 3 (some .int) :: TB) rm_X11_behind (PC D q [.ref o0, .int x1, .int x2] (fl [g11 q o0 a0 tp S0, g8 q (a0 3) a1 S1]) sz) ((fun A => QI D A r (fl [g11 q o0 a0 tp S0, g8 q (a0 3) a1 S1])) (va_A (fl [g11 q o0 a0 tp S0, g8 q (a0 3) a1 S1]) sz)) 0 0 (va_A (fl [g11 q o0 a0 tp S0, g8 q (a0 3) a1 S1]) sz) := by
  refine k_met (w0 := fl [g11 q o0 a0 tp S0, g8 q (a0 3) a1 S1]) (Q := fun A => QI D A r (fl [g11 q o0 a0 tp S0, g8 q (a0 3) a1 S1])) (by decide +kernel) (Nat.le_of_ble_eq_true rfl) ?_
  intro p e s m args below meth c A ls C hP hD hS hl
  have hl : lv_has ls 3 [(0, .ref o0), (1, .int x1), (2, .int x2)] := hl
  unfold F_X11_behind at hF
  have C : cx p s m args meth c cX11_behind 3 (some .int) RX11 D q A := C
  obtain ⟨hx, hb, hr, hml, hown, hts, hlk, hA, hK, hN, hV⟩ := id C
  refine lv_iload_n hx hb dX11_behind_0 rfl (lv_at hl 1 rfl) ?_
  refine lv_if_lt (tgt := 22) hx hb dX11_behind_1 (by decide) (fun c1 => ?_) (fun c1 => ?_)
  · have hF := op_t hF c1
    refine lv_iconst (v := (-1 : Int32)) hx hb dX11_behind_22 (by decide) ?_
    cases hF
    exact k_iret C hP hS dX11_behind_23
  · have hF := op_f hF c1
    refine lv_iload_n hx hb dX11_behind_4 rfl (lv_at hl 1 rfl) ?_
    refine lv_sipush (v := (255 : Int32)) hx hb dX11_behind_5 (by decide) ?_
    refine lv_icmp_gt (tgt := 22) hx hb dX11_behind_8 (by decide) (fun c2 => ?_) (fun c2 => ?_)
    · have hF := op_t hF c2
      refine lv_iconst (v := (-1 : Int32)) hx hb dX11_behind_22 (by decide) ?_
      cases hF
      exact k_iret C hP hS dX11_behind_23
    · have hF := op_f hF c2
      refine lv_aload_n hx hb dX11_behind_11 rfl (lv_at hl 0 rfl) ?_
      refine k_get (v := .ref (a0 3)) C fg_X11_26 hP 0 rfl rfl dX11_behind_12 ?_
      refine lv_iload_n hx hb dX11_behind_15 rfl (lv_at hl 2 rfl) ?_
      obtain ⟨r4, hc3, hF⟩ := ob1_s hF
      refine k_iro C (k_rV (As := [.int x2]) (rest := []) C (c_X8_hasTurret l D q (a0 3) a1 S1 _ x2 hc3) kc_X8_hasTurret ml_X11_172 rfl rfl (by decide) (flP hP [1] rfl) (flD hD [1] (by decide) rfl) hS (va_recv hK hP (ci := 8) (q0 := 2) rfl rfl) rfl hl.1 rfl (Nat.le_of_ble_eq_true rfl) dX11_behind_16 (by decide)) hP hD hS [1] [0] [g11 q o0 a0 tp S0] 2 (by decide) rfl rfl rfl rfl (fun H locs hP hD hS => ?_)
      refine lv_if_ne (tgt := 24) hx hb dX11_behind_19 (by decide) (fun c5 => ?_) (fun c5 => ?_)
      · have hF := op_f hF c5
        refine lv_aload_n hx hb dX11_behind_24 rfl (lv_at hl 0 rfl) ?_
        refine k_get (v := .ref (a0 3)) C fg_X11_26 hP 0 rfl rfl dX11_behind_25 ?_
        refine lv_iload_n hx hb dX11_behind_28 rfl (lv_at hl 1 rfl) ?_
        refine lv_iload_n hx hb dX11_behind_29 rfl (lv_at hl 2 rfl) ?_
        obtain ⟨r7, hc6, hF⟩ := ob1_s hF
        refine k_iro C (k_rV (As := [.int x1, .int x2]) (rest := []) C (c_X8_afterClimb l D q (a0 3) a1 S1 _ x1 x2 hc6) kc_X8_afterClimb ml_X11_259 rfl rfl (by decide) (flP hP [1] rfl) (flD hD [1] (by decide) rfl) hS (va_recv hK hP (ci := 8) (q0 := 2) rfl rfl) rfl hl.1 rfl (Nat.le_of_ble_eq_true rfl) dX11_behind_30 (by decide)) hP hD hS [1] [0] [g11 q o0 a0 tp S0] 2 (by decide) rfl rfl rfl rfl (fun H locs hP hD hS => ?_)
        cases hF
        exact k_iret C hP hS dX11_behind_33
      · have hF := op_t hF c5
        refine lv_iconst (v := (-1 : Int32)) hx hb dX11_behind_22 (by decide) ?_
        cases hF
        exact k_iret C hP hS dX11_behind_23
