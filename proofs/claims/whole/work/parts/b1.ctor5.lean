theorem ob_X5 : Cond.methodLink RX5 3 objectInit ∈ TB := tb_1 (List.mem_of_getElem? (i := 39) (by decide +kernel)) (by decide +kernel)
theorem cl_X5_9 : Cond.classLink RX5 9 RX9 ∈ TB := tb_1 (List.mem_of_getElem? (i := 40) (by decide +kernel)) (by decide +kernel)
theorem is_X9 : Cond.instantiable RX9 2 ∈ TB := tb_1 (List.mem_of_getElem? (i := 41) (by decide +kernel)) (by decide +kernel)
theorem ml_X5_11 : Cond.methodLink RX5 11 yX9_init ∈ TB := tb_1 (List.mem_of_getElem? (i := 42) (by decide +kernel)) (by decide +kernel)
theorem cd_X9_init : Cond.code yX9_init cX9_init 2 none ∈ TB := tb_1 (List.mem_of_getElem? (i := 44) (by decide +kernel)) (by decide +kernel)
theorem im_X9_init : Cond.instanceMethod yX9_init ∈ TB := tb_1 (List.mem_of_getElem? (i := 43) (by decide +kernel)) (by decide +kernel)
theorem ki_X9_init : cI yX9_init cX9_init 2 1 := ⟨im_X9_init, cd_X9_init, in_X9, rfl, by decide +kernel, by decide +kernel, by decide +kernel⟩
theorem ff_X5_14 : fpF RX5 14 5 0 (.object "TurretViews$Tape") := ⟨RX5, RX5, TX5, 10, tyX5, rfl, by decide, tbX5, fl_X5_14, fun _ _ h => h, tyX5_ok, nmX5, rfl, rfl, by decide +kernel⟩
theorem ff_X5_20 : fpF RX5 20 5 1 (.array .long) := ⟨RX5, RX5, TX5, 10, tyX5, rfl, by decide, tbX5, fl_X5_20, fun _ _ h => h, tyX5_ok, nmX5, rfl, rfl, by decide +kernel⟩
theorem ff_X5_24 : fpF RX5 24 5 2 (.array .int) := ⟨RX5, RX5, TX5, 10, tyX5, rfl, by decide, tbX5, fl_X5_24, fun _ _ h => h, tyX5_ok, nmX5, rfl, rfl, by decide +kernel⟩
theorem ff_X5_28 : fpF RX5 28 5 3 (.array .int) := ⟨RX5, RX5, TX5, 10, tyX5, rfl, by decide, tbX5, fl_X5_28, fun _ _ h => h, tyX5_ok, nmX5, rfl, rfl, by decide +kernel⟩
theorem ff_X5_31 : fpF RX5 31 5 4 (.array .long) := ⟨RX5, RX5, TX5, 10, tyX5, rfl, by decide, tbX5, fl_X5_31, fun _ _ h => h, tyX5_ok, nmX5, rfl, rfl, by decide +kernel⟩
theorem cd_X5_learn : Cond.code yX5_learn cX5_learn 8 none ∈ TB := tb_1 (List.mem_of_getElem? (i := 62) (by decide +kernel)) (by decide +kernel)
theorem im_X5_learn : Cond.instanceMethod yX5_learn ∈ TB := tb_1 (List.mem_of_getElem? (i := 61) (by decide +kernel)) (by decide +kernel)
theorem se_X5_learn : Cond.selects RX5 yX5_learn yX5_learn ∈ TB := tb_0 (y := yX5_learn) (n := 10) (List.mem_of_getElem? (i := 0) (by decide +kernel)) (by decide +kernel)
theorem kc_X5_learn : cV RX5 yX5_learn cX5_learn 8 none 2 := ⟨im_X5_learn, se_X5_learn, cd_X5_learn, in_X5, ⟨by decide +kernel, by decide +kernel, by decide +kernel⟩⟩
theorem ml_X5_36 : Cond.methodLink RX5 36 yX5_learn ∈ TB := tb_1 (List.mem_of_getElem? (i := 59) (by decide +kernel)) (by decide +kernel)
abbrev rm_X5_init : Room := ({ frames := 8, cells := 6, slots := 3681, locals := 208 } : Room)
def F_X5_init_53 (S0 : St) (S1 : St) : Option (St) := ob1 (F_X5_learn S0 0 (0 : Int32)) fun U2 => ob1 (F_X5_learn U2 1 (17 : Int32)) fun U4 => ob1 (F_X5_learn U4 2 (24 : Int32)) fun U6 => some (U6)
set_option maxRecDepth 100000 in
set_option maxHeartbeats 4000000 in
theorem b_X5_init_53 {p : Program} {l : Launch} {e : Env} {s : State} {m : MethodId} {args : Array Value} {below : List Frame} {meth : Method} {c : Code} {D : va_G} {q : Nat → ClassId} {A : Nat → Prop} {tp : Nat} {o0 : Nat} {a0 : Nat → Nat} {a1 : Nat → Nat} {T0 : St} (C : cx p s m args meth c cX5_init 1 none RX5 D q A) {S0 : St} {S1 : St} (hF : F_X5_init_53 S0 S1 = some (T0)) {H : Heap} {locs : List Loc} (hP : va_P D vwCl (fl [g5 q o0 a0 tp S0, g9 q tp a1 940 S1]) H) (hD : va_D A (fl [g5 q o0 a0 tp S0, g9 q tp a1 940 S1])) (hS : va_S A s.heap H locs) {ls : Array Slot} (hl : lv_has ls 1 [(0, .ref o0)]) : W p l e rm_X5_init s m args below meth c H locs 6 3681 (MQ below (QN D A (fun h => fl [g5 q o0 (h 0) (h 1 0) T0, g9 q (h 1 0) (h 2) 940 S1])) args s 6 3681 A) (F0 m 53 ls []) := by
  unfold F_X5_init_53 at hF
  obtain ⟨hx, hb, hr, hml, hown, hts, hlk, hA, hK, hN, hV⟩ := id C
  refine lv_aload_n hx hb dX5_init_53 rfl (lv_at hl 0 rfl) ?_
  refine va_ldcS hx hb hown hV.1.1 dX5_init_54 ?_
  refine lv_iconst (v := (0 : Int32)) hx hb dX5_init_56 (by decide) ?_
  obtain ⟨U2, hc1, hF⟩ := ob1_s hF
  refine k_vgrpC (gs8 := [g5 q o0 a0 tp U2, g9 q tp a1 940 S1]) C (k_rV (As := [.ref (q (100 + 0)), .int (0 : Int32)]) (rest := []) C (c_X5_learn l D q tp o0 a0 S0 _ 0 (0 : Int32) hc1) kc_X5_learn ml_X5_36 rfl rfl (by decide) (flP hP [0] rfl) (flD hD [0] (by decide) rfl) hS (va_recv hK hP (ci := 5) (q0 := 0) rfl rfl) rfl hl.1 rfl (Nat.le_of_ble_eq_true rfl) dX5_init_57 (by decide)) hP hD hS [0] [1] [g9 q tp a1 940 S1] 2 (by decide) rfl rfl rfl rfl rfl rfl (by simp only [List.map_cons, List.map_nil, gad5, gad9]) (fun H locs hP hD hS => ?_)
  refine lv_aload_n hx hb dX5_init_60 rfl (lv_at hl 0 rfl) ?_
  refine va_ldcS hx hb hown hV.1.2.1 dX5_init_61 ?_
  refine lv_bipush (v := (17 : Int32)) hx hb dX5_init_63 (by decide) ?_
  obtain ⟨U4, hc3, hF⟩ := ob1_s hF
  refine k_vgrpC (gs8 := [g5 q o0 a0 tp U4, g9 q tp a1 940 S1]) C (k_rV (As := [.ref (q (100 + 1)), .int (17 : Int32)]) (rest := []) C (c_X5_learn l D q tp o0 a0 U2 _ 1 (17 : Int32) hc3) kc_X5_learn ml_X5_36 rfl rfl (by decide) (flP hP [0] rfl) (flD hD [0] (by decide) rfl) hS (va_recv hK hP (ci := 5) (q0 := 0) rfl rfl) rfl hl.1 rfl (Nat.le_of_ble_eq_true rfl) dX5_init_65 (by decide)) hP hD hS [0] [1] [g9 q tp a1 940 S1] 2 (by decide) rfl rfl rfl rfl rfl rfl (by simp only [List.map_cons, List.map_nil, gad5, gad9]) (fun H locs hP hD hS => ?_)
  refine lv_aload_n hx hb dX5_init_68 rfl (lv_at hl 0 rfl) ?_
  refine va_ldcS hx hb hown hV.1.2.2.1 dX5_init_69 ?_
  refine lv_bipush (v := (24 : Int32)) hx hb dX5_init_71 (by decide) ?_
  obtain ⟨U6, hc5, hF⟩ := ob1_s hF
  refine k_vgrpC (gs8 := [g5 q o0 a0 tp U6, g9 q tp a1 940 S1]) C (k_rV (As := [.ref (q (100 + 2)), .int (24 : Int32)]) (rest := []) C (c_X5_learn l D q tp o0 a0 U4 _ 2 (24 : Int32) hc5) kc_X5_learn ml_X5_36 rfl rfl (by decide) (flP hP [0] rfl) (flD hD [0] (by decide) rfl) hS (va_recv hK hP (ci := 5) (q0 := 0) rfl rfl) rfl hl.1 rfl (Nat.le_of_ble_eq_true rfl) dX5_init_73 (by decide)) hP hD hS [0] [1] [g9 q tp a1 940 S1] 2 (by decide) rfl rfl rfl rfl rfl rfl (by simp only [List.map_cons, List.map_nil, gad5, gad9]) (fun H locs hP hD hS => ?_)
  cases hF
  exact k_nret (B := fun h => fl [g5 q o0 (h 0) (h 1 0) T0, g9 q (h 1 0) (h 2) 940 S1]) C (fun n => if n = 0 then a0 else if n = 1 then (fun _ => tp) else a1) hP hD hS dX5_init_76

set_option maxRecDepth 100000 in
set_option maxHeartbeats 8000000 in
theorem c_X5_init (l : Launch) (D : va_G) (q : Nat → ClassId) (o sz : Nat) {T0 : St} (hF : F_X5_init_53 Z0 Z0 = some (T0)) : Met l yX5_init (Cond.code yX5_init cX5_init 1 none :: TB) ({ frames := 8, cells := 6, slots := 3681, locals := 208 } : Room) (PC D q [.ref o] [(o, .inr (5, [.null, .null, .null, .null, .null, .int 0, .int 0, .int 0, .int 0, .int 0]))] sz) ((fun A => QN D A (fun h => fl [g5 q o (h 0) (h 1 0) T0, g9 q (h 1 0) (h 2) 940 Z0])) (va_A [(o, .inr (5, [.null, .null, .null, .null, .null, .int 0, .int 0, .int 0, .int 0, .int 0]))] sz)) 6 3681 (va_A [(o, .inr (5, [.null, .null, .null, .null, .null, .int 0, .int 0, .int 0, .int 0, .int 0]))] sz) := by
  refine k_metI (w0 := [(o, .inr (5, [.null, .null, .null, .null, .null, .int 0, .int 0, .int 0, .int 0, .int 0]))]) (Q := fun A => QN D A (fun h => fl [g5 q o (h 0) (h 1 0) T0, g9 q (h 1 0) (h 2) 940 Z0])) (by decide +kernel) (Nat.le_of_ble_eq_true rfl) ?_
  intro p e s m args below meth c A ls hin C hP hD hS hl
  have hl : lv_has ls 1 [(0, .ref o)] := hl
  have C : cx p s m args meth c cX5_init 1 none RX5 D q A := C
  obtain ⟨hx, hb, hr, hml, hown, hts, hlk, hA, hK, hN, hV⟩ := id C
  refine lv_aload_n hx hb dX5_init_0 rfl (lv_at hl 0 rfl) ?_
  refine k_obj C ob_X5 kobj hl.1 ⟨Nat.le_of_ble_eq_true rfl, Nat.le_of_ble_eq_true rfl⟩ dX5_init_1 ?_
  refine lv_aload_n hx hb dX5_init_4 rfl (lv_at hl 0 rfl) ?_
  refine k_newO (ci := 9) (fs := [.null, .int 0]) tyX9 C rfl tbX9 tyX9_ok cl_X5_9 is_X9 in_X9 hP hD hS (by intro j hj; match j, hj with | 0, _ => rfl | 1, _ => rfl) (by decide) dX5_init_5 (fun x1 H hP hD hS => ?_)
  refine W.widen (k := 1) (n := 2) (by omega) (by omega) ?_
  refine lv_dup hx hb dX5_init_8 rfl ?_
  refine lv_sipush (v := (940 : Int32)) hx hb dX5_init_9 (by decide) ?_
  refine k_ctor (W9 := [(o, .inr (5, [.null, .null, .null, .null, .null, .int 0, .int 0, .int 0, .int 0, .int 0]))]) (B := fun h => fl [g9 q x1 (h 0) 940 Z0]) (As := [.int (940 : Int32)]) (rest := [.ref x1, .ref o]) C (c_X9_init l D q x1 _ (940 : Int32) 940 ⟨by decide, by decide⟩ (by decide)) ki_X9_init ml_X5_11 rfl rfl (by decide) hP hD hS rfl hl.1 rfl (Nat.le_of_ble_eq_true rfl) dX5_init_12 (by decide) (fun h2 H locs hP hD hS => ?_)
  refine W.widen (k := 2) (n := 942) (by omega) (by omega) ?_
  refine k_putF (W8 := [(o, .inr (5, [.ref x1, .null, .null, .null, .null, .int 0, .int 0, .int 0, .int 0, .int 0]))] ++ fl [g9 q x1 (h2 0) 940 Z0]) C hin ff_X5_14 hP hD hS 0 rfl rfl rfl (Nat.le_of_ble_eq_true rfl) dX5_init_15 rfl (fun H locs hP hD hS => ?_)
  refine lv_aload_n hx hb dX5_init_18 rfl (lv_at hl 0 rfl) ?_
  refine lv_bipush (v := (36 : Int32)) hx hb dX5_init_19 (by decide) ?_
  refine k_newJ 36 C arJ hP hD hS ⟨by decide, by decide⟩ (by decide) (by decide) dX5_init_21 (fun y3 H hP hD hS => ?_)
  refine W.widen (k := 3) (n := 978) (by omega) (by omega) ?_
  refine k_putF (W8 := [(o, .inr (5, [.ref x1, .ref y3, .null, .null, .null, .int 0, .int 0, .int 0, .int 0, .int 0]))] ++ fl [g9 q x1 (h2 0) 940 Z0] ++ [(y3, .inl (q 2, 36, .inr (.inl (fun _ => 0))))]) C hin ff_X5_20 hP hD hS 0 rfl rfl rfl (Nat.le_of_ble_eq_true rfl) dX5_init_23 rfl (fun H locs hP hD hS => ?_)
  refine lv_aload_n hx hb dX5_init_26 rfl (lv_at hl 0 rfl) ?_
  refine lv_sipush (v := (901 : Int32)) hx hb dX5_init_27 (by decide) ?_
  refine k_newI 901 C arI hP hD hS ⟨by decide, by decide⟩ (by decide) (by decide) dX5_init_30 (fun y4 H hP hD hS => ?_)
  refine W.widen (k := 4) (n := 1879) (by omega) (by omega) ?_
  refine k_putF (W8 := [(o, .inr (5, [.ref x1, .ref y3, .ref y4, .null, .null, .int 0, .int 0, .int 0, .int 0, .int 0]))] ++ fl [g9 q x1 (h2 0) 940 Z0] ++ [(y3, .inl (q 2, 36, .inr (.inl (fun _ => 0))))] ++ [(y4, .inl (q 1, 901, .inl (fun _ => 0)))]) C hin ff_X5_24 hP hD hS 0 rfl rfl rfl (Nat.le_of_ble_eq_true rfl) dX5_init_32 rfl (fun H locs hP hD hS => ?_)
  refine lv_aload_n hx hb dX5_init_35 rfl (lv_at hl 0 rfl) ?_
  refine lv_sipush (v := (901 : Int32)) hx hb dX5_init_36 (by decide) ?_
  refine k_newI 901 C arI hP hD hS ⟨by decide, by decide⟩ (by decide) (by decide) dX5_init_39 (fun y5 H hP hD hS => ?_)
  refine W.widen (k := 5) (n := 2780) (by omega) (by omega) ?_
  refine k_putF (W8 := [(o, .inr (5, [.ref x1, .ref y3, .ref y4, .ref y5, .null, .int 0, .int 0, .int 0, .int 0, .int 0]))] ++ fl [g9 q x1 (h2 0) 940 Z0] ++ [(y3, .inl (q 2, 36, .inr (.inl (fun _ => 0))))] ++ [(y4, .inl (q 1, 901, .inl (fun _ => 0)))] ++ [(y5, .inl (q 1, 901, .inl (fun _ => 0)))]) C hin ff_X5_28 hP hD hS 0 rfl rfl rfl (Nat.le_of_ble_eq_true rfl) dX5_init_41 rfl (fun H locs hP hD hS => ?_)
  refine lv_aload_n hx hb dX5_init_44 rfl (lv_at hl 0 rfl) ?_
  refine lv_sipush (v := (901 : Int32)) hx hb dX5_init_45 (by decide) ?_
  refine k_newJ 901 C arJ hP hD hS ⟨by decide, by decide⟩ (by decide) (by decide) dX5_init_48 (fun y6 H hP hD hS => ?_)
  refine W.widen (k := 6) (n := 3681) (by omega) (by omega) ?_
  refine k_putF (W8 := [(o, .inr (5, [.ref x1, .ref y3, .ref y4, .ref y5, .ref y6, .int 0, .int 0, .int 0, .int 0, .int 0]))] ++ fl [g9 q x1 (h2 0) 940 Z0] ++ [(y3, .inl (q 2, 36, .inr (.inl (fun _ => 0))))] ++ [(y4, .inl (q 1, 901, .inl (fun _ => 0)))] ++ [(y5, .inl (q 1, 901, .inl (fun _ => 0)))] ++ [(y6, .inl (q 2, 901, .inr (.inl (fun _ => 0))))]) C hin ff_X5_31 hP hD hS 0 rfl rfl rfl (Nat.le_of_ble_eq_true rfl) dX5_init_50 rfl (fun H locs hP hD hS => ?_)
  exact b_X5_init_53 C hF (hP.sub (ws' := fl [g5 q o (fun k => if k = 2 then y3 else if k = 3 then y4 else if k = 4 then y5 else if k = 5 then y6 else 0) x1 Z0, g9 q x1 (h2 0) 940 Z0]) [0, 3, 4, 5, 6, 1, 2] rfl) (hD.sub (ws' := fl [g5 q o (fun k => if k = 2 then y3 else if k = 3 then y4 else if k = 4 then y5 else if k = 5 then y6 else 0) x1 Z0, g9 q x1 (h2 0) 940 Z0]) [0, 3, 4, 5, 6, 1, 2] (by decide) rfl) hS hl
