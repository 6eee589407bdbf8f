theorem ob_X2 : Cond.methodLink RX2 3 objectInit ∈ TB := tb_2 (List.mem_of_getElem? (i := 46) (by decide +kernel)) (by decide +kernel)
theorem cl_X2_9 : Cond.classLink RX2 9 RX8 ∈ TB := tb_2 (List.mem_of_getElem? (i := 47) (by decide +kernel)) (by decide +kernel)
theorem ff_X2_11 : fpF RX2 11 2 0 (.array (.object "TurretViews$Suburb")) := ⟨RX2, RX2, TX2, 3, tyX2, rfl, by decide, tbX2, fl_X2_11, fun _ _ h => h, tyX2_ok, nmX2, rfl, rfl, by decide +kernel⟩
theorem ml_X2_17 : Cond.methodLink RX2 17 yX8_init ∈ TB := tb_2 (List.mem_of_getElem? (i := 49) (by decide +kernel)) (by decide +kernel)
set_option maxRecDepth 100000 in
set_option maxHeartbeats 8000000 in
theorem c_X2_init (l : Launch) (D : va_G) (q : Nat → ClassId) (o sz : Nat) : Met l yX2_init (Cond.code yX2_init cX2_init 2 none :: TB) ({ frames := 2, cells := 100, slots := 720, locals := 32 } : Room) (PC D q [.ref o] [(o, .inr (2, [.null, .int 0, .int 0]))] sz) ((fun A => QN D A (fun h => fl [g2 q o (h 0) Z0, g20 q (h 0 1) (h 1) (fun i => h (2 + i)) (fun _ => Z0)])) (va_A [(o, .inr (2, [.null, .int 0, .int 0]))] sz)) 100 720 (va_A [(o, .inr (2, [.null, .int 0, .int 0]))] sz) := by
  refine k_metI (w0 := [(o, .inr (2, [.null, .int 0, .int 0]))]) (Q := fun A => QN D A (fun h => fl [g2 q o (h 0) Z0, g20 q (h 0 1) (h 1) (fun i => h (2 + i)) (fun _ => Z0)])) (by decide +kernel) (Nat.le_of_ble_eq_true rfl) ?_
  intro p e s m args below meth c A ls hin C hP hD hS hl
  have hl : lv_has ls 2 [(0, .ref o)] := hl
  have C : cx p s m args meth c cX2_init 2 none RX2 D q A := C
  obtain ⟨hx, hb, hr, hml, hown, hts, hlk, hA, hK, hN, hV⟩ := id C
  refine lv_aload_n hx hb dX2_init_0 rfl (lv_at hl 0 rfl) ?_
  refine k_obj C ob_X2 kobj hl.1 ⟨Nat.le_of_ble_eq_true rfl, Nat.le_of_ble_eq_true rfl⟩ dX2_init_1 ?_
  refine lv_aload_n hx hb dX2_init_4 rfl (lv_at hl 0 rfl) ?_
  refine lv_bipush (v := (9 : Int32)) hx hb dX2_init_5 (by decide) ?_
  refine k_newR 9 5 0 C cl_X2_9 (List.mem_of_getElem? (i := 6) rfl) rfl hP hD hS ⟨by decide, by decide⟩ (by decide) (by decide) dX2_init_7 (fun y1 H hP hD hS => ?_)
  refine W.widen (k := 1) (n := 9) (by omega) (by omega) ?_
  refine k_putF (W8 := [(o, .inr (2, [.ref y1, .int 0, .int 0]))] ++ [(y1, .inl (q 5, 9, .inr (.inr (.inr (.inr (fun _ => none))))))]) C hin ff_X2_11 hP hD hS 0 rfl rfl rfl (Nat.le_of_ble_eq_true rfl) dX2_init_10 rfl (fun H locs hP hD hS => ?_)
  refine lv_iconst (v := (0 : Int32)) hx hb dX2_init_13 (by decide) ?_
  refine lv_istore_n (lv' := [(1, .int (0 : Int32)), (0, .ref o)]) hx hb dX2_init_14 rfl hl (by decide) rfl (fun ls hl => ?_)
  refine lv_iload_n hx hb dX2_init_15 rfl (lv_at hl 0 rfl) ?_
  refine lv_bipush (v := (8 : Int32)) hx hb dX2_init_16 (by decide) ?_
  refine lv_icmp_gt (tgt := 40) hx hb dX2_init_18 (by decide) (fun c9 => absurd c9 (by decide)) (fun _ => ?_)
  refine lv_aload_n hx hb dX2_init_21 rfl (lv_at hl 1 rfl) ?_
  refine k_get (v := .ref y1) C fg_X2_11 hP 0 rfl rfl dX2_init_22 ?_
  refine lv_iload_n hx hb dX2_init_25 rfl (lv_at hl 0 rfl) ?_
  refine k_newO (ci := 8) (fs := [.int 0, .null, .null, .null, .null, .int 0, .int 0, .int 0, .null, .null, .null, .null, .null, .null, .int 0]) tyX8 C rfl tbX8 tyX8_ok cl_X2_9 is_X8 in_X8 hP hD hS (by intro j hj; match j, hj with | 0, _ => rfl | 1, _ => rfl | 2, _ => rfl | 3, _ => rfl | 4, _ => rfl | 5, _ => rfl | 6, _ => rfl | 7, _ => rfl | 8, _ => rfl | 9, _ => rfl | 10, _ => rfl | 11, _ => rfl | 12, _ => rfl | 13, _ => rfl | 14, _ => rfl) (by decide) dX2_init_26 (fun x2 H hP hD hS => ?_)
  refine W.widen (k := 2) (n := 24) (by omega) (by omega) ?_
  refine lv_dup hx hb dX2_init_29 rfl ?_
  refine k_ctor (W9 := [(o, .inr (2, [.ref y1, .int 0, .int 0]))] ++ [(y1, .inl (q 5, 9, .inr (.inr (.inr (.inr (fun _ => none))))))]) (B := fun h => fl [g8 q x2 (h 0) Z0]) (As := []) (rest := [.ref x2, .int (0 : Int32), .ref y1]) C (c_X8_init l D q x2 _) ki_X8_init ml_X2_17 rfl rfl (by decide) hP hD hS rfl hl.1 rfl (Nat.le_of_ble_eq_true rfl) dX2_init_30 (by decide) (fun h3 H locs hP hD hS => ?_)
  refine W.widen (k := 12) (n := 88) (by omega) (by omega) ?_
  refine k_ast (t0 := 5) (ci := 8) (W8 := [(o, .inr (2, [.ref y1, .int 0, .int 0]))] ++ [(y1, .inl (q 5, 9, .inr (.inr (.inr (.inr (va_up (fun _ => none) 0 (some x2)))))))] ++ fl [g8 q x2 (h3 0) Z0]) C hP hD hS 1 2 rfl rfl rfl rfl (by decide) (by decide) dX2_init_33 rfl (fun H locs hP hD hS => ?_)
  refine lv_iinc (v := (1 : Int32)) (lv' := [(1, .int (1 : Int32)), (0, .ref o)]) hx hb dX2_init_34 hl (k := 0) rfl (by decide) (by decide) rfl (fun ls hl => ?_)
  refine lv_goto (tgt := 15) hx hb dX2_init_37 (by decide) ?_
  refine lv_iload_n hx hb dX2_init_15 rfl (lv_at hl 0 rfl) ?_
  refine lv_bipush (v := (8 : Int32)) hx hb dX2_init_16 (by decide) ?_
  refine lv_icmp_gt (tgt := 40) hx hb dX2_init_18 (by decide) (fun c9 => absurd c9 (by decide)) (fun _ => ?_)
  refine lv_aload_n hx hb dX2_init_21 rfl (lv_at hl 1 rfl) ?_
  refine k_get (v := .ref y1) C fg_X2_11 hP 0 rfl rfl dX2_init_22 ?_
  refine lv_iload_n hx hb dX2_init_25 rfl (lv_at hl 0 rfl) ?_
  refine k_newO (ci := 8) (fs := [.int 0, .null, .null, .null, .null, .int 0, .int 0, .int 0, .null, .null, .null, .null, .null, .null, .int 0]) tyX8 C rfl tbX8 tyX8_ok cl_X2_9 is_X8 in_X8 hP hD hS (by intro j hj; match j, hj with | 0, _ => rfl | 1, _ => rfl | 2, _ => rfl | 3, _ => rfl | 4, _ => rfl | 5, _ => rfl | 6, _ => rfl | 7, _ => rfl | 8, _ => rfl | 9, _ => rfl | 10, _ => rfl | 11, _ => rfl | 12, _ => rfl | 13, _ => rfl | 14, _ => rfl) (by decide) dX2_init_26 (fun x4 H hP hD hS => ?_)
  refine W.widen (k := 13) (n := 103) (by omega) (by omega) ?_
  refine lv_dup hx hb dX2_init_29 rfl ?_
  refine k_ctor (W9 := [(o, .inr (2, [.ref y1, .int 0, .int 0]))] ++ [(y1, .inl (q 5, 9, .inr (.inr (.inr (.inr (va_up (fun _ => none) 0 (some x2)))))))] ++ fl [g8 q x2 (h3 0) Z0]) (B := fun h => fl [g8 q x4 (h 0) Z0]) (As := []) (rest := [.ref x4, .int (1 : Int32), .ref y1]) C (c_X8_init l D q x4 _) ki_X8_init ml_X2_17 rfl rfl (by decide) hP hD hS rfl hl.1 rfl (Nat.le_of_ble_eq_true rfl) dX2_init_30 (by decide) (fun h5 H locs hP hD hS => ?_)
  refine W.widen (k := 23) (n := 167) (by omega) (by omega) ?_
  refine k_ast (t0 := 5) (ci := 8) (W8 := [(o, .inr (2, [.ref y1, .int 0, .int 0]))] ++ [(y1, .inl (q 5, 9, .inr (.inr (.inr (.inr (va_up (va_up (fun _ => none) 0 (some x2)) 1 (some x4)))))))] ++ fl [g8 q x2 (h3 0) Z0] ++ fl [g8 q x4 (h5 0) Z0]) C hP hD hS 1 13 rfl rfl rfl rfl (by decide) (by decide) dX2_init_33 rfl (fun H locs hP hD hS => ?_)
  refine lv_iinc (v := (2 : Int32)) (lv' := [(1, .int (2 : Int32)), (0, .ref o)]) hx hb dX2_init_34 hl (k := 0) rfl (by decide) (by decide) rfl (fun ls hl => ?_)
  refine lv_goto (tgt := 15) hx hb dX2_init_37 (by decide) ?_
  refine lv_iload_n hx hb dX2_init_15 rfl (lv_at hl 0 rfl) ?_
  refine lv_bipush (v := (8 : Int32)) hx hb dX2_init_16 (by decide) ?_
  refine lv_icmp_gt (tgt := 40) hx hb dX2_init_18 (by decide) (fun c9 => absurd c9 (by decide)) (fun _ => ?_)
  refine lv_aload_n hx hb dX2_init_21 rfl (lv_at hl 1 rfl) ?_
  refine k_get (v := .ref y1) C fg_X2_11 hP 0 rfl rfl dX2_init_22 ?_
  refine lv_iload_n hx hb dX2_init_25 rfl (lv_at hl 0 rfl) ?_
  refine k_newO (ci := 8) (fs := [.int 0, .null, .null, .null, .null, .int 0, .int 0, .int 0, .null, .null, .null, .null, .null, .null, .int 0]) tyX8 C rfl tbX8 tyX8_ok cl_X2_9 is_X8 in_X8 hP hD hS (by intro j hj; match j, hj with | 0, _ => rfl | 1, _ => rfl | 2, _ => rfl | 3, _ => rfl | 4, _ => rfl | 5, _ => rfl | 6, _ => rfl | 7, _ => rfl | 8, _ => rfl | 9, _ => rfl | 10, _ => rfl | 11, _ => rfl | 12, _ => rfl | 13, _ => rfl | 14, _ => rfl) (by decide) dX2_init_26 (fun x6 H hP hD hS => ?_)
  refine W.widen (k := 24) (n := 182) (by omega) (by omega) ?_
  refine lv_dup hx hb dX2_init_29 rfl ?_
  refine k_ctor (W9 := [(o, .inr (2, [.ref y1, .int 0, .int 0]))] ++ [(y1, .inl (q 5, 9, .inr (.inr (.inr (.inr (va_up (va_up (fun _ => none) 0 (some x2)) 1 (some x4)))))))] ++ fl [g8 q x2 (h3 0) Z0] ++ fl [g8 q x4 (h5 0) Z0]) (B := fun h => fl [g8 q x6 (h 0) Z0]) (As := []) (rest := [.ref x6, .int (2 : Int32), .ref y1]) C (c_X8_init l D q x6 _) ki_X8_init ml_X2_17 rfl rfl (by decide) hP hD hS rfl hl.1 rfl (Nat.le_of_ble_eq_true rfl) dX2_init_30 (by decide) (fun h7 H locs hP hD hS => ?_)
  refine W.widen (k := 34) (n := 246) (by omega) (by omega) ?_
  refine k_ast (t0 := 5) (ci := 8) (W8 := [(o, .inr (2, [.ref y1, .int 0, .int 0]))] ++ [(y1, .inl (q 5, 9, .inr (.inr (.inr (.inr (va_up (va_up (va_up (fun _ => none) 0 (some x2)) 1 (some x4)) 2 (some x6)))))))] ++ fl [g8 q x2 (h3 0) Z0] ++ fl [g8 q x4 (h5 0) Z0] ++ fl [g8 q x6 (h7 0) Z0]) C hP hD hS 1 24 rfl rfl rfl rfl (by decide) (by decide) dX2_init_33 rfl (fun H locs hP hD hS => ?_)
  refine lv_iinc (v := (3 : Int32)) (lv' := [(1, .int (3 : Int32)), (0, .ref o)]) hx hb dX2_init_34 hl (k := 0) rfl (by decide) (by decide) rfl (fun ls hl => ?_)
  refine lv_goto (tgt := 15) hx hb dX2_init_37 (by decide) ?_
  refine lv_iload_n hx hb dX2_init_15 rfl (lv_at hl 0 rfl) ?_
  refine lv_bipush (v := (8 : Int32)) hx hb dX2_init_16 (by decide) ?_
  refine lv_icmp_gt (tgt := 40) hx hb dX2_init_18 (by decide) (fun c9 => absurd c9 (by decide)) (fun _ => ?_)
  refine lv_aload_n hx hb dX2_init_21 rfl (lv_at hl 1 rfl) ?_
  refine k_get (v := .ref y1) C fg_X2_11 hP 0 rfl rfl dX2_init_22 ?_
  refine lv_iload_n hx hb dX2_init_25 rfl (lv_at hl 0 rfl) ?_
  refine k_newO (ci := 8) (fs := [.int 0, .null, .null, .null, .null, .int 0, .int 0, .int 0, .null, .null, .null, .null, .null, .null, .int 0]) tyX8 C rfl tbX8 tyX8_ok cl_X2_9 is_X8 in_X8 hP hD hS (by intro j hj; match j, hj with | 0, _ => rfl | 1, _ => rfl | 2, _ => rfl | 3, _ => rfl | 4, _ => rfl | 5, _ => rfl | 6, _ => rfl | 7, _ => rfl | 8, _ => rfl | 9, _ => rfl | 10, _ => rfl | 11, _ => rfl | 12, _ => rfl | 13, _ => rfl | 14, _ => rfl) (by decide) dX2_init_26 (fun x8 H hP hD hS => ?_)
  refine W.widen (k := 35) (n := 261) (by omega) (by omega) ?_
  refine lv_dup hx hb dX2_init_29 rfl ?_
  refine k_ctor (W9 := [(o, .inr (2, [.ref y1, .int 0, .int 0]))] ++ [(y1, .inl (q 5, 9, .inr (.inr (.inr (.inr (va_up (va_up (va_up (fun _ => none) 0 (some x2)) 1 (some x4)) 2 (some x6)))))))] ++ fl [g8 q x2 (h3 0) Z0] ++ fl [g8 q x4 (h5 0) Z0] ++ fl [g8 q x6 (h7 0) Z0]) (B := fun h => fl [g8 q x8 (h 0) Z0]) (As := []) (rest := [.ref x8, .int (3 : Int32), .ref y1]) C (c_X8_init l D q x8 _) ki_X8_init ml_X2_17 rfl rfl (by decide) hP hD hS rfl hl.1 rfl (Nat.le_of_ble_eq_true rfl) dX2_init_30 (by decide) (fun h9 H locs hP hD hS => ?_)
  refine W.widen (k := 45) (n := 325) (by omega) (by omega) ?_
  refine k_ast (t0 := 5) (ci := 8) (W8 := [(o, .inr (2, [.ref y1, .int 0, .int 0]))] ++ [(y1, .inl (q 5, 9, .inr (.inr (.inr (.inr (va_up (va_up (va_up (va_up (fun _ => none) 0 (some x2)) 1 (some x4)) 2 (some x6)) 3 (some x8)))))))] ++ fl [g8 q x2 (h3 0) Z0] ++ fl [g8 q x4 (h5 0) Z0] ++ fl [g8 q x6 (h7 0) Z0] ++ fl [g8 q x8 (h9 0) Z0]) C hP hD hS 1 35 rfl rfl rfl rfl (by decide) (by decide) dX2_init_33 rfl (fun H locs hP hD hS => ?_)
  refine lv_iinc (v := (4 : Int32)) (lv' := [(1, .int (4 : Int32)), (0, .ref o)]) hx hb dX2_init_34 hl (k := 0) rfl (by decide) (by decide) rfl (fun ls hl => ?_)
  refine lv_goto (tgt := 15) hx hb dX2_init_37 (by decide) ?_
  refine lv_iload_n hx hb dX2_init_15 rfl (lv_at hl 0 rfl) ?_
  refine lv_bipush (v := (8 : Int32)) hx hb dX2_init_16 (by decide) ?_
  refine lv_icmp_gt (tgt := 40) hx hb dX2_init_18 (by decide) (fun c9 => absurd c9 (by decide)) (fun _ => ?_)
  refine lv_aload_n hx hb dX2_init_21 rfl (lv_at hl 1 rfl) ?_
  refine k_get (v := .ref y1) C fg_X2_11 hP 0 rfl rfl dX2_init_22 ?_
  refine lv_iload_n hx hb dX2_init_25 rfl (lv_at hl 0 rfl) ?_
  refine k_newO (ci := 8) (fs := [.int 0, .null, .null, .null, .null, .int 0, .int 0, .int 0, .null, .null, .null, .null, .null, .null, .int 0]) tyX8 C rfl tbX8 tyX8_ok cl_X2_9 is_X8 in_X8 hP hD hS (by intro j hj; match j, hj with | 0, _ => rfl | 1, _ => rfl | 2, _ => rfl | 3, _ => rfl | 4, _ => rfl | 5, _ => rfl | 6, _ => rfl | 7, _ => rfl | 8, _ => rfl | 9, _ => rfl | 10, _ => rfl | 11, _ => rfl | 12, _ => rfl | 13, _ => rfl | 14, _ => rfl) (by decide) dX2_init_26 (fun x10 H hP hD hS => ?_)
  refine W.widen (k := 46) (n := 340) (by omega) (by omega) ?_
  refine lv_dup hx hb dX2_init_29 rfl ?_
  refine k_ctor (W9 := [(o, .inr (2, [.ref y1, .int 0, .int 0]))] ++ [(y1, .inl (q 5, 9, .inr (.inr (.inr (.inr (va_up (va_up (va_up (va_up (fun _ => none) 0 (some x2)) 1 (some x4)) 2 (some x6)) 3 (some x8)))))))] ++ fl [g8 q x2 (h3 0) Z0] ++ fl [g8 q x4 (h5 0) Z0] ++ fl [g8 q x6 (h7 0) Z0] ++ fl [g8 q x8 (h9 0) Z0]) (B := fun h => fl [g8 q x10 (h 0) Z0]) (As := []) (rest := [.ref x10, .int (4 : Int32), .ref y1]) C (c_X8_init l D q x10 _) ki_X8_init ml_X2_17 rfl rfl (by decide) hP hD hS rfl hl.1 rfl (Nat.le_of_ble_eq_true rfl) dX2_init_30 (by decide) (fun h11 H locs hP hD hS => ?_)
  refine W.widen (k := 56) (n := 404) (by omega) (by omega) ?_
  refine k_ast (t0 := 5) (ci := 8) (W8 := [(o, .inr (2, [.ref y1, .int 0, .int 0]))] ++ [(y1, .inl (q 5, 9, .inr (.inr (.inr (.inr (va_up (va_up (va_up (va_up (va_up (fun _ => none) 0 (some x2)) 1 (some x4)) 2 (some x6)) 3 (some x8)) 4 (some x10)))))))] ++ fl [g8 q x2 (h3 0) Z0] ++ fl [g8 q x4 (h5 0) Z0] ++ fl [g8 q x6 (h7 0) Z0] ++ fl [g8 q x8 (h9 0) Z0] ++ fl [g8 q x10 (h11 0) Z0]) C hP hD hS 1 46 rfl rfl rfl rfl (by decide) (by decide) dX2_init_33 rfl (fun H locs hP hD hS => ?_)
  refine lv_iinc (v := (5 : Int32)) (lv' := [(1, .int (5 : Int32)), (0, .ref o)]) hx hb dX2_init_34 hl (k := 0) rfl (by decide) (by decide) rfl (fun ls hl => ?_)
  refine lv_goto (tgt := 15) hx hb dX2_init_37 (by decide) ?_
  refine lv_iload_n hx hb dX2_init_15 rfl (lv_at hl 0 rfl) ?_
  refine lv_bipush (v := (8 : Int32)) hx hb dX2_init_16 (by decide) ?_
  refine lv_icmp_gt (tgt := 40) hx hb dX2_init_18 (by decide) (fun c9 => absurd c9 (by decide)) (fun _ => ?_)
  refine lv_aload_n hx hb dX2_init_21 rfl (lv_at hl 1 rfl) ?_
  refine k_get (v := .ref y1) C fg_X2_11 hP 0 rfl rfl dX2_init_22 ?_
  refine lv_iload_n hx hb dX2_init_25 rfl (lv_at hl 0 rfl) ?_
  refine k_newO (ci := 8) (fs := [.int 0, .null, .null, .null, .null, .int 0, .int 0, .int 0, .null, .null, .null, .null, .null, .null, .int 0]) tyX8 C rfl tbX8 tyX8_ok cl_X2_9 is_X8 in_X8 hP hD hS (by intro j hj; match j, hj with | 0, _ => rfl | 1, _ => rfl | 2, _ => rfl | 3, _ => rfl | 4, _ => rfl | 5, _ => rfl | 6, _ => rfl | 7, _ => rfl | 8, _ => rfl | 9, _ => rfl | 10, _ => rfl | 11, _ => rfl | 12, _ => rfl | 13, _ => rfl | 14, _ => rfl) (by decide) dX2_init_26 (fun x12 H hP hD hS => ?_)
  refine W.widen (k := 57) (n := 419) (by omega) (by omega) ?_
  refine lv_dup hx hb dX2_init_29 rfl ?_
  refine k_ctor (W9 := [(o, .inr (2, [.ref y1, .int 0, .int 0]))] ++ [(y1, .inl (q 5, 9, .inr (.inr (.inr (.inr (va_up (va_up (va_up (va_up (va_up (fun _ => none) 0 (some x2)) 1 (some x4)) 2 (some x6)) 3 (some x8)) 4 (some x10)))))))] ++ fl [g8 q x2 (h3 0) Z0] ++ fl [g8 q x4 (h5 0) Z0] ++ fl [g8 q x6 (h7 0) Z0] ++ fl [g8 q x8 (h9 0) Z0] ++ fl [g8 q x10 (h11 0) Z0]) (B := fun h => fl [g8 q x12 (h 0) Z0]) (As := []) (rest := [.ref x12, .int (5 : Int32), .ref y1]) C (c_X8_init l D q x12 _) ki_X8_init ml_X2_17 rfl rfl (by decide) hP hD hS rfl hl.1 rfl (Nat.le_of_ble_eq_true rfl) dX2_init_30 (by decide) (fun h13 H locs hP hD hS => ?_)
  refine W.widen (k := 67) (n := 483) (by omega) (by omega) ?_
  refine k_ast (t0 := 5) (ci := 8) (W8 := [(o, .inr (2, [.ref y1, .int 0, .int 0]))] ++ [(y1, .inl (q 5, 9, .inr (.inr (.inr (.inr (va_up (va_up (va_up (va_up (va_up (va_up (fun _ => none) 0 (some x2)) 1 (some x4)) 2 (some x6)) 3 (some x8)) 4 (some x10)) 5 (some x12)))))))] ++ fl [g8 q x2 (h3 0) Z0] ++ fl [g8 q x4 (h5 0) Z0] ++ fl [g8 q x6 (h7 0) Z0] ++ fl [g8 q x8 (h9 0) Z0] ++ fl [g8 q x10 (h11 0) Z0] ++ fl [g8 q x12 (h13 0) Z0]) C hP hD hS 1 57 rfl rfl rfl rfl (by decide) (by decide) dX2_init_33 rfl (fun H locs hP hD hS => ?_)
  refine lv_iinc (v := (6 : Int32)) (lv' := [(1, .int (6 : Int32)), (0, .ref o)]) hx hb dX2_init_34 hl (k := 0) rfl (by decide) (by decide) rfl (fun ls hl => ?_)
  refine lv_goto (tgt := 15) hx hb dX2_init_37 (by decide) ?_
  refine lv_iload_n hx hb dX2_init_15 rfl (lv_at hl 0 rfl) ?_
  refine lv_bipush (v := (8 : Int32)) hx hb dX2_init_16 (by decide) ?_
  refine lv_icmp_gt (tgt := 40) hx hb dX2_init_18 (by decide) (fun c9 => absurd c9 (by decide)) (fun _ => ?_)
  refine lv_aload_n hx hb dX2_init_21 rfl (lv_at hl 1 rfl) ?_
  refine k_get (v := .ref y1) C fg_X2_11 hP 0 rfl rfl dX2_init_22 ?_
  refine lv_iload_n hx hb dX2_init_25 rfl (lv_at hl 0 rfl) ?_
  refine k_newO (ci := 8) (fs := [.int 0, .null, .null, .null, .null, .int 0, .int 0, .int 0, .null, .null, .null, .null, .null, .null, .int 0]) tyX8 C rfl tbX8 tyX8_ok cl_X2_9 is_X8 in_X8 hP hD hS (by intro j hj; match j, hj with | 0, _ => rfl | 1, _ => rfl | 2, _ => rfl | 3, _ => rfl | 4, _ => rfl | 5, _ => rfl | 6, _ => rfl | 7, _ => rfl | 8, _ => rfl | 9, _ => rfl | 10, _ => rfl | 11, _ => rfl | 12, _ => rfl | 13, _ => rfl | 14, _ => rfl) (by decide) dX2_init_26 (fun x14 H hP hD hS => ?_)
  refine W.widen (k := 68) (n := 498) (by omega) (by omega) ?_
  refine lv_dup hx hb dX2_init_29 rfl ?_
  refine k_ctor (W9 := [(o, .inr (2, [.ref y1, .int 0, .int 0]))] ++ [(y1, .inl (q 5, 9, .inr (.inr (.inr (.inr (va_up (va_up (va_up (va_up (va_up (va_up (fun _ => none) 0 (some x2)) 1 (some x4)) 2 (some x6)) 3 (some x8)) 4 (some x10)) 5 (some x12)))))))] ++ fl [g8 q x2 (h3 0) Z0] ++ fl [g8 q x4 (h5 0) Z0] ++ fl [g8 q x6 (h7 0) Z0] ++ fl [g8 q x8 (h9 0) Z0] ++ fl [g8 q x10 (h11 0) Z0] ++ fl [g8 q x12 (h13 0) Z0]) (B := fun h => fl [g8 q x14 (h 0) Z0]) (As := []) (rest := [.ref x14, .int (6 : Int32), .ref y1]) C (c_X8_init l D q x14 _) ki_X8_init ml_X2_17 rfl rfl (by decide) hP hD hS rfl hl.1 rfl (Nat.le_of_ble_eq_true rfl) dX2_init_30 (by decide) (fun h15 H locs hP hD hS => ?_)
  refine W.widen (k := 78) (n := 562) (by omega) (by omega) ?_
  refine k_ast (t0 := 5) (ci := 8) (W8 := [(o, .inr (2, [.ref y1, .int 0, .int 0]))] ++ [(y1, .inl (q 5, 9, .inr (.inr (.inr (.inr (va_up (va_up (va_up (va_up (va_up (va_up (va_up (fun _ => none) 0 (some x2)) 1 (some x4)) 2 (some x6)) 3 (some x8)) 4 (some x10)) 5 (some x12)) 6 (some x14)))))))] ++ fl [g8 q x2 (h3 0) Z0] ++ fl [g8 q x4 (h5 0) Z0] ++ fl [g8 q x6 (h7 0) Z0] ++ fl [g8 q x8 (h9 0) Z0] ++ fl [g8 q x10 (h11 0) Z0] ++ fl [g8 q x12 (h13 0) Z0] ++ fl [g8 q x14 (h15 0) Z0]) C hP hD hS 1 68 rfl rfl rfl rfl (by decide) (by decide) dX2_init_33 rfl (fun H locs hP hD hS => ?_)
  refine lv_iinc (v := (7 : Int32)) (lv' := [(1, .int (7 : Int32)), (0, .ref o)]) hx hb dX2_init_34 hl (k := 0) rfl (by decide) (by decide) rfl (fun ls hl => ?_)
  refine lv_goto (tgt := 15) hx hb dX2_init_37 (by decide) ?_
  refine lv_iload_n hx hb dX2_init_15 rfl (lv_at hl 0 rfl) ?_
  refine lv_bipush (v := (8 : Int32)) hx hb dX2_init_16 (by decide) ?_
  refine lv_icmp_gt (tgt := 40) hx hb dX2_init_18 (by decide) (fun c9 => absurd c9 (by decide)) (fun _ => ?_)
  refine lv_aload_n hx hb dX2_init_21 rfl (lv_at hl 1 rfl) ?_
  refine k_get (v := .ref y1) C fg_X2_11 hP 0 rfl rfl dX2_init_22 ?_
  refine lv_iload_n hx hb dX2_init_25 rfl (lv_at hl 0 rfl) ?_
  refine k_newO (ci := 8) (fs := [.int 0, .null, .null, .null, .null, .int 0, .int 0, .int 0, .null, .null, .null, .null, .null, .null, .int 0]) tyX8 C rfl tbX8 tyX8_ok cl_X2_9 is_X8 in_X8 hP hD hS (by intro j hj; match j, hj with | 0, _ => rfl | 1, _ => rfl | 2, _ => rfl | 3, _ => rfl | 4, _ => rfl | 5, _ => rfl | 6, _ => rfl | 7, _ => rfl | 8, _ => rfl | 9, _ => rfl | 10, _ => rfl | 11, _ => rfl | 12, _ => rfl | 13, _ => rfl | 14, _ => rfl) (by decide) dX2_init_26 (fun x16 H hP hD hS => ?_)
  refine W.widen (k := 79) (n := 577) (by omega) (by omega) ?_
  refine lv_dup hx hb dX2_init_29 rfl ?_
  refine k_ctor (W9 := [(o, .inr (2, [.ref y1, .int 0, .int 0]))] ++ [(y1, .inl (q 5, 9, .inr (.inr (.inr (.inr (va_up (va_up (va_up (va_up (va_up (va_up (va_up (fun _ => none) 0 (some x2)) 1 (some x4)) 2 (some x6)) 3 (some x8)) 4 (some x10)) 5 (some x12)) 6 (some x14)))))))] ++ fl [g8 q x2 (h3 0) Z0] ++ fl [g8 q x4 (h5 0) Z0] ++ fl [g8 q x6 (h7 0) Z0] ++ fl [g8 q x8 (h9 0) Z0] ++ fl [g8 q x10 (h11 0) Z0] ++ fl [g8 q x12 (h13 0) Z0] ++ fl [g8 q x14 (h15 0) Z0]) (B := fun h => fl [g8 q x16 (h 0) Z0]) (As := []) (rest := [.ref x16, .int (7 : Int32), .ref y1]) C (c_X8_init l D q x16 _) ki_X8_init ml_X2_17 rfl rfl (by decide) hP hD hS rfl hl.1 rfl (Nat.le_of_ble_eq_true rfl) dX2_init_30 (by decide) (fun h17 H locs hP hD hS => ?_)
  refine W.widen (k := 89) (n := 641) (by omega) (by omega) ?_
  refine k_ast (t0 := 5) (ci := 8) (W8 := [(o, .inr (2, [.ref y1, .int 0, .int 0]))] ++ [(y1, .inl (q 5, 9, .inr (.inr (.inr (.inr (va_up (va_up (va_up (va_up (va_up (va_up (va_up (va_up (fun _ => none) 0 (some x2)) 1 (some x4)) 2 (some x6)) 3 (some x8)) 4 (some x10)) 5 (some x12)) 6 (some x14)) 7 (some x16)))))))] ++ fl [g8 q x2 (h3 0) Z0] ++ fl [g8 q x4 (h5 0) Z0] ++ fl [g8 q x6 (h7 0) Z0] ++ fl [g8 q x8 (h9 0) Z0] ++ fl [g8 q x10 (h11 0) Z0] ++ fl [g8 q x12 (h13 0) Z0] ++ fl [g8 q x14 (h15 0) Z0] ++ fl [g8 q x16 (h17 0) Z0]) C hP hD hS 1 79 rfl rfl rfl rfl (by decide) (by decide) dX2_init_33 rfl (fun H locs hP hD hS => ?_)
  refine lv_iinc (v := (8 : Int32)) (lv' := [(1, .int (8 : Int32)), (0, .ref o)]) hx hb dX2_init_34 hl (k := 0) rfl (by decide) (by decide) rfl (fun ls hl => ?_)
  refine lv_goto (tgt := 15) hx hb dX2_init_37 (by decide) ?_
  refine lv_iload_n hx hb dX2_init_15 rfl (lv_at hl 0 rfl) ?_
  refine lv_bipush (v := (8 : Int32)) hx hb dX2_init_16 (by decide) ?_
  refine lv_icmp_gt (tgt := 40) hx hb dX2_init_18 (by decide) (fun c9 => absurd c9 (by decide)) (fun _ => ?_)
  refine lv_aload_n hx hb dX2_init_21 rfl (lv_at hl 1 rfl) ?_
  refine k_get (v := .ref y1) C fg_X2_11 hP 0 rfl rfl dX2_init_22 ?_
  refine lv_iload_n hx hb dX2_init_25 rfl (lv_at hl 0 rfl) ?_
  refine k_newO (ci := 8) (fs := [.int 0, .null, .null, .null, .null, .int 0, .int 0, .int 0, .null, .null, .null, .null, .null, .null, .int 0]) tyX8 C rfl tbX8 tyX8_ok cl_X2_9 is_X8 in_X8 hP hD hS (by intro j hj; match j, hj with | 0, _ => rfl | 1, _ => rfl | 2, _ => rfl | 3, _ => rfl | 4, _ => rfl | 5, _ => rfl | 6, _ => rfl | 7, _ => rfl | 8, _ => rfl | 9, _ => rfl | 10, _ => rfl | 11, _ => rfl | 12, _ => rfl | 13, _ => rfl | 14, _ => rfl) (by decide) dX2_init_26 (fun x18 H hP hD hS => ?_)
  refine W.widen (k := 90) (n := 656) (by omega) (by omega) ?_
  refine lv_dup hx hb dX2_init_29 rfl ?_
  refine k_ctor (W9 := [(o, .inr (2, [.ref y1, .int 0, .int 0]))] ++ [(y1, .inl (q 5, 9, .inr (.inr (.inr (.inr (va_up (va_up (va_up (va_up (va_up (va_up (va_up (va_up (fun _ => none) 0 (some x2)) 1 (some x4)) 2 (some x6)) 3 (some x8)) 4 (some x10)) 5 (some x12)) 6 (some x14)) 7 (some x16)))))))] ++ fl [g8 q x2 (h3 0) Z0] ++ fl [g8 q x4 (h5 0) Z0] ++ fl [g8 q x6 (h7 0) Z0] ++ fl [g8 q x8 (h9 0) Z0] ++ fl [g8 q x10 (h11 0) Z0] ++ fl [g8 q x12 (h13 0) Z0] ++ fl [g8 q x14 (h15 0) Z0] ++ fl [g8 q x16 (h17 0) Z0]) (B := fun h => fl [g8 q x18 (h 0) Z0]) (As := []) (rest := [.ref x18, .int (8 : Int32), .ref y1]) C (c_X8_init l D q x18 _) ki_X8_init ml_X2_17 rfl rfl (by decide) hP hD hS rfl hl.1 rfl (Nat.le_of_ble_eq_true rfl) dX2_init_30 (by decide) (fun h19 H locs hP hD hS => ?_)
  refine W.widen (k := 100) (n := 720) (by omega) (by omega) ?_
  refine k_ast (t0 := 5) (ci := 8) (W8 := [(o, .inr (2, [.ref y1, .int 0, .int 0]))] ++ [(y1, .inl (q 5, 9, .inr (.inr (.inr (.inr (va_up (va_up (va_up (va_up (va_up (va_up (va_up (va_up (va_up (fun _ => none) 0 (some x2)) 1 (some x4)) 2 (some x6)) 3 (some x8)) 4 (some x10)) 5 (some x12)) 6 (some x14)) 7 (some x16)) 8 (some x18)))))))] ++ fl [g8 q x2 (h3 0) Z0] ++ fl [g8 q x4 (h5 0) Z0] ++ fl [g8 q x6 (h7 0) Z0] ++ fl [g8 q x8 (h9 0) Z0] ++ fl [g8 q x10 (h11 0) Z0] ++ fl [g8 q x12 (h13 0) Z0] ++ fl [g8 q x14 (h15 0) Z0] ++ fl [g8 q x16 (h17 0) Z0] ++ fl [g8 q x18 (h19 0) Z0]) C hP hD hS 1 90 rfl rfl rfl rfl (by decide) (by decide) dX2_init_33 rfl (fun H locs hP hD hS => ?_)
  refine lv_iinc (v := (9 : Int32)) (lv' := [(1, .int (9 : Int32)), (0, .ref o)]) hx hb dX2_init_34 hl (k := 0) rfl (by decide) (by decide) rfl (fun ls hl => ?_)
  refine lv_goto (tgt := 15) hx hb dX2_init_37 (by decide) ?_
  refine lv_iload_n hx hb dX2_init_15 rfl (lv_at hl 0 rfl) ?_
  refine lv_bipush (v := (8 : Int32)) hx hb dX2_init_16 (by decide) ?_
  refine lv_icmp_gt (tgt := 40) hx hb dX2_init_18 (by decide) (fun _ => ?_) (fun c9 => absurd (by decide) c9)
  refine lv_aload_n hx hb dX2_init_40 rfl (lv_at hl 1 rfl) ?_
  refine lv_iconst (v := (0 : Int32)) hx hb dX2_init_41 (by decide) ?_
  refine k_put (W8 := [(o, .inr (2, [.ref y1, .int (0 : Int32), .int 0]))] ++ [(y1, .inl (q 5, 9, .inr (.inr (.inr (.inr (va_up (va_up (va_up (va_up (va_up (va_up (va_up (va_up (va_up (fun _ => none) 0 (some x2)) 1 (some x4)) 2 (some x6)) 3 (some x8)) 4 (some x10)) 5 (some x12)) 6 (some x14)) 7 (some x16)) 8 (some x18)))))))] ++ fl [g8 q x2 (h3 0) Z0] ++ fl [g8 q x4 (h5 0) Z0] ++ fl [g8 q x6 (h7 0) Z0] ++ fl [g8 q x8 (h9 0) Z0] ++ fl [g8 q x10 (h11 0) Z0] ++ fl [g8 q x12 (h13 0) Z0] ++ fl [g8 q x14 (h15 0) Z0] ++ fl [g8 q x16 (h17 0) Z0] ++ fl [g8 q x18 (h19 0) Z0]) C fp_X2_18 hP hD hS 0 rfl rfl rfl (Nat.le_of_ble_eq_true rfl) dX2_init_42 rfl (fun H locs hP hD hS => ?_)
  refine lv_aload_n hx hb dX2_init_45 rfl (lv_at hl 1 rfl) ?_
  refine lv_iconst (v := (0 : Int32)) hx hb dX2_init_46 (by decide) ?_
  refine k_put (W8 := [(o, .inr (2, [.ref y1, .int (0 : Int32), .int (0 : Int32)]))] ++ [(y1, .inl (q 5, 9, .inr (.inr (.inr (.inr (va_up (va_up (va_up (va_up (va_up (va_up (va_up (va_up (va_up (fun _ => none) 0 (some x2)) 1 (some x4)) 2 (some x6)) 3 (some x8)) 4 (some x10)) 5 (some x12)) 6 (some x14)) 7 (some x16)) 8 (some x18)))))))] ++ fl [g8 q x2 (h3 0) Z0] ++ fl [g8 q x4 (h5 0) Z0] ++ fl [g8 q x6 (h7 0) Z0] ++ fl [g8 q x8 (h9 0) Z0] ++ fl [g8 q x10 (h11 0) Z0] ++ fl [g8 q x12 (h13 0) Z0] ++ fl [g8 q x14 (h15 0) Z0] ++ fl [g8 q x16 (h17 0) Z0] ++ fl [g8 q x18 (h19 0) Z0]) C fp_X2_22 hP hD hS 0 rfl rfl rfl (Nat.le_of_ble_eq_true rfl) dX2_init_47 rfl (fun H locs hP hD hS => ?_)
  have hP2 := k_setP (W9 := [(o, .inr (2, [.ref y1, .int (0 : Int32), .int (0 : Int32)]))] ++ [(y1, .inl (q 5, 9, .inr (.inr (.inr (.inr (va_up (va_up (va_up (va_up (va_up (va_up (va_up (va_up (va_up (fun _ => none) 0 (some x2)) 1 (some x4)) 2 (some x6)) 3 (some x8)) 4 (some x10)) 5 (some x12)) 6 (some x14)) 7 (some x16)) 8 (some x18)))))))] ++ fl [g8 q x2 (h3 0) Z0] ++ fl [g8 q x4 (h5 0) Z0] ++ fl [g8 q x6 (h7 0) Z0] ++ fl [g8 q x8 (h9 0) Z0] ++ fl [g8 q x10 (h11 0) Z0] ++ fl [g8 q x12 (h13 0) Z0] ++ fl [g8 q x14 (h15 0) Z0] ++ fl [g8 q x16 (h17 0) Z0] ++ fl [g8 q x18 (h19 0) Z0]) (q1 := 1) (a := y1) (c1 := q 5) (x := (9, .inr (.inr (.inr (.inr (va_up (va_up (va_up (va_up (va_up (va_up (va_up (va_up (va_up (fun _ => none) 0 (some x2)) 1 (some x4)) 2 (some x6)) 3 (some x8)) 4 (some x10)) 5 (some x12)) 6 (some x14)) 7 (some x16)) 8 (some x18))))))) (y := (9, .inr (.inr (.inr (.inr (fun i => some ((fun k => if k = 0 then x2 else if k = 1 then x4 else if k = 2 then x6 else if k = 3 then x8 else if k = 4 then x10 else if k = 5 then x12 else if k = 6 then x14 else if k = 7 then x16 else if k = 8 then x18 else 0) i))))))) hP (Nat.le_of_ble_eq_true rfl) (k_cellr (fun j hj => by match j, hj with | 0, _ => rfl | 1, _ => rfl | 2, _ => rfl | 3, _ => rfl | 4, _ => rfl | 5, _ => rfl | 6, _ => rfl | 7, _ => rfl | 8, _ => rfl))
  have hD2 := k_setD (W9 := [(o, .inr (2, [.ref y1, .int (0 : Int32), .int (0 : Int32)]))] ++ [(y1, .inl (q 5, 9, .inr (.inr (.inr (.inr (va_up (va_up (va_up (va_up (va_up (va_up (va_up (va_up (va_up (fun _ => none) 0 (some x2)) 1 (some x4)) 2 (some x6)) 3 (some x8)) 4 (some x10)) 5 (some x12)) 6 (some x14)) 7 (some x16)) 8 (some x18)))))))] ++ fl [g8 q x2 (h3 0) Z0] ++ fl [g8 q x4 (h5 0) Z0] ++ fl [g8 q x6 (h7 0) Z0] ++ fl [g8 q x8 (h9 0) Z0] ++ fl [g8 q x10 (h11 0) Z0] ++ fl [g8 q x12 (h13 0) Z0] ++ fl [g8 q x14 (h15 0) Z0] ++ fl [g8 q x16 (h17 0) Z0] ++ fl [g8 q x18 (h19 0) Z0]) (q1 := 1) (a := y1) (x := .inl (q 5, 9, .inr (.inr (.inr (.inr (va_up (va_up (va_up (va_up (va_up (va_up (va_up (va_up (va_up (fun _ => none) 0 (some x2)) 1 (some x4)) 2 (some x6)) 3 (some x8)) 4 (some x10)) 5 (some x12)) 6 (some x14)) 7 (some x16)) 8 (some x18))))))) (y := .inl (q 5, 9, .inr (.inr (.inr (.inr (fun i => some ((fun k => if k = 0 then x2 else if k = 1 then x4 else if k = 2 then x6 else if k = 3 then x8 else if k = 4 then x10 else if k = 5 then x12 else if k = 6 then x14 else if k = 7 then x16 else if k = 8 then x18 else 0) i))))))) hD (Nat.le_of_ble_eq_true rfl)
  have e9 : (([(o, .inr (2, [.ref y1, .int (0 : Int32), .int (0 : Int32)]))] : va_W) ++ ([(y1, .inl (q 5, 9, .inr (.inr (.inr (.inr (va_up (va_up (va_up (va_up (va_up (va_up (va_up (va_up (va_up (fun _ => none) 0 (some x2)) 1 (some x4)) 2 (some x6)) 3 (some x8)) 4 (some x10)) 5 (some x12)) 6 (some x14)) 7 (some x16)) 8 (some x18)))))))] : va_W) ++ fl [g8 q x2 (h3 0) Z0] ++ fl [g8 q x4 (h5 0) Z0] ++ fl [g8 q x6 (h7 0) Z0] ++ fl [g8 q x8 (h9 0) Z0] ++ fl [g8 q x10 (h11 0) Z0] ++ fl [g8 q x12 (h13 0) Z0] ++ fl [g8 q x14 (h15 0) Z0] ++ fl [g8 q x16 (h17 0) Z0] ++ fl [g8 q x18 (h19 0) Z0]).set 1 (y1, .inl (q 5, 9, .inr (.inr (.inr (.inr (fun i => some ((fun k => if k = 0 then x2 else if k = 1 then x4 else if k = 2 then x6 else if k = 3 then x8 else if k = 4 then x10 else if k = 5 then x12 else if k = 6 then x14 else if k = 7 then x16 else if k = 8 then x18 else 0) i))))))) = (fun h => fl [g2 q o (h 0) Z0, g20 q (h 0 1) (h 1) (fun i => h (2 + i)) (fun _ => Z0)]) (fun n => if n = 0 then (fun k => if k = 1 then y1 else 0) else if n = 1 then (fun k => if k = 0 then x2 else if k = 1 then x4 else if k = 2 then x6 else if k = 3 then x8 else if k = 4 then x10 else if k = 5 then x12 else if k = 6 then x14 else if k = 7 then x16 else if k = 8 then x18 else 0) else if n = 2 then h3 0 else if n = 3 then h5 0 else if n = 4 then h7 0 else if n = 5 then h9 0 else if n = 6 then h11 0 else if n = 7 then h13 0 else if n = 8 then h15 0 else if n = 9 then h17 0 else if n = 10 then h19 0 else fun _ => 0) := by
    simp [fl, g2, g20, row20, Z0]
  rw [e9] at hP2 hD2
  exact k_nret (B := fun h => fl [g2 q o (h 0) Z0, g20 q (h 0 1) (h 1) (fun i => h (2 + i)) (fun _ => Z0)]) C (fun n => if n = 0 then (fun k => if k = 1 then y1 else 0) else if n = 1 then (fun k => if k = 0 then x2 else if k = 1 then x4 else if k = 2 then x6 else if k = 3 then x8 else if k = 4 then x10 else if k = 5 then x12 else if k = 6 then x14 else if k = 7 then x16 else if k = 8 then x18 else 0) else if n = 2 then h3 0 else if n = 3 then h5 0 else if n = 4 then h7 0 else if n = 5 then h9 0 else if n = 6 then h11 0 else if n = 7 then h13 0 else if n = 8 then h15 0 else if n = 9 then h17 0 else if n = 10 then h19 0 else fun _ => 0) hP2 hD2 hS dX2_init_50
