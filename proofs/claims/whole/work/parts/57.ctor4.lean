theorem ob_X4 : Cond.methodLink RX4 3 objectInit ∈ TB := tb_2 (List.mem_of_getElem? (i := 125) (by decide +kernel)) (by decide +kernel)
theorem ff_X4_9 : fpF RX4 9 4 0 (.array .int) := ⟨RX4, RX4, TX4, 5, tyX4, rfl, by decide, tbX4, fl_X4_9, fun _ _ h => h, tyX4_ok, nmX4, rfl, rfl, by decide +kernel⟩
theorem ff_X4_15 : fpF RX4 15 4 1 (.array .int) := ⟨RX4, RX4, TX4, 5, tyX4, rfl, by decide, tbX4, fl_X4_15, fun _ _ h => h, tyX4_ok, nmX4, rfl, rfl, by decide +kernel⟩
theorem ff_X4_18 : fpF RX4 18 4 2 (.array .int) := ⟨RX4, RX4, TX4, 5, tyX4, rfl, by decide, tbX4, fl_X4_18, fun _ _ h => h, tyX4_ok, nmX4, rfl, rfl, by decide +kernel⟩
theorem ff_X4_21 : fpF RX4 21 4 3 (.array .int) := ⟨RX4, RX4, TX4, 5, tyX4, rfl, by decide, tbX4, fl_X4_21, fun _ _ h => h, tyX4_ok, nmX4, rfl, rfl, by decide +kernel⟩
theorem ff_X4_24 : fpF RX4 24 4 4 (.array .int) := ⟨RX4, RX4, TX4, 5, tyX4, rfl, by decide, tbX4, fl_X4_24, fun _ _ h => h, tyX4_ok, nmX4, rfl, rfl, by decide +kernel⟩
set_option maxRecDepth 100000 in
set_option maxHeartbeats 8000000 in
theorem c_X4_init (l : Launch) (D : va_G) (q : Nat → ClassId) (o sz : Nat) : Met l yX4_init (Cond.code yX4_init cX4_init 1 none :: TB) ({ frames := 1, cells := 5, slots := 920, locals := 23 } : Room) (PC D q [.ref o] [(o, .inr (4, [.null, .null, .null, .null, .null]))] sz) ((fun A => QN D A (fun h => fl [g4 q o (h 0) (sF Z0 4 (fun _ => (-1 : Int32)))])) (va_A [(o, .inr (4, [.null, .null, .null, .null, .null]))] sz)) 5 920 (va_A [(o, .inr (4, [.null, .null, .null, .null, .null]))] sz) := by
  refine k_metI (w0 := [(o, .inr (4, [.null, .null, .null, .null, .null]))]) (Q := fun A => QN D A (fun h => fl [g4 q o (h 0) (sF Z0 4 (fun _ => (-1 : Int32)))])) (by decide +kernel) (Nat.le_of_ble_eq_true rfl) ?_
  intro p e s m args below meth c A ls hin C hP hD hS hl
  have hl : lv_has ls 1 [(0, .ref o)] := hl
  have C : cx p s m args meth c cX4_init 1 none RX4 D q A := C
  obtain ⟨hx, hb, hr, hml, hown, hts, hlk, hA, hK, hN, hV⟩ := id C
  refine lv_aload_n hx hb dX4_init_0 rfl (lv_at hl 0 rfl) ?_
  refine k_obj C ob_X4 kobj hl.1 ⟨Nat.le_of_ble_eq_true rfl, Nat.le_of_ble_eq_true rfl⟩ dX4_init_1 ?_
  refine lv_aload_n hx hb dX4_init_4 rfl (lv_at hl 0 rfl) ?_
  refine lv_sipush (v := (896 : Int32)) hx hb dX4_init_5 (by decide) ?_
  refine k_newI 896 C arI hP hD hS ⟨by decide, by decide⟩ (by decide) (by decide) dX4_init_8 (fun y1 H hP hD hS => ?_)
  refine W.widen (k := 1) (n := 896) (by omega) (by omega) ?_
  refine k_putF (W8 := [(o, .inr (4, [.ref y1, .null, .null, .null, .null]))] ++ [(y1, .inl (q 1, 896, .inl (fun _ => 0)))]) C hin ff_X4_9 hP hD hS 0 rfl rfl rfl (Nat.le_of_ble_eq_true rfl) dX4_init_10 rfl (fun H locs hP hD hS => ?_)
  refine lv_aload_n hx hb dX4_init_13 rfl (lv_at hl 0 rfl) ?_
  refine lv_bipush (v := (6 : Int32)) hx hb dX4_init_14 (by decide) ?_
  refine k_newI 6 C arI hP hD hS ⟨by decide, by decide⟩ (by decide) (by decide) dX4_init_16 (fun y2 H hP hD hS => ?_)
  refine W.widen (k := 2) (n := 902) (by omega) (by omega) ?_
  refine k_putF (W8 := [(o, .inr (4, [.ref y1, .ref y2, .null, .null, .null]))] ++ [(y1, .inl (q 1, 896, .inl (fun _ => 0)))] ++ [(y2, .inl (q 1, 6, .inl (fun _ => 0)))]) C hin ff_X4_15 hP hD hS 0 rfl rfl rfl (Nat.le_of_ble_eq_true rfl) dX4_init_18 rfl (fun H locs hP hD hS => ?_)
  refine lv_aload_n hx hb dX4_init_21 rfl (lv_at hl 0 rfl) ?_
  refine lv_bipush (v := (6 : Int32)) hx hb dX4_init_22 (by decide) ?_
  refine k_newI 6 C arI hP hD hS ⟨by decide, by decide⟩ (by decide) (by decide) dX4_init_24 (fun y3 H hP hD hS => ?_)
  refine W.widen (k := 3) (n := 908) (by omega) (by omega) ?_
  refine k_putF (W8 := [(o, .inr (4, [.ref y1, .ref y2, .ref y3, .null, .null]))] ++ [(y1, .inl (q 1, 896, .inl (fun _ => 0)))] ++ [(y2, .inl (q 1, 6, .inl (fun _ => 0)))] ++ [(y3, .inl (q 1, 6, .inl (fun _ => 0)))]) C hin ff_X4_18 hP hD hS 0 rfl rfl rfl (Nat.le_of_ble_eq_true rfl) dX4_init_26 rfl (fun H locs hP hD hS => ?_)
  refine lv_aload_n hx hb dX4_init_29 rfl (lv_at hl 0 rfl) ?_
  refine lv_bipush (v := (6 : Int32)) hx hb dX4_init_30 (by decide) ?_
  refine k_newI 6 C arI hP hD hS ⟨by decide, by decide⟩ (by decide) (by decide) dX4_init_32 (fun y4 H hP hD hS => ?_)
  refine W.widen (k := 4) (n := 914) (by omega) (by omega) ?_
  refine k_putF (W8 := [(o, .inr (4, [.ref y1, .ref y2, .ref y3, .ref y4, .null]))] ++ [(y1, .inl (q 1, 896, .inl (fun _ => 0)))] ++ [(y2, .inl (q 1, 6, .inl (fun _ => 0)))] ++ [(y3, .inl (q 1, 6, .inl (fun _ => 0)))] ++ [(y4, .inl (q 1, 6, .inl (fun _ => 0)))]) C hin ff_X4_21 hP hD hS 0 rfl rfl rfl (Nat.le_of_ble_eq_true rfl) dX4_init_34 rfl (fun H locs hP hD hS => ?_)
  refine lv_aload_n hx hb dX4_init_37 rfl (lv_at hl 0 rfl) ?_
  refine lv_bipush (v := (6 : Int32)) hx hb dX4_init_38 (by decide) ?_
  refine k_newI 6 C arI hP hD hS ⟨by decide, by decide⟩ (by decide) (by decide) dX4_init_40 (fun y5 H hP hD hS => ?_)
  refine W.widen (k := 5) (n := 920) (by omega) (by omega) ?_
  refine k_putF (W8 := [(o, .inr (4, [.ref y1, .ref y2, .ref y3, .ref y4, .ref y5]))] ++ [(y1, .inl (q 1, 896, .inl (fun _ => 0)))] ++ [(y2, .inl (q 1, 6, .inl (fun _ => 0)))] ++ [(y3, .inl (q 1, 6, .inl (fun _ => 0)))] ++ [(y4, .inl (q 1, 6, .inl (fun _ => 0)))] ++ [(y5, .inl (q 1, 6, .inl (fun _ => 0)))]) C hin ff_X4_24 hP hD hS 0 rfl rfl rfl (Nat.le_of_ble_eq_true rfl) dX4_init_42 rfl (fun H locs hP hD hS => ?_)
  refine lv_aload_n hx hb dX4_init_45 rfl (lv_at hl 0 rfl) ?_
  refine k_get (v := .ref y5) C fg_X4_24 hP 0 rfl rfl dX4_init_46 ?_
  refine lv_iconst (v := (-1 : Int32)) hx hb dX4_init_49 (by decide) ?_
  refine k_vsetC (W8 := [(o, .inr (4, [.ref y1, .ref y2, .ref y3, .ref y4, .ref y5]))] ++ [(y1, .inl (q 1, 896, .inl (fun _ => 0)))] ++ [(y2, .inl (q 1, 6, .inl (fun _ => 0)))] ++ [(y3, .inl (q 1, 6, .inl (fun _ => 0)))] ++ [(y4, .inl (q 1, 6, .inl (fun _ => 0)))] ++ [(y5, .inl (q 1, 6, .inl (fun _ => (-1 : Int32))))]) C (k_rS (As := [.ref y5, .int (-1 : Int32)]) (rest := []) C (c_fill l D q y5 6 (fun _ => 0) _ (-1 : Int32) (by decide)) kc_J7_fill_53178 ml_X4_27 rfl rfl (by decide) (hP.sub (ws' := [(y5, .inl (q 1, 6, .inl (fun _ => 0)))]) [5] rfl) (hD.sub (ws' := [(y5, .inl (q 1, 6, .inl (fun _ => 0)))]) [5] (by decide) rfl) hS rfl hl.1 rfl (Nat.le_of_ble_eq_true rfl) dX4_init_50 (by decide)) hP hD hS 5 rfl rfl (fun H locs hP hD hS => ?_)
  exact k_nret (B := fun h => fl [g4 q o (h 0) (sF Z0 4 (fun _ => (-1 : Int32)))]) C (fun n => if n = 0 then (fun k => if k = 1 then y1 else if k = 2 then y2 else if k = 3 then y3 else if k = 4 then y4 else if k = 5 then y5 else 0) else fun _ => 0) hP hD hS dX4_init_53
