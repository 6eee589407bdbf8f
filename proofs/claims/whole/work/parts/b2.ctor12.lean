theorem ob_X12 : Cond.methodLink RX12 27 objectInit ∈ TB := tb_6 (List.mem_of_getElem? (i := 46) (by decide +kernel)) (by decide +kernel)
theorem ff_X12_14 : fpF RX12 14 12 1 (.array .byte) := ⟨RX12, RX12, TX12, 51, tyX12, rfl, by decide, tbX12, fl_X12_14, fun _ _ h => h, tyX12_ok, nmX12, rfl, rfl, by decide +kernel⟩
theorem ff_X12_33 : fpF RX12 33 12 6 (.array .int) := ⟨RX12, RX12, TX12, 51, tyX12, rfl, by decide, tbX12, fl_X12_33, fun _ _ h => h, tyX12_ok, nmX12, rfl, rfl, by decide +kernel⟩
theorem ff_X12_37 : fpF RX12 37 12 7 (.array .int) := ⟨RX12, RX12, TX12, 51, tyX12, rfl, by decide, tbX12, fl_X12_37, fun _ _ h => h, tyX12_ok, nmX12, rfl, rfl, by decide +kernel⟩
theorem ff_X12_40 : fpF RX12 40 12 8 (.array .int) := ⟨RX12, RX12, TX12, 51, tyX12, rfl, by decide, tbX12, fl_X12_40, fun _ _ h => h, tyX12_ok, nmX12, rfl, rfl, by decide +kernel⟩
theorem ff_X12_43 : fpF RX12 43 12 9 (.array .long) := ⟨RX12, RX12, TX12, 51, tyX12, rfl, by decide, tbX12, fl_X12_43, fun _ _ h => h, tyX12_ok, nmX12, rfl, rfl, by decide +kernel⟩
theorem ff_X12_47 : fpF RX12 47 12 10 (.array .long) := ⟨RX12, RX12, TX12, 51, tyX12, rfl, by decide, tbX12, fl_X12_47, fun _ _ h => h, tyX12_ok, nmX12, rfl, rfl, by decide +kernel⟩
theorem ff_X12_50 : fpF RX12 50 12 20 (.array .int) := ⟨RX12, RX12, TX12, 51, tyX12, rfl, by decide, tbX12, fl_X12_50, fun _ _ h => h, tyX12_ok, nmX12, rfl, rfl, by decide +kernel⟩
theorem ff_X12_53 : fpF RX12 53 12 21 (.array .int) := ⟨RX12, RX12, TX12, 51, tyX12, rfl, by decide, tbX12, fl_X12_53, fun _ _ h => h, tyX12_ok, nmX12, rfl, rfl, by decide +kernel⟩
theorem ff_X12_56 : fpF RX12 56 12 23 (.array .int) := ⟨RX12, RX12, TX12, 51, tyX12, rfl, by decide, tbX12, fl_X12_56, fun _ _ h => h, tyX12_ok, nmX12, rfl, rfl, by decide +kernel⟩
theorem ff_X12_59 : fpF RX12 59 12 24 (.array .int) := ⟨RX12, RX12, TX12, 51, tyX12, rfl, by decide, tbX12, fl_X12_59, fun _ _ h => h, tyX12_ok, nmX12, rfl, rfl, by decide +kernel⟩
theorem ff_X12_65 : fpF RX12 65 12 26 (.array .int) := ⟨RX12, RX12, TX12, 51, tyX12, rfl, by decide, tbX12, fl_X12_65, fun _ _ h => h, tyX12_ok, nmX12, rfl, rfl, by decide +kernel⟩
theorem ff_X12_71 : fpF RX12 71 12 30 (.array .int) := ⟨RX12, RX12, TX12, 51, tyX12, rfl, by decide, tbX12, fl_X12_71, fun _ _ h => h, tyX12_ok, nmX12, rfl, rfl, by decide +kernel⟩
theorem ff_X12_74 : fpF RX12 74 12 31 (.array .int) := ⟨RX12, RX12, TX12, 51, tyX12, rfl, by decide, tbX12, fl_X12_74, fun _ _ h => h, tyX12_ok, nmX12, rfl, rfl, by decide +kernel⟩
theorem ff_X12_80 : fpF RX12 80 12 33 (.array .int) := ⟨RX12, RX12, TX12, 51, tyX12, rfl, by decide, tbX12, fl_X12_80, fun _ _ h => h, tyX12_ok, nmX12, rfl, rfl, by decide +kernel⟩
theorem ff_X12_86 : fpF RX12 86 12 35 (.array .byte) := ⟨RX12, RX12, TX12, 51, tyX12, rfl, by decide, tbX12, fl_X12_86, fun _ _ h => h, tyX12_ok, nmX12, rfl, rfl, by decide +kernel⟩
theorem ff_X12_89 : fpF RX12 89 12 39 (.array .int) := ⟨RX12, RX12, TX12, 51, tyX12, rfl, by decide, tbX12, fl_X12_89, fun _ _ h => h, tyX12_ok, nmX12, rfl, rfl, by decide +kernel⟩
theorem ff_X12_92 : fpF RX12 92 12 41 (.array .int) := ⟨RX12, RX12, TX12, 51, tyX12, rfl, by decide, tbX12, fl_X12_92, fun _ _ h => h, tyX12_ok, nmX12, rfl, rfl, by decide +kernel⟩
theorem ff_X12_95 : fpF RX12 95 12 47 (.array .boolean) := ⟨RX12, RX12, TX12, 51, tyX12, rfl, by decide, tbX12, fl_X12_95, fun _ _ h => h, tyX12_ok, nmX12, rfl, rfl, by decide +kernel⟩
theorem ff_X12_99 : fpF RX12 99 12 48 (.array .int) := ⟨RX12, RX12, TX12, 51, tyX12, rfl, by decide, tbX12, fl_X12_99, fun _ _ h => h, tyX12_ok, nmX12, rfl, rfl, by decide +kernel⟩
theorem ff_X12_102 : fpF RX12 102 12 49 (.array .long) := ⟨RX12, RX12, TX12, 51, tyX12, rfl, by decide, tbX12, fl_X12_102, fun _ _ h => h, tyX12_ok, nmX12, rfl, rfl, by decide +kernel⟩
theorem ff_X12_105 : fpF RX12 105 12 50 (.array .boolean) := ⟨RX12, RX12, TX12, 51, tyX12, rfl, by decide, tbX12, fl_X12_105, fun _ _ h => h, tyX12_ok, nmX12, rfl, rfl, by decide +kernel⟩
def Z12 : St := (fun k => if k = 25 then -1 else if k = 27 then -1 else if k = 32 then -1 else if k = 34 then -1 else 0, fun _ => 0, fun _ _ => 0, fun _ _ => 0)
theorem kL_X12_110 : Cond.constantLong RX12 110 (1936484724) ∈ TB := tb_6 (List.mem_of_getElem? (i := 48) (by decide +kernel)) (by decide +kernel)
theorem kL_X12_112 : Cond.constantLong RX12 112 (6451063) ∈ TB := tb_6 (List.mem_of_getElem? (i := 49) (by decide +kernel)) (by decide +kernel)
theorem kL_X12_114 : Cond.constantLong RX12 114 (491496238692) ∈ TB := tb_6 (List.mem_of_getElem? (i := 50) (by decide +kernel)) (by decide +kernel)
theorem kL_X12_116 : Cond.constantLong RX12 116 (31353073916407662) ∈ TB := tb_6 (List.mem_of_getElem? (i := 51) (by decide +kernel)) (by decide +kernel)
theorem kL_X12_118 : Cond.constantLong RX12 118 (1685419129) ∈ TB := tb_6 (List.mem_of_getElem? (i := 52) (by decide +kernel)) (by decide +kernel)
theorem kL_X12_120 : Cond.constantLong RX12 120 (7562593) ∈ TB := tb_6 (List.mem_of_getElem? (i := 53) (by decide +kernel)) (by decide +kernel)
theorem kL_X12_122 : Cond.constantLong RX12 122 (127991944930932) ∈ TB := tb_6 (List.mem_of_getElem? (i := 54) (by decide +kernel)) (by decide +kernel)
theorem kL_X12_124 : Cond.constantLong RX12 124 (1685022579) ∈ TB := tb_6 (List.mem_of_getElem? (i := 55) (by decide +kernel)) (by decide +kernel)
theorem kL_X12_126 : Cond.constantLong RX12 126 (1819244133) ∈ TB := tb_6 (List.mem_of_getElem? (i := 56) (by decide +kernel)) (by decide +kernel)
theorem kL_X12_128 : Cond.constantLong RX12 128 (7823730) ∈ TB := tb_6 (List.mem_of_getElem? (i := 57) (by decide +kernel)) (by decide +kernel)
theorem kL_X12_130 : Cond.constantLong RX12 130 (470121933155) ∈ TB := tb_6 (List.mem_of_getElem? (i := 58) (by decide +kernel)) (by decide +kernel)
theorem kL_X12_132 : Cond.constantLong RX12 132 (7628129) ∈ TB := tb_6 (List.mem_of_getElem? (i := 59) (by decide +kernel)) (by decide +kernel)
theorem kL_X12_142 : Cond.constantLong RX12 142 (109317276394099) ∈ TB := tb_6 (List.mem_of_getElem? (i := 64) (by decide +kernel)) (by decide +kernel)
theorem kL_X12_144 : Cond.constantLong RX12 144 (465491092595) ∈ TB := tb_6 (List.mem_of_getElem? (i := 65) (by decide +kernel)) (by decide +kernel)
theorem kL_X12_146 : Cond.constantLong RX12 146 (499917810803) ∈ TB := tb_6 (List.mem_of_getElem? (i := 66) (by decide +kernel)) (by decide +kernel)
abbrev rm_X12_init : Room := ({ frames := 1, cells := 21, slots := 3902, locals := 21 } : Room)
def F_X12_init_557 (k557 : Int32 × St → Option (St)) (x1 : Int32) (S0 : St) : Option (St) := if (42 : Int32) ≤ x1 then (some (S0)) else (if oob x1 42 then none else if oob x1 258 then none else nw (sA S0 6 x1 (S0.2.2.1 7 x1.toNatClampNeg)) fun U4 => k557 ((x1 + 1), U4))
def L_X12_init_557 (x1 : Int32) (S0 : St) : Option (St) := lp (fun kz z => F_X12_init_557 kz z.1 z.2) FU (x1, S0)
def F_X12_init_197 (S0 : St) : Option (St) := if oob (0 : Int32) 36 then none else nw (sJ S0 10 (0 : Int32) (128047780095348 : Int64)) fun U2 => if oob (1 : Int32) 36 then none else nw (sJ U2 10 (1 : Int32) (1936484724 : Int64)) fun U5 => if oob (2 : Int32) 36 then none else nw (sJ U5 10 (2 : Int32) (6451063 : Int64)) fun U8 => if oob (3 : Int32) 36 then none else nw (sJ U8 10 (3 : Int32) (491496238692 : Int64)) fun U11 => if oob (4 : Int32) 36 then none else nw (sJ U11 10 (4 : Int32) (31353073916407662 : Int64)) fun U14 => if oob (5 : Int32) 36 then none else nw (sJ U14 10 (5 : Int32) (1685419129 : Int64)) fun U17 => if oob (6 : Int32) 36 then none else nw (sJ U17 10 (6 : Int32) (7562593 : Int64)) fun U20 => if oob (7 : Int32) 36 then none else nw (sJ U20 10 (7 : Int32) (127991944930932 : Int64)) fun U23 => if oob (8 : Int32) 36 then none else nw (sJ U23 10 (8 : Int32) (1685022579 : Int64)) fun U26 => if oob (9 : Int32) 36 then none else nw (sJ U26 10 (9 : Int32) (1819244133 : Int64)) fun U29 => if oob (10 : Int32) 36 then none else nw (sJ U29 10 (10 : Int32) (7823730 : Int64)) fun U32 => if oob (11 : Int32) 36 then none else nw (sJ U32 10 (11 : Int32) (470121933155 : Int64)) fun U35 => if oob (12 : Int32) 36 then none else nw (sJ U35 10 (12 : Int32) (7628129 : Int64)) fun U38 => if oob (13 : Int32) 36 then none else nw (sJ U38 10 (13 : Int32) (1986096741 : Int64)) fun U41 => if oob (14 : Int32) 36 then none else nw (sJ U41 10 (14 : Int32) (123581014175598 : Int64)) fun U44 => if oob (15 : Int32) 36 then none else nw (sJ U44 10 (15 : Int32) (127991794264947 : Int64)) fun U47 => if oob (16 : Int32) 36 then none else nw (sJ U47 10 (16 : Int32) (512735736947 : Int64)) fun U50 => if oob (17 : Int32) 36 then none else nw (sJ U50 10 (17 : Int32) (109317276394099 : Int64)) fun U53 => if oob (18 : Int32) 36 then none else nw (sJ U53 10 (18 : Int32) (465491092595 : Int64)) fun U56 => if oob (19 : Int32) 36 then none else nw (sJ U56 10 (19 : Int32) (499917810803 : Int64)) fun U59 => if oob (20 : Int32) 36 then none else nw (sJ U59 10 (20 : Int32) (495874699885 : Int64)) fun U62 => if oob (21 : Int32) 36 then none else nw (sJ U62 10 (21 : Int32) (2002873452 : Int64)) fun U65 => if oob (22 : Int32) 36 then none else nw (sJ U65 10 (22 : Int32) (129117309725804 : Int64)) fun U68 => if oob (23 : Int32) 36 then none else nw (sJ U68 10 (23 : Int32) (6578553 : Int64)) fun U71 => if oob (24 : Int32) 36 then none else nw (sJ U71 10 (24 : Int32) (28530 : Int64)) fun U74 => if oob (25 : Int32) 36 then none else nw (sJ U74 10 (25 : Int32) (6385252 : Int64)) fun U77 => if oob (26 : Int32) 36 then none else nw (sJ U77 10 (26 : Int32) (7237492 : Int64)) fun U80 => if oob (27 : Int32) 36 then none else nw (sJ U80 10 (27 : Int32) (30064 : Int64)) fun U83 => if oob (28 : Int32) 36 then none else nw (sJ U83 10 (28 : Int32) (1835625572 : Int64)) fun U86 => if oob (29 : Int32) 36 then none else nw (sJ U86 10 (29 : Int32) (31644380074042724 : Int64)) fun U89 => if oob (30 : Int32) 36 then none else nw (sJ U89 10 (30 : Int32) (6840691 : Int64)) fun U92 => if oob (31 : Int32) 36 then none else nw (sJ U92 10 (31 : Int32) (28526 : Int64)) fun U95 => if oob (32 : Int32) 36 then none else nw (sJ U95 10 (32 : Int32) (508574398323 : Int64)) fun U98 => if oob (33 : Int32) 36 then none else nw (sJ U98 10 (33 : Int32) (474148402789 : Int64)) fun U101 => if oob (34 : Int32) 36 then none else nw (sJ U101 10 (34 : Int32) (27985222756885860 : Int64)) fun U104 => if oob (35 : Int32) 36 then none else nw (sJ U104 10 (35 : Int32) (121450625394034 : Int64)) fun U107 => ob1 (F_X12_clears U107) fun U110 => L_X12_init_557 (0 : Int32) U110
set_option maxRecDepth 100000 in
set_option maxHeartbeats 4000000 in
theorem b_X12_init_557 {p : Program} {l : Launch} {e : Env} {s : State} {m : MethodId} {args : Array Value} {below : List Frame} {meth : Method} {c : Code} {D : va_G} {q : Nat → ClassId} {A : Nat → Prop} {o0 : Nat} {a0 : Nat → Nat} {T0 : St} (C : cx p s m args meth c cX12_init 2 none RX12 D q A) {k557 : Int32 × St → Option (St)} (hk557 : ∀ (x1 : Int32) (S0 : St), k557 (x1, S0) = some (T0) → ∀ (H : Heap) (locs : List Loc) (ls : Array Slot), va_P D vwCl (fl [g12 q o0 a0 S0]) H → va_D A (fl [g12 q o0 a0 S0]) → va_S A s.heap H locs → lv_has ls 2 [(0, .ref o0), (1, .int x1)] → W p l e rm_X12_init s m args below meth c H locs 21 3902 (MQ below (QN D A (fun h => fl [g12 q o0 (h 0) T0])) args s 21 3902 A) (F0 m 557 ls [])) {x1 : Int32} {S0 : St} (hF : F_X12_init_557 k557 x1 S0 = some (T0)) {H : Heap} {locs : List Loc} (hP : va_P D vwCl (fl [g12 q o0 a0 S0]) H) (hD : va_D A (fl [g12 q o0 a0 S0])) (hS : va_S A s.heap H locs) {ls : Array Slot} (hl : lv_has ls 2 [(0, .ref o0), (1, .int x1)]) : W p l e rm_X12_init s m args below meth c H locs 21 3902 (MQ below (QN D A (fun h => fl [g12 q o0 (h 0) T0])) args s 21 3902 A) (F0 m 557 ls []) := by
  unfold F_X12_init_557 at hF
  obtain ⟨hx, hb, hr, hml, hown, hts, hlk, hA, hK, hN, hV⟩ := id C
  refine lv_iload_n hx hb dX12_init_557 rfl (lv_at hl 1 rfl) ?_
  refine lv_bipush (v := (42 : Int32)) hx hb dX12_init_558 (by decide) ?_
  refine lv_icmp_ge (tgt := 581) hx hb dX12_init_560 (by decide) (fun c1 => ?_) (fun c1 => ?_)
  · have hF := op_t hF c1
    cases hF
    exact k_nret (B := fun h => fl [g12 q o0 (h 0) T0]) C (fun _ => a0) hP hD hS dX12_init_581
  · have hF := op_f hF c1
    refine lv_aload_n hx hb dX12_init_563 rfl (lv_at hl 0 rfl) ?_
    refine k_get (v := .ref (a0 7)) C fg_X12_33 hP 0 rfl rfl dX12_init_564 ?_
    refine lv_iload_n hx hb dX12_init_567 rfl (lv_at hl 1 rfl) ?_
    refine lv_aload_n hx hb dX12_init_568 rfl (lv_at hl 0 rfl) ?_
    refine k_get (v := .ref (a0 8)) C fg_X12_37 hP 0 rfl rfl dX12_init_569 ?_
    refine lv_iload_n hx hb dX12_init_572 rfl (lv_at hl 1 rfl) ?_
    obtain ⟨h2, hF⟩ := op_ck hF
    refine k_ild (f := S0.2.2.1 7) C hP 3 rfl h2 dX12_init_573 ?_
    obtain ⟨h3, hF⟩ := op_ck hF
    obtain ⟨U4, e5, hF⟩ := nw_s hF
    refine k_ist (f := S0.2.2.1 6) (W8 := fl [g12 q o0 a0 U4]) C hP hD hS 2 rfl h3 dX12_init_574 (by rw [e5]; rfl) (fun H locs hP hD hS => ?_)
    refine lv_iinc (v := (x1 + 1)) (lv' := [(1, .int (x1 + 1)), (0, .ref o0)]) hx hb dX12_init_575 hl (k := 1) rfl rfl (by decide) rfl (fun ls hl => ?_)
    refine lv_goto (tgt := 557) hx hb dX12_init_578 (by decide) ?_
    exact hk557 (x1 + 1) U4 hF _ _ _ hP hD hS (lv_sub hl [1, 0] rfl)
set_option maxRecDepth 100000 in
set_option maxHeartbeats 4000000 in
theorem l_X12_init_557 {p : Program} {l : Launch} {e : Env} {s : State} {m : MethodId} {args : Array Value} {below : List Frame} {meth : Method} {c : Code} {D : va_G} {q : Nat → ClassId} {A : Nat → Prop} {o0 : Nat} {a0 : Nat → Nat} {T0 : St} (C : cx p s m args meth c cX12_init 2 none RX12 D q A) {x1 : Int32} {S0 : St} (hF : L_X12_init_557 x1 S0 = some (T0)) : ∀ (H : Heap) (locs : List Loc) (ls : Array Slot), va_P D vwCl (fl [g12 q o0 a0 S0]) H → va_D A (fl [g12 q o0 a0 S0]) → va_S A s.heap H locs → lv_has ls 2 [(0, .ref o0), (1, .int x1)] → W p l e rm_X12_init s m args below meth c H locs 21 3902 (MQ below (QN D A (fun h => fl [g12 q o0 (h 0) T0])) args s 21 3902 A) (F0 m 557 ls []) :=
  lp_G _ _ (fun z => ∀ (H : Heap) (locs : List Loc) (ls : Array Slot), va_P D vwCl (fl [g12 q o0 a0 z.2]) H → va_D A (fl [g12 q o0 a0 z.2]) → va_S A s.heap H locs → lv_has ls 2 [(0, .ref o0), (1, .int z.1)] → W p l e rm_X12_init s m args below meth c H locs 21 3902 (MQ below (QN D A (fun h => fl [g12 q o0 (h 0) T0])) args s 21 3902 A) (F0 m 557 ls [])) (fun kz hkz z hz H locs ls hP hD hS hl => b_X12_init_557 C (fun x1 S0 hz => hkz (x1, S0) hz) hz hP hD hS hl) FU (x1, S0) hF
set_option maxRecDepth 100000 in
set_option maxHeartbeats 4000000 in
theorem b_X12_init_197 {p : Program} {l : Launch} {e : Env} {s : State} {m : MethodId} {args : Array Value} {below : List Frame} {meth : Method} {c : Code} {D : va_G} {q : Nat → ClassId} {A : Nat → Prop} {o0 : Nat} {a0 : Nat → Nat} {T0 : St} (C : cx p s m args meth c cX12_init 2 none RX12 D q A) {S0 : St} (hF : F_X12_init_197 S0 = some (T0)) {H : Heap} {locs : List Loc} (hP : va_P D vwCl (fl [g12 q o0 a0 S0]) H) (hD : va_D A (fl [g12 q o0 a0 S0])) (hS : va_S A s.heap H locs) {ls : Array Slot} (hl : lv_has ls 2 [(0, .ref o0)]) : W p l e rm_X12_init s m args below meth c H locs 21 3902 (MQ below (QN D A (fun h => fl [g12 q o0 (h 0) T0])) args s 21 3902 A) (F0 m 197 ls []) := by
  unfold F_X12_init_197 at hF
  obtain ⟨hx, hb, hr, hml, hown, hts, hlk, hA, hK, hN, hV⟩ := id C
  refine lv_aload_n hx hb dX12_init_197 rfl (lv_at hl 0 rfl) ?_
  refine k_get (v := .ref (a0 11)) C fg_X12_47 hP 0 rfl rfl dX12_init_198 ?_
  refine lv_iconst (v := (0 : Int32)) hx hb dX12_init_201 (by decide) ?_
  refine lv_ldc2 (v := (128047780095348 : Int64)) hx hb hown (hts _ kL_X12_108) dX12_init_202 ?_
  obtain ⟨h1, hF⟩ := op_ck hF
  obtain ⟨U2, e3, hF⟩ := nw_s hF
  refine k_lst (f := S0.2.2.2 10) (W8 := fl [g12 q o0 a0 U2]) C hP hD hS 6 rfl h1 dX12_init_205 (by rw [e3]; rfl) (fun H locs hP hD hS => ?_)
  refine lv_aload_n hx hb dX12_init_206 rfl (lv_at hl 0 rfl) ?_
  refine k_get (v := .ref (a0 11)) C fg_X12_47 hP 0 rfl rfl dX12_init_207 ?_
  refine lv_iconst (v := (1 : Int32)) hx hb dX12_init_210 (by decide) ?_
  refine lv_ldc2 (v := (1936484724 : Int64)) hx hb hown (hts _ kL_X12_110) dX12_init_211 ?_
  obtain ⟨h4, hF⟩ := op_ck hF
  obtain ⟨U5, e6, hF⟩ := nw_s hF
  refine k_lst (f := U2.2.2.2 10) (W8 := fl [g12 q o0 a0 U5]) C hP hD hS 6 rfl h4 dX12_init_214 (by rw [e6]; rfl) (fun H locs hP hD hS => ?_)
  refine lv_aload_n hx hb dX12_init_215 rfl (lv_at hl 0 rfl) ?_
  refine k_get (v := .ref (a0 11)) C fg_X12_47 hP 0 rfl rfl dX12_init_216 ?_
  refine lv_iconst (v := (2 : Int32)) hx hb dX12_init_219 (by decide) ?_
  refine lv_ldc2 (v := (6451063 : Int64)) hx hb hown (hts _ kL_X12_112) dX12_init_220 ?_
  obtain ⟨h7, hF⟩ := op_ck hF
  obtain ⟨U8, e9, hF⟩ := nw_s hF
  refine k_lst (f := U5.2.2.2 10) (W8 := fl [g12 q o0 a0 U8]) C hP hD hS 6 rfl h7 dX12_init_223 (by rw [e9]; rfl) (fun H locs hP hD hS => ?_)
  refine lv_aload_n hx hb dX12_init_224 rfl (lv_at hl 0 rfl) ?_
  refine k_get (v := .ref (a0 11)) C fg_X12_47 hP 0 rfl rfl dX12_init_225 ?_
  refine lv_iconst (v := (3 : Int32)) hx hb dX12_init_228 (by decide) ?_
  refine lv_ldc2 (v := (491496238692 : Int64)) hx hb hown (hts _ kL_X12_114) dX12_init_229 ?_
  obtain ⟨h10, hF⟩ := op_ck hF
  obtain ⟨U11, e12, hF⟩ := nw_s hF
  refine k_lst (f := U8.2.2.2 10) (W8 := fl [g12 q o0 a0 U11]) C hP hD hS 6 rfl h10 dX12_init_232 (by rw [e12]; rfl) (fun H locs hP hD hS => ?_)
  refine lv_aload_n hx hb dX12_init_233 rfl (lv_at hl 0 rfl) ?_
  refine k_get (v := .ref (a0 11)) C fg_X12_47 hP 0 rfl rfl dX12_init_234 ?_
  refine lv_iconst (v := (4 : Int32)) hx hb dX12_init_237 (by decide) ?_
  refine lv_ldc2 (v := (31353073916407662 : Int64)) hx hb hown (hts _ kL_X12_116) dX12_init_238 ?_
  obtain ⟨h13, hF⟩ := op_ck hF
  obtain ⟨U14, e15, hF⟩ := nw_s hF
  refine k_lst (f := U11.2.2.2 10) (W8 := fl [g12 q o0 a0 U14]) C hP hD hS 6 rfl h13 dX12_init_241 (by rw [e15]; rfl) (fun H locs hP hD hS => ?_)
  refine lv_aload_n hx hb dX12_init_242 rfl (lv_at hl 0 rfl) ?_
  refine k_get (v := .ref (a0 11)) C fg_X12_47 hP 0 rfl rfl dX12_init_243 ?_
  refine lv_iconst (v := (5 : Int32)) hx hb dX12_init_246 (by decide) ?_
  refine lv_ldc2 (v := (1685419129 : Int64)) hx hb hown (hts _ kL_X12_118) dX12_init_247 ?_
  obtain ⟨h16, hF⟩ := op_ck hF
  obtain ⟨U17, e18, hF⟩ := nw_s hF
  refine k_lst (f := U14.2.2.2 10) (W8 := fl [g12 q o0 a0 U17]) C hP hD hS 6 rfl h16 dX12_init_250 (by rw [e18]; rfl) (fun H locs hP hD hS => ?_)
  refine lv_aload_n hx hb dX12_init_251 rfl (lv_at hl 0 rfl) ?_
  refine k_get (v := .ref (a0 11)) C fg_X12_47 hP 0 rfl rfl dX12_init_252 ?_
  refine lv_bipush (v := (6 : Int32)) hx hb dX12_init_255 (by decide) ?_
  refine lv_ldc2 (v := (7562593 : Int64)) hx hb hown (hts _ kL_X12_120) dX12_init_257 ?_
  obtain ⟨h19, hF⟩ := op_ck hF
  obtain ⟨U20, e21, hF⟩ := nw_s hF
  refine k_lst (f := U17.2.2.2 10) (W8 := fl [g12 q o0 a0 U20]) C hP hD hS 6 rfl h19 dX12_init_260 (by rw [e21]; rfl) (fun H locs hP hD hS => ?_)
  refine lv_aload_n hx hb dX12_init_261 rfl (lv_at hl 0 rfl) ?_
  refine k_get (v := .ref (a0 11)) C fg_X12_47 hP 0 rfl rfl dX12_init_262 ?_
  refine lv_bipush (v := (7 : Int32)) hx hb dX12_init_265 (by decide) ?_
  refine lv_ldc2 (v := (127991944930932 : Int64)) hx hb hown (hts _ kL_X12_122) dX12_init_267 ?_
  obtain ⟨h22, hF⟩ := op_ck hF
  obtain ⟨U23, e24, hF⟩ := nw_s hF
  refine k_lst (f := U20.2.2.2 10) (W8 := fl [g12 q o0 a0 U23]) C hP hD hS 6 rfl h22 dX12_init_270 (by rw [e24]; rfl) (fun H locs hP hD hS => ?_)
  refine lv_aload_n hx hb dX12_init_271 rfl (lv_at hl 0 rfl) ?_
  refine k_get (v := .ref (a0 11)) C fg_X12_47 hP 0 rfl rfl dX12_init_272 ?_
  refine lv_bipush (v := (8 : Int32)) hx hb dX12_init_275 (by decide) ?_
  refine lv_ldc2 (v := (1685022579 : Int64)) hx hb hown (hts _ kL_X12_124) dX12_init_277 ?_
  obtain ⟨h25, hF⟩ := op_ck hF
  obtain ⟨U26, e27, hF⟩ := nw_s hF
  refine k_lst (f := U23.2.2.2 10) (W8 := fl [g12 q o0 a0 U26]) C hP hD hS 6 rfl h25 dX12_init_280 (by rw [e27]; rfl) (fun H locs hP hD hS => ?_)
  refine lv_aload_n hx hb dX12_init_281 rfl (lv_at hl 0 rfl) ?_
  refine k_get (v := .ref (a0 11)) C fg_X12_47 hP 0 rfl rfl dX12_init_282 ?_
  refine lv_bipush (v := (9 : Int32)) hx hb dX12_init_285 (by decide) ?_
  refine lv_ldc2 (v := (1819244133 : Int64)) hx hb hown (hts _ kL_X12_126) dX12_init_287 ?_
  obtain ⟨h28, hF⟩ := op_ck hF
  obtain ⟨U29, e30, hF⟩ := nw_s hF
  refine k_lst (f := U26.2.2.2 10) (W8 := fl [g12 q o0 a0 U29]) C hP hD hS 6 rfl h28 dX12_init_290 (by rw [e30]; rfl) (fun H locs hP hD hS => ?_)
  refine lv_aload_n hx hb dX12_init_291 rfl (lv_at hl 0 rfl) ?_
  refine k_get (v := .ref (a0 11)) C fg_X12_47 hP 0 rfl rfl dX12_init_292 ?_
  refine lv_bipush (v := (10 : Int32)) hx hb dX12_init_295 (by decide) ?_
  refine lv_ldc2 (v := (7823730 : Int64)) hx hb hown (hts _ kL_X12_128) dX12_init_297 ?_
  obtain ⟨h31, hF⟩ := op_ck hF
  obtain ⟨U32, e33, hF⟩ := nw_s hF
  refine k_lst (f := U29.2.2.2 10) (W8 := fl [g12 q o0 a0 U32]) C hP hD hS 6 rfl h31 dX12_init_300 (by rw [e33]; rfl) (fun H locs hP hD hS => ?_)
  refine lv_aload_n hx hb dX12_init_301 rfl (lv_at hl 0 rfl) ?_
  refine k_get (v := .ref (a0 11)) C fg_X12_47 hP 0 rfl rfl dX12_init_302 ?_
  refine lv_bipush (v := (11 : Int32)) hx hb dX12_init_305 (by decide) ?_
  refine lv_ldc2 (v := (470121933155 : Int64)) hx hb hown (hts _ kL_X12_130) dX12_init_307 ?_
  obtain ⟨h34, hF⟩ := op_ck hF
  obtain ⟨U35, e36, hF⟩ := nw_s hF
  refine k_lst (f := U32.2.2.2 10) (W8 := fl [g12 q o0 a0 U35]) C hP hD hS 6 rfl h34 dX12_init_310 (by rw [e36]; rfl) (fun H locs hP hD hS => ?_)
  refine lv_aload_n hx hb dX12_init_311 rfl (lv_at hl 0 rfl) ?_
  refine k_get (v := .ref (a0 11)) C fg_X12_47 hP 0 rfl rfl dX12_init_312 ?_
  refine lv_bipush (v := (12 : Int32)) hx hb dX12_init_315 (by decide) ?_
  refine lv_ldc2 (v := (7628129 : Int64)) hx hb hown (hts _ kL_X12_132) dX12_init_317 ?_
  obtain ⟨h37, hF⟩ := op_ck hF
  obtain ⟨U38, e39, hF⟩ := nw_s hF
  refine k_lst (f := U35.2.2.2 10) (W8 := fl [g12 q o0 a0 U38]) C hP hD hS 6 rfl h37 dX12_init_320 (by rw [e39]; rfl) (fun H locs hP hD hS => ?_)
  refine lv_aload_n hx hb dX12_init_321 rfl (lv_at hl 0 rfl) ?_
  refine k_get (v := .ref (a0 11)) C fg_X12_47 hP 0 rfl rfl dX12_init_322 ?_
  refine lv_bipush (v := (13 : Int32)) hx hb dX12_init_325 (by decide) ?_
  refine lv_ldc2 (v := (1986096741 : Int64)) hx hb hown (hts _ kL_X12_134) dX12_init_327 ?_
  obtain ⟨h40, hF⟩ := op_ck hF
  obtain ⟨U41, e42, hF⟩ := nw_s hF
  refine k_lst (f := U38.2.2.2 10) (W8 := fl [g12 q o0 a0 U41]) C hP hD hS 6 rfl h40 dX12_init_330 (by rw [e42]; rfl) (fun H locs hP hD hS => ?_)
  refine lv_aload_n hx hb dX12_init_331 rfl (lv_at hl 0 rfl) ?_
  refine k_get (v := .ref (a0 11)) C fg_X12_47 hP 0 rfl rfl dX12_init_332 ?_
  refine lv_bipush (v := (14 : Int32)) hx hb dX12_init_335 (by decide) ?_
  refine lv_ldc2 (v := (123581014175598 : Int64)) hx hb hown (hts _ kL_X12_136) dX12_init_337 ?_
  obtain ⟨h43, hF⟩ := op_ck hF
  obtain ⟨U44, e45, hF⟩ := nw_s hF
  refine k_lst (f := U41.2.2.2 10) (W8 := fl [g12 q o0 a0 U44]) C hP hD hS 6 rfl h43 dX12_init_340 (by rw [e45]; rfl) (fun H locs hP hD hS => ?_)
  refine lv_aload_n hx hb dX12_init_341 rfl (lv_at hl 0 rfl) ?_
  refine k_get (v := .ref (a0 11)) C fg_X12_47 hP 0 rfl rfl dX12_init_342 ?_
  refine lv_bipush (v := (15 : Int32)) hx hb dX12_init_345 (by decide) ?_
  refine lv_ldc2 (v := (127991794264947 : Int64)) hx hb hown (hts _ kL_X12_138) dX12_init_347 ?_
  obtain ⟨h46, hF⟩ := op_ck hF
  obtain ⟨U47, e48, hF⟩ := nw_s hF
  refine k_lst (f := U44.2.2.2 10) (W8 := fl [g12 q o0 a0 U47]) C hP hD hS 6 rfl h46 dX12_init_350 (by rw [e48]; rfl) (fun H locs hP hD hS => ?_)
  refine lv_aload_n hx hb dX12_init_351 rfl (lv_at hl 0 rfl) ?_
  refine k_get (v := .ref (a0 11)) C fg_X12_47 hP 0 rfl rfl dX12_init_352 ?_
  refine lv_bipush (v := (16 : Int32)) hx hb dX12_init_355 (by decide) ?_
  refine lv_ldc2 (v := (512735736947 : Int64)) hx hb hown (hts _ kL_X12_140) dX12_init_357 ?_
  obtain ⟨h49, hF⟩ := op_ck hF
  obtain ⟨U50, e51, hF⟩ := nw_s hF
  refine k_lst (f := U47.2.2.2 10) (W8 := fl [g12 q o0 a0 U50]) C hP hD hS 6 rfl h49 dX12_init_360 (by rw [e51]; rfl) (fun H locs hP hD hS => ?_)
  refine lv_aload_n hx hb dX12_init_361 rfl (lv_at hl 0 rfl) ?_
  refine k_get (v := .ref (a0 11)) C fg_X12_47 hP 0 rfl rfl dX12_init_362 ?_
  refine lv_bipush (v := (17 : Int32)) hx hb dX12_init_365 (by decide) ?_
  refine lv_ldc2 (v := (109317276394099 : Int64)) hx hb hown (hts _ kL_X12_142) dX12_init_367 ?_
  obtain ⟨h52, hF⟩ := op_ck hF
  obtain ⟨U53, e54, hF⟩ := nw_s hF
  refine k_lst (f := U50.2.2.2 10) (W8 := fl [g12 q o0 a0 U53]) C hP hD hS 6 rfl h52 dX12_init_370 (by rw [e54]; rfl) (fun H locs hP hD hS => ?_)
  refine lv_aload_n hx hb dX12_init_371 rfl (lv_at hl 0 rfl) ?_
  refine k_get (v := .ref (a0 11)) C fg_X12_47 hP 0 rfl rfl dX12_init_372 ?_
  refine lv_bipush (v := (18 : Int32)) hx hb dX12_init_375 (by decide) ?_
  refine lv_ldc2 (v := (465491092595 : Int64)) hx hb hown (hts _ kL_X12_144) dX12_init_377 ?_
  obtain ⟨h55, hF⟩ := op_ck hF
  obtain ⟨U56, e57, hF⟩ := nw_s hF
  refine k_lst (f := U53.2.2.2 10) (W8 := fl [g12 q o0 a0 U56]) C hP hD hS 6 rfl h55 dX12_init_380 (by rw [e57]; rfl) (fun H locs hP hD hS => ?_)
  refine lv_aload_n hx hb dX12_init_381 rfl (lv_at hl 0 rfl) ?_
  refine k_get (v := .ref (a0 11)) C fg_X12_47 hP 0 rfl rfl dX12_init_382 ?_
  refine lv_bipush (v := (19 : Int32)) hx hb dX12_init_385 (by decide) ?_
  refine lv_ldc2 (v := (499917810803 : Int64)) hx hb hown (hts _ kL_X12_146) dX12_init_387 ?_
  obtain ⟨h58, hF⟩ := op_ck hF
  obtain ⟨U59, e60, hF⟩ := nw_s hF
  refine k_lst (f := U56.2.2.2 10) (W8 := fl [g12 q o0 a0 U59]) C hP hD hS 6 rfl h58 dX12_init_390 (by rw [e60]; rfl) (fun H locs hP hD hS => ?_)
  refine lv_aload_n hx hb dX12_init_391 rfl (lv_at hl 0 rfl) ?_
  refine k_get (v := .ref (a0 11)) C fg_X12_47 hP 0 rfl rfl dX12_init_392 ?_
  refine lv_bipush (v := (20 : Int32)) hx hb dX12_init_395 (by decide) ?_
  refine lv_ldc2 (v := (495874699885 : Int64)) hx hb hown (hts _ kL_X12_148) dX12_init_397 ?_
  obtain ⟨h61, hF⟩ := op_ck hF
  obtain ⟨U62, e63, hF⟩ := nw_s hF
  refine k_lst (f := U59.2.2.2 10) (W8 := fl [g12 q o0 a0 U62]) C hP hD hS 6 rfl h61 dX12_init_400 (by rw [e63]; rfl) (fun H locs hP hD hS => ?_)
  refine lv_aload_n hx hb dX12_init_401 rfl (lv_at hl 0 rfl) ?_
  refine k_get (v := .ref (a0 11)) C fg_X12_47 hP 0 rfl rfl dX12_init_402 ?_
  refine lv_bipush (v := (21 : Int32)) hx hb dX12_init_405 (by decide) ?_
  refine lv_ldc2 (v := (2002873452 : Int64)) hx hb hown (hts _ kL_X12_150) dX12_init_407 ?_
  obtain ⟨h64, hF⟩ := op_ck hF
  obtain ⟨U65, e66, hF⟩ := nw_s hF
  refine k_lst (f := U62.2.2.2 10) (W8 := fl [g12 q o0 a0 U65]) C hP hD hS 6 rfl h64 dX12_init_410 (by rw [e66]; rfl) (fun H locs hP hD hS => ?_)
  refine lv_aload_n hx hb dX12_init_411 rfl (lv_at hl 0 rfl) ?_
  refine k_get (v := .ref (a0 11)) C fg_X12_47 hP 0 rfl rfl dX12_init_412 ?_
  refine lv_bipush (v := (22 : Int32)) hx hb dX12_init_415 (by decide) ?_
  refine lv_ldc2 (v := (129117309725804 : Int64)) hx hb hown (hts _ kL_X12_152) dX12_init_417 ?_
  obtain ⟨h67, hF⟩ := op_ck hF
  obtain ⟨U68, e69, hF⟩ := nw_s hF
  refine k_lst (f := U65.2.2.2 10) (W8 := fl [g12 q o0 a0 U68]) C hP hD hS 6 rfl h67 dX12_init_420 (by rw [e69]; rfl) (fun H locs hP hD hS => ?_)
  refine lv_aload_n hx hb dX12_init_421 rfl (lv_at hl 0 rfl) ?_
  refine k_get (v := .ref (a0 11)) C fg_X12_47 hP 0 rfl rfl dX12_init_422 ?_
  refine lv_bipush (v := (23 : Int32)) hx hb dX12_init_425 (by decide) ?_
  refine lv_ldc2 (v := (6578553 : Int64)) hx hb hown (hts _ kL_X12_154) dX12_init_427 ?_
  obtain ⟨h70, hF⟩ := op_ck hF
  obtain ⟨U71, e72, hF⟩ := nw_s hF
  refine k_lst (f := U68.2.2.2 10) (W8 := fl [g12 q o0 a0 U71]) C hP hD hS 6 rfl h70 dX12_init_430 (by rw [e72]; rfl) (fun H locs hP hD hS => ?_)
  refine lv_aload_n hx hb dX12_init_431 rfl (lv_at hl 0 rfl) ?_
  refine k_get (v := .ref (a0 11)) C fg_X12_47 hP 0 rfl rfl dX12_init_432 ?_
  refine lv_bipush (v := (24 : Int32)) hx hb dX12_init_435 (by decide) ?_
  refine lv_ldc2 (v := (28530 : Int64)) hx hb hown (hts _ kL_X12_156) dX12_init_437 ?_
  obtain ⟨h73, hF⟩ := op_ck hF
  obtain ⟨U74, e75, hF⟩ := nw_s hF
  refine k_lst (f := U71.2.2.2 10) (W8 := fl [g12 q o0 a0 U74]) C hP hD hS 6 rfl h73 dX12_init_440 (by rw [e75]; rfl) (fun H locs hP hD hS => ?_)
  refine lv_aload_n hx hb dX12_init_441 rfl (lv_at hl 0 rfl) ?_
  refine k_get (v := .ref (a0 11)) C fg_X12_47 hP 0 rfl rfl dX12_init_442 ?_
  refine lv_bipush (v := (25 : Int32)) hx hb dX12_init_445 (by decide) ?_
  refine lv_ldc2 (v := (6385252 : Int64)) hx hb hown (hts _ kL_X12_158) dX12_init_447 ?_
  obtain ⟨h76, hF⟩ := op_ck hF
  obtain ⟨U77, e78, hF⟩ := nw_s hF
  refine k_lst (f := U74.2.2.2 10) (W8 := fl [g12 q o0 a0 U77]) C hP hD hS 6 rfl h76 dX12_init_450 (by rw [e78]; rfl) (fun H locs hP hD hS => ?_)
  refine lv_aload_n hx hb dX12_init_451 rfl (lv_at hl 0 rfl) ?_
  refine k_get (v := .ref (a0 11)) C fg_X12_47 hP 0 rfl rfl dX12_init_452 ?_
  refine lv_bipush (v := (26 : Int32)) hx hb dX12_init_455 (by decide) ?_
  refine lv_ldc2 (v := (7237492 : Int64)) hx hb hown (hts _ kL_X12_160) dX12_init_457 ?_
  obtain ⟨h79, hF⟩ := op_ck hF
  obtain ⟨U80, e81, hF⟩ := nw_s hF
  refine k_lst (f := U77.2.2.2 10) (W8 := fl [g12 q o0 a0 U80]) C hP hD hS 6 rfl h79 dX12_init_460 (by rw [e81]; rfl) (fun H locs hP hD hS => ?_)
  refine lv_aload_n hx hb dX12_init_461 rfl (lv_at hl 0 rfl) ?_
  refine k_get (v := .ref (a0 11)) C fg_X12_47 hP 0 rfl rfl dX12_init_462 ?_
  refine lv_bipush (v := (27 : Int32)) hx hb dX12_init_465 (by decide) ?_
  refine lv_ldc2 (v := (30064 : Int64)) hx hb hown (hts _ kL_X12_162) dX12_init_467 ?_
  obtain ⟨h82, hF⟩ := op_ck hF
  obtain ⟨U83, e84, hF⟩ := nw_s hF
  refine k_lst (f := U80.2.2.2 10) (W8 := fl [g12 q o0 a0 U83]) C hP hD hS 6 rfl h82 dX12_init_470 (by rw [e84]; rfl) (fun H locs hP hD hS => ?_)
  refine lv_aload_n hx hb dX12_init_471 rfl (lv_at hl 0 rfl) ?_
  refine k_get (v := .ref (a0 11)) C fg_X12_47 hP 0 rfl rfl dX12_init_472 ?_
  refine lv_bipush (v := (28 : Int32)) hx hb dX12_init_475 (by decide) ?_
  refine lv_ldc2 (v := (1835625572 : Int64)) hx hb hown (hts _ kL_X12_164) dX12_init_477 ?_
  obtain ⟨h85, hF⟩ := op_ck hF
  obtain ⟨U86, e87, hF⟩ := nw_s hF
  refine k_lst (f := U83.2.2.2 10) (W8 := fl [g12 q o0 a0 U86]) C hP hD hS 6 rfl h85 dX12_init_480 (by rw [e87]; rfl) (fun H locs hP hD hS => ?_)
  refine lv_aload_n hx hb dX12_init_481 rfl (lv_at hl 0 rfl) ?_
  refine k_get (v := .ref (a0 11)) C fg_X12_47 hP 0 rfl rfl dX12_init_482 ?_
  refine lv_bipush (v := (29 : Int32)) hx hb dX12_init_485 (by decide) ?_
  refine lv_ldc2 (v := (31644380074042724 : Int64)) hx hb hown (hts _ kL_X12_166) dX12_init_487 ?_
  obtain ⟨h88, hF⟩ := op_ck hF
  obtain ⟨U89, e90, hF⟩ := nw_s hF
  refine k_lst (f := U86.2.2.2 10) (W8 := fl [g12 q o0 a0 U89]) C hP hD hS 6 rfl h88 dX12_init_490 (by rw [e90]; rfl) (fun H locs hP hD hS => ?_)
  refine lv_aload_n hx hb dX12_init_491 rfl (lv_at hl 0 rfl) ?_
  refine k_get (v := .ref (a0 11)) C fg_X12_47 hP 0 rfl rfl dX12_init_492 ?_
  refine lv_bipush (v := (30 : Int32)) hx hb dX12_init_495 (by decide) ?_
  refine lv_ldc2 (v := (6840691 : Int64)) hx hb hown (hts _ kL_X12_168) dX12_init_497 ?_
  obtain ⟨h91, hF⟩ := op_ck hF
  obtain ⟨U92, e93, hF⟩ := nw_s hF
  refine k_lst (f := U89.2.2.2 10) (W8 := fl [g12 q o0 a0 U92]) C hP hD hS 6 rfl h91 dX12_init_500 (by rw [e93]; rfl) (fun H locs hP hD hS => ?_)
  refine lv_aload_n hx hb dX12_init_501 rfl (lv_at hl 0 rfl) ?_
  refine k_get (v := .ref (a0 11)) C fg_X12_47 hP 0 rfl rfl dX12_init_502 ?_
  refine lv_bipush (v := (31 : Int32)) hx hb dX12_init_505 (by decide) ?_
  refine lv_ldc2 (v := (28526 : Int64)) hx hb hown (hts _ kL_X12_170) dX12_init_507 ?_
  obtain ⟨h94, hF⟩ := op_ck hF
  obtain ⟨U95, e96, hF⟩ := nw_s hF
  refine k_lst (f := U92.2.2.2 10) (W8 := fl [g12 q o0 a0 U95]) C hP hD hS 6 rfl h94 dX12_init_510 (by rw [e96]; rfl) (fun H locs hP hD hS => ?_)
  refine lv_aload_n hx hb dX12_init_511 rfl (lv_at hl 0 rfl) ?_
  refine k_get (v := .ref (a0 11)) C fg_X12_47 hP 0 rfl rfl dX12_init_512 ?_
  refine lv_bipush (v := (32 : Int32)) hx hb dX12_init_515 (by decide) ?_
  refine lv_ldc2 (v := (508574398323 : Int64)) hx hb hown (hts _ kL_X12_172) dX12_init_517 ?_
  obtain ⟨h97, hF⟩ := op_ck hF
  obtain ⟨U98, e99, hF⟩ := nw_s hF
  refine k_lst (f := U95.2.2.2 10) (W8 := fl [g12 q o0 a0 U98]) C hP hD hS 6 rfl h97 dX12_init_520 (by rw [e99]; rfl) (fun H locs hP hD hS => ?_)
  refine lv_aload_n hx hb dX12_init_521 rfl (lv_at hl 0 rfl) ?_
  refine k_get (v := .ref (a0 11)) C fg_X12_47 hP 0 rfl rfl dX12_init_522 ?_
  refine lv_bipush (v := (33 : Int32)) hx hb dX12_init_525 (by decide) ?_
  refine lv_ldc2 (v := (474148402789 : Int64)) hx hb hown (hts _ kL_X12_174) dX12_init_527 ?_
  obtain ⟨h100, hF⟩ := op_ck hF
  obtain ⟨U101, e102, hF⟩ := nw_s hF
  refine k_lst (f := U98.2.2.2 10) (W8 := fl [g12 q o0 a0 U101]) C hP hD hS 6 rfl h100 dX12_init_530 (by rw [e102]; rfl) (fun H locs hP hD hS => ?_)
  refine lv_aload_n hx hb dX12_init_531 rfl (lv_at hl 0 rfl) ?_
  refine k_get (v := .ref (a0 11)) C fg_X12_47 hP 0 rfl rfl dX12_init_532 ?_
  refine lv_bipush (v := (34 : Int32)) hx hb dX12_init_535 (by decide) ?_
  refine lv_ldc2 (v := (27985222756885860 : Int64)) hx hb hown (hts _ kL_X12_176) dX12_init_537 ?_
  obtain ⟨h103, hF⟩ := op_ck hF
  obtain ⟨U104, e105, hF⟩ := nw_s hF
  refine k_lst (f := U101.2.2.2 10) (W8 := fl [g12 q o0 a0 U104]) C hP hD hS 6 rfl h103 dX12_init_540 (by rw [e105]; rfl) (fun H locs hP hD hS => ?_)
  refine lv_aload_n hx hb dX12_init_541 rfl (lv_at hl 0 rfl) ?_
  refine k_get (v := .ref (a0 11)) C fg_X12_47 hP 0 rfl rfl dX12_init_542 ?_
  refine lv_bipush (v := (35 : Int32)) hx hb dX12_init_545 (by decide) ?_
  refine lv_ldc2 (v := (121450625394034 : Int64)) hx hb hown (hts _ kL_X12_178) dX12_init_547 ?_
  obtain ⟨h106, hF⟩ := op_ck hF
  obtain ⟨U107, e108, hF⟩ := nw_s hF
  refine k_lst (f := U104.2.2.2 10) (W8 := fl [g12 q o0 a0 U107]) C hP hD hS 6 rfl h106 dX12_init_550 (by rw [e108]; rfl) (fun H locs hP hD hS => ?_)
  refine lv_aload_n hx hb dX12_init_551 rfl (lv_at hl 0 rfl) ?_
  obtain ⟨U110, hc109, hF⟩ := ob1_s hF
  refine k_vallC C (k_rV (As := []) (rest := []) C (c_X12_clears l D q o0 a0 U107 _ hc109) kc_X12_clears ml_X12_180 rfl rfl (by decide) hP hD hS (va_recv hK hP (ci := 12) (q0 := 0) rfl rfl) rfl hl.1 rfl (Nat.le_of_ble_eq_true rfl) dX12_init_552 (by decide)) hP hD hS (by simp only [List.map_cons, List.map_nil, gad12]) (fun H locs hP hD hS => ?_)
  refine lv_iconst (v := (0 : Int32)) hx hb dX12_init_555 (by decide) ?_
  refine lv_istore_n (lv' := [(1, .int (0 : Int32)), (0, .ref o0)]) hx hb dX12_init_556 rfl hl (by decide) rfl (fun ls hl => ?_)
  exact l_X12_init_557 C hF _ _ _ hP hD hS (lv_sub hl [1, 0] rfl)

