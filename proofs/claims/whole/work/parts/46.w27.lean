abbrev rm_X12_day : Room := ({ frames := 0, cells := 0, slots := 0, locals := 0 } : Room)
def F_X12_day_2 (k2 : Int32 × St → Option (St)) (x1 : Int32) (S0 : St) : Option (St) := if oob (0 : Int32) 258 then none else if (S0.2.2.1 6 (0 : Int32).toNatClampNeg) ≤ x1 then (if oob (42 : Int32) 258 then none else if oob (42 : Int32) 258 then none else nw (sA S0 6 (42 : Int32) ((S0.2.2.1 6 (42 : Int32).toNatClampNeg) + (1 : Int32))) fun U5 => some (U5)) else (if oob ((45 : Int32) + x1) 258 then none else if oob (23 : Int32) 258 then none else if oob ((45 : Int32) + x1) 258 then none else nw (sA S0 6 ((45 : Int32) + x1) (((S0.2.2.1 6 ((45 : Int32) + x1).toNatClampNeg) + (((S0.2.2.1 6 (23 : Int32).toNatClampNeg) >>> (x1 &&& 31)) &&& (1 : Int32))) &&& (7 : Int32))) fun U10 => k2 ((x1 + 1), U10))
def L_X12_day_2 (x1 : Int32) (S0 : St) : Option (St) := lp (fun kz z => F_X12_day_2 kz z.1 z.2) FU (x1, S0)
def F_X12_day (S0 : St) : Option (St) := L_X12_day_2 (0 : Int32) S0
set_option maxRecDepth 100000 in
set_option maxHeartbeats 4000000 in
theorem b_X12_day_2 {p : Program} {l : Launch} {e : Env} {s : State} {m : MethodId} {args : Array Value} {below : List Frame} {meth : Method} {c : Code} {D : va_G} {q : Nat → ClassId} {A : Nat → Prop} {o0 : Nat} {a0 : Nat → Nat} {T0 : St} (C : cx p s m args meth c cX12_day 2 none RX12 D q A) {k2 : Int32 × St → Option (St)} (hk2 : ∀ (x1 : Int32) (S0 : St), k2 (x1, S0) = some (T0) → ∀ (H : Heap) (locs : List Loc) (ls : Array Slot), va_P D vwCl (g12 q o0 a0 S0) H → va_D A (g12 q o0 a0 S0) → va_S A s.heap H locs → lv_has ls 2 [(0, .ref o0), (1, .int x1)] → W p l e rm_X12_day s m args below meth c H locs 0 0 (MQ below (QV D A (g12 q o0 a0 T0)) args s 0 0 A) (F0 m 2 ls [])) {x1 : Int32} {S0 : St} (hF : F_X12_day_2 k2 x1 S0 = some (T0)) {H : Heap} {locs : List Loc} (hP : va_P D vwCl (g12 q o0 a0 S0) H) (hD : va_D A (g12 q o0 a0 S0)) (hS : va_S A s.heap H locs) {ls : Array Slot} (hl : lv_has ls 2 [(0, .ref o0), (1, .int x1)]) : W p l e rm_X12_day s m args below meth c H locs 0 0 (MQ below (QV D A (g12 q o0 a0 T0)) args s 0 0 A) (F0 m 2 ls []) := by
  unfold F_X12_day_2 at hF
  obtain ⟨hx, hb, hr, hml, hown, hts, hlk, hA, hK, hN, hV⟩ := id C
  refine lv_iload_n hx hb dX12_day_2 rfl (lv_at hl 1 rfl) ?_
  refine lv_aload_n hx hb dX12_day_3 rfl (lv_at hl 0 rfl) ?_
  refine k_get (v := .ref (a0 7)) C fg_X12_33 hP 0 rfl rfl dX12_day_4 ?_
  refine lv_iconst (v := (0 : Int32)) hx hb dX12_day_7 (by decide) ?_
  obtain ⟨h1, hF⟩ := op_ck hF
  refine k_ild (f := S0.2.2.1 6) C hP 2 rfl h1 dX12_day_8 ?_
  refine lv_icmp_ge (tgt := 51) hx hb dX12_day_9 (by decide) (fun c2 => ?_) (fun c2 => ?_)
  · have hF := op_t hF c2
    refine lv_aload_n hx hb dX12_day_51 rfl (lv_at hl 0 rfl) ?_
    refine k_get (v := .ref (a0 7)) C fg_X12_33 hP 0 rfl rfl dX12_day_52 ?_
    refine lv_bipush (v := (42 : Int32)) hx hb dX12_day_55 (by decide) ?_
    refine lv_dup2_11 hx hb dX12_day_57 rfl rfl ?_
    obtain ⟨h3, hF⟩ := op_ck hF
    refine k_ild (f := S0.2.2.1 6) C hP 2 rfl h3 dX12_day_58 ?_
    refine lv_iconst (v := (1 : Int32)) hx hb dX12_day_59 (by decide) ?_
    refine lv_iadd hx hb dX12_day_60 ?_
    obtain ⟨h4, hF⟩ := op_ck hF
    obtain ⟨U5, e6, hF⟩ := nw_s hF
    refine k_ist (f := S0.2.2.1 6) (W8 := g12 q o0 a0 U5) C hP hD hS 2 rfl h4 dX12_day_61 (by rw [e6]; rfl) (fun H locs hP hD hS => ?_)
    cases hF
    exact k_vret C hP hS dX12_day_62
  · have hF := op_f hF c2
    refine lv_aload_n hx hb dX12_day_12 rfl (lv_at hl 0 rfl) ?_
    refine k_get (v := .ref (a0 7)) C fg_X12_33 hP 0 rfl rfl dX12_day_13 ?_
    refine lv_bipush (v := (45 : Int32)) hx hb dX12_day_16 (by decide) ?_
    refine lv_iload_n hx hb dX12_day_18 rfl (lv_at hl 1 rfl) ?_
    refine lv_iadd hx hb dX12_day_19 ?_
    refine lv_aload_n hx hb dX12_day_20 rfl (lv_at hl 0 rfl) ?_
    refine k_get (v := .ref (a0 7)) C fg_X12_33 hP 0 rfl rfl dX12_day_21 ?_
    refine lv_bipush (v := (45 : Int32)) hx hb dX12_day_24 (by decide) ?_
    refine lv_iload_n hx hb dX12_day_26 rfl (lv_at hl 1 rfl) ?_
    refine lv_iadd hx hb dX12_day_27 ?_
    obtain ⟨h7, hF⟩ := op_ck hF
    refine k_ild (f := S0.2.2.1 6) C hP 2 rfl h7 dX12_day_28 ?_
    refine lv_aload_n hx hb dX12_day_29 rfl (lv_at hl 0 rfl) ?_
    refine k_get (v := .ref (a0 7)) C fg_X12_33 hP 0 rfl rfl dX12_day_30 ?_
    refine lv_bipush (v := (23 : Int32)) hx hb dX12_day_33 (by decide) ?_
    obtain ⟨h8, hF⟩ := op_ck hF
    refine k_ild (f := S0.2.2.1 6) C hP 2 rfl h8 dX12_day_35 ?_
    refine lv_iload_n hx hb dX12_day_36 rfl (lv_at hl 1 rfl) ?_
    refine lv_ishr hx hb dX12_day_37 ?_
    refine lv_iconst (v := (1 : Int32)) hx hb dX12_day_38 (by decide) ?_
    refine lv_iand hx hb dX12_day_39 ?_
    refine lv_iadd hx hb dX12_day_40 ?_
    refine lv_bipush (v := (7 : Int32)) hx hb dX12_day_41 (by decide) ?_
    refine lv_iand hx hb dX12_day_43 ?_
    obtain ⟨h9, hF⟩ := op_ck hF
    obtain ⟨U10, e11, hF⟩ := nw_s hF
    refine k_ist (f := S0.2.2.1 6) (W8 := g12 q o0 a0 U10) C hP hD hS 2 rfl h9 dX12_day_44 (by rw [e11]; rfl) (fun H locs hP hD hS => ?_)
    refine lv_iinc (v := (x1 + 1)) (lv' := [(1, .int (x1 + 1)), (0, .ref o0)]) hx hb dX12_day_45 hl (k := 1) rfl rfl (by decide) rfl (fun ls hl => ?_)
    refine lv_goto (tgt := 2) hx hb dX12_day_48 (by decide) ?_
    exact hk2 (x1 + 1) U10 hF _ _ _ hP hD hS (lv_sub hl [1, 0] rfl)
set_option maxRecDepth 100000 in
set_option maxHeartbeats 4000000 in
theorem l_X12_day_2 {p : Program} {l : Launch} {e : Env} {s : State} {m : MethodId} {args : Array Value} {below : List Frame} {meth : Method} {c : Code} {D : va_G} {q : Nat → ClassId} {A : Nat → Prop} {o0 : Nat} {a0 : Nat → Nat} {T0 : St} (C : cx p s m args meth c cX12_day 2 none RX12 D q A) {x1 : Int32} {S0 : St} (hF : L_X12_day_2 x1 S0 = some (T0)) : ∀ (H : Heap) (locs : List Loc) (ls : Array Slot), va_P D vwCl (g12 q o0 a0 S0) H → va_D A (g12 q o0 a0 S0) → va_S A s.heap H locs → lv_has ls 2 [(0, .ref o0), (1, .int x1)] → W p l e rm_X12_day s m args below meth c H locs 0 0 (MQ below (QV D A (g12 q o0 a0 T0)) args s 0 0 A) (F0 m 2 ls []) :=
  lp_G _ _ (fun z => ∀ (H : Heap) (locs : List Loc) (ls : Array Slot), va_P D vwCl (g12 q o0 a0 z.2) H → va_D A (g12 q o0 a0 z.2) → va_S A s.heap H locs → lv_has ls 2 [(0, .ref o0), (1, .int z.1)] → W p l e rm_X12_day s m args below meth c H locs 0 0 (MQ below (QV D A (g12 q o0 a0 T0)) args s 0 0 A) (F0 m 2 ls [])) (fun kz hkz z hz H locs ls hP hD hS hl => b_X12_day_2 C (fun x1 S0 hz => hkz (x1, S0) hz) hz hP hD hS hl) FU (x1, S0) hF
set_option maxRecDepth 100000 in
set_option maxHeartbeats 4000000 in
theorem c_X12_day (l : Launch) (D : va_G) (q : Nat → ClassId) (o0 : Nat) (a0 : Nat → Nat) (S0 : St) (sz : Nat) {T0 : St} (hF : F_X12_day S0 = some (T0)) : Met l yX12_day (Cond.code yX12_day cX12_day 2 none :: TB) rm_X12_day (PC D q [.ref o0] (g12 q o0 a0 S0) sz) ((fun A => QV D A (g12 q o0 a0 T0)) (va_A (g12 q o0 a0 S0) sz)) 0 0 (va_A (g12 q o0 a0 S0) sz) := by
  refine k_met (w0 := g12 q o0 a0 S0) (Q := fun A => QV D A (g12 q o0 a0 T0)) (by decide +kernel) (Nat.le_of_ble_eq_true rfl) ?_
  intro p e s m args below meth c A ls C hP hD hS hl
  have hl : lv_has ls 2 [(0, .ref o0)] := hl
  unfold F_X12_day at hF
  have C : cx p s m args meth c cX12_day 2 none RX12 D q A := C
  obtain ⟨hx, hb, hr, hml, hown, hts, hlk, hA, hK, hN, hV⟩ := id C
  refine lv_iconst (v := (0 : Int32)) hx hb dX12_day_0 (by decide) ?_
  refine lv_istore_n (lv' := [(1, .int (0 : Int32)), (0, .ref o0)]) hx hb dX12_day_1 rfl hl (by decide) rfl (fun ls hl => ?_)
  exact l_X12_day_2 C hF _ _ _ hP hD hS (lv_sub hl [1, 0] rfl)

abbrev rm_X12_goesOn : Room := ({ frames := 1, cells := 0, slots := 0, locals := 21 } : Room)
def F_X12_goesOn_2 (k2 : Int32 × Int32 × St → Option (Int32 × St)) (x1 : Int32) (x2 : Int32) (S0 : St) : Option (Int32 × St) := if x1 ≤ x2 then (some (x2, S0)) else (if oob (42 : Int32) 258 then none else if (400 : Int32) ≤ (S0.2.2.1 6 (42 : Int32).toNatClampNeg) then (some (x2, S0)) else (ob1 (F_X12_day S0) fun U5 => k2 (x1, (x2 + 1), U5)))
def L_X12_goesOn_2 (x1 : Int32) (x2 : Int32) (S0 : St) : Option (Int32 × St) := lp (fun kz z => F_X12_goesOn_2 kz z.1 z.2.1 z.2.2) FU (x1, x2, S0)
def F_X12_goesOn (S0 : St) (x1 : Int32) : Option (Int32 × St) := L_X12_goesOn_2 x1 (0 : Int32) S0
set_option maxRecDepth 100000 in
set_option maxHeartbeats 4000000 in
theorem b_X12_goesOn_2 {p : Program} {l : Launch} {e : Env} {s : State} {m : MethodId} {args : Array Value} {below : List Frame} {meth : Method} {c : Code} {D : va_G} {q : Nat → ClassId} {A : Nat → Prop} {o0 : Nat} {a0 : Nat → Nat} {r : Int32} {T0 : St} (C : cx p s m args meth c cX12_goesOn 3 (some .int) RX12 D q A) {k2 : Int32 × Int32 × St → Option (Int32 × St)} (hk2 : ∀ (x1 : Int32) (x2 : Int32) (S0 : St), k2 (x1, x2, S0) = some (r, T0) → ∀ (H : Heap) (locs : List Loc) (ls : Array Slot), va_P D vwCl (g12 q o0 a0 S0) H → va_D A (g12 q o0 a0 S0) → va_S A s.heap H locs → lv_has ls 3 [(0, .ref o0), (1, .int x1), (2, .int x2)] → W p l e rm_X12_goesOn s m args below meth c H locs 0 0 (MQ below (QI D A r (g12 q o0 a0 T0)) args s 0 0 A) (F0 m 2 ls [])) {x1 : Int32} {x2 : Int32} {S0 : St} (hF : F_X12_goesOn_2 k2 x1 x2 S0 = some (r, T0)) {H : Heap} {locs : List Loc} (hP : va_P D vwCl (g12 q o0 a0 S0) H) (hD : va_D A (g12 q o0 a0 S0)) (hS : va_S A s.heap H locs) {ls : Array Slot} (hl : lv_has ls 3 [(0, .ref o0), (1, .int x1), (2, .int x2)]) : W p l e rm_X12_goesOn s m args below meth c H locs 0 0 (MQ below (QI D A r (g12 q o0 a0 T0)) args s 0 0 A) (F0 m 2 ls []) := by
  unfold F_X12_goesOn_2 at hF
  obtain ⟨hx, hb, hr, hml, hown, hts, hlk, hA, hK, hN, hV⟩ := id C
  refine lv_iload_n hx hb dX12_goesOn_2 rfl (lv_at hl 2 rfl) ?_
  refine lv_iload_n hx hb dX12_goesOn_3 rfl (lv_at hl 1 rfl) ?_
  refine lv_icmp_ge (tgt := 30) hx hb dX12_goesOn_4 (by decide) (fun c1 => ?_) (fun c1 => ?_)
  · have hF := op_t hF c1
    refine lv_iload_n hx hb dX12_goesOn_30 rfl (lv_at hl 2 rfl) ?_
    cases hF
    exact k_iret C hP hS dX12_goesOn_31
  · have hF := op_f hF c1
    refine lv_aload_n hx hb dX12_goesOn_7 rfl (lv_at hl 0 rfl) ?_
    refine k_get (v := .ref (a0 7)) C fg_X12_33 hP 0 rfl rfl dX12_goesOn_8 ?_
    refine lv_bipush (v := (42 : Int32)) hx hb dX12_goesOn_11 (by decide) ?_
    obtain ⟨h2, hF⟩ := op_ck hF
    refine k_ild (f := S0.2.2.1 6) C hP 2 rfl h2 dX12_goesOn_13 ?_
    refine lv_sipush (v := (400 : Int32)) hx hb dX12_goesOn_14 (by decide) ?_
    refine lv_icmp_ge (tgt := 30) hx hb dX12_goesOn_17 (by decide) (fun c3 => ?_) (fun c3 => ?_)
    · have hF := op_t hF c3
      refine lv_iload_n hx hb dX12_goesOn_30 rfl (lv_at hl 2 rfl) ?_
      cases hF
      exact k_iret C hP hS dX12_goesOn_31
    · have hF := op_f hF c3
      refine lv_aload_n hx hb dX12_goesOn_20 rfl (lv_at hl 0 rfl) ?_
      obtain ⟨U5, hc4, hF⟩ := ob1_s hF
      refine k_vall C (k_rV (As := []) (rest := []) C (c_X12_day l D q o0 a0 S0 _ hc4) kc_X12_day ml_X12_349 rfl rfl (by decide) hP hD hS (va_recv hK hP (ci := 12) (q0 := 0) rfl rfl) rfl hl.1 rfl (Nat.le_of_ble_eq_true rfl) dX12_goesOn_21 (by decide)) hP hD hS ((gad12 q o0 a0 U5).trans (gad12 q o0 a0 S0).symm) (fun H locs hP hD hS => ?_)
      refine lv_iinc (v := (x2 + 1)) (lv' := [(2, .int (x2 + 1)), (0, .ref o0), (1, .int x1)]) hx hb dX12_goesOn_24 hl (k := 2) rfl rfl (by decide) rfl (fun ls hl => ?_)
      refine lv_goto (tgt := 2) hx hb dX12_goesOn_27 (by decide) ?_
      exact hk2 x1 (x2 + 1) U5 hF _ _ _ hP hD hS (lv_sub hl [1, 2, 0] rfl)
set_option maxRecDepth 100000 in
set_option maxHeartbeats 4000000 in
theorem l_X12_goesOn_2 {p : Program} {l : Launch} {e : Env} {s : State} {m : MethodId} {args : Array Value} {below : List Frame} {meth : Method} {c : Code} {D : va_G} {q : Nat → ClassId} {A : Nat → Prop} {o0 : Nat} {a0 : Nat → Nat} {r : Int32} {T0 : St} (C : cx p s m args meth c cX12_goesOn 3 (some .int) RX12 D q A) {x1 : Int32} {x2 : Int32} {S0 : St} (hF : L_X12_goesOn_2 x1 x2 S0 = some (r, T0)) : ∀ (H : Heap) (locs : List Loc) (ls : Array Slot), va_P D vwCl (g12 q o0 a0 S0) H → va_D A (g12 q o0 a0 S0) → va_S A s.heap H locs → lv_has ls 3 [(0, .ref o0), (1, .int x1), (2, .int x2)] → W p l e rm_X12_goesOn s m args below meth c H locs 0 0 (MQ below (QI D A r (g12 q o0 a0 T0)) args s 0 0 A) (F0 m 2 ls []) :=
  lp_G _ _ (fun z => ∀ (H : Heap) (locs : List Loc) (ls : Array Slot), va_P D vwCl (g12 q o0 a0 z.2.2) H → va_D A (g12 q o0 a0 z.2.2) → va_S A s.heap H locs → lv_has ls 3 [(0, .ref o0), (1, .int z.1), (2, .int z.2.1)] → W p l e rm_X12_goesOn s m args below meth c H locs 0 0 (MQ below (QI D A r (g12 q o0 a0 T0)) args s 0 0 A) (F0 m 2 ls [])) (fun kz hkz z hz H locs ls hP hD hS hl => b_X12_goesOn_2 C (fun x1 x2 S0 hz => hkz (x1, x2, S0) hz) hz hP hD hS hl) FU (x1, x2, S0) hF
set_option maxRecDepth 100000 in
set_option maxHeartbeats 4000000 in
theorem c_X12_goesOn (l : Launch) (D : va_G) (q : Nat → ClassId) (o0 : Nat) (a0 : Nat → Nat) (S0 : St) (sz : Nat) (x1 : Int32) {r : Int32} {T0 : St} (hF : F_X12_goesOn S0 x1 = some (r, T0)) : Met l yX12_goesOn (Cond.code yX12_goesOn cX12_goesOn 3 (some .int) :: TB) rm_X12_goesOn (PC D q [.ref o0, .int x1] (g12 q o0 a0 S0) sz) ((fun A => QI D A r (g12 q o0 a0 T0)) (va_A (g12 q o0 a0 S0) sz)) 0 0 (va_A (g12 q o0 a0 S0) sz) := by
  refine k_met (w0 := g12 q o0 a0 S0) (Q := fun A => QI D A r (g12 q o0 a0 T0)) (by decide +kernel) (Nat.le_of_ble_eq_true rfl) ?_
  intro p e s m args below meth c A ls C hP hD hS hl
  have hl : lv_has ls 3 [(0, .ref o0), (1, .int x1)] := hl
  unfold F_X12_goesOn at hF
  have C : cx p s m args meth c cX12_goesOn 3 (some .int) RX12 D q A := C
  obtain ⟨hx, hb, hr, hml, hown, hts, hlk, hA, hK, hN, hV⟩ := id C
  refine lv_iconst (v := (0 : Int32)) hx hb dX12_goesOn_0 (by decide) ?_
  refine lv_istore_n (lv' := [(2, .int (0 : Int32)), (0, .ref o0), (1, .int x1)]) hx hb dX12_goesOn_1 rfl hl (by decide) rfl (fun ls hl => ?_)
  exact l_X12_goesOn_2 C hF _ _ _ hP hD hS (lv_sub hl [1, 2, 0] rfl)

abbrev rm_X12_keep : Room := ({ frames := 0, cells := 0, slots := 0, locals := 0 } : Room)
def F_X12_keep_47 (k47 : Int32 × St → Option (St)) (x1 : Int32) (S0 : St) : Option (St) := if (35 : Int32) ≤ x1 then (nw (sI S0 22 ((S0.1 22) + (1 : Int32))) fun U2 => some (U2)) else (if oob ((42 : Int32) + x1) 258 then none else if oob (((35 : Int32) * (S0.1 22)) + x1) 280 then none else nw (sA S0 20 (((35 : Int32) * (S0.1 22)) + x1) (S0.2.2.1 6 ((42 : Int32) + x1).toNatClampNeg)) fun U6 => k47 ((x1 + 1), U6))
def L_X12_keep_47 (x1 : Int32) (S0 : St) : Option (St) := lp (fun kz z => F_X12_keep_47 kz z.1 z.2) FU (x1, S0)
def F_X12_keep_45 (S0 : St) : Option (St) := L_X12_keep_47 (0 : Int32) S0
def F_X12_keep_11 (k11 : Int32 × St → Option (St)) (x1 : Int32) (S0 : St) : Option (St) := if (245 : Int32) ≤ x1 then (nw (sI S0 22 (7 : Int32)) fun U2 => F_X12_keep_45 U2) else (if oob (x1 + (35 : Int32)) 280 then none else if oob x1 280 then none else nw (sA S0 20 x1 (S0.2.2.1 20 (x1 + (35 : Int32)).toNatClampNeg)) fun U6 => k11 ((x1 + 1), U6))
def L_X12_keep_11 (x1 : Int32) (S0 : St) : Option (St) := lp (fun kz z => F_X12_keep_11 kz z.1 z.2) FU (x1, S0)
def F_X12_keep (S0 : St) : Option (St) := if (S0.1 22) = (8 : Int32) then (L_X12_keep_11 (0 : Int32) S0) else (F_X12_keep_45 S0)
set_option maxRecDepth 100000 in
set_option maxHeartbeats 4000000 in
theorem b_X12_keep_47 {p : Program} {l : Launch} {e : Env} {s : State} {m : MethodId} {args : Array Value} {below : List Frame} {meth : Method} {c : Code} {D : va_G} {q : Nat → ClassId} {A : Nat → Prop} {o0 : Nat} {a0 : Nat → Nat} {T0 : St} (C : cx p s m args meth c cX12_keep 2 none RX12 D q A) {k47 : Int32 × St → Option (St)} (hk47 : ∀ (x1 : Int32) (S0 : St), k47 (x1, S0) = some (T0) → ∀ (H : Heap) (locs : List Loc) (ls : Array Slot), va_P D vwCl (g12 q o0 a0 S0) H → va_D A (g12 q o0 a0 S0) → va_S A s.heap H locs → lv_has ls 2 [(0, .ref o0), (1, .int x1)] → W p l e rm_X12_keep s m args below meth c H locs 0 0 (MQ below (QV D A (g12 q o0 a0 T0)) args s 0 0 A) (F0 m 47 ls [])) {x1 : Int32} {S0 : St} (hF : F_X12_keep_47 k47 x1 S0 = some (T0)) {H : Heap} {locs : List Loc} (hP : va_P D vwCl (g12 q o0 a0 S0) H) (hD : va_D A (g12 q o0 a0 S0)) (hS : va_S A s.heap H locs) {ls : Array Slot} (hl : lv_has ls 2 [(0, .ref o0), (1, .int x1)]) : W p l e rm_X12_keep s m args below meth c H locs 0 0 (MQ below (QV D A (g12 q o0 a0 T0)) args s 0 0 A) (F0 m 47 ls []) := by
  unfold F_X12_keep_47 at hF
  obtain ⟨hx, hb, hr, hml, hown, hts, hlk, hA, hK, hN, hV⟩ := id C
  refine lv_iload_n hx hb dX12_keep_47 rfl (lv_at hl 1 rfl) ?_
  refine lv_bipush (v := (35 : Int32)) hx hb dX12_keep_48 (by decide) ?_
  refine lv_icmp_ge (tgt := 82) hx hb dX12_keep_50 (by decide) (fun c1 => ?_) (fun c1 => ?_)
  · have hF := op_t hF c1
    refine lv_aload_n hx hb dX12_keep_82 rfl (lv_at hl 0 rfl) ?_
    refine lv_dup hx hb dX12_keep_83 rfl ?_
    refine k_get (v := .int (S0.1 22)) C fg_X12_290 hP 0 rfl rfl dX12_keep_84 ?_
    refine lv_iconst (v := (1 : Int32)) hx hb dX12_keep_87 (by decide) ?_
    refine lv_iadd hx hb dX12_keep_88 ?_
    obtain ⟨U2, e3, hF⟩ := nw_s hF
    refine k_put (W8 := g12 q o0 a0 U2) C fp_X12_290 hP hD hS 0 rfl rfl rfl (Nat.le_of_ble_eq_true rfl) dX12_keep_89 (by rw [e3]; rfl) (fun H locs hP hD hS => ?_)
    cases hF
    exact k_vret C hP hS dX12_keep_92
  · have hF := op_f hF c1
    refine lv_aload_n hx hb dX12_keep_53 rfl (lv_at hl 0 rfl) ?_
    refine k_get (v := .ref (a0 21)) C fg_X12_50 hP 0 rfl rfl dX12_keep_54 ?_
    refine lv_bipush (v := (35 : Int32)) hx hb dX12_keep_57 (by decide) ?_
    refine lv_aload_n hx hb dX12_keep_59 rfl (lv_at hl 0 rfl) ?_
    refine k_get (v := .int (S0.1 22)) C fg_X12_290 hP 0 rfl rfl dX12_keep_60 ?_
    refine lv_imul hx hb dX12_keep_63 ?_
    refine lv_iload_n hx hb dX12_keep_64 rfl (lv_at hl 1 rfl) ?_
    refine lv_iadd hx hb dX12_keep_65 ?_
    refine lv_aload_n hx hb dX12_keep_66 rfl (lv_at hl 0 rfl) ?_
    refine k_get (v := .ref (a0 7)) C fg_X12_33 hP 0 rfl rfl dX12_keep_67 ?_
    refine lv_bipush (v := (42 : Int32)) hx hb dX12_keep_70 (by decide) ?_
    refine lv_iload_n hx hb dX12_keep_72 rfl (lv_at hl 1 rfl) ?_
    refine lv_iadd hx hb dX12_keep_73 ?_
    obtain ⟨h4, hF⟩ := op_ck hF
    refine k_ild (f := S0.2.2.1 6) C hP 2 rfl h4 dX12_keep_74 ?_
    obtain ⟨h5, hF⟩ := op_ck hF
    obtain ⟨U6, e7, hF⟩ := nw_s hF
    refine k_ist (f := S0.2.2.1 20) (W8 := g12 q o0 a0 U6) C hP hD hS 7 rfl h5 dX12_keep_75 (by rw [e7]; rfl) (fun H locs hP hD hS => ?_)
    refine lv_iinc (v := (x1 + 1)) (lv' := [(1, .int (x1 + 1)), (0, .ref o0)]) hx hb dX12_keep_76 hl (k := 1) rfl rfl (by decide) rfl (fun ls hl => ?_)
    refine lv_goto (tgt := 47) hx hb dX12_keep_79 (by decide) ?_
    exact hk47 (x1 + 1) U6 hF _ _ _ hP hD hS (lv_sub hl [1, 0] rfl)
set_option maxRecDepth 100000 in
set_option maxHeartbeats 4000000 in
theorem l_X12_keep_47 {p : Program} {l : Launch} {e : Env} {s : State} {m : MethodId} {args : Array Value} {below : List Frame} {meth : Method} {c : Code} {D : va_G} {q : Nat → ClassId} {A : Nat → Prop} {o0 : Nat} {a0 : Nat → Nat} {T0 : St} (C : cx p s m args meth c cX12_keep 2 none RX12 D q A) {x1 : Int32} {S0 : St} (hF : L_X12_keep_47 x1 S0 = some (T0)) : ∀ (H : Heap) (locs : List Loc) (ls : Array Slot), va_P D vwCl (g12 q o0 a0 S0) H → va_D A (g12 q o0 a0 S0) → va_S A s.heap H locs → lv_has ls 2 [(0, .ref o0), (1, .int x1)] → W p l e rm_X12_keep s m args below meth c H locs 0 0 (MQ below (QV D A (g12 q o0 a0 T0)) args s 0 0 A) (F0 m 47 ls []) :=
  lp_G _ _ (fun z => ∀ (H : Heap) (locs : List Loc) (ls : Array Slot), va_P D vwCl (g12 q o0 a0 z.2) H → va_D A (g12 q o0 a0 z.2) → va_S A s.heap H locs → lv_has ls 2 [(0, .ref o0), (1, .int z.1)] → W p l e rm_X12_keep s m args below meth c H locs 0 0 (MQ below (QV D A (g12 q o0 a0 T0)) args s 0 0 A) (F0 m 47 ls [])) (fun kz hkz z hz H locs ls hP hD hS hl => b_X12_keep_47 C (fun x1 S0 hz => hkz (x1, S0) hz) hz hP hD hS hl) FU (x1, S0) hF
set_option maxRecDepth 100000 in
set_option maxHeartbeats 4000000 in
theorem b_X12_keep_45 {p : Program} {l : Launch} {e : Env} {s : State} {m : MethodId} {args : Array Value} {below : List Frame} {meth : Method} {c : Code} {D : va_G} {q : Nat → ClassId} {A : Nat → Prop} {o0 : Nat} {a0 : Nat → Nat} {T0 : St} (C : cx p s m args meth c cX12_keep 2 none RX12 D q A) {S0 : St} (hF : F_X12_keep_45 S0 = some (T0)) {H : Heap} {locs : List Loc} (hP : va_P D vwCl (g12 q o0 a0 S0) H) (hD : va_D A (g12 q o0 a0 S0)) (hS : va_S A s.heap H locs) {ls : Array Slot} (hl : lv_has ls 2 [(0, .ref o0)]) : W p l e rm_X12_keep s m args below meth c H locs 0 0 (MQ below (QV D A (g12 q o0 a0 T0)) args s 0 0 A) (F0 m 45 ls []) := by
  unfold F_X12_keep_45 at hF
  obtain ⟨hx, hb, hr, hml, hown, hts, hlk, hA, hK, hN, hV⟩ := id C
  refine lv_iconst (v := (0 : Int32)) hx hb dX12_keep_45 (by decide) ?_
  refine lv_istore_n (lv' := [(1, .int (0 : Int32)), (0, .ref o0)]) hx hb dX12_keep_46 rfl hl (by decide) rfl (fun ls hl => ?_)
  exact l_X12_keep_47 C hF _ _ _ hP hD hS (lv_sub hl [1, 0] rfl)
set_option maxRecDepth 100000 in
set_option maxHeartbeats 4000000 in
theorem b_X12_keep_11 {p : Program} {l : Launch} {e : Env} {s : State} {m : MethodId} {args : Array Value} {below : List Frame} {meth : Method} {c : Code} {D : va_G} {q : Nat → ClassId} {A : Nat → Prop} {o0 : Nat} {a0 : Nat → Nat} {T0 : St} (C : cx p s m args meth c cX12_keep 2 none RX12 D q A) {k11 : Int32 × St → Option (St)} (hk11 : ∀ (x1 : Int32) (S0 : St), k11 (x1, S0) = some (T0) → ∀ (H : Heap) (locs : List Loc) (ls : Array Slot), va_P D vwCl (g12 q o0 a0 S0) H → va_D A (g12 q o0 a0 S0) → va_S A s.heap H locs → lv_has ls 2 [(0, .ref o0), (1, .int x1)] → W p l e rm_X12_keep s m args below meth c H locs 0 0 (MQ below (QV D A (g12 q o0 a0 T0)) args s 0 0 A) (F0 m 11 ls [])) {x1 : Int32} {S0 : St} (hF : F_X12_keep_11 k11 x1 S0 = some (T0)) {H : Heap} {locs : List Loc} (hP : va_P D vwCl (g12 q o0 a0 S0) H) (hD : va_D A (g12 q o0 a0 S0)) (hS : va_S A s.heap H locs) {ls : Array Slot} (hl : lv_has ls 2 [(0, .ref o0), (1, .int x1)]) : W p l e rm_X12_keep s m args below meth c H locs 0 0 (MQ below (QV D A (g12 q o0 a0 T0)) args s 0 0 A) (F0 m 11 ls []) := by
  unfold F_X12_keep_11 at hF
  obtain ⟨hx, hb, hr, hml, hown, hts, hlk, hA, hK, hN, hV⟩ := id C
  refine lv_iload_n hx hb dX12_keep_11 rfl (lv_at hl 1 rfl) ?_
  refine lv_sipush (v := (245 : Int32)) hx hb dX12_keep_12 (by decide) ?_
  refine lv_icmp_ge (tgt := 39) hx hb dX12_keep_15 (by decide) (fun c1 => ?_) (fun c1 => ?_)
  · have hF := op_t hF c1
    refine lv_aload_n hx hb dX12_keep_39 rfl (lv_at hl 0 rfl) ?_
    refine lv_bipush (v := (7 : Int32)) hx hb dX12_keep_40 (by decide) ?_
    obtain ⟨U2, e3, hF⟩ := nw_s hF
    refine k_put (W8 := g12 q o0 a0 U2) C fp_X12_290 hP hD hS 0 rfl rfl rfl (Nat.le_of_ble_eq_true rfl) dX12_keep_42 (by rw [e3]; rfl) (fun H locs hP hD hS => ?_)
    exact b_X12_keep_45 C hF hP hD hS (lv_sub hl [0] rfl)
  · have hF := op_f hF c1
    refine lv_aload_n hx hb dX12_keep_18 rfl (lv_at hl 0 rfl) ?_
    refine k_get (v := .ref (a0 21)) C fg_X12_50 hP 0 rfl rfl dX12_keep_19 ?_
    refine lv_iload_n hx hb dX12_keep_22 rfl (lv_at hl 1 rfl) ?_
    refine lv_aload_n hx hb dX12_keep_23 rfl (lv_at hl 0 rfl) ?_
    refine k_get (v := .ref (a0 21)) C fg_X12_50 hP 0 rfl rfl dX12_keep_24 ?_
    refine lv_iload_n hx hb dX12_keep_27 rfl (lv_at hl 1 rfl) ?_
    refine lv_bipush (v := (35 : Int32)) hx hb dX12_keep_28 (by decide) ?_
    refine lv_iadd hx hb dX12_keep_30 ?_
    obtain ⟨h4, hF⟩ := op_ck hF
    refine k_ild (f := S0.2.2.1 20) C hP 7 rfl h4 dX12_keep_31 ?_
    obtain ⟨h5, hF⟩ := op_ck hF
    obtain ⟨U6, e7, hF⟩ := nw_s hF
    refine k_ist (f := S0.2.2.1 20) (W8 := g12 q o0 a0 U6) C hP hD hS 7 rfl h5 dX12_keep_32 (by rw [e7]; rfl) (fun H locs hP hD hS => ?_)
    refine lv_iinc (v := (x1 + 1)) (lv' := [(1, .int (x1 + 1)), (0, .ref o0)]) hx hb dX12_keep_33 hl (k := 1) rfl rfl (by decide) rfl (fun ls hl => ?_)
    refine lv_goto (tgt := 11) hx hb dX12_keep_36 (by decide) ?_
    exact hk11 (x1 + 1) U6 hF _ _ _ hP hD hS (lv_sub hl [1, 0] rfl)
set_option maxRecDepth 100000 in
set_option maxHeartbeats 4000000 in
theorem l_X12_keep_11 {p : Program} {l : Launch} {e : Env} {s : State} {m : MethodId} {args : Array Value} {below : List Frame} {meth : Method} {c : Code} {D : va_G} {q : Nat → ClassId} {A : Nat → Prop} {o0 : Nat} {a0 : Nat → Nat} {T0 : St} (C : cx p s m args meth c cX12_keep 2 none RX12 D q A) {x1 : Int32} {S0 : St} (hF : L_X12_keep_11 x1 S0 = some (T0)) : ∀ (H : Heap) (locs : List Loc) (ls : Array Slot), va_P D vwCl (g12 q o0 a0 S0) H → va_D A (g12 q o0 a0 S0) → va_S A s.heap H locs → lv_has ls 2 [(0, .ref o0), (1, .int x1)] → W p l e rm_X12_keep s m args below meth c H locs 0 0 (MQ below (QV D A (g12 q o0 a0 T0)) args s 0 0 A) (F0 m 11 ls []) :=
  lp_G _ _ (fun z => ∀ (H : Heap) (locs : List Loc) (ls : Array Slot), va_P D vwCl (g12 q o0 a0 z.2) H → va_D A (g12 q o0 a0 z.2) → va_S A s.heap H locs → lv_has ls 2 [(0, .ref o0), (1, .int z.1)] → W p l e rm_X12_keep s m args below meth c H locs 0 0 (MQ below (QV D A (g12 q o0 a0 T0)) args s 0 0 A) (F0 m 11 ls [])) (fun kz hkz z hz H locs ls hP hD hS hl => b_X12_keep_11 C (fun x1 S0 hz => hkz (x1, S0) hz) hz hP hD hS hl) FU (x1, S0) hF
set_option maxRecDepth 100000 in
set_option maxHeartbeats 4000000 in
theorem c_X12_keep (l : Launch) (D : va_G) (q : Nat → ClassId) (o0 : Nat) (a0 : Nat → Nat) (S0 : St) (sz : Nat) {T0 : St} (hF : F_X12_keep S0 = some (T0)) : Met l yX12_keep (Cond.code yX12_keep cX12_keep 2 none :: TB) rm_X12_keep (PC D q [.ref o0] (g12 q o0 a0 S0) sz) ((fun A => QV D A (g12 q o0 a0 T0)) (va_A (g12 q o0 a0 S0) sz)) 0 0 (va_A (g12 q o0 a0 S0) sz) := by
  refine k_met (w0 := g12 q o0 a0 S0) (Q := fun A => QV D A (g12 q o0 a0 T0)) (by decide +kernel) (Nat.le_of_ble_eq_true rfl) ?_
  intro p e s m args below meth c A ls C hP hD hS hl
  have hl : lv_has ls 2 [(0, .ref o0)] := hl
  unfold F_X12_keep at hF
  have C : cx p s m args meth c cX12_keep 2 none RX12 D q A := C
  obtain ⟨hx, hb, hr, hml, hown, hts, hlk, hA, hK, hN, hV⟩ := id C
  refine lv_aload_n hx hb dX12_keep_0 rfl (lv_at hl 0 rfl) ?_
  refine k_get (v := .int (S0.1 22)) C fg_X12_290 hP 0 rfl rfl dX12_keep_1 ?_
  refine lv_bipush (v := (8 : Int32)) hx hb dX12_keep_4 (by decide) ?_
  refine lv_icmp_ne (tgt := 45) hx hb dX12_keep_6 (by decide) (fun c1 => ?_) (fun c1 => ?_)
  · have hF := op_f hF c1
    exact b_X12_keep_45 C hF hP hD hS (lv_sub hl [0] rfl)
  · have hF := op_t hF c1
    refine lv_iconst (v := (0 : Int32)) hx hb dX12_keep_9 (by decide) ?_
    refine lv_istore_n (lv' := [(1, .int (0 : Int32)), (0, .ref o0)]) hx hb dX12_keep_10 rfl hl (by decide) rfl (fun ls hl => ?_)
    exact l_X12_keep_11 C hF _ _ _ hP hD hS (lv_sub hl [1, 0] rfl)

abbrev rm_X12_climb : Room := ({ frames := 3, cells := 0, slots := 0, locals := 69 } : Room)
def F_X12_climb (S0 : St) (x1 : Int32) (x2 : Int32) : Option (Int32 × St) := nw (sI S0 0 (0 : Int32)) fun U1 => ob1 (F_X12_isPerson U1 x1) fun r4 => if r4 = 0 then (some ((-1 : Int32), U1)) else (ob1 (F_X12_isTurret U1 x2) fun r7 => if r7 = 0 then (some ((-1 : Int32), U1)) else (ob1 (F_X12_whyClimb U1 x1 x2) fun r10 => if r10 ≤ 0 then (ob1 (F_X12_keep U1) fun U13 => ob1 (F_X12_climbs U13 x1 x2) fun U15 => some ((0 : Int32), U15)) else (some (r10, U1))))
set_option maxRecDepth 100000 in
set_option maxHeartbeats 4000000 in
theorem c_X12_climb (l : Launch) (D : va_G) (q : Nat → ClassId) (o0 : Nat) (a0 : Nat → Nat) (S0 : St) (sz : Nat) (x1 : Int32) (x2 : Int32) {r : Int32} {T0 : St} (hF : F_X12_climb S0 x1 x2 = some (r, T0)) : Met l yX12_climb (Cond.code yX12_climb cX12_climb 4 (some .int) :: TB) rm_X12_climb (PC D q [.ref o0, .int x1, .int x2] (g12 q o0 a0 S0) sz) ((fun A => QI D A r (g12 q o0 a0 T0)) (va_A (g12 q o0 a0 S0) sz)) 0 0 (va_A (g12 q o0 a0 S0) sz) := by
  refine k_met (w0 := g12 q o0 a0 S0) (Q := fun A => QI D A r (g12 q o0 a0 T0)) (by decide +kernel) (Nat.le_of_ble_eq_true rfl) ?_
  intro p e s m args below meth c A ls C hP hD hS hl
  have hl : lv_has ls 4 [(0, .ref o0), (1, .int x1), (2, .int x2)] := hl
  unfold F_X12_climb at hF
  have C : cx p s m args meth c cX12_climb 4 (some .int) RX12 D q A := C
  obtain ⟨hx, hb, hr, hml, hown, hts, hlk, hA, hK, hN, hV⟩ := id C
  refine lv_aload_n hx hb dX12_climb_0 rfl (lv_at hl 0 rfl) ?_
  refine lv_iconst (v := (0 : Int32)) hx hb dX12_climb_1 (by decide) ?_
  obtain ⟨U1, e2, hF⟩ := nw_s hF
  refine k_put (W8 := g12 q o0 a0 U1) C fp_X12_1 hP hD hS 0 rfl rfl rfl (Nat.le_of_ble_eq_true rfl) dX12_climb_2 (by rw [e2]; rfl) (fun H locs hP hD hS => ?_)
  refine lv_aload_n hx hb dX12_climb_5 rfl (lv_at hl 0 rfl) ?_
  refine lv_iload_n hx hb dX12_climb_6 rfl (lv_at hl 1 rfl) ?_
  obtain ⟨r4, hc3, hF⟩ := ob1_s hF
  refine k_iall C (k_rV (As := [.int x1]) (rest := []) C (c_X12_isPerson l D q o0 a0 U1 _ x1 hc3) kc_X12_isPerson ml_X12_318 rfl rfl (by decide) hP hD hS (va_recv hK hP (ci := 12) (q0 := 0) rfl rfl) rfl hl.1 rfl (Nat.le_of_ble_eq_true rfl) dX12_climb_7 (by decide)) hP hD hS ((gad12 q o0 a0 U1).trans (gad12 q o0 a0 U1).symm) (fun H locs hP hD hS => ?_)
  refine lv_if_eq (tgt := 21) hx hb dX12_climb_10 (by decide) (fun c5 => ?_) (fun c5 => ?_)
  · have hF := op_t hF c5
    refine lv_iconst (v := (-1 : Int32)) hx hb dX12_climb_21 (by decide) ?_
    cases hF
    exact k_iret C hP hS dX12_climb_22
  · have hF := op_f hF c5
    refine lv_aload_n hx hb dX12_climb_13 rfl (lv_at hl 0 rfl) ?_
    refine lv_iload_n hx hb dX12_climb_14 rfl (lv_at hl 2 rfl) ?_
    obtain ⟨r7, hc6, hF⟩ := ob1_s hF
    refine k_iall C (k_rV (As := [.int x2]) (rest := []) C (c_X12_isTurret l D q o0 a0 U1 _ x2 hc6) kc_X12_isTurret ml_X12_331 rfl rfl (by decide) hP hD hS (va_recv hK hP (ci := 12) (q0 := 0) rfl rfl) rfl hl.1 rfl (Nat.le_of_ble_eq_true rfl) dX12_climb_15 (by decide)) hP hD hS ((gad12 q o0 a0 U1).trans (gad12 q o0 a0 U1).symm) (fun H locs hP hD hS => ?_)
    refine lv_if_ne (tgt := 23) hx hb dX12_climb_18 (by decide) (fun c8 => ?_) (fun c8 => ?_)
    · have hF := op_f hF c8
      refine lv_aload_n hx hb dX12_climb_23 rfl (lv_at hl 0 rfl) ?_
      refine lv_iload_n hx hb dX12_climb_24 rfl (lv_at hl 1 rfl) ?_
      refine lv_iload_n hx hb dX12_climb_25 rfl (lv_at hl 2 rfl) ?_
      obtain ⟨r10, hc9, hF⟩ := ob1_s hF
      refine k_iall C (k_rV (As := [.int x1, .int x2]) (rest := []) C (c_X12_whyClimb l D q o0 a0 U1 _ x1 x2 hc9) kc_X12_whyClimb ml_X12_352 rfl rfl (by decide) hP hD hS (va_recv hK hP (ci := 12) (q0 := 0) rfl rfl) rfl hl.1 rfl (Nat.le_of_ble_eq_true rfl) dX12_climb_26 (by decide)) hP hD hS ((gad12 q o0 a0 U1).trans (gad12 q o0 a0 U1).symm) (fun H locs hP hD hS => ?_)
      refine lv_istore_n (lv' := [(3, .int r10), (0, .ref o0), (1, .int x1), (2, .int x2)]) hx hb dX12_climb_29 rfl hl (by decide) rfl (fun ls hl => ?_)
      refine lv_iload_n hx hb dX12_climb_30 rfl (lv_at hl 0 rfl) ?_
      refine lv_if_le (tgt := 36) hx hb dX12_climb_31 (by decide) (fun c11 => ?_) (fun c11 => ?_)
      · have hF := op_t hF c11
        refine lv_aload_n hx hb dX12_climb_36 rfl (lv_at hl 1 rfl) ?_
        obtain ⟨U13, hc12, hF⟩ := ob1_s hF
        refine k_vall C (k_rV (As := []) (rest := []) C (c_X12_keep l D q o0 a0 U1 _ hc12) kc_X12_keep ml_X12_355 rfl rfl (by decide) hP hD hS (va_recv hK hP (ci := 12) (q0 := 0) rfl rfl) rfl hl.1 rfl (Nat.le_of_ble_eq_true rfl) dX12_climb_37 (by decide)) hP hD hS ((gad12 q o0 a0 U13).trans (gad12 q o0 a0 U1).symm) (fun H locs hP hD hS => ?_)
        refine lv_aload_n hx hb dX12_climb_40 rfl (lv_at hl 1 rfl) ?_
        refine lv_iload_n hx hb dX12_climb_41 rfl (lv_at hl 2 rfl) ?_
        refine lv_iload_n hx hb dX12_climb_42 rfl (lv_at hl 3 rfl) ?_
        obtain ⟨U15, hc14, hF⟩ := ob1_s hF
        refine k_vall C (k_rV (As := [.int x1, .int x2]) (rest := []) C (c_X12_climbs l D q o0 a0 U13 _ x1 x2 hc14) kc_X12_climbs ml_X12_358 rfl rfl (by decide) hP hD hS (va_recv hK hP (ci := 12) (q0 := 0) rfl rfl) rfl hl.1 rfl (Nat.le_of_ble_eq_true rfl) dX12_climb_43 (by decide)) hP hD hS ((gad12 q o0 a0 U15).trans (gad12 q o0 a0 U13).symm) (fun H locs hP hD hS => ?_)
        refine lv_iconst (v := (0 : Int32)) hx hb dX12_climb_46 (by decide) ?_
        cases hF
        exact k_iret C hP hS dX12_climb_47
      · have hF := op_f hF c11
        refine lv_iload_n hx hb dX12_climb_34 rfl (lv_at hl 0 rfl) ?_
        cases hF
        exact k_iret C hP hS dX12_climb_35
    · have hF := op_t hF c8
      refine lv_iconst (v := (-1 : Int32)) hx hb dX12_climb_21 (by decide) ?_
      cases hF
      exact k_iret C hP hS dX12_climb_22

abbrev rm_X12_land : Room := ({ frames := 2, cells := 0, slots := 0, locals := 43 } : Room)
def F_X12_land (S0 : St) (x1 : Int32) : Option (Int32 × St) := nw (sI S0 0 (0 : Int32)) fun U1 => ob1 (F_X12_isPerson U1 x1) fun r4 => if r4 = 0 then (some ((-1 : Int32), U1)) else (ob1 (F_X12_isUp U1 x1) fun r7 => if r7 = 0 then (some ((1 : Int32), U1)) else (ob1 (F_X12_keep U1) fun U10 => if oob ((65 : Int32) + x1) 258 then none else nw (sA U10 6 ((65 : Int32) + x1) (0 : Int32)) fun U12 => some ((0 : Int32), U12)))
set_option maxRecDepth 100000 in
set_option maxHeartbeats 4000000 in
theorem c_X12_land (l : Launch) (D : va_G) (q : Nat → ClassId) (o0 : Nat) (a0 : Nat → Nat) (S0 : St) (sz : Nat) (x1 : Int32) {r : Int32} {T0 : St} (hF : F_X12_land S0 x1 = some (r, T0)) : Met l yX12_land (Cond.code yX12_land cX12_land 2 (some .int) :: TB) rm_X12_land (PC D q [.ref o0, .int x1] (g12 q o0 a0 S0) sz) ((fun A => QI D A r (g12 q o0 a0 T0)) (va_A (g12 q o0 a0 S0) sz)) 0 0 (va_A (g12 q o0 a0 S0) sz) := by
  refine k_met (w0 := g12 q o0 a0 S0) (Q := fun A => QI D A r (g12 q o0 a0 T0)) (by decide +kernel) (Nat.le_of_ble_eq_true rfl) ?_
  intro p e s m args below meth c A ls C hP hD hS hl
  have hl : lv_has ls 2 [(0, .ref o0), (1, .int x1)] := hl
  unfold F_X12_land at hF
  have C : cx p s m args meth c cX12_land 2 (some .int) RX12 D q A := C
  obtain ⟨hx, hb, hr, hml, hown, hts, hlk, hA, hK, hN, hV⟩ := id C
  refine lv_aload_n hx hb dX12_land_0 rfl (lv_at hl 0 rfl) ?_
  refine lv_iconst (v := (0 : Int32)) hx hb dX12_land_1 (by decide) ?_
  obtain ⟨U1, e2, hF⟩ := nw_s hF
  refine k_put (W8 := g12 q o0 a0 U1) C fp_X12_1 hP hD hS 0 rfl rfl rfl (Nat.le_of_ble_eq_true rfl) dX12_land_2 (by rw [e2]; rfl) (fun H locs hP hD hS => ?_)
  refine lv_aload_n hx hb dX12_land_5 rfl (lv_at hl 0 rfl) ?_
  refine lv_iload_n hx hb dX12_land_6 rfl (lv_at hl 1 rfl) ?_
  obtain ⟨r4, hc3, hF⟩ := ob1_s hF
  refine k_iall C (k_rV (As := [.int x1]) (rest := []) C (c_X12_isPerson l D q o0 a0 U1 _ x1 hc3) kc_X12_isPerson ml_X12_318 rfl rfl (by decide) hP hD hS (va_recv hK hP (ci := 12) (q0 := 0) rfl rfl) rfl hl.1 rfl (Nat.le_of_ble_eq_true rfl) dX12_land_7 (by decide)) hP hD hS ((gad12 q o0 a0 U1).trans (gad12 q o0 a0 U1).symm) (fun H locs hP hD hS => ?_)
  refine lv_if_ne (tgt := 15) hx hb dX12_land_10 (by decide) (fun c5 => ?_) (fun c5 => ?_)
  · have hF := op_f hF c5
    refine lv_aload_n hx hb dX12_land_15 rfl (lv_at hl 0 rfl) ?_
    refine lv_iload_n hx hb dX12_land_16 rfl (lv_at hl 1 rfl) ?_
    obtain ⟨r7, hc6, hF⟩ := ob1_s hF
    refine k_iall C (k_rV (As := [.int x1]) (rest := []) C (c_X12_isUp l D q o0 a0 U1 _ x1 hc6) kc_X12_isUp ml_X12_337 rfl rfl (by decide) hP hD hS (va_recv hK hP (ci := 12) (q0 := 0) rfl rfl) rfl hl.1 rfl (Nat.le_of_ble_eq_true rfl) dX12_land_17 (by decide)) hP hD hS ((gad12 q o0 a0 U1).trans (gad12 q o0 a0 U1).symm) (fun H locs hP hD hS => ?_)
    refine lv_if_ne (tgt := 25) hx hb dX12_land_20 (by decide) (fun c8 => ?_) (fun c8 => ?_)
    · have hF := op_f hF c8
      refine lv_aload_n hx hb dX12_land_25 rfl (lv_at hl 0 rfl) ?_
      obtain ⟨U10, hc9, hF⟩ := ob1_s hF
      refine k_vall C (k_rV (As := []) (rest := []) C (c_X12_keep l D q o0 a0 U1 _ hc9) kc_X12_keep ml_X12_355 rfl rfl (by decide) hP hD hS (va_recv hK hP (ci := 12) (q0 := 0) rfl rfl) rfl hl.1 rfl (Nat.le_of_ble_eq_true rfl) dX12_land_26 (by decide)) hP hD hS ((gad12 q o0 a0 U10).trans (gad12 q o0 a0 U1).symm) (fun H locs hP hD hS => ?_)
      refine lv_aload_n hx hb dX12_land_29 rfl (lv_at hl 0 rfl) ?_
      refine k_get (v := .ref (a0 7)) C fg_X12_33 hP 0 rfl rfl dX12_land_30 ?_
      refine lv_bipush (v := (65 : Int32)) hx hb dX12_land_33 (by decide) ?_
      refine lv_iload_n hx hb dX12_land_35 rfl (lv_at hl 1 rfl) ?_
      refine lv_iadd hx hb dX12_land_36 ?_
      refine lv_iconst (v := (0 : Int32)) hx hb dX12_land_37 (by decide) ?_
      obtain ⟨h11, hF⟩ := op_ck hF
      obtain ⟨U12, e13, hF⟩ := nw_s hF
      refine k_ist (f := U10.2.2.1 6) (W8 := g12 q o0 a0 U12) C hP hD hS 2 rfl h11 dX12_land_38 (by rw [e13]; rfl) (fun H locs hP hD hS => ?_)
      refine lv_iconst (v := (0 : Int32)) hx hb dX12_land_39 (by decide) ?_
      cases hF
      exact k_iret C hP hS dX12_land_40
    · have hF := op_t hF c8
      refine lv_iconst (v := (1 : Int32)) hx hb dX12_land_23 (by decide) ?_
      cases hF
      exact k_iret C hP hS dX12_land_24
  · have hF := op_t hF c5
    refine lv_iconst (v := (-1 : Int32)) hx hb dX12_land_13 (by decide) ?_
    cases hF
    exact k_iret C hP hS dX12_land_14

abbrev rm_X12_tell : Room := ({ frames := 2, cells := 0, slots := 0, locals := 44 } : Room)
def F_X12_tell (S0 : St) (x1 : Int32) (x2 : Int32) (x3 : Int32) : Option (Int32 × St) := nw (sI S0 0 (0 : Int32)) fun U1 => ob1 (F_X12_isPerson U1 x1) fun r4 => if r4 = 0 then (some ((-1 : Int32), U1)) else (ob1 (F_X12_isPerson U1 x2) fun r7 => if r7 = 0 then (some ((-1 : Int32), U1)) else (ob1 (F_X12_isView U1 x3) fun r10 => if r10 = 0 then (some ((-1 : Int32), U1)) else (ob1 (F_X12_whyTell U1 x1 x2 x3) fun r13 => if r13 ≤ 0 then (ob1 (F_X12_keep U1) fun U16 => if oob ((59 : Int32) + x2) 258 then none else ob1 (F_X12_having (U16.2.2.1 6 ((59 : Int32) + x2).toNatClampNeg) x3) fun r19 => if oob ((59 : Int32) + x2) 258 then none else nw (sA U16 6 ((59 : Int32) + x2) r19) fun U21 => some ((0 : Int32), U21)) else (some (r13, U1)))))
set_option maxRecDepth 100000 in
set_option maxHeartbeats 4000000 in
theorem c_X12_tell (l : Launch) (D : va_G) (q : Nat → ClassId) (o0 : Nat) (a0 : Nat → Nat) (S0 : St) (sz : Nat) (x1 : Int32) (x2 : Int32) (x3 : Int32) {r : Int32} {T0 : St} (hF : F_X12_tell S0 x1 x2 x3 = some (r, T0)) : Met l yX12_tell (Cond.code yX12_tell cX12_tell 5 (some .int) :: TB) rm_X12_tell (PC D q [.ref o0, .int x1, .int x2, .int x3] (g12 q o0 a0 S0) sz) ((fun A => QI D A r (g12 q o0 a0 T0)) (va_A (g12 q o0 a0 S0) sz)) 0 0 (va_A (g12 q o0 a0 S0) sz) := by
  refine k_met (w0 := g12 q o0 a0 S0) (Q := fun A => QI D A r (g12 q o0 a0 T0)) (by decide +kernel) (Nat.le_of_ble_eq_true rfl) ?_
  intro p e s m args below meth c A ls C hP hD hS hl
  have hl : lv_has ls 5 [(0, .ref o0), (1, .int x1), (2, .int x2), (3, .int x3)] := hl
  unfold F_X12_tell at hF
  have C : cx p s m args meth c cX12_tell 5 (some .int) RX12 D q A := C
  obtain ⟨hx, hb, hr, hml, hown, hts, hlk, hA, hK, hN, hV⟩ := id C
  refine lv_aload_n hx hb dX12_tell_0 rfl (lv_at hl 0 rfl) ?_
  refine lv_iconst (v := (0 : Int32)) hx hb dX12_tell_1 (by decide) ?_
  obtain ⟨U1, e2, hF⟩ := nw_s hF
  refine k_put (W8 := g12 q o0 a0 U1) C fp_X12_1 hP hD hS 0 rfl rfl rfl (Nat.le_of_ble_eq_true rfl) dX12_tell_2 (by rw [e2]; rfl) (fun H locs hP hD hS => ?_)
  refine lv_aload_n hx hb dX12_tell_5 rfl (lv_at hl 0 rfl) ?_
  refine lv_iload_n hx hb dX12_tell_6 rfl (lv_at hl 1 rfl) ?_
  obtain ⟨r4, hc3, hF⟩ := ob1_s hF
  refine k_iall C (k_rV (As := [.int x1]) (rest := []) C (c_X12_isPerson l D q o0 a0 U1 _ x1 hc3) kc_X12_isPerson ml_X12_318 rfl rfl (by decide) hP hD hS (va_recv hK hP (ci := 12) (q0 := 0) rfl rfl) rfl hl.1 rfl (Nat.le_of_ble_eq_true rfl) dX12_tell_7 (by decide)) hP hD hS ((gad12 q o0 a0 U1).trans (gad12 q o0 a0 U1).symm) (fun H locs hP hD hS => ?_)
  refine lv_if_eq (tgt := 29) hx hb dX12_tell_10 (by decide) (fun c5 => ?_) (fun c5 => ?_)
  · have hF := op_t hF c5
    refine lv_iconst (v := (-1 : Int32)) hx hb dX12_tell_29 (by decide) ?_
    cases hF
    exact k_iret C hP hS dX12_tell_30
  · have hF := op_f hF c5
    refine lv_aload_n hx hb dX12_tell_13 rfl (lv_at hl 0 rfl) ?_
    refine lv_iload_n hx hb dX12_tell_14 rfl (lv_at hl 2 rfl) ?_
    obtain ⟨r7, hc6, hF⟩ := ob1_s hF
    refine k_iall C (k_rV (As := [.int x2]) (rest := []) C (c_X12_isPerson l D q o0 a0 U1 _ x2 hc6) kc_X12_isPerson ml_X12_318 rfl rfl (by decide) hP hD hS (va_recv hK hP (ci := 12) (q0 := 0) rfl rfl) rfl hl.1 rfl (Nat.le_of_ble_eq_true rfl) dX12_tell_15 (by decide)) hP hD hS ((gad12 q o0 a0 U1).trans (gad12 q o0 a0 U1).symm) (fun H locs hP hD hS => ?_)
    refine lv_if_eq (tgt := 29) hx hb dX12_tell_18 (by decide) (fun c8 => ?_) (fun c8 => ?_)
    · have hF := op_t hF c8
      refine lv_iconst (v := (-1 : Int32)) hx hb dX12_tell_29 (by decide) ?_
      cases hF
      exact k_iret C hP hS dX12_tell_30
    · have hF := op_f hF c8
      refine lv_aload_n hx hb dX12_tell_21 rfl (lv_at hl 0 rfl) ?_
      refine lv_iload_n hx hb dX12_tell_22 rfl (lv_at hl 3 rfl) ?_
      obtain ⟨r10, hc9, hF⟩ := ob1_s hF
      refine k_iall C (k_rV (As := [.int x3]) (rest := []) C (c_X12_isView l D q o0 a0 U1 _ x3 hc9) kc_X12_isView ml_X12_362 rfl rfl (by decide) hP hD hS (va_recv hK hP (ci := 12) (q0 := 0) rfl rfl) rfl hl.1 rfl (Nat.le_of_ble_eq_true rfl) dX12_tell_23 (by decide)) hP hD hS ((gad12 q o0 a0 U1).trans (gad12 q o0 a0 U1).symm) (fun H locs hP hD hS => ?_)
      refine lv_if_ne (tgt := 31) hx hb dX12_tell_26 (by decide) (fun c11 => ?_) (fun c11 => ?_)
      · have hF := op_f hF c11
        refine lv_aload_n hx hb dX12_tell_31 rfl (lv_at hl 0 rfl) ?_
        refine lv_iload_n hx hb dX12_tell_32 rfl (lv_at hl 1 rfl) ?_
        refine lv_iload_n hx hb dX12_tell_33 rfl (lv_at hl 2 rfl) ?_
        refine lv_iload_n hx hb dX12_tell_34 rfl (lv_at hl 3 rfl) ?_
        obtain ⟨r13, hc12, hF⟩ := ob1_s hF
        refine k_iall C (k_rV (As := [.int x1, .int x2, .int x3]) (rest := []) C (c_X12_whyTell l D q o0 a0 U1 _ x1 x2 x3 hc12) kc_X12_whyTell ml_X12_365 rfl rfl (by decide) hP hD hS (va_recv hK hP (ci := 12) (q0 := 0) rfl rfl) rfl hl.1 rfl (Nat.le_of_ble_eq_true rfl) dX12_tell_35 (by decide)) hP hD hS ((gad12 q o0 a0 U1).trans (gad12 q o0 a0 U1).symm) (fun H locs hP hD hS => ?_)
        refine lv_istore (lv' := [(4, .int r13), (0, .ref o0), (1, .int x1), (2, .int x2), (3, .int x3)]) hx hb dX12_tell_38 hl (by decide) rfl (fun ls hl => ?_)
        refine lv_iload hx hb dX12_tell_40 (lv_at hl 0 rfl) ?_
        refine lv_if_le (tgt := 48) hx hb dX12_tell_42 (by decide) (fun c14 => ?_) (fun c14 => ?_)
        · have hF := op_t hF c14
          refine lv_aload_n hx hb dX12_tell_48 rfl (lv_at hl 1 rfl) ?_
          obtain ⟨U16, hc15, hF⟩ := ob1_s hF
          refine k_vall C (k_rV (As := []) (rest := []) C (c_X12_keep l D q o0 a0 U1 _ hc15) kc_X12_keep ml_X12_355 rfl rfl (by decide) hP hD hS (va_recv hK hP (ci := 12) (q0 := 0) rfl rfl) rfl hl.1 rfl (Nat.le_of_ble_eq_true rfl) dX12_tell_49 (by decide)) hP hD hS ((gad12 q o0 a0 U16).trans (gad12 q o0 a0 U1).symm) (fun H locs hP hD hS => ?_)
          refine lv_aload_n hx hb dX12_tell_52 rfl (lv_at hl 1 rfl) ?_
          refine k_get (v := .ref (a0 7)) C fg_X12_33 hP 0 rfl rfl dX12_tell_53 ?_
          refine lv_bipush (v := (59 : Int32)) hx hb dX12_tell_56 (by decide) ?_
          refine lv_iload_n hx hb dX12_tell_58 rfl (lv_at hl 3 rfl) ?_
          refine lv_iadd hx hb dX12_tell_59 ?_
          refine lv_aload_n hx hb dX12_tell_60 rfl (lv_at hl 1 rfl) ?_
          refine k_get (v := .ref (a0 7)) C fg_X12_33 hP 0 rfl rfl dX12_tell_61 ?_
          refine lv_bipush (v := (59 : Int32)) hx hb dX12_tell_64 (by decide) ?_
          refine lv_iload_n hx hb dX12_tell_66 rfl (lv_at hl 3 rfl) ?_
          refine lv_iadd hx hb dX12_tell_67 ?_
          obtain ⟨h17, hF⟩ := op_ck hF
          refine k_ild (f := U16.2.2.1 6) C hP 2 rfl h17 dX12_tell_68 ?_
          refine lv_iload_n hx hb dX12_tell_69 rfl (lv_at hl 4 rfl) ?_
          obtain ⟨r19, hc18, hF⟩ := ob1_s hF
          refine k_inil C (k_rS (As := [.int (U16.2.2.1 6 ((59 : Int32) + x2).toNatClampNeg), .int x3]) (rest := [.int ((59 : Int32) + x2), .ref (a0 7)]) C (c_X12_having l D q _ (U16.2.2.1 6 ((59 : Int32) + x2).toNatClampNeg) x3 hc18) kc_X12_having ml_X12_300 rfl rfl (by decide) (fun k x h => by simp at h) (⟨fun i j x y h => by simp at h, fun k x h => by simp at h⟩ : va_D A []) hS rfl hl.1 rfl (Nat.le_of_ble_eq_true rfl) dX12_tell_70 (by decide)) hP hD hS (fun H locs hP hD hS => ?_)
          obtain ⟨h20, hF⟩ := op_ck hF
          obtain ⟨U21, e22, hF⟩ := nw_s hF
          refine k_ist (f := U16.2.2.1 6) (W8 := g12 q o0 a0 U21) C hP hD hS 2 rfl h20 dX12_tell_73 (by rw [e22]; rfl) (fun H locs hP hD hS => ?_)
          refine lv_iconst (v := (0 : Int32)) hx hb dX12_tell_74 (by decide) ?_
          cases hF
          exact k_iret C hP hS dX12_tell_75
        · have hF := op_f hF c14
          refine lv_iload hx hb dX12_tell_45 (lv_at hl 0 rfl) ?_
          cases hF
          exact k_iret C hP hS dX12_tell_47
      · have hF := op_t hF c11
        refine lv_iconst (v := (-1 : Int32)) hx hb dX12_tell_29 (by decide) ?_
        cases hF
        exact k_iret C hP hS dX12_tell_30

abbrev rm_X12_storm : Room := ({ frames := 1, cells := 0, slots := 0, locals := 22 } : Room)
def F_X12_storm (S0 : St) (x1 : Int32) : Option (Int32 × St) := nw (sI S0 0 (0 : Int32)) fun U1 => ob1 (F_X12_isIn x1 (1 : Int32) (60 : Int32)) fun r4 => if r4 = 0 then (some ((-1 : Int32), U1)) else (ob1 (F_X12_whyStorm U1 x1) fun r7 => if r7 ≤ 0 then (ob1 (F_X12_keep U1) fun U10 => ob1 (F_X12_storms U10 x1) fun U12 => some ((0 : Int32), U12)) else (some ((1 : Int32), U1)))
set_option maxRecDepth 100000 in
set_option maxHeartbeats 4000000 in
theorem c_X12_storm (l : Launch) (D : va_G) (q : Nat → ClassId) (o0 : Nat) (a0 : Nat → Nat) (S0 : St) (sz : Nat) (x1 : Int32) {r : Int32} {T0 : St} (hF : F_X12_storm S0 x1 = some (r, T0)) : Met l yX12_storm (Cond.code yX12_storm cX12_storm 2 (some .int) :: TB) rm_X12_storm (PC D q [.ref o0, .int x1] (g12 q o0 a0 S0) sz) ((fun A => QI D A r (g12 q o0 a0 T0)) (va_A (g12 q o0 a0 S0) sz)) 0 0 (va_A (g12 q o0 a0 S0) sz) := by
  refine k_met (w0 := g12 q o0 a0 S0) (Q := fun A => QI D A r (g12 q o0 a0 T0)) (by decide +kernel) (Nat.le_of_ble_eq_true rfl) ?_
  intro p e s m args below meth c A ls C hP hD hS hl
  have hl : lv_has ls 2 [(0, .ref o0), (1, .int x1)] := hl
  unfold F_X12_storm at hF
  have C : cx p s m args meth c cX12_storm 2 (some .int) RX12 D q A := C
  obtain ⟨hx, hb, hr, hml, hown, hts, hlk, hA, hK, hN, hV⟩ := id C
  refine lv_aload_n hx hb dX12_storm_0 rfl (lv_at hl 0 rfl) ?_
  refine lv_iconst (v := (0 : Int32)) hx hb dX12_storm_1 (by decide) ?_
  obtain ⟨U1, e2, hF⟩ := nw_s hF
  refine k_put (W8 := g12 q o0 a0 U1) C fp_X12_1 hP hD hS 0 rfl rfl rfl (Nat.le_of_ble_eq_true rfl) dX12_storm_2 (by rw [e2]; rfl) (fun H locs hP hD hS => ?_)
  refine lv_iload_n hx hb dX12_storm_5 rfl (lv_at hl 1 rfl) ?_
  refine lv_iconst (v := (1 : Int32)) hx hb dX12_storm_6 (by decide) ?_
  refine lv_bipush (v := (60 : Int32)) hx hb dX12_storm_7 (by decide) ?_
  obtain ⟨r4, hc3, hF⟩ := ob1_s hF
  refine k_inil C (k_rS (As := [.int x1, .int (1 : Int32), .int (60 : Int32)]) (rest := []) C (c_X12_isIn l D q _ x1 (1 : Int32) (60 : Int32) hc3) kc_X12_isIn ml_X12_225 rfl rfl (by decide) (fun k x h => by simp at h) (⟨fun i j x y h => by simp at h, fun k x h => by simp at h⟩ : va_D A []) hS rfl hl.1 rfl (Nat.le_of_ble_eq_true rfl) dX12_storm_9 (by decide)) hP hD hS (fun H locs hP hD hS => ?_)
  refine lv_if_ne (tgt := 17) hx hb dX12_storm_12 (by decide) (fun c5 => ?_) (fun c5 => ?_)
  · have hF := op_f hF c5
    refine lv_aload_n hx hb dX12_storm_17 rfl (lv_at hl 0 rfl) ?_
    refine lv_iload_n hx hb dX12_storm_18 rfl (lv_at hl 1 rfl) ?_
    obtain ⟨r7, hc6, hF⟩ := ob1_s hF
    refine k_iall C (k_rV (As := [.int x1]) (rest := []) C (c_X12_whyStorm l D q o0 a0 U1 _ x1 hc6) kc_X12_whyStorm ml_X12_369 rfl rfl (by decide) hP hD hS (va_recv hK hP (ci := 12) (q0 := 0) rfl rfl) rfl hl.1 rfl (Nat.le_of_ble_eq_true rfl) dX12_storm_19 (by decide)) hP hD hS ((gad12 q o0 a0 U1).trans (gad12 q o0 a0 U1).symm) (fun H locs hP hD hS => ?_)
    refine lv_if_le (tgt := 27) hx hb dX12_storm_22 (by decide) (fun c8 => ?_) (fun c8 => ?_)
    · have hF := op_t hF c8
      refine lv_aload_n hx hb dX12_storm_27 rfl (lv_at hl 0 rfl) ?_
      obtain ⟨U10, hc9, hF⟩ := ob1_s hF
      refine k_vall C (k_rV (As := []) (rest := []) C (c_X12_keep l D q o0 a0 U1 _ hc9) kc_X12_keep ml_X12_355 rfl rfl (by decide) hP hD hS (va_recv hK hP (ci := 12) (q0 := 0) rfl rfl) rfl hl.1 rfl (Nat.le_of_ble_eq_true rfl) dX12_storm_28 (by decide)) hP hD hS ((gad12 q o0 a0 U10).trans (gad12 q o0 a0 U1).symm) (fun H locs hP hD hS => ?_)
      refine lv_aload_n hx hb dX12_storm_31 rfl (lv_at hl 0 rfl) ?_
      refine lv_iload_n hx hb dX12_storm_32 rfl (lv_at hl 1 rfl) ?_
      obtain ⟨U12, hc11, hF⟩ := ob1_s hF
      refine k_vall C (k_rV (As := [.int x1]) (rest := []) C (c_X12_storms l D q o0 a0 U10 _ x1 hc11) kc_X12_storms ml_X12_372 rfl rfl (by decide) hP hD hS (va_recv hK hP (ci := 12) (q0 := 0) rfl rfl) rfl hl.1 rfl (Nat.le_of_ble_eq_true rfl) dX12_storm_33 (by decide)) hP hD hS ((gad12 q o0 a0 U12).trans (gad12 q o0 a0 U10).symm) (fun H locs hP hD hS => ?_)
      refine lv_iconst (v := (0 : Int32)) hx hb dX12_storm_36 (by decide) ?_
      cases hF
      exact k_iret C hP hS dX12_storm_37
    · have hF := op_f hF c8
      refine lv_iconst (v := (1 : Int32)) hx hb dX12_storm_25 (by decide) ?_
      cases hF
      exact k_iret C hP hS dX12_storm_26
  · have hF := op_t hF c5
    refine lv_iconst (v := (-1 : Int32)) hx hb dX12_storm_15 (by decide) ?_
    cases hF
    exact k_iret C hP hS dX12_storm_16

abbrev rm_X12_wall : Room := ({ frames := 3, cells := 0, slots := 0, locals := 63 } : Room)
def F_X12_wall (S0 : St) (x1 : Int32) : Option (Int32 × St) := nw (sI S0 0 (0 : Int32)) fun U1 => ob1 (F_X12_isTurret U1 x1) fun r4 => if r4 = 0 then (some ((-1 : Int32), U1)) else (ob1 (F_X12_whyWall U1 x1) fun r7 => if r7 ≤ 0 then (ob1 (F_X12_keep U1) fun U10 => if oob (44 : Int32) 258 then none else if oob (44 : Int32) 258 then none else nw (sA U10 6 (44 : Int32) ((U10.2.2.1 6 (44 : Int32).toNatClampNeg) ||| ((1 : Int32) <<< (x1 &&& 31)))) fun U13 => some ((0 : Int32), U13)) else (some (r7, U1)))
set_option maxRecDepth 100000 in
set_option maxHeartbeats 4000000 in
theorem c_X12_wall (l : Launch) (D : va_G) (q : Nat → ClassId) (o0 : Nat) (a0 : Nat → Nat) (S0 : St) (sz : Nat) (x1 : Int32) {r : Int32} {T0 : St} (hF : F_X12_wall S0 x1 = some (r, T0)) : Met l yX12_wall (Cond.code yX12_wall cX12_wall 3 (some .int) :: TB) rm_X12_wall (PC D q [.ref o0, .int x1] (g12 q o0 a0 S0) sz) ((fun A => QI D A r (g12 q o0 a0 T0)) (va_A (g12 q o0 a0 S0) sz)) 0 0 (va_A (g12 q o0 a0 S0) sz) := by
  refine k_met (w0 := g12 q o0 a0 S0) (Q := fun A => QI D A r (g12 q o0 a0 T0)) (by decide +kernel) (Nat.le_of_ble_eq_true rfl) ?_
  intro p e s m args below meth c A ls C hP hD hS hl
  have hl : lv_has ls 3 [(0, .ref o0), (1, .int x1)] := hl
  unfold F_X12_wall at hF
  have C : cx p s m args meth c cX12_wall 3 (some .int) RX12 D q A := C
  obtain ⟨hx, hb, hr, hml, hown, hts, hlk, hA, hK, hN, hV⟩ := id C
  refine lv_aload_n hx hb dX12_wall_0 rfl (lv_at hl 0 rfl) ?_
  refine lv_iconst (v := (0 : Int32)) hx hb dX12_wall_1 (by decide) ?_
  obtain ⟨U1, e2, hF⟩ := nw_s hF
  refine k_put (W8 := g12 q o0 a0 U1) C fp_X12_1 hP hD hS 0 rfl rfl rfl (Nat.le_of_ble_eq_true rfl) dX12_wall_2 (by rw [e2]; rfl) (fun H locs hP hD hS => ?_)
  refine lv_aload_n hx hb dX12_wall_5 rfl (lv_at hl 0 rfl) ?_
  refine lv_iload_n hx hb dX12_wall_6 rfl (lv_at hl 1 rfl) ?_
  obtain ⟨r4, hc3, hF⟩ := ob1_s hF
  refine k_iall C (k_rV (As := [.int x1]) (rest := []) C (c_X12_isTurret l D q o0 a0 U1 _ x1 hc3) kc_X12_isTurret ml_X12_331 rfl rfl (by decide) hP hD hS (va_recv hK hP (ci := 12) (q0 := 0) rfl rfl) rfl hl.1 rfl (Nat.le_of_ble_eq_true rfl) dX12_wall_7 (by decide)) hP hD hS ((gad12 q o0 a0 U1).trans (gad12 q o0 a0 U1).symm) (fun H locs hP hD hS => ?_)
  refine lv_if_ne (tgt := 15) hx hb dX12_wall_10 (by decide) (fun c5 => ?_) (fun c5 => ?_)
  · have hF := op_f hF c5
    refine lv_aload_n hx hb dX12_wall_15 rfl (lv_at hl 0 rfl) ?_
    refine lv_iload_n hx hb dX12_wall_16 rfl (lv_at hl 1 rfl) ?_
    obtain ⟨r7, hc6, hF⟩ := ob1_s hF
    refine k_iall C (k_rV (As := [.int x1]) (rest := []) C (c_X12_whyWall l D q o0 a0 U1 _ x1 hc6) kc_X12_whyWall ml_X12_375 rfl rfl (by decide) hP hD hS (va_recv hK hP (ci := 12) (q0 := 0) rfl rfl) rfl hl.1 rfl (Nat.le_of_ble_eq_true rfl) dX12_wall_17 (by decide)) hP hD hS ((gad12 q o0 a0 U1).trans (gad12 q o0 a0 U1).symm) (fun H locs hP hD hS => ?_)
    refine lv_istore_n (lv' := [(2, .int r7), (0, .ref o0), (1, .int x1)]) hx hb dX12_wall_20 rfl hl (by decide) rfl (fun ls hl => ?_)
    refine lv_iload_n hx hb dX12_wall_21 rfl (lv_at hl 0 rfl) ?_
    refine lv_if_le (tgt := 27) hx hb dX12_wall_22 (by decide) (fun c8 => ?_) (fun c8 => ?_)
    · have hF := op_t hF c8
      refine lv_aload_n hx hb dX12_wall_27 rfl (lv_at hl 1 rfl) ?_
      obtain ⟨U10, hc9, hF⟩ := ob1_s hF
      refine k_vall C (k_rV (As := []) (rest := []) C (c_X12_keep l D q o0 a0 U1 _ hc9) kc_X12_keep ml_X12_355 rfl rfl (by decide) hP hD hS (va_recv hK hP (ci := 12) (q0 := 0) rfl rfl) rfl hl.1 rfl (Nat.le_of_ble_eq_true rfl) dX12_wall_28 (by decide)) hP hD hS ((gad12 q o0 a0 U10).trans (gad12 q o0 a0 U1).symm) (fun H locs hP hD hS => ?_)
      refine lv_aload_n hx hb dX12_wall_31 rfl (lv_at hl 1 rfl) ?_
      refine k_get (v := .ref (a0 7)) C fg_X12_33 hP 0 rfl rfl dX12_wall_32 ?_
      refine lv_bipush (v := (44 : Int32)) hx hb dX12_wall_35 (by decide) ?_
      refine lv_dup2_11 hx hb dX12_wall_37 rfl rfl ?_
      obtain ⟨h11, hF⟩ := op_ck hF
      refine k_ild (f := U10.2.2.1 6) C hP 2 rfl h11 dX12_wall_38 ?_
      refine lv_iconst (v := (1 : Int32)) hx hb dX12_wall_39 (by decide) ?_
      refine lv_iload_n hx hb dX12_wall_40 rfl (lv_at hl 2 rfl) ?_
      refine lv_ishl hx hb dX12_wall_41 ?_
      refine lv_ior hx hb dX12_wall_42 ?_
      obtain ⟨h12, hF⟩ := op_ck hF
      obtain ⟨U13, e14, hF⟩ := nw_s hF
      refine k_ist (f := U10.2.2.1 6) (W8 := g12 q o0 a0 U13) C hP hD hS 2 rfl h12 dX12_wall_43 (by rw [e14]; rfl) (fun H locs hP hD hS => ?_)
      refine lv_iconst (v := (0 : Int32)) hx hb dX12_wall_44 (by decide) ?_
      cases hF
      exact k_iret C hP hS dX12_wall_45
    · have hF := op_f hF c8
      refine lv_iload_n hx hb dX12_wall_25 rfl (lv_at hl 0 rfl) ?_
      cases hF
      exact k_iret C hP hS dX12_wall_26
  · have hF := op_t hF c5
    refine lv_iconst (v := (-1 : Int32)) hx hb dX12_wall_13 (by decide) ?_
    cases hF
    exact k_iret C hP hS dX12_wall_14

abbrev rm_X12_unwall : Room := ({ frames := 2, cells := 0, slots := 0, locals := 43 } : Room)
def F_X12_unwall (S0 : St) (x1 : Int32) : Option (Int32 × St) := nw (sI S0 0 (0 : Int32)) fun U1 => ob1 (F_X12_isTurret U1 x1) fun r4 => if r4 = 0 then (some ((-1 : Int32), U1)) else (ob1 (F_X12_isWalled U1 x1) fun r7 => if r7 = 0 then (some ((1 : Int32), U1)) else (ob1 (F_X12_keep U1) fun U10 => if oob (44 : Int32) 258 then none else if oob (44 : Int32) 258 then none else nw (sA U10 6 (44 : Int32) ((U10.2.2.1 6 (44 : Int32).toNatClampNeg) ^^^ ((1 : Int32) <<< (x1 &&& 31)))) fun U13 => some ((0 : Int32), U13)))
set_option maxRecDepth 100000 in
set_option maxHeartbeats 4000000 in
theorem c_X12_unwall (l : Launch) (D : va_G) (q : Nat → ClassId) (o0 : Nat) (a0 : Nat → Nat) (S0 : St) (sz : Nat) (x1 : Int32) {r : Int32} {T0 : St} (hF : F_X12_unwall S0 x1 = some (r, T0)) : Met l yX12_unwall (Cond.code yX12_unwall cX12_unwall 2 (some .int) :: TB) rm_X12_unwall (PC D q [.ref o0, .int x1] (g12 q o0 a0 S0) sz) ((fun A => QI D A r (g12 q o0 a0 T0)) (va_A (g12 q o0 a0 S0) sz)) 0 0 (va_A (g12 q o0 a0 S0) sz) := by
  refine k_met (w0 := g12 q o0 a0 S0) (Q := fun A => QI D A r (g12 q o0 a0 T0)) (by decide +kernel) (Nat.le_of_ble_eq_true rfl) ?_
  intro p e s m args below meth c A ls C hP hD hS hl
  have hl : lv_has ls 2 [(0, .ref o0), (1, .int x1)] := hl
  unfold F_X12_unwall at hF
  have C : cx p s m args meth c cX12_unwall 2 (some .int) RX12 D q A := C
  obtain ⟨hx, hb, hr, hml, hown, hts, hlk, hA, hK, hN, hV⟩ := id C
  refine lv_aload_n hx hb dX12_unwall_0 rfl (lv_at hl 0 rfl) ?_
  refine lv_iconst (v := (0 : Int32)) hx hb dX12_unwall_1 (by decide) ?_
  obtain ⟨U1, e2, hF⟩ := nw_s hF
  refine k_put (W8 := g12 q o0 a0 U1) C fp_X12_1 hP hD hS 0 rfl rfl rfl (Nat.le_of_ble_eq_true rfl) dX12_unwall_2 (by rw [e2]; rfl) (fun H locs hP hD hS => ?_)
  refine lv_aload_n hx hb dX12_unwall_5 rfl (lv_at hl 0 rfl) ?_
  refine lv_iload_n hx hb dX12_unwall_6 rfl (lv_at hl 1 rfl) ?_
  obtain ⟨r4, hc3, hF⟩ := ob1_s hF
  refine k_iall C (k_rV (As := [.int x1]) (rest := []) C (c_X12_isTurret l D q o0 a0 U1 _ x1 hc3) kc_X12_isTurret ml_X12_331 rfl rfl (by decide) hP hD hS (va_recv hK hP (ci := 12) (q0 := 0) rfl rfl) rfl hl.1 rfl (Nat.le_of_ble_eq_true rfl) dX12_unwall_7 (by decide)) hP hD hS ((gad12 q o0 a0 U1).trans (gad12 q o0 a0 U1).symm) (fun H locs hP hD hS => ?_)
  refine lv_if_ne (tgt := 15) hx hb dX12_unwall_10 (by decide) (fun c5 => ?_) (fun c5 => ?_)
  · have hF := op_f hF c5
    refine lv_aload_n hx hb dX12_unwall_15 rfl (lv_at hl 0 rfl) ?_
    refine lv_iload_n hx hb dX12_unwall_16 rfl (lv_at hl 1 rfl) ?_
    obtain ⟨r7, hc6, hF⟩ := ob1_s hF
    refine k_iall C (k_rV (As := [.int x1]) (rest := []) C (c_X12_isWalled l D q o0 a0 U1 _ x1 hc6) kc_X12_isWalled ml_X12_303 rfl rfl (by decide) hP hD hS (va_recv hK hP (ci := 12) (q0 := 0) rfl rfl) rfl hl.1 rfl (Nat.le_of_ble_eq_true rfl) dX12_unwall_17 (by decide)) hP hD hS ((gad12 q o0 a0 U1).trans (gad12 q o0 a0 U1).symm) (fun H locs hP hD hS => ?_)
    refine lv_if_ne (tgt := 25) hx hb dX12_unwall_20 (by decide) (fun c8 => ?_) (fun c8 => ?_)
    · have hF := op_f hF c8
      refine lv_aload_n hx hb dX12_unwall_25 rfl (lv_at hl 0 rfl) ?_
      obtain ⟨U10, hc9, hF⟩ := ob1_s hF
      refine k_vall C (k_rV (As := []) (rest := []) C (c_X12_keep l D q o0 a0 U1 _ hc9) kc_X12_keep ml_X12_355 rfl rfl (by decide) hP hD hS (va_recv hK hP (ci := 12) (q0 := 0) rfl rfl) rfl hl.1 rfl (Nat.le_of_ble_eq_true rfl) dX12_unwall_26 (by decide)) hP hD hS ((gad12 q o0 a0 U10).trans (gad12 q o0 a0 U1).symm) (fun H locs hP hD hS => ?_)
      refine lv_aload_n hx hb dX12_unwall_29 rfl (lv_at hl 0 rfl) ?_
      refine k_get (v := .ref (a0 7)) C fg_X12_33 hP 0 rfl rfl dX12_unwall_30 ?_
      refine lv_bipush (v := (44 : Int32)) hx hb dX12_unwall_33 (by decide) ?_
      refine lv_dup2_11 hx hb dX12_unwall_35 rfl rfl ?_
      obtain ⟨h11, hF⟩ := op_ck hF
      refine k_ild (f := U10.2.2.1 6) C hP 2 rfl h11 dX12_unwall_36 ?_
      refine lv_iconst (v := (1 : Int32)) hx hb dX12_unwall_37 (by decide) ?_
      refine lv_iload_n hx hb dX12_unwall_38 rfl (lv_at hl 1 rfl) ?_
      refine lv_ishl hx hb dX12_unwall_39 ?_
      refine lv_ixor hx hb dX12_unwall_40 ?_
      obtain ⟨h12, hF⟩ := op_ck hF
      obtain ⟨U13, e14, hF⟩ := nw_s hF
      refine k_ist (f := U10.2.2.1 6) (W8 := g12 q o0 a0 U13) C hP hD hS 2 rfl h12 dX12_unwall_41 (by rw [e14]; rfl) (fun H locs hP hD hS => ?_)
      refine lv_iconst (v := (0 : Int32)) hx hb dX12_unwall_42 (by decide) ?_
      cases hF
      exact k_iret C hP hS dX12_unwall_43
    · have hF := op_t hF c8
      refine lv_iconst (v := (1 : Int32)) hx hb dX12_unwall_23 (by decide) ?_
      cases hF
      exact k_iret C hP hS dX12_unwall_24
  · have hF := op_t hF c5
    refine lv_iconst (v := (-1 : Int32)) hx hb dX12_unwall_13 (by decide) ?_
    cases hF
    exact k_iret C hP hS dX12_unwall_14

abbrev rm_X12_days : Room := ({ frames := 2, cells := 0, slots := 0, locals := 43 } : Room)
def F_X12_days (S0 : St) (x1 : Int32) : Option (Int32 × St) := nw (sI S0 0 (0 : Int32)) fun U1 => ob1 (F_X12_isIn x1 (1 : Int32) (60 : Int32)) fun r4 => if r4 = 0 then (some ((-1 : Int32), U1)) else (if oob (42 : Int32) 258 then none else if (U1.2.2.1 6 (42 : Int32).toNatClampNeg) = (400 : Int32) then (some ((0 : Int32), U1)) else (ob1 (F_X12_keep U1) fun U9 => ob2 (F_X12_goesOn U9 x1) fun r11 U12 => some (r11, U12)))
set_option maxRecDepth 100000 in
set_option maxHeartbeats 4000000 in
theorem c_X12_days (l : Launch) (D : va_G) (q : Nat → ClassId) (o0 : Nat) (a0 : Nat → Nat) (S0 : St) (sz : Nat) (x1 : Int32) {r : Int32} {T0 : St} (hF : F_X12_days S0 x1 = some (r, T0)) : Met l yX12_days (Cond.code yX12_days cX12_days 2 (some .int) :: TB) rm_X12_days (PC D q [.ref o0, .int x1] (g12 q o0 a0 S0) sz) ((fun A => QI D A r (g12 q o0 a0 T0)) (va_A (g12 q o0 a0 S0) sz)) 0 0 (va_A (g12 q o0 a0 S0) sz) := by
  refine k_met (w0 := g12 q o0 a0 S0) (Q := fun A => QI D A r (g12 q o0 a0 T0)) (by decide +kernel) (Nat.le_of_ble_eq_true rfl) ?_
  intro p e s m args below meth c A ls C hP hD hS hl
  have hl : lv_has ls 2 [(0, .ref o0), (1, .int x1)] := hl
  unfold F_X12_days at hF
  have C : cx p s m args meth c cX12_days 2 (some .int) RX12 D q A := C
  obtain ⟨hx, hb, hr, hml, hown, hts, hlk, hA, hK, hN, hV⟩ := id C
  refine lv_aload_n hx hb dX12_days_0 rfl (lv_at hl 0 rfl) ?_
  refine lv_iconst (v := (0 : Int32)) hx hb dX12_days_1 (by decide) ?_
  obtain ⟨U1, e2, hF⟩ := nw_s hF
  refine k_put (W8 := g12 q o0 a0 U1) C fp_X12_1 hP hD hS 0 rfl rfl rfl (Nat.le_of_ble_eq_true rfl) dX12_days_2 (by rw [e2]; rfl) (fun H locs hP hD hS => ?_)
  refine lv_iload_n hx hb dX12_days_5 rfl (lv_at hl 1 rfl) ?_
  refine lv_iconst (v := (1 : Int32)) hx hb dX12_days_6 (by decide) ?_
  refine lv_bipush (v := (60 : Int32)) hx hb dX12_days_7 (by decide) ?_
  obtain ⟨r4, hc3, hF⟩ := ob1_s hF
  refine k_inil C (k_rS (As := [.int x1, .int (1 : Int32), .int (60 : Int32)]) (rest := []) C (c_X12_isIn l D q _ x1 (1 : Int32) (60 : Int32) hc3) kc_X12_isIn ml_X12_225 rfl rfl (by decide) (fun k x h => by simp at h) (⟨fun i j x y h => by simp at h, fun k x h => by simp at h⟩ : va_D A []) hS rfl hl.1 rfl (Nat.le_of_ble_eq_true rfl) dX12_days_9 (by decide)) hP hD hS (fun H locs hP hD hS => ?_)
  refine lv_if_ne (tgt := 17) hx hb dX12_days_12 (by decide) (fun c5 => ?_) (fun c5 => ?_)
  · have hF := op_f hF c5
    refine lv_aload_n hx hb dX12_days_17 rfl (lv_at hl 0 rfl) ?_
    refine k_get (v := .ref (a0 7)) C fg_X12_33 hP 0 rfl rfl dX12_days_18 ?_
    refine lv_bipush (v := (42 : Int32)) hx hb dX12_days_21 (by decide) ?_
    obtain ⟨h6, hF⟩ := op_ck hF
    refine k_ild (f := U1.2.2.1 6) C hP 2 rfl h6 dX12_days_23 ?_
    refine lv_sipush (v := (400 : Int32)) hx hb dX12_days_24 (by decide) ?_
    refine lv_icmp_ne (tgt := 32) hx hb dX12_days_27 (by decide) (fun c7 => ?_) (fun c7 => ?_)
    · have hF := op_f hF c7
      refine lv_aload_n hx hb dX12_days_32 rfl (lv_at hl 0 rfl) ?_
      obtain ⟨U9, hc8, hF⟩ := ob1_s hF
      refine k_vall C (k_rV (As := []) (rest := []) C (c_X12_keep l D q o0 a0 U1 _ hc8) kc_X12_keep ml_X12_355 rfl rfl (by decide) hP hD hS (va_recv hK hP (ci := 12) (q0 := 0) rfl rfl) rfl hl.1 rfl (Nat.le_of_ble_eq_true rfl) dX12_days_33 (by decide)) hP hD hS ((gad12 q o0 a0 U9).trans (gad12 q o0 a0 U1).symm) (fun H locs hP hD hS => ?_)
      refine lv_aload_n hx hb dX12_days_36 rfl (lv_at hl 0 rfl) ?_
      refine lv_iload_n hx hb dX12_days_37 rfl (lv_at hl 1 rfl) ?_
      obtain ⟨r11, U12, hc10, hF⟩ := ob2_s hF
      refine k_iall C (k_rV (As := [.int x1]) (rest := []) C (c_X12_goesOn l D q o0 a0 U9 _ x1 hc10) kc_X12_goesOn ml_X12_378 rfl rfl (by decide) hP hD hS (va_recv hK hP (ci := 12) (q0 := 0) rfl rfl) rfl hl.1 rfl (Nat.le_of_ble_eq_true rfl) dX12_days_38 (by decide)) hP hD hS ((gad12 q o0 a0 U12).trans (gad12 q o0 a0 U9).symm) (fun H locs hP hD hS => ?_)
      cases hF
      exact k_iret C hP hS dX12_days_41
    · have hF := op_t hF c7
      refine lv_iconst (v := (0 : Int32)) hx hb dX12_days_30 (by decide) ?_
      cases hF
      exact k_iret C hP hS dX12_days_31
  · have hF := op_t hF c5
    refine lv_iconst (v := (-1 : Int32)) hx hb dX12_days_15 (by decide) ?_
    cases hF
    exact k_iret C hP hS dX12_days_16

abbrev rm_X12_undo : Room := ({ frames := 0, cells := 0, slots := 0, locals := 0 } : Room)
def F_X12_undo_26 (k26 : Int32 × St → Option (Int32 × St)) (x1 : Int32) (S0 : St) : Option (Int32 × St) := if (35 : Int32) ≤ x1 then (some ((S0.1 22), S0)) else (if oob (((35 : Int32) * (S0.1 22)) + x1) 280 then none else if oob ((42 : Int32) + x1) 258 then none else nw (sA S0 6 ((42 : Int32) + x1) (S0.2.2.1 20 (((35 : Int32) * (S0.1 22)) + x1).toNatClampNeg)) fun U4 => k26 ((x1 + 1), U4))
def L_X12_undo_26 (x1 : Int32) (S0 : St) : Option (Int32 × St) := lp (fun kz z => F_X12_undo_26 kz z.1 z.2) FU (x1, S0)
def F_X12_undo (S0 : St) : Option (Int32 × St) := nw (sI S0 0 (0 : Int32)) fun U1 => if (U1.1 22) = 0 then (some ((-1 : Int32), U1)) else (nw (sI U1 22 ((U1.1 22) - (1 : Int32))) fun U4 => L_X12_undo_26 (0 : Int32) U4)
set_option maxRecDepth 100000 in
set_option maxHeartbeats 4000000 in
theorem b_X12_undo_26 {p : Program} {l : Launch} {e : Env} {s : State} {m : MethodId} {args : Array Value} {below : List Frame} {meth : Method} {c : Code} {D : va_G} {q : Nat → ClassId} {A : Nat → Prop} {o0 : Nat} {a0 : Nat → Nat} {r : Int32} {T0 : St} (C : cx p s m args meth c cX12_undo 2 (some .int) RX12 D q A) {k26 : Int32 × St → Option (Int32 × St)} (hk26 : ∀ (x1 : Int32) (S0 : St), k26 (x1, S0) = some (r, T0) → ∀ (H : Heap) (locs : List Loc) (ls : Array Slot), va_P D vwCl (g12 q o0 a0 S0) H → va_D A (g12 q o0 a0 S0) → va_S A s.heap H locs → lv_has ls 2 [(0, .ref o0), (1, .int x1)] → W p l e rm_X12_undo s m args below meth c H locs 0 0 (MQ below (QI D A r (g12 q o0 a0 T0)) args s 0 0 A) (F0 m 26 ls [])) {x1 : Int32} {S0 : St} (hF : F_X12_undo_26 k26 x1 S0 = some (r, T0)) {H : Heap} {locs : List Loc} (hP : va_P D vwCl (g12 q o0 a0 S0) H) (hD : va_D A (g12 q o0 a0 S0)) (hS : va_S A s.heap H locs) {ls : Array Slot} (hl : lv_has ls 2 [(0, .ref o0), (1, .int x1)]) : W p l e rm_X12_undo s m args below meth c H locs 0 0 (MQ below (QI D A r (g12 q o0 a0 T0)) args s 0 0 A) (F0 m 26 ls []) := by
  unfold F_X12_undo_26 at hF
  obtain ⟨hx, hb, hr, hml, hown, hts, hlk, hA, hK, hN, hV⟩ := id C
  refine lv_iload_n hx hb dX12_undo_26 rfl (lv_at hl 1 rfl) ?_
  refine lv_bipush (v := (35 : Int32)) hx hb dX12_undo_27 (by decide) ?_
  refine lv_icmp_ge (tgt := 61) hx hb dX12_undo_29 (by decide) (fun c1 => ?_) (fun c1 => ?_)
  · have hF := op_t hF c1
    refine lv_aload_n hx hb dX12_undo_61 rfl (lv_at hl 0 rfl) ?_
    refine k_get (v := .int (S0.1 22)) C fg_X12_290 hP 0 rfl rfl dX12_undo_62 ?_
    cases hF
    exact k_iret C hP hS dX12_undo_65
  · have hF := op_f hF c1
    refine lv_aload_n hx hb dX12_undo_32 rfl (lv_at hl 0 rfl) ?_
    refine k_get (v := .ref (a0 7)) C fg_X12_33 hP 0 rfl rfl dX12_undo_33 ?_
    refine lv_bipush (v := (42 : Int32)) hx hb dX12_undo_36 (by decide) ?_
    refine lv_iload_n hx hb dX12_undo_38 rfl (lv_at hl 1 rfl) ?_
    refine lv_iadd hx hb dX12_undo_39 ?_
    refine lv_aload_n hx hb dX12_undo_40 rfl (lv_at hl 0 rfl) ?_
    refine k_get (v := .ref (a0 21)) C fg_X12_50 hP 0 rfl rfl dX12_undo_41 ?_
    refine lv_bipush (v := (35 : Int32)) hx hb dX12_undo_44 (by decide) ?_
    refine lv_aload_n hx hb dX12_undo_46 rfl (lv_at hl 0 rfl) ?_
    refine k_get (v := .int (S0.1 22)) C fg_X12_290 hP 0 rfl rfl dX12_undo_47 ?_
    refine lv_imul hx hb dX12_undo_50 ?_
    refine lv_iload_n hx hb dX12_undo_51 rfl (lv_at hl 1 rfl) ?_
    refine lv_iadd hx hb dX12_undo_52 ?_
    obtain ⟨h2, hF⟩ := op_ck hF
    refine k_ild (f := S0.2.2.1 20) C hP 7 rfl h2 dX12_undo_53 ?_
    obtain ⟨h3, hF⟩ := op_ck hF
    obtain ⟨U4, e5, hF⟩ := nw_s hF
    refine k_ist (f := S0.2.2.1 6) (W8 := g12 q o0 a0 U4) C hP hD hS 2 rfl h3 dX12_undo_54 (by rw [e5]; rfl) (fun H locs hP hD hS => ?_)
    refine lv_iinc (v := (x1 + 1)) (lv' := [(1, .int (x1 + 1)), (0, .ref o0)]) hx hb dX12_undo_55 hl (k := 1) rfl rfl (by decide) rfl (fun ls hl => ?_)
    refine lv_goto (tgt := 26) hx hb dX12_undo_58 (by decide) ?_
    exact hk26 (x1 + 1) U4 hF _ _ _ hP hD hS (lv_sub hl [1, 0] rfl)
set_option maxRecDepth 100000 in
set_option maxHeartbeats 4000000 in
theorem l_X12_undo_26 {p : Program} {l : Launch} {e : Env} {s : State} {m : MethodId} {args : Array Value} {below : List Frame} {meth : Method} {c : Code} {D : va_G} {q : Nat → ClassId} {A : Nat → Prop} {o0 : Nat} {a0 : Nat → Nat} {r : Int32} {T0 : St} (C : cx p s m args meth c cX12_undo 2 (some .int) RX12 D q A) {x1 : Int32} {S0 : St} (hF : L_X12_undo_26 x1 S0 = some (r, T0)) : ∀ (H : Heap) (locs : List Loc) (ls : Array Slot), va_P D vwCl (g12 q o0 a0 S0) H → va_D A (g12 q o0 a0 S0) → va_S A s.heap H locs → lv_has ls 2 [(0, .ref o0), (1, .int x1)] → W p l e rm_X12_undo s m args below meth c H locs 0 0 (MQ below (QI D A r (g12 q o0 a0 T0)) args s 0 0 A) (F0 m 26 ls []) :=
  lp_G _ _ (fun z => ∀ (H : Heap) (locs : List Loc) (ls : Array Slot), va_P D vwCl (g12 q o0 a0 z.2) H → va_D A (g12 q o0 a0 z.2) → va_S A s.heap H locs → lv_has ls 2 [(0, .ref o0), (1, .int z.1)] → W p l e rm_X12_undo s m args below meth c H locs 0 0 (MQ below (QI D A r (g12 q o0 a0 T0)) args s 0 0 A) (F0 m 26 ls [])) (fun kz hkz z hz H locs ls hP hD hS hl => b_X12_undo_26 C (fun x1 S0 hz => hkz (x1, S0) hz) hz hP hD hS hl) FU (x1, S0) hF
set_option maxRecDepth 100000 in
set_option maxHeartbeats 4000000 in
theorem c_X12_undo (l : Launch) (D : va_G) (q : Nat → ClassId) (o0 : Nat) (a0 : Nat → Nat) (S0 : St) (sz : Nat) {r : Int32} {T0 : St} (hF : F_X12_undo S0 = some (r, T0)) : Met l yX12_undo (Cond.code yX12_undo cX12_undo 2 (some .int) :: TB) rm_X12_undo (PC D q [.ref o0] (g12 q o0 a0 S0) sz) ((fun A => QI D A r (g12 q o0 a0 T0)) (va_A (g12 q o0 a0 S0) sz)) 0 0 (va_A (g12 q o0 a0 S0) sz) := by
  refine k_met (w0 := g12 q o0 a0 S0) (Q := fun A => QI D A r (g12 q o0 a0 T0)) (by decide +kernel) (Nat.le_of_ble_eq_true rfl) ?_
  intro p e s m args below meth c A ls C hP hD hS hl
  have hl : lv_has ls 2 [(0, .ref o0)] := hl
  unfold F_X12_undo at hF
  have C : cx p s m args meth c cX12_undo 2 (some .int) RX12 D q A := C
  obtain ⟨hx, hb, hr, hml, hown, hts, hlk, hA, hK, hN, hV⟩ := id C
  refine lv_aload_n hx hb dX12_undo_0 rfl (lv_at hl 0 rfl) ?_
  refine lv_iconst (v := (0 : Int32)) hx hb dX12_undo_1 (by decide) ?_
  obtain ⟨U1, e2, hF⟩ := nw_s hF
  refine k_put (W8 := g12 q o0 a0 U1) C fp_X12_1 hP hD hS 0 rfl rfl rfl (Nat.le_of_ble_eq_true rfl) dX12_undo_2 (by rw [e2]; rfl) (fun H locs hP hD hS => ?_)
  refine lv_aload_n hx hb dX12_undo_5 rfl (lv_at hl 0 rfl) ?_
  refine k_get (v := .int (U1.1 22)) C fg_X12_290 hP 0 rfl rfl dX12_undo_6 ?_
  refine lv_if_ne (tgt := 14) hx hb dX12_undo_9 (by decide) (fun c3 => ?_) (fun c3 => ?_)
  · have hF := op_f hF c3
    refine lv_aload_n hx hb dX12_undo_14 rfl (lv_at hl 0 rfl) ?_
    refine lv_dup hx hb dX12_undo_15 rfl ?_
    refine k_get (v := .int (U1.1 22)) C fg_X12_290 hP 0 rfl rfl dX12_undo_16 ?_
    refine lv_iconst (v := (1 : Int32)) hx hb dX12_undo_19 (by decide) ?_
    refine lv_isub hx hb dX12_undo_20 ?_
    obtain ⟨U4, e5, hF⟩ := nw_s hF
    refine k_put (W8 := g12 q o0 a0 U4) C fp_X12_290 hP hD hS 0 rfl rfl rfl (Nat.le_of_ble_eq_true rfl) dX12_undo_21 (by rw [e5]; rfl) (fun H locs hP hD hS => ?_)
    refine lv_iconst (v := (0 : Int32)) hx hb dX12_undo_24 (by decide) ?_
    refine lv_istore_n (lv' := [(1, .int (0 : Int32)), (0, .ref o0)]) hx hb dX12_undo_25 rfl hl (by decide) rfl (fun ls hl => ?_)
    exact l_X12_undo_26 C hF _ _ _ hP hD hS (lv_sub hl [1, 0] rfl)
  · have hF := op_t hF c3
    refine lv_iconst (v := (-1 : Int32)) hx hb dX12_undo_12 (by decide) ?_
    cases hF
    exact k_iret C hP hS dX12_undo_13

abbrev rm_X12_tries : Room := ({ frames := 0, cells := 0, slots := 0, locals := 0 } : Room)
def F_X12_tries_2 (k2 : Int32 × St → Option (St)) (x1 : Int32) (S0 : St) : Option (St) := if (35 : Int32) ≤ x1 then (some (S0)) else (if oob ((42 : Int32) + x1) 258 then none else if oob x1 35 then none else nw (sA S0 21 x1 (S0.2.2.1 6 ((42 : Int32) + x1).toNatClampNeg)) fun U4 => k2 ((x1 + 1), U4))
def L_X12_tries_2 (x1 : Int32) (S0 : St) : Option (St) := lp (fun kz z => F_X12_tries_2 kz z.1 z.2) FU (x1, S0)
def F_X12_tries (S0 : St) : Option (St) := L_X12_tries_2 (0 : Int32) S0
set_option maxRecDepth 100000 in
set_option maxHeartbeats 4000000 in
theorem b_X12_tries_2 {p : Program} {l : Launch} {e : Env} {s : State} {m : MethodId} {args : Array Value} {below : List Frame} {meth : Method} {c : Code} {D : va_G} {q : Nat → ClassId} {A : Nat → Prop} {o0 : Nat} {a0 : Nat → Nat} {T0 : St} (C : cx p s m args meth c cX12_tries 2 none RX12 D q A) {k2 : Int32 × St → Option (St)} (hk2 : ∀ (x1 : Int32) (S0 : St), k2 (x1, S0) = some (T0) → ∀ (H : Heap) (locs : List Loc) (ls : Array Slot), va_P D vwCl (g12 q o0 a0 S0) H → va_D A (g12 q o0 a0 S0) → va_S A s.heap H locs → lv_has ls 2 [(0, .ref o0), (1, .int x1)] → W p l e rm_X12_tries s m args below meth c H locs 0 0 (MQ below (QV D A (g12 q o0 a0 T0)) args s 0 0 A) (F0 m 2 ls [])) {x1 : Int32} {S0 : St} (hF : F_X12_tries_2 k2 x1 S0 = some (T0)) {H : Heap} {locs : List Loc} (hP : va_P D vwCl (g12 q o0 a0 S0) H) (hD : va_D A (g12 q o0 a0 S0)) (hS : va_S A s.heap H locs) {ls : Array Slot} (hl : lv_has ls 2 [(0, .ref o0), (1, .int x1)]) : W p l e rm_X12_tries s m args below meth c H locs 0 0 (MQ below (QV D A (g12 q o0 a0 T0)) args s 0 0 A) (F0 m 2 ls []) := by
  unfold F_X12_tries_2 at hF
  obtain ⟨hx, hb, hr, hml, hown, hts, hlk, hA, hK, hN, hV⟩ := id C
  refine lv_iload_n hx hb dX12_tries_2 rfl (lv_at hl 1 rfl) ?_
  refine lv_bipush (v := (35 : Int32)) hx hb dX12_tries_3 (by decide) ?_
  refine lv_icmp_ge (tgt := 29) hx hb dX12_tries_5 (by decide) (fun c1 => ?_) (fun c1 => ?_)
  · have hF := op_t hF c1
    cases hF
    exact k_vret C hP hS dX12_tries_29
  · have hF := op_f hF c1
    refine lv_aload_n hx hb dX12_tries_8 rfl (lv_at hl 0 rfl) ?_
    refine k_get (v := .ref (a0 22)) C fg_X12_53 hP 0 rfl rfl dX12_tries_9 ?_
    refine lv_iload_n hx hb dX12_tries_12 rfl (lv_at hl 1 rfl) ?_
    refine lv_aload_n hx hb dX12_tries_13 rfl (lv_at hl 0 rfl) ?_
    refine k_get (v := .ref (a0 7)) C fg_X12_33 hP 0 rfl rfl dX12_tries_14 ?_
    refine lv_bipush (v := (42 : Int32)) hx hb dX12_tries_17 (by decide) ?_
    refine lv_iload_n hx hb dX12_tries_19 rfl (lv_at hl 1 rfl) ?_
    refine lv_iadd hx hb dX12_tries_20 ?_
    obtain ⟨h2, hF⟩ := op_ck hF
    refine k_ild (f := S0.2.2.1 6) C hP 2 rfl h2 dX12_tries_21 ?_
    obtain ⟨h3, hF⟩ := op_ck hF
    obtain ⟨U4, e5, hF⟩ := nw_s hF
    refine k_ist (f := S0.2.2.1 21) (W8 := g12 q o0 a0 U4) C hP hD hS 8 rfl h3 dX12_tries_22 (by rw [e5]; rfl) (fun H locs hP hD hS => ?_)
    refine lv_iinc (v := (x1 + 1)) (lv' := [(1, .int (x1 + 1)), (0, .ref o0)]) hx hb dX12_tries_23 hl (k := 1) rfl rfl (by decide) rfl (fun ls hl => ?_)
    refine lv_goto (tgt := 2) hx hb dX12_tries_26 (by decide) ?_
    exact hk2 (x1 + 1) U4 hF _ _ _ hP hD hS (lv_sub hl [1, 0] rfl)
set_option maxRecDepth 100000 in
set_option maxHeartbeats 4000000 in
theorem l_X12_tries_2 {p : Program} {l : Launch} {e : Env} {s : State} {m : MethodId} {args : Array Value} {below : List Frame} {meth : Method} {c : Code} {D : va_G} {q : Nat → ClassId} {A : Nat → Prop} {o0 : Nat} {a0 : Nat → Nat} {T0 : St} (C : cx p s m args meth c cX12_tries 2 none RX12 D q A) {x1 : Int32} {S0 : St} (hF : L_X12_tries_2 x1 S0 = some (T0)) : ∀ (H : Heap) (locs : List Loc) (ls : Array Slot), va_P D vwCl (g12 q o0 a0 S0) H → va_D A (g12 q o0 a0 S0) → va_S A s.heap H locs → lv_has ls 2 [(0, .ref o0), (1, .int x1)] → W p l e rm_X12_tries s m args below meth c H locs 0 0 (MQ below (QV D A (g12 q o0 a0 T0)) args s 0 0 A) (F0 m 2 ls []) :=
  lp_G _ _ (fun z => ∀ (H : Heap) (locs : List Loc) (ls : Array Slot), va_P D vwCl (g12 q o0 a0 z.2) H → va_D A (g12 q o0 a0 z.2) → va_S A s.heap H locs → lv_has ls 2 [(0, .ref o0), (1, .int z.1)] → W p l e rm_X12_tries s m args below meth c H locs 0 0 (MQ below (QV D A (g12 q o0 a0 T0)) args s 0 0 A) (F0 m 2 ls [])) (fun kz hkz z hz H locs ls hP hD hS hl => b_X12_tries_2 C (fun x1 S0 hz => hkz (x1, S0) hz) hz hP hD hS hl) FU (x1, S0) hF
set_option maxRecDepth 100000 in
set_option maxHeartbeats 4000000 in
theorem c_X12_tries (l : Launch) (D : va_G) (q : Nat → ClassId) (o0 : Nat) (a0 : Nat → Nat) (S0 : St) (sz : Nat) {T0 : St} (hF : F_X12_tries S0 = some (T0)) : Met l yX12_tries (Cond.code yX12_tries cX12_tries 2 none :: TB) rm_X12_tries (PC D q [.ref o0] (g12 q o0 a0 S0) sz) ((fun A => QV D A (g12 q o0 a0 T0)) (va_A (g12 q o0 a0 S0) sz)) 0 0 (va_A (g12 q o0 a0 S0) sz) := by
  refine k_met (w0 := g12 q o0 a0 S0) (Q := fun A => QV D A (g12 q o0 a0 T0)) (by decide +kernel) (Nat.le_of_ble_eq_true rfl) ?_
  intro p e s m args below meth c A ls C hP hD hS hl
  have hl : lv_has ls 2 [(0, .ref o0)] := hl
  unfold F_X12_tries at hF
  have C : cx p s m args meth c cX12_tries 2 none RX12 D q A := C
  obtain ⟨hx, hb, hr, hml, hown, hts, hlk, hA, hK, hN, hV⟩ := id C
  refine lv_iconst (v := (0 : Int32)) hx hb dX12_tries_0 (by decide) ?_
  refine lv_istore_n (lv' := [(1, .int (0 : Int32)), (0, .ref o0)]) hx hb dX12_tries_1 rfl hl (by decide) rfl (fun ls hl => ?_)
  exact l_X12_tries_2 C hF _ _ _ hP hD hS (lv_sub hl [1, 0] rfl)

abbrev rm_X12_back : Room := ({ frames := 0, cells := 0, slots := 0, locals := 0 } : Room)
def F_X12_back_2 (k2 : Int32 × St → Option (St)) (x1 : Int32) (S0 : St) : Option (St) := if (35 : Int32) ≤ x1 then (some (S0)) else (if oob x1 35 then none else if oob ((42 : Int32) + x1) 258 then none else nw (sA S0 6 ((42 : Int32) + x1) (S0.2.2.1 21 x1.toNatClampNeg)) fun U4 => k2 ((x1 + 1), U4))
def L_X12_back_2 (x1 : Int32) (S0 : St) : Option (St) := lp (fun kz z => F_X12_back_2 kz z.1 z.2) FU (x1, S0)
def F_X12_back (S0 : St) : Option (St) := L_X12_back_2 (0 : Int32) S0
set_option maxRecDepth 100000 in
set_option maxHeartbeats 4000000 in
theorem b_X12_back_2 {p : Program} {l : Launch} {e : Env} {s : State} {m : MethodId} {args : Array Value} {below : List Frame} {meth : Method} {c : Code} {D : va_G} {q : Nat → ClassId} {A : Nat → Prop} {o0 : Nat} {a0 : Nat → Nat} {T0 : St} (C : cx p s m args meth c cX12_back 2 none RX12 D q A) {k2 : Int32 × St → Option (St)} (hk2 : ∀ (x1 : Int32) (S0 : St), k2 (x1, S0) = some (T0) → ∀ (H : Heap) (locs : List Loc) (ls : Array Slot), va_P D vwCl (g12 q o0 a0 S0) H → va_D A (g12 q o0 a0 S0) → va_S A s.heap H locs → lv_has ls 2 [(0, .ref o0), (1, .int x1)] → W p l e rm_X12_back s m args below meth c H locs 0 0 (MQ below (QV D A (g12 q o0 a0 T0)) args s 0 0 A) (F0 m 2 ls [])) {x1 : Int32} {S0 : St} (hF : F_X12_back_2 k2 x1 S0 = some (T0)) {H : Heap} {locs : List Loc} (hP : va_P D vwCl (g12 q o0 a0 S0) H) (hD : va_D A (g12 q o0 a0 S0)) (hS : va_S A s.heap H locs) {ls : Array Slot} (hl : lv_has ls 2 [(0, .ref o0), (1, .int x1)]) : W p l e rm_X12_back s m args below meth c H locs 0 0 (MQ below (QV D A (g12 q o0 a0 T0)) args s 0 0 A) (F0 m 2 ls []) := by
  unfold F_X12_back_2 at hF
  obtain ⟨hx, hb, hr, hml, hown, hts, hlk, hA, hK, hN, hV⟩ := id C
  refine lv_iload_n hx hb dX12_back_2 rfl (lv_at hl 1 rfl) ?_
  refine lv_bipush (v := (35 : Int32)) hx hb dX12_back_3 (by decide) ?_
  refine lv_icmp_ge (tgt := 29) hx hb dX12_back_5 (by decide) (fun c1 => ?_) (fun c1 => ?_)
  · have hF := op_t hF c1
    cases hF
    exact k_vret C hP hS dX12_back_29
  · have hF := op_f hF c1
    refine lv_aload_n hx hb dX12_back_8 rfl (lv_at hl 0 rfl) ?_
    refine k_get (v := .ref (a0 7)) C fg_X12_33 hP 0 rfl rfl dX12_back_9 ?_
    refine lv_bipush (v := (42 : Int32)) hx hb dX12_back_12 (by decide) ?_
    refine lv_iload_n hx hb dX12_back_14 rfl (lv_at hl 1 rfl) ?_
    refine lv_iadd hx hb dX12_back_15 ?_
    refine lv_aload_n hx hb dX12_back_16 rfl (lv_at hl 0 rfl) ?_
    refine k_get (v := .ref (a0 22)) C fg_X12_53 hP 0 rfl rfl dX12_back_17 ?_
    refine lv_iload_n hx hb dX12_back_20 rfl (lv_at hl 1 rfl) ?_
    obtain ⟨h2, hF⟩ := op_ck hF
    refine k_ild (f := S0.2.2.1 21) C hP 8 rfl h2 dX12_back_21 ?_
    obtain ⟨h3, hF⟩ := op_ck hF
    obtain ⟨U4, e5, hF⟩ := nw_s hF
    refine k_ist (f := S0.2.2.1 6) (W8 := g12 q o0 a0 U4) C hP hD hS 2 rfl h3 dX12_back_22 (by rw [e5]; rfl) (fun H locs hP hD hS => ?_)
    refine lv_iinc (v := (x1 + 1)) (lv' := [(1, .int (x1 + 1)), (0, .ref o0)]) hx hb dX12_back_23 hl (k := 1) rfl rfl (by decide) rfl (fun ls hl => ?_)
    refine lv_goto (tgt := 2) hx hb dX12_back_26 (by decide) ?_
    exact hk2 (x1 + 1) U4 hF _ _ _ hP hD hS (lv_sub hl [1, 0] rfl)
set_option maxRecDepth 100000 in
set_option maxHeartbeats 4000000 in
theorem l_X12_back_2 {p : Program} {l : Launch} {e : Env} {s : State} {m : MethodId} {args : Array Value} {below : List Frame} {meth : Method} {c : Code} {D : va_G} {q : Nat → ClassId} {A : Nat → Prop} {o0 : Nat} {a0 : Nat → Nat} {T0 : St} (C : cx p s m args meth c cX12_back 2 none RX12 D q A) {x1 : Int32} {S0 : St} (hF : L_X12_back_2 x1 S0 = some (T0)) : ∀ (H : Heap) (locs : List Loc) (ls : Array Slot), va_P D vwCl (g12 q o0 a0 S0) H → va_D A (g12 q o0 a0 S0) → va_S A s.heap H locs → lv_has ls 2 [(0, .ref o0), (1, .int x1)] → W p l e rm_X12_back s m args below meth c H locs 0 0 (MQ below (QV D A (g12 q o0 a0 T0)) args s 0 0 A) (F0 m 2 ls []) :=
  lp_G _ _ (fun z => ∀ (H : Heap) (locs : List Loc) (ls : Array Slot), va_P D vwCl (g12 q o0 a0 z.2) H → va_D A (g12 q o0 a0 z.2) → va_S A s.heap H locs → lv_has ls 2 [(0, .ref o0), (1, .int z.1)] → W p l e rm_X12_back s m args below meth c H locs 0 0 (MQ below (QV D A (g12 q o0 a0 T0)) args s 0 0 A) (F0 m 2 ls [])) (fun kz hkz z hz H locs ls hP hD hS hl => b_X12_back_2 C (fun x1 S0 hz => hkz (x1, S0) hz) hz hP hD hS hl) FU (x1, S0) hF
set_option maxRecDepth 100000 in
set_option maxHeartbeats 4000000 in
theorem c_X12_back (l : Launch) (D : va_G) (q : Nat → ClassId) (o0 : Nat) (a0 : Nat → Nat) (S0 : St) (sz : Nat) {T0 : St} (hF : F_X12_back S0 = some (T0)) : Met l yX12_back (Cond.code yX12_back cX12_back 2 none :: TB) rm_X12_back (PC D q [.ref o0] (g12 q o0 a0 S0) sz) ((fun A => QV D A (g12 q o0 a0 T0)) (va_A (g12 q o0 a0 S0) sz)) 0 0 (va_A (g12 q o0 a0 S0) sz) := by
  refine k_met (w0 := g12 q o0 a0 S0) (Q := fun A => QV D A (g12 q o0 a0 T0)) (by decide +kernel) (Nat.le_of_ble_eq_true rfl) ?_
  intro p e s m args below meth c A ls C hP hD hS hl
  have hl : lv_has ls 2 [(0, .ref o0)] := hl
  unfold F_X12_back at hF
  have C : cx p s m args meth c cX12_back 2 none RX12 D q A := C
  obtain ⟨hx, hb, hr, hml, hown, hts, hlk, hA, hK, hN, hV⟩ := id C
  refine lv_iconst (v := (0 : Int32)) hx hb dX12_back_0 (by decide) ?_
  refine lv_istore_n (lv' := [(1, .int (0 : Int32)), (0, .ref o0)]) hx hb dX12_back_1 rfl hl (by decide) rfl (fun ls hl => ?_)
  exact l_X12_back_2 C hF _ _ _ hP hD hS (lv_sub hl [1, 0] rfl)

abbrev rm_X12_behind : Room := ({ frames := 2, cells := 0, slots := 0, locals := 47 } : Room)
def F_X12_behind (S0 : St) (x1 : Int32) (x2 : Int32) : Option (Int32 × St) := nw (sI S0 0 (0 : Int32)) fun U1 => ob1 (F_X12_isIn x1 (0 : Int32) (255 : Int32)) fun r4 => if r4 = 0 then (some ((-1 : Int32), U1)) else (ob1 (F_X12_isTurret U1 x2) fun r7 => if r7 = 0 then (some ((-1 : Int32), U1)) else (ob1 (F_X12_behindOf U1 x1 x2) fun r10 => some (r10, U1)))
set_option maxRecDepth 100000 in
set_option maxHeartbeats 4000000 in
theorem c_X12_behind (l : Launch) (D : va_G) (q : Nat → ClassId) (o0 : Nat) (a0 : Nat → Nat) (S0 : St) (sz : Nat) (x1 : Int32) (x2 : Int32) {r : Int32} {T0 : St} (hF : F_X12_behind S0 x1 x2 = some (r, T0)) : Met l yX12_behind (Cond.code yX12_behind cX12_behind 3 (some .int) :: TB) rm_X12_behind (PC D q [.ref o0, .int x1, .int x2] (g12 q o0 a0 S0) sz) ((fun A => QI D A r (g12 q o0 a0 T0)) (va_A (g12 q o0 a0 S0) sz)) 0 0 (va_A (g12 q o0 a0 S0) sz) := by
  refine k_met (w0 := g12 q o0 a0 S0) (Q := fun A => QI D A r (g12 q o0 a0 T0)) (by decide +kernel) (Nat.le_of_ble_eq_true rfl) ?_
  intro p e s m args below meth c A ls C hP hD hS hl
  have hl : lv_has ls 3 [(0, .ref o0), (1, .int x1), (2, .int x2)] := hl
  unfold F_X12_behind at hF
  have C : cx p s m args meth c cX12_behind 3 (some .int) RX12 D q A := C
  obtain ⟨hx, hb, hr, hml, hown, hts, hlk, hA, hK, hN, hV⟩ := id C
  refine lv_aload_n hx hb dX12_behind_0 rfl (lv_at hl 0 rfl) ?_
  refine lv_iconst (v := (0 : Int32)) hx hb dX12_behind_1 (by decide) ?_
  obtain ⟨U1, e2, hF⟩ := nw_s hF
  refine k_put (W8 := g12 q o0 a0 U1) C fp_X12_1 hP hD hS 0 rfl rfl rfl (Nat.le_of_ble_eq_true rfl) dX12_behind_2 (by rw [e2]; rfl) (fun H locs hP hD hS => ?_)
  refine lv_iload_n hx hb dX12_behind_5 rfl (lv_at hl 1 rfl) ?_
  refine lv_iconst (v := (0 : Int32)) hx hb dX12_behind_6 (by decide) ?_
  refine lv_sipush (v := (255 : Int32)) hx hb dX12_behind_7 (by decide) ?_
  obtain ⟨r4, hc3, hF⟩ := ob1_s hF
  refine k_inil C (k_rS (As := [.int x1, .int (0 : Int32), .int (255 : Int32)]) (rest := []) C (c_X12_isIn l D q _ x1 (0 : Int32) (255 : Int32) hc3) kc_X12_isIn ml_X12_225 rfl rfl (by decide) (fun k x h => by simp at h) (⟨fun i j x y h => by simp at h, fun k x h => by simp at h⟩ : va_D A []) hS rfl hl.1 rfl (Nat.le_of_ble_eq_true rfl) dX12_behind_10 (by decide)) hP hD hS (fun H locs hP hD hS => ?_)
  refine lv_if_eq (tgt := 33) hx hb dX12_behind_13 (by decide) (fun c5 => ?_) (fun c5 => ?_)
  · have hF := op_t hF c5
    refine lv_iconst (v := (-1 : Int32)) hx hb dX12_behind_33 (by decide) ?_
    cases hF
    exact k_iret C hP hS dX12_behind_34
  · have hF := op_f hF c5
    refine lv_aload_n hx hb dX12_behind_16 rfl (lv_at hl 0 rfl) ?_
    refine lv_iload_n hx hb dX12_behind_17 rfl (lv_at hl 2 rfl) ?_
    obtain ⟨r7, hc6, hF⟩ := ob1_s hF
    refine k_iall C (k_rV (As := [.int x2]) (rest := []) C (c_X12_isTurret l D q o0 a0 U1 _ x2 hc6) kc_X12_isTurret ml_X12_331 rfl rfl (by decide) hP hD hS (va_recv hK hP (ci := 12) (q0 := 0) rfl rfl) rfl hl.1 rfl (Nat.le_of_ble_eq_true rfl) dX12_behind_18 (by decide)) hP hD hS ((gad12 q o0 a0 U1).trans (gad12 q o0 a0 U1).symm) (fun H locs hP hD hS => ?_)
    refine lv_if_eq (tgt := 33) hx hb dX12_behind_21 (by decide) (fun c8 => ?_) (fun c8 => ?_)
    · have hF := op_t hF c8
      refine lv_iconst (v := (-1 : Int32)) hx hb dX12_behind_33 (by decide) ?_
      cases hF
      exact k_iret C hP hS dX12_behind_34
    · have hF := op_f hF c8
      refine lv_aload_n hx hb dX12_behind_24 rfl (lv_at hl 0 rfl) ?_
      refine lv_iload_n hx hb dX12_behind_25 rfl (lv_at hl 1 rfl) ?_
      refine lv_iload_n hx hb dX12_behind_26 rfl (lv_at hl 2 rfl) ?_
      obtain ⟨r10, hc9, hF⟩ := ob1_s hF
      refine k_iall C (k_rV (As := [.int x1, .int x2]) (rest := []) C (c_X12_behindOf l D q o0 a0 U1 _ x1 x2 hc9) kc_X12_behindOf ml_X12_346 rfl rfl (by decide) hP hD hS (va_recv hK hP (ci := 12) (q0 := 0) rfl rfl) rfl hl.1 rfl (Nat.le_of_ble_eq_true rfl) dX12_behind_27 (by decide)) hP hD hS ((gad12 q o0 a0 U1).trans (gad12 q o0 a0 U1).symm) (fun H locs hP hD hS => ?_)
      refine lv_goto (tgt := 34) hx hb dX12_behind_30 (by decide) ?_
      cases hF
      exact k_iret C hP hS dX12_behind_34

abbrev rm_X12_laysFew : Room := ({ frames := 2, cells := 0, slots := 0, locals := 47 } : Room)
def F_X12_laysFew_131 (k39 : Int32 × Int32 × St → Option (St)) (k48 : Int32 × Int32 × Int32 × St → Option (St)) (k59 : Int32 × Int32 × Int32 × Int32 × St → Option (St)) (x2 : Int32) (x3 : Int32) (x4 : Int32) (x5 : Int32) (S0 : St) : Option (St) := k59 (x2, x3, x4, (x5 + 1), S0)
def F_X12_laysFew_59 (k39 : Int32 × Int32 × St → Option (St)) (k48 : Int32 × Int32 × Int32 × St → Option (St)) (k59 : Int32 × Int32 × Int32 × Int32 × St → Option (St)) (x2 : Int32) (x3 : Int32) (x4 : Int32) (x5 : Int32) (S0 : St) : Option (St) := if oob (0 : Int32) 258 then none else if (S0.2.2.1 6 (0 : Int32).toNatClampNeg) ≤ x5 then (k48 (x2, x3, (x4 + 1), S0)) else (ob1 (F_X12_bitOf x2 x5) fun r4 => if r4 = 0 then (F_X12_laysFew_131 k39 k48 k59 x2 x3 x4 x5 S0) else (ob1 (F_X12_behindOf S0 x4 x5) fun r7 => if oob r7 256 then none else if oob x4 256 then none else if ((S0.2.2.1 23 r7.toNatClampNeg) + (1 : Int32)) < (S0.2.2.1 23 x4.toNatClampNeg) then (ob1 (F_X12_behindOf S0 x4 x5) fun r12 => if oob r12 256 then none else if oob x4 256 then none else nw (sA S0 23 x4 ((S0.2.2.1 23 r12.toNatClampNeg) + (1 : Int32))) fun U15 => F_X12_laysFew_131 k39 k48 k59 x2 (1 : Int32) x4 x5 U15) else (F_X12_laysFew_131 k39 k48 k59 x2 x3 x4 x5 S0)))
def L_X12_laysFew_59 (k39 : Int32 × Int32 × St → Option (St)) (k48 : Int32 × Int32 × Int32 × St → Option (St)) (x2 : Int32) (x3 : Int32) (x4 : Int32) (x5 : Int32) (S0 : St) : Option (St) := lp (fun kz z => F_X12_laysFew_59 k39 k48 kz z.1 z.2.1 z.2.2.1 z.2.2.2.1 z.2.2.2.2) FU (x2, x3, x4, x5, S0)
def F_X12_laysFew_48 (k39 : Int32 × Int32 × St → Option (St)) (k48 : Int32 × Int32 × Int32 × St → Option (St)) (x2 : Int32) (x3 : Int32) (x4 : Int32) (S0 : St) : Option (St) := if (256 : Int32) ≤ x4 then (k39 (x2, x3, S0)) else (L_X12_laysFew_59 k39 k48 x2 x3 x4 (0 : Int32) S0)
def L_X12_laysFew_48 (k39 : Int32 × Int32 × St → Option (St)) (x2 : Int32) (x3 : Int32) (x4 : Int32) (S0 : St) : Option (St) := lp (fun kz z => F_X12_laysFew_48 k39 kz z.1 z.2.1 z.2.2.1 z.2.2.2) FU (x2, x3, x4, S0)
def F_X12_laysFew_39 (k39 : Int32 × Int32 × St → Option (St)) (x2 : Int32) (x3 : Int32) (S0 : St) : Option (St) := if x3 = 0 then (some (S0)) else (L_X12_laysFew_48 k39 x2 (0 : Int32) (0 : Int32) S0)
def L_X12_laysFew_39 (x2 : Int32) (x3 : Int32) (S0 : St) : Option (St) := lp (fun kz z => F_X12_laysFew_39 kz z.1 z.2.1 z.2.2) FU (x2, x3, S0)
def F_X12_laysFew_30 (k2 : Int32 × Int32 × Int32 × St → Option (St)) (x1 : Int32) (x2 : Int32) (x3 : Int32) (s1 : Int32) (s2 : Int32) (S0 : St) : Option (St) := if oob s1 256 then none else nw (sA S0 23 s1 s2) fun U2 => k2 (x1, x2, (x3 + 1), U2)
def F_X12_laysFew_2 (k2 : Int32 × Int32 × Int32 × St → Option (St)) (x1 : Int32) (x2 : Int32) (x3 : Int32) (S0 : St) : Option (St) := if (256 : Int32) ≤ x3 then (L_X12_laysFew_39 x2 (1 : Int32) S0) else (ob1 (F_X12_isPleased S0 x1 x3) fun r3 => if r3 = 0 then (F_X12_laysFew_30 k2 x1 x2 x3 x3 (1000000 : Int32) S0) else (F_X12_laysFew_30 k2 x1 x2 x3 x3 (0 : Int32) S0))
def L_X12_laysFew_2 (x1 : Int32) (x2 : Int32) (x3 : Int32) (S0 : St) : Option (St) := lp (fun kz z => F_X12_laysFew_2 kz z.1 z.2.1 z.2.2.1 z.2.2.2) FU (x1, x2, x3, S0)
def F_X12_laysFew (S0 : St) (x1 : Int32) (x2 : Int32) : Option (St) := L_X12_laysFew_2 x1 x2 (0 : Int32) S0
set_option maxRecDepth 100000 in
set_option maxHeartbeats 4000000 in
theorem b_X12_laysFew_131 {p : Program} {l : Launch} {e : Env} {s : State} {m : MethodId} {args : Array Value} {below : List Frame} {meth : Method} {c : Code} {D : va_G} {q : Nat → ClassId} {A : Nat → Prop} {o0 : Nat} {a0 : Nat → Nat} {T0 : St} (C : cx p s m args meth c cX12_laysFew 6 none RX12 D q A) {k39 : Int32 × Int32 × St → Option (St)} (hk39 : ∀ (x2 : Int32) (x3 : Int32) (S0 : St), k39 (x2, x3, S0) = some (T0) → ∀ (H : Heap) (locs : List Loc) (ls : Array Slot), va_P D vwCl (g12 q o0 a0 S0) H → va_D A (g12 q o0 a0 S0) → va_S A s.heap H locs → lv_has ls 6 [(0, .ref o0), (2, .int x2), (3, .int x3)] → W p l e rm_X12_laysFew s m args below meth c H locs 0 0 (MQ below (QV D A (g12 q o0 a0 T0)) args s 0 0 A) (F0 m 39 ls [])) {k48 : Int32 × Int32 × Int32 × St → Option (St)} (hk48 : ∀ (x2 : Int32) (x3 : Int32) (x4 : Int32) (S0 : St), k48 (x2, x3, x4, S0) = some (T0) → ∀ (H : Heap) (locs : List Loc) (ls : Array Slot), va_P D vwCl (g12 q o0 a0 S0) H → va_D A (g12 q o0 a0 S0) → va_S A s.heap H locs → lv_has ls 6 [(0, .ref o0), (2, .int x2), (3, .int x3), (4, .int x4)] → W p l e rm_X12_laysFew s m args below meth c H locs 0 0 (MQ below (QV D A (g12 q o0 a0 T0)) args s 0 0 A) (F0 m 48 ls [])) {k59 : Int32 × Int32 × Int32 × Int32 × St → Option (St)} (hk59 : ∀ (x2 : Int32) (x3 : Int32) (x4 : Int32) (x5 : Int32) (S0 : St), k59 (x2, x3, x4, x5, S0) = some (T0) → ∀ (H : Heap) (locs : List Loc) (ls : Array Slot), va_P D vwCl (g12 q o0 a0 S0) H → va_D A (g12 q o0 a0 S0) → va_S A s.heap H locs → lv_has ls 6 [(0, .ref o0), (2, .int x2), (3, .int x3), (4, .int x4), (5, .int x5)] → W p l e rm_X12_laysFew s m args below meth c H locs 0 0 (MQ below (QV D A (g12 q o0 a0 T0)) args s 0 0 A) (F0 m 59 ls [])) {x2 : Int32} {x3 : Int32} {x4 : Int32} {x5 : Int32} {S0 : St} (hF : F_X12_laysFew_131 k39 k48 k59 x2 x3 x4 x5 S0 = some (T0)) {H : Heap} {locs : List Loc} (hP : va_P D vwCl (g12 q o0 a0 S0) H) (hD : va_D A (g12 q o0 a0 S0)) (hS : va_S A s.heap H locs) {ls : Array Slot} (hl : lv_has ls 6 [(0, .ref o0), (2, .int x2), (3, .int x3), (4, .int x4), (5, .int x5)]) : W p l e rm_X12_laysFew s m args below meth c H locs 0 0 (MQ below (QV D A (g12 q o0 a0 T0)) args s 0 0 A) (F0 m 131 ls []) := by
  unfold F_X12_laysFew_131 at hF
  obtain ⟨hx, hb, hr, hml, hown, hts, hlk, hA, hK, hN, hV⟩ := id C
  refine lv_iinc (v := (x5 + 1)) (lv' := [(5, .int (x5 + 1)), (0, .ref o0), (2, .int x2), (3, .int x3), (4, .int x4)]) hx hb dX12_laysFew_131 hl (k := 4) rfl rfl (by decide) rfl (fun ls hl => ?_)
  refine lv_goto (tgt := 59) hx hb dX12_laysFew_134 (by decide) ?_
  exact hk59 x2 x3 x4 (x5 + 1) S0 hF _ _ _ hP hD hS (lv_sub hl [1, 2, 3, 4, 0] rfl)
set_option maxRecDepth 100000 in
set_option maxHeartbeats 4000000 in
theorem b_X12_laysFew_59 {p : Program} {l : Launch} {e : Env} {s : State} {m : MethodId} {args : Array Value} {below : List Frame} {meth : Method} {c : Code} {D : va_G} {q : Nat → ClassId} {A : Nat → Prop} {o0 : Nat} {a0 : Nat → Nat} {T0 : St} (C : cx p s m args meth c cX12_laysFew 6 none RX12 D q A) {k39 : Int32 × Int32 × St → Option (St)} (hk39 : ∀ (x2 : Int32) (x3 : Int32) (S0 : St), k39 (x2, x3, S0) = some (T0) → ∀ (H : Heap) (locs : List Loc) (ls : Array Slot), va_P D vwCl (g12 q o0 a0 S0) H → va_D A (g12 q o0 a0 S0) → va_S A s.heap H locs → lv_has ls 6 [(0, .ref o0), (2, .int x2), (3, .int x3)] → W p l e rm_X12_laysFew s m args below meth c H locs 0 0 (MQ below (QV D A (g12 q o0 a0 T0)) args s 0 0 A) (F0 m 39 ls [])) {k48 : Int32 × Int32 × Int32 × St → Option (St)} (hk48 : ∀ (x2 : Int32) (x3 : Int32) (x4 : Int32) (S0 : St), k48 (x2, x3, x4, S0) = some (T0) → ∀ (H : Heap) (locs : List Loc) (ls : Array Slot), va_P D vwCl (g12 q o0 a0 S0) H → va_D A (g12 q o0 a0 S0) → va_S A s.heap H locs → lv_has ls 6 [(0, .ref o0), (2, .int x2), (3, .int x3), (4, .int x4)] → W p l e rm_X12_laysFew s m args below meth c H locs 0 0 (MQ below (QV D A (g12 q o0 a0 T0)) args s 0 0 A) (F0 m 48 ls [])) {k59 : Int32 × Int32 × Int32 × Int32 × St → Option (St)} (hk59 : ∀ (x2 : Int32) (x3 : Int32) (x4 : Int32) (x5 : Int32) (S0 : St), k59 (x2, x3, x4, x5, S0) = some (T0) → ∀ (H : Heap) (locs : List Loc) (ls : Array Slot), va_P D vwCl (g12 q o0 a0 S0) H → va_D A (g12 q o0 a0 S0) → va_S A s.heap H locs → lv_has ls 6 [(0, .ref o0), (2, .int x2), (3, .int x3), (4, .int x4), (5, .int x5)] → W p l e rm_X12_laysFew s m args below meth c H locs 0 0 (MQ below (QV D A (g12 q o0 a0 T0)) args s 0 0 A) (F0 m 59 ls [])) {x2 : Int32} {x3 : Int32} {x4 : Int32} {x5 : Int32} {S0 : St} (hF : F_X12_laysFew_59 k39 k48 k59 x2 x3 x4 x5 S0 = some (T0)) {H : Heap} {locs : List Loc} (hP : va_P D vwCl (g12 q o0 a0 S0) H) (hD : va_D A (g12 q o0 a0 S0)) (hS : va_S A s.heap H locs) {ls : Array Slot} (hl : lv_has ls 6 [(0, .ref o0), (2, .int x2), (3, .int x3), (4, .int x4), (5, .int x5)]) : W p l e rm_X12_laysFew s m args below meth c H locs 0 0 (MQ below (QV D A (g12 q o0 a0 T0)) args s 0 0 A) (F0 m 59 ls []) := by
  unfold F_X12_laysFew_59 at hF
  obtain ⟨hx, hb, hr, hml, hown, hts, hlk, hA, hK, hN, hV⟩ := id C
  refine lv_iload hx hb dX12_laysFew_59 (lv_at hl 4 rfl) ?_
  refine lv_aload_n hx hb dX12_laysFew_61 rfl (lv_at hl 0 rfl) ?_
  refine k_get (v := .ref (a0 7)) C fg_X12_33 hP 0 rfl rfl dX12_laysFew_62 ?_
  refine lv_iconst (v := (0 : Int32)) hx hb dX12_laysFew_65 (by decide) ?_
  obtain ⟨h1, hF⟩ := op_ck hF
  refine k_ild (f := S0.2.2.1 6) C hP 2 rfl h1 dX12_laysFew_66 ?_
  refine lv_icmp_ge (tgt := 137) hx hb dX12_laysFew_67 (by decide) (fun c2 => ?_) (fun c2 => ?_)
  · have hF := op_t hF c2
    refine lv_iinc (v := (x4 + 1)) (lv' := [(4, .int (x4 + 1)), (0, .ref o0), (2, .int x2), (3, .int x3), (5, .int x5)]) hx hb dX12_laysFew_137 hl (k := 3) rfl rfl (by decide) rfl (fun ls hl => ?_)
    refine lv_goto (tgt := 48) hx hb dX12_laysFew_140 (by decide) ?_
    exact hk48 x2 x3 (x4 + 1) S0 hF _ _ _ hP hD hS (lv_sub hl [1, 2, 3, 0] rfl)
  · have hF := op_f hF c2
    refine lv_iload_n hx hb dX12_laysFew_70 rfl (lv_at hl 1 rfl) ?_
    refine lv_iload hx hb dX12_laysFew_71 (lv_at hl 4 rfl) ?_
    obtain ⟨r4, hc3, hF⟩ := ob1_s hF
    refine k_inil C (k_rS (As := [.int x2, .int x5]) (rest := []) C (c_X12_bitOf l D q _ x2 x5 hc3) kc_X12_bitOf ml_X12_275 rfl rfl (by decide) (fun k x h => by simp at h) (⟨fun i j x y h => by simp at h, fun k x h => by simp at h⟩ : va_D A []) hS rfl hl.1 rfl (Nat.le_of_ble_eq_true rfl) dX12_laysFew_73 (by decide)) hP hD hS (fun H locs hP hD hS => ?_)
    refine lv_if_eq (tgt := 131) hx hb dX12_laysFew_76 (by decide) (fun c5 => ?_) (fun c5 => ?_)
    · have hF := op_t hF c5
      exact b_X12_laysFew_131 C hk39 hk48 hk59 hF hP hD hS (lv_sub hl [0, 1, 2, 3, 4] rfl)
    · have hF := op_f hF c5
      refine lv_aload_n hx hb dX12_laysFew_79 rfl (lv_at hl 0 rfl) ?_
      refine k_get (v := .ref (a0 24)) C fg_X12_56 hP 0 rfl rfl dX12_laysFew_80 ?_
      refine lv_aload_n hx hb dX12_laysFew_83 rfl (lv_at hl 0 rfl) ?_
      refine lv_iload hx hb dX12_laysFew_84 (lv_at hl 3 rfl) ?_
      refine lv_iload hx hb dX12_laysFew_86 (lv_at hl 4 rfl) ?_
      obtain ⟨r7, hc6, hF⟩ := ob1_s hF
      refine k_iall C (k_rV (As := [.int x4, .int x5]) (rest := [.ref (a0 24)]) C (c_X12_behindOf l D q o0 a0 S0 _ x4 x5 hc6) kc_X12_behindOf ml_X12_346 rfl rfl (by decide) hP hD hS (va_recv hK hP (ci := 12) (q0 := 0) rfl rfl) rfl hl.1 rfl (Nat.le_of_ble_eq_true rfl) dX12_laysFew_88 (by decide)) hP hD hS ((gad12 q o0 a0 S0).trans (gad12 q o0 a0 S0).symm) (fun H locs hP hD hS => ?_)
      obtain ⟨h8, hF⟩ := op_ck hF
      refine k_ild (f := S0.2.2.1 23) C hP 9 rfl h8 dX12_laysFew_91 ?_
      refine lv_iconst (v := (1 : Int32)) hx hb dX12_laysFew_92 (by decide) ?_
      refine lv_iadd hx hb dX12_laysFew_93 ?_
      refine lv_aload_n hx hb dX12_laysFew_94 rfl (lv_at hl 0 rfl) ?_
      refine k_get (v := .ref (a0 24)) C fg_X12_56 hP 0 rfl rfl dX12_laysFew_95 ?_
      refine lv_iload hx hb dX12_laysFew_98 (lv_at hl 3 rfl) ?_
      obtain ⟨h9, hF⟩ := op_ck hF
      refine k_ild (f := S0.2.2.1 23) C hP 9 rfl h9 dX12_laysFew_100 ?_
      refine lv_icmp_lt (tgt := 107) hx hb dX12_laysFew_101 (by decide) (fun c10 => ?_) (fun c10 => ?_)
      · have hF := op_t hF c10
        refine lv_aload_n hx hb dX12_laysFew_107 rfl (lv_at hl 0 rfl) ?_
        refine k_get (v := .ref (a0 24)) C fg_X12_56 hP 0 rfl rfl dX12_laysFew_108 ?_
        refine lv_iload hx hb dX12_laysFew_111 (lv_at hl 3 rfl) ?_
        refine lv_aload_n hx hb dX12_laysFew_113 rfl (lv_at hl 0 rfl) ?_
        refine k_get (v := .ref (a0 24)) C fg_X12_56 hP 0 rfl rfl dX12_laysFew_114 ?_
        refine lv_aload_n hx hb dX12_laysFew_117 rfl (lv_at hl 0 rfl) ?_
        refine lv_iload hx hb dX12_laysFew_118 (lv_at hl 3 rfl) ?_
        refine lv_iload hx hb dX12_laysFew_120 (lv_at hl 4 rfl) ?_
        obtain ⟨r12, hc11, hF⟩ := ob1_s hF
        refine k_iall C (k_rV (As := [.int x4, .int x5]) (rest := [.ref (a0 24), .int x4, .ref (a0 24)]) C (c_X12_behindOf l D q o0 a0 S0 _ x4 x5 hc11) kc_X12_behindOf ml_X12_346 rfl rfl (by decide) hP hD hS (va_recv hK hP (ci := 12) (q0 := 0) rfl rfl) rfl hl.1 rfl (Nat.le_of_ble_eq_true rfl) dX12_laysFew_122 (by decide)) hP hD hS ((gad12 q o0 a0 S0).trans (gad12 q o0 a0 S0).symm) (fun H locs hP hD hS => ?_)
        obtain ⟨h13, hF⟩ := op_ck hF
        refine k_ild (f := S0.2.2.1 23) C hP 9 rfl h13 dX12_laysFew_125 ?_
        refine lv_iconst (v := (1 : Int32)) hx hb dX12_laysFew_126 (by decide) ?_
        refine lv_iadd hx hb dX12_laysFew_127 ?_
        obtain ⟨h14, hF⟩ := op_ck hF
        obtain ⟨U15, e16, hF⟩ := nw_s hF
        refine k_ist (f := S0.2.2.1 23) (W8 := g12 q o0 a0 U15) C hP hD hS 9 rfl h14 dX12_laysFew_128 (by rw [e16]; rfl) (fun H locs hP hD hS => ?_)
        refine lv_iconst (v := (1 : Int32)) hx hb dX12_laysFew_129 (by decide) ?_
        refine lv_istore_n (lv' := [(3, .int (1 : Int32)), (0, .ref o0), (2, .int x2), (4, .int x4), (5, .int x5)]) hx hb dX12_laysFew_130 rfl hl (by decide) rfl (fun ls hl => ?_)
        exact b_X12_laysFew_131 C hk39 hk48 hk59 hF hP hD hS (lv_sub hl [1, 2, 0, 3, 4] rfl)
      · have hF := op_f hF c10
        refine lv_goto (tgt := 131) hx hb dX12_laysFew_104 (by decide) ?_
        exact b_X12_laysFew_131 C hk39 hk48 hk59 hF hP hD hS (lv_sub hl [0, 1, 2, 3, 4] rfl)
set_option maxRecDepth 100000 in
set_option maxHeartbeats 4000000 in
theorem l_X12_laysFew_59 {p : Program} {l : Launch} {e : Env} {s : State} {m : MethodId} {args : Array Value} {below : List Frame} {meth : Method} {c : Code} {D : va_G} {q : Nat → ClassId} {A : Nat → Prop} {o0 : Nat} {a0 : Nat → Nat} {T0 : St} (C : cx p s m args meth c cX12_laysFew 6 none RX12 D q A) {k39 : Int32 × Int32 × St → Option (St)} (hk39 : ∀ (x2 : Int32) (x3 : Int32) (S0 : St), k39 (x2, x3, S0) = some (T0) → ∀ (H : Heap) (locs : List Loc) (ls : Array Slot), va_P D vwCl (g12 q o0 a0 S0) H → va_D A (g12 q o0 a0 S0) → va_S A s.heap H locs → lv_has ls 6 [(0, .ref o0), (2, .int x2), (3, .int x3)] → W p l e rm_X12_laysFew s m args below meth c H locs 0 0 (MQ below (QV D A (g12 q o0 a0 T0)) args s 0 0 A) (F0 m 39 ls [])) {k48 : Int32 × Int32 × Int32 × St → Option (St)} (hk48 : ∀ (x2 : Int32) (x3 : Int32) (x4 : Int32) (S0 : St), k48 (x2, x3, x4, S0) = some (T0) → ∀ (H : Heap) (locs : List Loc) (ls : Array Slot), va_P D vwCl (g12 q o0 a0 S0) H → va_D A (g12 q o0 a0 S0) → va_S A s.heap H locs → lv_has ls 6 [(0, .ref o0), (2, .int x2), (3, .int x3), (4, .int x4)] → W p l e rm_X12_laysFew s m args below meth c H locs 0 0 (MQ below (QV D A (g12 q o0 a0 T0)) args s 0 0 A) (F0 m 48 ls [])) {x2 : Int32} {x3 : Int32} {x4 : Int32} {x5 : Int32} {S0 : St} (hF : L_X12_laysFew_59 k39 k48 x2 x3 x4 x5 S0 = some (T0)) : ∀ (H : Heap) (locs : List Loc) (ls : Array Slot), va_P D vwCl (g12 q o0 a0 S0) H → va_D A (g12 q o0 a0 S0) → va_S A s.heap H locs → lv_has ls 6 [(0, .ref o0), (2, .int x2), (3, .int x3), (4, .int x4), (5, .int x5)] → W p l e rm_X12_laysFew s m args below meth c H locs 0 0 (MQ below (QV D A (g12 q o0 a0 T0)) args s 0 0 A) (F0 m 59 ls []) :=
  lp_G _ _ (fun z => ∀ (H : Heap) (locs : List Loc) (ls : Array Slot), va_P D vwCl (g12 q o0 a0 z.2.2.2.2) H → va_D A (g12 q o0 a0 z.2.2.2.2) → va_S A s.heap H locs → lv_has ls 6 [(0, .ref o0), (2, .int z.1), (3, .int z.2.1), (4, .int z.2.2.1), (5, .int z.2.2.2.1)] → W p l e rm_X12_laysFew s m args below meth c H locs 0 0 (MQ below (QV D A (g12 q o0 a0 T0)) args s 0 0 A) (F0 m 59 ls [])) (fun kz hkz z hz H locs ls hP hD hS hl => b_X12_laysFew_59 C hk39 hk48 (fun x2 x3 x4 x5 S0 hz => hkz (x2, x3, x4, x5, S0) hz) hz hP hD hS hl) FU (x2, x3, x4, x5, S0) hF
set_option maxRecDepth 100000 in
set_option maxHeartbeats 4000000 in
theorem b_X12_laysFew_48 {p : Program} {l : Launch} {e : Env} {s : State} {m : MethodId} {args : Array Value} {below : List Frame} {meth : Method} {c : Code} {D : va_G} {q : Nat → ClassId} {A : Nat → Prop} {o0 : Nat} {a0 : Nat → Nat} {T0 : St} (C : cx p s m args meth c cX12_laysFew 6 none RX12 D q A) {k39 : Int32 × Int32 × St → Option (St)} (hk39 : ∀ (x2 : Int32) (x3 : Int32) (S0 : St), k39 (x2, x3, S0) = some (T0) → ∀ (H : Heap) (locs : List Loc) (ls : Array Slot), va_P D vwCl (g12 q o0 a0 S0) H → va_D A (g12 q o0 a0 S0) → va_S A s.heap H locs → lv_has ls 6 [(0, .ref o0), (2, .int x2), (3, .int x3)] → W p l e rm_X12_laysFew s m args below meth c H locs 0 0 (MQ below (QV D A (g12 q o0 a0 T0)) args s 0 0 A) (F0 m 39 ls [])) {k48 : Int32 × Int32 × Int32 × St → Option (St)} (hk48 : ∀ (x2 : Int32) (x3 : Int32) (x4 : Int32) (S0 : St), k48 (x2, x3, x4, S0) = some (T0) → ∀ (H : Heap) (locs : List Loc) (ls : Array Slot), va_P D vwCl (g12 q o0 a0 S0) H → va_D A (g12 q o0 a0 S0) → va_S A s.heap H locs → lv_has ls 6 [(0, .ref o0), (2, .int x2), (3, .int x3), (4, .int x4)] → W p l e rm_X12_laysFew s m args below meth c H locs 0 0 (MQ below (QV D A (g12 q o0 a0 T0)) args s 0 0 A) (F0 m 48 ls [])) {x2 : Int32} {x3 : Int32} {x4 : Int32} {S0 : St} (hF : F_X12_laysFew_48 k39 k48 x2 x3 x4 S0 = some (T0)) {H : Heap} {locs : List Loc} (hP : va_P D vwCl (g12 q o0 a0 S0) H) (hD : va_D A (g12 q o0 a0 S0)) (hS : va_S A s.heap H locs) {ls : Array Slot} (hl : lv_has ls 6 [(0, .ref o0), (2, .int x2), (3, .int x3), (4, .int x4)]) : W p l e rm_X12_laysFew s m args below meth c H locs 0 0 (MQ below (QV D A (g12 q o0 a0 T0)) args s 0 0 A) (F0 m 48 ls []) := by
  unfold F_X12_laysFew_48 at hF
  obtain ⟨hx, hb, hr, hml, hown, hts, hlk, hA, hK, hN, hV⟩ := id C
  refine lv_iload hx hb dX12_laysFew_48 (lv_at hl 3 rfl) ?_
  refine lv_sipush (v := (256 : Int32)) hx hb dX12_laysFew_50 (by decide) ?_
  refine lv_icmp_ge (tgt := 143) hx hb dX12_laysFew_53 (by decide) (fun c1 => ?_) (fun c1 => ?_)
  · have hF := op_t hF c1
    refine lv_goto (tgt := 39) hx hb dX12_laysFew_143 (by decide) ?_
    exact hk39 x2 x3 S0 hF _ _ _ hP hD hS (lv_sub hl [0, 1, 2] rfl)
  · have hF := op_f hF c1
    refine lv_iconst (v := (0 : Int32)) hx hb dX12_laysFew_56 (by decide) ?_
    refine lv_istore (lv' := [(5, .int (0 : Int32)), (0, .ref o0), (2, .int x2), (3, .int x3), (4, .int x4)]) hx hb dX12_laysFew_57 hl (by decide) rfl (fun ls hl => ?_)
    exact l_X12_laysFew_59 C hk39 hk48 hF _ _ _ hP hD hS (lv_sub hl [1, 2, 3, 4, 0] rfl)
set_option maxRecDepth 100000 in
set_option maxHeartbeats 4000000 in
theorem l_X12_laysFew_48 {p : Program} {l : Launch} {e : Env} {s : State} {m : MethodId} {args : Array Value} {below : List Frame} {meth : Method} {c : Code} {D : va_G} {q : Nat → ClassId} {A : Nat → Prop} {o0 : Nat} {a0 : Nat → Nat} {T0 : St} (C : cx p s m args meth c cX12_laysFew 6 none RX12 D q A) {k39 : Int32 × Int32 × St → Option (St)} (hk39 : ∀ (x2 : Int32) (x3 : Int32) (S0 : St), k39 (x2, x3, S0) = some (T0) → ∀ (H : Heap) (locs : List Loc) (ls : Array Slot), va_P D vwCl (g12 q o0 a0 S0) H → va_D A (g12 q o0 a0 S0) → va_S A s.heap H locs → lv_has ls 6 [(0, .ref o0), (2, .int x2), (3, .int x3)] → W p l e rm_X12_laysFew s m args below meth c H locs 0 0 (MQ below (QV D A (g12 q o0 a0 T0)) args s 0 0 A) (F0 m 39 ls [])) {x2 : Int32} {x3 : Int32} {x4 : Int32} {S0 : St} (hF : L_X12_laysFew_48 k39 x2 x3 x4 S0 = some (T0)) : ∀ (H : Heap) (locs : List Loc) (ls : Array Slot), va_P D vwCl (g12 q o0 a0 S0) H → va_D A (g12 q o0 a0 S0) → va_S A s.heap H locs → lv_has ls 6 [(0, .ref o0), (2, .int x2), (3, .int x3), (4, .int x4)] → W p l e rm_X12_laysFew s m args below meth c H locs 0 0 (MQ below (QV D A (g12 q o0 a0 T0)) args s 0 0 A) (F0 m 48 ls []) :=
  lp_G _ _ (fun z => ∀ (H : Heap) (locs : List Loc) (ls : Array Slot), va_P D vwCl (g12 q o0 a0 z.2.2.2) H → va_D A (g12 q o0 a0 z.2.2.2) → va_S A s.heap H locs → lv_has ls 6 [(0, .ref o0), (2, .int z.1), (3, .int z.2.1), (4, .int z.2.2.1)] → W p l e rm_X12_laysFew s m args below meth c H locs 0 0 (MQ below (QV D A (g12 q o0 a0 T0)) args s 0 0 A) (F0 m 48 ls [])) (fun kz hkz z hz H locs ls hP hD hS hl => b_X12_laysFew_48 C hk39 (fun x2 x3 x4 S0 hz => hkz (x2, x3, x4, S0) hz) hz hP hD hS hl) FU (x2, x3, x4, S0) hF
set_option maxRecDepth 100000 in
set_option maxHeartbeats 4000000 in
theorem b_X12_laysFew_39 {p : Program} {l : Launch} {e : Env} {s : State} {m : MethodId} {args : Array Value} {below : List Frame} {meth : Method} {c : Code} {D : va_G} {q : Nat → ClassId} {A : Nat → Prop} {o0 : Nat} {a0 : Nat → Nat} {T0 : St} (C : cx p s m args meth c cX12_laysFew 6 none RX12 D q A) {k39 : Int32 × Int32 × St → Option (St)} (hk39 : ∀ (x2 : Int32) (x3 : Int32) (S0 : St), k39 (x2, x3, S0) = some (T0) → ∀ (H : Heap) (locs : List Loc) (ls : Array Slot), va_P D vwCl (g12 q o0 a0 S0) H → va_D A (g12 q o0 a0 S0) → va_S A s.heap H locs → lv_has ls 6 [(0, .ref o0), (2, .int x2), (3, .int x3)] → W p l e rm_X12_laysFew s m args below meth c H locs 0 0 (MQ below (QV D A (g12 q o0 a0 T0)) args s 0 0 A) (F0 m 39 ls [])) {x2 : Int32} {x3 : Int32} {S0 : St} (hF : F_X12_laysFew_39 k39 x2 x3 S0 = some (T0)) {H : Heap} {locs : List Loc} (hP : va_P D vwCl (g12 q o0 a0 S0) H) (hD : va_D A (g12 q o0 a0 S0)) (hS : va_S A s.heap H locs) {ls : Array Slot} (hl : lv_has ls 6 [(0, .ref o0), (2, .int x2), (3, .int x3)]) : W p l e rm_X12_laysFew s m args below meth c H locs 0 0 (MQ below (QV D A (g12 q o0 a0 T0)) args s 0 0 A) (F0 m 39 ls []) := by
  unfold F_X12_laysFew_39 at hF
  obtain ⟨hx, hb, hr, hml, hown, hts, hlk, hA, hK, hN, hV⟩ := id C
  refine lv_iload_n hx hb dX12_laysFew_39 rfl (lv_at hl 2 rfl) ?_
  refine lv_if_eq (tgt := 146) hx hb dX12_laysFew_40 (by decide) (fun c1 => ?_) (fun c1 => ?_)
  · have hF := op_t hF c1
    cases hF
    exact k_vret C hP hS dX12_laysFew_146
  · have hF := op_f hF c1
    refine lv_iconst (v := (0 : Int32)) hx hb dX12_laysFew_43 (by decide) ?_
    refine lv_istore_n (lv' := [(3, .int (0 : Int32)), (0, .ref o0), (2, .int x2)]) hx hb dX12_laysFew_44 rfl hl (by decide) rfl (fun ls hl => ?_)
    refine lv_iconst (v := (0 : Int32)) hx hb dX12_laysFew_45 (by decide) ?_
    refine lv_istore (lv' := [(4, .int (0 : Int32)), (3, .int (0 : Int32)), (0, .ref o0), (2, .int x2)]) hx hb dX12_laysFew_46 hl (by decide) rfl (fun ls hl => ?_)
    exact l_X12_laysFew_48 C hk39 hF _ _ _ hP hD hS (lv_sub hl [2, 3, 1, 0] rfl)
set_option maxRecDepth 100000 in
set_option maxHeartbeats 4000000 in
theorem l_X12_laysFew_39 {p : Program} {l : Launch} {e : Env} {s : State} {m : MethodId} {args : Array Value} {below : List Frame} {meth : Method} {c : Code} {D : va_G} {q : Nat → ClassId} {A : Nat → Prop} {o0 : Nat} {a0 : Nat → Nat} {T0 : St} (C : cx p s m args meth c cX12_laysFew 6 none RX12 D q A) {x2 : Int32} {x3 : Int32} {S0 : St} (hF : L_X12_laysFew_39 x2 x3 S0 = some (T0)) : ∀ (H : Heap) (locs : List Loc) (ls : Array Slot), va_P D vwCl (g12 q o0 a0 S0) H → va_D A (g12 q o0 a0 S0) → va_S A s.heap H locs → lv_has ls 6 [(0, .ref o0), (2, .int x2), (3, .int x3)] → W p l e rm_X12_laysFew s m args below meth c H locs 0 0 (MQ below (QV D A (g12 q o0 a0 T0)) args s 0 0 A) (F0 m 39 ls []) :=
  lp_G _ _ (fun z => ∀ (H : Heap) (locs : List Loc) (ls : Array Slot), va_P D vwCl (g12 q o0 a0 z.2.2) H → va_D A (g12 q o0 a0 z.2.2) → va_S A s.heap H locs → lv_has ls 6 [(0, .ref o0), (2, .int z.1), (3, .int z.2.1)] → W p l e rm_X12_laysFew s m args below meth c H locs 0 0 (MQ below (QV D A (g12 q o0 a0 T0)) args s 0 0 A) (F0 m 39 ls [])) (fun kz hkz z hz H locs ls hP hD hS hl => b_X12_laysFew_39 C (fun x2 x3 S0 hz => hkz (x2, x3, S0) hz) hz hP hD hS hl) FU (x2, x3, S0) hF
set_option maxRecDepth 100000 in
set_option maxHeartbeats 4000000 in
theorem b_X12_laysFew_30 {p : Program} {l : Launch} {e : Env} {s : State} {m : MethodId} {args : Array Value} {below : List Frame} {meth : Method} {c : Code} {D : va_G} {q : Nat → ClassId} {A : Nat → Prop} {o0 : Nat} {a0 : Nat → Nat} {T0 : St} (C : cx p s m args meth c cX12_laysFew 6 none RX12 D q A) {k2 : Int32 × Int32 × Int32 × St → Option (St)} (hk2 : ∀ (x1 : Int32) (x2 : Int32) (x3 : Int32) (S0 : St), k2 (x1, x2, x3, S0) = some (T0) → ∀ (H : Heap) (locs : List Loc) (ls : Array Slot), va_P D vwCl (g12 q o0 a0 S0) H → va_D A (g12 q o0 a0 S0) → va_S A s.heap H locs → lv_has ls 6 [(0, .ref o0), (1, .int x1), (2, .int x2), (3, .int x3)] → W p l e rm_X12_laysFew s m args below meth c H locs 0 0 (MQ below (QV D A (g12 q o0 a0 T0)) args s 0 0 A) (F0 m 2 ls [])) {x1 : Int32} {x2 : Int32} {x3 : Int32} {s1 : Int32} {s2 : Int32} {S0 : St} (hF : F_X12_laysFew_30 k2 x1 x2 x3 s1 s2 S0 = some (T0)) {H : Heap} {locs : List Loc} (hP : va_P D vwCl (g12 q o0 a0 S0) H) (hD : va_D A (g12 q o0 a0 S0)) (hS : va_S A s.heap H locs) {ls : Array Slot} (hl : lv_has ls 6 [(0, .ref o0), (1, .int x1), (2, .int x2), (3, .int x3)]) : W p l e rm_X12_laysFew s m args below meth c H locs 0 0 (MQ below (QV D A (g12 q o0 a0 T0)) args s 0 0 A) (F0 m 30 ls [.int s2, .int s1, .ref (a0 24)]) := by
  unfold F_X12_laysFew_30 at hF
  obtain ⟨hx, hb, hr, hml, hown, hts, hlk, hA, hK, hN, hV⟩ := id C
  obtain ⟨h1, hF⟩ := op_ck hF
  obtain ⟨U2, e3, hF⟩ := nw_s hF
  refine k_ist (f := S0.2.2.1 23) (W8 := g12 q o0 a0 U2) C hP hD hS 9 rfl h1 dX12_laysFew_30 (by rw [e3]; rfl) (fun H locs hP hD hS => ?_)
  refine lv_iinc (v := (x3 + 1)) (lv' := [(3, .int (x3 + 1)), (0, .ref o0), (1, .int x1), (2, .int x2)]) hx hb dX12_laysFew_31 hl (k := 3) rfl rfl (by decide) rfl (fun ls hl => ?_)
  refine lv_goto (tgt := 2) hx hb dX12_laysFew_34 (by decide) ?_
  exact hk2 x1 x2 (x3 + 1) U2 hF _ _ _ hP hD hS (lv_sub hl [1, 2, 3, 0] rfl)
set_option maxRecDepth 100000 in
set_option maxHeartbeats 4000000 in
theorem b_X12_laysFew_2 {p : Program} {l : Launch} {e : Env} {s : State} {m : MethodId} {args : Array Value} {below : List Frame} {meth : Method} {c : Code} {D : va_G} {q : Nat → ClassId} {A : Nat → Prop} {o0 : Nat} {a0 : Nat → Nat} {T0 : St} (C : cx p s m args meth c cX12_laysFew 6 none RX12 D q A) {k2 : Int32 × Int32 × Int32 × St → Option (St)} (hk2 : ∀ (x1 : Int32) (x2 : Int32) (x3 : Int32) (S0 : St), k2 (x1, x2, x3, S0) = some (T0) → ∀ (H : Heap) (locs : List Loc) (ls : Array Slot), va_P D vwCl (g12 q o0 a0 S0) H → va_D A (g12 q o0 a0 S0) → va_S A s.heap H locs → lv_has ls 6 [(0, .ref o0), (1, .int x1), (2, .int x2), (3, .int x3)] → W p l e rm_X12_laysFew s m args below meth c H locs 0 0 (MQ below (QV D A (g12 q o0 a0 T0)) args s 0 0 A) (F0 m 2 ls [])) {x1 : Int32} {x2 : Int32} {x3 : Int32} {S0 : St} (hF : F_X12_laysFew_2 k2 x1 x2 x3 S0 = some (T0)) {H : Heap} {locs : List Loc} (hP : va_P D vwCl (g12 q o0 a0 S0) H) (hD : va_D A (g12 q o0 a0 S0)) (hS : va_S A s.heap H locs) {ls : Array Slot} (hl : lv_has ls 6 [(0, .ref o0), (1, .int x1), (2, .int x2), (3, .int x3)]) : W p l e rm_X12_laysFew s m args below meth c H locs 0 0 (MQ below (QV D A (g12 q o0 a0 T0)) args s 0 0 A) (F0 m 2 ls []) := by
  unfold F_X12_laysFew_2 at hF
  obtain ⟨hx, hb, hr, hml, hown, hts, hlk, hA, hK, hN, hV⟩ := id C
  refine lv_iload_n hx hb dX12_laysFew_2 rfl (lv_at hl 3 rfl) ?_
  refine lv_sipush (v := (256 : Int32)) hx hb dX12_laysFew_3 (by decide) ?_
  refine lv_icmp_ge (tgt := 37) hx hb dX12_laysFew_6 (by decide) (fun c1 => ?_) (fun c1 => ?_)
  · have hF := op_t hF c1
    refine lv_iconst (v := (1 : Int32)) hx hb dX12_laysFew_37 (by decide) ?_
    refine lv_istore_n (lv' := [(3, .int (1 : Int32)), (0, .ref o0), (1, .int x1), (2, .int x2)]) hx hb dX12_laysFew_38 rfl hl (by decide) rfl (fun ls hl => ?_)
    exact l_X12_laysFew_39 C hF _ _ _ hP hD hS (lv_sub hl [1, 3, 0] rfl)
  · have hF := op_f hF c1
    refine lv_aload_n hx hb dX12_laysFew_9 rfl (lv_at hl 0 rfl) ?_
    refine k_get (v := .ref (a0 24)) C fg_X12_56 hP 0 rfl rfl dX12_laysFew_10 ?_
    refine lv_iload_n hx hb dX12_laysFew_13 rfl (lv_at hl 3 rfl) ?_
    refine lv_aload_n hx hb dX12_laysFew_14 rfl (lv_at hl 0 rfl) ?_
    refine lv_iload_n hx hb dX12_laysFew_15 rfl (lv_at hl 1 rfl) ?_
    refine lv_iload_n hx hb dX12_laysFew_16 rfl (lv_at hl 3 rfl) ?_
    obtain ⟨r3, hc2, hF⟩ := ob1_s hF
    refine k_iall C (k_rV (As := [.int x1, .int x3]) (rest := [.int x3, .ref (a0 24)]) C (c_X12_isPleased l D q o0 a0 S0 _ x1 x3 hc2) kc_X12_isPleased ml_X12_315 rfl rfl (by decide) hP hD hS (va_recv hK hP (ci := 12) (q0 := 0) rfl rfl) rfl hl.1 rfl (Nat.le_of_ble_eq_true rfl) dX12_laysFew_17 (by decide)) hP hD hS ((gad12 q o0 a0 S0).trans (gad12 q o0 a0 S0).symm) (fun H locs hP hD hS => ?_)
    refine lv_if_eq (tgt := 27) hx hb dX12_laysFew_20 (by decide) (fun c4 => ?_) (fun c4 => ?_)
    · have hF := op_t hF c4
      refine lv_ldcw (v := (1000000 : Int32)) hx hb hown (hts _ kn_X12_381) dX12_laysFew_27 ?_
      exact b_X12_laysFew_30 C hk2 hF hP hD hS (lv_sub hl [0, 1, 2, 3] rfl)
    · have hF := op_f hF c4
      refine lv_iconst (v := (0 : Int32)) hx hb dX12_laysFew_23 (by decide) ?_
      refine lv_goto (tgt := 30) hx hb dX12_laysFew_24 (by decide) ?_
      exact b_X12_laysFew_30 C hk2 hF hP hD hS (lv_sub hl [0, 1, 2, 3] rfl)
set_option maxRecDepth 100000 in
set_option maxHeartbeats 4000000 in
theorem l_X12_laysFew_2 {p : Program} {l : Launch} {e : Env} {s : State} {m : MethodId} {args : Array Value} {below : List Frame} {meth : Method} {c : Code} {D : va_G} {q : Nat → ClassId} {A : Nat → Prop} {o0 : Nat} {a0 : Nat → Nat} {T0 : St} (C : cx p s m args meth c cX12_laysFew 6 none RX12 D q A) {x1 : Int32} {x2 : Int32} {x3 : Int32} {S0 : St} (hF : L_X12_laysFew_2 x1 x2 x3 S0 = some (T0)) : ∀ (H : Heap) (locs : List Loc) (ls : Array Slot), va_P D vwCl (g12 q o0 a0 S0) H → va_D A (g12 q o0 a0 S0) → va_S A s.heap H locs → lv_has ls 6 [(0, .ref o0), (1, .int x1), (2, .int x2), (3, .int x3)] → W p l e rm_X12_laysFew s m args below meth c H locs 0 0 (MQ below (QV D A (g12 q o0 a0 T0)) args s 0 0 A) (F0 m 2 ls []) :=
  lp_G _ _ (fun z => ∀ (H : Heap) (locs : List Loc) (ls : Array Slot), va_P D vwCl (g12 q o0 a0 z.2.2.2) H → va_D A (g12 q o0 a0 z.2.2.2) → va_S A s.heap H locs → lv_has ls 6 [(0, .ref o0), (1, .int z.1), (2, .int z.2.1), (3, .int z.2.2.1)] → W p l e rm_X12_laysFew s m args below meth c H locs 0 0 (MQ below (QV D A (g12 q o0 a0 T0)) args s 0 0 A) (F0 m 2 ls [])) (fun kz hkz z hz H locs ls hP hD hS hl => b_X12_laysFew_2 C (fun x1 x2 x3 S0 hz => hkz (x1, x2, x3, S0) hz) hz hP hD hS hl) FU (x1, x2, x3, S0) hF
set_option maxRecDepth 100000 in
set_option maxHeartbeats 4000000 in
theorem c_X12_laysFew (l : Launch) (D : va_G) (q : Nat → ClassId) (o0 : Nat) (a0 : Nat → Nat) (S0 : St) (sz : Nat) (x1 : Int32) (x2 : Int32) {T0 : St} (hF : F_X12_laysFew S0 x1 x2 = some (T0)) : Met l yX12_laysFew (Cond.code yX12_laysFew cX12_laysFew 6 none :: TB) rm_X12_laysFew (PC D q [.ref o0, .int x1, .int x2] (g12 q o0 a0 S0) sz) ((fun A => QV D A (g12 q o0 a0 T0)) (va_A (g12 q o0 a0 S0) sz)) 0 0 (va_A (g12 q o0 a0 S0) sz) := by
  refine k_met (w0 := g12 q o0 a0 S0) (Q := fun A => QV D A (g12 q o0 a0 T0)) (by decide +kernel) (Nat.le_of_ble_eq_true rfl) ?_
  intro p e s m args below meth c A ls C hP hD hS hl
  have hl : lv_has ls 6 [(0, .ref o0), (1, .int x1), (2, .int x2)] := hl
  unfold F_X12_laysFew at hF
  have C : cx p s m args meth c cX12_laysFew 6 none RX12 D q A := C
  obtain ⟨hx, hb, hr, hml, hown, hts, hlk, hA, hK, hN, hV⟩ := id C
  refine lv_iconst (v := (0 : Int32)) hx hb dX12_laysFew_0 (by decide) ?_
  refine lv_istore_n (lv' := [(3, .int (0 : Int32)), (0, .ref o0), (1, .int x1), (2, .int x2)]) hx hb dX12_laysFew_1 rfl hl (by decide) rfl (fun ls hl => ?_)
  exact l_X12_laysFew_2 C hF _ _ _ hP hD hS (lv_sub hl [1, 2, 3, 0] rfl)

abbrev rm_X12_soonest : Room := ({ frames := 4, cells := 0, slots := 0, locals := 87 } : Room)
def F_X12_soonest_99 (k58 : Int32 × Int32 × Int32 × Int32 × St → Option (Int32 × St)) (k68 : Int32 × Int32 × Int32 × Int32 × Int32 × St → Option (Int32 × St)) (x2 : Int32) (x3 : Int32) (x4 : Int32) (x5 : Int32) (x6 : Int32) (S0 : St) : Option (Int32 × St) := k68 (x2, x3, x4, x5, (x6 + 1), S0)
def F_X12_soonest_68 (k58 : Int32 × Int32 × Int32 × Int32 × St → Option (Int32 × St)) (k68 : Int32 × Int32 × Int32 × Int32 × Int32 × St → Option (Int32 × St)) (x2 : Int32) (x3 : Int32) (x4 : Int32) (x5 : Int32) (x6 : Int32) (S0 : St) : Option (Int32 × St) := ob1 (F_X12_bitOf x2 x6) fun r2 => if r2 = 0 then (F_X12_soonest_99 k58 k68 x2 x3 x4 x5 x6 S0) else (ob1 (F_X12_behindOf S0 x3 x6) fun r5 => if oob r5 256 then none else if (S0.2.2.1 23 r5.toNatClampNeg) = ((x4 - (1 : Int32)) - x5) then (if oob x5 256 then none else nw (sA S0 24 x5 x6) fun U9 => ob1 (F_X12_behindOf U9 x3 x6) fun r12 => k58 (x2, r12, x4, (x5 + 1), U9)) else (F_X12_soonest_99 k58 k68 x2 x3 x4 x5 x6 S0))
def L_X12_soonest_68 (k58 : Int32 × Int32 × Int32 × Int32 × St → Option (Int32 × St)) (x2 : Int32) (x3 : Int32) (x4 : Int32) (x5 : Int32) (x6 : Int32) (S0 : St) : Option (Int32 × St) := lp (fun kz z => F_X12_soonest_68 k58 kz z.1 z.2.1 z.2.2.1 z.2.2.2.1 z.2.2.2.2.1 z.2.2.2.2.2) FU (x2, x3, x4, x5, x6, S0)
def F_X12_soonest_58 (k58 : Int32 × Int32 × Int32 × Int32 × St → Option (Int32 × St)) (x2 : Int32) (x3 : Int32) (x4 : Int32) (x5 : Int32) (S0 : St) : Option (Int32 × St) := if x4 ≤ x5 then (nw (sI S0 25 x4) fun U2 => some (x4, U2)) else (L_X12_soonest_68 k58 x2 x3 x4 x5 (0 : Int32) S0)
def L_X12_soonest_58 (x2 : Int32) (x3 : Int32) (x4 : Int32) (x5 : Int32) (S0 : St) : Option (Int32 × St) := lp (fun kz z => F_X12_soonest_58 kz z.1 z.2.1 z.2.2.1 z.2.2.2.1 z.2.2.2.2) FU (x2, x3, x4, x5, S0)
def F_X12_soonest (S0 : St) (x1 : Int32) : Option (Int32 × St) := nw (sI S0 0 (0 : Int32)) fun U1 => ob1 (F_X12_isPerson U1 x1) fun r4 => if r4 = 0 then (some ((-1 : Int32), U1)) else (ob1 (F_X12_canOf U1 x1) fun r7 => ob1 (F_X12_laysFew U1 x1 r7) fun U9 => if oob ((59 : Int32) + x1) 258 then none else nw (U9.2.2.1 6 ((59 : Int32) + x1).toNatClampNeg) fun v11 => if oob v11 256 then none else if (U9.2.2.1 23 v11.toNatClampNeg) < (1000000 : Int32) then (L_X12_soonest_58 r7 v11 (U9.2.2.1 23 v11.toNatClampNeg) (0 : Int32) U9) else (some ((-1 : Int32), U9)))
set_option maxRecDepth 100000 in
set_option maxHeartbeats 4000000 in
theorem b_X12_soonest_99 {p : Program} {l : Launch} {e : Env} {s : State} {m : MethodId} {args : Array Value} {below : List Frame} {meth : Method} {c : Code} {D : va_G} {q : Nat → ClassId} {A : Nat → Prop} {o0 : Nat} {a0 : Nat → Nat} {r : Int32} {T0 : St} (C : cx p s m args meth c cX12_soonest 7 (some .int) RX12 D q A) {k58 : Int32 × Int32 × Int32 × Int32 × St → Option (Int32 × St)} (hk58 : ∀ (x2 : Int32) (x3 : Int32) (x4 : Int32) (x5 : Int32) (S0 : St), k58 (x2, x3, x4, x5, S0) = some (r, T0) → ∀ (H : Heap) (locs : List Loc) (ls : Array Slot), va_P D vwCl (g12 q o0 a0 S0) H → va_D A (g12 q o0 a0 S0) → va_S A s.heap H locs → lv_has ls 7 [(0, .ref o0), (2, .int x2), (3, .int x3), (4, .int x4), (5, .int x5)] → W p l e rm_X12_soonest s m args below meth c H locs 0 0 (MQ below (QI D A r (g12 q o0 a0 T0)) args s 0 0 A) (F0 m 58 ls [])) {k68 : Int32 × Int32 × Int32 × Int32 × Int32 × St → Option (Int32 × St)} (hk68 : ∀ (x2 : Int32) (x3 : Int32) (x4 : Int32) (x5 : Int32) (x6 : Int32) (S0 : St), k68 (x2, x3, x4, x5, x6, S0) = some (r, T0) → ∀ (H : Heap) (locs : List Loc) (ls : Array Slot), va_P D vwCl (g12 q o0 a0 S0) H → va_D A (g12 q o0 a0 S0) → va_S A s.heap H locs → lv_has ls 7 [(0, .ref o0), (2, .int x2), (3, .int x3), (4, .int x4), (5, .int x5), (6, .int x6)] → W p l e rm_X12_soonest s m args below meth c H locs 0 0 (MQ below (QI D A r (g12 q o0 a0 T0)) args s 0 0 A) (F0 m 68 ls [])) {x2 : Int32} {x3 : Int32} {x4 : Int32} {x5 : Int32} {x6 : Int32} {S0 : St} (hF : F_X12_soonest_99 k58 k68 x2 x3 x4 x5 x6 S0 = some (r, T0)) {H : Heap} {locs : List Loc} (hP : va_P D vwCl (g12 q o0 a0 S0) H) (hD : va_D A (g12 q o0 a0 S0)) (hS : va_S A s.heap H locs) {ls : Array Slot} (hl : lv_has ls 7 [(0, .ref o0), (2, .int x2), (3, .int x3), (4, .int x4), (5, .int x5), (6, .int x6)]) : W p l e rm_X12_soonest s m args below meth c H locs 0 0 (MQ below (QI D A r (g12 q o0 a0 T0)) args s 0 0 A) (F0 m 99 ls []) := by
  unfold F_X12_soonest_99 at hF
  obtain ⟨hx, hb, hr, hml, hown, hts, hlk, hA, hK, hN, hV⟩ := id C
  refine lv_iinc (v := (x6 + 1)) (lv' := [(6, .int (x6 + 1)), (0, .ref o0), (2, .int x2), (3, .int x3), (4, .int x4), (5, .int x5)]) hx hb dX12_soonest_99 hl (k := 5) rfl rfl (by decide) rfl (fun ls hl => ?_)
  refine lv_goto (tgt := 68) hx hb dX12_soonest_102 (by decide) ?_
  exact hk68 x2 x3 x4 x5 (x6 + 1) S0 hF _ _ _ hP hD hS (lv_sub hl [1, 2, 3, 4, 5, 0] rfl)
set_option maxRecDepth 100000 in
set_option maxHeartbeats 4000000 in
theorem b_X12_soonest_68 {p : Program} {l : Launch} {e : Env} {s : State} {m : MethodId} {args : Array Value} {below : List Frame} {meth : Method} {c : Code} {D : va_G} {q : Nat → ClassId} {A : Nat → Prop} {o0 : Nat} {a0 : Nat → Nat} {r : Int32} {T0 : St} (C : cx p s m args meth c cX12_soonest 7 (some .int) RX12 D q A) {k58 : Int32 × Int32 × Int32 × Int32 × St → Option (Int32 × St)} (hk58 : ∀ (x2 : Int32) (x3 : Int32) (x4 : Int32) (x5 : Int32) (S0 : St), k58 (x2, x3, x4, x5, S0) = some (r, T0) → ∀ (H : Heap) (locs : List Loc) (ls : Array Slot), va_P D vwCl (g12 q o0 a0 S0) H → va_D A (g12 q o0 a0 S0) → va_S A s.heap H locs → lv_has ls 7 [(0, .ref o0), (2, .int x2), (3, .int x3), (4, .int x4), (5, .int x5)] → W p l e rm_X12_soonest s m args below meth c H locs 0 0 (MQ below (QI D A r (g12 q o0 a0 T0)) args s 0 0 A) (F0 m 58 ls [])) {k68 : Int32 × Int32 × Int32 × Int32 × Int32 × St → Option (Int32 × St)} (hk68 : ∀ (x2 : Int32) (x3 : Int32) (x4 : Int32) (x5 : Int32) (x6 : Int32) (S0 : St), k68 (x2, x3, x4, x5, x6, S0) = some (r, T0) → ∀ (H : Heap) (locs : List Loc) (ls : Array Slot), va_P D vwCl (g12 q o0 a0 S0) H → va_D A (g12 q o0 a0 S0) → va_S A s.heap H locs → lv_has ls 7 [(0, .ref o0), (2, .int x2), (3, .int x3), (4, .int x4), (5, .int x5), (6, .int x6)] → W p l e rm_X12_soonest s m args below meth c H locs 0 0 (MQ below (QI D A r (g12 q o0 a0 T0)) args s 0 0 A) (F0 m 68 ls [])) {x2 : Int32} {x3 : Int32} {x4 : Int32} {x5 : Int32} {x6 : Int32} {S0 : St} (hF : F_X12_soonest_68 k58 k68 x2 x3 x4 x5 x6 S0 = some (r, T0)) {H : Heap} {locs : List Loc} (hP : va_P D vwCl (g12 q o0 a0 S0) H) (hD : va_D A (g12 q o0 a0 S0)) (hS : va_S A s.heap H locs) {ls : Array Slot} (hl : lv_has ls 7 [(0, .ref o0), (2, .int x2), (3, .int x3), (4, .int x4), (5, .int x5), (6, .int x6)]) : W p l e rm_X12_soonest s m args below meth c H locs 0 0 (MQ below (QI D A r (g12 q o0 a0 T0)) args s 0 0 A) (F0 m 68 ls []) := by
  unfold F_X12_soonest_68 at hF
  obtain ⟨hx, hb, hr, hml, hown, hts, hlk, hA, hK, hN, hV⟩ := id C
  refine lv_iload_n hx hb dX12_soonest_68 rfl (lv_at hl 1 rfl) ?_
  refine lv_iload hx hb dX12_soonest_69 (lv_at hl 5 rfl) ?_
  obtain ⟨r2, hc1, hF⟩ := ob1_s hF
  refine k_inil C (k_rS (As := [.int x2, .int x6]) (rest := []) C (c_X12_bitOf l D q _ x2 x6 hc1) kc_X12_bitOf ml_X12_275 rfl rfl (by decide) (fun k x h => by simp at h) (⟨fun i j x y h => by simp at h, fun k x h => by simp at h⟩ : va_D A []) hS rfl hl.1 rfl (Nat.le_of_ble_eq_true rfl) dX12_soonest_71 (by decide)) hP hD hS (fun H locs hP hD hS => ?_)
  refine lv_if_eq (tgt := 99) hx hb dX12_soonest_74 (by decide) (fun c3 => ?_) (fun c3 => ?_)
  · have hF := op_t hF c3
    exact b_X12_soonest_99 C hk58 hk68 hF hP hD hS (lv_sub hl [0, 1, 2, 3, 4, 5] rfl)
  · have hF := op_f hF c3
    refine lv_aload_n hx hb dX12_soonest_77 rfl (lv_at hl 0 rfl) ?_
    refine k_get (v := .ref (a0 24)) C fg_X12_56 hP 0 rfl rfl dX12_soonest_78 ?_
    refine lv_aload_n hx hb dX12_soonest_81 rfl (lv_at hl 0 rfl) ?_
    refine lv_iload_n hx hb dX12_soonest_82 rfl (lv_at hl 2 rfl) ?_
    refine lv_iload hx hb dX12_soonest_83 (lv_at hl 5 rfl) ?_
    obtain ⟨r5, hc4, hF⟩ := ob1_s hF
    refine k_iall C (k_rV (As := [.int x3, .int x6]) (rest := [.ref (a0 24)]) C (c_X12_behindOf l D q o0 a0 S0 _ x3 x6 hc4) kc_X12_behindOf ml_X12_346 rfl rfl (by decide) hP hD hS (va_recv hK hP (ci := 12) (q0 := 0) rfl rfl) rfl hl.1 rfl (Nat.le_of_ble_eq_true rfl) dX12_soonest_85 (by decide)) hP hD hS ((gad12 q o0 a0 S0).trans (gad12 q o0 a0 S0).symm) (fun H locs hP hD hS => ?_)
    obtain ⟨h6, hF⟩ := op_ck hF
    refine k_ild (f := S0.2.2.1 23) C hP 9 rfl h6 dX12_soonest_88 ?_
    refine lv_iload hx hb dX12_soonest_89 (lv_at hl 3 rfl) ?_
    refine lv_iconst (v := (1 : Int32)) hx hb dX12_soonest_91 (by decide) ?_
    refine lv_isub hx hb dX12_soonest_92 ?_
    refine lv_iload hx hb dX12_soonest_93 (lv_at hl 4 rfl) ?_
    refine lv_isub hx hb dX12_soonest_95 ?_
    refine lv_icmp_eq (tgt := 105) hx hb dX12_soonest_96 (by decide) (fun c7 => ?_) (fun c7 => ?_)
    · have hF := op_t hF c7
      refine lv_aload_n hx hb dX12_soonest_105 rfl (lv_at hl 0 rfl) ?_
      refine k_get (v := .ref (a0 25)) C fg_X12_59 hP 0 rfl rfl dX12_soonest_106 ?_
      refine lv_iload hx hb dX12_soonest_109 (lv_at hl 4 rfl) ?_
      refine lv_iload hx hb dX12_soonest_111 (lv_at hl 5 rfl) ?_
      obtain ⟨h8, hF⟩ := op_ck hF
      obtain ⟨U9, e10, hF⟩ := nw_s hF
      refine k_ist (f := S0.2.2.1 24) (W8 := g12 q o0 a0 U9) C hP hD hS 10 rfl h8 dX12_soonest_113 (by rw [e10]; rfl) (fun H locs hP hD hS => ?_)
      refine lv_aload_n hx hb dX12_soonest_114 rfl (lv_at hl 0 rfl) ?_
      refine lv_iload_n hx hb dX12_soonest_115 rfl (lv_at hl 2 rfl) ?_
      refine lv_iload hx hb dX12_soonest_116 (lv_at hl 5 rfl) ?_
      obtain ⟨r12, hc11, hF⟩ := ob1_s hF
      refine k_iall C (k_rV (As := [.int x3, .int x6]) (rest := []) C (c_X12_behindOf l D q o0 a0 U9 _ x3 x6 hc11) kc_X12_behindOf ml_X12_346 rfl rfl (by decide) hP hD hS (va_recv hK hP (ci := 12) (q0 := 0) rfl rfl) rfl hl.1 rfl (Nat.le_of_ble_eq_true rfl) dX12_soonest_118 (by decide)) hP hD hS ((gad12 q o0 a0 U9).trans (gad12 q o0 a0 U9).symm) (fun H locs hP hD hS => ?_)
      refine lv_istore_n (lv' := [(3, .int r12), (0, .ref o0), (2, .int x2), (4, .int x4), (5, .int x5), (6, .int x6)]) hx hb dX12_soonest_121 rfl hl (by decide) rfl (fun ls hl => ?_)
      refine lv_iinc (v := (x5 + 1)) (lv' := [(5, .int (x5 + 1)), (3, .int r12), (0, .ref o0), (2, .int x2), (4, .int x4), (6, .int x6)]) hx hb dX12_soonest_122 hl (k := 4) rfl rfl (by decide) rfl (fun ls hl => ?_)
      refine lv_goto (tgt := 58) hx hb dX12_soonest_125 (by decide) ?_
      exact hk58 x2 r12 x4 (x5 + 1) U9 hF _ _ _ hP hD hS (lv_sub hl [2, 3, 1, 4, 0] rfl)
    · have hF := op_f hF c7
      exact b_X12_soonest_99 C hk58 hk68 hF hP hD hS (lv_sub hl [0, 1, 2, 3, 4, 5] rfl)
set_option maxRecDepth 100000 in
set_option maxHeartbeats 4000000 in
theorem l_X12_soonest_68 {p : Program} {l : Launch} {e : Env} {s : State} {m : MethodId} {args : Array Value} {below : List Frame} {meth : Method} {c : Code} {D : va_G} {q : Nat → ClassId} {A : Nat → Prop} {o0 : Nat} {a0 : Nat → Nat} {r : Int32} {T0 : St} (C : cx p s m args meth c cX12_soonest 7 (some .int) RX12 D q A) {k58 : Int32 × Int32 × Int32 × Int32 × St → Option (Int32 × St)} (hk58 : ∀ (x2 : Int32) (x3 : Int32) (x4 : Int32) (x5 : Int32) (S0 : St), k58 (x2, x3, x4, x5, S0) = some (r, T0) → ∀ (H : Heap) (locs : List Loc) (ls : Array Slot), va_P D vwCl (g12 q o0 a0 S0) H → va_D A (g12 q o0 a0 S0) → va_S A s.heap H locs → lv_has ls 7 [(0, .ref o0), (2, .int x2), (3, .int x3), (4, .int x4), (5, .int x5)] → W p l e rm_X12_soonest s m args below meth c H locs 0 0 (MQ below (QI D A r (g12 q o0 a0 T0)) args s 0 0 A) (F0 m 58 ls [])) {x2 : Int32} {x3 : Int32} {x4 : Int32} {x5 : Int32} {x6 : Int32} {S0 : St} (hF : L_X12_soonest_68 k58 x2 x3 x4 x5 x6 S0 = some (r, T0)) : ∀ (H : Heap) (locs : List Loc) (ls : Array Slot), va_P D vwCl (g12 q o0 a0 S0) H → va_D A (g12 q o0 a0 S0) → va_S A s.heap H locs → lv_has ls 7 [(0, .ref o0), (2, .int x2), (3, .int x3), (4, .int x4), (5, .int x5), (6, .int x6)] → W p l e rm_X12_soonest s m args below meth c H locs 0 0 (MQ below (QI D A r (g12 q o0 a0 T0)) args s 0 0 A) (F0 m 68 ls []) :=
  lp_G _ _ (fun z => ∀ (H : Heap) (locs : List Loc) (ls : Array Slot), va_P D vwCl (g12 q o0 a0 z.2.2.2.2.2) H → va_D A (g12 q o0 a0 z.2.2.2.2.2) → va_S A s.heap H locs → lv_has ls 7 [(0, .ref o0), (2, .int z.1), (3, .int z.2.1), (4, .int z.2.2.1), (5, .int z.2.2.2.1), (6, .int z.2.2.2.2.1)] → W p l e rm_X12_soonest s m args below meth c H locs 0 0 (MQ below (QI D A r (g12 q o0 a0 T0)) args s 0 0 A) (F0 m 68 ls [])) (fun kz hkz z hz H locs ls hP hD hS hl => b_X12_soonest_68 C hk58 (fun x2 x3 x4 x5 x6 S0 hz => hkz (x2, x3, x4, x5, x6, S0) hz) hz hP hD hS hl) FU (x2, x3, x4, x5, x6, S0) hF
set_option maxRecDepth 100000 in
set_option maxHeartbeats 4000000 in
theorem b_X12_soonest_58 {p : Program} {l : Launch} {e : Env} {s : State} {m : MethodId} {args : Array Value} {below : List Frame} {meth : Method} {c : Code} {D : va_G} {q : Nat → ClassId} {A : Nat → Prop} {o0 : Nat} {a0 : Nat → Nat} {r : Int32} {T0 : St} (C : cx p s m args meth c cX12_soonest 7 (some .int) RX12 D q A) {k58 : Int32 × Int32 × Int32 × Int32 × St → Option (Int32 × St)} (hk58 : ∀ (x2 : Int32) (x3 : Int32) (x4 : Int32) (x5 : Int32) (S0 : St), k58 (x2, x3, x4, x5, S0) = some (r, T0) → ∀ (H : Heap) (locs : List Loc) (ls : Array Slot), va_P D vwCl (g12 q o0 a0 S0) H → va_D A (g12 q o0 a0 S0) → va_S A s.heap H locs → lv_has ls 7 [(0, .ref o0), (2, .int x2), (3, .int x3), (4, .int x4), (5, .int x5)] → W p l e rm_X12_soonest s m args below meth c H locs 0 0 (MQ below (QI D A r (g12 q o0 a0 T0)) args s 0 0 A) (F0 m 58 ls [])) {x2 : Int32} {x3 : Int32} {x4 : Int32} {x5 : Int32} {S0 : St} (hF : F_X12_soonest_58 k58 x2 x3 x4 x5 S0 = some (r, T0)) {H : Heap} {locs : List Loc} (hP : va_P D vwCl (g12 q o0 a0 S0) H) (hD : va_D A (g12 q o0 a0 S0)) (hS : va_S A s.heap H locs) {ls : Array Slot} (hl : lv_has ls 7 [(0, .ref o0), (2, .int x2), (3, .int x3), (4, .int x4), (5, .int x5)]) : W p l e rm_X12_soonest s m args below meth c H locs 0 0 (MQ below (QI D A r (g12 q o0 a0 T0)) args s 0 0 A) (F0 m 58 ls []) := by
  unfold F_X12_soonest_58 at hF
  obtain ⟨hx, hb, hr, hml, hown, hts, hlk, hA, hK, hN, hV⟩ := id C
  refine lv_iload hx hb dX12_soonest_58 (lv_at hl 4 rfl) ?_
  refine lv_iload hx hb dX12_soonest_60 (lv_at hl 3 rfl) ?_
  refine lv_icmp_ge (tgt := 128) hx hb dX12_soonest_62 (by decide) (fun c1 => ?_) (fun c1 => ?_)
  · have hF := op_t hF c1
    refine lv_aload_n hx hb dX12_soonest_128 rfl (lv_at hl 0 rfl) ?_
    refine lv_iload hx hb dX12_soonest_129 (lv_at hl 3 rfl) ?_
    obtain ⟨U2, e3, hF⟩ := nw_s hF
    refine k_put (W8 := g12 q o0 a0 U2) C fp_X12_62 hP hD hS 0 rfl rfl rfl (Nat.le_of_ble_eq_true rfl) dX12_soonest_131 (by rw [e3]; rfl) (fun H locs hP hD hS => ?_)
    refine lv_iload hx hb dX12_soonest_134 (lv_at hl 3 rfl) ?_
    cases hF
    exact k_iret C hP hS dX12_soonest_136
  · have hF := op_f hF c1
    refine lv_iconst (v := (0 : Int32)) hx hb dX12_soonest_65 (by decide) ?_
    refine lv_istore (lv' := [(6, .int (0 : Int32)), (0, .ref o0), (2, .int x2), (3, .int x3), (4, .int x4), (5, .int x5)]) hx hb dX12_soonest_66 hl (by decide) rfl (fun ls hl => ?_)
    exact l_X12_soonest_68 C hk58 hF _ _ _ hP hD hS (lv_sub hl [1, 2, 3, 4, 5, 0] rfl)
set_option maxRecDepth 100000 in
set_option maxHeartbeats 4000000 in
theorem l_X12_soonest_58 {p : Program} {l : Launch} {e : Env} {s : State} {m : MethodId} {args : Array Value} {below : List Frame} {meth : Method} {c : Code} {D : va_G} {q : Nat → ClassId} {A : Nat → Prop} {o0 : Nat} {a0 : Nat → Nat} {r : Int32} {T0 : St} (C : cx p s m args meth c cX12_soonest 7 (some .int) RX12 D q A) {x2 : Int32} {x3 : Int32} {x4 : Int32} {x5 : Int32} {S0 : St} (hF : L_X12_soonest_58 x2 x3 x4 x5 S0 = some (r, T0)) : ∀ (H : Heap) (locs : List Loc) (ls : Array Slot), va_P D vwCl (g12 q o0 a0 S0) H → va_D A (g12 q o0 a0 S0) → va_S A s.heap H locs → lv_has ls 7 [(0, .ref o0), (2, .int x2), (3, .int x3), (4, .int x4), (5, .int x5)] → W p l e rm_X12_soonest s m args below meth c H locs 0 0 (MQ below (QI D A r (g12 q o0 a0 T0)) args s 0 0 A) (F0 m 58 ls []) :=
  lp_G _ _ (fun z => ∀ (H : Heap) (locs : List Loc) (ls : Array Slot), va_P D vwCl (g12 q o0 a0 z.2.2.2.2) H → va_D A (g12 q o0 a0 z.2.2.2.2) → va_S A s.heap H locs → lv_has ls 7 [(0, .ref o0), (2, .int z.1), (3, .int z.2.1), (4, .int z.2.2.1), (5, .int z.2.2.2.1)] → W p l e rm_X12_soonest s m args below meth c H locs 0 0 (MQ below (QI D A r (g12 q o0 a0 T0)) args s 0 0 A) (F0 m 58 ls [])) (fun kz hkz z hz H locs ls hP hD hS hl => b_X12_soonest_58 C (fun x2 x3 x4 x5 S0 hz => hkz (x2, x3, x4, x5, S0) hz) hz hP hD hS hl) FU (x2, x3, x4, x5, S0) hF
set_option maxRecDepth 100000 in
set_option maxHeartbeats 4000000 in
theorem c_X12_soonest (l : Launch) (D : va_G) (q : Nat → ClassId) (o0 : Nat) (a0 : Nat → Nat) (S0 : St) (sz : Nat) (x1 : Int32) {r : Int32} {T0 : St} (hF : F_X12_soonest S0 x1 = some (r, T0)) : Met l yX12_soonest (Cond.code yX12_soonest cX12_soonest 7 (some .int) :: TB) rm_X12_soonest (PC D q [.ref o0, .int x1] (g12 q o0 a0 S0) sz) ((fun A => QI D A r (g12 q o0 a0 T0)) (va_A (g12 q o0 a0 S0) sz)) 0 0 (va_A (g12 q o0 a0 S0) sz) := by
  refine k_met (w0 := g12 q o0 a0 S0) (Q := fun A => QI D A r (g12 q o0 a0 T0)) (by decide +kernel) (Nat.le_of_ble_eq_true rfl) ?_
  intro p e s m args below meth c A ls C hP hD hS hl
  have hl : lv_has ls 7 [(0, .ref o0), (1, .int x1)] := hl
  unfold F_X12_soonest at hF
  have C : cx p s m args meth c cX12_soonest 7 (some .int) RX12 D q A := C
  obtain ⟨hx, hb, hr, hml, hown, hts, hlk, hA, hK, hN, hV⟩ := id C
  refine lv_aload_n hx hb dX12_soonest_0 rfl (lv_at hl 0 rfl) ?_
  refine lv_iconst (v := (0 : Int32)) hx hb dX12_soonest_1 (by decide) ?_
  obtain ⟨U1, e2, hF⟩ := nw_s hF
  refine k_put (W8 := g12 q o0 a0 U1) C fp_X12_1 hP hD hS 0 rfl rfl rfl (Nat.le_of_ble_eq_true rfl) dX12_soonest_2 (by rw [e2]; rfl) (fun H locs hP hD hS => ?_)
  refine lv_aload_n hx hb dX12_soonest_5 rfl (lv_at hl 0 rfl) ?_
  refine lv_iload_n hx hb dX12_soonest_6 rfl (lv_at hl 1 rfl) ?_
  obtain ⟨r4, hc3, hF⟩ := ob1_s hF
  refine k_iall C (k_rV (As := [.int x1]) (rest := []) C (c_X12_isPerson l D q o0 a0 U1 _ x1 hc3) kc_X12_isPerson ml_X12_318 rfl rfl (by decide) hP hD hS (va_recv hK hP (ci := 12) (q0 := 0) rfl rfl) rfl hl.1 rfl (Nat.le_of_ble_eq_true rfl) dX12_soonest_7 (by decide)) hP hD hS ((gad12 q o0 a0 U1).trans (gad12 q o0 a0 U1).symm) (fun H locs hP hD hS => ?_)
  refine lv_if_ne (tgt := 15) hx hb dX12_soonest_10 (by decide) (fun c5 => ?_) (fun c5 => ?_)
  · have hF := op_f hF c5
    refine lv_aload_n hx hb dX12_soonest_15 rfl (lv_at hl 0 rfl) ?_
    refine lv_iload_n hx hb dX12_soonest_16 rfl (lv_at hl 1 rfl) ?_
    obtain ⟨r7, hc6, hF⟩ := ob1_s hF
    refine k_iall C (k_rV (As := [.int x1]) (rest := []) C (c_X12_canOf l D q o0 a0 U1 _ x1 hc6) kc_X12_canOf ml_X12_325 rfl rfl (by decide) hP hD hS (va_recv hK hP (ci := 12) (q0 := 0) rfl rfl) rfl hl.1 rfl (Nat.le_of_ble_eq_true rfl) dX12_soonest_17 (by decide)) hP hD hS ((gad12 q o0 a0 U1).trans (gad12 q o0 a0 U1).symm) (fun H locs hP hD hS => ?_)
    refine lv_istore_n (lv' := [(2, .int r7), (0, .ref o0), (1, .int x1)]) hx hb dX12_soonest_20 rfl hl (by decide) rfl (fun ls hl => ?_)
    refine lv_aload_n hx hb dX12_soonest_21 rfl (lv_at hl 1 rfl) ?_
    refine lv_iload_n hx hb dX12_soonest_22 rfl (lv_at hl 2 rfl) ?_
    refine lv_iload_n hx hb dX12_soonest_23 rfl (lv_at hl 0 rfl) ?_
    obtain ⟨U9, hc8, hF⟩ := ob1_s hF
    refine k_vall C (k_rV (As := [.int x1, .int r7]) (rest := []) C (c_X12_laysFew l D q o0 a0 U1 _ x1 r7 hc8) kc_X12_laysFew ml_X12_382 rfl rfl (by decide) hP hD hS (va_recv hK hP (ci := 12) (q0 := 0) rfl rfl) rfl hl.1 rfl (Nat.le_of_ble_eq_true rfl) dX12_soonest_24 (by decide)) hP hD hS ((gad12 q o0 a0 U9).trans (gad12 q o0 a0 U1).symm) (fun H locs hP hD hS => ?_)
    refine lv_aload_n hx hb dX12_soonest_27 rfl (lv_at hl 1 rfl) ?_
    refine k_get (v := .ref (a0 7)) C fg_X12_33 hP 0 rfl rfl dX12_soonest_28 ?_
    refine lv_bipush (v := (59 : Int32)) hx hb dX12_soonest_31 (by decide) ?_
    refine lv_iload_n hx hb dX12_soonest_33 rfl (lv_at hl 2 rfl) ?_
    refine lv_iadd hx hb dX12_soonest_34 ?_
    obtain ⟨h10, hF⟩ := op_ck hF
    refine k_ild (f := U9.2.2.1 6) C hP 2 rfl h10 dX12_soonest_35 ?_
    obtain ⟨v11, e12, hF⟩ := nw_s hF
    refine k_rni e12 ?_
    refine lv_istore_n (lv' := [(3, .int v11), (2, .int r7), (0, .ref o0), (1, .int x1)]) hx hb dX12_soonest_36 rfl hl (by decide) rfl (fun ls hl => ?_)
    refine lv_aload_n hx hb dX12_soonest_37 rfl (lv_at hl 2 rfl) ?_
    refine k_get (v := .ref (a0 24)) C fg_X12_56 hP 0 rfl rfl dX12_soonest_38 ?_
    refine lv_iload_n hx hb dX12_soonest_41 rfl (lv_at hl 0 rfl) ?_
    obtain ⟨h13, hF⟩ := op_ck hF
    refine k_ild (f := U9.2.2.1 23) C hP 9 rfl h13 dX12_soonest_42 ?_
    refine lv_istore (lv' := [(4, .int (U9.2.2.1 23 v11.toNatClampNeg)), (3, .int v11), (2, .int r7), (0, .ref o0), (1, .int x1)]) hx hb dX12_soonest_43 hl (by decide) rfl (fun ls hl => ?_)
    refine lv_iload hx hb dX12_soonest_45 (lv_at hl 0 rfl) ?_
    refine lv_ldcw (v := (1000000 : Int32)) hx hb hown (hts _ kn_X12_381) dX12_soonest_47 ?_
    refine lv_icmp_lt (tgt := 55) hx hb dX12_soonest_50 (by decide) (fun c14 => ?_) (fun c14 => ?_)
    · have hF := op_t hF c14
      refine lv_iconst (v := (0 : Int32)) hx hb dX12_soonest_55 (by decide) ?_
      refine lv_istore (lv' := [(5, .int (0 : Int32)), (4, .int (U9.2.2.1 23 v11.toNatClampNeg)), (3, .int v11), (2, .int r7), (0, .ref o0), (1, .int x1)]) hx hb dX12_soonest_56 hl (by decide) rfl (fun ls hl => ?_)
      exact l_X12_soonest_58 C hF _ _ _ hP hD hS (lv_sub hl [4, 3, 2, 1, 0] rfl)
    · have hF := op_f hF c14
      refine lv_iconst (v := (-1 : Int32)) hx hb dX12_soonest_53 (by decide) ?_
      cases hF
      exact k_iret C hP hS dX12_soonest_54
  · have hF := op_t hF c5
    refine lv_iconst (v := (-1 : Int32)) hx hb dX12_soonest_13 (by decide) ?_
    cases hF
    exact k_iret C hP hS dX12_soonest_14

abbrev rm_X12_soonestAt : Room := ({ frames := 1, cells := 0, slots := 0, locals := 22 } : Room)
def F_X12_soonestAt (S0 : St) (x1 : Int32) : Option (Int32 × St) := nw (sI S0 0 (0 : Int32)) fun U1 => ob1 (F_X12_isIn x1 (0 : Int32) ((U1.1 25) - (1 : Int32))) fun r4 => if r4 = 0 then (some ((-1 : Int32), U1)) else (if oob x1 256 then none else some ((U1.2.2.1 24 x1.toNatClampNeg), U1))
set_option maxRecDepth 100000 in
set_option maxHeartbeats 4000000 in
theorem c_X12_soonestAt (l : Launch) (D : va_G) (q : Nat → ClassId) (o0 : Nat) (a0 : Nat → Nat) (S0 : St) (sz : Nat) (x1 : Int32) {r : Int32} {T0 : St} (hF : F_X12_soonestAt S0 x1 = some (r, T0)) : Met l yX12_soonestAt (Cond.code yX12_soonestAt cX12_soonestAt 2 (some .int) :: TB) rm_X12_soonestAt (PC D q [.ref o0, .int x1] (g12 q o0 a0 S0) sz) ((fun A => QI D A r (g12 q o0 a0 T0)) (va_A (g12 q o0 a0 S0) sz)) 0 0 (va_A (g12 q o0 a0 S0) sz) := by
  refine k_met (w0 := g12 q o0 a0 S0) (Q := fun A => QI D A r (g12 q o0 a0 T0)) (by decide +kernel) (Nat.le_of_ble_eq_true rfl) ?_
  intro p e s m args below meth c A ls C hP hD hS hl
  have hl : lv_has ls 2 [(0, .ref o0), (1, .int x1)] := hl
  unfold F_X12_soonestAt at hF
  have C : cx p s m args meth c cX12_soonestAt 2 (some .int) RX12 D q A := C
  obtain ⟨hx, hb, hr, hml, hown, hts, hlk, hA, hK, hN, hV⟩ := id C
  refine lv_aload_n hx hb dX12_soonestAt_0 rfl (lv_at hl 0 rfl) ?_
  refine lv_iconst (v := (0 : Int32)) hx hb dX12_soonestAt_1 (by decide) ?_
  obtain ⟨U1, e2, hF⟩ := nw_s hF
  refine k_put (W8 := g12 q o0 a0 U1) C fp_X12_1 hP hD hS 0 rfl rfl rfl (Nat.le_of_ble_eq_true rfl) dX12_soonestAt_2 (by rw [e2]; rfl) (fun H locs hP hD hS => ?_)
  refine lv_iload_n hx hb dX12_soonestAt_5 rfl (lv_at hl 1 rfl) ?_
  refine lv_iconst (v := (0 : Int32)) hx hb dX12_soonestAt_6 (by decide) ?_
  refine lv_aload_n hx hb dX12_soonestAt_7 rfl (lv_at hl 0 rfl) ?_
  refine k_get (v := .int (U1.1 25)) C fg_X12_62 hP 0 rfl rfl dX12_soonestAt_8 ?_
  refine lv_iconst (v := (1 : Int32)) hx hb dX12_soonestAt_11 (by decide) ?_
  refine lv_isub hx hb dX12_soonestAt_12 ?_
  obtain ⟨r4, hc3, hF⟩ := ob1_s hF
  refine k_inil C (k_rS (As := [.int x1, .int (0 : Int32), .int ((U1.1 25) - (1 : Int32))]) (rest := []) C (c_X12_isIn l D q _ x1 (0 : Int32) ((U1.1 25) - (1 : Int32)) hc3) kc_X12_isIn ml_X12_225 rfl rfl (by decide) (fun k x h => by simp at h) (⟨fun i j x y h => by simp at h, fun k x h => by simp at h⟩ : va_D A []) hS rfl hl.1 rfl (Nat.le_of_ble_eq_true rfl) dX12_soonestAt_13 (by decide)) hP hD hS (fun H locs hP hD hS => ?_)
  refine lv_if_eq (tgt := 28) hx hb dX12_soonestAt_16 (by decide) (fun c5 => ?_) (fun c5 => ?_)
  · have hF := op_t hF c5
    refine lv_iconst (v := (-1 : Int32)) hx hb dX12_soonestAt_28 (by decide) ?_
    cases hF
    exact k_iret C hP hS dX12_soonestAt_29
  · have hF := op_f hF c5
    refine lv_aload_n hx hb dX12_soonestAt_19 rfl (lv_at hl 0 rfl) ?_
    refine k_get (v := .ref (a0 25)) C fg_X12_59 hP 0 rfl rfl dX12_soonestAt_20 ?_
    refine lv_iload_n hx hb dX12_soonestAt_23 rfl (lv_at hl 1 rfl) ?_
    obtain ⟨h6, hF⟩ := op_ck hF
    refine k_ild (f := U1.2.2.1 24) C hP 10 rfl h6 dX12_soonestAt_24 ?_
    refine lv_goto (tgt := 29) hx hb dX12_soonestAt_25 (by decide) ?_
    cases hF
    exact k_iret C hP hS dX12_soonestAt_29

abbrev rm_X12_keepsRow : Room := ({ frames := 0, cells := 0, slots := 0, locals := 0 } : Room)
def F_X12_keepsRow_13 (k13 : Int32 × Int32 × Int32 × St → Option (St)) (x3 : Int32) (x4 : Int32) (x5 : Int32) (S0 : St) : Option (St) := if x5 < 0 then (some (S0)) else (if x3 = 0 then none else if oob x5 3 then none else nw (sA S0 26 x5 (x4 - x4 / x3 * x3)) fun U4 => if x3 = 0 then none else k13 (x3, (x4 / x3), (x5 + (-1)), U4))
def L_X12_keepsRow_13 (x3 : Int32) (x4 : Int32) (x5 : Int32) (S0 : St) : Option (St) := lp (fun kz z => F_X12_keepsRow_13 kz z.1 z.2.1 z.2.2.1 z.2.2.2) FU (x3, x4, x5, S0)
def F_X12_keepsRow (S0 : St) (x1 : Int32) (x2 : Int32) (x3 : Int32) : Option (St) := nw (sI S0 27 x2) fun U1 => L_X12_keepsRow_13 x3 x1 (x2 - (1 : Int32)) U1
set_option maxRecDepth 100000 in
set_option maxHeartbeats 4000000 in
theorem b_X12_keepsRow_13 {p : Program} {l : Launch} {e : Env} {s : State} {m : MethodId} {args : Array Value} {below : List Frame} {meth : Method} {c : Code} {D : va_G} {q : Nat → ClassId} {A : Nat → Prop} {o0 : Nat} {a0 : Nat → Nat} {T0 : St} (C : cx p s m args meth c cX12_keepsRow 6 none RX12 D q A) {k13 : Int32 × Int32 × Int32 × St → Option (St)} (hk13 : ∀ (x3 : Int32) (x4 : Int32) (x5 : Int32) (S0 : St), k13 (x3, x4, x5, S0) = some (T0) → ∀ (H : Heap) (locs : List Loc) (ls : Array Slot), va_P D vwCl (g12 q o0 a0 S0) H → va_D A (g12 q o0 a0 S0) → va_S A s.heap H locs → lv_has ls 6 [(0, .ref o0), (3, .int x3), (4, .int x4), (5, .int x5)] → W p l e rm_X12_keepsRow s m args below meth c H locs 0 0 (MQ below (QV D A (g12 q o0 a0 T0)) args s 0 0 A) (F0 m 13 ls [])) {x3 : Int32} {x4 : Int32} {x5 : Int32} {S0 : St} (hF : F_X12_keepsRow_13 k13 x3 x4 x5 S0 = some (T0)) {H : Heap} {locs : List Loc} (hP : va_P D vwCl (g12 q o0 a0 S0) H) (hD : va_D A (g12 q o0 a0 S0)) (hS : va_S A s.heap H locs) {ls : Array Slot} (hl : lv_has ls 6 [(0, .ref o0), (3, .int x3), (4, .int x4), (5, .int x5)]) : W p l e rm_X12_keepsRow s m args below meth c H locs 0 0 (MQ below (QV D A (g12 q o0 a0 T0)) args s 0 0 A) (F0 m 13 ls []) := by
  unfold F_X12_keepsRow_13 at hF
  obtain ⟨hx, hb, hr, hml, hown, hts, hlk, hA, hK, hN, hV⟩ := id C
  refine lv_iload hx hb dX12_keepsRow_13 (lv_at hl 3 rfl) ?_
  refine lv_if_lt (tgt := 41) hx hb dX12_keepsRow_15 (by decide) (fun c1 => ?_) (fun c1 => ?_)
  · have hF := op_t hF c1
    cases hF
    exact k_vret C hP hS dX12_keepsRow_41
  · have hF := op_f hF c1
    refine lv_aload_n hx hb dX12_keepsRow_18 rfl (lv_at hl 0 rfl) ?_
    refine k_get (v := .ref (a0 27)) C fg_X12_65 hP 0 rfl rfl dX12_keepsRow_19 ?_
    refine lv_iload hx hb dX12_keepsRow_22 (lv_at hl 3 rfl) ?_
    refine lv_iload hx hb dX12_keepsRow_24 (lv_at hl 2 rfl) ?_
    refine lv_iload_n hx hb dX12_keepsRow_26 rfl (lv_at hl 1 rfl) ?_
    obtain ⟨h2, hF⟩ := op_ck hF
    refine lv_irem hx hb dX12_keepsRow_27 h2 ?_
    obtain ⟨h3, hF⟩ := op_ck hF
    obtain ⟨U4, e5, hF⟩ := nw_s hF
    refine k_ist (f := S0.2.2.1 26) (W8 := g12 q o0 a0 U4) C hP hD hS 11 rfl h3 dX12_keepsRow_28 (by rw [e5]; rfl) (fun H locs hP hD hS => ?_)
    refine lv_iload hx hb dX12_keepsRow_29 (lv_at hl 2 rfl) ?_
    refine lv_iload_n hx hb dX12_keepsRow_31 rfl (lv_at hl 1 rfl) ?_
    obtain ⟨h6, hF⟩ := op_ck hF
    refine lv_idiv hx hb dX12_keepsRow_32 h6 ?_
    refine lv_istore (lv' := [(4, .int (x4 / x3)), (0, .ref o0), (3, .int x3), (5, .int x5)]) hx hb dX12_keepsRow_33 hl (by decide) rfl (fun ls hl => ?_)
    refine lv_iinc (v := (x5 + (-1))) (lv' := [(5, .int (x5 + (-1))), (4, .int (x4 / x3)), (0, .ref o0), (3, .int x3)]) hx hb dX12_keepsRow_35 hl (k := 3) rfl rfl (by decide) rfl (fun ls hl => ?_)
    refine lv_goto (tgt := 13) hx hb dX12_keepsRow_38 (by decide) ?_
    exact hk13 x3 (x4 / x3) (x5 + (-1)) U4 hF _ _ _ hP hD hS (lv_sub hl [2, 3, 1, 0] rfl)
set_option maxRecDepth 100000 in
set_option maxHeartbeats 4000000 in
theorem l_X12_keepsRow_13 {p : Program} {l : Launch} {e : Env} {s : State} {m : MethodId} {args : Array Value} {below : List Frame} {meth : Method} {c : Code} {D : va_G} {q : Nat → ClassId} {A : Nat → Prop} {o0 : Nat} {a0 : Nat → Nat} {T0 : St} (C : cx p s m args meth c cX12_keepsRow 6 none RX12 D q A) {x3 : Int32} {x4 : Int32} {x5 : Int32} {S0 : St} (hF : L_X12_keepsRow_13 x3 x4 x5 S0 = some (T0)) : ∀ (H : Heap) (locs : List Loc) (ls : Array Slot), va_P D vwCl (g12 q o0 a0 S0) H → va_D A (g12 q o0 a0 S0) → va_S A s.heap H locs → lv_has ls 6 [(0, .ref o0), (3, .int x3), (4, .int x4), (5, .int x5)] → W p l e rm_X12_keepsRow s m args below meth c H locs 0 0 (MQ below (QV D A (g12 q o0 a0 T0)) args s 0 0 A) (F0 m 13 ls []) :=
  lp_G _ _ (fun z => ∀ (H : Heap) (locs : List Loc) (ls : Array Slot), va_P D vwCl (g12 q o0 a0 z.2.2.2) H → va_D A (g12 q o0 a0 z.2.2.2) → va_S A s.heap H locs → lv_has ls 6 [(0, .ref o0), (3, .int z.1), (4, .int z.2.1), (5, .int z.2.2.1)] → W p l e rm_X12_keepsRow s m args below meth c H locs 0 0 (MQ below (QV D A (g12 q o0 a0 T0)) args s 0 0 A) (F0 m 13 ls [])) (fun kz hkz z hz H locs ls hP hD hS hl => b_X12_keepsRow_13 C (fun x3 x4 x5 S0 hz => hkz (x3, x4, x5, S0) hz) hz hP hD hS hl) FU (x3, x4, x5, S0) hF
set_option maxRecDepth 100000 in
set_option maxHeartbeats 4000000 in
theorem c_X12_keepsRow (l : Launch) (D : va_G) (q : Nat → ClassId) (o0 : Nat) (a0 : Nat → Nat) (S0 : St) (sz : Nat) (x1 : Int32) (x2 : Int32) (x3 : Int32) {T0 : St} (hF : F_X12_keepsRow S0 x1 x2 x3 = some (T0)) : Met l yX12_keepsRow (Cond.code yX12_keepsRow cX12_keepsRow 6 none :: TB) rm_X12_keepsRow (PC D q [.ref o0, .int x1, .int x2, .int x3] (g12 q o0 a0 S0) sz) ((fun A => QV D A (g12 q o0 a0 T0)) (va_A (g12 q o0 a0 S0) sz)) 0 0 (va_A (g12 q o0 a0 S0) sz) := by
  refine k_met (w0 := g12 q o0 a0 S0) (Q := fun A => QV D A (g12 q o0 a0 T0)) (by decide +kernel) (Nat.le_of_ble_eq_true rfl) ?_
  intro p e s m args below meth c A ls C hP hD hS hl
  have hl : lv_has ls 6 [(0, .ref o0), (1, .int x1), (2, .int x2), (3, .int x3)] := hl
  unfold F_X12_keepsRow at hF
  have C : cx p s m args meth c cX12_keepsRow 6 none RX12 D q A := C
  obtain ⟨hx, hb, hr, hml, hown, hts, hlk, hA, hK, hN, hV⟩ := id C
  refine lv_aload_n hx hb dX12_keepsRow_0 rfl (lv_at hl 0 rfl) ?_
  refine lv_iload_n hx hb dX12_keepsRow_1 rfl (lv_at hl 2 rfl) ?_
  obtain ⟨U1, e2, hF⟩ := nw_s hF
  refine k_put (W8 := g12 q o0 a0 U1) C fp_X12_68 hP hD hS 0 rfl rfl rfl (Nat.le_of_ble_eq_true rfl) dX12_keepsRow_2 (by rw [e2]; rfl) (fun H locs hP hD hS => ?_)
  refine lv_iload_n hx hb dX12_keepsRow_5 rfl (lv_at hl 1 rfl) ?_
  refine lv_istore (lv' := [(4, .int x1), (0, .ref o0), (1, .int x1), (2, .int x2), (3, .int x3)]) hx hb dX12_keepsRow_6 hl (by decide) rfl (fun ls hl => ?_)
  refine lv_iload_n hx hb dX12_keepsRow_8 rfl (lv_at hl 3 rfl) ?_
  refine lv_iconst (v := (1 : Int32)) hx hb dX12_keepsRow_9 (by decide) ?_
  refine lv_isub hx hb dX12_keepsRow_10 ?_
  refine lv_istore (lv' := [(5, .int (x2 - (1 : Int32))), (4, .int x1), (0, .ref o0), (1, .int x1), (2, .int x2), (3, .int x3)]) hx hb dX12_keepsRow_11 hl (by decide) rfl (fun ls hl => ?_)
  exact l_X12_keepsRow_13 C hF _ _ _ hP hD hS (lv_sub hl [2, 5, 1, 0] rfl)

abbrev rm_X12_made : Room := ({ frames := 2, cells := 0, slots := 0, locals := 47 } : Room)
def F_X12_made_131 (k36 : Int32 × Int32 × Int32 × Int32 × St → Option (Int32 × St)) (k49 : Int32 × Int32 × Int32 × Int32 × Int32 × St → Option (Int32 × St)) (x1 : Int32) (x2 : Int32) (x3 : Int32) (x4 : Int32) (x5 : Int32) (S0 : St) : Option (Int32 × St) := k49 (x1, x2, x3, x4, (x5 + 1), S0)
def F_X12_made_128 (k36 : Int32 × Int32 × Int32 × Int32 × St → Option (Int32 × St)) (k49 : Int32 × Int32 × Int32 × Int32 × Int32 × St → Option (Int32 × St)) (x1 : Int32) (x2 : Int32) (x3 : Int32) (x4 : Int32) (x5 : Int32) (S0 : St) : Option (Int32 × St) := F_X12_made_131 k36 k49 (x1 + 1) x2 x3 x4 x5 S0
def F_X12_made_68 (k36 : Int32 × Int32 × Int32 × Int32 × St → Option (Int32 × St)) (k49 : Int32 × Int32 × Int32 × Int32 × Int32 × St → Option (Int32 × St)) (k68 : Int32 × Int32 × Int32 × Int32 × Int32 × Int32 × Int32 × Int32 × St → Option (Int32 × St)) (x1 : Int32) (x2 : Int32) (x3 : Int32) (x4 : Int32) (x5 : Int32) (x6 : Int32) (x7 : Int32) (x8 : Int32) (S0 : St) : Option (Int32 × St) := if x4 ≤ x8 then (ob1 (F_X12_octet S0 (1 : Int32)) fun r3 => if x6 = r3 then (if x1 = 0 then (ob1 (F_X12_keepsRow S0 x5 x4 x2) fun U7 => F_X12_made_128 k36 k49 x1 x2 x3 x4 x5 U7) else (F_X12_made_128 k36 k49 x1 x2 x3 x4 x5 S0)) else (F_X12_made_131 k36 k49 x1 x2 x3 x4 x5 S0)) else (if x2 = 0 then none else if (x7 / x2) = 0 then none else if x2 = 0 then none else ob1 (F_X12_behindOf S0 x6 ((x5 / (x7 / x2)) - (x5 / (x7 / x2)) / x2 * x2)) fun r12 => k68 (x1, x2, x3, x4, x5, r12, (x7 / x2), (x8 + 1), S0))
def L_X12_made_68 (k36 : Int32 × Int32 × Int32 × Int32 × St → Option (Int32 × St)) (k49 : Int32 × Int32 × Int32 × Int32 × Int32 × St → Option (Int32 × St)) (x1 : Int32) (x2 : Int32) (x3 : Int32) (x4 : Int32) (x5 : Int32) (x6 : Int32) (x7 : Int32) (x8 : Int32) (S0 : St) : Option (Int32 × St) := lp (fun kz z => F_X12_made_68 k36 k49 kz z.1 z.2.1 z.2.2.1 z.2.2.2.1 z.2.2.2.2.1 z.2.2.2.2.2.1 z.2.2.2.2.2.2.1 z.2.2.2.2.2.2.2.1 z.2.2.2.2.2.2.2.2) FU (x1, x2, x3, x4, x5, x6, x7, x8, S0)
def F_X12_made_49 (k36 : Int32 × Int32 × Int32 × Int32 × St → Option (Int32 × St)) (k49 : Int32 × Int32 × Int32 × Int32 × Int32 × St → Option (Int32 × St)) (x1 : Int32) (x2 : Int32) (x3 : Int32) (x4 : Int32) (x5 : Int32) (S0 : St) : Option (Int32 × St) := if x3 ≤ x5 then (k36 (x1, x2, x3, (x4 + 1), S0)) else (ob1 (F_X12_octet S0 (0 : Int32)) fun r3 => L_X12_made_68 k36 k49 x1 x2 x3 x4 x5 r3 x3 (0 : Int32) S0)
def L_X12_made_49 (k36 : Int32 × Int32 × Int32 × Int32 × St → Option (Int32 × St)) (x1 : Int32) (x2 : Int32) (x3 : Int32) (x4 : Int32) (x5 : Int32) (S0 : St) : Option (Int32 × St) := lp (fun kz z => F_X12_made_49 k36 kz z.1 z.2.1 z.2.2.1 z.2.2.2.1 z.2.2.2.2.1 z.2.2.2.2.2) FU (x1, x2, x3, x4, x5, S0)
def F_X12_made_36 (k36 : Int32 × Int32 × Int32 × Int32 × St → Option (Int32 × St)) (x1 : Int32) (x2 : Int32) (x3 : Int32) (x4 : Int32) (S0 : St) : Option (Int32 × St) := if (4 : Int32) ≤ x4 then (some (x1, S0)) else (L_X12_made_49 k36 x1 x2 (x3 * x2) x4 (0 : Int32) S0)
def L_X12_made_36 (x1 : Int32) (x2 : Int32) (x3 : Int32) (x4 : Int32) (S0 : St) : Option (Int32 × St) := lp (fun kz z => F_X12_made_36 kz z.1 z.2.1 z.2.2.1 z.2.2.2.1 z.2.2.2.2) FU (x1, x2, x3, x4, S0)
def F_X12_made (S0 : St) : Option (Int32 × St) := nw (sI S0 0 (0 : Int32)) fun U1 => ob1 (F_X12_taken U1 (940 : Int32)) fun U4 => if (U4.1 3) = (2 : Int32) then (if oob (0 : Int32) 258 then none else nw (U4.2.2.1 6 (0 : Int32).toNatClampNeg) fun v7 => L_X12_made_36 (0 : Int32) v7 (1 : Int32) (1 : Int32) U4) else (some ((-1 : Int32), U4))
set_option maxRecDepth 100000 in
set_option maxHeartbeats 4000000 in
theorem b_X12_made_131 {p : Program} {l : Launch} {e : Env} {s : State} {m : MethodId} {args : Array Value} {below : List Frame} {meth : Method} {c : Code} {D : va_G} {q : Nat → ClassId} {A : Nat → Prop} {o0 : Nat} {a0 : Nat → Nat} {r : Int32} {T0 : St} (C : cx p s m args meth c cX12_made 9 (some .int) RX12 D q A) {k36 : Int32 × Int32 × Int32 × Int32 × St → Option (Int32 × St)} (hk36 : ∀ (x1 : Int32) (x2 : Int32) (x3 : Int32) (x4 : Int32) (S0 : St), k36 (x1, x2, x3, x4, S0) = some (r, T0) → ∀ (H : Heap) (locs : List Loc) (ls : Array Slot), va_P D vwCl (g12 q o0 a0 S0) H → va_D A (g12 q o0 a0 S0) → va_S A s.heap H locs → lv_has ls 9 [(0, .ref o0), (1, .int x1), (2, .int x2), (3, .int x3), (4, .int x4)] → W p l e rm_X12_made s m args below meth c H locs 0 0 (MQ below (QI D A r (g12 q o0 a0 T0)) args s 0 0 A) (F0 m 36 ls [])) {k49 : Int32 × Int32 × Int32 × Int32 × Int32 × St → Option (Int32 × St)} (hk49 : ∀ (x1 : Int32) (x2 : Int32) (x3 : Int32) (x4 : Int32) (x5 : Int32) (S0 : St), k49 (x1, x2, x3, x4, x5, S0) = some (r, T0) → ∀ (H : Heap) (locs : List Loc) (ls : Array Slot), va_P D vwCl (g12 q o0 a0 S0) H → va_D A (g12 q o0 a0 S0) → va_S A s.heap H locs → lv_has ls 9 [(0, .ref o0), (1, .int x1), (2, .int x2), (3, .int x3), (4, .int x4), (5, .int x5)] → W p l e rm_X12_made s m args below meth c H locs 0 0 (MQ below (QI D A r (g12 q o0 a0 T0)) args s 0 0 A) (F0 m 49 ls [])) {x1 : Int32} {x2 : Int32} {x3 : Int32} {x4 : Int32} {x5 : Int32} {S0 : St} (hF : F_X12_made_131 k36 k49 x1 x2 x3 x4 x5 S0 = some (r, T0)) {H : Heap} {locs : List Loc} (hP : va_P D vwCl (g12 q o0 a0 S0) H) (hD : va_D A (g12 q o0 a0 S0)) (hS : va_S A s.heap H locs) {ls : Array Slot} (hl : lv_has ls 9 [(0, .ref o0), (1, .int x1), (2, .int x2), (3, .int x3), (4, .int x4), (5, .int x5)]) : W p l e rm_X12_made s m args below meth c H locs 0 0 (MQ below (QI D A r (g12 q o0 a0 T0)) args s 0 0 A) (F0 m 131 ls []) := by
  unfold F_X12_made_131 at hF
  obtain ⟨hx, hb, hr, hml, hown, hts, hlk, hA, hK, hN, hV⟩ := id C
  refine lv_iinc (v := (x5 + 1)) (lv' := [(5, .int (x5 + 1)), (0, .ref o0), (1, .int x1), (2, .int x2), (3, .int x3), (4, .int x4)]) hx hb dX12_made_131 hl (k := 5) rfl rfl (by decide) rfl (fun ls hl => ?_)
  refine lv_goto (tgt := 49) hx hb dX12_made_134 (by decide) ?_
  exact hk49 x1 x2 x3 x4 (x5 + 1) S0 hF _ _ _ hP hD hS (lv_sub hl [1, 2, 3, 4, 5, 0] rfl)
set_option maxRecDepth 100000 in
set_option maxHeartbeats 4000000 in
theorem b_X12_made_128 {p : Program} {l : Launch} {e : Env} {s : State} {m : MethodId} {args : Array Value} {below : List Frame} {meth : Method} {c : Code} {D : va_G} {q : Nat → ClassId} {A : Nat → Prop} {o0 : Nat} {a0 : Nat → Nat} {r : Int32} {T0 : St} (C : cx p s m args meth c cX12_made 9 (some .int) RX12 D q A) {k36 : Int32 × Int32 × Int32 × Int32 × St → Option (Int32 × St)} (hk36 : ∀ (x1 : Int32) (x2 : Int32) (x3 : Int32) (x4 : Int32) (S0 : St), k36 (x1, x2, x3, x4, S0) = some (r, T0) → ∀ (H : Heap) (locs : List Loc) (ls : Array Slot), va_P D vwCl (g12 q o0 a0 S0) H → va_D A (g12 q o0 a0 S0) → va_S A s.heap H locs → lv_has ls 9 [(0, .ref o0), (1, .int x1), (2, .int x2), (3, .int x3), (4, .int x4)] → W p l e rm_X12_made s m args below meth c H locs 0 0 (MQ below (QI D A r (g12 q o0 a0 T0)) args s 0 0 A) (F0 m 36 ls [])) {k49 : Int32 × Int32 × Int32 × Int32 × Int32 × St → Option (Int32 × St)} (hk49 : ∀ (x1 : Int32) (x2 : Int32) (x3 : Int32) (x4 : Int32) (x5 : Int32) (S0 : St), k49 (x1, x2, x3, x4, x5, S0) = some (r, T0) → ∀ (H : Heap) (locs : List Loc) (ls : Array Slot), va_P D vwCl (g12 q o0 a0 S0) H → va_D A (g12 q o0 a0 S0) → va_S A s.heap H locs → lv_has ls 9 [(0, .ref o0), (1, .int x1), (2, .int x2), (3, .int x3), (4, .int x4), (5, .int x5)] → W p l e rm_X12_made s m args below meth c H locs 0 0 (MQ below (QI D A r (g12 q o0 a0 T0)) args s 0 0 A) (F0 m 49 ls [])) {x1 : Int32} {x2 : Int32} {x3 : Int32} {x4 : Int32} {x5 : Int32} {S0 : St} (hF : F_X12_made_128 k36 k49 x1 x2 x3 x4 x5 S0 = some (r, T0)) {H : Heap} {locs : List Loc} (hP : va_P D vwCl (g12 q o0 a0 S0) H) (hD : va_D A (g12 q o0 a0 S0)) (hS : va_S A s.heap H locs) {ls : Array Slot} (hl : lv_has ls 9 [(0, .ref o0), (1, .int x1), (2, .int x2), (3, .int x3), (4, .int x4), (5, .int x5)]) : W p l e rm_X12_made s m args below meth c H locs 0 0 (MQ below (QI D A r (g12 q o0 a0 T0)) args s 0 0 A) (F0 m 128 ls []) := by
  unfold F_X12_made_128 at hF
  obtain ⟨hx, hb, hr, hml, hown, hts, hlk, hA, hK, hN, hV⟩ := id C
  refine lv_iinc (v := (x1 + 1)) (lv' := [(1, .int (x1 + 1)), (0, .ref o0), (2, .int x2), (3, .int x3), (4, .int x4), (5, .int x5)]) hx hb dX12_made_128 hl (k := 1) rfl rfl (by decide) rfl (fun ls hl => ?_)
  exact b_X12_made_131 C hk36 hk49 hF hP hD hS (lv_sub hl [1, 0, 2, 3, 4, 5] rfl)
set_option maxRecDepth 100000 in
set_option maxHeartbeats 4000000 in
theorem b_X12_made_68 {p : Program} {l : Launch} {e : Env} {s : State} {m : MethodId} {args : Array Value} {below : List Frame} {meth : Method} {c : Code} {D : va_G} {q : Nat → ClassId} {A : Nat → Prop} {o0 : Nat} {a0 : Nat → Nat} {r : Int32} {T0 : St} (C : cx p s m args meth c cX12_made 9 (some .int) RX12 D q A) {k36 : Int32 × Int32 × Int32 × Int32 × St → Option (Int32 × St)} (hk36 : ∀ (x1 : Int32) (x2 : Int32) (x3 : Int32) (x4 : Int32) (S0 : St), k36 (x1, x2, x3, x4, S0) = some (r, T0) → ∀ (H : Heap) (locs : List Loc) (ls : Array Slot), va_P D vwCl (g12 q o0 a0 S0) H → va_D A (g12 q o0 a0 S0) → va_S A s.heap H locs → lv_has ls 9 [(0, .ref o0), (1, .int x1), (2, .int x2), (3, .int x3), (4, .int x4)] → W p l e rm_X12_made s m args below meth c H locs 0 0 (MQ below (QI D A r (g12 q o0 a0 T0)) args s 0 0 A) (F0 m 36 ls [])) {k49 : Int32 × Int32 × Int32 × Int32 × Int32 × St → Option (Int32 × St)} (hk49 : ∀ (x1 : Int32) (x2 : Int32) (x3 : Int32) (x4 : Int32) (x5 : Int32) (S0 : St), k49 (x1, x2, x3, x4, x5, S0) = some (r, T0) → ∀ (H : Heap) (locs : List Loc) (ls : Array Slot), va_P D vwCl (g12 q o0 a0 S0) H → va_D A (g12 q o0 a0 S0) → va_S A s.heap H locs → lv_has ls 9 [(0, .ref o0), (1, .int x1), (2, .int x2), (3, .int x3), (4, .int x4), (5, .int x5)] → W p l e rm_X12_made s m args below meth c H locs 0 0 (MQ below (QI D A r (g12 q o0 a0 T0)) args s 0 0 A) (F0 m 49 ls [])) {k68 : Int32 × Int32 × Int32 × Int32 × Int32 × Int32 × Int32 × Int32 × St → Option (Int32 × St)} (hk68 : ∀ (x1 : Int32) (x2 : Int32) (x3 : Int32) (x4 : Int32) (x5 : Int32) (x6 : Int32) (x7 : Int32) (x8 : Int32) (S0 : St), k68 (x1, x2, x3, x4, x5, x6, x7, x8, S0) = some (r, T0) → ∀ (H : Heap) (locs : List Loc) (ls : Array Slot), va_P D vwCl (g12 q o0 a0 S0) H → va_D A (g12 q o0 a0 S0) → va_S A s.heap H locs → lv_has ls 9 [(0, .ref o0), (1, .int x1), (2, .int x2), (3, .int x3), (4, .int x4), (5, .int x5), (6, .int x6), (7, .int x7), (8, .int x8)] → W p l e rm_X12_made s m args below meth c H locs 0 0 (MQ below (QI D A r (g12 q o0 a0 T0)) args s 0 0 A) (F0 m 68 ls [])) {x1 : Int32} {x2 : Int32} {x3 : Int32} {x4 : Int32} {x5 : Int32} {x6 : Int32} {x7 : Int32} {x8 : Int32} {S0 : St} (hF : F_X12_made_68 k36 k49 k68 x1 x2 x3 x4 x5 x6 x7 x8 S0 = some (r, T0)) {H : Heap} {locs : List Loc} (hP : va_P D vwCl (g12 q o0 a0 S0) H) (hD : va_D A (g12 q o0 a0 S0)) (hS : va_S A s.heap H locs) {ls : Array Slot} (hl : lv_has ls 9 [(0, .ref o0), (1, .int x1), (2, .int x2), (3, .int x3), (4, .int x4), (5, .int x5), (6, .int x6), (7, .int x7), (8, .int x8)]) : W p l e rm_X12_made s m args below meth c H locs 0 0 (MQ below (QI D A r (g12 q o0 a0 T0)) args s 0 0 A) (F0 m 68 ls []) := by
  unfold F_X12_made_68 at hF
  obtain ⟨hx, hb, hr, hml, hown, hts, hlk, hA, hK, hN, hV⟩ := id C
  refine lv_iload hx hb dX12_made_68 (lv_at hl 8 rfl) ?_
  refine lv_iload hx hb dX12_made_70 (lv_at hl 4 rfl) ?_
  refine lv_icmp_ge (tgt := 102) hx hb dX12_made_72 (by decide) (fun c1 => ?_) (fun c1 => ?_)
  · have hF := op_t hF c1
    refine lv_iload hx hb dX12_made_102 (lv_at hl 6 rfl) ?_
    refine lv_aload_n hx hb dX12_made_104 rfl (lv_at hl 0 rfl) ?_
    refine lv_iconst (v := (1 : Int32)) hx hb dX12_made_105 (by decide) ?_
    obtain ⟨r3, hc2, hF⟩ := ob1_s hF
    refine k_iall C (k_rV (As := [.int (1 : Int32)]) (rest := [.int x6]) C (c_X12_octet l D q o0 a0 S0 _ (1 : Int32) hc2) kc_X12_octet ml_X12_385 rfl rfl (by decide) hP hD hS (va_recv hK hP (ci := 12) (q0 := 0) rfl rfl) rfl hl.1 rfl (Nat.le_of_ble_eq_true rfl) dX12_made_106 (by decide)) hP hD hS ((gad12 q o0 a0 S0).trans (gad12 q o0 a0 S0).symm) (fun H locs hP hD hS => ?_)
    refine lv_icmp_eq (tgt := 115) hx hb dX12_made_109 (by decide) (fun c4 => ?_) (fun c4 => ?_)
    · have hF := op_t hF c4
      refine lv_iload_n hx hb dX12_made_115 rfl (lv_at hl 1 rfl) ?_
      refine lv_if_ne (tgt := 128) hx hb dX12_made_116 (by decide) (fun c5 => ?_) (fun c5 => ?_)
      · have hF := op_f hF c5
        exact b_X12_made_128 C hk36 hk49 hF hP hD hS (lv_sub hl [0, 1, 2, 3, 4, 5] rfl)
      · have hF := op_t hF c5
        refine lv_aload_n hx hb dX12_made_119 rfl (lv_at hl 0 rfl) ?_
        refine lv_iload hx hb dX12_made_120 (lv_at hl 5 rfl) ?_
        refine lv_iload hx hb dX12_made_122 (lv_at hl 4 rfl) ?_
        refine lv_iload_n hx hb dX12_made_124 rfl (lv_at hl 2 rfl) ?_
        obtain ⟨U7, hc6, hF⟩ := ob1_s hF
        refine k_vall C (k_rV (As := [.int x5, .int x4, .int x2]) (rest := []) C (c_X12_keepsRow l D q o0 a0 S0 _ x5 x4 x2 hc6) kc_X12_keepsRow ml_X12_388 rfl rfl (by decide) hP hD hS (va_recv hK hP (ci := 12) (q0 := 0) rfl rfl) rfl hl.1 rfl (Nat.le_of_ble_eq_true rfl) dX12_made_125 (by decide)) hP hD hS ((gad12 q o0 a0 U7).trans (gad12 q o0 a0 S0).symm) (fun H locs hP hD hS => ?_)
        exact b_X12_made_128 C hk36 hk49 hF hP hD hS (lv_sub hl [0, 1, 2, 3, 4, 5] rfl)
    · have hF := op_f hF c4
      refine lv_goto (tgt := 131) hx hb dX12_made_112 (by decide) ?_
      exact b_X12_made_131 C hk36 hk49 hF hP hD hS (lv_sub hl [0, 1, 2, 3, 4, 5] rfl)
  · have hF := op_f hF c1
    refine lv_iload hx hb dX12_made_75 (lv_at hl 7 rfl) ?_
    refine lv_iload_n hx hb dX12_made_77 rfl (lv_at hl 2 rfl) ?_
    obtain ⟨h8, hF⟩ := op_ck hF
    refine lv_idiv hx hb dX12_made_78 h8 ?_
    refine lv_istore (lv' := [(7, .int (x7 / x2)), (0, .ref o0), (1, .int x1), (2, .int x2), (3, .int x3), (4, .int x4), (5, .int x5), (6, .int x6), (8, .int x8)]) hx hb dX12_made_79 hl (by decide) rfl (fun ls hl => ?_)
    refine lv_aload_n hx hb dX12_made_81 rfl (lv_at hl 1 rfl) ?_
    refine lv_iload hx hb dX12_made_82 (lv_at hl 7 rfl) ?_
    refine lv_iload hx hb dX12_made_84 (lv_at hl 6 rfl) ?_
    refine lv_iload hx hb dX12_made_86 (lv_at hl 0 rfl) ?_
    obtain ⟨h9, hF⟩ := op_ck hF
    refine lv_idiv hx hb dX12_made_88 h9 ?_
    refine lv_iload_n hx hb dX12_made_89 rfl (lv_at hl 3 rfl) ?_
    obtain ⟨h10, hF⟩ := op_ck hF
    refine lv_irem hx hb dX12_made_90 h10 ?_
    obtain ⟨r12, hc11, hF⟩ := ob1_s hF
    refine k_iall C (k_rV (As := [.int x6, .int ((x5 / (x7 / x2)) - (x5 / (x7 / x2)) / x2 * x2)]) (rest := []) C (c_X12_behindOf l D q o0 a0 S0 _ x6 ((x5 / (x7 / x2)) - (x5 / (x7 / x2)) / x2 * x2) hc11) kc_X12_behindOf ml_X12_346 rfl rfl (by decide) hP hD hS (va_recv hK hP (ci := 12) (q0 := 0) rfl rfl) rfl hl.1 rfl (Nat.le_of_ble_eq_true rfl) dX12_made_91 (by decide)) hP hD hS ((gad12 q o0 a0 S0).trans (gad12 q o0 a0 S0).symm) (fun H locs hP hD hS => ?_)
    refine lv_istore (lv' := [(6, .int r12), (7, .int (x7 / x2)), (0, .ref o0), (1, .int x1), (2, .int x2), (3, .int x3), (4, .int x4), (5, .int x5), (8, .int x8)]) hx hb dX12_made_94 hl (by decide) rfl (fun ls hl => ?_)
    refine lv_iinc (v := (x8 + 1)) (lv' := [(8, .int (x8 + 1)), (6, .int r12), (7, .int (x7 / x2)), (0, .ref o0), (1, .int x1), (2, .int x2), (3, .int x3), (4, .int x4), (5, .int x5)]) hx hb dX12_made_96 hl (k := 8) rfl rfl (by decide) rfl (fun ls hl => ?_)
    refine lv_goto (tgt := 68) hx hb dX12_made_99 (by decide) ?_
    exact hk68 x1 x2 x3 x4 x5 r12 (x7 / x2) (x8 + 1) S0 hF _ _ _ hP hD hS (lv_sub hl [3, 4, 5, 6, 7, 8, 1, 2, 0] rfl)
set_option maxRecDepth 100000 in
set_option maxHeartbeats 4000000 in
theorem l_X12_made_68 {p : Program} {l : Launch} {e : Env} {s : State} {m : MethodId} {args : Array Value} {below : List Frame} {meth : Method} {c : Code} {D : va_G} {q : Nat → ClassId} {A : Nat → Prop} {o0 : Nat} {a0 : Nat → Nat} {r : Int32} {T0 : St} (C : cx p s m args meth c cX12_made 9 (some .int) RX12 D q A) {k36 : Int32 × Int32 × Int32 × Int32 × St → Option (Int32 × St)} (hk36 : ∀ (x1 : Int32) (x2 : Int32) (x3 : Int32) (x4 : Int32) (S0 : St), k36 (x1, x2, x3, x4, S0) = some (r, T0) → ∀ (H : Heap) (locs : List Loc) (ls : Array Slot), va_P D vwCl (g12 q o0 a0 S0) H → va_D A (g12 q o0 a0 S0) → va_S A s.heap H locs → lv_has ls 9 [(0, .ref o0), (1, .int x1), (2, .int x2), (3, .int x3), (4, .int x4)] → W p l e rm_X12_made s m args below meth c H locs 0 0 (MQ below (QI D A r (g12 q o0 a0 T0)) args s 0 0 A) (F0 m 36 ls [])) {k49 : Int32 × Int32 × Int32 × Int32 × Int32 × St → Option (Int32 × St)} (hk49 : ∀ (x1 : Int32) (x2 : Int32) (x3 : Int32) (x4 : Int32) (x5 : Int32) (S0 : St), k49 (x1, x2, x3, x4, x5, S0) = some (r, T0) → ∀ (H : Heap) (locs : List Loc) (ls : Array Slot), va_P D vwCl (g12 q o0 a0 S0) H → va_D A (g12 q o0 a0 S0) → va_S A s.heap H locs → lv_has ls 9 [(0, .ref o0), (1, .int x1), (2, .int x2), (3, .int x3), (4, .int x4), (5, .int x5)] → W p l e rm_X12_made s m args below meth c H locs 0 0 (MQ below (QI D A r (g12 q o0 a0 T0)) args s 0 0 A) (F0 m 49 ls [])) {x1 : Int32} {x2 : Int32} {x3 : Int32} {x4 : Int32} {x5 : Int32} {x6 : Int32} {x7 : Int32} {x8 : Int32} {S0 : St} (hF : L_X12_made_68 k36 k49 x1 x2 x3 x4 x5 x6 x7 x8 S0 = some (r, T0)) : ∀ (H : Heap) (locs : List Loc) (ls : Array Slot), va_P D vwCl (g12 q o0 a0 S0) H → va_D A (g12 q o0 a0 S0) → va_S A s.heap H locs → lv_has ls 9 [(0, .ref o0), (1, .int x1), (2, .int x2), (3, .int x3), (4, .int x4), (5, .int x5), (6, .int x6), (7, .int x7), (8, .int x8)] → W p l e rm_X12_made s m args below meth c H locs 0 0 (MQ below (QI D A r (g12 q o0 a0 T0)) args s 0 0 A) (F0 m 68 ls []) :=
  lp_G _ _ (fun z => ∀ (H : Heap) (locs : List Loc) (ls : Array Slot), va_P D vwCl (g12 q o0 a0 z.2.2.2.2.2.2.2.2) H → va_D A (g12 q o0 a0 z.2.2.2.2.2.2.2.2) → va_S A s.heap H locs → lv_has ls 9 [(0, .ref o0), (1, .int z.1), (2, .int z.2.1), (3, .int z.2.2.1), (4, .int z.2.2.2.1), (5, .int z.2.2.2.2.1), (6, .int z.2.2.2.2.2.1), (7, .int z.2.2.2.2.2.2.1), (8, .int z.2.2.2.2.2.2.2.1)] → W p l e rm_X12_made s m args below meth c H locs 0 0 (MQ below (QI D A r (g12 q o0 a0 T0)) args s 0 0 A) (F0 m 68 ls [])) (fun kz hkz z hz H locs ls hP hD hS hl => b_X12_made_68 C hk36 hk49 (fun x1 x2 x3 x4 x5 x6 x7 x8 S0 hz => hkz (x1, x2, x3, x4, x5, x6, x7, x8, S0) hz) hz hP hD hS hl) FU (x1, x2, x3, x4, x5, x6, x7, x8, S0) hF
set_option maxRecDepth 100000 in
set_option maxHeartbeats 4000000 in
theorem b_X12_made_49 {p : Program} {l : Launch} {e : Env} {s : State} {m : MethodId} {args : Array Value} {below : List Frame} {meth : Method} {c : Code} {D : va_G} {q : Nat → ClassId} {A : Nat → Prop} {o0 : Nat} {a0 : Nat → Nat} {r : Int32} {T0 : St} (C : cx p s m args meth c cX12_made 9 (some .int) RX12 D q A) {k36 : Int32 × Int32 × Int32 × Int32 × St → Option (Int32 × St)} (hk36 : ∀ (x1 : Int32) (x2 : Int32) (x3 : Int32) (x4 : Int32) (S0 : St), k36 (x1, x2, x3, x4, S0) = some (r, T0) → ∀ (H : Heap) (locs : List Loc) (ls : Array Slot), va_P D vwCl (g12 q o0 a0 S0) H → va_D A (g12 q o0 a0 S0) → va_S A s.heap H locs → lv_has ls 9 [(0, .ref o0), (1, .int x1), (2, .int x2), (3, .int x3), (4, .int x4)] → W p l e rm_X12_made s m args below meth c H locs 0 0 (MQ below (QI D A r (g12 q o0 a0 T0)) args s 0 0 A) (F0 m 36 ls [])) {k49 : Int32 × Int32 × Int32 × Int32 × Int32 × St → Option (Int32 × St)} (hk49 : ∀ (x1 : Int32) (x2 : Int32) (x3 : Int32) (x4 : Int32) (x5 : Int32) (S0 : St), k49 (x1, x2, x3, x4, x5, S0) = some (r, T0) → ∀ (H : Heap) (locs : List Loc) (ls : Array Slot), va_P D vwCl (g12 q o0 a0 S0) H → va_D A (g12 q o0 a0 S0) → va_S A s.heap H locs → lv_has ls 9 [(0, .ref o0), (1, .int x1), (2, .int x2), (3, .int x3), (4, .int x4), (5, .int x5)] → W p l e rm_X12_made s m args below meth c H locs 0 0 (MQ below (QI D A r (g12 q o0 a0 T0)) args s 0 0 A) (F0 m 49 ls [])) {x1 : Int32} {x2 : Int32} {x3 : Int32} {x4 : Int32} {x5 : Int32} {S0 : St} (hF : F_X12_made_49 k36 k49 x1 x2 x3 x4 x5 S0 = some (r, T0)) {H : Heap} {locs : List Loc} (hP : va_P D vwCl (g12 q o0 a0 S0) H) (hD : va_D A (g12 q o0 a0 S0)) (hS : va_S A s.heap H locs) {ls : Array Slot} (hl : lv_has ls 9 [(0, .ref o0), (1, .int x1), (2, .int x2), (3, .int x3), (4, .int x4), (5, .int x5)]) : W p l e rm_X12_made s m args below meth c H locs 0 0 (MQ below (QI D A r (g12 q o0 a0 T0)) args s 0 0 A) (F0 m 49 ls []) := by
  unfold F_X12_made_49 at hF
  obtain ⟨hx, hb, hr, hml, hown, hts, hlk, hA, hK, hN, hV⟩ := id C
  refine lv_iload hx hb dX12_made_49 (lv_at hl 5 rfl) ?_
  refine lv_iload_n hx hb dX12_made_51 rfl (lv_at hl 3 rfl) ?_
  refine lv_icmp_ge (tgt := 137) hx hb dX12_made_52 (by decide) (fun c1 => ?_) (fun c1 => ?_)
  · have hF := op_t hF c1
    refine lv_iinc (v := (x4 + 1)) (lv' := [(4, .int (x4 + 1)), (0, .ref o0), (1, .int x1), (2, .int x2), (3, .int x3), (5, .int x5)]) hx hb dX12_made_137 hl (k := 4) rfl rfl (by decide) rfl (fun ls hl => ?_)
    refine lv_goto (tgt := 36) hx hb dX12_made_140 (by decide) ?_
    exact hk36 x1 x2 x3 (x4 + 1) S0 hF _ _ _ hP hD hS (lv_sub hl [1, 2, 3, 4, 0] rfl)
  · have hF := op_f hF c1
    refine lv_aload_n hx hb dX12_made_55 rfl (lv_at hl 0 rfl) ?_
    refine lv_iconst (v := (0 : Int32)) hx hb dX12_made_56 (by decide) ?_
    obtain ⟨r3, hc2, hF⟩ := ob1_s hF
    refine k_iall C (k_rV (As := [.int (0 : Int32)]) (rest := []) C (c_X12_octet l D q o0 a0 S0 _ (0 : Int32) hc2) kc_X12_octet ml_X12_385 rfl rfl (by decide) hP hD hS (va_recv hK hP (ci := 12) (q0 := 0) rfl rfl) rfl hl.1 rfl (Nat.le_of_ble_eq_true rfl) dX12_made_57 (by decide)) hP hD hS ((gad12 q o0 a0 S0).trans (gad12 q o0 a0 S0).symm) (fun H locs hP hD hS => ?_)
    refine lv_istore (lv' := [(6, .int r3), (0, .ref o0), (1, .int x1), (2, .int x2), (3, .int x3), (4, .int x4), (5, .int x5)]) hx hb dX12_made_60 hl (by decide) rfl (fun ls hl => ?_)
    refine lv_iload_n hx hb dX12_made_62 rfl (lv_at hl 4 rfl) ?_
    refine lv_istore (lv' := [(7, .int x3), (6, .int r3), (0, .ref o0), (1, .int x1), (2, .int x2), (3, .int x3), (4, .int x4), (5, .int x5)]) hx hb dX12_made_63 hl (by decide) rfl (fun ls hl => ?_)
    refine lv_iconst (v := (0 : Int32)) hx hb dX12_made_65 (by decide) ?_
    refine lv_istore (lv' := [(8, .int (0 : Int32)), (7, .int x3), (6, .int r3), (0, .ref o0), (1, .int x1), (2, .int x2), (3, .int x3), (4, .int x4), (5, .int x5)]) hx hb dX12_made_66 hl (by decide) rfl (fun ls hl => ?_)
    exact l_X12_made_68 C hk36 hk49 hF _ _ _ hP hD hS (lv_sub hl [3, 4, 5, 6, 7, 8, 2, 1, 0] rfl)
set_option maxRecDepth 100000 in
set_option maxHeartbeats 4000000 in
theorem l_X12_made_49 {p : Program} {l : Launch} {e : Env} {s : State} {m : MethodId} {args : Array Value} {below : List Frame} {meth : Method} {c : Code} {D : va_G} {q : Nat → ClassId} {A : Nat → Prop} {o0 : Nat} {a0 : Nat → Nat} {r : Int32} {T0 : St} (C : cx p s m args meth c cX12_made 9 (some .int) RX12 D q A) {k36 : Int32 × Int32 × Int32 × Int32 × St → Option (Int32 × St)} (hk36 : ∀ (x1 : Int32) (x2 : Int32) (x3 : Int32) (x4 : Int32) (S0 : St), k36 (x1, x2, x3, x4, S0) = some (r, T0) → ∀ (H : Heap) (locs : List Loc) (ls : Array Slot), va_P D vwCl (g12 q o0 a0 S0) H → va_D A (g12 q o0 a0 S0) → va_S A s.heap H locs → lv_has ls 9 [(0, .ref o0), (1, .int x1), (2, .int x2), (3, .int x3), (4, .int x4)] → W p l e rm_X12_made s m args below meth c H locs 0 0 (MQ below (QI D A r (g12 q o0 a0 T0)) args s 0 0 A) (F0 m 36 ls [])) {x1 : Int32} {x2 : Int32} {x3 : Int32} {x4 : Int32} {x5 : Int32} {S0 : St} (hF : L_X12_made_49 k36 x1 x2 x3 x4 x5 S0 = some (r, T0)) : ∀ (H : Heap) (locs : List Loc) (ls : Array Slot), va_P D vwCl (g12 q o0 a0 S0) H → va_D A (g12 q o0 a0 S0) → va_S A s.heap H locs → lv_has ls 9 [(0, .ref o0), (1, .int x1), (2, .int x2), (3, .int x3), (4, .int x4), (5, .int x5)] → W p l e rm_X12_made s m args below meth c H locs 0 0 (MQ below (QI D A r (g12 q o0 a0 T0)) args s 0 0 A) (F0 m 49 ls []) :=
  lp_G _ _ (fun z => ∀ (H : Heap) (locs : List Loc) (ls : Array Slot), va_P D vwCl (g12 q o0 a0 z.2.2.2.2.2) H → va_D A (g12 q o0 a0 z.2.2.2.2.2) → va_S A s.heap H locs → lv_has ls 9 [(0, .ref o0), (1, .int z.1), (2, .int z.2.1), (3, .int z.2.2.1), (4, .int z.2.2.2.1), (5, .int z.2.2.2.2.1)] → W p l e rm_X12_made s m args below meth c H locs 0 0 (MQ below (QI D A r (g12 q o0 a0 T0)) args s 0 0 A) (F0 m 49 ls [])) (fun kz hkz z hz H locs ls hP hD hS hl => b_X12_made_49 C hk36 (fun x1 x2 x3 x4 x5 S0 hz => hkz (x1, x2, x3, x4, x5, S0) hz) hz hP hD hS hl) FU (x1, x2, x3, x4, x5, S0) hF
set_option maxRecDepth 100000 in
set_option maxHeartbeats 4000000 in
theorem b_X12_made_36 {p : Program} {l : Launch} {e : Env} {s : State} {m : MethodId} {args : Array Value} {below : List Frame} {meth : Method} {c : Code} {D : va_G} {q : Nat → ClassId} {A : Nat → Prop} {o0 : Nat} {a0 : Nat → Nat} {r : Int32} {T0 : St} (C : cx p s m args meth c cX12_made 9 (some .int) RX12 D q A) {k36 : Int32 × Int32 × Int32 × Int32 × St → Option (Int32 × St)} (hk36 : ∀ (x1 : Int32) (x2 : Int32) (x3 : Int32) (x4 : Int32) (S0 : St), k36 (x1, x2, x3, x4, S0) = some (r, T0) → ∀ (H : Heap) (locs : List Loc) (ls : Array Slot), va_P D vwCl (g12 q o0 a0 S0) H → va_D A (g12 q o0 a0 S0) → va_S A s.heap H locs → lv_has ls 9 [(0, .ref o0), (1, .int x1), (2, .int x2), (3, .int x3), (4, .int x4)] → W p l e rm_X12_made s m args below meth c H locs 0 0 (MQ below (QI D A r (g12 q o0 a0 T0)) args s 0 0 A) (F0 m 36 ls [])) {x1 : Int32} {x2 : Int32} {x3 : Int32} {x4 : Int32} {S0 : St} (hF : F_X12_made_36 k36 x1 x2 x3 x4 S0 = some (r, T0)) {H : Heap} {locs : List Loc} (hP : va_P D vwCl (g12 q o0 a0 S0) H) (hD : va_D A (g12 q o0 a0 S0)) (hS : va_S A s.heap H locs) {ls : Array Slot} (hl : lv_has ls 9 [(0, .ref o0), (1, .int x1), (2, .int x2), (3, .int x3), (4, .int x4)]) : W p l e rm_X12_made s m args below meth c H locs 0 0 (MQ below (QI D A r (g12 q o0 a0 T0)) args s 0 0 A) (F0 m 36 ls []) := by
  unfold F_X12_made_36 at hF
  obtain ⟨hx, hb, hr, hml, hown, hts, hlk, hA, hK, hN, hV⟩ := id C
  refine lv_iload hx hb dX12_made_36 (lv_at hl 4 rfl) ?_
  refine lv_iconst (v := (4 : Int32)) hx hb dX12_made_38 (by decide) ?_
  refine lv_icmp_ge (tgt := 143) hx hb dX12_made_39 (by decide) (fun c1 => ?_) (fun c1 => ?_)
  · have hF := op_t hF c1
    refine lv_iload_n hx hb dX12_made_143 rfl (lv_at hl 1 rfl) ?_
    cases hF
    exact k_iret C hP hS dX12_made_144
  · have hF := op_f hF c1
    refine lv_iload_n hx hb dX12_made_42 rfl (lv_at hl 3 rfl) ?_
    refine lv_iload_n hx hb dX12_made_43 rfl (lv_at hl 2 rfl) ?_
    refine lv_imul hx hb dX12_made_44 ?_
    refine lv_istore_n (lv' := [(3, .int (x3 * x2)), (0, .ref o0), (1, .int x1), (2, .int x2), (4, .int x4)]) hx hb dX12_made_45 rfl hl (by decide) rfl (fun ls hl => ?_)
    refine lv_iconst (v := (0 : Int32)) hx hb dX12_made_46 (by decide) ?_
    refine lv_istore (lv' := [(5, .int (0 : Int32)), (3, .int (x3 * x2)), (0, .ref o0), (1, .int x1), (2, .int x2), (4, .int x4)]) hx hb dX12_made_47 hl (by decide) rfl (fun ls hl => ?_)
    exact l_X12_made_49 C hk36 hF _ _ _ hP hD hS (lv_sub hl [2, 3, 4, 1, 5, 0] rfl)
set_option maxRecDepth 100000 in
set_option maxHeartbeats 4000000 in
theorem l_X12_made_36 {p : Program} {l : Launch} {e : Env} {s : State} {m : MethodId} {args : Array Value} {below : List Frame} {meth : Method} {c : Code} {D : va_G} {q : Nat → ClassId} {A : Nat → Prop} {o0 : Nat} {a0 : Nat → Nat} {r : Int32} {T0 : St} (C : cx p s m args meth c cX12_made 9 (some .int) RX12 D q A) {x1 : Int32} {x2 : Int32} {x3 : Int32} {x4 : Int32} {S0 : St} (hF : L_X12_made_36 x1 x2 x3 x4 S0 = some (r, T0)) : ∀ (H : Heap) (locs : List Loc) (ls : Array Slot), va_P D vwCl (g12 q o0 a0 S0) H → va_D A (g12 q o0 a0 S0) → va_S A s.heap H locs → lv_has ls 9 [(0, .ref o0), (1, .int x1), (2, .int x2), (3, .int x3), (4, .int x4)] → W p l e rm_X12_made s m args below meth c H locs 0 0 (MQ below (QI D A r (g12 q o0 a0 T0)) args s 0 0 A) (F0 m 36 ls []) :=
  lp_G _ _ (fun z => ∀ (H : Heap) (locs : List Loc) (ls : Array Slot), va_P D vwCl (g12 q o0 a0 z.2.2.2.2) H → va_D A (g12 q o0 a0 z.2.2.2.2) → va_S A s.heap H locs → lv_has ls 9 [(0, .ref o0), (1, .int z.1), (2, .int z.2.1), (3, .int z.2.2.1), (4, .int z.2.2.2.1)] → W p l e rm_X12_made s m args below meth c H locs 0 0 (MQ below (QI D A r (g12 q o0 a0 T0)) args s 0 0 A) (F0 m 36 ls [])) (fun kz hkz z hz H locs ls hP hD hS hl => b_X12_made_36 C (fun x1 x2 x3 x4 S0 hz => hkz (x1, x2, x3, x4, S0) hz) hz hP hD hS hl) FU (x1, x2, x3, x4, S0) hF
set_option maxRecDepth 100000 in
set_option maxHeartbeats 4000000 in
theorem c_X12_made (l : Launch) (D : va_G) (q : Nat → ClassId) (o0 : Nat) (a0 : Nat → Nat) (S0 : St) (sz : Nat) {r : Int32} {T0 : St} (hF : F_X12_made S0 = some (r, T0)) : Met l yX12_made (Cond.code yX12_made cX12_made 9 (some .int) :: TB) rm_X12_made (PC D q [.ref o0] (g12 q o0 a0 S0) sz) ((fun A => QI D A r (g12 q o0 a0 T0)) (va_A (g12 q o0 a0 S0) sz)) 0 0 (va_A (g12 q o0 a0 S0) sz) := by
  refine k_met (w0 := g12 q o0 a0 S0) (Q := fun A => QI D A r (g12 q o0 a0 T0)) (by decide +kernel) (Nat.le_of_ble_eq_true rfl) ?_
  intro p e s m args below meth c A ls C hP hD hS hl
  have hl : lv_has ls 9 [(0, .ref o0)] := hl
  unfold F_X12_made at hF
  have C : cx p s m args meth c cX12_made 9 (some .int) RX12 D q A := C
  obtain ⟨hx, hb, hr, hml, hown, hts, hlk, hA, hK, hN, hV⟩ := id C
  refine lv_aload_n hx hb dX12_made_0 rfl (lv_at hl 0 rfl) ?_
  refine lv_iconst (v := (0 : Int32)) hx hb dX12_made_1 (by decide) ?_
  obtain ⟨U1, e2, hF⟩ := nw_s hF
  refine k_put (W8 := g12 q o0 a0 U1) C fp_X12_1 hP hD hS 0 rfl rfl rfl (Nat.le_of_ble_eq_true rfl) dX12_made_2 (by rw [e2]; rfl) (fun H locs hP hD hS => ?_)
  refine lv_aload_n hx hb dX12_made_5 rfl (lv_at hl 0 rfl) ?_
  refine lv_sipush (v := (940 : Int32)) hx hb dX12_made_6 (by decide) ?_
  obtain ⟨U4, hc3, hF⟩ := ob1_s hF
  refine k_vall C (k_rV (As := [.int (940 : Int32)]) (rest := []) C (c_X12_taken l D q o0 a0 U1 _ (940 : Int32) hc3) kc_X12_taken ml_X12_278 rfl rfl (by decide) hP hD hS (va_recv hK hP (ci := 12) (q0 := 0) rfl rfl) rfl hl.1 rfl (Nat.le_of_ble_eq_true rfl) dX12_made_9 (by decide)) hP hD hS ((gad12 q o0 a0 U4).trans (gad12 q o0 a0 U1).symm) (fun H locs hP hD hS => ?_)
  refine lv_aload_n hx hb dX12_made_12 rfl (lv_at hl 0 rfl) ?_
  refine k_get (v := .int (U4.1 3)) C fg_X12_18 hP 0 rfl rfl dX12_made_13 ?_
  refine lv_iconst (v := (2 : Int32)) hx hb dX12_made_16 (by decide) ?_
  refine lv_icmp_eq (tgt := 22) hx hb dX12_made_17 (by decide) (fun c5 => ?_) (fun c5 => ?_)
  · have hF := op_t hF c5
    refine lv_iconst (v := (0 : Int32)) hx hb dX12_made_22 (by decide) ?_
    refine lv_istore_n (lv' := [(1, .int (0 : Int32)), (0, .ref o0)]) hx hb dX12_made_23 rfl hl (by decide) rfl (fun ls hl => ?_)
    refine lv_aload_n hx hb dX12_made_24 rfl (lv_at hl 1 rfl) ?_
    refine k_get (v := .ref (a0 7)) C fg_X12_33 hP 0 rfl rfl dX12_made_25 ?_
    refine lv_iconst (v := (0 : Int32)) hx hb dX12_made_28 (by decide) ?_
    obtain ⟨h6, hF⟩ := op_ck hF
    refine k_ild (f := U4.2.2.1 6) C hP 2 rfl h6 dX12_made_29 ?_
    obtain ⟨v7, e8, hF⟩ := nw_s hF
    refine k_rni e8 ?_
    refine lv_istore_n (lv' := [(2, .int v7), (1, .int (0 : Int32)), (0, .ref o0)]) hx hb dX12_made_30 rfl hl (by decide) rfl (fun ls hl => ?_)
    refine lv_iconst (v := (1 : Int32)) hx hb dX12_made_31 (by decide) ?_
    refine lv_istore_n (lv' := [(3, .int (1 : Int32)), (2, .int v7), (1, .int (0 : Int32)), (0, .ref o0)]) hx hb dX12_made_32 rfl hl (by decide) rfl (fun ls hl => ?_)
    refine lv_iconst (v := (1 : Int32)) hx hb dX12_made_33 (by decide) ?_
    refine lv_istore (lv' := [(4, .int (1 : Int32)), (3, .int (1 : Int32)), (2, .int v7), (1, .int (0 : Int32)), (0, .ref o0)]) hx hb dX12_made_34 hl (by decide) rfl (fun ls hl => ?_)
    exact l_X12_made_36 C hF _ _ _ hP hD hS (lv_sub hl [4, 3, 2, 1, 0] rfl)
  · have hF := op_f hF c5
    refine lv_iconst (v := (-1 : Int32)) hx hb dX12_made_20 (by decide) ?_
    cases hF
    exact k_iret C hP hS dX12_made_21

abbrev rm_X12_madeAt : Room := ({ frames := 1, cells := 0, slots := 0, locals := 22 } : Room)
def F_X12_madeAt (S0 : St) (x1 : Int32) : Option (Int32 × St) := nw (sI S0 0 (0 : Int32)) fun U1 => ob1 (F_X12_isIn x1 (0 : Int32) ((U1.1 27) - (1 : Int32))) fun r4 => if r4 = 0 then (some ((-1 : Int32), U1)) else (if oob x1 3 then none else some ((U1.2.2.1 26 x1.toNatClampNeg), U1))
set_option maxRecDepth 100000 in
set_option maxHeartbeats 4000000 in
theorem c_X12_madeAt (l : Launch) (D : va_G) (q : Nat → ClassId) (o0 : Nat) (a0 : Nat → Nat) (S0 : St) (sz : Nat) (x1 : Int32) {r : Int32} {T0 : St} (hF : F_X12_madeAt S0 x1 = some (r, T0)) : Met l yX12_madeAt (Cond.code yX12_madeAt cX12_madeAt 2 (some .int) :: TB) rm_X12_madeAt (PC D q [.ref o0, .int x1] (g12 q o0 a0 S0) sz) ((fun A => QI D A r (g12 q o0 a0 T0)) (va_A (g12 q o0 a0 S0) sz)) 0 0 (va_A (g12 q o0 a0 S0) sz) := by
  refine k_met (w0 := g12 q o0 a0 S0) (Q := fun A => QI D A r (g12 q o0 a0 T0)) (by decide +kernel) (Nat.le_of_ble_eq_true rfl) ?_
  intro p e s m args below meth c A ls C hP hD hS hl
  have hl : lv_has ls 2 [(0, .ref o0), (1, .int x1)] := hl
  unfold F_X12_madeAt at hF
  have C : cx p s m args meth c cX12_madeAt 2 (some .int) RX12 D q A := C
  obtain ⟨hx, hb, hr, hml, hown, hts, hlk, hA, hK, hN, hV⟩ := id C
  refine lv_aload_n hx hb dX12_madeAt_0 rfl (lv_at hl 0 rfl) ?_
  refine lv_iconst (v := (0 : Int32)) hx hb dX12_madeAt_1 (by decide) ?_
  obtain ⟨U1, e2, hF⟩ := nw_s hF
  refine k_put (W8 := g12 q o0 a0 U1) C fp_X12_1 hP hD hS 0 rfl rfl rfl (Nat.le_of_ble_eq_true rfl) dX12_madeAt_2 (by rw [e2]; rfl) (fun H locs hP hD hS => ?_)
  refine lv_iload_n hx hb dX12_madeAt_5 rfl (lv_at hl 1 rfl) ?_
  refine lv_iconst (v := (0 : Int32)) hx hb dX12_madeAt_6 (by decide) ?_
  refine lv_aload_n hx hb dX12_madeAt_7 rfl (lv_at hl 0 rfl) ?_
  refine k_get (v := .int (U1.1 27)) C fg_X12_68 hP 0 rfl rfl dX12_madeAt_8 ?_
  refine lv_iconst (v := (1 : Int32)) hx hb dX12_madeAt_11 (by decide) ?_
  refine lv_isub hx hb dX12_madeAt_12 ?_
  obtain ⟨r4, hc3, hF⟩ := ob1_s hF
  refine k_inil C (k_rS (As := [.int x1, .int (0 : Int32), .int ((U1.1 27) - (1 : Int32))]) (rest := []) C (c_X12_isIn l D q _ x1 (0 : Int32) ((U1.1 27) - (1 : Int32)) hc3) kc_X12_isIn ml_X12_225 rfl rfl (by decide) (fun k x h => by simp at h) (⟨fun i j x y h => by simp at h, fun k x h => by simp at h⟩ : va_D A []) hS rfl hl.1 rfl (Nat.le_of_ble_eq_true rfl) dX12_madeAt_13 (by decide)) hP hD hS (fun H locs hP hD hS => ?_)
  refine lv_if_eq (tgt := 28) hx hb dX12_madeAt_16 (by decide) (fun c5 => ?_) (fun c5 => ?_)
  · have hF := op_t hF c5
    refine lv_iconst (v := (-1 : Int32)) hx hb dX12_madeAt_28 (by decide) ?_
    cases hF
    exact k_iret C hP hS dX12_madeAt_29
  · have hF := op_f hF c5
    refine lv_aload_n hx hb dX12_madeAt_19 rfl (lv_at hl 0 rfl) ?_
    refine k_get (v := .ref (a0 27)) C fg_X12_65 hP 0 rfl rfl dX12_madeAt_20 ?_
    refine lv_iload_n hx hb dX12_madeAt_23 rfl (lv_at hl 1 rfl) ?_
    obtain ⟨h6, hF⟩ := op_ck hF
    refine k_ild (f := U1.2.2.1 26) C hP 11 rfl h6 dX12_madeAt_24 ?_
    refine lv_goto (tgt := 29) hx hb dX12_madeAt_25 (by decide) ?_
    cases hF
    exact k_iret C hP hS dX12_madeAt_29

abbrev rm_X12_withView : Room := ({ frames := 1, cells := 0, slots := 0, locals := 21 } : Room)
def F_X12_withView_36 (k4 : Int32 × Int32 × Int32 × St → Option (Int32)) (x1 : Int32) (x3 : Int32) (s0 : Int32) (s1 : Int32) (S0 : St) : Option (Int32) := k4 (x1, (s0 + s1), (x3 + 1), S0)
def F_X12_withView_4 (k4 : Int32 × Int32 × Int32 × St → Option (Int32)) (x1 : Int32) (x2 : Int32) (x3 : Int32) (S0 : St) : Option (Int32) := if oob (1 : Int32) 258 then none else if (S0.2.2.1 6 (1 : Int32).toNatClampNeg) ≤ x3 then (if oob (1 : Int32) 258 then none else ob1 (F_X12_greater x2 ((S0.2.2.1 6 (1 : Int32).toNatClampNeg) - x2)) fun r5 => some (r5)) else (if oob ((59 : Int32) + x3) 258 then none else ob1 (F_X12_bitOf (S0.2.2.1 6 ((59 : Int32) + x3).toNatClampNeg) x1) fun r8 => if r8 = 0 then (F_X12_withView_36 k4 x1 x3 x2 (0 : Int32) S0) else (F_X12_withView_36 k4 x1 x3 x2 (1 : Int32) S0))
def L_X12_withView_4 (x1 : Int32) (x2 : Int32) (x3 : Int32) (S0 : St) : Option (Int32) := lp (fun kz z => F_X12_withView_4 kz z.1 z.2.1 z.2.2.1 z.2.2.2) FU (x1, x2, x3, S0)
def F_X12_withView (S0 : St) (x1 : Int32) : Option (Int32) := L_X12_withView_4 x1 (0 : Int32) (0 : Int32) S0
set_option maxRecDepth 100000 in
set_option maxHeartbeats 4000000 in
theorem b_X12_withView_36 {p : Program} {l : Launch} {e : Env} {s : State} {m : MethodId} {args : Array Value} {below : List Frame} {meth : Method} {c : Code} {D : va_G} {q : Nat → ClassId} {A : Nat → Prop} {o0 : Nat} {a0 : Nat → Nat} {r : Int32} (C : cx p s m args meth c cX12_withView 4 (some .int) RX12 D q A) {k4 : Int32 × Int32 × Int32 × St → Option (Int32)} (hk4 : ∀ (x1 : Int32) (x2 : Int32) (x3 : Int32) (S0 : St), k4 (x1, x2, x3, S0) = some (r) → ∀ (H : Heap) (locs : List Loc) (ls : Array Slot), va_P D vwCl (g12 q o0 a0 S0) H → va_D A (g12 q o0 a0 S0) → va_S A s.heap H locs → lv_has ls 4 [(0, .ref o0), (1, .int x1), (2, .int x2), (3, .int x3)] → W p l e rm_X12_withView s m args below meth c H locs 0 0 (MQ below (QI D A r (g12 q o0 a0 S0)) args s 0 0 A) (F0 m 4 ls [])) {x1 : Int32} {x3 : Int32} {s0 : Int32} {s1 : Int32} {S0 : St} (hF : F_X12_withView_36 k4 x1 x3 s0 s1 S0 = some (r)) {H : Heap} {locs : List Loc} (hP : va_P D vwCl (g12 q o0 a0 S0) H) (hD : va_D A (g12 q o0 a0 S0)) (hS : va_S A s.heap H locs) {ls : Array Slot} (hl : lv_has ls 4 [(0, .ref o0), (1, .int x1), (3, .int x3)]) : W p l e rm_X12_withView s m args below meth c H locs 0 0 (MQ below (QI D A r (g12 q o0 a0 S0)) args s 0 0 A) (F0 m 36 ls [.int s1, .int s0]) := by
  unfold F_X12_withView_36 at hF
  obtain ⟨hx, hb, hr, hml, hown, hts, hlk, hA, hK, hN, hV⟩ := id C
  refine lv_iadd hx hb dX12_withView_36 ?_
  refine lv_istore_n (lv' := [(2, .int (s0 + s1)), (0, .ref o0), (1, .int x1), (3, .int x3)]) hx hb dX12_withView_37 rfl hl (by decide) rfl (fun ls hl => ?_)
  refine lv_iinc (v := (x3 + 1)) (lv' := [(3, .int (x3 + 1)), (2, .int (s0 + s1)), (0, .ref o0), (1, .int x1)]) hx hb dX12_withView_38 hl (k := 3) rfl rfl (by decide) rfl (fun ls hl => ?_)
  refine lv_goto (tgt := 4) hx hb dX12_withView_41 (by decide) ?_
  exact hk4 x1 (s0 + s1) (x3 + 1) S0 hF _ _ _ hP hD hS (lv_sub hl [2, 3, 1, 0] rfl)
set_option maxRecDepth 100000 in
set_option maxHeartbeats 4000000 in
theorem b_X12_withView_4 {p : Program} {l : Launch} {e : Env} {s : State} {m : MethodId} {args : Array Value} {below : List Frame} {meth : Method} {c : Code} {D : va_G} {q : Nat → ClassId} {A : Nat → Prop} {o0 : Nat} {a0 : Nat → Nat} {r : Int32} (C : cx p s m args meth c cX12_withView 4 (some .int) RX12 D q A) {k4 : Int32 × Int32 × Int32 × St → Option (Int32)} (hk4 : ∀ (x1 : Int32) (x2 : Int32) (x3 : Int32) (S0 : St), k4 (x1, x2, x3, S0) = some (r) → ∀ (H : Heap) (locs : List Loc) (ls : Array Slot), va_P D vwCl (g12 q o0 a0 S0) H → va_D A (g12 q o0 a0 S0) → va_S A s.heap H locs → lv_has ls 4 [(0, .ref o0), (1, .int x1), (2, .int x2), (3, .int x3)] → W p l e rm_X12_withView s m args below meth c H locs 0 0 (MQ below (QI D A r (g12 q o0 a0 S0)) args s 0 0 A) (F0 m 4 ls [])) {x1 : Int32} {x2 : Int32} {x3 : Int32} {S0 : St} (hF : F_X12_withView_4 k4 x1 x2 x3 S0 = some (r)) {H : Heap} {locs : List Loc} (hP : va_P D vwCl (g12 q o0 a0 S0) H) (hD : va_D A (g12 q o0 a0 S0)) (hS : va_S A s.heap H locs) {ls : Array Slot} (hl : lv_has ls 4 [(0, .ref o0), (1, .int x1), (2, .int x2), (3, .int x3)]) : W p l e rm_X12_withView s m args below meth c H locs 0 0 (MQ below (QI D A r (g12 q o0 a0 S0)) args s 0 0 A) (F0 m 4 ls []) := by
  unfold F_X12_withView_4 at hF
  obtain ⟨hx, hb, hr, hml, hown, hts, hlk, hA, hK, hN, hV⟩ := id C
  refine lv_iload_n hx hb dX12_withView_4 rfl (lv_at hl 3 rfl) ?_
  refine lv_aload_n hx hb dX12_withView_5 rfl (lv_at hl 0 rfl) ?_
  refine k_get (v := .ref (a0 7)) C fg_X12_33 hP 0 rfl rfl dX12_withView_6 ?_
  refine lv_iconst (v := (1 : Int32)) hx hb dX12_withView_9 (by decide) ?_
  obtain ⟨h1, hF⟩ := op_ck hF
  refine k_ild (f := S0.2.2.1 6) C hP 2 rfl h1 dX12_withView_10 ?_
  refine lv_icmp_ge (tgt := 44) hx hb dX12_withView_11 (by decide) (fun c2 => ?_) (fun c2 => ?_)
  · have hF := op_t hF c2
    refine lv_iload_n hx hb dX12_withView_44 rfl (lv_at hl 2 rfl) ?_
    refine lv_aload_n hx hb dX12_withView_45 rfl (lv_at hl 0 rfl) ?_
    refine k_get (v := .ref (a0 7)) C fg_X12_33 hP 0 rfl rfl dX12_withView_46 ?_
    refine lv_iconst (v := (1 : Int32)) hx hb dX12_withView_49 (by decide) ?_
    obtain ⟨h3, hF⟩ := op_ck hF
    refine k_ild (f := S0.2.2.1 6) C hP 2 rfl h3 dX12_withView_50 ?_
    refine lv_iload_n hx hb dX12_withView_51 rfl (lv_at hl 2 rfl) ?_
    refine lv_isub hx hb dX12_withView_52 ?_
    obtain ⟨r5, hc4, hF⟩ := ob1_s hF
    refine k_inil C (k_rS (As := [.int x2, .int ((S0.2.2.1 6 (1 : Int32).toNatClampNeg) - x2)]) (rest := []) C (c_X12_greater l D q _ x2 ((S0.2.2.1 6 (1 : Int32).toNatClampNeg) - x2) hc4) kc_X12_greater ml_X12_392 rfl rfl (by decide) (fun k x h => by simp at h) (⟨fun i j x y h => by simp at h, fun k x h => by simp at h⟩ : va_D A []) hS rfl hl.1 rfl (Nat.le_of_ble_eq_true rfl) dX12_withView_53 (by decide)) hP hD hS (fun H locs hP hD hS => ?_)
    cases hF
    exact k_iret C hP hS dX12_withView_56
  · have hF := op_f hF c2
    refine lv_iload_n hx hb dX12_withView_14 rfl (lv_at hl 2 rfl) ?_
    refine lv_aload_n hx hb dX12_withView_15 rfl (lv_at hl 0 rfl) ?_
    refine k_get (v := .ref (a0 7)) C fg_X12_33 hP 0 rfl rfl dX12_withView_16 ?_
    refine lv_bipush (v := (59 : Int32)) hx hb dX12_withView_19 (by decide) ?_
    refine lv_iload_n hx hb dX12_withView_21 rfl (lv_at hl 3 rfl) ?_
    refine lv_iadd hx hb dX12_withView_22 ?_
    obtain ⟨h6, hF⟩ := op_ck hF
    refine k_ild (f := S0.2.2.1 6) C hP 2 rfl h6 dX12_withView_23 ?_
    refine lv_iload_n hx hb dX12_withView_24 rfl (lv_at hl 1 rfl) ?_
    obtain ⟨r8, hc7, hF⟩ := ob1_s hF
    refine k_inil C (k_rS (As := [.int (S0.2.2.1 6 ((59 : Int32) + x3).toNatClampNeg), .int x1]) (rest := [.int x2]) C (c_X12_bitOf l D q _ (S0.2.2.1 6 ((59 : Int32) + x3).toNatClampNeg) x1 hc7) kc_X12_bitOf ml_X12_275 rfl rfl (by decide) (fun k x h => by simp at h) (⟨fun i j x y h => by simp at h, fun k x h => by simp at h⟩ : va_D A []) hS rfl hl.1 rfl (Nat.le_of_ble_eq_true rfl) dX12_withView_25 (by decide)) hP hD hS (fun H locs hP hD hS => ?_)
    refine lv_if_eq (tgt := 35) hx hb dX12_withView_28 (by decide) (fun c9 => ?_) (fun c9 => ?_)
    · have hF := op_t hF c9
      refine lv_iconst (v := (0 : Int32)) hx hb dX12_withView_35 (by decide) ?_
      exact b_X12_withView_36 C hk4 hF hP hD hS (lv_sub hl [0, 1, 3] rfl)
    · have hF := op_f hF c9
      refine lv_iconst (v := (1 : Int32)) hx hb dX12_withView_31 (by decide) ?_
      refine lv_goto (tgt := 36) hx hb dX12_withView_32 (by decide) ?_
      exact b_X12_withView_36 C hk4 hF hP hD hS (lv_sub hl [0, 1, 3] rfl)
set_option maxRecDepth 100000 in
set_option maxHeartbeats 4000000 in
theorem l_X12_withView_4 {p : Program} {l : Launch} {e : Env} {s : State} {m : MethodId} {args : Array Value} {below : List Frame} {meth : Method} {c : Code} {D : va_G} {q : Nat → ClassId} {A : Nat → Prop} {o0 : Nat} {a0 : Nat → Nat} {r : Int32} (C : cx p s m args meth c cX12_withView 4 (some .int) RX12 D q A) {x1 : Int32} {x2 : Int32} {x3 : Int32} {S0 : St} (hF : L_X12_withView_4 x1 x2 x3 S0 = some (r)) : ∀ (H : Heap) (locs : List Loc) (ls : Array Slot), va_P D vwCl (g12 q o0 a0 S0) H → va_D A (g12 q o0 a0 S0) → va_S A s.heap H locs → lv_has ls 4 [(0, .ref o0), (1, .int x1), (2, .int x2), (3, .int x3)] → W p l e rm_X12_withView s m args below meth c H locs 0 0 (MQ below (QI D A r (g12 q o0 a0 S0)) args s 0 0 A) (F0 m 4 ls []) :=
  lp_G _ _ (fun z => ∀ (H : Heap) (locs : List Loc) (ls : Array Slot), va_P D vwCl (g12 q o0 a0 z.2.2.2) H → va_D A (g12 q o0 a0 z.2.2.2) → va_S A s.heap H locs → lv_has ls 4 [(0, .ref o0), (1, .int z.1), (2, .int z.2.1), (3, .int z.2.2.1)] → W p l e rm_X12_withView s m args below meth c H locs 0 0 (MQ below (QI D A r (g12 q o0 a0 z.2.2.2)) args s 0 0 A) (F0 m 4 ls [])) (fun kz hkz z hz H locs ls hP hD hS hl => b_X12_withView_4 C (fun x1 x2 x3 S0 hz => hkz (x1, x2, x3, S0) hz) hz hP hD hS hl) FU (x1, x2, x3, S0) hF
set_option maxRecDepth 100000 in
set_option maxHeartbeats 4000000 in
theorem c_X12_withView (l : Launch) (D : va_G) (q : Nat → ClassId) (o0 : Nat) (a0 : Nat → Nat) (S0 : St) (sz : Nat) (x1 : Int32) {r : Int32} (hF : F_X12_withView S0 x1 = some (r)) : Met l yX12_withView (Cond.code yX12_withView cX12_withView 4 (some .int) :: TB) rm_X12_withView (PC D q [.ref o0, .int x1] (g12 q o0 a0 S0) sz) ((fun A => QI D A r (g12 q o0 a0 S0)) (va_A (g12 q o0 a0 S0) sz)) 0 0 (va_A (g12 q o0 a0 S0) sz) := by
  refine k_met (w0 := g12 q o0 a0 S0) (Q := fun A => QI D A r (g12 q o0 a0 S0)) (by decide +kernel) (Nat.le_of_ble_eq_true rfl) ?_
  intro p e s m args below meth c A ls C hP hD hS hl
  have hl : lv_has ls 4 [(0, .ref o0), (1, .int x1)] := hl
  unfold F_X12_withView at hF
  have C : cx p s m args meth c cX12_withView 4 (some .int) RX12 D q A := C
  obtain ⟨hx, hb, hr, hml, hown, hts, hlk, hA, hK, hN, hV⟩ := id C
  refine lv_iconst (v := (0 : Int32)) hx hb dX12_withView_0 (by decide) ?_
  refine lv_istore_n (lv' := [(2, .int (0 : Int32)), (0, .ref o0), (1, .int x1)]) hx hb dX12_withView_1 rfl hl (by decide) rfl (fun ls hl => ?_)
  refine lv_iconst (v := (0 : Int32)) hx hb dX12_withView_2 (by decide) ?_
  refine lv_istore_n (lv' := [(3, .int (0 : Int32)), (2, .int (0 : Int32)), (0, .ref o0), (1, .int x1)]) hx hb dX12_withView_3 rfl hl (by decide) rfl (fun ls hl => ?_)
  exact l_X12_withView_4 C hF _ _ _ hP hD hS (lv_sub hl [2, 3, 1, 0] rfl)

abbrev rm_X12_ask : Room := ({ frames := 2, cells := 0, slots := 0, locals := 44 } : Room)
def F_X12_ask_41 (k20 : Int32 × Int32 × St → Option (Int32 × St)) (x1 : Int32) (x2 : Int32) (S0 : St) : Option (Int32 × St) := k20 (x1, (x2 + 1), S0)
def F_X12_ask_20 (k20 : Int32 × Int32 × St → Option (Int32 × St)) (x1 : Int32) (x2 : Int32) (S0 : St) : Option (Int32 × St) := if (8 : Int32) ≤ x2 then (some (x1, S0)) else (ob1 (F_X12_withView S0 x2) fun r3 => ob1 (F_X12_withView S0 x1) fun r5 => if r5 ≤ r3 then (F_X12_ask_41 k20 x1 x2 S0) else (F_X12_ask_41 k20 x2 x2 S0))
def L_X12_ask_20 (x1 : Int32) (x2 : Int32) (S0 : St) : Option (Int32 × St) := lp (fun kz z => F_X12_ask_20 kz z.1 z.2.1 z.2.2) FU (x1, x2, S0)
def F_X12_ask (S0 : St) : Option (Int32 × St) := nw (sI S0 0 (0 : Int32)) fun U1 => if oob (1 : Int32) 258 then none else if (U1.2.2.1 6 (1 : Int32).toNatClampNeg) = 0 then (some ((-1 : Int32), U1)) else (L_X12_ask_20 (0 : Int32) (1 : Int32) U1)
set_option maxRecDepth 100000 in
set_option maxHeartbeats 4000000 in
theorem b_X12_ask_41 {p : Program} {l : Launch} {e : Env} {s : State} {m : MethodId} {args : Array Value} {below : List Frame} {meth : Method} {c : Code} {D : va_G} {q : Nat → ClassId} {A : Nat → Prop} {o0 : Nat} {a0 : Nat → Nat} {r : Int32} {T0 : St} (C : cx p s m args meth c cX12_ask 3 (some .int) RX12 D q A) {k20 : Int32 × Int32 × St → Option (Int32 × St)} (hk20 : ∀ (x1 : Int32) (x2 : Int32) (S0 : St), k20 (x1, x2, S0) = some (r, T0) → ∀ (H : Heap) (locs : List Loc) (ls : Array Slot), va_P D vwCl (g12 q o0 a0 S0) H → va_D A (g12 q o0 a0 S0) → va_S A s.heap H locs → lv_has ls 3 [(0, .ref o0), (1, .int x1), (2, .int x2)] → W p l e rm_X12_ask s m args below meth c H locs 0 0 (MQ below (QI D A r (g12 q o0 a0 T0)) args s 0 0 A) (F0 m 20 ls [])) {x1 : Int32} {x2 : Int32} {S0 : St} (hF : F_X12_ask_41 k20 x1 x2 S0 = some (r, T0)) {H : Heap} {locs : List Loc} (hP : va_P D vwCl (g12 q o0 a0 S0) H) (hD : va_D A (g12 q o0 a0 S0)) (hS : va_S A s.heap H locs) {ls : Array Slot} (hl : lv_has ls 3 [(0, .ref o0), (1, .int x1), (2, .int x2)]) : W p l e rm_X12_ask s m args below meth c H locs 0 0 (MQ below (QI D A r (g12 q o0 a0 T0)) args s 0 0 A) (F0 m 41 ls []) := by
  unfold F_X12_ask_41 at hF
  obtain ⟨hx, hb, hr, hml, hown, hts, hlk, hA, hK, hN, hV⟩ := id C
  refine lv_iinc (v := (x2 + 1)) (lv' := [(2, .int (x2 + 1)), (0, .ref o0), (1, .int x1)]) hx hb dX12_ask_41 hl (k := 2) rfl rfl (by decide) rfl (fun ls hl => ?_)
  refine lv_goto (tgt := 20) hx hb dX12_ask_44 (by decide) ?_
  exact hk20 x1 (x2 + 1) S0 hF _ _ _ hP hD hS (lv_sub hl [1, 2, 0] rfl)
set_option maxRecDepth 100000 in
set_option maxHeartbeats 4000000 in
theorem b_X12_ask_20 {p : Program} {l : Launch} {e : Env} {s : State} {m : MethodId} {args : Array Value} {below : List Frame} {meth : Method} {c : Code} {D : va_G} {q : Nat → ClassId} {A : Nat → Prop} {o0 : Nat} {a0 : Nat → Nat} {r : Int32} {T0 : St} (C : cx p s m args meth c cX12_ask 3 (some .int) RX12 D q A) {k20 : Int32 × Int32 × St → Option (Int32 × St)} (hk20 : ∀ (x1 : Int32) (x2 : Int32) (S0 : St), k20 (x1, x2, S0) = some (r, T0) → ∀ (H : Heap) (locs : List Loc) (ls : Array Slot), va_P D vwCl (g12 q o0 a0 S0) H → va_D A (g12 q o0 a0 S0) → va_S A s.heap H locs → lv_has ls 3 [(0, .ref o0), (1, .int x1), (2, .int x2)] → W p l e rm_X12_ask s m args below meth c H locs 0 0 (MQ below (QI D A r (g12 q o0 a0 T0)) args s 0 0 A) (F0 m 20 ls [])) {x1 : Int32} {x2 : Int32} {S0 : St} (hF : F_X12_ask_20 k20 x1 x2 S0 = some (r, T0)) {H : Heap} {locs : List Loc} (hP : va_P D vwCl (g12 q o0 a0 S0) H) (hD : va_D A (g12 q o0 a0 S0)) (hS : va_S A s.heap H locs) {ls : Array Slot} (hl : lv_has ls 3 [(0, .ref o0), (1, .int x1), (2, .int x2)]) : W p l e rm_X12_ask s m args below meth c H locs 0 0 (MQ below (QI D A r (g12 q o0 a0 T0)) args s 0 0 A) (F0 m 20 ls []) := by
  unfold F_X12_ask_20 at hF
  obtain ⟨hx, hb, hr, hml, hown, hts, hlk, hA, hK, hN, hV⟩ := id C
  refine lv_iload_n hx hb dX12_ask_20 rfl (lv_at hl 2 rfl) ?_
  refine lv_bipush (v := (8 : Int32)) hx hb dX12_ask_21 (by decide) ?_
  refine lv_icmp_ge (tgt := 47) hx hb dX12_ask_23 (by decide) (fun c1 => ?_) (fun c1 => ?_)
  · have hF := op_t hF c1
    refine lv_iload_n hx hb dX12_ask_47 rfl (lv_at hl 1 rfl) ?_
    cases hF
    exact k_iret C hP hS dX12_ask_48
  · have hF := op_f hF c1
    refine lv_aload_n hx hb dX12_ask_26 rfl (lv_at hl 0 rfl) ?_
    refine lv_iload_n hx hb dX12_ask_27 rfl (lv_at hl 2 rfl) ?_
    obtain ⟨r3, hc2, hF⟩ := ob1_s hF
    refine k_iall C (k_rV (As := [.int x2]) (rest := []) C (c_X12_withView l D q o0 a0 S0 _ x2 hc2) kc_X12_withView ml_X12_395 rfl rfl (by decide) hP hD hS (va_recv hK hP (ci := 12) (q0 := 0) rfl rfl) rfl hl.1 rfl (Nat.le_of_ble_eq_true rfl) dX12_ask_28 (by decide)) hP hD hS ((gad12 q o0 a0 S0).trans (gad12 q o0 a0 S0).symm) (fun H locs hP hD hS => ?_)
    refine lv_aload_n hx hb dX12_ask_31 rfl (lv_at hl 0 rfl) ?_
    refine lv_iload_n hx hb dX12_ask_32 rfl (lv_at hl 1 rfl) ?_
    obtain ⟨r5, hc4, hF⟩ := ob1_s hF
    refine k_iall C (k_rV (As := [.int x1]) (rest := [.int r3]) C (c_X12_withView l D q o0 a0 S0 _ x1 hc4) kc_X12_withView ml_X12_395 rfl rfl (by decide) hP hD hS (va_recv hK hP (ci := 12) (q0 := 0) rfl rfl) rfl hl.1 rfl (Nat.le_of_ble_eq_true rfl) dX12_ask_33 (by decide)) hP hD hS ((gad12 q o0 a0 S0).trans (gad12 q o0 a0 S0).symm) (fun H locs hP hD hS => ?_)
    refine lv_icmp_ge (tgt := 41) hx hb dX12_ask_36 (by decide) (fun c6 => ?_) (fun c6 => ?_)
    · have hF := op_t hF c6
      exact b_X12_ask_41 C hk20 hF hP hD hS (lv_sub hl [0, 1, 2] rfl)
    · have hF := op_f hF c6
      refine lv_iload_n hx hb dX12_ask_39 rfl (lv_at hl 2 rfl) ?_
      refine lv_istore_n (lv' := [(1, .int x2), (0, .ref o0), (2, .int x2)]) hx hb dX12_ask_40 rfl hl (by decide) rfl (fun ls hl => ?_)
      exact b_X12_ask_41 C hk20 hF hP hD hS (lv_sub hl [1, 0, 2] rfl)
set_option maxRecDepth 100000 in
set_option maxHeartbeats 4000000 in
theorem l_X12_ask_20 {p : Program} {l : Launch} {e : Env} {s : State} {m : MethodId} {args : Array Value} {below : List Frame} {meth : Method} {c : Code} {D : va_G} {q : Nat → ClassId} {A : Nat → Prop} {o0 : Nat} {a0 : Nat → Nat} {r : Int32} {T0 : St} (C : cx p s m args meth c cX12_ask 3 (some .int) RX12 D q A) {x1 : Int32} {x2 : Int32} {S0 : St} (hF : L_X12_ask_20 x1 x2 S0 = some (r, T0)) : ∀ (H : Heap) (locs : List Loc) (ls : Array Slot), va_P D vwCl (g12 q o0 a0 S0) H → va_D A (g12 q o0 a0 S0) → va_S A s.heap H locs → lv_has ls 3 [(0, .ref o0), (1, .int x1), (2, .int x2)] → W p l e rm_X12_ask s m args below meth c H locs 0 0 (MQ below (QI D A r (g12 q o0 a0 T0)) args s 0 0 A) (F0 m 20 ls []) :=
  lp_G _ _ (fun z => ∀ (H : Heap) (locs : List Loc) (ls : Array Slot), va_P D vwCl (g12 q o0 a0 z.2.2) H → va_D A (g12 q o0 a0 z.2.2) → va_S A s.heap H locs → lv_has ls 3 [(0, .ref o0), (1, .int z.1), (2, .int z.2.1)] → W p l e rm_X12_ask s m args below meth c H locs 0 0 (MQ below (QI D A r (g12 q o0 a0 T0)) args s 0 0 A) (F0 m 20 ls [])) (fun kz hkz z hz H locs ls hP hD hS hl => b_X12_ask_20 C (fun x1 x2 S0 hz => hkz (x1, x2, S0) hz) hz hP hD hS hl) FU (x1, x2, S0) hF
set_option maxRecDepth 100000 in
set_option maxHeartbeats 4000000 in
theorem c_X12_ask (l : Launch) (D : va_G) (q : Nat → ClassId) (o0 : Nat) (a0 : Nat → Nat) (S0 : St) (sz : Nat) {r : Int32} {T0 : St} (hF : F_X12_ask S0 = some (r, T0)) : Met l yX12_ask (Cond.code yX12_ask cX12_ask 3 (some .int) :: TB) rm_X12_ask (PC D q [.ref o0] (g12 q o0 a0 S0) sz) ((fun A => QI D A r (g12 q o0 a0 T0)) (va_A (g12 q o0 a0 S0) sz)) 0 0 (va_A (g12 q o0 a0 S0) sz) := by
  refine k_met (w0 := g12 q o0 a0 S0) (Q := fun A => QI D A r (g12 q o0 a0 T0)) (by decide +kernel) (Nat.le_of_ble_eq_true rfl) ?_
  intro p e s m args below meth c A ls C hP hD hS hl
  have hl : lv_has ls 3 [(0, .ref o0)] := hl
  unfold F_X12_ask at hF
  have C : cx p s m args meth c cX12_ask 3 (some .int) RX12 D q A := C
  obtain ⟨hx, hb, hr, hml, hown, hts, hlk, hA, hK, hN, hV⟩ := id C
  refine lv_aload_n hx hb dX12_ask_0 rfl (lv_at hl 0 rfl) ?_
  refine lv_iconst (v := (0 : Int32)) hx hb dX12_ask_1 (by decide) ?_
  obtain ⟨U1, e2, hF⟩ := nw_s hF
  refine k_put (W8 := g12 q o0 a0 U1) C fp_X12_1 hP hD hS 0 rfl rfl rfl (Nat.le_of_ble_eq_true rfl) dX12_ask_2 (by rw [e2]; rfl) (fun H locs hP hD hS => ?_)
  refine lv_aload_n hx hb dX12_ask_5 rfl (lv_at hl 0 rfl) ?_
  refine k_get (v := .ref (a0 7)) C fg_X12_33 hP 0 rfl rfl dX12_ask_6 ?_
  refine lv_iconst (v := (1 : Int32)) hx hb dX12_ask_9 (by decide) ?_
  obtain ⟨h3, hF⟩ := op_ck hF
  refine k_ild (f := U1.2.2.1 6) C hP 2 rfl h3 dX12_ask_10 ?_
  refine lv_if_ne (tgt := 16) hx hb dX12_ask_11 (by decide) (fun c4 => ?_) (fun c4 => ?_)
  · have hF := op_f hF c4
    refine lv_iconst (v := (0 : Int32)) hx hb dX12_ask_16 (by decide) ?_
    refine lv_istore_n (lv' := [(1, .int (0 : Int32)), (0, .ref o0)]) hx hb dX12_ask_17 rfl hl (by decide) rfl (fun ls hl => ?_)
    refine lv_iconst (v := (1 : Int32)) hx hb dX12_ask_18 (by decide) ?_
    refine lv_istore_n (lv' := [(2, .int (1 : Int32)), (1, .int (0 : Int32)), (0, .ref o0)]) hx hb dX12_ask_19 rfl hl (by decide) rfl (fun ls hl => ?_)
    exact l_X12_ask_20 C hF _ _ _ hP hD hS (lv_sub hl [2, 1, 0] rfl)
  · have hF := op_t hF c4
    refine lv_iconst (v := (-1 : Int32)) hx hb dX12_ask_14 (by decide) ?_
    cases hF
    exact k_iret C hP hS dX12_ask_15

abbrev rm_X12_cover : Room := ({ frames := 2, cells := 0, slots := 0, locals := 46 } : Room)
def F_X12_cover_104 (k9 : Int32 × Int32 × St → Option (Int32 × St)) (x1 : Int32) (x2 : Int32) (S0 : St) : Option (Int32 × St) := k9 (x1, (x2 + 1), S0)
def F_X12_cover_87 (k9 : Int32 × Int32 × St → Option (Int32 × St)) (k56 : Int32 × Int32 × Int32 × Int32 × St → Option (Int32 × St)) (x1 : Int32) (x2 : Int32) (x4 : Int32) (s0 : Int32) (s1 : Int32) (S0 : St) : Option (Int32 × St) := k56 (x1, x2, (s0 ||| s1), (x4 + 1), S0)
def F_X12_cover_56 (k9 : Int32 × Int32 × St → Option (Int32 × St)) (k56 : Int32 × Int32 × Int32 × Int32 × St → Option (Int32 × St)) (x1 : Int32) (x2 : Int32) (x3 : Int32) (x4 : Int32) (S0 : St) : Option (Int32 × St) := if oob (0 : Int32) 258 then none else if (S0.2.2.1 6 (0 : Int32).toNatClampNeg) ≤ x4 then (if x3 = (255 : Int32) then (F_X12_cover_104 k9 x2 x2 S0) else (F_X12_cover_104 k9 x1 x2 S0)) else (ob1 (F_X12_bitOf x2 x4) fun r5 => if r5 = 0 then (F_X12_cover_87 k9 k56 x1 x2 x4 x3 (0 : Int32) S0) else (ob1 (F_X12_looksOf S0 x4) fun r8 => F_X12_cover_87 k9 k56 x1 x2 x4 x3 r8 S0))
def L_X12_cover_56 (k9 : Int32 × Int32 × St → Option (Int32 × St)) (x1 : Int32) (x2 : Int32) (x3 : Int32) (x4 : Int32) (S0 : St) : Option (Int32 × St) := lp (fun kz z => F_X12_cover_56 k9 kz z.1 z.2.1 z.2.2.1 z.2.2.2.1 z.2.2.2.2) FU (x1, x2, x3, x4, S0)
def F_X12_cover_51 (k9 : Int32 × Int32 × St → Option (Int32 × St)) (x1 : Int32) (x2 : Int32) (S0 : St) : Option (Int32 × St) := L_X12_cover_56 k9 x1 x2 (0 : Int32) (0 : Int32) S0
def F_X12_cover_9 (k9 : Int32 × Int32 × St → Option (Int32 × St)) (x1 : Int32) (x2 : Int32) (S0 : St) : Option (Int32 × St) := if oob (0 : Int32) 258 then none else if ((1 : Int32) <<< ((S0.2.2.1 6 (0 : Int32).toNatClampNeg) &&& 31)) ≤ x2 then (if 0 ≤ x1 then (nw (sI S0 29 (1 : Int32)) fun U4 => nw (sI U4 28 x1) fun U6 => ob1 (F_X12_bits x1) fun r9 => some (r9, U6)) else (some ((-1 : Int32), S0))) else (if oob (44 : Int32) 258 then none else if (x2 &&& (S0.2.2.1 6 (44 : Int32).toNatClampNeg)) = 0 then (if x1 < 0 then (F_X12_cover_51 k9 x1 x2 S0) else (ob1 (F_X12_bits x2) fun r14 => ob1 (F_X12_bits x1) fun r16 => if r14 < r16 then (F_X12_cover_51 k9 x1 x2 S0) else (F_X12_cover_104 k9 x1 x2 S0))) else (F_X12_cover_104 k9 x1 x2 S0))
def L_X12_cover_9 (x1 : Int32) (x2 : Int32) (S0 : St) : Option (Int32 × St) := lp (fun kz z => F_X12_cover_9 kz z.1 z.2.1 z.2.2) FU (x1, x2, S0)
def F_X12_cover (S0 : St) : Option (Int32 × St) := nw (sI S0 0 (0 : Int32)) fun U1 => L_X12_cover_9 (-1 : Int32) (1 : Int32) U1
set_option maxRecDepth 100000 in
set_option maxHeartbeats 4000000 in
theorem b_X12_cover_104 {p : Program} {l : Launch} {e : Env} {s : State} {m : MethodId} {args : Array Value} {below : List Frame} {meth : Method} {c : Code} {D : va_G} {q : Nat → ClassId} {A : Nat → Prop} {o0 : Nat} {a0 : Nat → Nat} {r : Int32} {T0 : St} (C : cx p s m args meth c cX12_cover 5 (some .int) RX12 D q A) {k9 : Int32 × Int32 × St → Option (Int32 × St)} (hk9 : ∀ (x1 : Int32) (x2 : Int32) (S0 : St), k9 (x1, x2, S0) = some (r, T0) → ∀ (H : Heap) (locs : List Loc) (ls : Array Slot), va_P D vwCl (g12 q o0 a0 S0) H → va_D A (g12 q o0 a0 S0) → va_S A s.heap H locs → lv_has ls 5 [(0, .ref o0), (1, .int x1), (2, .int x2)] → W p l e rm_X12_cover s m args below meth c H locs 0 0 (MQ below (QI D A r (g12 q o0 a0 T0)) args s 0 0 A) (F0 m 9 ls [])) {x1 : Int32} {x2 : Int32} {S0 : St} (hF : F_X12_cover_104 k9 x1 x2 S0 = some (r, T0)) {H : Heap} {locs : List Loc} (hP : va_P D vwCl (g12 q o0 a0 S0) H) (hD : va_D A (g12 q o0 a0 S0)) (hS : va_S A s.heap H locs) {ls : Array Slot} (hl : lv_has ls 5 [(0, .ref o0), (1, .int x1), (2, .int x2)]) : W p l e rm_X12_cover s m args below meth c H locs 0 0 (MQ below (QI D A r (g12 q o0 a0 T0)) args s 0 0 A) (F0 m 104 ls []) := by
  unfold F_X12_cover_104 at hF
  obtain ⟨hx, hb, hr, hml, hown, hts, hlk, hA, hK, hN, hV⟩ := id C
  refine lv_iinc (v := (x2 + 1)) (lv' := [(2, .int (x2 + 1)), (0, .ref o0), (1, .int x1)]) hx hb dX12_cover_104 hl (k := 2) rfl rfl (by decide) rfl (fun ls hl => ?_)
  refine lv_goto (tgt := 9) hx hb dX12_cover_107 (by decide) ?_
  exact hk9 x1 (x2 + 1) S0 hF _ _ _ hP hD hS (lv_sub hl [1, 2, 0] rfl)
set_option maxRecDepth 100000 in
set_option maxHeartbeats 4000000 in
theorem b_X12_cover_87 {p : Program} {l : Launch} {e : Env} {s : State} {m : MethodId} {args : Array Value} {below : List Frame} {meth : Method} {c : Code} {D : va_G} {q : Nat → ClassId} {A : Nat → Prop} {o0 : Nat} {a0 : Nat → Nat} {r : Int32} {T0 : St} (C : cx p s m args meth c cX12_cover 5 (some .int) RX12 D q A) {k9 : Int32 × Int32 × St → Option (Int32 × St)} (hk9 : ∀ (x1 : Int32) (x2 : Int32) (S0 : St), k9 (x1, x2, S0) = some (r, T0) → ∀ (H : Heap) (locs : List Loc) (ls : Array Slot), va_P D vwCl (g12 q o0 a0 S0) H → va_D A (g12 q o0 a0 S0) → va_S A s.heap H locs → lv_has ls 5 [(0, .ref o0), (1, .int x1), (2, .int x2)] → W p l e rm_X12_cover s m args below meth c H locs 0 0 (MQ below (QI D A r (g12 q o0 a0 T0)) args s 0 0 A) (F0 m 9 ls [])) {k56 : Int32 × Int32 × Int32 × Int32 × St → Option (Int32 × St)} (hk56 : ∀ (x1 : Int32) (x2 : Int32) (x3 : Int32) (x4 : Int32) (S0 : St), k56 (x1, x2, x3, x4, S0) = some (r, T0) → ∀ (H : Heap) (locs : List Loc) (ls : Array Slot), va_P D vwCl (g12 q o0 a0 S0) H → va_D A (g12 q o0 a0 S0) → va_S A s.heap H locs → lv_has ls 5 [(0, .ref o0), (1, .int x1), (2, .int x2), (3, .int x3), (4, .int x4)] → W p l e rm_X12_cover s m args below meth c H locs 0 0 (MQ below (QI D A r (g12 q o0 a0 T0)) args s 0 0 A) (F0 m 56 ls [])) {x1 : Int32} {x2 : Int32} {x4 : Int32} {s0 : Int32} {s1 : Int32} {S0 : St} (hF : F_X12_cover_87 k9 k56 x1 x2 x4 s0 s1 S0 = some (r, T0)) {H : Heap} {locs : List Loc} (hP : va_P D vwCl (g12 q o0 a0 S0) H) (hD : va_D A (g12 q o0 a0 S0)) (hS : va_S A s.heap H locs) {ls : Array Slot} (hl : lv_has ls 5 [(0, .ref o0), (1, .int x1), (2, .int x2), (4, .int x4)]) : W p l e rm_X12_cover s m args below meth c H locs 0 0 (MQ below (QI D A r (g12 q o0 a0 T0)) args s 0 0 A) (F0 m 87 ls [.int s1, .int s0]) := by
  unfold F_X12_cover_87 at hF
  obtain ⟨hx, hb, hr, hml, hown, hts, hlk, hA, hK, hN, hV⟩ := id C
  refine lv_ior hx hb dX12_cover_87 ?_
  refine lv_istore_n (lv' := [(3, .int (s0 ||| s1)), (0, .ref o0), (1, .int x1), (2, .int x2), (4, .int x4)]) hx hb dX12_cover_88 rfl hl (by decide) rfl (fun ls hl => ?_)
  refine lv_iinc (v := (x4 + 1)) (lv' := [(4, .int (x4 + 1)), (3, .int (s0 ||| s1)), (0, .ref o0), (1, .int x1), (2, .int x2)]) hx hb dX12_cover_89 hl (k := 4) rfl rfl (by decide) rfl (fun ls hl => ?_)
  refine lv_goto (tgt := 56) hx hb dX12_cover_92 (by decide) ?_
  exact hk56 x1 x2 (s0 ||| s1) (x4 + 1) S0 hF _ _ _ hP hD hS (lv_sub hl [2, 3, 4, 1, 0] rfl)
set_option maxRecDepth 100000 in
set_option maxHeartbeats 4000000 in
theorem b_X12_cover_56 {p : Program} {l : Launch} {e : Env} {s : State} {m : MethodId} {args : Array Value} {below : List Frame} {meth : Method} {c : Code} {D : va_G} {q : Nat → ClassId} {A : Nat → Prop} {o0 : Nat} {a0 : Nat → Nat} {r : Int32} {T0 : St} (C : cx p s m args meth c cX12_cover 5 (some .int) RX12 D q A) {k9 : Int32 × Int32 × St → Option (Int32 × St)} (hk9 : ∀ (x1 : Int32) (x2 : Int32) (S0 : St), k9 (x1, x2, S0) = some (r, T0) → ∀ (H : Heap) (locs : List Loc) (ls : Array Slot), va_P D vwCl (g12 q o0 a0 S0) H → va_D A (g12 q o0 a0 S0) → va_S A s.heap H locs → lv_has ls 5 [(0, .ref o0), (1, .int x1), (2, .int x2)] → W p l e rm_X12_cover s m args below meth c H locs 0 0 (MQ below (QI D A r (g12 q o0 a0 T0)) args s 0 0 A) (F0 m 9 ls [])) {k56 : Int32 × Int32 × Int32 × Int32 × St → Option (Int32 × St)} (hk56 : ∀ (x1 : Int32) (x2 : Int32) (x3 : Int32) (x4 : Int32) (S0 : St), k56 (x1, x2, x3, x4, S0) = some (r, T0) → ∀ (H : Heap) (locs : List Loc) (ls : Array Slot), va_P D vwCl (g12 q o0 a0 S0) H → va_D A (g12 q o0 a0 S0) → va_S A s.heap H locs → lv_has ls 5 [(0, .ref o0), (1, .int x1), (2, .int x2), (3, .int x3), (4, .int x4)] → W p l e rm_X12_cover s m args below meth c H locs 0 0 (MQ below (QI D A r (g12 q o0 a0 T0)) args s 0 0 A) (F0 m 56 ls [])) {x1 : Int32} {x2 : Int32} {x3 : Int32} {x4 : Int32} {S0 : St} (hF : F_X12_cover_56 k9 k56 x1 x2 x3 x4 S0 = some (r, T0)) {H : Heap} {locs : List Loc} (hP : va_P D vwCl (g12 q o0 a0 S0) H) (hD : va_D A (g12 q o0 a0 S0)) (hS : va_S A s.heap H locs) {ls : Array Slot} (hl : lv_has ls 5 [(0, .ref o0), (1, .int x1), (2, .int x2), (3, .int x3), (4, .int x4)]) : W p l e rm_X12_cover s m args below meth c H locs 0 0 (MQ below (QI D A r (g12 q o0 a0 T0)) args s 0 0 A) (F0 m 56 ls []) := by
  unfold F_X12_cover_56 at hF
  obtain ⟨hx, hb, hr, hml, hown, hts, hlk, hA, hK, hN, hV⟩ := id C
  refine lv_iload hx hb dX12_cover_56 (lv_at hl 4 rfl) ?_
  refine lv_aload_n hx hb dX12_cover_58 rfl (lv_at hl 0 rfl) ?_
  refine k_get (v := .ref (a0 7)) C fg_X12_33 hP 0 rfl rfl dX12_cover_59 ?_
  refine lv_iconst (v := (0 : Int32)) hx hb dX12_cover_62 (by decide) ?_
  obtain ⟨h1, hF⟩ := op_ck hF
  refine k_ild (f := S0.2.2.1 6) C hP 2 rfl h1 dX12_cover_63 ?_
  refine lv_icmp_ge (tgt := 95) hx hb dX12_cover_64 (by decide) (fun c2 => ?_) (fun c2 => ?_)
  · have hF := op_t hF c2
    refine lv_iload_n hx hb dX12_cover_95 rfl (lv_at hl 3 rfl) ?_
    refine lv_sipush (v := (255 : Int32)) hx hb dX12_cover_96 (by decide) ?_
    refine lv_icmp_ne (tgt := 104) hx hb dX12_cover_99 (by decide) (fun c3 => ?_) (fun c3 => ?_)
    · have hF := op_f hF c3
      exact b_X12_cover_104 C hk9 hF hP hD hS (lv_sub hl [0, 1, 2] rfl)
    · have hF := op_t hF c3
      refine lv_iload_n hx hb dX12_cover_102 rfl (lv_at hl 2 rfl) ?_
      refine lv_istore_n (lv' := [(1, .int x2), (0, .ref o0), (2, .int x2), (3, .int x3), (4, .int x4)]) hx hb dX12_cover_103 rfl hl (by decide) rfl (fun ls hl => ?_)
      exact b_X12_cover_104 C hk9 hF hP hD hS (lv_sub hl [1, 0, 2] rfl)
  · have hF := op_f hF c2
    refine lv_iload_n hx hb dX12_cover_67 rfl (lv_at hl 3 rfl) ?_
    refine lv_iload_n hx hb dX12_cover_68 rfl (lv_at hl 2 rfl) ?_
    refine lv_iload hx hb dX12_cover_69 (lv_at hl 4 rfl) ?_
    obtain ⟨r5, hc4, hF⟩ := ob1_s hF
    refine k_inil C (k_rS (As := [.int x2, .int x4]) (rest := [.int x3]) C (c_X12_bitOf l D q _ x2 x4 hc4) kc_X12_bitOf ml_X12_275 rfl rfl (by decide) (fun k x h => by simp at h) (⟨fun i j x y h => by simp at h, fun k x h => by simp at h⟩ : va_D A []) hS rfl hl.1 rfl (Nat.le_of_ble_eq_true rfl) dX12_cover_71 (by decide)) hP hD hS (fun H locs hP hD hS => ?_)
    refine lv_if_eq (tgt := 86) hx hb dX12_cover_74 (by decide) (fun c6 => ?_) (fun c6 => ?_)
    · have hF := op_t hF c6
      refine lv_iconst (v := (0 : Int32)) hx hb dX12_cover_86 (by decide) ?_
      exact b_X12_cover_87 C hk9 hk56 hF hP hD hS (lv_sub hl [0, 1, 2, 4] rfl)
    · have hF := op_f hF c6
      refine lv_aload_n hx hb dX12_cover_77 rfl (lv_at hl 0 rfl) ?_
      refine lv_iload hx hb dX12_cover_78 (lv_at hl 4 rfl) ?_
      obtain ⟨r8, hc7, hF⟩ := ob1_s hF
      refine k_iall C (k_rV (As := [.int x4]) (rest := [.int x3]) C (c_X12_looksOf l D q o0 a0 S0 _ x4 hc7) kc_X12_looksOf ml_X12_334 rfl rfl (by decide) hP hD hS (va_recv hK hP (ci := 12) (q0 := 0) rfl rfl) rfl hl.1 rfl (Nat.le_of_ble_eq_true rfl) dX12_cover_80 (by decide)) hP hD hS ((gad12 q o0 a0 S0).trans (gad12 q o0 a0 S0).symm) (fun H locs hP hD hS => ?_)
      refine lv_goto (tgt := 87) hx hb dX12_cover_83 (by decide) ?_
      exact b_X12_cover_87 C hk9 hk56 hF hP hD hS (lv_sub hl [0, 1, 2, 4] rfl)
set_option maxRecDepth 100000 in
set_option maxHeartbeats 4000000 in
theorem l_X12_cover_56 {p : Program} {l : Launch} {e : Env} {s : State} {m : MethodId} {args : Array Value} {below : List Frame} {meth : Method} {c : Code} {D : va_G} {q : Nat → ClassId} {A : Nat → Prop} {o0 : Nat} {a0 : Nat → Nat} {r : Int32} {T0 : St} (C : cx p s m args meth c cX12_cover 5 (some .int) RX12 D q A) {k9 : Int32 × Int32 × St → Option (Int32 × St)} (hk9 : ∀ (x1 : Int32) (x2 : Int32) (S0 : St), k9 (x1, x2, S0) = some (r, T0) → ∀ (H : Heap) (locs : List Loc) (ls : Array Slot), va_P D vwCl (g12 q o0 a0 S0) H → va_D A (g12 q o0 a0 S0) → va_S A s.heap H locs → lv_has ls 5 [(0, .ref o0), (1, .int x1), (2, .int x2)] → W p l e rm_X12_cover s m args below meth c H locs 0 0 (MQ below (QI D A r (g12 q o0 a0 T0)) args s 0 0 A) (F0 m 9 ls [])) {x1 : Int32} {x2 : Int32} {x3 : Int32} {x4 : Int32} {S0 : St} (hF : L_X12_cover_56 k9 x1 x2 x3 x4 S0 = some (r, T0)) : ∀ (H : Heap) (locs : List Loc) (ls : Array Slot), va_P D vwCl (g12 q o0 a0 S0) H → va_D A (g12 q o0 a0 S0) → va_S A s.heap H locs → lv_has ls 5 [(0, .ref o0), (1, .int x1), (2, .int x2), (3, .int x3), (4, .int x4)] → W p l e rm_X12_cover s m args below meth c H locs 0 0 (MQ below (QI D A r (g12 q o0 a0 T0)) args s 0 0 A) (F0 m 56 ls []) :=
  lp_G _ _ (fun z => ∀ (H : Heap) (locs : List Loc) (ls : Array Slot), va_P D vwCl (g12 q o0 a0 z.2.2.2.2) H → va_D A (g12 q o0 a0 z.2.2.2.2) → va_S A s.heap H locs → lv_has ls 5 [(0, .ref o0), (1, .int z.1), (2, .int z.2.1), (3, .int z.2.2.1), (4, .int z.2.2.2.1)] → W p l e rm_X12_cover s m args below meth c H locs 0 0 (MQ below (QI D A r (g12 q o0 a0 T0)) args s 0 0 A) (F0 m 56 ls [])) (fun kz hkz z hz H locs ls hP hD hS hl => b_X12_cover_56 C hk9 (fun x1 x2 x3 x4 S0 hz => hkz (x1, x2, x3, x4, S0) hz) hz hP hD hS hl) FU (x1, x2, x3, x4, S0) hF
set_option maxRecDepth 100000 in
set_option maxHeartbeats 4000000 in
theorem b_X12_cover_51 {p : Program} {l : Launch} {e : Env} {s : State} {m : MethodId} {args : Array Value} {below : List Frame} {meth : Method} {c : Code} {D : va_G} {q : Nat → ClassId} {A : Nat → Prop} {o0 : Nat} {a0 : Nat → Nat} {r : Int32} {T0 : St} (C : cx p s m args meth c cX12_cover 5 (some .int) RX12 D q A) {k9 : Int32 × Int32 × St → Option (Int32 × St)} (hk9 : ∀ (x1 : Int32) (x2 : Int32) (S0 : St), k9 (x1, x2, S0) = some (r, T0) → ∀ (H : Heap) (locs : List Loc) (ls : Array Slot), va_P D vwCl (g12 q o0 a0 S0) H → va_D A (g12 q o0 a0 S0) → va_S A s.heap H locs → lv_has ls 5 [(0, .ref o0), (1, .int x1), (2, .int x2)] → W p l e rm_X12_cover s m args below meth c H locs 0 0 (MQ below (QI D A r (g12 q o0 a0 T0)) args s 0 0 A) (F0 m 9 ls [])) {x1 : Int32} {x2 : Int32} {S0 : St} (hF : F_X12_cover_51 k9 x1 x2 S0 = some (r, T0)) {H : Heap} {locs : List Loc} (hP : va_P D vwCl (g12 q o0 a0 S0) H) (hD : va_D A (g12 q o0 a0 S0)) (hS : va_S A s.heap H locs) {ls : Array Slot} (hl : lv_has ls 5 [(0, .ref o0), (1, .int x1), (2, .int x2)]) : W p l e rm_X12_cover s m args below meth c H locs 0 0 (MQ below (QI D A r (g12 q o0 a0 T0)) args s 0 0 A) (F0 m 51 ls []) := by
  unfold F_X12_cover_51 at hF
  obtain ⟨hx, hb, hr, hml, hown, hts, hlk, hA, hK, hN, hV⟩ := id C
  refine lv_iconst (v := (0 : Int32)) hx hb dX12_cover_51 (by decide) ?_
  refine lv_istore_n (lv' := [(3, .int (0 : Int32)), (0, .ref o0), (1, .int x1), (2, .int x2)]) hx hb dX12_cover_52 rfl hl (by decide) rfl (fun ls hl => ?_)
  refine lv_iconst (v := (0 : Int32)) hx hb dX12_cover_53 (by decide) ?_
  refine lv_istore (lv' := [(4, .int (0 : Int32)), (3, .int (0 : Int32)), (0, .ref o0), (1, .int x1), (2, .int x2)]) hx hb dX12_cover_54 hl (by decide) rfl (fun ls hl => ?_)
  exact l_X12_cover_56 C hk9 hF _ _ _ hP hD hS (lv_sub hl [2, 3, 4, 1, 0] rfl)
set_option maxRecDepth 100000 in
set_option maxHeartbeats 4000000 in
theorem b_X12_cover_9 {p : Program} {l : Launch} {e : Env} {s : State} {m : MethodId} {args : Array Value} {below : List Frame} {meth : Method} {c : Code} {D : va_G} {q : Nat → ClassId} {A : Nat → Prop} {o0 : Nat} {a0 : Nat → Nat} {r : Int32} {T0 : St} (C : cx p s m args meth c cX12_cover 5 (some .int) RX12 D q A) {k9 : Int32 × Int32 × St → Option (Int32 × St)} (hk9 : ∀ (x1 : Int32) (x2 : Int32) (S0 : St), k9 (x1, x2, S0) = some (r, T0) → ∀ (H : Heap) (locs : List Loc) (ls : Array Slot), va_P D vwCl (g12 q o0 a0 S0) H → va_D A (g12 q o0 a0 S0) → va_S A s.heap H locs → lv_has ls 5 [(0, .ref o0), (1, .int x1), (2, .int x2)] → W p l e rm_X12_cover s m args below meth c H locs 0 0 (MQ below (QI D A r (g12 q o0 a0 T0)) args s 0 0 A) (F0 m 9 ls [])) {x1 : Int32} {x2 : Int32} {S0 : St} (hF : F_X12_cover_9 k9 x1 x2 S0 = some (r, T0)) {H : Heap} {locs : List Loc} (hP : va_P D vwCl (g12 q o0 a0 S0) H) (hD : va_D A (g12 q o0 a0 S0)) (hS : va_S A s.heap H locs) {ls : Array Slot} (hl : lv_has ls 5 [(0, .ref o0), (1, .int x1), (2, .int x2)]) : W p l e rm_X12_cover s m args below meth c H locs 0 0 (MQ below (QI D A r (g12 q o0 a0 T0)) args s 0 0 A) (F0 m 9 ls []) := by
  unfold F_X12_cover_9 at hF
  obtain ⟨hx, hb, hr, hml, hown, hts, hlk, hA, hK, hN, hV⟩ := id C
  refine lv_iload_n hx hb dX12_cover_9 rfl (lv_at hl 2 rfl) ?_
  refine lv_iconst (v := (1 : Int32)) hx hb dX12_cover_10 (by decide) ?_
  refine lv_aload_n hx hb dX12_cover_11 rfl (lv_at hl 0 rfl) ?_
  refine k_get (v := .ref (a0 7)) C fg_X12_33 hP 0 rfl rfl dX12_cover_12 ?_
  refine lv_iconst (v := (0 : Int32)) hx hb dX12_cover_15 (by decide) ?_
  obtain ⟨h1, hF⟩ := op_ck hF
  refine k_ild (f := S0.2.2.1 6) C hP 2 rfl h1 dX12_cover_16 ?_
  refine lv_ishl hx hb dX12_cover_17 ?_
  refine lv_icmp_ge (tgt := 110) hx hb dX12_cover_18 (by decide) (fun c2 => ?_) (fun c2 => ?_)
  · have hF := op_t hF c2
    refine lv_iload_n hx hb dX12_cover_110 rfl (lv_at hl 1 rfl) ?_
    refine lv_if_ge (tgt := 116) hx hb dX12_cover_111 (by decide) (fun c3 => ?_) (fun c3 => ?_)
    · have hF := op_t hF c3
      refine lv_aload_n hx hb dX12_cover_116 rfl (lv_at hl 0 rfl) ?_
      refine lv_iconst (v := (1 : Int32)) hx hb dX12_cover_117 (by decide) ?_
      obtain ⟨U4, e5, hF⟩ := nw_s hF
      refine k_put (W8 := g12 q o0 a0 U4) C fp_X12_398 hP hD hS 0 rfl rfl rfl (Nat.le_of_ble_eq_true rfl) dX12_cover_118 (by rw [e5]; rfl) (fun H locs hP hD hS => ?_)
      refine lv_aload_n hx hb dX12_cover_121 rfl (lv_at hl 0 rfl) ?_
      refine lv_iload_n hx hb dX12_cover_122 rfl (lv_at hl 1 rfl) ?_
      obtain ⟨U6, e7, hF⟩ := nw_s hF
      refine k_put (W8 := g12 q o0 a0 U6) C fp_X12_402 hP hD hS 0 rfl rfl rfl (Nat.le_of_ble_eq_true rfl) dX12_cover_123 (by rw [e7]; rfl) (fun H locs hP hD hS => ?_)
      refine lv_iload_n hx hb dX12_cover_126 rfl (lv_at hl 1 rfl) ?_
      obtain ⟨r9, hc8, hF⟩ := ob1_s hF
      refine k_inil C (k_rS (As := [.int x1]) (rest := []) C (c_X12_bits l D q _ x1 hc8) kc_X12_bits ml_X12_340 rfl rfl (by decide) (fun k x h => by simp at h) (⟨fun i j x y h => by simp at h, fun k x h => by simp at h⟩ : va_D A []) hS rfl hl.1 rfl (Nat.le_of_ble_eq_true rfl) dX12_cover_127 (by decide)) hP hD hS (fun H locs hP hD hS => ?_)
      cases hF
      exact k_iret C hP hS dX12_cover_130
    · have hF := op_f hF c3
      refine lv_iconst (v := (-1 : Int32)) hx hb dX12_cover_114 (by decide) ?_
      cases hF
      exact k_iret C hP hS dX12_cover_115
  · have hF := op_f hF c2
    refine lv_iload_n hx hb dX12_cover_21 rfl (lv_at hl 2 rfl) ?_
    refine lv_aload_n hx hb dX12_cover_22 rfl (lv_at hl 0 rfl) ?_
    refine k_get (v := .ref (a0 7)) C fg_X12_33 hP 0 rfl rfl dX12_cover_23 ?_
    refine lv_bipush (v := (44 : Int32)) hx hb dX12_cover_26 (by decide) ?_
    obtain ⟨h10, hF⟩ := op_ck hF
    refine k_ild (f := S0.2.2.1 6) C hP 2 rfl h10 dX12_cover_28 ?_
    refine lv_iand hx hb dX12_cover_29 ?_
    refine lv_if_ne (tgt := 104) hx hb dX12_cover_30 (by decide) (fun c11 => ?_) (fun c11 => ?_)
    · have hF := op_f hF c11
      exact b_X12_cover_104 C hk9 hF hP hD hS (lv_sub hl [0, 1, 2] rfl)
    · have hF := op_t hF c11
      refine lv_iload_n hx hb dX12_cover_33 rfl (lv_at hl 1 rfl) ?_
      refine lv_if_lt (tgt := 51) hx hb dX12_cover_34 (by decide) (fun c12 => ?_) (fun c12 => ?_)
      · have hF := op_t hF c12
        exact b_X12_cover_51 C hk9 hF hP hD hS (lv_sub hl [0, 1, 2] rfl)
      · have hF := op_f hF c12
        refine lv_iload_n hx hb dX12_cover_37 rfl (lv_at hl 2 rfl) ?_
        obtain ⟨r14, hc13, hF⟩ := ob1_s hF
        refine k_inil C (k_rS (As := [.int x2]) (rest := []) C (c_X12_bits l D q _ x2 hc13) kc_X12_bits ml_X12_340 rfl rfl (by decide) (fun k x h => by simp at h) (⟨fun i j x y h => by simp at h, fun k x h => by simp at h⟩ : va_D A []) hS rfl hl.1 rfl (Nat.le_of_ble_eq_true rfl) dX12_cover_38 (by decide)) hP hD hS (fun H locs hP hD hS => ?_)
        refine lv_iload_n hx hb dX12_cover_41 rfl (lv_at hl 1 rfl) ?_
        obtain ⟨r16, hc15, hF⟩ := ob1_s hF
        refine k_inil C (k_rS (As := [.int x1]) (rest := [.int r14]) C (c_X12_bits l D q _ x1 hc15) kc_X12_bits ml_X12_340 rfl rfl (by decide) (fun k x h => by simp at h) (⟨fun i j x y h => by simp at h, fun k x h => by simp at h⟩ : va_D A []) hS rfl hl.1 rfl (Nat.le_of_ble_eq_true rfl) dX12_cover_42 (by decide)) hP hD hS (fun H locs hP hD hS => ?_)
        refine lv_icmp_lt (tgt := 51) hx hb dX12_cover_45 (by decide) (fun c17 => ?_) (fun c17 => ?_)
        · have hF := op_t hF c17
          exact b_X12_cover_51 C hk9 hF hP hD hS (lv_sub hl [0, 1, 2] rfl)
        · have hF := op_f hF c17
          refine lv_goto (tgt := 104) hx hb dX12_cover_48 (by decide) ?_
          exact b_X12_cover_104 C hk9 hF hP hD hS (lv_sub hl [0, 1, 2] rfl)
set_option maxRecDepth 100000 in
set_option maxHeartbeats 4000000 in
theorem l_X12_cover_9 {p : Program} {l : Launch} {e : Env} {s : State} {m : MethodId} {args : Array Value} {below : List Frame} {meth : Method} {c : Code} {D : va_G} {q : Nat → ClassId} {A : Nat → Prop} {o0 : Nat} {a0 : Nat → Nat} {r : Int32} {T0 : St} (C : cx p s m args meth c cX12_cover 5 (some .int) RX12 D q A) {x1 : Int32} {x2 : Int32} {S0 : St} (hF : L_X12_cover_9 x1 x2 S0 = some (r, T0)) : ∀ (H : Heap) (locs : List Loc) (ls : Array Slot), va_P D vwCl (g12 q o0 a0 S0) H → va_D A (g12 q o0 a0 S0) → va_S A s.heap H locs → lv_has ls 5 [(0, .ref o0), (1, .int x1), (2, .int x2)] → W p l e rm_X12_cover s m args below meth c H locs 0 0 (MQ below (QI D A r (g12 q o0 a0 T0)) args s 0 0 A) (F0 m 9 ls []) :=
  lp_G _ _ (fun z => ∀ (H : Heap) (locs : List Loc) (ls : Array Slot), va_P D vwCl (g12 q o0 a0 z.2.2) H → va_D A (g12 q o0 a0 z.2.2) → va_S A s.heap H locs → lv_has ls 5 [(0, .ref o0), (1, .int z.1), (2, .int z.2.1)] → W p l e rm_X12_cover s m args below meth c H locs 0 0 (MQ below (QI D A r (g12 q o0 a0 T0)) args s 0 0 A) (F0 m 9 ls [])) (fun kz hkz z hz H locs ls hP hD hS hl => b_X12_cover_9 C (fun x1 x2 S0 hz => hkz (x1, x2, S0) hz) hz hP hD hS hl) FU (x1, x2, S0) hF
set_option maxRecDepth 100000 in
set_option maxHeartbeats 4000000 in
theorem c_X12_cover (l : Launch) (D : va_G) (q : Nat → ClassId) (o0 : Nat) (a0 : Nat → Nat) (S0 : St) (sz : Nat) {r : Int32} {T0 : St} (hF : F_X12_cover S0 = some (r, T0)) : Met l yX12_cover (Cond.code yX12_cover cX12_cover 5 (some .int) :: TB) rm_X12_cover (PC D q [.ref o0] (g12 q o0 a0 S0) sz) ((fun A => QI D A r (g12 q o0 a0 T0)) (va_A (g12 q o0 a0 S0) sz)) 0 0 (va_A (g12 q o0 a0 S0) sz) := by
  refine k_met (w0 := g12 q o0 a0 S0) (Q := fun A => QI D A r (g12 q o0 a0 T0)) (by decide +kernel) (Nat.le_of_ble_eq_true rfl) ?_
  intro p e s m args below meth c A ls C hP hD hS hl
  have hl : lv_has ls 5 [(0, .ref o0)] := hl
  unfold F_X12_cover at hF
  have C : cx p s m args meth c cX12_cover 5 (some .int) RX12 D q A := C
  obtain ⟨hx, hb, hr, hml, hown, hts, hlk, hA, hK, hN, hV⟩ := id C
  refine lv_aload_n hx hb dX12_cover_0 rfl (lv_at hl 0 rfl) ?_
  refine lv_iconst (v := (0 : Int32)) hx hb dX12_cover_1 (by decide) ?_
  obtain ⟨U1, e2, hF⟩ := nw_s hF
  refine k_put (W8 := g12 q o0 a0 U1) C fp_X12_1 hP hD hS 0 rfl rfl rfl (Nat.le_of_ble_eq_true rfl) dX12_cover_2 (by rw [e2]; rfl) (fun H locs hP hD hS => ?_)
  refine lv_iconst (v := (-1 : Int32)) hx hb dX12_cover_5 (by decide) ?_
  refine lv_istore_n (lv' := [(1, .int (-1 : Int32)), (0, .ref o0)]) hx hb dX12_cover_6 rfl hl (by decide) rfl (fun ls hl => ?_)
  refine lv_iconst (v := (1 : Int32)) hx hb dX12_cover_7 (by decide) ?_
  refine lv_istore_n (lv' := [(2, .int (1 : Int32)), (1, .int (-1 : Int32)), (0, .ref o0)]) hx hb dX12_cover_8 rfl hl (by decide) rfl (fun ls hl => ?_)
  exact l_X12_cover_9 C hF _ _ _ hP hD hS (lv_sub hl [2, 1, 0] rfl)
