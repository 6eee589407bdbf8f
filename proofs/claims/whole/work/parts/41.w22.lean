abbrev rm_X8_passOn : Room := ({ frames := 2, cells := 0, slots := 0, locals := 41 } : Room)
def F_X8_passOn (S0 : St) (x1 : Int32) (x2 : Int32) (x3 : Int32) : Option (Int32 × St) := if x1 = x2 then (some ((1 : Int32), S0)) else (if oob x1 6 then none else if (S0.2.2.1 12 x1.toNatClampNeg) = (-1 : Int32) then (if oob x2 6 then none else if (S0.2.2.1 12 x2.toNatClampNeg) = (-1 : Int32) then (if oob x1 6 then none else if (((S0.2.2.1 9 x1.toNatClampNeg) >>> (x3 &&& 31)) &&& (1 : Int32)) = 0 then (some ((2 : Int32), S0)) else (if oob x2 6 then none else if (((S0.2.2.1 9 x2.toNatClampNeg) >>> (x3 &&& 31)) &&& (1 : Int32)) = (1 : Int32) then (some ((3 : Int32), S0)) else (if oob x2 6 then none else ob1 (F_X11_having (S0.2.2.1 9 x2.toNatClampNeg) x3) fun r12 => if oob x2 6 then none else nw (sA S0 9 x2 r12) fun U14 => some ((0 : Int32), U14)))) else (some ((1 : Int32), S0))) else (some ((1 : Int32), S0)))
set_option maxRecDepth 100000 in
set_option maxHeartbeats 4000000 in
theorem c_X8_passOn (l : Launch) (D : va_G) (q : Nat → ClassId) (o0 : Nat) (a0 : Nat → Nat) (S0 : St) (sz : Nat) (x1 : Int32) (x2 : Int32) (x3 : Int32) {r : Int32} {T0 : St} (hF : F_X8_passOn S0 x1 x2 x3 = some (r, T0)) : Met l yX8_passOn (Cond.code yX8_passOn cX8_passOn 4 (some .int) :: TB) rm_X8_passOn (PC D q [.ref o0, .int x1, .int x2, .int x3] (fl [g8 q o0 a0 S0]) sz) ((fun A => QI D A r (fl [g8 q o0 a0 T0])) (va_A (fl [g8 q o0 a0 S0]) sz)) 0 0 (va_A (fl [g8 q o0 a0 S0]) sz) := by
  refine k_met (w0 := fl [g8 q o0 a0 S0]) (Q := fun A => QI D A r (fl [g8 q o0 a0 T0])) (by decide +kernel) (Nat.le_of_ble_eq_true rfl) ?_
  intro p e s m args below meth c A ls C hP hD hS hl
  have hl : lv_has ls 4 [(0, .ref o0), (1, .int x1), (2, .int x2), (3, .int x3)] := hl
  unfold F_X8_passOn at hF
  have C : cx p s m args meth c cX8_passOn 4 (some .int) RX8 D q A := C
  obtain ⟨hx, hb, hr, hml, hown, hts, hlk, hA, hK, hN, hV⟩ := id C
  refine lv_iload_n hx hb dX8_passOn_0 rfl (lv_at hl 1 rfl) ?_
  refine lv_iload_n hx hb dX8_passOn_1 rfl (lv_at hl 2 rfl) ?_
  refine lv_icmp_eq (tgt := 25) hx hb dX8_passOn_2 (by decide) (fun c1 => ?_) (fun c1 => ?_)
  · have hF := op_t hF c1
    refine lv_iconst (v := (1 : Int32)) hx hb dX8_passOn_25 (by decide) ?_
    cases hF
    exact k_iret C hP hS dX8_passOn_26
  · have hF := op_f hF c1
    refine lv_aload_n hx hb dX8_passOn_5 rfl (lv_at hl 0 rfl) ?_
    refine k_get (v := .ref (a0 13)) C fg_X8_37 hP 0 rfl rfl dX8_passOn_6 ?_
    refine lv_iload_n hx hb dX8_passOn_9 rfl (lv_at hl 1 rfl) ?_
    obtain ⟨h2, hF⟩ := op_ck hF
    refine k_ild (f := S0.2.2.1 12) C hP 9 rfl h2 dX8_passOn_10 ?_
    refine lv_iconst (v := (-1 : Int32)) hx hb dX8_passOn_11 (by decide) ?_
    refine lv_icmp_ne (tgt := 25) hx hb dX8_passOn_12 (by decide) (fun c3 => ?_) (fun c3 => ?_)
    · have hF := op_f hF c3
      refine lv_iconst (v := (1 : Int32)) hx hb dX8_passOn_25 (by decide) ?_
      cases hF
      exact k_iret C hP hS dX8_passOn_26
    · have hF := op_t hF c3
      refine lv_aload_n hx hb dX8_passOn_15 rfl (lv_at hl 0 rfl) ?_
      refine k_get (v := .ref (a0 13)) C fg_X8_37 hP 0 rfl rfl dX8_passOn_16 ?_
      refine lv_iload_n hx hb dX8_passOn_19 rfl (lv_at hl 2 rfl) ?_
      obtain ⟨h4, hF⟩ := op_ck hF
      refine k_ild (f := S0.2.2.1 12) C hP 9 rfl h4 dX8_passOn_20 ?_
      refine lv_iconst (v := (-1 : Int32)) hx hb dX8_passOn_21 (by decide) ?_
      refine lv_icmp_eq (tgt := 27) hx hb dX8_passOn_22 (by decide) (fun c5 => ?_) (fun c5 => ?_)
      · have hF := op_t hF c5
        refine lv_aload_n hx hb dX8_passOn_27 rfl (lv_at hl 0 rfl) ?_
        refine k_get (v := .ref (a0 10)) C fg_X8_28 hP 0 rfl rfl dX8_passOn_28 ?_
        refine lv_iload_n hx hb dX8_passOn_31 rfl (lv_at hl 1 rfl) ?_
        obtain ⟨h6, hF⟩ := op_ck hF
        refine k_ild (f := S0.2.2.1 9) C hP 6 rfl h6 dX8_passOn_32 ?_
        refine lv_iload_n hx hb dX8_passOn_33 rfl (lv_at hl 3 rfl) ?_
        refine lv_ishr hx hb dX8_passOn_34 ?_
        refine lv_iconst (v := (1 : Int32)) hx hb dX8_passOn_35 (by decide) ?_
        refine lv_iand hx hb dX8_passOn_36 ?_
        refine lv_if_ne (tgt := 42) hx hb dX8_passOn_37 (by decide) (fun c7 => ?_) (fun c7 => ?_)
        · have hF := op_f hF c7
          refine lv_aload_n hx hb dX8_passOn_42 rfl (lv_at hl 0 rfl) ?_
          refine k_get (v := .ref (a0 10)) C fg_X8_28 hP 0 rfl rfl dX8_passOn_43 ?_
          refine lv_iload_n hx hb dX8_passOn_46 rfl (lv_at hl 2 rfl) ?_
          obtain ⟨h8, hF⟩ := op_ck hF
          refine k_ild (f := S0.2.2.1 9) C hP 6 rfl h8 dX8_passOn_47 ?_
          refine lv_iload_n hx hb dX8_passOn_48 rfl (lv_at hl 3 rfl) ?_
          refine lv_ishr hx hb dX8_passOn_49 ?_
          refine lv_iconst (v := (1 : Int32)) hx hb dX8_passOn_50 (by decide) ?_
          refine lv_iand hx hb dX8_passOn_51 ?_
          refine lv_iconst (v := (1 : Int32)) hx hb dX8_passOn_52 (by decide) ?_
          refine lv_icmp_ne (tgt := 58) hx hb dX8_passOn_53 (by decide) (fun c9 => ?_) (fun c9 => ?_)
          · have hF := op_f hF c9
            refine lv_aload_n hx hb dX8_passOn_58 rfl (lv_at hl 0 rfl) ?_
            refine k_get (v := .ref (a0 10)) C fg_X8_28 hP 0 rfl rfl dX8_passOn_59 ?_
            refine lv_iload_n hx hb dX8_passOn_62 rfl (lv_at hl 2 rfl) ?_
            refine lv_aload_n hx hb dX8_passOn_63 rfl (lv_at hl 0 rfl) ?_
            refine k_get (v := .ref (a0 10)) C fg_X8_28 hP 0 rfl rfl dX8_passOn_64 ?_
            refine lv_iload_n hx hb dX8_passOn_67 rfl (lv_at hl 2 rfl) ?_
            obtain ⟨h10, hF⟩ := op_ck hF
            refine k_ild (f := S0.2.2.1 9) C hP 6 rfl h10 dX8_passOn_68 ?_
            refine lv_iload_n hx hb dX8_passOn_69 rfl (lv_at hl 3 rfl) ?_
            obtain ⟨r12, hc11, hF⟩ := ob1_s hF
            refine k_inil C (k_rN (As := [.int (S0.2.2.1 9 x2.toNatClampNeg), .int x3]) (rest := [.int x2, .ref (a0 10)]) C (c_X11_having l D q _ (S0.2.2.1 9 x2.toNatClampNeg) x3 hc11) kc_X11_having (List.mem_of_getElem? (i := 2) rfl) rfl rfl (by decide) (fun k x h => by simp at h) (⟨fun i j x y h => by simp at h, fun k x h => by simp at h⟩ : va_D A []) hS rfl hl.1 rfl (Nat.le_of_ble_eq_true rfl) dX8_passOn_70 (by decide)) hP hD hS (fun H locs hP hD hS => ?_)
            obtain ⟨h13, hF⟩ := op_ck hF
            obtain ⟨U14, e15, hF⟩ := nw_s hF
            refine k_ist (f := S0.2.2.1 9) (W8 := fl [g8 q o0 a0 U14]) C hP hD hS 6 rfl h13 dX8_passOn_73 (by rw [e15]; rfl) (fun H locs hP hD hS => ?_)
            refine lv_iconst (v := (0 : Int32)) hx hb dX8_passOn_74 (by decide) ?_
            cases hF
            exact k_iret C hP hS dX8_passOn_75
          · have hF := op_t hF c9
            refine lv_iconst (v := (3 : Int32)) hx hb dX8_passOn_56 (by decide) ?_
            cases hF
            exact k_iret C hP hS dX8_passOn_57
        · have hF := op_t hF c7
          refine lv_iconst (v := (2 : Int32)) hx hb dX8_passOn_40 (by decide) ?_
          cases hF
          exact k_iret C hP hS dX8_passOn_41
      · have hF := op_f hF c5
        refine lv_iconst (v := (1 : Int32)) hx hb dX8_passOn_25 (by decide) ?_
        cases hF
        exact k_iret C hP hS dX8_passOn_26

abbrev rm_X8_blow : Room := ({ frames := 0, cells := 0, slots := 0, locals := 0 } : Room)
def F_X8_blow_31 (k4 : Int32 × Int32 × Int32 × St → Option (Int32 × St)) (x1 : Int32) (x2 : Int32) (x3 : Int32) (S0 : St) : Option (Int32 × St) := k4 (x1, x2, (x3 + 1), S0)
def F_X8_blow_4 (k4 : Int32 × Int32 × Int32 × St → Option (Int32 × St)) (x1 : Int32) (x2 : Int32) (x3 : Int32) (S0 : St) : Option (Int32 × St) := if (S0.1 0) ≤ x3 then (some (x2, S0)) else (if oob x3 7 then none else if (S0.2.2.1 4 x3.toNatClampNeg) ≤ x1 then (F_X8_blow_31 k4 x1 x2 x3 S0) else (if oob x3 7 then none else nw (sA S0 4 x3 x1) fun U5 => F_X8_blow_31 k4 x1 (0 : Int32) x3 U5))
def L_X8_blow_4 (x1 : Int32) (x2 : Int32) (x3 : Int32) (S0 : St) : Option (Int32 × St) := lp (fun kz z => F_X8_blow_4 kz z.1 z.2.1 z.2.2.1 z.2.2.2) FU (x1, x2, x3, S0)
def F_X8_blow (S0 : St) (x1 : Int32) : Option (Int32 × St) := L_X8_blow_4 x1 (1 : Int32) (0 : Int32) S0
set_option maxRecDepth 100000 in
set_option maxHeartbeats 4000000 in
theorem b_X8_blow_31 {p : Program} {l : Launch} {e : Env} {s : State} {m : MethodId} {args : Array Value} {below : List Frame} {meth : Method} {c : Code} {D : va_G} {q : Nat → ClassId} {A : Nat → Prop} {o0 : Nat} {a0 : Nat → Nat} {r : Int32} {T0 : St} (C : cx p s m args meth c cX8_blow 4 (some .int) RX8 D q A) {k4 : Int32 × Int32 × Int32 × St → Option (Int32 × St)} (hk4 : ∀ (x1 : Int32) (x2 : Int32) (x3 : Int32) (S0 : St), k4 (x1, x2, x3, S0) = some (r, T0) → ∀ (H : Heap) (locs : List Loc) (ls : Array Slot), va_P D vwCl (fl [g8 q o0 a0 S0]) H → va_D A (fl [g8 q o0 a0 S0]) → va_S A s.heap H locs → lv_has ls 4 [(0, .ref o0), (1, .int x1), (2, .int x2), (3, .int x3)] → W p l e rm_X8_blow s m args below meth c H locs 0 0 (MQ below (QI D A r (fl [g8 q o0 a0 T0])) args s 0 0 A) (F0 m 4 ls [])) {x1 : Int32} {x2 : Int32} {x3 : Int32} {S0 : St} (hF : F_X8_blow_31 k4 x1 x2 x3 S0 = some (r, T0)) {H : Heap} {locs : List Loc} (hP : va_P D vwCl (fl [g8 q o0 a0 S0]) H) (hD : va_D A (fl [g8 q o0 a0 S0])) (hS : va_S A s.heap H locs) {ls : Array Slot} (hl : lv_has ls 4 [(0, .ref o0), (1, .int x1), (2, .int x2), (3, .int x3)]) : W p l e rm_X8_blow s m args below meth c H locs 0 0 (MQ below (QI D A r (fl [g8 q o0 a0 T0])) args s 0 0 A) (F0 m 31 ls []) := by
  unfold F_X8_blow_31 at hF
  obtain ⟨hx, hb, hr, hml, hown, hts, hlk, hA, hK, hN, hV⟩ := id C
  refine lv_iinc (v := (x3 + 1)) (lv' := [(3, .int (x3 + 1)), (0, .ref o0), (1, .int x1), (2, .int x2)]) hx hb dX8_blow_31 hl (k := 3) rfl rfl (by decide) rfl (fun ls hl => ?_)
  refine lv_goto (tgt := 4) hx hb dX8_blow_34 (by decide) ?_
  exact hk4 x1 x2 (x3 + 1) S0 hF _ _ _ hP hD hS (lv_sub hl [1, 2, 3, 0] rfl)
set_option maxRecDepth 100000 in
set_option maxHeartbeats 4000000 in
theorem b_X8_blow_4 {p : Program} {l : Launch} {e : Env} {s : State} {m : MethodId} {args : Array Value} {below : List Frame} {meth : Method} {c : Code} {D : va_G} {q : Nat → ClassId} {A : Nat → Prop} {o0 : Nat} {a0 : Nat → Nat} {r : Int32} {T0 : St} (C : cx p s m args meth c cX8_blow 4 (some .int) RX8 D q A) {k4 : Int32 × Int32 × Int32 × St → Option (Int32 × St)} (hk4 : ∀ (x1 : Int32) (x2 : Int32) (x3 : Int32) (S0 : St), k4 (x1, x2, x3, S0) = some (r, T0) → ∀ (H : Heap) (locs : List Loc) (ls : Array Slot), va_P D vwCl (fl [g8 q o0 a0 S0]) H → va_D A (fl [g8 q o0 a0 S0]) → va_S A s.heap H locs → lv_has ls 4 [(0, .ref o0), (1, .int x1), (2, .int x2), (3, .int x3)] → W p l e rm_X8_blow s m args below meth c H locs 0 0 (MQ below (QI D A r (fl [g8 q o0 a0 T0])) args s 0 0 A) (F0 m 4 ls [])) {x1 : Int32} {x2 : Int32} {x3 : Int32} {S0 : St} (hF : F_X8_blow_4 k4 x1 x2 x3 S0 = some (r, T0)) {H : Heap} {locs : List Loc} (hP : va_P D vwCl (fl [g8 q o0 a0 S0]) H) (hD : va_D A (fl [g8 q o0 a0 S0])) (hS : va_S A s.heap H locs) {ls : Array Slot} (hl : lv_has ls 4 [(0, .ref o0), (1, .int x1), (2, .int x2), (3, .int x3)]) : W p l e rm_X8_blow s m args below meth c H locs 0 0 (MQ below (QI D A r (fl [g8 q o0 a0 T0])) args s 0 0 A) (F0 m 4 ls []) := by
  unfold F_X8_blow_4 at hF
  obtain ⟨hx, hb, hr, hml, hown, hts, hlk, hA, hK, hN, hV⟩ := id C
  refine lv_iload_n hx hb dX8_blow_4 rfl (lv_at hl 3 rfl) ?_
  refine lv_aload_n hx hb dX8_blow_5 rfl (lv_at hl 0 rfl) ?_
  refine k_get (v := .int (S0.1 0)) C fg_X8_43 hP 0 rfl rfl dX8_blow_6 ?_
  refine lv_icmp_ge (tgt := 37) hx hb dX8_blow_9 (by decide) (fun c1 => ?_) (fun c1 => ?_)
  · have hF := op_t hF c1
    refine lv_iload_n hx hb dX8_blow_37 rfl (lv_at hl 2 rfl) ?_
    cases hF
    exact k_iret C hP hS dX8_blow_38
  · have hF := op_f hF c1
    refine lv_aload_n hx hb dX8_blow_12 rfl (lv_at hl 0 rfl) ?_
    refine k_get (v := .ref (a0 5)) C fg_X8_22 hP 0 rfl rfl dX8_blow_13 ?_
    refine lv_iload_n hx hb dX8_blow_16 rfl (lv_at hl 3 rfl) ?_
    obtain ⟨h2, hF⟩ := op_ck hF
    refine k_ild (f := S0.2.2.1 4) C hP 4 rfl h2 dX8_blow_17 ?_
    refine lv_iload_n hx hb dX8_blow_18 rfl (lv_at hl 1 rfl) ?_
    refine lv_icmp_le (tgt := 31) hx hb dX8_blow_19 (by decide) (fun c3 => ?_) (fun c3 => ?_)
    · have hF := op_t hF c3
      exact b_X8_blow_31 C hk4 hF hP hD hS (lv_sub hl [0, 1, 2, 3] rfl)
    · have hF := op_f hF c3
      refine lv_aload_n hx hb dX8_blow_22 rfl (lv_at hl 0 rfl) ?_
      refine k_get (v := .ref (a0 5)) C fg_X8_22 hP 0 rfl rfl dX8_blow_23 ?_
      refine lv_iload_n hx hb dX8_blow_26 rfl (lv_at hl 3 rfl) ?_
      refine lv_iload_n hx hb dX8_blow_27 rfl (lv_at hl 1 rfl) ?_
      obtain ⟨h4, hF⟩ := op_ck hF
      obtain ⟨U5, e6, hF⟩ := nw_s hF
      refine k_ist (f := S0.2.2.1 4) (W8 := fl [g8 q o0 a0 U5]) C hP hD hS 4 rfl h4 dX8_blow_28 (by rw [e6]; rfl) (fun H locs hP hD hS => ?_)
      refine lv_iconst (v := (0 : Int32)) hx hb dX8_blow_29 (by decide) ?_
      refine lv_istore_n (lv' := [(2, .int (0 : Int32)), (0, .ref o0), (1, .int x1), (3, .int x3)]) hx hb dX8_blow_30 rfl hl (by decide) rfl (fun ls hl => ?_)
      exact b_X8_blow_31 C hk4 hF hP hD hS (lv_sub hl [1, 2, 0, 3] rfl)
set_option maxRecDepth 100000 in
set_option maxHeartbeats 4000000 in
theorem l_X8_blow_4 {p : Program} {l : Launch} {e : Env} {s : State} {m : MethodId} {args : Array Value} {below : List Frame} {meth : Method} {c : Code} {D : va_G} {q : Nat → ClassId} {A : Nat → Prop} {o0 : Nat} {a0 : Nat → Nat} {r : Int32} {T0 : St} (C : cx p s m args meth c cX8_blow 4 (some .int) RX8 D q A) {x1 : Int32} {x2 : Int32} {x3 : Int32} {S0 : St} (hF : L_X8_blow_4 x1 x2 x3 S0 = some (r, T0)) : ∀ (H : Heap) (locs : List Loc) (ls : Array Slot), va_P D vwCl (fl [g8 q o0 a0 S0]) H → va_D A (fl [g8 q o0 a0 S0]) → va_S A s.heap H locs → lv_has ls 4 [(0, .ref o0), (1, .int x1), (2, .int x2), (3, .int x3)] → W p l e rm_X8_blow s m args below meth c H locs 0 0 (MQ below (QI D A r (fl [g8 q o0 a0 T0])) args s 0 0 A) (F0 m 4 ls []) :=
  lp_G _ _ (fun z => ∀ (H : Heap) (locs : List Loc) (ls : Array Slot), va_P D vwCl (fl [g8 q o0 a0 z.2.2.2]) H → va_D A (fl [g8 q o0 a0 z.2.2.2]) → va_S A s.heap H locs → lv_has ls 4 [(0, .ref o0), (1, .int z.1), (2, .int z.2.1), (3, .int z.2.2.1)] → W p l e rm_X8_blow s m args below meth c H locs 0 0 (MQ below (QI D A r (fl [g8 q o0 a0 T0])) args s 0 0 A) (F0 m 4 ls [])) (fun kz hkz z hz H locs ls hP hD hS hl => b_X8_blow_4 C (fun x1 x2 x3 S0 hz => hkz (x1, x2, x3, S0) hz) hz hP hD hS hl) FU (x1, x2, x3, S0) hF
set_option maxRecDepth 100000 in
set_option maxHeartbeats 4000000 in
theorem c_X8_blow (l : Launch) (D : va_G) (q : Nat → ClassId) (o0 : Nat) (a0 : Nat → Nat) (S0 : St) (sz : Nat) (x1 : Int32) {r : Int32} {T0 : St} (hF : F_X8_blow S0 x1 = some (r, T0)) : Met l yX8_blow (Cond.code yX8_blow cX8_blow 4 (some .int) :: TB) rm_X8_blow (PC D q [.ref o0, .int x1] (fl [g8 q o0 a0 S0]) sz) ((fun A => QI D A r (fl [g8 q o0 a0 T0])) (va_A (fl [g8 q o0 a0 S0]) sz)) 0 0 (va_A (fl [g8 q o0 a0 S0]) sz) := by
  refine k_met (w0 := fl [g8 q o0 a0 S0]) (Q := fun A => QI D A r (fl [g8 q o0 a0 T0])) (by decide +kernel) (Nat.le_of_ble_eq_true rfl) ?_
  intro p e s m args below meth c A ls C hP hD hS hl
  have hl : lv_has ls 4 [(0, .ref o0), (1, .int x1)] := hl
  unfold F_X8_blow at hF
  have C : cx p s m args meth c cX8_blow 4 (some .int) RX8 D q A := C
  obtain ⟨hx, hb, hr, hml, hown, hts, hlk, hA, hK, hN, hV⟩ := id C
  refine lv_iconst (v := (1 : Int32)) hx hb dX8_blow_0 (by decide) ?_
  refine lv_istore_n (lv' := [(2, .int (1 : Int32)), (0, .ref o0), (1, .int x1)]) hx hb dX8_blow_1 rfl hl (by decide) rfl (fun ls hl => ?_)
  refine lv_iconst (v := (0 : Int32)) hx hb dX8_blow_2 (by decide) ?_
  refine lv_istore_n (lv' := [(3, .int (0 : Int32)), (2, .int (1 : Int32)), (0, .ref o0), (1, .int x1)]) hx hb dX8_blow_3 rfl hl (by decide) rfl (fun ls hl => ?_)
  exact l_X8_blow_4 C hF _ _ _ hP hD hS (lv_sub hl [2, 3, 1, 0] rfl)

abbrev rm_X8_close : Room := ({ frames := 1, cells := 0, slots := 0, locals := 22 } : Room)
def F_X8_close (S0 : St) (x1 : Int32) : Option (Int32 × St) := if (((S0.1 6) >>> (x1 &&& 31)) &&& (1 : Int32)) = (1 : Int32) then (some ((1 : Int32), S0)) else (ob1 (F_X8_whoIsUp S0 x1) fun r3 => if r3 = (-1 : Int32) then (nw (sI S0 6 ((S0.1 6) ||| ((1 : Int32) <<< (x1 &&& 31)))) fun U5 => some ((0 : Int32), U5)) else (some ((2 : Int32), S0)))
set_option maxRecDepth 100000 in
set_option maxHeartbeats 4000000 in
theorem c_X8_close (l : Launch) (D : va_G) (q : Nat → ClassId) (o0 : Nat) (a0 : Nat → Nat) (S0 : St) (sz : Nat) (x1 : Int32) {r : Int32} {T0 : St} (hF : F_X8_close S0 x1 = some (r, T0)) : Met l yX8_close (Cond.code yX8_close cX8_close 2 (some .int) :: TB) rm_X8_close (PC D q [.ref o0, .int x1] (fl [g8 q o0 a0 S0]) sz) ((fun A => QI D A r (fl [g8 q o0 a0 T0])) (va_A (fl [g8 q o0 a0 S0]) sz)) 0 0 (va_A (fl [g8 q o0 a0 S0]) sz) := by
  refine k_met (w0 := fl [g8 q o0 a0 S0]) (Q := fun A => QI D A r (fl [g8 q o0 a0 T0])) (by decide +kernel) (Nat.le_of_ble_eq_true rfl) ?_
  intro p e s m args below meth c A ls C hP hD hS hl
  have hl : lv_has ls 2 [(0, .ref o0), (1, .int x1)] := hl
  unfold F_X8_close at hF
  have C : cx p s m args meth c cX8_close 2 (some .int) RX8 D q A := C
  obtain ⟨hx, hb, hr, hml, hown, hts, hlk, hA, hK, hN, hV⟩ := id C
  refine lv_aload_n hx hb dX8_close_0 rfl (lv_at hl 0 rfl) ?_
  refine k_get (v := .int (S0.1 6)) C fg_X8_56 hP 0 rfl rfl dX8_close_1 ?_
  refine lv_iload_n hx hb dX8_close_4 rfl (lv_at hl 1 rfl) ?_
  refine lv_ishr hx hb dX8_close_5 ?_
  refine lv_iconst (v := (1 : Int32)) hx hb dX8_close_6 (by decide) ?_
  refine lv_iand hx hb dX8_close_7 ?_
  refine lv_iconst (v := (1 : Int32)) hx hb dX8_close_8 (by decide) ?_
  refine lv_icmp_ne (tgt := 14) hx hb dX8_close_9 (by decide) (fun c1 => ?_) (fun c1 => ?_)
  · have hF := op_f hF c1
    refine lv_aload_n hx hb dX8_close_14 rfl (lv_at hl 0 rfl) ?_
    refine lv_iload_n hx hb dX8_close_15 rfl (lv_at hl 1 rfl) ?_
    obtain ⟨r3, hc2, hF⟩ := ob1_s hF
    refine k_isame C (k_rV (As := [.int x1]) (rest := []) C (c_X8_whoIsUp l D q o0 a0 S0 _ x1 hc2) kc_X8_whoIsUp ml_X8_151 rfl rfl (by decide) hP hD hS (va_recv hK hP (ci := 8) (q0 := 0) rfl rfl) rfl hl.1 rfl (Nat.le_of_ble_eq_true rfl) dX8_close_16 (by decide)) hP hD hS (fun H locs hP hD hS => ?_)
    refine lv_iconst (v := (-1 : Int32)) hx hb dX8_close_19 (by decide) ?_
    refine lv_icmp_eq (tgt := 25) hx hb dX8_close_20 (by decide) (fun c4 => ?_) (fun c4 => ?_)
    · have hF := op_t hF c4
      refine lv_aload_n hx hb dX8_close_25 rfl (lv_at hl 0 rfl) ?_
      refine lv_dup hx hb dX8_close_26 rfl ?_
      refine k_get (v := .int (S0.1 6)) C fg_X8_56 hP 0 rfl rfl dX8_close_27 ?_
      refine lv_iconst (v := (1 : Int32)) hx hb dX8_close_30 (by decide) ?_
      refine lv_iload_n hx hb dX8_close_31 rfl (lv_at hl 1 rfl) ?_
      refine lv_ishl hx hb dX8_close_32 ?_
      refine lv_ior hx hb dX8_close_33 ?_
      obtain ⟨U5, e6, hF⟩ := nw_s hF
      refine k_put (W8 := fl [g8 q o0 a0 U5]) C fp_X8_56 hP hD hS 0 rfl rfl rfl (Nat.le_of_ble_eq_true rfl) dX8_close_34 (by rw [e6]; rfl) (fun H locs hP hD hS => ?_)
      refine lv_iconst (v := (0 : Int32)) hx hb dX8_close_37 (by decide) ?_
      cases hF
      exact k_iret C hP hS dX8_close_38
    · have hF := op_f hF c4
      refine lv_iconst (v := (2 : Int32)) hx hb dX8_close_23 (by decide) ?_
      cases hF
      exact k_iret C hP hS dX8_close_24
  · have hF := op_t hF c1
    refine lv_iconst (v := (1 : Int32)) hx hb dX8_close_12 (by decide) ?_
    cases hF
    exact k_iret C hP hS dX8_close_13

abbrev rm_X8_open : Room := ({ frames := 0, cells := 0, slots := 0, locals := 0 } : Room)
def F_X8_open (S0 : St) (x1 : Int32) : Option (Int32 × St) := if (((S0.1 6) >>> (x1 &&& 31)) &&& (1 : Int32)) = 0 then (some ((1 : Int32), S0)) else (nw (sI S0 6 ((S0.1 6) &&& (((1 : Int32) <<< (x1 &&& 31)) ^^^ (-1 : Int32)))) fun U2 => some ((0 : Int32), U2))
set_option maxRecDepth 100000 in
set_option maxHeartbeats 4000000 in
theorem c_X8_open (l : Launch) (D : va_G) (q : Nat → ClassId) (o0 : Nat) (a0 : Nat → Nat) (S0 : St) (sz : Nat) (x1 : Int32) {r : Int32} {T0 : St} (hF : F_X8_open S0 x1 = some (r, T0)) : Met l yX8_open (Cond.code yX8_open cX8_open 2 (some .int) :: TB) rm_X8_open (PC D q [.ref o0, .int x1] (fl [g8 q o0 a0 S0]) sz) ((fun A => QI D A r (fl [g8 q o0 a0 T0])) (va_A (fl [g8 q o0 a0 S0]) sz)) 0 0 (va_A (fl [g8 q o0 a0 S0]) sz) := by
  refine k_met (w0 := fl [g8 q o0 a0 S0]) (Q := fun A => QI D A r (fl [g8 q o0 a0 T0])) (by decide +kernel) (Nat.le_of_ble_eq_true rfl) ?_
  intro p e s m args below meth c A ls C hP hD hS hl
  have hl : lv_has ls 2 [(0, .ref o0), (1, .int x1)] := hl
  unfold F_X8_open at hF
  have C : cx p s m args meth c cX8_open 2 (some .int) RX8 D q A := C
  obtain ⟨hx, hb, hr, hml, hown, hts, hlk, hA, hK, hN, hV⟩ := id C
  refine lv_aload_n hx hb dX8_open_0 rfl (lv_at hl 0 rfl) ?_
  refine k_get (v := .int (S0.1 6)) C fg_X8_56 hP 0 rfl rfl dX8_open_1 ?_
  refine lv_iload_n hx hb dX8_open_4 rfl (lv_at hl 1 rfl) ?_
  refine lv_ishr hx hb dX8_open_5 ?_
  refine lv_iconst (v := (1 : Int32)) hx hb dX8_open_6 (by decide) ?_
  refine lv_iand hx hb dX8_open_7 ?_
  refine lv_if_ne (tgt := 13) hx hb dX8_open_8 (by decide) (fun c1 => ?_) (fun c1 => ?_)
  · have hF := op_f hF c1
    refine lv_aload_n hx hb dX8_open_13 rfl (lv_at hl 0 rfl) ?_
    refine lv_dup hx hb dX8_open_14 rfl ?_
    refine k_get (v := .int (S0.1 6)) C fg_X8_56 hP 0 rfl rfl dX8_open_15 ?_
    refine lv_iconst (v := (1 : Int32)) hx hb dX8_open_18 (by decide) ?_
    refine lv_iload_n hx hb dX8_open_19 rfl (lv_at hl 1 rfl) ?_
    refine lv_ishl hx hb dX8_open_20 ?_
    refine lv_iconst (v := (-1 : Int32)) hx hb dX8_open_21 (by decide) ?_
    refine lv_ixor hx hb dX8_open_22 ?_
    refine lv_iand hx hb dX8_open_23 ?_
    obtain ⟨U2, e3, hF⟩ := nw_s hF
    refine k_put (W8 := fl [g8 q o0 a0 U2]) C fp_X8_56 hP hD hS 0 rfl rfl rfl (Nat.le_of_ble_eq_true rfl) dX8_open_24 (by rw [e3]; rfl) (fun H locs hP hD hS => ?_)
    refine lv_iconst (v := (0 : Int32)) hx hb dX8_open_27 (by decide) ?_
    cases hF
    exact k_iret C hP hS dX8_open_28
  · have hF := op_t hF c1
    refine lv_iconst (v := (1 : Int32)) hx hb dX8_open_11 (by decide) ?_
    cases hF
    exact k_iret C hP hS dX8_open_12

abbrev rm_X8_daysLeft : Room := ({ frames := 0, cells := 0, slots := 0, locals := 0 } : Room)
def F_X8_daysLeft (S0 : St) : Option (Int32) := some (((400 : Int32) - (S0.1 14)))
set_option maxRecDepth 100000 in
set_option maxHeartbeats 4000000 in
theorem c_X8_daysLeft (l : Launch) (D : va_G) (q : Nat → ClassId) (o0 : Nat) (a0 : Nat → Nat) (S0 : St) (sz : Nat) {r : Int32} (hF : F_X8_daysLeft S0 = some (r)) : Met l yX8_daysLeft (Cond.code yX8_daysLeft cX8_daysLeft 1 (some .int) :: TB) rm_X8_daysLeft (PC D q [.ref o0] (fl [g8 q o0 a0 S0]) sz) ((fun A => QI D A r (fl [g8 q o0 a0 S0])) (va_A (fl [g8 q o0 a0 S0]) sz)) 0 0 (va_A (fl [g8 q o0 a0 S0]) sz) := by
  refine k_met (w0 := fl [g8 q o0 a0 S0]) (Q := fun A => QI D A r (fl [g8 q o0 a0 S0])) (by decide +kernel) (Nat.le_of_ble_eq_true rfl) ?_
  intro p e s m args below meth c A ls C hP hD hS hl
  have hl : lv_has ls 1 [(0, .ref o0)] := hl
  unfold F_X8_daysLeft at hF
  have C : cx p s m args meth c cX8_daysLeft 1 (some .int) RX8 D q A := C
  obtain ⟨hx, hb, hr, hml, hown, hts, hlk, hA, hK, hN, hV⟩ := id C
  refine lv_sipush (v := (400 : Int32)) hx hb dX8_daysLeft_0 (by decide) ?_
  refine lv_aload_n hx hb dX8_daysLeft_3 rfl (lv_at hl 0 rfl) ?_
  refine k_get (v := .int (S0.1 14)) C fg_X8_62 hP 0 rfl rfl dX8_daysLeft_4 ?_
  refine lv_isub hx hb dX8_daysLeft_7 ?_
  cases hF
  exact k_iret C hP hS dX8_daysLeft_8

abbrev rm_X8_passDay : Room := ({ frames := 1, cells := 0, slots := 0, locals := 20 } : Room)
def F_X8_passDay_39 (k2 : Int32 × St → Option (St)) (x1 : Int32) (S0 : St) : Option (St) := k2 ((x1 + 1), S0)
def F_X8_passDay_2 (k2 : Int32 × St → Option (St)) (x1 : Int32) (S0 : St) : Option (St) := if (S0.1 0) ≤ x1 then (nw (sI S0 14 ((S0.1 14) + (1 : Int32))) fun U2 => some (U2)) else (if (((S0.1 5) >>> (x1 &&& 31)) &&& (1 : Int32)) = (1 : Int32) then (if oob x1 7 then none else ob1 (F_X11_allRound ((S0.2.2.1 3 x1.toNatClampNeg) + (1 : Int32))) fun r7 => if oob x1 7 then none else nw (sA S0 3 x1 r7) fun U9 => F_X8_passDay_39 k2 x1 U9) else (F_X8_passDay_39 k2 x1 S0))
def L_X8_passDay_2 (x1 : Int32) (S0 : St) : Option (St) := lp (fun kz z => F_X8_passDay_2 kz z.1 z.2) FU (x1, S0)
def F_X8_passDay (S0 : St) : Option (St) := L_X8_passDay_2 (0 : Int32) S0
set_option maxRecDepth 100000 in
set_option maxHeartbeats 4000000 in
theorem b_X8_passDay_39 {p : Program} {l : Launch} {e : Env} {s : State} {m : MethodId} {args : Array Value} {below : List Frame} {meth : Method} {c : Code} {D : va_G} {q : Nat → ClassId} {A : Nat → Prop} {o0 : Nat} {a0 : Nat → Nat} {T0 : St} (C : cx p s m args meth c cX8_passDay 2 none RX8 D q A) {k2 : Int32 × St → Option (St)} (hk2 : ∀ (x1 : Int32) (S0 : St), k2 (x1, S0) = some (T0) → ∀ (H : Heap) (locs : List Loc) (ls : Array Slot), va_P D vwCl (fl [g8 q o0 a0 S0]) H → va_D A (fl [g8 q o0 a0 S0]) → va_S A s.heap H locs → lv_has ls 2 [(0, .ref o0), (1, .int x1)] → W p l e rm_X8_passDay s m args below meth c H locs 0 0 (MQ below (QV D A (fl [g8 q o0 a0 T0])) args s 0 0 A) (F0 m 2 ls [])) {x1 : Int32} {S0 : St} (hF : F_X8_passDay_39 k2 x1 S0 = some (T0)) {H : Heap} {locs : List Loc} (hP : va_P D vwCl (fl [g8 q o0 a0 S0]) H) (hD : va_D A (fl [g8 q o0 a0 S0])) (hS : va_S A s.heap H locs) {ls : Array Slot} (hl : lv_has ls 2 [(0, .ref o0), (1, .int x1)]) : W p l e rm_X8_passDay s m args below meth c H locs 0 0 (MQ below (QV D A (fl [g8 q o0 a0 T0])) args s 0 0 A) (F0 m 39 ls []) := by
  unfold F_X8_passDay_39 at hF
  obtain ⟨hx, hb, hr, hml, hown, hts, hlk, hA, hK, hN, hV⟩ := id C
  refine lv_iinc (v := (x1 + 1)) (lv' := [(1, .int (x1 + 1)), (0, .ref o0)]) hx hb dX8_passDay_39 hl (k := 1) rfl rfl (by decide) rfl (fun ls hl => ?_)
  refine lv_goto (tgt := 2) hx hb dX8_passDay_42 (by decide) ?_
  exact hk2 (x1 + 1) S0 hF _ _ _ hP hD hS (lv_sub hl [1, 0] rfl)
set_option maxRecDepth 100000 in
set_option maxHeartbeats 4000000 in
theorem b_X8_passDay_2 {p : Program} {l : Launch} {e : Env} {s : State} {m : MethodId} {args : Array Value} {below : List Frame} {meth : Method} {c : Code} {D : va_G} {q : Nat → ClassId} {A : Nat → Prop} {o0 : Nat} {a0 : Nat → Nat} {T0 : St} (C : cx p s m args meth c cX8_passDay 2 none RX8 D q A) {k2 : Int32 × St → Option (St)} (hk2 : ∀ (x1 : Int32) (S0 : St), k2 (x1, S0) = some (T0) → ∀ (H : Heap) (locs : List Loc) (ls : Array Slot), va_P D vwCl (fl [g8 q o0 a0 S0]) H → va_D A (fl [g8 q o0 a0 S0]) → va_S A s.heap H locs → lv_has ls 2 [(0, .ref o0), (1, .int x1)] → W p l e rm_X8_passDay s m args below meth c H locs 0 0 (MQ below (QV D A (fl [g8 q o0 a0 T0])) args s 0 0 A) (F0 m 2 ls [])) {x1 : Int32} {S0 : St} (hF : F_X8_passDay_2 k2 x1 S0 = some (T0)) {H : Heap} {locs : List Loc} (hP : va_P D vwCl (fl [g8 q o0 a0 S0]) H) (hD : va_D A (fl [g8 q o0 a0 S0])) (hS : va_S A s.heap H locs) {ls : Array Slot} (hl : lv_has ls 2 [(0, .ref o0), (1, .int x1)]) : W p l e rm_X8_passDay s m args below meth c H locs 0 0 (MQ below (QV D A (fl [g8 q o0 a0 T0])) args s 0 0 A) (F0 m 2 ls []) := by
  unfold F_X8_passDay_2 at hF
  obtain ⟨hx, hb, hr, hml, hown, hts, hlk, hA, hK, hN, hV⟩ := id C
  refine lv_iload_n hx hb dX8_passDay_2 rfl (lv_at hl 1 rfl) ?_
  refine lv_aload_n hx hb dX8_passDay_3 rfl (lv_at hl 0 rfl) ?_
  refine k_get (v := .int (S0.1 0)) C fg_X8_43 hP 0 rfl rfl dX8_passDay_4 ?_
  refine lv_icmp_ge (tgt := 45) hx hb dX8_passDay_7 (by decide) (fun c1 => ?_) (fun c1 => ?_)
  · have hF := op_t hF c1
    refine lv_aload_n hx hb dX8_passDay_45 rfl (lv_at hl 0 rfl) ?_
    refine lv_dup hx hb dX8_passDay_46 rfl ?_
    refine k_get (v := .int (S0.1 14)) C fg_X8_62 hP 0 rfl rfl dX8_passDay_47 ?_
    refine lv_iconst (v := (1 : Int32)) hx hb dX8_passDay_50 (by decide) ?_
    refine lv_iadd hx hb dX8_passDay_51 ?_
    obtain ⟨U2, e3, hF⟩ := nw_s hF
    refine k_put (W8 := fl [g8 q o0 a0 U2]) C fp_X8_62 hP hD hS 0 rfl rfl rfl (Nat.le_of_ble_eq_true rfl) dX8_passDay_52 (by rw [e3]; rfl) (fun H locs hP hD hS => ?_)
    cases hF
    exact k_vret C hP hS dX8_passDay_55
  · have hF := op_f hF c1
    refine lv_aload_n hx hb dX8_passDay_10 rfl (lv_at hl 0 rfl) ?_
    refine k_get (v := .int (S0.1 5)) C fg_X8_53 hP 0 rfl rfl dX8_passDay_11 ?_
    refine lv_iload_n hx hb dX8_passDay_14 rfl (lv_at hl 1 rfl) ?_
    refine lv_ishr hx hb dX8_passDay_15 ?_
    refine lv_iconst (v := (1 : Int32)) hx hb dX8_passDay_16 (by decide) ?_
    refine lv_iand hx hb dX8_passDay_17 ?_
    refine lv_iconst (v := (1 : Int32)) hx hb dX8_passDay_18 (by decide) ?_
    refine lv_icmp_ne (tgt := 39) hx hb dX8_passDay_19 (by decide) (fun c4 => ?_) (fun c4 => ?_)
    · have hF := op_f hF c4
      exact b_X8_passDay_39 C hk2 hF hP hD hS (lv_sub hl [0, 1] rfl)
    · have hF := op_t hF c4
      refine lv_aload_n hx hb dX8_passDay_22 rfl (lv_at hl 0 rfl) ?_
      refine k_get (v := .ref (a0 4)) C fg_X8_19 hP 0 rfl rfl dX8_passDay_23 ?_
      refine lv_iload_n hx hb dX8_passDay_26 rfl (lv_at hl 1 rfl) ?_
      refine lv_aload_n hx hb dX8_passDay_27 rfl (lv_at hl 0 rfl) ?_
      refine k_get (v := .ref (a0 4)) C fg_X8_19 hP 0 rfl rfl dX8_passDay_28 ?_
      refine lv_iload_n hx hb dX8_passDay_31 rfl (lv_at hl 1 rfl) ?_
      obtain ⟨h5, hF⟩ := op_ck hF
      refine k_ild (f := S0.2.2.1 3) C hP 3 rfl h5 dX8_passDay_32 ?_
      refine lv_iconst (v := (1 : Int32)) hx hb dX8_passDay_33 (by decide) ?_
      refine lv_iadd hx hb dX8_passDay_34 ?_
      obtain ⟨r7, hc6, hF⟩ := ob1_s hF
      refine k_inil C (k_rN (As := [.int ((S0.2.2.1 3 x1.toNatClampNeg) + (1 : Int32))]) (rest := [.int x1, .ref (a0 4)]) C (c_X11_allRound l D q _ ((S0.2.2.1 3 x1.toNatClampNeg) + (1 : Int32)) hc6) kc_X11_allRound (List.mem_of_getElem? (i := 1) rfl) rfl rfl (by decide) (fun k x h => by simp at h) (⟨fun i j x y h => by simp at h, fun k x h => by simp at h⟩ : va_D A []) hS rfl hl.1 rfl (Nat.le_of_ble_eq_true rfl) dX8_passDay_35 (by decide)) hP hD hS (fun H locs hP hD hS => ?_)
      obtain ⟨h8, hF⟩ := op_ck hF
      obtain ⟨U9, e10, hF⟩ := nw_s hF
      refine k_ist (f := S0.2.2.1 3) (W8 := fl [g8 q o0 a0 U9]) C hP hD hS 3 rfl h8 dX8_passDay_38 (by rw [e10]; rfl) (fun H locs hP hD hS => ?_)
      exact b_X8_passDay_39 C hk2 hF hP hD hS (lv_sub hl [0, 1] rfl)
set_option maxRecDepth 100000 in
set_option maxHeartbeats 4000000 in
theorem l_X8_passDay_2 {p : Program} {l : Launch} {e : Env} {s : State} {m : MethodId} {args : Array Value} {below : List Frame} {meth : Method} {c : Code} {D : va_G} {q : Nat → ClassId} {A : Nat → Prop} {o0 : Nat} {a0 : Nat → Nat} {T0 : St} (C : cx p s m args meth c cX8_passDay 2 none RX8 D q A) {x1 : Int32} {S0 : St} (hF : L_X8_passDay_2 x1 S0 = some (T0)) : ∀ (H : Heap) (locs : List Loc) (ls : Array Slot), va_P D vwCl (fl [g8 q o0 a0 S0]) H → va_D A (fl [g8 q o0 a0 S0]) → va_S A s.heap H locs → lv_has ls 2 [(0, .ref o0), (1, .int x1)] → W p l e rm_X8_passDay s m args below meth c H locs 0 0 (MQ below (QV D A (fl [g8 q o0 a0 T0])) args s 0 0 A) (F0 m 2 ls []) :=
  lp_G _ _ (fun z => ∀ (H : Heap) (locs : List Loc) (ls : Array Slot), va_P D vwCl (fl [g8 q o0 a0 z.2]) H → va_D A (fl [g8 q o0 a0 z.2]) → va_S A s.heap H locs → lv_has ls 2 [(0, .ref o0), (1, .int z.1)] → W p l e rm_X8_passDay s m args below meth c H locs 0 0 (MQ below (QV D A (fl [g8 q o0 a0 T0])) args s 0 0 A) (F0 m 2 ls [])) (fun kz hkz z hz H locs ls hP hD hS hl => b_X8_passDay_2 C (fun x1 S0 hz => hkz (x1, S0) hz) hz hP hD hS hl) FU (x1, S0) hF
set_option maxRecDepth 100000 in
set_option maxHeartbeats 4000000 in
theorem c_X8_passDay (l : Launch) (D : va_G) (q : Nat → ClassId) (o0 : Nat) (a0 : Nat → Nat) (S0 : St) (sz : Nat) {T0 : St} (hF : F_X8_passDay S0 = some (T0)) : Met l yX8_passDay (Cond.code yX8_passDay cX8_passDay 2 none :: TB) rm_X8_passDay (PC D q [.ref o0] (fl [g8 q o0 a0 S0]) sz) ((fun A => QV D A (fl [g8 q o0 a0 T0])) (va_A (fl [g8 q o0 a0 S0]) sz)) 0 0 (va_A (fl [g8 q o0 a0 S0]) sz) := by
  refine k_met (w0 := fl [g8 q o0 a0 S0]) (Q := fun A => QV D A (fl [g8 q o0 a0 T0])) (by decide +kernel) (Nat.le_of_ble_eq_true rfl) ?_
  intro p e s m args below meth c A ls C hP hD hS hl
  have hl : lv_has ls 2 [(0, .ref o0)] := hl
  unfold F_X8_passDay at hF
  have C : cx p s m args meth c cX8_passDay 2 none RX8 D q A := C
  obtain ⟨hx, hb, hr, hml, hown, hts, hlk, hA, hK, hN, hV⟩ := id C
  refine lv_iconst (v := (0 : Int32)) hx hb dX8_passDay_0 (by decide) ?_
  refine lv_istore_n (lv' := [(1, .int (0 : Int32)), (0, .ref o0)]) hx hb dX8_passDay_1 rfl hl (by decide) rfl (fun ls hl => ?_)
  exact l_X8_passDay_2 C hF _ _ _ hP hD hS (lv_sub hl [1, 0] rfl)

abbrev rm_X8_passDays : Room := ({ frames := 2, cells := 0, slots := 0, locals := 41 } : Room)
def F_X8_passDays_11 (k11 : Int32 × Int32 × St → Option (Int32 × St)) (x2 : Int32) (x3 : Int32) (S0 : St) : Option (Int32 × St) := if x2 ≤ x3 then (some (x2, S0)) else (ob1 (F_X8_passDay S0) fun U3 => k11 (x2, (x3 + 1), U3))
def L_X8_passDays_11 (x2 : Int32) (x3 : Int32) (S0 : St) : Option (Int32 × St) := lp (fun kz z => F_X8_passDays_11 kz z.1 z.2.1 z.2.2) FU (x2, x3, S0)
def F_X8_passDays (S0 : St) (x1 : Int32) : Option (Int32 × St) := ob1 (F_X8_daysLeft S0) fun r2 => L_X8_passDays_11 (if r2 < x1 then r2 else x1) (0 : Int32) S0
set_option maxRecDepth 100000 in
set_option maxHeartbeats 4000000 in
theorem b_X8_passDays_11 {p : Program} {l : Launch} {e : Env} {s : State} {m : MethodId} {args : Array Value} {below : List Frame} {meth : Method} {c : Code} {D : va_G} {q : Nat → ClassId} {A : Nat → Prop} {o0 : Nat} {a0 : Nat → Nat} {r : Int32} {T0 : St} (C : cx p s m args meth c cX8_passDays 4 (some .int) RX8 D q A) {k11 : Int32 × Int32 × St → Option (Int32 × St)} (hk11 : ∀ (x2 : Int32) (x3 : Int32) (S0 : St), k11 (x2, x3, S0) = some (r, T0) → ∀ (H : Heap) (locs : List Loc) (ls : Array Slot), va_P D vwCl (fl [g8 q o0 a0 S0]) H → va_D A (fl [g8 q o0 a0 S0]) → va_S A s.heap H locs → lv_has ls 4 [(0, .ref o0), (2, .int x2), (3, .int x3)] → W p l e rm_X8_passDays s m args below meth c H locs 0 0 (MQ below (QI D A r (fl [g8 q o0 a0 T0])) args s 0 0 A) (F0 m 11 ls [])) {x2 : Int32} {x3 : Int32} {S0 : St} (hF : F_X8_passDays_11 k11 x2 x3 S0 = some (r, T0)) {H : Heap} {locs : List Loc} (hP : va_P D vwCl (fl [g8 q o0 a0 S0]) H) (hD : va_D A (fl [g8 q o0 a0 S0])) (hS : va_S A s.heap H locs) {ls : Array Slot} (hl : lv_has ls 4 [(0, .ref o0), (2, .int x2), (3, .int x3)]) : W p l e rm_X8_passDays s m args below meth c H locs 0 0 (MQ below (QI D A r (fl [g8 q o0 a0 T0])) args s 0 0 A) (F0 m 11 ls []) := by
  unfold F_X8_passDays_11 at hF
  obtain ⟨hx, hb, hr, hml, hown, hts, hlk, hA, hK, hN, hV⟩ := id C
  refine lv_iload_n hx hb dX8_passDays_11 rfl (lv_at hl 2 rfl) ?_
  refine lv_iload_n hx hb dX8_passDays_12 rfl (lv_at hl 1 rfl) ?_
  refine lv_icmp_ge (tgt := 26) hx hb dX8_passDays_13 (by decide) (fun c1 => ?_) (fun c1 => ?_)
  · have hF := op_t hF c1
    refine lv_iload_n hx hb dX8_passDays_26 rfl (lv_at hl 1 rfl) ?_
    cases hF
    exact k_iret C hP hS dX8_passDays_27
  · have hF := op_f hF c1
    refine lv_aload_n hx hb dX8_passDays_16 rfl (lv_at hl 0 rfl) ?_
    obtain ⟨U3, hc2, hF⟩ := ob1_s hF
    refine k_vall C (k_rV (As := []) (rest := []) C (c_X8_passDay l D q o0 a0 S0 _ hc2) kc_X8_passDay ml_X8_166 rfl rfl (by decide) hP hD hS (va_recv hK hP (ci := 8) (q0 := 0) rfl rfl) rfl hl.1 rfl (Nat.le_of_ble_eq_true rfl) dX8_passDays_17 (by decide)) hP hD hS (by simp only [List.map_cons, List.map_nil, gad8]) (fun H locs hP hD hS => ?_)
    refine lv_iinc (v := (x3 + 1)) (lv' := [(3, .int (x3 + 1)), (0, .ref o0), (2, .int x2)]) hx hb dX8_passDays_20 hl (k := 2) rfl rfl (by decide) rfl (fun ls hl => ?_)
    refine lv_goto (tgt := 11) hx hb dX8_passDays_23 (by decide) ?_
    exact hk11 x2 (x3 + 1) U3 hF _ _ _ hP hD hS (lv_sub hl [1, 2, 0] rfl)
set_option maxRecDepth 100000 in
set_option maxHeartbeats 4000000 in
theorem l_X8_passDays_11 {p : Program} {l : Launch} {e : Env} {s : State} {m : MethodId} {args : Array Value} {below : List Frame} {meth : Method} {c : Code} {D : va_G} {q : Nat → ClassId} {A : Nat → Prop} {o0 : Nat} {a0 : Nat → Nat} {r : Int32} {T0 : St} (C : cx p s m args meth c cX8_passDays 4 (some .int) RX8 D q A) {x2 : Int32} {x3 : Int32} {S0 : St} (hF : L_X8_passDays_11 x2 x3 S0 = some (r, T0)) : ∀ (H : Heap) (locs : List Loc) (ls : Array Slot), va_P D vwCl (fl [g8 q o0 a0 S0]) H → va_D A (fl [g8 q o0 a0 S0]) → va_S A s.heap H locs → lv_has ls 4 [(0, .ref o0), (2, .int x2), (3, .int x3)] → W p l e rm_X8_passDays s m args below meth c H locs 0 0 (MQ below (QI D A r (fl [g8 q o0 a0 T0])) args s 0 0 A) (F0 m 11 ls []) :=
  lp_G _ _ (fun z => ∀ (H : Heap) (locs : List Loc) (ls : Array Slot), va_P D vwCl (fl [g8 q o0 a0 z.2.2]) H → va_D A (fl [g8 q o0 a0 z.2.2]) → va_S A s.heap H locs → lv_has ls 4 [(0, .ref o0), (2, .int z.1), (3, .int z.2.1)] → W p l e rm_X8_passDays s m args below meth c H locs 0 0 (MQ below (QI D A r (fl [g8 q o0 a0 T0])) args s 0 0 A) (F0 m 11 ls [])) (fun kz hkz z hz H locs ls hP hD hS hl => b_X8_passDays_11 C (fun x2 x3 S0 hz => hkz (x2, x3, S0) hz) hz hP hD hS hl) FU (x2, x3, S0) hF
set_option maxRecDepth 100000 in
set_option maxHeartbeats 4000000 in
theorem c_X8_passDays (l : Launch) (D : va_G) (q : Nat → ClassId) (o0 : Nat) (a0 : Nat → Nat) (S0 : St) (sz : Nat) (x1 : Int32) {r : Int32} {T0 : St} (hF : F_X8_passDays S0 x1 = some (r, T0)) : Met l yX8_passDays (Cond.code yX8_passDays cX8_passDays 4 (some .int) :: TB) rm_X8_passDays (PC D q [.ref o0, .int x1] (fl [g8 q o0 a0 S0]) sz) ((fun A => QI D A r (fl [g8 q o0 a0 T0])) (va_A (fl [g8 q o0 a0 S0]) sz)) 0 0 (va_A (fl [g8 q o0 a0 S0]) sz) := by
  refine k_met (w0 := fl [g8 q o0 a0 S0]) (Q := fun A => QI D A r (fl [g8 q o0 a0 T0])) (by decide +kernel) (Nat.le_of_ble_eq_true rfl) ?_
  intro p e s m args below meth c A ls C hP hD hS hl
  have hl : lv_has ls 4 [(0, .ref o0), (1, .int x1)] := hl
  unfold F_X8_passDays at hF
  have C : cx p s m args meth c cX8_passDays 4 (some .int) RX8 D q A := C
  obtain ⟨hx, hb, hr, hml, hown, hts, hlk, hA, hK, hN, hV⟩ := id C
  refine lv_iload_n hx hb dX8_passDays_0 rfl (lv_at hl 1 rfl) ?_
  refine lv_aload_n hx hb dX8_passDays_1 rfl (lv_at hl 0 rfl) ?_
  obtain ⟨r2, hc1, hF⟩ := ob1_s hF
  refine k_isame C (k_rV (As := []) (rest := [.int x1]) C (c_X8_daysLeft l D q o0 a0 S0 _ hc1) kc_X8_daysLeft ml_X8_157 rfl rfl (by decide) hP hD hS (va_recv hK hP (ci := 8) (q0 := 0) rfl rfl) rfl hl.1 rfl (Nat.le_of_ble_eq_true rfl) dX8_passDays_2 (by decide)) hP hD hS (fun H locs hP hD hS => ?_)
  refine k_min C ml_X8_161 kmath_min hl.1 ⟨Nat.le_of_ble_eq_true rfl, Nat.le_of_ble_eq_true rfl⟩ (by decide) dX8_passDays_5 ?_
  refine lv_istore_n (lv' := [(2, .int (if r2 < x1 then r2 else x1)), (0, .ref o0), (1, .int x1)]) hx hb dX8_passDays_8 rfl hl (by decide) rfl (fun ls hl => ?_)
  refine lv_iconst (v := (0 : Int32)) hx hb dX8_passDays_9 (by decide) ?_
  refine lv_istore_n (lv' := [(3, .int (0 : Int32)), (2, .int (if r2 < x1 then r2 else x1)), (0, .ref o0), (1, .int x1)]) hx hb dX8_passDays_10 rfl hl (by decide) rfl (fun ls hl => ?_)
  exact l_X8_passDays_11 C hF _ _ _ hP hD hS (lv_sub hl [2, 1, 0] rfl)

abbrev rm_X0_liveDays : Room := ({ frames := 3, cells := 0, slots := 0, locals := 64 } : Room)
def F_X0_liveDays (S0 : St) (x1 : Int32) : Option (Int32 × St) := ob1 (F_X8_daysLeft S0) fun r2 => if x1 ≤ r2 then (ob2 (F_X8_passDays S0 x1) fun r5 U6 => some ((0 : Int32), U6)) else (some ((1 : Int32), S0))
set_option maxRecDepth 100000 in
set_option maxHeartbeats 4000000 in
theorem c_X0_liveDays (l : Launch) (D : va_G) (q : Nat → ClassId) (o0 : Nat) (a0 : Nat → Nat) (S0 : St) (sz : Nat) (x1 : Int32) {r : Int32} {T0 : St} (hF : F_X0_liveDays S0 x1 = some (r, T0)) : Met l yX0_liveDays (Cond.code yX0_liveDays cX0_liveDays 2 (some .int) :: TB) rm_X0_liveDays (PC D q [.ref o0, .int x1] (fl [g8 q o0 a0 S0]) sz) ((fun A => QI D A r (fl [g8 q o0 a0 T0])) (va_A (fl [g8 q o0 a0 S0]) sz)) 0 0 (va_A (fl [g8 q o0 a0 S0]) sz) := by
  refine k_met (w0 := fl [g8 q o0 a0 S0]) (Q := fun A => QI D A r (fl [g8 q o0 a0 T0])) (by decide +kernel) (Nat.le_of_ble_eq_true rfl) ?_
  intro p e s m args below meth c A ls C hP hD hS hl
  have hl : lv_has ls 2 [(0, .ref o0), (1, .int x1)] := hl
  unfold F_X0_liveDays at hF
  have C : cx p s m args meth c cX0_liveDays 2 (some .int) RX0 D q A := C
  obtain ⟨hx, hb, hr, hml, hown, hts, hlk, hA, hK, hN, hV⟩ := id C
  refine lv_iload_n hx hb dX0_liveDays_0 rfl (lv_at hl 1 rfl) ?_
  refine lv_aload_n hx hb dX0_liveDays_1 rfl (lv_at hl 0 rfl) ?_
  obtain ⟨r2, hc1, hF⟩ := ob1_s hF
  refine k_isame C (k_rV (As := []) (rest := [.int x1]) C (c_X8_daysLeft l D q o0 a0 S0 _ hc1) kc_X8_daysLeft ml_X0_115 rfl rfl (by decide) hP hD hS (va_recv hK hP (ci := 8) (q0 := 0) rfl rfl) rfl hl.1 rfl (Nat.le_of_ble_eq_true rfl) dX0_liveDays_2 (by decide)) hP hD hS (fun H locs hP hD hS => ?_)
  refine lv_icmp_le (tgt := 10) hx hb dX0_liveDays_5 (by decide) (fun c3 => ?_) (fun c3 => ?_)
  · have hF := op_t hF c3
    refine lv_aload_n hx hb dX0_liveDays_10 rfl (lv_at hl 0 rfl) ?_
    refine lv_iload_n hx hb dX0_liveDays_11 rfl (lv_at hl 1 rfl) ?_
    obtain ⟨r5, U6, hc4, hF⟩ := ob2_s hF
    refine k_iall C (k_rV (As := [.int x1]) (rest := []) C (c_X8_passDays l D q o0 a0 S0 _ x1 hc4) kc_X8_passDays ml_X0_119 rfl rfl (by decide) hP hD hS (va_recv hK hP (ci := 8) (q0 := 0) rfl rfl) rfl hl.1 rfl (Nat.le_of_ble_eq_true rfl) dX0_liveDays_12 (by decide)) hP hD hS (by simp only [List.map_cons, List.map_nil, gad8]) (fun H locs hP hD hS => ?_)
    refine lv_pop hx hb dX0_liveDays_15 rfl ?_
    refine lv_iconst (v := (0 : Int32)) hx hb dX0_liveDays_16 (by decide) ?_
    cases hF
    exact k_iret C hP hS dX0_liveDays_17
  · have hF := op_f hF c3
    refine lv_iconst (v := (1 : Int32)) hx hb dX0_liveDays_8 (by decide) ?_
    cases hF
    exact k_iret C hP hS dX0_liveDays_9

abbrev rm_X0_liveLine : Room := ({ frames := 4, cells := 0, slots := 0, locals := 90 } : Room)
def F_X0_liveLine (S0 : St) (S1 : St) (x2 : Int32) : Option (Int32 × St) := if oob x2 40 then none else if oob x2 40 then none else if (S0.2.2.1 0 x2.toNatClampNeg) = (17 : Int32) then (if oob x2 40 then none else ob2 (F_X8_goUp S1 (S0.2.2.1 1 x2.toNatClampNeg) (S0.2.2.1 2 x2.toNatClampNeg)) fun r6 U7 => ob1 (F_X0_ofSort (0 : Int32) r6) fun r9 => some (r9, U7)) else if (S0.2.2.1 0 x2.toNatClampNeg) = (18 : Int32) then (ob2 (F_X8_comeDown S1 (S0.2.2.1 1 x2.toNatClampNeg)) fun r12 U13 => ob1 (F_X0_ofSort (10 : Int32) r12) fun r15 => some (r15, U13)) else if (S0.2.2.1 0 x2.toNatClampNeg) = (19 : Int32) then (if oob x2 40 then none else if oob x2 40 then none else ob2 (F_X8_passOn S1 (S0.2.2.1 1 x2.toNatClampNeg) (S0.2.2.1 2 x2.toNatClampNeg) (S0.2.2.1 3 x2.toNatClampNeg)) fun r20 U21 => ob1 (F_X0_ofSort (20 : Int32) r20) fun r23 => some (r23, U21)) else if (S0.2.2.1 0 x2.toNatClampNeg) = (20 : Int32) then (ob2 (F_X8_blow S1 (S0.2.2.1 1 x2.toNatClampNeg)) fun r26 U27 => ob1 (F_X0_ofSort (30 : Int32) r26) fun r29 => some (r29, U27)) else if (S0.2.2.1 0 x2.toNatClampNeg) = (21 : Int32) then (ob2 (F_X8_close S1 (S0.2.2.1 1 x2.toNatClampNeg)) fun r32 U33 => ob1 (F_X0_ofSort (40 : Int32) r32) fun r35 => some (r35, U33)) else if (S0.2.2.1 0 x2.toNatClampNeg) = (22 : Int32) then (ob2 (F_X8_open S1 (S0.2.2.1 1 x2.toNatClampNeg)) fun r38 U39 => ob1 (F_X0_ofSort (50 : Int32) r38) fun r41 => some (r41, U39)) else if (S0.2.2.1 0 x2.toNatClampNeg) = (23 : Int32) then (ob2 (F_X0_liveDays S1 (S0.2.2.1 1 x2.toNatClampNeg)) fun r44 U45 => ob1 (F_X0_ofSort (60 : Int32) r44) fun r47 => some (r47, U45)) else some ((0 : Int32), S1)
set_option maxRecDepth 100000 in
set_option maxHeartbeats 4000000 in
theorem c_X0_liveLine (l : Launch) (D : va_G) (q : Nat → ClassId) (o0 : Nat) (a0 : Nat → Nat) (S0 : St) (o1 : Nat) (a1 : Nat → Nat) (S1 : St) (sz : Nat) (x2 : Int32) {r : Int32} {T1 : St} (hF : F_X0_liveLine S0 S1 x2 = some (r, T1)) : Met l yX0_liveLine (Cond.code yX0_liveLine cX0_liveLine 4 (some .int) :: TB) rm_X0_liveLine (PC D q [.ref o0, .ref o1, .int x2] (fl [g0 q o0 a0 S0, g8 q o1 a1 S1]) sz) ((fun A => QI D A r (fl [g0 q o0 a0 S0, g8 q o1 a1 T1])) (va_A (fl [g0 q o0 a0 S0, g8 q o1 a1 S1]) sz)) 0 0 (va_A (fl [g0 q o0 a0 S0, g8 q o1 a1 S1]) sz) := by
  refine k_met (w0 := fl [g0 q o0 a0 S0, g8 q o1 a1 S1]) (Q := fun A => QI D A r (fl [g0 q o0 a0 S0, g8 q o1 a1 T1])) (by decide +kernel) (Nat.le_of_ble_eq_true rfl) ?_
  intro p e s m args below meth c A ls C hP hD hS hl
  have hl : lv_has ls 4 [(0, .ref o0), (1, .ref o1), (2, .int x2)] := hl
  unfold F_X0_liveLine at hF
  have C : cx p s m args meth c cX0_liveLine 4 (some .int) RX0 D q A := C
  obtain ⟨hx, hb, hr, hml, hown, hts, hlk, hA, hK, hN, hV⟩ := id C
  refine lv_aload_n hx hb dX0_liveLine_0 rfl (lv_at hl 0 rfl) ?_
  refine k_get (v := .ref (a0 2)) C fg_X0_15 hP 0 rfl rfl dX0_liveLine_1 ?_
  refine lv_iload_n hx hb dX0_liveLine_4 rfl (lv_at hl 2 rfl) ?_
  obtain ⟨h1, hF⟩ := op_ck hF
  refine k_ild (f := S0.2.2.1 1) C hP 2 rfl h1 dX0_liveLine_5 ?_
  refine lv_istore_n (lv' := [(3, .int (S0.2.2.1 1 x2.toNatClampNeg)), (0, .ref o0), (1, .ref o1), (2, .int x2)]) hx hb dX0_liveLine_6 rfl hl (by decide) rfl (fun ls hl => ?_)
  refine lv_aload_n hx hb dX0_liveLine_7 rfl (lv_at hl 1 rfl) ?_
  refine k_get (v := .ref (a0 1)) C fg_X0_9 hP 0 rfl rfl dX0_liveLine_8 ?_
  refine lv_iload_n hx hb dX0_liveLine_11 rfl (lv_at hl 3 rfl) ?_
  obtain ⟨h2, hF⟩ := op_ck hF
  refine k_ild (f := S0.2.2.1 0) C hP 1 rfl h2 dX0_liveLine_12 ?_
  by_cases c3 : (S0.2.2.1 0 x2.toNatClampNeg) = (17 : Int32)
  · have hF := op_t hF c3
    refine lv_tableIn (tgt := 56) hx hb dX0_liveLine_13 (by rw [c3]; decide) (by rw [c3]; decide) (by rw [c3]; rfl) (by decide) ?_
    refine lv_iconst (v := (0 : Int32)) hx hb dX0_liveLine_56 (by decide) ?_
    refine lv_aload_n hx hb dX0_liveLine_57 rfl (lv_at hl 2 rfl) ?_
    refine lv_iload_n hx hb dX0_liveLine_58 rfl (lv_at hl 0 rfl) ?_
    refine lv_aload_n hx hb dX0_liveLine_59 rfl (lv_at hl 1 rfl) ?_
    refine k_get (v := .ref (a0 3)) C fg_X0_18 hP 0 rfl rfl dX0_liveLine_60 ?_
    refine lv_iload_n hx hb dX0_liveLine_63 rfl (lv_at hl 3 rfl) ?_
    obtain ⟨h4, hF⟩ := op_ck hF
    refine k_ild (f := S0.2.2.1 2) C hP 3 rfl h4 dX0_liveLine_64 ?_
    obtain ⟨r6, U7, hc5, hF⟩ := ob2_s hF
    refine k_igrp (gs8 := [g0 q o0 a0 S0, g8 q o1 a1 U7]) C (k_rV (As := [.int (S0.2.2.1 1 x2.toNatClampNeg), .int (S0.2.2.1 2 x2.toNatClampNeg)]) (rest := [.int (0 : Int32)]) C (c_X8_goUp l D q o1 a1 S1 _ (S0.2.2.1 1 x2.toNatClampNeg) (S0.2.2.1 2 x2.toNatClampNeg) hc5) kc_X8_goUp ml_X0_86 rfl rfl (by decide) (flP hP [1] rfl) (flD hD [1] (by decide) rfl) hS (va_recv hK hP (ci := 8) (q0 := 5) rfl rfl) rfl hl.1 rfl (Nat.le_of_ble_eq_true rfl) dX0_liveLine_65 (by decide)) hP hD hS [1] [0] [g0 q o0 a0 S0] 2 (by decide) rfl rfl rfl rfl rfl rfl (by simp only [List.map_cons, List.map_nil, gad0, gad8]) (fun H locs hP hD hS => ?_)
    obtain ⟨r9, hc8, hF⟩ := ob1_s hF
    refine k_inil C (k_rS (As := [.int (0 : Int32), .int r6]) (rest := []) C (c_X0_ofSort l D q _ (0 : Int32) r6 hc8) kc_X0_ofSort ml_X0_91 rfl rfl (by decide) (fun k x h => by simp at h) (⟨fun i j x y h => by simp at h, fun k x h => by simp at h⟩ : va_D A []) hS rfl hl.1 rfl (Nat.le_of_ble_eq_true rfl) dX0_liveLine_68 (by decide)) hP hD hS (fun H locs hP hD hS => ?_)
    cases hF
    exact k_iret C hP hS dX0_liveLine_71
  have hF := op_f hF c3
  by_cases c10 : (S0.2.2.1 0 x2.toNatClampNeg) = (18 : Int32)
  · have hF := op_t hF c10
    refine lv_tableIn (tgt := 72) hx hb dX0_liveLine_13 (by rw [c10]; decide) (by rw [c10]; decide) (by rw [c10]; rfl) (by decide) ?_
    refine lv_bipush (v := (10 : Int32)) hx hb dX0_liveLine_72 (by decide) ?_
    refine lv_aload_n hx hb dX0_liveLine_74 rfl (lv_at hl 2 rfl) ?_
    refine lv_iload_n hx hb dX0_liveLine_75 rfl (lv_at hl 0 rfl) ?_
    obtain ⟨r12, U13, hc11, hF⟩ := ob2_s hF
    refine k_igrp (gs8 := [g0 q o0 a0 S0, g8 q o1 a1 U13]) C (k_rV (As := [.int (S0.2.2.1 1 x2.toNatClampNeg)]) (rest := [.int (10 : Int32)]) C (c_X8_comeDown l D q o1 a1 S1 _ (S0.2.2.1 1 x2.toNatClampNeg) hc11) kc_X8_comeDown ml_X0_94 rfl rfl (by decide) (flP hP [1] rfl) (flD hD [1] (by decide) rfl) hS (va_recv hK hP (ci := 8) (q0 := 5) rfl rfl) rfl hl.1 rfl (Nat.le_of_ble_eq_true rfl) dX0_liveLine_76 (by decide)) hP hD hS [1] [0] [g0 q o0 a0 S0] 2 (by decide) rfl rfl rfl rfl rfl rfl (by simp only [List.map_cons, List.map_nil, gad0, gad8]) (fun H locs hP hD hS => ?_)
    obtain ⟨r15, hc14, hF⟩ := ob1_s hF
    refine k_inil C (k_rS (As := [.int (10 : Int32), .int r12]) (rest := []) C (c_X0_ofSort l D q _ (10 : Int32) r12 hc14) kc_X0_ofSort ml_X0_91 rfl rfl (by decide) (fun k x h => by simp at h) (⟨fun i j x y h => by simp at h, fun k x h => by simp at h⟩ : va_D A []) hS rfl hl.1 rfl (Nat.le_of_ble_eq_true rfl) dX0_liveLine_79 (by decide)) hP hD hS (fun H locs hP hD hS => ?_)
    cases hF
    exact k_iret C hP hS dX0_liveLine_82
  have hF := op_f hF c10
  by_cases c16 : (S0.2.2.1 0 x2.toNatClampNeg) = (19 : Int32)
  · have hF := op_t hF c16
    refine lv_tableIn (tgt := 83) hx hb dX0_liveLine_13 (by rw [c16]; decide) (by rw [c16]; decide) (by rw [c16]; rfl) (by decide) ?_
    refine lv_bipush (v := (20 : Int32)) hx hb dX0_liveLine_83 (by decide) ?_
    refine lv_aload_n hx hb dX0_liveLine_85 rfl (lv_at hl 2 rfl) ?_
    refine lv_iload_n hx hb dX0_liveLine_86 rfl (lv_at hl 0 rfl) ?_
    refine lv_aload_n hx hb dX0_liveLine_87 rfl (lv_at hl 1 rfl) ?_
    refine k_get (v := .ref (a0 3)) C fg_X0_18 hP 0 rfl rfl dX0_liveLine_88 ?_
    refine lv_iload_n hx hb dX0_liveLine_91 rfl (lv_at hl 3 rfl) ?_
    obtain ⟨h17, hF⟩ := op_ck hF
    refine k_ild (f := S0.2.2.1 2) C hP 3 rfl h17 dX0_liveLine_92 ?_
    refine lv_aload_n hx hb dX0_liveLine_93 rfl (lv_at hl 1 rfl) ?_
    refine k_get (v := .ref (a0 4)) C fg_X0_21 hP 0 rfl rfl dX0_liveLine_94 ?_
    refine lv_iload_n hx hb dX0_liveLine_97 rfl (lv_at hl 3 rfl) ?_
    obtain ⟨h18, hF⟩ := op_ck hF
    refine k_ild (f := S0.2.2.1 3) C hP 4 rfl h18 dX0_liveLine_98 ?_
    obtain ⟨r20, U21, hc19, hF⟩ := ob2_s hF
    refine k_igrp (gs8 := [g0 q o0 a0 S0, g8 q o1 a1 U21]) C (k_rV (As := [.int (S0.2.2.1 1 x2.toNatClampNeg), .int (S0.2.2.1 2 x2.toNatClampNeg), .int (S0.2.2.1 3 x2.toNatClampNeg)]) (rest := [.int (20 : Int32)]) C (c_X8_passOn l D q o1 a1 S1 _ (S0.2.2.1 1 x2.toNatClampNeg) (S0.2.2.1 2 x2.toNatClampNeg) (S0.2.2.1 3 x2.toNatClampNeg) hc19) kc_X8_passOn ml_X0_98 rfl rfl (by decide) (flP hP [1] rfl) (flD hD [1] (by decide) rfl) hS (va_recv hK hP (ci := 8) (q0 := 5) rfl rfl) rfl hl.1 rfl (Nat.le_of_ble_eq_true rfl) dX0_liveLine_99 (by decide)) hP hD hS [1] [0] [g0 q o0 a0 S0] 2 (by decide) rfl rfl rfl rfl rfl rfl (by simp only [List.map_cons, List.map_nil, gad0, gad8]) (fun H locs hP hD hS => ?_)
    obtain ⟨r23, hc22, hF⟩ := ob1_s hF
    refine k_inil C (k_rS (As := [.int (20 : Int32), .int r20]) (rest := []) C (c_X0_ofSort l D q _ (20 : Int32) r20 hc22) kc_X0_ofSort ml_X0_91 rfl rfl (by decide) (fun k x h => by simp at h) (⟨fun i j x y h => by simp at h, fun k x h => by simp at h⟩ : va_D A []) hS rfl hl.1 rfl (Nat.le_of_ble_eq_true rfl) dX0_liveLine_102 (by decide)) hP hD hS (fun H locs hP hD hS => ?_)
    cases hF
    exact k_iret C hP hS dX0_liveLine_105
  have hF := op_f hF c16
  by_cases c24 : (S0.2.2.1 0 x2.toNatClampNeg) = (20 : Int32)
  · have hF := op_t hF c24
    refine lv_tableIn (tgt := 106) hx hb dX0_liveLine_13 (by rw [c24]; decide) (by rw [c24]; decide) (by rw [c24]; rfl) (by decide) ?_
    refine lv_bipush (v := (30 : Int32)) hx hb dX0_liveLine_106 (by decide) ?_
    refine lv_aload_n hx hb dX0_liveLine_108 rfl (lv_at hl 2 rfl) ?_
    refine lv_iload_n hx hb dX0_liveLine_109 rfl (lv_at hl 0 rfl) ?_
    obtain ⟨r26, U27, hc25, hF⟩ := ob2_s hF
    refine k_igrp (gs8 := [g0 q o0 a0 S0, g8 q o1 a1 U27]) C (k_rV (As := [.int (S0.2.2.1 1 x2.toNatClampNeg)]) (rest := [.int (30 : Int32)]) C (c_X8_blow l D q o1 a1 S1 _ (S0.2.2.1 1 x2.toNatClampNeg) hc25) kc_X8_blow ml_X0_102 rfl rfl (by decide) (flP hP [1] rfl) (flD hD [1] (by decide) rfl) hS (va_recv hK hP (ci := 8) (q0 := 5) rfl rfl) rfl hl.1 rfl (Nat.le_of_ble_eq_true rfl) dX0_liveLine_110 (by decide)) hP hD hS [1] [0] [g0 q o0 a0 S0] 2 (by decide) rfl rfl rfl rfl rfl rfl (by simp only [List.map_cons, List.map_nil, gad0, gad8]) (fun H locs hP hD hS => ?_)
    obtain ⟨r29, hc28, hF⟩ := ob1_s hF
    refine k_inil C (k_rS (As := [.int (30 : Int32), .int r26]) (rest := []) C (c_X0_ofSort l D q _ (30 : Int32) r26 hc28) kc_X0_ofSort ml_X0_91 rfl rfl (by decide) (fun k x h => by simp at h) (⟨fun i j x y h => by simp at h, fun k x h => by simp at h⟩ : va_D A []) hS rfl hl.1 rfl (Nat.le_of_ble_eq_true rfl) dX0_liveLine_113 (by decide)) hP hD hS (fun H locs hP hD hS => ?_)
    cases hF
    exact k_iret C hP hS dX0_liveLine_116
  have hF := op_f hF c24
  by_cases c30 : (S0.2.2.1 0 x2.toNatClampNeg) = (21 : Int32)
  · have hF := op_t hF c30
    refine lv_tableIn (tgt := 117) hx hb dX0_liveLine_13 (by rw [c30]; decide) (by rw [c30]; decide) (by rw [c30]; rfl) (by decide) ?_
    refine lv_bipush (v := (40 : Int32)) hx hb dX0_liveLine_117 (by decide) ?_
    refine lv_aload_n hx hb dX0_liveLine_119 rfl (lv_at hl 2 rfl) ?_
    refine lv_iload_n hx hb dX0_liveLine_120 rfl (lv_at hl 0 rfl) ?_
    obtain ⟨r32, U33, hc31, hF⟩ := ob2_s hF
    refine k_igrp (gs8 := [g0 q o0 a0 S0, g8 q o1 a1 U33]) C (k_rV (As := [.int (S0.2.2.1 1 x2.toNatClampNeg)]) (rest := [.int (40 : Int32)]) C (c_X8_close l D q o1 a1 S1 _ (S0.2.2.1 1 x2.toNatClampNeg) hc31) kc_X8_close ml_X0_105 rfl rfl (by decide) (flP hP [1] rfl) (flD hD [1] (by decide) rfl) hS (va_recv hK hP (ci := 8) (q0 := 5) rfl rfl) rfl hl.1 rfl (Nat.le_of_ble_eq_true rfl) dX0_liveLine_121 (by decide)) hP hD hS [1] [0] [g0 q o0 a0 S0] 2 (by decide) rfl rfl rfl rfl rfl rfl (by simp only [List.map_cons, List.map_nil, gad0, gad8]) (fun H locs hP hD hS => ?_)
    obtain ⟨r35, hc34, hF⟩ := ob1_s hF
    refine k_inil C (k_rS (As := [.int (40 : Int32), .int r32]) (rest := []) C (c_X0_ofSort l D q _ (40 : Int32) r32 hc34) kc_X0_ofSort ml_X0_91 rfl rfl (by decide) (fun k x h => by simp at h) (⟨fun i j x y h => by simp at h, fun k x h => by simp at h⟩ : va_D A []) hS rfl hl.1 rfl (Nat.le_of_ble_eq_true rfl) dX0_liveLine_124 (by decide)) hP hD hS (fun H locs hP hD hS => ?_)
    cases hF
    exact k_iret C hP hS dX0_liveLine_127
  have hF := op_f hF c30
  by_cases c36 : (S0.2.2.1 0 x2.toNatClampNeg) = (22 : Int32)
  · have hF := op_t hF c36
    refine lv_tableIn (tgt := 128) hx hb dX0_liveLine_13 (by rw [c36]; decide) (by rw [c36]; decide) (by rw [c36]; rfl) (by decide) ?_
    refine lv_bipush (v := (50 : Int32)) hx hb dX0_liveLine_128 (by decide) ?_
    refine lv_aload_n hx hb dX0_liveLine_130 rfl (lv_at hl 2 rfl) ?_
    refine lv_iload_n hx hb dX0_liveLine_131 rfl (lv_at hl 0 rfl) ?_
    obtain ⟨r38, U39, hc37, hF⟩ := ob2_s hF
    refine k_igrp (gs8 := [g0 q o0 a0 S0, g8 q o1 a1 U39]) C (k_rV (As := [.int (S0.2.2.1 1 x2.toNatClampNeg)]) (rest := [.int (50 : Int32)]) C (c_X8_open l D q o1 a1 S1 _ (S0.2.2.1 1 x2.toNatClampNeg) hc37) kc_X8_open ml_X0_108 rfl rfl (by decide) (flP hP [1] rfl) (flD hD [1] (by decide) rfl) hS (va_recv hK hP (ci := 8) (q0 := 5) rfl rfl) rfl hl.1 rfl (Nat.le_of_ble_eq_true rfl) dX0_liveLine_132 (by decide)) hP hD hS [1] [0] [g0 q o0 a0 S0] 2 (by decide) rfl rfl rfl rfl rfl rfl (by simp only [List.map_cons, List.map_nil, gad0, gad8]) (fun H locs hP hD hS => ?_)
    obtain ⟨r41, hc40, hF⟩ := ob1_s hF
    refine k_inil C (k_rS (As := [.int (50 : Int32), .int r38]) (rest := []) C (c_X0_ofSort l D q _ (50 : Int32) r38 hc40) kc_X0_ofSort ml_X0_91 rfl rfl (by decide) (fun k x h => by simp at h) (⟨fun i j x y h => by simp at h, fun k x h => by simp at h⟩ : va_D A []) hS rfl hl.1 rfl (Nat.le_of_ble_eq_true rfl) dX0_liveLine_135 (by decide)) hP hD hS (fun H locs hP hD hS => ?_)
    cases hF
    exact k_iret C hP hS dX0_liveLine_138
  have hF := op_f hF c36
  by_cases c42 : (S0.2.2.1 0 x2.toNatClampNeg) = (23 : Int32)
  · have hF := op_t hF c42
    refine lv_tableIn (tgt := 139) hx hb dX0_liveLine_13 (by rw [c42]; decide) (by rw [c42]; decide) (by rw [c42]; rfl) (by decide) ?_
    refine lv_bipush (v := (60 : Int32)) hx hb dX0_liveLine_139 (by decide) ?_
    refine lv_aload_n hx hb dX0_liveLine_141 rfl (lv_at hl 2 rfl) ?_
    refine lv_iload_n hx hb dX0_liveLine_142 rfl (lv_at hl 0 rfl) ?_
    obtain ⟨r44, U45, hc43, hF⟩ := ob2_s hF
    refine k_igrp (gs8 := [g0 q o0 a0 S0, g8 q o1 a1 U45]) C (k_rS (As := [.ref o1, .int (S0.2.2.1 1 x2.toNatClampNeg)]) (rest := [.int (60 : Int32)]) C (c_X0_liveDays l D q o1 a1 S1 _ (S0.2.2.1 1 x2.toNatClampNeg) hc43) kc_X0_liveDays ml_X0_111 rfl rfl (by decide) (flP hP [1] rfl) (flD hD [1] (by decide) rfl) hS rfl hl.1 rfl (Nat.le_of_ble_eq_true rfl) dX0_liveLine_143 (by decide)) hP hD hS [1] [0] [g0 q o0 a0 S0] 2 (by decide) rfl rfl rfl rfl rfl rfl (by simp only [List.map_cons, List.map_nil, gad0, gad8]) (fun H locs hP hD hS => ?_)
    obtain ⟨r47, hc46, hF⟩ := ob1_s hF
    refine k_inil C (k_rS (As := [.int (60 : Int32), .int r44]) (rest := []) C (c_X0_ofSort l D q _ (60 : Int32) r44 hc46) kc_X0_ofSort ml_X0_91 rfl rfl (by decide) (fun k x h => by simp at h) (⟨fun i j x y h => by simp at h, fun k x h => by simp at h⟩ : va_D A []) hS rfl hl.1 rfl (Nat.le_of_ble_eq_true rfl) dX0_liveLine_146 (by decide)) hP hD hS (fun H locs hP hD hS => ?_)
    cases hF
    exact k_iret C hP hS dX0_liveLine_149
  have hF := op_f hF c42
  have nc3 := lv_neT (a := 17) c3 (by decide)
  have nc10 := lv_neT (a := 18) c10 (by decide)
  have nc16 := lv_neT (a := 19) c16 (by decide)
  have nc24 := lv_neT (a := 20) c24 (by decide)
  have nc30 := lv_neT (a := 21) c30 (by decide)
  have nc36 := lv_neT (a := 22) c36 (by decide)
  have nc42 := lv_neT (a := 23) c42 (by decide)
  refine lv_tableOut (tgt := 150) hx hb dX0_liveLine_13 (by omega) (by decide) ?_
  refine lv_iconst (v := (0 : Int32)) hx hb dX0_liveLine_150 (by decide) ?_
  cases hF
  exact k_iret C hP hS dX0_liveLine_151

abbrev rm_X1_draw : Room := ({ frames := 0, cells := 0, slots := 0, locals := 0 } : Room)
def F_X1_draw (S0 : St) (x1 : Int32) : Option (Int32 × St) := nw (sI S0 0 (((S0.1 0) * (1103515245 : Int32)) + (12345 : Int32))) fun U1 => if x1 ≤ 0 then (some ((0 : Int32), U1)) else (if x1 = 0 then none else some ((((U1.1 0).toUInt32 >>> ((8 : Int32).toUInt32 &&& Int32.toUInt32 31)).toInt32 - ((U1.1 0).toUInt32 >>> ((8 : Int32).toUInt32 &&& Int32.toUInt32 31)).toInt32 / x1 * x1), U1))
set_option maxRecDepth 100000 in
set_option maxHeartbeats 4000000 in
theorem c_X1_draw (l : Launch) (D : va_G) (q : Nat → ClassId) (o0 : Nat) (a0 : Nat → Nat) (S0 : St) (sz : Nat) (x1 : Int32) {r : Int32} {T0 : St} (hF : F_X1_draw S0 x1 = some (r, T0)) : Met l yX1_draw (Cond.code yX1_draw cX1_draw 2 (some .int) :: TB) rm_X1_draw (PC D q [.ref o0, .int x1] (fl [g1 q o0 a0 S0]) sz) ((fun A => QI D A r (fl [g1 q o0 a0 T0])) (va_A (fl [g1 q o0 a0 S0]) sz)) 0 0 (va_A (fl [g1 q o0 a0 S0]) sz) := by
  refine k_met (w0 := fl [g1 q o0 a0 S0]) (Q := fun A => QI D A r (fl [g1 q o0 a0 T0])) (by decide +kernel) (Nat.le_of_ble_eq_true rfl) ?_
  intro p e s m args below meth c A ls C hP hD hS hl
  have hl : lv_has ls 2 [(0, .ref o0), (1, .int x1)] := hl
  unfold F_X1_draw at hF
  have C : cx p s m args meth c cX1_draw 2 (some .int) RX1 D q A := C
  obtain ⟨hx, hb, hr, hml, hown, hts, hlk, hA, hK, hN, hV⟩ := id C
  refine lv_aload_n hx hb dX1_draw_0 rfl (lv_at hl 0 rfl) ?_
  refine lv_aload_n hx hb dX1_draw_1 rfl (lv_at hl 0 rfl) ?_
  refine k_get (v := .int (S0.1 0)) C fg_X1_9 hP 0 rfl rfl dX1_draw_2 ?_
  refine lv_ldc (v := (1103515245 : Int32)) hx hb hown (hts _ kn_X1_31) dX1_draw_5 ?_
  refine lv_imul hx hb dX1_draw_7 ?_
  refine lv_sipush (v := (12345 : Int32)) hx hb dX1_draw_8 (by decide) ?_
  refine lv_iadd hx hb dX1_draw_11 ?_
  obtain ⟨U1, e2, hF⟩ := nw_s hF
  refine k_put (W8 := fl [g1 q o0 a0 U1]) C fp_X1_9 hP hD hS 0 rfl rfl rfl (Nat.le_of_ble_eq_true rfl) dX1_draw_12 (by rw [e2]; rfl) (fun H locs hP hD hS => ?_)
  refine lv_iload_n hx hb dX1_draw_15 rfl (lv_at hl 1 rfl) ?_
  refine lv_if_le (tgt := 31) hx hb dX1_draw_16 (by decide) (fun c3 => ?_) (fun c3 => ?_)
  · have hF := op_t hF c3
    refine lv_iconst (v := (0 : Int32)) hx hb dX1_draw_31 (by decide) ?_
    cases hF
    exact k_iret C hP hS dX1_draw_32
  · have hF := op_f hF c3
    refine lv_aload_n hx hb dX1_draw_19 rfl (lv_at hl 0 rfl) ?_
    refine k_get (v := .int (U1.1 0)) C fg_X1_9 hP 0 rfl rfl dX1_draw_20 ?_
    refine lv_bipush (v := (8 : Int32)) hx hb dX1_draw_23 (by decide) ?_
    refine lv_iushr (v := ((U1.1 0).toUInt32 >>> ((8 : Int32).toUInt32 &&& Int32.toUInt32 31)).toInt32) hx hb dX1_draw_25 rfl ?_
    refine lv_iload_n hx hb dX1_draw_26 rfl (lv_at hl 1 rfl) ?_
    obtain ⟨h4, hF⟩ := op_ck hF
    refine lv_irem hx hb dX1_draw_27 h4 ?_
    refine lv_goto (tgt := 32) hx hb dX1_draw_28 (by decide) ?_
    cases hF
    exact k_iret C hP hS dX1_draw_32

abbrev rm_X1_drawAct : Room := ({ frames := 4, cells := 0, slots := 0, locals := 90 } : Room)
def F_X1_drawAct (S0 : St) (S1 : St) (x2 : Int32) : Option (St × St) := ob2 (F_X1_draw S0 (4 : Int32)) fun r2 U3 => if r2 = (2 : Int32) then (ob2 (F_X8_comeDown S1 x2) fun r23 U24 => some (U3, U24)) else (if r2 = (3 : Int32) then (ob2 (F_X1_draw U3 (S1.1 7)) fun r14 U15 => ob2 (F_X1_draw U15 (8 : Int32)) fun r17 U18 => ob2 (F_X8_passOn S1 x2 r14 r17) fun r20 U21 => some (U18, U21)) else (if (S1.1 0) ≤ 0 then (some (U3, S1)) else (ob2 (F_X1_draw U3 (S1.1 0)) fun r8 U9 => ob2 (F_X8_goUp S1 x2 r8) fun r11 U12 => some (U9, U12))))
set_option maxRecDepth 100000 in
set_option maxHeartbeats 4000000 in
theorem c_X1_drawAct (l : Launch) (D : va_G) (q : Nat → ClassId) (o0 : Nat) (a0 : Nat → Nat) (S0 : St) (o1 : Nat) (a1 : Nat → Nat) (S1 : St) (sz : Nat) (x2 : Int32) {T0 : St} {T1 : St} (hF : F_X1_drawAct S0 S1 x2 = some (T0, T1)) : Met l yX1_drawAct (Cond.code yX1_drawAct cX1_drawAct 5 none :: TB) rm_X1_drawAct (PC D q [.ref o0, .ref o1, .int x2] (fl [g1 q o0 a0 S0, g8 q o1 a1 S1]) sz) ((fun A => QV D A (fl [g1 q o0 a0 T0, g8 q o1 a1 T1])) (va_A (fl [g1 q o0 a0 S0, g8 q o1 a1 S1]) sz)) 0 0 (va_A (fl [g1 q o0 a0 S0, g8 q o1 a1 S1]) sz) := by
  refine k_met (w0 := fl [g1 q o0 a0 S0, g8 q o1 a1 S1]) (Q := fun A => QV D A (fl [g1 q o0 a0 T0, g8 q o1 a1 T1])) (by decide +kernel) (Nat.le_of_ble_eq_true rfl) ?_
  intro p e s m args below meth c A ls C hP hD hS hl
  have hl : lv_has ls 5 [(0, .ref o0), (1, .ref o1), (2, .int x2)] := hl
  unfold F_X1_drawAct at hF
  have C : cx p s m args meth c cX1_drawAct 5 none RX1 D q A := C
  obtain ⟨hx, hb, hr, hml, hown, hts, hlk, hA, hK, hN, hV⟩ := id C
  refine lv_aload_n hx hb dX1_drawAct_0 rfl (lv_at hl 0 rfl) ?_
  refine lv_iconst (v := (4 : Int32)) hx hb dX1_drawAct_1 (by decide) ?_
  obtain ⟨r2, U3, hc1, hF⟩ := ob2_s hF
  refine k_igrp (gs8 := [g1 q o0 a0 U3, g8 q o1 a1 S1]) C (k_rV (As := [.int (4 : Int32)]) (rest := []) C (c_X1_draw l D q o0 a0 S0 _ (4 : Int32) hc1) kc_X1_draw ml_X1_32 rfl rfl (by decide) (flP hP [0] rfl) (flD hD [0] (by decide) rfl) hS (va_recv hK hP (ci := 1) (q0 := 0) rfl rfl) rfl hl.1 rfl (Nat.le_of_ble_eq_true rfl) dX1_drawAct_2 (by decide)) hP hD hS [0] [1] [g8 q o1 a1 S1] 2 (by decide) rfl rfl rfl rfl rfl rfl (by simp only [List.map_cons, List.map_nil, gad1, gad8]) (fun H locs hP hD hS => ?_)
  refine lv_istore_n (lv' := [(3, .int r2), (0, .ref o0), (1, .ref o1), (2, .int x2)]) hx hb dX1_drawAct_5 rfl hl (by decide) rfl (fun ls hl => ?_)
  refine lv_iload_n hx hb dX1_drawAct_6 rfl (lv_at hl 0 rfl) ?_
  refine lv_iconst (v := (2 : Int32)) hx hb dX1_drawAct_7 (by decide) ?_
  refine lv_icmp_ne (tgt := 20) hx hb dX1_drawAct_8 (by decide) (fun c4 => ?_) (fun c4 => ?_)
  · have hF := op_f hF c4
    refine lv_iload_n hx hb dX1_drawAct_20 rfl (lv_at hl 0 rfl) ?_
    refine lv_iconst (v := (3 : Int32)) hx hb dX1_drawAct_21 (by decide) ?_
    refine lv_icmp_ne (tgt := 52) hx hb dX1_drawAct_22 (by decide) (fun c5 => ?_) (fun c5 => ?_)
    · have hF := op_f hF c5
      refine lv_aload_n hx hb dX1_drawAct_52 rfl (lv_at hl 2 rfl) ?_
      refine k_get (v := .int (S1.1 0)) C fg_X1_56 hP 1 rfl rfl dX1_drawAct_53 ?_
      refine lv_if_le (tgt := 73) hx hb dX1_drawAct_56 (by decide) (fun c6 => ?_) (fun c6 => ?_)
      · have hF := op_t hF c6
        cases hF
        exact k_vret C hP hS dX1_drawAct_73
      · have hF := op_f hF c6
        refine lv_aload_n hx hb dX1_drawAct_59 rfl (lv_at hl 2 rfl) ?_
        refine lv_iload_n hx hb dX1_drawAct_60 rfl (lv_at hl 3 rfl) ?_
        refine lv_aload_n hx hb dX1_drawAct_61 rfl (lv_at hl 1 rfl) ?_
        refine lv_aload_n hx hb dX1_drawAct_62 rfl (lv_at hl 2 rfl) ?_
        refine k_get (v := .int (S1.1 0)) C fg_X1_56 hP 1 rfl rfl dX1_drawAct_63 ?_
        obtain ⟨r8, U9, hc7, hF⟩ := ob2_s hF
        refine k_igrp (gs8 := [g1 q o0 a0 U9, g8 q o1 a1 S1]) C (k_rV (As := [.int (S1.1 0)]) (rest := [.int x2, .ref o1]) C (c_X1_draw l D q o0 a0 U3 _ (S1.1 0) hc7) kc_X1_draw ml_X1_32 rfl rfl (by decide) (flP hP [0] rfl) (flD hD [0] (by decide) rfl) hS (va_recv hK hP (ci := 1) (q0 := 0) rfl rfl) rfl hl.1 rfl (Nat.le_of_ble_eq_true rfl) dX1_drawAct_66 (by decide)) hP hD hS [0] [1] [g8 q o1 a1 S1] 2 (by decide) rfl rfl rfl rfl rfl rfl (by simp only [List.map_cons, List.map_nil, gad1, gad8]) (fun H locs hP hD hS => ?_)
        obtain ⟨r11, U12, hc10, hF⟩ := ob2_s hF
        refine k_igrp (gs8 := [g1 q o0 a0 U9, g8 q o1 a1 U12]) C (k_rV (As := [.int x2, .int r8]) (rest := []) C (c_X8_goUp l D q o1 a1 S1 _ x2 r8 hc10) kc_X8_goUp ml_X1_59 rfl rfl (by decide) (flP hP [1] rfl) (flD hD [1] (by decide) rfl) hS (va_recv hK hP (ci := 8) (q0 := 1) rfl rfl) rfl hl.1 rfl (Nat.le_of_ble_eq_true rfl) dX1_drawAct_69 (by decide)) hP hD hS [1] [0] [g1 q o0 a0 U9] 2 (by decide) rfl rfl rfl rfl rfl rfl (by simp only [List.map_cons, List.map_nil, gad1, gad8]) (fun H locs hP hD hS => ?_)
        refine lv_pop hx hb dX1_drawAct_72 rfl ?_
        cases hF
        exact k_vret C hP hS dX1_drawAct_73
    · have hF := op_t hF c5
      refine lv_aload_n hx hb dX1_drawAct_25 rfl (lv_at hl 1 rfl) ?_
      refine lv_aload_n hx hb dX1_drawAct_26 rfl (lv_at hl 2 rfl) ?_
      refine k_get (v := .int (S1.1 7)) C fg_X1_39 hP 1 rfl rfl dX1_drawAct_27 ?_
      obtain ⟨r14, U15, hc13, hF⟩ := ob2_s hF
      refine k_igrp (gs8 := [g1 q o0 a0 U15, g8 q o1 a1 S1]) C (k_rV (As := [.int (S1.1 7)]) (rest := []) C (c_X1_draw l D q o0 a0 U3 _ (S1.1 7) hc13) kc_X1_draw ml_X1_32 rfl rfl (by decide) (flP hP [0] rfl) (flD hD [0] (by decide) rfl) hS (va_recv hK hP (ci := 1) (q0 := 0) rfl rfl) rfl hl.1 rfl (Nat.le_of_ble_eq_true rfl) dX1_drawAct_30 (by decide)) hP hD hS [0] [1] [g8 q o1 a1 S1] 2 (by decide) rfl rfl rfl rfl rfl rfl (by simp only [List.map_cons, List.map_nil, gad1, gad8]) (fun H locs hP hD hS => ?_)
      refine lv_istore (lv' := [(4, .int r14), (3, .int r2), (0, .ref o0), (1, .ref o1), (2, .int x2)]) hx hb dX1_drawAct_33 hl (by decide) rfl (fun ls hl => ?_)
      refine lv_aload_n hx hb dX1_drawAct_35 rfl (lv_at hl 3 rfl) ?_
      refine lv_iload_n hx hb dX1_drawAct_36 rfl (lv_at hl 4 rfl) ?_
      refine lv_iload hx hb dX1_drawAct_37 (lv_at hl 0 rfl) ?_
      refine lv_aload_n hx hb dX1_drawAct_39 rfl (lv_at hl 2 rfl) ?_
      refine lv_bipush (v := (8 : Int32)) hx hb dX1_drawAct_40 (by decide) ?_
      obtain ⟨r17, U18, hc16, hF⟩ := ob2_s hF
      refine k_igrp (gs8 := [g1 q o0 a0 U18, g8 q o1 a1 S1]) C (k_rV (As := [.int (8 : Int32)]) (rest := [.int r14, .int x2, .ref o1]) C (c_X1_draw l D q o0 a0 U15 _ (8 : Int32) hc16) kc_X1_draw ml_X1_32 rfl rfl (by decide) (flP hP [0] rfl) (flD hD [0] (by decide) rfl) hS (va_recv hK hP (ci := 1) (q0 := 0) rfl rfl) rfl hl.1 rfl (Nat.le_of_ble_eq_true rfl) dX1_drawAct_42 (by decide)) hP hD hS [0] [1] [g8 q o1 a1 S1] 2 (by decide) rfl rfl rfl rfl rfl rfl (by simp only [List.map_cons, List.map_nil, gad1, gad8]) (fun H locs hP hD hS => ?_)
      obtain ⟨r20, U21, hc19, hF⟩ := ob2_s hF
      refine k_igrp (gs8 := [g1 q o0 a0 U18, g8 q o1 a1 U21]) C (k_rV (As := [.int x2, .int r14, .int r17]) (rest := []) C (c_X8_passOn l D q o1 a1 S1 _ x2 r14 r17 hc19) kc_X8_passOn ml_X1_52 rfl rfl (by decide) (flP hP [1] rfl) (flD hD [1] (by decide) rfl) hS (va_recv hK hP (ci := 8) (q0 := 1) rfl rfl) rfl hl.1 rfl (Nat.le_of_ble_eq_true rfl) dX1_drawAct_45 (by decide)) hP hD hS [1] [0] [g1 q o0 a0 U18] 2 (by decide) rfl rfl rfl rfl rfl rfl (by simp only [List.map_cons, List.map_nil, gad1, gad8]) (fun H locs hP hD hS => ?_)
      refine lv_pop hx hb dX1_drawAct_48 rfl ?_
      refine lv_goto (tgt := 73) hx hb dX1_drawAct_49 (by decide) ?_
      cases hF
      exact k_vret C hP hS dX1_drawAct_73
  · have hF := op_t hF c4
    refine lv_aload_n hx hb dX1_drawAct_11 rfl (lv_at hl 2 rfl) ?_
    refine lv_iload_n hx hb dX1_drawAct_12 rfl (lv_at hl 3 rfl) ?_
    obtain ⟨r23, U24, hc22, hF⟩ := ob2_s hF
    refine k_igrp (gs8 := [g1 q o0 a0 U3, g8 q o1 a1 U24]) C (k_rV (As := [.int x2]) (rest := []) C (c_X8_comeDown l D q o1 a1 S1 _ x2 hc22) kc_X8_comeDown ml_X1_49 rfl rfl (by decide) (flP hP [1] rfl) (flD hD [1] (by decide) rfl) hS (va_recv hK hP (ci := 8) (q0 := 1) rfl rfl) rfl hl.1 rfl (Nat.le_of_ble_eq_true rfl) dX1_drawAct_13 (by decide)) hP hD hS [1] [0] [g1 q o0 a0 U3] 2 (by decide) rfl rfl rfl rfl rfl rfl (by simp only [List.map_cons, List.map_nil, gad1, gad8]) (fun H locs hP hD hS => ?_)
    refine lv_pop hx hb dX1_drawAct_16 rfl ?_
    refine lv_goto (tgt := 73) hx hb dX1_drawAct_17 (by decide) ?_
    cases hF
    exact k_vret C hP hS dX1_drawAct_73

abbrev rm_X1_drawOneDay : Room := ({ frames := 5, cells := 0, slots := 0, locals := 114 } : Room)
def F_X1_drawOneDay_24 (k24 : Int32 × St × St → Option (St × St)) (x2 : Int32) (S0 : St) (S1 : St) : Option (St × St) := if (S1.1 7) ≤ x2 then (ob1 (F_X8_passDay S1) fun U3 => some (S0, U3)) else (ob2 (F_X1_drawAct S0 S1 x2) fun U5 U6 => k24 ((x2 + 1), U5, U6))
def L_X1_drawOneDay_24 (x2 : Int32) (S0 : St) (S1 : St) : Option (St × St) := lp (fun kz z => F_X1_drawOneDay_24 kz z.1 z.2.1 z.2.2) FU (x2, S0, S1)
def F_X1_drawOneDay_22 (S0 : St) (S1 : St) : Option (St × St) := L_X1_drawOneDay_24 (0 : Int32) S0 S1
def F_X1_drawOneDay (S0 : St) (S1 : St) : Option (St × St) := ob2 (F_X1_draw S0 (12 : Int32)) fun r2 U3 => if r2 = 0 then (ob2 (F_X1_draw U3 (60 : Int32)) fun r6 U7 => ob2 (F_X8_blow S1 (r6 + (1 : Int32))) fun r9 U10 => F_X1_drawOneDay_22 U7 U10) else (F_X1_drawOneDay_22 U3 S1)
set_option maxRecDepth 100000 in
set_option maxHeartbeats 4000000 in
theorem b_X1_drawOneDay_24 {p : Program} {l : Launch} {e : Env} {s : State} {m : MethodId} {args : Array Value} {below : List Frame} {meth : Method} {c : Code} {D : va_G} {q : Nat → ClassId} {A : Nat → Prop} {o0 : Nat} {a0 : Nat → Nat} {o1 : Nat} {a1 : Nat → Nat} {T0 : St} {T1 : St} (C : cx p s m args meth c cX1_drawOneDay 3 none RX1 D q A) {k24 : Int32 × St × St → Option (St × St)} (hk24 : ∀ (x2 : Int32) (S0 : St) (S1 : St), k24 (x2, S0, S1) = some (T0, T1) → ∀ (H : Heap) (locs : List Loc) (ls : Array Slot), va_P D vwCl (fl [g1 q o0 a0 S0, g8 q o1 a1 S1]) H → va_D A (fl [g1 q o0 a0 S0, g8 q o1 a1 S1]) → va_S A s.heap H locs → lv_has ls 3 [(0, .ref o0), (1, .ref o1), (2, .int x2)] → W p l e rm_X1_drawOneDay s m args below meth c H locs 0 0 (MQ below (QV D A (fl [g1 q o0 a0 T0, g8 q o1 a1 T1])) args s 0 0 A) (F0 m 24 ls [])) {x2 : Int32} {S0 : St} {S1 : St} (hF : F_X1_drawOneDay_24 k24 x2 S0 S1 = some (T0, T1)) {H : Heap} {locs : List Loc} (hP : va_P D vwCl (fl [g1 q o0 a0 S0, g8 q o1 a1 S1]) H) (hD : va_D A (fl [g1 q o0 a0 S0, g8 q o1 a1 S1])) (hS : va_S A s.heap H locs) {ls : Array Slot} (hl : lv_has ls 3 [(0, .ref o0), (1, .ref o1), (2, .int x2)]) : W p l e rm_X1_drawOneDay s m args below meth c H locs 0 0 (MQ below (QV D A (fl [g1 q o0 a0 T0, g8 q o1 a1 T1])) args s 0 0 A) (F0 m 24 ls []) := by
  unfold F_X1_drawOneDay_24 at hF
  obtain ⟨hx, hb, hr, hml, hown, hts, hlk, hA, hK, hN, hV⟩ := id C
  refine lv_iload_n hx hb dX1_drawOneDay_24 rfl (lv_at hl 2 rfl) ?_
  refine lv_aload_n hx hb dX1_drawOneDay_25 rfl (lv_at hl 1 rfl) ?_
  refine k_get (v := .int (S1.1 7)) C fg_X1_39 hP 1 rfl rfl dX1_drawOneDay_26 ?_
  refine lv_icmp_ge (tgt := 44) hx hb dX1_drawOneDay_29 (by decide) (fun c1 => ?_) (fun c1 => ?_)
  · have hF := op_t hF c1
    refine lv_aload_n hx hb dX1_drawOneDay_44 rfl (lv_at hl 1 rfl) ?_
    obtain ⟨U3, hc2, hF⟩ := ob1_s hF
    refine k_vgrp (gs8 := [g1 q o0 a0 S0, g8 q o1 a1 U3]) C (k_rV (As := []) (rest := []) C (c_X8_passDay l D q o1 a1 S1 _ hc2) kc_X8_passDay ml_X1_46 rfl rfl (by decide) (flP hP [1] rfl) (flD hD [1] (by decide) rfl) hS (va_recv hK hP (ci := 8) (q0 := 1) rfl rfl) rfl hl.1 rfl (Nat.le_of_ble_eq_true rfl) dX1_drawOneDay_45 (by decide)) hP hD hS [1] [0] [g1 q o0 a0 S0] 2 (by decide) rfl rfl rfl rfl rfl rfl (by simp only [List.map_cons, List.map_nil, gad1, gad8]) (fun H locs hP hD hS => ?_)
    cases hF
    exact k_vret C hP hS dX1_drawOneDay_48
  · have hF := op_f hF c1
    refine lv_aload_n hx hb dX1_drawOneDay_32 rfl (lv_at hl 0 rfl) ?_
    refine lv_aload_n hx hb dX1_drawOneDay_33 rfl (lv_at hl 1 rfl) ?_
    refine lv_iload_n hx hb dX1_drawOneDay_34 rfl (lv_at hl 2 rfl) ?_
    obtain ⟨U5, U6, hc4, hF⟩ := ob2_s hF
    refine k_vall C (k_rV (As := [.ref o1, .int x2]) (rest := []) C (c_X1_drawAct l D q o0 a0 S0 o1 a1 S1 _ x2 hc4) kc_X1_drawAct ml_X1_42 rfl rfl (by decide) hP hD hS (va_recv hK hP (ci := 1) (q0 := 0) rfl rfl) rfl hl.1 rfl (Nat.le_of_ble_eq_true rfl) dX1_drawOneDay_35 (by decide)) hP hD hS (by simp only [List.map_cons, List.map_nil, gad1, gad8]) (fun H locs hP hD hS => ?_)
    refine lv_iinc (v := (x2 + 1)) (lv' := [(2, .int (x2 + 1)), (0, .ref o0), (1, .ref o1)]) hx hb dX1_drawOneDay_38 hl (k := 2) rfl rfl (by decide) rfl (fun ls hl => ?_)
    refine lv_goto (tgt := 24) hx hb dX1_drawOneDay_41 (by decide) ?_
    exact hk24 (x2 + 1) U5 U6 hF _ _ _ hP hD hS (lv_sub hl [1, 2, 0] rfl)
set_option maxRecDepth 100000 in
set_option maxHeartbeats 4000000 in
theorem l_X1_drawOneDay_24 {p : Program} {l : Launch} {e : Env} {s : State} {m : MethodId} {args : Array Value} {below : List Frame} {meth : Method} {c : Code} {D : va_G} {q : Nat → ClassId} {A : Nat → Prop} {o0 : Nat} {a0 : Nat → Nat} {o1 : Nat} {a1 : Nat → Nat} {T0 : St} {T1 : St} (C : cx p s m args meth c cX1_drawOneDay 3 none RX1 D q A) {x2 : Int32} {S0 : St} {S1 : St} (hF : L_X1_drawOneDay_24 x2 S0 S1 = some (T0, T1)) : ∀ (H : Heap) (locs : List Loc) (ls : Array Slot), va_P D vwCl (fl [g1 q o0 a0 S0, g8 q o1 a1 S1]) H → va_D A (fl [g1 q o0 a0 S0, g8 q o1 a1 S1]) → va_S A s.heap H locs → lv_has ls 3 [(0, .ref o0), (1, .ref o1), (2, .int x2)] → W p l e rm_X1_drawOneDay s m args below meth c H locs 0 0 (MQ below (QV D A (fl [g1 q o0 a0 T0, g8 q o1 a1 T1])) args s 0 0 A) (F0 m 24 ls []) :=
  lp_G _ _ (fun z => ∀ (H : Heap) (locs : List Loc) (ls : Array Slot), va_P D vwCl (fl [g1 q o0 a0 z.2.1, g8 q o1 a1 z.2.2]) H → va_D A (fl [g1 q o0 a0 z.2.1, g8 q o1 a1 z.2.2]) → va_S A s.heap H locs → lv_has ls 3 [(0, .ref o0), (1, .ref o1), (2, .int z.1)] → W p l e rm_X1_drawOneDay s m args below meth c H locs 0 0 (MQ below (QV D A (fl [g1 q o0 a0 T0, g8 q o1 a1 T1])) args s 0 0 A) (F0 m 24 ls [])) (fun kz hkz z hz H locs ls hP hD hS hl => b_X1_drawOneDay_24 C (fun x2 S0 S1 hz => hkz (x2, S0, S1) hz) hz hP hD hS hl) FU (x2, S0, S1) hF
set_option maxRecDepth 100000 in
set_option maxHeartbeats 4000000 in
theorem b_X1_drawOneDay_22 {p : Program} {l : Launch} {e : Env} {s : State} {m : MethodId} {args : Array Value} {below : List Frame} {meth : Method} {c : Code} {D : va_G} {q : Nat → ClassId} {A : Nat → Prop} {o0 : Nat} {a0 : Nat → Nat} {o1 : Nat} {a1 : Nat → Nat} {T0 : St} {T1 : St} (C : cx p s m args meth c cX1_drawOneDay 3 none RX1 D q A) {S0 : St} {S1 : St} (hF : F_X1_drawOneDay_22 S0 S1 = some (T0, T1)) {H : Heap} {locs : List Loc} (hP : va_P D vwCl (fl [g1 q o0 a0 S0, g8 q o1 a1 S1]) H) (hD : va_D A (fl [g1 q o0 a0 S0, g8 q o1 a1 S1])) (hS : va_S A s.heap H locs) {ls : Array Slot} (hl : lv_has ls 3 [(0, .ref o0), (1, .ref o1)]) : W p l e rm_X1_drawOneDay s m args below meth c H locs 0 0 (MQ below (QV D A (fl [g1 q o0 a0 T0, g8 q o1 a1 T1])) args s 0 0 A) (F0 m 22 ls []) := by
  unfold F_X1_drawOneDay_22 at hF
  obtain ⟨hx, hb, hr, hml, hown, hts, hlk, hA, hK, hN, hV⟩ := id C
  refine lv_iconst (v := (0 : Int32)) hx hb dX1_drawOneDay_22 (by decide) ?_
  refine lv_istore_n (lv' := [(2, .int (0 : Int32)), (0, .ref o0), (1, .ref o1)]) hx hb dX1_drawOneDay_23 rfl hl (by decide) rfl (fun ls hl => ?_)
  exact l_X1_drawOneDay_24 C hF _ _ _ hP hD hS (lv_sub hl [1, 2, 0] rfl)
set_option maxRecDepth 100000 in
set_option maxHeartbeats 4000000 in
theorem c_X1_drawOneDay (l : Launch) (D : va_G) (q : Nat → ClassId) (o0 : Nat) (a0 : Nat → Nat) (S0 : St) (o1 : Nat) (a1 : Nat → Nat) (S1 : St) (sz : Nat) {T0 : St} {T1 : St} (hF : F_X1_drawOneDay S0 S1 = some (T0, T1)) : Met l yX1_drawOneDay (Cond.code yX1_drawOneDay cX1_drawOneDay 3 none :: TB) rm_X1_drawOneDay (PC D q [.ref o0, .ref o1] (fl [g1 q o0 a0 S0, g8 q o1 a1 S1]) sz) ((fun A => QV D A (fl [g1 q o0 a0 T0, g8 q o1 a1 T1])) (va_A (fl [g1 q o0 a0 S0, g8 q o1 a1 S1]) sz)) 0 0 (va_A (fl [g1 q o0 a0 S0, g8 q o1 a1 S1]) sz) := by
  refine k_met (w0 := fl [g1 q o0 a0 S0, g8 q o1 a1 S1]) (Q := fun A => QV D A (fl [g1 q o0 a0 T0, g8 q o1 a1 T1])) (by decide +kernel) (Nat.le_of_ble_eq_true rfl) ?_
  intro p e s m args below meth c A ls C hP hD hS hl
  have hl : lv_has ls 3 [(0, .ref o0), (1, .ref o1)] := hl
  unfold F_X1_drawOneDay at hF
  have C : cx p s m args meth c cX1_drawOneDay 3 none RX1 D q A := C
  obtain ⟨hx, hb, hr, hml, hown, hts, hlk, hA, hK, hN, hV⟩ := id C
  refine lv_aload_n hx hb dX1_drawOneDay_0 rfl (lv_at hl 0 rfl) ?_
  refine lv_bipush (v := (12 : Int32)) hx hb dX1_drawOneDay_1 (by decide) ?_
  obtain ⟨r2, U3, hc1, hF⟩ := ob2_s hF
  refine k_igrp (gs8 := [g1 q o0 a0 U3, g8 q o1 a1 S1]) C (k_rV (As := [.int (12 : Int32)]) (rest := []) C (c_X1_draw l D q o0 a0 S0 _ (12 : Int32) hc1) kc_X1_draw ml_X1_32 rfl rfl (by decide) (flP hP [0] rfl) (flD hD [0] (by decide) rfl) hS (va_recv hK hP (ci := 1) (q0 := 0) rfl rfl) rfl hl.1 rfl (Nat.le_of_ble_eq_true rfl) dX1_drawOneDay_3 (by decide)) hP hD hS [0] [1] [g8 q o1 a1 S1] 2 (by decide) rfl rfl rfl rfl rfl rfl (by simp only [List.map_cons, List.map_nil, gad1, gad8]) (fun H locs hP hD hS => ?_)
  refine lv_if_ne (tgt := 22) hx hb dX1_drawOneDay_6 (by decide) (fun c4 => ?_) (fun c4 => ?_)
  · have hF := op_f hF c4
    exact b_X1_drawOneDay_22 C hF hP hD hS (lv_sub hl [0, 1] rfl)
  · have hF := op_t hF c4
    refine lv_aload_n hx hb dX1_drawOneDay_9 rfl (lv_at hl 1 rfl) ?_
    refine lv_aload_n hx hb dX1_drawOneDay_10 rfl (lv_at hl 0 rfl) ?_
    refine lv_bipush (v := (60 : Int32)) hx hb dX1_drawOneDay_11 (by decide) ?_
    obtain ⟨r6, U7, hc5, hF⟩ := ob2_s hF
    refine k_igrp (gs8 := [g1 q o0 a0 U7, g8 q o1 a1 S1]) C (k_rV (As := [.int (60 : Int32)]) (rest := [.ref o1]) C (c_X1_draw l D q o0 a0 U3 _ (60 : Int32) hc5) kc_X1_draw ml_X1_32 rfl rfl (by decide) (flP hP [0] rfl) (flD hD [0] (by decide) rfl) hS (va_recv hK hP (ci := 1) (q0 := 0) rfl rfl) rfl hl.1 rfl (Nat.le_of_ble_eq_true rfl) dX1_drawOneDay_13 (by decide)) hP hD hS [0] [1] [g8 q o1 a1 S1] 2 (by decide) rfl rfl rfl rfl rfl rfl (by simp only [List.map_cons, List.map_nil, gad1, gad8]) (fun H locs hP hD hS => ?_)
    refine lv_iconst (v := (1 : Int32)) hx hb dX1_drawOneDay_16 (by decide) ?_
    refine lv_iadd hx hb dX1_drawOneDay_17 ?_
    obtain ⟨r9, U10, hc8, hF⟩ := ob2_s hF
    refine k_igrp (gs8 := [g1 q o0 a0 U7, g8 q o1 a1 U10]) C (k_rV (As := [.int (r6 + (1 : Int32))]) (rest := []) C (c_X8_blow l D q o1 a1 S1 _ (r6 + (1 : Int32)) hc8) kc_X8_blow ml_X1_36 rfl rfl (by decide) (flP hP [1] rfl) (flD hD [1] (by decide) rfl) hS (va_recv hK hP (ci := 8) (q0 := 1) rfl rfl) rfl hl.1 rfl (Nat.le_of_ble_eq_true rfl) dX1_drawOneDay_18 (by decide)) hP hD hS [1] [0] [g1 q o0 a0 U7] 2 (by decide) rfl rfl rfl rfl rfl rfl (by simp only [List.map_cons, List.map_nil, gad1, gad8]) (fun H locs hP hD hS => ?_)
    refine lv_pop hx hb dX1_drawOneDay_21 rfl ?_
    exact b_X1_drawOneDay_22 C hF hP hD hS (lv_sub hl [0, 1] rfl)

abbrev rm_X1_drawDays : Room := ({ frames := 6, cells := 0, slots := 0, locals := 136 } : Room)
def F_X1_drawDays_18 (k18 : Int32 × Int32 × St × St → Option (Int32 × St × St)) (x4 : Int32) (x5 : Int32) (S0 : St) (S1 : St) : Option (Int32 × St × St) := if x4 ≤ x5 then (some (x4, S0, S1)) else (ob2 (F_X1_drawOneDay S0 S1) fun U3 U4 => k18 (x4, (x5 + 1), U3, U4))
def L_X1_drawDays_18 (x4 : Int32) (x5 : Int32) (S0 : St) (S1 : St) : Option (Int32 × St × St) := lp (fun kz z => F_X1_drawDays_18 kz z.1 z.2.1 z.2.2.1 z.2.2.2) FU (x4, x5, S0, S1)
def F_X1_drawDays (S0 : St) (S1 : St) (x2 : Int32) (x3 : Int32) : Option (Int32 × St × St) := nw (sI S0 0 x3) fun U1 => ob1 (F_X8_daysLeft S1) fun r4 => L_X1_drawDays_18 (if r4 < x2 then r4 else x2) (0 : Int32) U1 S1
set_option maxRecDepth 100000 in
set_option maxHeartbeats 4000000 in
theorem b_X1_drawDays_18 {p : Program} {l : Launch} {e : Env} {s : State} {m : MethodId} {args : Array Value} {below : List Frame} {meth : Method} {c : Code} {D : va_G} {q : Nat → ClassId} {A : Nat → Prop} {o0 : Nat} {a0 : Nat → Nat} {o1 : Nat} {a1 : Nat → Nat} {r : Int32} {T0 : St} {T1 : St} (C : cx p s m args meth c cX1_drawDays 6 (some .int) RX1 D q A) {k18 : Int32 × Int32 × St × St → Option (Int32 × St × St)} (hk18 : ∀ (x4 : Int32) (x5 : Int32) (S0 : St) (S1 : St), k18 (x4, x5, S0, S1) = some (r, T0, T1) → ∀ (H : Heap) (locs : List Loc) (ls : Array Slot), va_P D vwCl (fl [g1 q o0 a0 S0, g8 q o1 a1 S1]) H → va_D A (fl [g1 q o0 a0 S0, g8 q o1 a1 S1]) → va_S A s.heap H locs → lv_has ls 6 [(0, .ref o0), (1, .ref o1), (4, .int x4), (5, .int x5)] → W p l e rm_X1_drawDays s m args below meth c H locs 0 0 (MQ below (QI D A r (fl [g1 q o0 a0 T0, g8 q o1 a1 T1])) args s 0 0 A) (F0 m 18 ls [])) {x4 : Int32} {x5 : Int32} {S0 : St} {S1 : St} (hF : F_X1_drawDays_18 k18 x4 x5 S0 S1 = some (r, T0, T1)) {H : Heap} {locs : List Loc} (hP : va_P D vwCl (fl [g1 q o0 a0 S0, g8 q o1 a1 S1]) H) (hD : va_D A (fl [g1 q o0 a0 S0, g8 q o1 a1 S1])) (hS : va_S A s.heap H locs) {ls : Array Slot} (hl : lv_has ls 6 [(0, .ref o0), (1, .ref o1), (4, .int x4), (5, .int x5)]) : W p l e rm_X1_drawDays s m args below meth c H locs 0 0 (MQ below (QI D A r (fl [g1 q o0 a0 T0, g8 q o1 a1 T1])) args s 0 0 A) (F0 m 18 ls []) := by
  unfold F_X1_drawDays_18 at hF
  obtain ⟨hx, hb, hr, hml, hown, hts, hlk, hA, hK, hN, hV⟩ := id C
  refine lv_iload hx hb dX1_drawDays_18 (lv_at hl 3 rfl) ?_
  refine lv_iload hx hb dX1_drawDays_20 (lv_at hl 2 rfl) ?_
  refine lv_icmp_ge (tgt := 36) hx hb dX1_drawDays_22 (by decide) (fun c1 => ?_) (fun c1 => ?_)
  · have hF := op_t hF c1
    refine lv_iload hx hb dX1_drawDays_36 (lv_at hl 2 rfl) ?_
    cases hF
    exact k_iret C hP hS dX1_drawDays_38
  · have hF := op_f hF c1
    refine lv_aload_n hx hb dX1_drawDays_25 rfl (lv_at hl 0 rfl) ?_
    refine lv_aload_n hx hb dX1_drawDays_26 rfl (lv_at hl 1 rfl) ?_
    obtain ⟨U3, U4, hc2, hF⟩ := ob2_s hF
    refine k_vall C (k_rV (As := [.ref o1]) (rest := []) C (c_X1_drawOneDay l D q o0 a0 S0 o1 a1 S1 _ hc2) kc_X1_drawOneDay ml_X1_27 rfl rfl (by decide) hP hD hS (va_recv hK hP (ci := 1) (q0 := 0) rfl rfl) rfl hl.1 rfl (Nat.le_of_ble_eq_true rfl) dX1_drawDays_27 (by decide)) hP hD hS (by simp only [List.map_cons, List.map_nil, gad1, gad8]) (fun H locs hP hD hS => ?_)
    refine lv_iinc (v := (x5 + 1)) (lv' := [(5, .int (x5 + 1)), (0, .ref o0), (1, .ref o1), (4, .int x4)]) hx hb dX1_drawDays_30 hl (k := 3) rfl rfl (by decide) rfl (fun ls hl => ?_)
    refine lv_goto (tgt := 18) hx hb dX1_drawDays_33 (by decide) ?_
    exact hk18 x4 (x5 + 1) U3 U4 hF _ _ _ hP hD hS (lv_sub hl [1, 2, 3, 0] rfl)
set_option maxRecDepth 100000 in
set_option maxHeartbeats 4000000 in
theorem l_X1_drawDays_18 {p : Program} {l : Launch} {e : Env} {s : State} {m : MethodId} {args : Array Value} {below : List Frame} {meth : Method} {c : Code} {D : va_G} {q : Nat → ClassId} {A : Nat → Prop} {o0 : Nat} {a0 : Nat → Nat} {o1 : Nat} {a1 : Nat → Nat} {r : Int32} {T0 : St} {T1 : St} (C : cx p s m args meth c cX1_drawDays 6 (some .int) RX1 D q A) {x4 : Int32} {x5 : Int32} {S0 : St} {S1 : St} (hF : L_X1_drawDays_18 x4 x5 S0 S1 = some (r, T0, T1)) : ∀ (H : Heap) (locs : List Loc) (ls : Array Slot), va_P D vwCl (fl [g1 q o0 a0 S0, g8 q o1 a1 S1]) H → va_D A (fl [g1 q o0 a0 S0, g8 q o1 a1 S1]) → va_S A s.heap H locs → lv_has ls 6 [(0, .ref o0), (1, .ref o1), (4, .int x4), (5, .int x5)] → W p l e rm_X1_drawDays s m args below meth c H locs 0 0 (MQ below (QI D A r (fl [g1 q o0 a0 T0, g8 q o1 a1 T1])) args s 0 0 A) (F0 m 18 ls []) :=
  lp_G _ _ (fun z => ∀ (H : Heap) (locs : List Loc) (ls : Array Slot), va_P D vwCl (fl [g1 q o0 a0 z.2.2.1, g8 q o1 a1 z.2.2.2]) H → va_D A (fl [g1 q o0 a0 z.2.2.1, g8 q o1 a1 z.2.2.2]) → va_S A s.heap H locs → lv_has ls 6 [(0, .ref o0), (1, .ref o1), (4, .int z.1), (5, .int z.2.1)] → W p l e rm_X1_drawDays s m args below meth c H locs 0 0 (MQ below (QI D A r (fl [g1 q o0 a0 T0, g8 q o1 a1 T1])) args s 0 0 A) (F0 m 18 ls [])) (fun kz hkz z hz H locs ls hP hD hS hl => b_X1_drawDays_18 C (fun x4 x5 S0 S1 hz => hkz (x4, x5, S0, S1) hz) hz hP hD hS hl) FU (x4, x5, S0, S1) hF
set_option maxRecDepth 100000 in
set_option maxHeartbeats 4000000 in
theorem c_X1_drawDays (l : Launch) (D : va_G) (q : Nat → ClassId) (o0 : Nat) (a0 : Nat → Nat) (S0 : St) (o1 : Nat) (a1 : Nat → Nat) (S1 : St) (sz : Nat) (x2 : Int32) (x3 : Int32) {r : Int32} {T0 : St} {T1 : St} (hF : F_X1_drawDays S0 S1 x2 x3 = some (r, T0, T1)) : Met l yX1_drawDays (Cond.code yX1_drawDays cX1_drawDays 6 (some .int) :: TB) rm_X1_drawDays (PC D q [.ref o0, .ref o1, .int x2, .int x3] (fl [g1 q o0 a0 S0, g8 q o1 a1 S1]) sz) ((fun A => QI D A r (fl [g1 q o0 a0 T0, g8 q o1 a1 T1])) (va_A (fl [g1 q o0 a0 S0, g8 q o1 a1 S1]) sz)) 0 0 (va_A (fl [g1 q o0 a0 S0, g8 q o1 a1 S1]) sz) := by
  refine k_met (w0 := fl [g1 q o0 a0 S0, g8 q o1 a1 S1]) (Q := fun A => QI D A r (fl [g1 q o0 a0 T0, g8 q o1 a1 T1])) (by decide +kernel) (Nat.le_of_ble_eq_true rfl) ?_
  intro p e s m args below meth c A ls C hP hD hS hl
  have hl : lv_has ls 6 [(0, .ref o0), (1, .ref o1), (2, .int x2), (3, .int x3)] := hl
  unfold F_X1_drawDays at hF
  have C : cx p s m args meth c cX1_drawDays 6 (some .int) RX1 D q A := C
  obtain ⟨hx, hb, hr, hml, hown, hts, hlk, hA, hK, hN, hV⟩ := id C
  refine lv_aload_n hx hb dX1_drawDays_0 rfl (lv_at hl 0 rfl) ?_
  refine lv_iload_n hx hb dX1_drawDays_1 rfl (lv_at hl 3 rfl) ?_
  obtain ⟨U1, e2, hF⟩ := nw_s hF
  refine k_put (W8 := fl [g1 q o0 a0 U1, g8 q o1 a1 S1]) C fp_X1_9 hP hD hS 0 rfl rfl rfl (Nat.le_of_ble_eq_true rfl) dX1_drawDays_2 (by rw [e2]; rfl) (fun H locs hP hD hS => ?_)
  refine lv_iload_n hx hb dX1_drawDays_5 rfl (lv_at hl 2 rfl) ?_
  refine lv_aload_n hx hb dX1_drawDays_6 rfl (lv_at hl 1 rfl) ?_
  obtain ⟨r4, hc3, hF⟩ := ob1_s hF
  refine k_iro C (k_rV (As := []) (rest := [.int x2]) C (c_X8_daysLeft l D q o1 a1 S1 _ hc3) kc_X8_daysLeft ml_X1_15 rfl rfl (by decide) (flP hP [1] rfl) (flD hD [1] (by decide) rfl) hS (va_recv hK hP (ci := 8) (q0 := 1) rfl rfl) rfl hl.1 rfl (Nat.le_of_ble_eq_true rfl) dX1_drawDays_7 (by decide)) hP hD hS [1] [0] [g1 q o0 a0 U1] 2 (by decide) rfl rfl rfl rfl (fun H locs hP hD hS => ?_)
  refine k_min C ml_X1_21 kmath_min hl.1 ⟨Nat.le_of_ble_eq_true rfl, Nat.le_of_ble_eq_true rfl⟩ (by decide) dX1_drawDays_10 ?_
  refine lv_istore (lv' := [(4, .int (if r4 < x2 then r4 else x2)), (0, .ref o0), (1, .ref o1), (2, .int x2), (3, .int x3)]) hx hb dX1_drawDays_13 hl (by decide) rfl (fun ls hl => ?_)
  refine lv_iconst (v := (0 : Int32)) hx hb dX1_drawDays_15 (by decide) ?_
  refine lv_istore (lv' := [(5, .int (0 : Int32)), (4, .int (if r4 < x2 then r4 else x2)), (0, .ref o0), (1, .ref o1), (2, .int x2), (3, .int x3)]) hx hb dX1_drawDays_16 hl (by decide) rfl (fun ls hl => ?_)
  exact l_X1_drawDays_18 C hF _ _ _ hP hD hS (lv_sub hl [2, 3, 1, 0] rfl)

abbrev rm_X8_copyFrom : Room := ({ frames := 1, cells := 0, slots := 0, locals := 80 } : Room)
def F_X8_copyFrom (S0 : St) (S1 : St) : Option (St) := nw (sI S0 0 (S1.1 0)) fun U1 => nw (sG U1 1 (S1.2.2.2 1)) fun U3 => nw (sF U3 2 (S1.2.2.1 2)) fun U5 => nw (sF U5 3 (S1.2.2.1 3)) fun U7 => nw (sF U7 4 (S1.2.2.1 4)) fun U9 => nw (sI U9 5 (S1.1 5)) fun U11 => nw (sI U11 6 (S1.1 6)) fun U13 => nw (sI U13 7 (S1.1 7)) fun U15 => nw (sG U15 8 (S1.2.2.2 8)) fun U17 => nw (sF U17 9 (S1.2.2.1 9)) fun U19 => nw (sF U19 10 (S1.2.2.1 10)) fun U21 => nw (sF U21 11 (S1.2.2.1 11)) fun U23 => nw (sF U23 12 (S1.2.2.1 12)) fun U25 => nw (sF U25 13 (S1.2.2.1 13)) fun U27 => nw (sI U27 14 (S1.1 14)) fun U29 => some (U29)
set_option maxRecDepth 100000 in
set_option maxHeartbeats 4000000 in
theorem c_X8_copyFrom (l : Launch) (D : va_G) (q : Nat → ClassId) (o0 : Nat) (a0 : Nat → Nat) (S0 : St) (o1 : Nat) (a1 : Nat → Nat) (S1 : St) (sz : Nat) {T0 : St} (hF : F_X8_copyFrom S0 S1 = some (T0)) : Met l yX8_copyFrom (Cond.code yX8_copyFrom cX8_copyFrom 2 none :: TB) rm_X8_copyFrom (PC D q [.ref o0, .ref o1] (fl [g8 q o0 a0 S0, g8 q o1 a1 S1]) sz) ((fun A => QV D A (fl [g8 q o0 a0 T0, g8 q o1 a1 S1])) (va_A (fl [g8 q o0 a0 S0, g8 q o1 a1 S1]) sz)) 0 0 (va_A (fl [g8 q o0 a0 S0, g8 q o1 a1 S1]) sz) := by
  refine k_met (w0 := fl [g8 q o0 a0 S0, g8 q o1 a1 S1]) (Q := fun A => QV D A (fl [g8 q o0 a0 T0, g8 q o1 a1 S1])) (by decide +kernel) (Nat.le_of_ble_eq_true rfl) ?_
  intro p e s m args below meth c A ls C hP hD hS hl
  have hl : lv_has ls 2 [(0, .ref o0), (1, .ref o1)] := hl
  unfold F_X8_copyFrom at hF
  have C : cx p s m args meth c cX8_copyFrom 2 none RX8 D q A := C
  obtain ⟨hx, hb, hr, hml, hown, hts, hlk, hA, hK, hN, hV⟩ := id C
  refine lv_aload_n hx hb dX8_copyFrom_0 rfl (lv_at hl 0 rfl) ?_
  refine lv_aload_n hx hb dX8_copyFrom_1 rfl (lv_at hl 1 rfl) ?_
  refine k_get (v := .int (S1.1 0)) C fg_X8_43 hP 11 rfl rfl dX8_copyFrom_2 ?_
  obtain ⟨U1, e2, hF⟩ := nw_s hF
  refine k_put (W8 := fl [g8 q o0 a0 U1, g8 q o1 a1 S1]) C fp_X8_43 hP hD hS 0 rfl rfl rfl (Nat.le_of_ble_eq_true rfl) dX8_copyFrom_5 (by rw [e2]; rfl) (fun H locs hP hD hS => ?_)
  refine lv_aload_n hx hb dX8_copyFrom_8 rfl (lv_at hl 1 rfl) ?_
  refine k_get (v := .ref (a1 2)) C fg_X8_9 hP 11 rfl rfl dX8_copyFrom_9 ?_
  refine lv_iconst (v := (0 : Int32)) hx hb dX8_copyFrom_12 (by decide) ?_
  refine lv_aload_n hx hb dX8_copyFrom_13 rfl (lv_at hl 0 rfl) ?_
  refine k_get (v := .ref (a0 2)) C fg_X8_9 hP 0 rfl rfl dX8_copyFrom_14 ?_
  refine lv_iconst (v := (0 : Int32)) hx hb dX8_copyFrom_17 (by decide) ?_
  refine lv_bipush (v := (7 : Int32)) hx hb dX8_copyFrom_18 (by decide) ?_
  obtain ⟨U3, e4, hF⟩ := nw_s hF
  refine k_cpl (f := S1.2.2.2 1) (g := U1.2.2.2 1) (W8 := fl [g8 q o0 a0 U3, g8 q o1 a1 S1]) C ml_X8_47 hl.1 hP hD hS 12 1 rfl rfl ⟨by decide, by decide⟩ (Nat.le_of_ble_eq_true rfl) ⟨by decide, by decide⟩ dX8_copyFrom_20 (by rw [e4]; rfl) (fun H locs hP hD hS => ?_)
  refine lv_aload_n hx hb dX8_copyFrom_23 rfl (lv_at hl 1 rfl) ?_
  refine k_get (v := .ref (a1 3)) C fg_X8_15 hP 11 rfl rfl dX8_copyFrom_24 ?_
  refine lv_iconst (v := (0 : Int32)) hx hb dX8_copyFrom_27 (by decide) ?_
  refine lv_aload_n hx hb dX8_copyFrom_28 rfl (lv_at hl 0 rfl) ?_
  refine k_get (v := .ref (a0 3)) C fg_X8_15 hP 0 rfl rfl dX8_copyFrom_29 ?_
  refine lv_iconst (v := (0 : Int32)) hx hb dX8_copyFrom_32 (by decide) ?_
  refine lv_bipush (v := (7 : Int32)) hx hb dX8_copyFrom_33 (by decide) ?_
  obtain ⟨U5, e6, hF⟩ := nw_s hF
  refine k_cpi (f := S1.2.2.1 2) (g := U3.2.2.1 2) (W8 := fl [g8 q o0 a0 U5, g8 q o1 a1 S1]) C ml_X8_47 hl.1 hP hD hS 13 2 rfl rfl ⟨by decide, by decide⟩ (Nat.le_of_ble_eq_true rfl) ⟨by decide, by decide⟩ dX8_copyFrom_35 (by rw [e6]; rfl) (fun H locs hP hD hS => ?_)
  refine lv_aload_n hx hb dX8_copyFrom_38 rfl (lv_at hl 1 rfl) ?_
  refine k_get (v := .ref (a1 4)) C fg_X8_19 hP 11 rfl rfl dX8_copyFrom_39 ?_
  refine lv_iconst (v := (0 : Int32)) hx hb dX8_copyFrom_42 (by decide) ?_
  refine lv_aload_n hx hb dX8_copyFrom_43 rfl (lv_at hl 0 rfl) ?_
  refine k_get (v := .ref (a0 4)) C fg_X8_19 hP 0 rfl rfl dX8_copyFrom_44 ?_
  refine lv_iconst (v := (0 : Int32)) hx hb dX8_copyFrom_47 (by decide) ?_
  refine lv_bipush (v := (7 : Int32)) hx hb dX8_copyFrom_48 (by decide) ?_
  obtain ⟨U7, e8, hF⟩ := nw_s hF
  refine k_cpi (f := S1.2.2.1 3) (g := U5.2.2.1 3) (W8 := fl [g8 q o0 a0 U7, g8 q o1 a1 S1]) C ml_X8_47 hl.1 hP hD hS 14 3 rfl rfl ⟨by decide, by decide⟩ (Nat.le_of_ble_eq_true rfl) ⟨by decide, by decide⟩ dX8_copyFrom_50 (by rw [e8]; rfl) (fun H locs hP hD hS => ?_)
  refine lv_aload_n hx hb dX8_copyFrom_53 rfl (lv_at hl 1 rfl) ?_
  refine k_get (v := .ref (a1 5)) C fg_X8_22 hP 11 rfl rfl dX8_copyFrom_54 ?_
  refine lv_iconst (v := (0 : Int32)) hx hb dX8_copyFrom_57 (by decide) ?_
  refine lv_aload_n hx hb dX8_copyFrom_58 rfl (lv_at hl 0 rfl) ?_
  refine k_get (v := .ref (a0 5)) C fg_X8_22 hP 0 rfl rfl dX8_copyFrom_59 ?_
  refine lv_iconst (v := (0 : Int32)) hx hb dX8_copyFrom_62 (by decide) ?_
  refine lv_bipush (v := (7 : Int32)) hx hb dX8_copyFrom_63 (by decide) ?_
  obtain ⟨U9, e10, hF⟩ := nw_s hF
  refine k_cpi (f := S1.2.2.1 4) (g := U7.2.2.1 4) (W8 := fl [g8 q o0 a0 U9, g8 q o1 a1 S1]) C ml_X8_47 hl.1 hP hD hS 15 4 rfl rfl ⟨by decide, by decide⟩ (Nat.le_of_ble_eq_true rfl) ⟨by decide, by decide⟩ dX8_copyFrom_65 (by rw [e10]; rfl) (fun H locs hP hD hS => ?_)
  refine lv_aload_n hx hb dX8_copyFrom_68 rfl (lv_at hl 0 rfl) ?_
  refine lv_aload_n hx hb dX8_copyFrom_69 rfl (lv_at hl 1 rfl) ?_
  refine k_get (v := .int (S1.1 5)) C fg_X8_53 hP 11 rfl rfl dX8_copyFrom_70 ?_
  obtain ⟨U11, e12, hF⟩ := nw_s hF
  refine k_put (W8 := fl [g8 q o0 a0 U11, g8 q o1 a1 S1]) C fp_X8_53 hP hD hS 0 rfl rfl rfl (Nat.le_of_ble_eq_true rfl) dX8_copyFrom_73 (by rw [e12]; rfl) (fun H locs hP hD hS => ?_)
  refine lv_aload_n hx hb dX8_copyFrom_76 rfl (lv_at hl 0 rfl) ?_
  refine lv_aload_n hx hb dX8_copyFrom_77 rfl (lv_at hl 1 rfl) ?_
  refine k_get (v := .int (S1.1 6)) C fg_X8_56 hP 11 rfl rfl dX8_copyFrom_78 ?_
  obtain ⟨U13, e14, hF⟩ := nw_s hF
  refine k_put (W8 := fl [g8 q o0 a0 U13, g8 q o1 a1 S1]) C fp_X8_56 hP hD hS 0 rfl rfl rfl (Nat.le_of_ble_eq_true rfl) dX8_copyFrom_81 (by rw [e14]; rfl) (fun H locs hP hD hS => ?_)
  refine lv_aload_n hx hb dX8_copyFrom_84 rfl (lv_at hl 0 rfl) ?_
  refine lv_aload_n hx hb dX8_copyFrom_85 rfl (lv_at hl 1 rfl) ?_
  refine k_get (v := .int (S1.1 7)) C fg_X8_59 hP 11 rfl rfl dX8_copyFrom_86 ?_
  obtain ⟨U15, e16, hF⟩ := nw_s hF
  refine k_put (W8 := fl [g8 q o0 a0 U15, g8 q o1 a1 S1]) C fp_X8_59 hP hD hS 0 rfl rfl rfl (Nat.le_of_ble_eq_true rfl) dX8_copyFrom_89 (by rw [e16]; rfl) (fun H locs hP hD hS => ?_)
  refine lv_aload_n hx hb dX8_copyFrom_92 rfl (lv_at hl 1 rfl) ?_
  refine k_get (v := .ref (a1 9)) C fg_X8_25 hP 11 rfl rfl dX8_copyFrom_93 ?_
  refine lv_iconst (v := (0 : Int32)) hx hb dX8_copyFrom_96 (by decide) ?_
  refine lv_aload_n hx hb dX8_copyFrom_97 rfl (lv_at hl 0 rfl) ?_
  refine k_get (v := .ref (a0 9)) C fg_X8_25 hP 0 rfl rfl dX8_copyFrom_98 ?_
  refine lv_iconst (v := (0 : Int32)) hx hb dX8_copyFrom_101 (by decide) ?_
  refine lv_bipush (v := (6 : Int32)) hx hb dX8_copyFrom_102 (by decide) ?_
  obtain ⟨U17, e18, hF⟩ := nw_s hF
  refine k_cpl (f := S1.2.2.2 8) (g := U15.2.2.2 8) (W8 := fl [g8 q o0 a0 U17, g8 q o1 a1 S1]) C ml_X8_47 hl.1 hP hD hS 16 5 rfl rfl ⟨by decide, by decide⟩ (Nat.le_of_ble_eq_true rfl) ⟨by decide, by decide⟩ dX8_copyFrom_104 (by rw [e18]; rfl) (fun H locs hP hD hS => ?_)
  refine lv_aload_n hx hb dX8_copyFrom_107 rfl (lv_at hl 1 rfl) ?_
  refine k_get (v := .ref (a1 10)) C fg_X8_28 hP 11 rfl rfl dX8_copyFrom_108 ?_
  refine lv_iconst (v := (0 : Int32)) hx hb dX8_copyFrom_111 (by decide) ?_
  refine lv_aload_n hx hb dX8_copyFrom_112 rfl (lv_at hl 0 rfl) ?_
  refine k_get (v := .ref (a0 10)) C fg_X8_28 hP 0 rfl rfl dX8_copyFrom_113 ?_
  refine lv_iconst (v := (0 : Int32)) hx hb dX8_copyFrom_116 (by decide) ?_
  refine lv_bipush (v := (6 : Int32)) hx hb dX8_copyFrom_117 (by decide) ?_
  obtain ⟨U19, e20, hF⟩ := nw_s hF
  refine k_cpi (f := S1.2.2.1 9) (g := U17.2.2.1 9) (W8 := fl [g8 q o0 a0 U19, g8 q o1 a1 S1]) C ml_X8_47 hl.1 hP hD hS 17 6 rfl rfl ⟨by decide, by decide⟩ (Nat.le_of_ble_eq_true rfl) ⟨by decide, by decide⟩ dX8_copyFrom_119 (by rw [e20]; rfl) (fun H locs hP hD hS => ?_)
  refine lv_aload_n hx hb dX8_copyFrom_122 rfl (lv_at hl 1 rfl) ?_
  refine k_get (v := .ref (a1 11)) C fg_X8_31 hP 11 rfl rfl dX8_copyFrom_123 ?_
  refine lv_iconst (v := (0 : Int32)) hx hb dX8_copyFrom_126 (by decide) ?_
  refine lv_aload_n hx hb dX8_copyFrom_127 rfl (lv_at hl 0 rfl) ?_
  refine k_get (v := .ref (a0 11)) C fg_X8_31 hP 0 rfl rfl dX8_copyFrom_128 ?_
  refine lv_iconst (v := (0 : Int32)) hx hb dX8_copyFrom_131 (by decide) ?_
  refine lv_bipush (v := (6 : Int32)) hx hb dX8_copyFrom_132 (by decide) ?_
  obtain ⟨U21, e22, hF⟩ := nw_s hF
  refine k_cpi (f := S1.2.2.1 10) (g := U19.2.2.1 10) (W8 := fl [g8 q o0 a0 U21, g8 q o1 a1 S1]) C ml_X8_47 hl.1 hP hD hS 18 7 rfl rfl ⟨by decide, by decide⟩ (Nat.le_of_ble_eq_true rfl) ⟨by decide, by decide⟩ dX8_copyFrom_134 (by rw [e22]; rfl) (fun H locs hP hD hS => ?_)
  refine lv_aload_n hx hb dX8_copyFrom_137 rfl (lv_at hl 1 rfl) ?_
  refine k_get (v := .ref (a1 12)) C fg_X8_34 hP 11 rfl rfl dX8_copyFrom_138 ?_
  refine lv_iconst (v := (0 : Int32)) hx hb dX8_copyFrom_141 (by decide) ?_
  refine lv_aload_n hx hb dX8_copyFrom_142 rfl (lv_at hl 0 rfl) ?_
  refine k_get (v := .ref (a0 12)) C fg_X8_34 hP 0 rfl rfl dX8_copyFrom_143 ?_
  refine lv_iconst (v := (0 : Int32)) hx hb dX8_copyFrom_146 (by decide) ?_
  refine lv_bipush (v := (6 : Int32)) hx hb dX8_copyFrom_147 (by decide) ?_
  obtain ⟨U23, e24, hF⟩ := nw_s hF
  refine k_cpi (f := S1.2.2.1 11) (g := U21.2.2.1 11) (W8 := fl [g8 q o0 a0 U23, g8 q o1 a1 S1]) C ml_X8_47 hl.1 hP hD hS 19 8 rfl rfl ⟨by decide, by decide⟩ (Nat.le_of_ble_eq_true rfl) ⟨by decide, by decide⟩ dX8_copyFrom_149 (by rw [e24]; rfl) (fun H locs hP hD hS => ?_)
  refine lv_aload_n hx hb dX8_copyFrom_152 rfl (lv_at hl 1 rfl) ?_
  refine k_get (v := .ref (a1 13)) C fg_X8_37 hP 11 rfl rfl dX8_copyFrom_153 ?_
  refine lv_iconst (v := (0 : Int32)) hx hb dX8_copyFrom_156 (by decide) ?_
  refine lv_aload_n hx hb dX8_copyFrom_157 rfl (lv_at hl 0 rfl) ?_
  refine k_get (v := .ref (a0 13)) C fg_X8_37 hP 0 rfl rfl dX8_copyFrom_158 ?_
  refine lv_iconst (v := (0 : Int32)) hx hb dX8_copyFrom_161 (by decide) ?_
  refine lv_bipush (v := (6 : Int32)) hx hb dX8_copyFrom_162 (by decide) ?_
  obtain ⟨U25, e26, hF⟩ := nw_s hF
  refine k_cpi (f := S1.2.2.1 12) (g := U23.2.2.1 12) (W8 := fl [g8 q o0 a0 U25, g8 q o1 a1 S1]) C ml_X8_47 hl.1 hP hD hS 20 9 rfl rfl ⟨by decide, by decide⟩ (Nat.le_of_ble_eq_true rfl) ⟨by decide, by decide⟩ dX8_copyFrom_164 (by rw [e26]; rfl) (fun H locs hP hD hS => ?_)
  refine lv_aload_n hx hb dX8_copyFrom_167 rfl (lv_at hl 1 rfl) ?_
  refine k_get (v := .ref (a1 14)) C fg_X8_40 hP 11 rfl rfl dX8_copyFrom_168 ?_
  refine lv_iconst (v := (0 : Int32)) hx hb dX8_copyFrom_171 (by decide) ?_
  refine lv_aload_n hx hb dX8_copyFrom_172 rfl (lv_at hl 0 rfl) ?_
  refine k_get (v := .ref (a0 14)) C fg_X8_40 hP 0 rfl rfl dX8_copyFrom_173 ?_
  refine lv_iconst (v := (0 : Int32)) hx hb dX8_copyFrom_176 (by decide) ?_
  refine lv_bipush (v := (6 : Int32)) hx hb dX8_copyFrom_177 (by decide) ?_
  obtain ⟨U27, e28, hF⟩ := nw_s hF
  refine k_cpi (f := S1.2.2.1 13) (g := U25.2.2.1 13) (W8 := fl [g8 q o0 a0 U27, g8 q o1 a1 S1]) C ml_X8_47 hl.1 hP hD hS 21 10 rfl rfl ⟨by decide, by decide⟩ (Nat.le_of_ble_eq_true rfl) ⟨by decide, by decide⟩ dX8_copyFrom_179 (by rw [e28]; rfl) (fun H locs hP hD hS => ?_)
  refine lv_aload_n hx hb dX8_copyFrom_182 rfl (lv_at hl 0 rfl) ?_
  refine lv_aload_n hx hb dX8_copyFrom_183 rfl (lv_at hl 1 rfl) ?_
  refine k_get (v := .int (S1.1 14)) C fg_X8_62 hP 11 rfl rfl dX8_copyFrom_184 ?_
  obtain ⟨U29, e30, hF⟩ := nw_s hF
  refine k_put (W8 := fl [g8 q o0 a0 U29, g8 q o1 a1 S1]) C fp_X8_62 hP hD hS 0 rfl rfl rfl (Nat.le_of_ble_eq_true rfl) dX8_copyFrom_187 (by rw [e30]; rfl) (fun H locs hP hD hS => ?_)
  cases hF
  exact k_vret C hP hS dX8_copyFrom_190

abbrev rm_X2_keep : Room := ({ frames := 1, cells := 0, slots := 0, locals := 21 } : Room)
def F_X2_keep_20 (s1 : Int32) (S0 : St) : Option (St) := nw (sI S0 1 s1) fun U1 => nw (sI U1 2 (if (8 : Int32) < ((U1.1 2) + (1 : Int32)) then (8 : Int32) else ((U1.1 2) + (1 : Int32)))) fun U3 => some (U3)
def F_X2_keep (S0 : St) : Option (St) := if (S0.1 1) = (8 : Int32) then (F_X2_keep_20 (0 : Int32) S0) else (F_X2_keep_20 ((S0.1 1) + (1 : Int32)) S0)
set_option maxRecDepth 100000 in
set_option maxHeartbeats 4000000 in
theorem b_X2_keep_20 {p : Program} {l : Launch} {e : Env} {s : State} {m : MethodId} {args : Array Value} {below : List Frame} {meth : Method} {c : Code} {D : va_G} {q : Nat → ClassId} {A : Nat → Prop} {o0 : Nat} {a0 : Nat → Nat} {T0 : St} (C : cx p s m args meth c cX2_keep 1 none RX2 D q A) {s1 : Int32} {S0 : St} (hF : F_X2_keep_20 s1 S0 = some (T0)) {H : Heap} {locs : List Loc} (hP : va_P D vwCl (fl [g2 q o0 a0 S0]) H) (hD : va_D A (fl [g2 q o0 a0 S0])) (hS : va_S A s.heap H locs) {ls : Array Slot} (hl : lv_has ls 1 [(0, .ref o0)]) : W p l e rm_X2_keep s m args below meth c H locs 0 0 (MQ below (QV D A (fl [g2 q o0 a0 T0])) args s 0 0 A) (F0 m 20 ls [.int s1, .ref o0]) := by
  unfold F_X2_keep_20 at hF
  obtain ⟨hx, hb, hr, hml, hown, hts, hlk, hA, hK, hN, hV⟩ := id C
  obtain ⟨U1, e2, hF⟩ := nw_s hF
  refine k_put (W8 := fl [g2 q o0 a0 U1]) C fp_X2_18 hP hD hS 0 rfl rfl rfl (Nat.le_of_ble_eq_true rfl) dX2_keep_20 (by rw [e2]; rfl) (fun H locs hP hD hS => ?_)
  refine lv_aload_n hx hb dX2_keep_23 rfl (lv_at hl 0 rfl) ?_
  refine lv_aload_n hx hb dX2_keep_24 rfl (lv_at hl 0 rfl) ?_
  refine k_get (v := .int (U1.1 2)) C fg_X2_22 hP 0 rfl rfl dX2_keep_25 ?_
  refine lv_iconst (v := (1 : Int32)) hx hb dX2_keep_28 (by decide) ?_
  refine lv_iadd hx hb dX2_keep_29 ?_
  refine lv_bipush (v := (8 : Int32)) hx hb dX2_keep_30 (by decide) ?_
  refine k_min C ml_X2_29 kmath_min hl.1 ⟨Nat.le_of_ble_eq_true rfl, Nat.le_of_ble_eq_true rfl⟩ (by decide) dX2_keep_32 ?_
  obtain ⟨U3, e4, hF⟩ := nw_s hF
  refine k_put (W8 := fl [g2 q o0 a0 U3]) C fp_X2_22 hP hD hS 0 rfl rfl rfl (Nat.le_of_ble_eq_true rfl) dX2_keep_35 (by rw [e4]; rfl) (fun H locs hP hD hS => ?_)
  cases hF
  exact k_vret C hP hS dX2_keep_38
set_option maxRecDepth 100000 in
set_option maxHeartbeats 4000000 in
theorem c_X2_keep (l : Launch) (D : va_G) (q : Nat → ClassId) (o0 : Nat) (a0 : Nat → Nat) (S0 : St) (sz : Nat) {T0 : St} (hF : F_X2_keep S0 = some (T0)) : Met l yX2_keep (Cond.code yX2_keep cX2_keep 1 none :: TB) rm_X2_keep (PC D q [.ref o0] (fl [g2 q o0 a0 S0]) sz) ((fun A => QV D A (fl [g2 q o0 a0 T0])) (va_A (fl [g2 q o0 a0 S0]) sz)) 0 0 (va_A (fl [g2 q o0 a0 S0]) sz) := by
  refine k_met (w0 := fl [g2 q o0 a0 S0]) (Q := fun A => QV D A (fl [g2 q o0 a0 T0])) (by decide +kernel) (Nat.le_of_ble_eq_true rfl) ?_
  intro p e s m args below meth c A ls C hP hD hS hl
  have hl : lv_has ls 1 [(0, .ref o0)] := hl
  unfold F_X2_keep at hF
  have C : cx p s m args meth c cX2_keep 1 none RX2 D q A := C
  obtain ⟨hx, hb, hr, hml, hown, hts, hlk, hA, hK, hN, hV⟩ := id C
  refine lv_aload_n hx hb dX2_keep_0 rfl (lv_at hl 0 rfl) ?_
  refine lv_aload_n hx hb dX2_keep_1 rfl (lv_at hl 0 rfl) ?_
  refine k_get (v := .int (S0.1 1)) C fg_X2_18 hP 0 rfl rfl dX2_keep_2 ?_
  refine lv_bipush (v := (8 : Int32)) hx hb dX2_keep_5 (by decide) ?_
  refine lv_icmp_ne (tgt := 14) hx hb dX2_keep_7 (by decide) (fun c1 => ?_) (fun c1 => ?_)
  · have hF := op_f hF c1
    refine lv_aload_n hx hb dX2_keep_14 rfl (lv_at hl 0 rfl) ?_
    refine k_get (v := .int (S0.1 1)) C fg_X2_18 hP 0 rfl rfl dX2_keep_15 ?_
    refine lv_iconst (v := (1 : Int32)) hx hb dX2_keep_18 (by decide) ?_
    refine lv_iadd hx hb dX2_keep_19 ?_
    exact b_X2_keep_20 C hF hP hD hS (lv_sub hl [0] rfl)
  · have hF := op_t hF c1
    refine lv_iconst (v := (0 : Int32)) hx hb dX2_keep_10 (by decide) ?_
    refine lv_goto (tgt := 20) hx hb dX2_keep_11 (by decide) ?_
    exact b_X2_keep_20 C hF hP hD hS (lv_sub hl [0] rfl)

abbrev rm_X2_forget : Room := ({ frames := 0, cells := 0, slots := 0, locals := 0 } : Room)
def F_X2_forget (S0 : St) : Option (St) := nw (sI S0 2 (0 : Int32)) fun U1 => some (U1)
set_option maxRecDepth 100000 in
set_option maxHeartbeats 4000000 in
theorem c_X2_forget (l : Launch) (D : va_G) (q : Nat → ClassId) (o0 : Nat) (a0 : Nat → Nat) (S0 : St) (sz : Nat) {T0 : St} (hF : F_X2_forget S0 = some (T0)) : Met l yX2_forget (Cond.code yX2_forget cX2_forget 1 none :: TB) rm_X2_forget (PC D q [.ref o0] (fl [g2 q o0 a0 S0]) sz) ((fun A => QV D A (fl [g2 q o0 a0 T0])) (va_A (fl [g2 q o0 a0 S0]) sz)) 0 0 (va_A (fl [g2 q o0 a0 S0]) sz) := by
  refine k_met (w0 := fl [g2 q o0 a0 S0]) (Q := fun A => QV D A (fl [g2 q o0 a0 T0])) (by decide +kernel) (Nat.le_of_ble_eq_true rfl) ?_
  intro p e s m args below meth c A ls C hP hD hS hl
  have hl : lv_has ls 1 [(0, .ref o0)] := hl
  unfold F_X2_forget at hF
  have C : cx p s m args meth c cX2_forget 1 none RX2 D q A := C
  obtain ⟨hx, hb, hr, hml, hown, hts, hlk, hA, hK, hN, hV⟩ := id C
  refine lv_aload_n hx hb dX2_forget_0 rfl (lv_at hl 0 rfl) ?_
  refine lv_iconst (v := (0 : Int32)) hx hb dX2_forget_1 (by decide) ?_
  obtain ⟨U1, e2, hF⟩ := nw_s hF
  refine k_put (W8 := fl [g2 q o0 a0 U1]) C fp_X2_22 hP hD hS 0 rfl rfl rfl (Nat.le_of_ble_eq_true rfl) dX2_forget_2 (by rw [e2]; rfl) (fun H locs hP hD hS => ?_)
  cases hF
  exact k_vret C hP hS dX2_forget_5

abbrev rm_J7_fill_53178 : Room := ({ frames := 0, cells := 0, slots := 0, locals := 0 } : Room)
def F_J7_fill_53178_5 (n0 : Nat) (k5 : Int32 × Int32 × Int32 × St → Option (St)) (x1 : Int32) (x2 : Int32) (x3 : Int32) (S0 : St) : Option (St) := if x3 ≤ x2 then (some (S0)) else (if oob x2 n0 then none else nw (sA S0 0 x2 x1) fun U3 => k5 (x1, (x2 + 1), x3, U3))
def L_J7_fill_53178_5 (n0 : Nat) (x1 : Int32) (x2 : Int32) (x3 : Int32) (S0 : St) : Option (St) := lp (fun kz z => F_J7_fill_53178_5 n0 kz z.1 z.2.1 z.2.2.1 z.2.2.2) FU (x1, x2, x3, S0)
def F_J7_fill_53178 (n0 : Nat) (S0 : St) (x1 : Int32) : Option (St) := L_J7_fill_53178_5 n0 x1 (0 : Int32) (Int32.ofNat n0) S0
set_option maxRecDepth 100000 in
set_option maxHeartbeats 4000000 in
theorem b_J7_fill_53178_5 {p : Program} {l : Launch} {e : Env} {s : State} {m : MethodId} {args : Array Value} {below : List Frame} {meth : Method} {c : Code} {D : va_G} {q : Nat → ClassId} {A : Nat → Prop} {o0 : Nat} {a0 : Nat → Nat} {n0 : Nat} {T0 : St} (C : cx p s m args meth c cJ7_fill_53178 4 none RJ7 D q A) {k5 : Int32 × Int32 × Int32 × St → Option (St)} (hk5 : ∀ (x1 : Int32) (x2 : Int32) (x3 : Int32) (S0 : St), k5 (x1, x2, x3, S0) = some (T0) → ∀ (H : Heap) (locs : List Loc) (ls : Array Slot), va_P D vwCl (fl [g99 q o0 a0 n0 S0]) H → va_D A (fl [g99 q o0 a0 n0 S0]) → va_S A s.heap H locs → lv_has ls 4 [(0, .ref o0), (1, .int x1), (2, .int x2), (3, .int x3)] → W p l e rm_J7_fill_53178 s m args below meth c H locs 0 0 (MQ below (QV D A (fl [g99 q o0 a0 n0 T0])) args s 0 0 A) (F0 m 5 ls [])) {x1 : Int32} {x2 : Int32} {x3 : Int32} {S0 : St} (hF : F_J7_fill_53178_5 n0 k5 x1 x2 x3 S0 = some (T0)) {H : Heap} {locs : List Loc} (hP : va_P D vwCl (fl [g99 q o0 a0 n0 S0]) H) (hD : va_D A (fl [g99 q o0 a0 n0 S0])) (hS : va_S A s.heap H locs) {ls : Array Slot} (hl : lv_has ls 4 [(0, .ref o0), (1, .int x1), (2, .int x2), (3, .int x3)]) : W p l e rm_J7_fill_53178 s m args below meth c H locs 0 0 (MQ below (QV D A (fl [g99 q o0 a0 n0 T0])) args s 0 0 A) (F0 m 5 ls []) := by
  unfold F_J7_fill_53178_5 at hF
  obtain ⟨hx, hb, hr, hml, hown, hts, hlk, hA, hK, hN, hV⟩ := id C
  refine lv_iload_n hx hb dJ7_fill_53178_5 rfl (lv_at hl 2 rfl) ?_
  refine lv_iload_n hx hb dJ7_fill_53178_6 rfl (lv_at hl 3 rfl) ?_
  refine lv_icmp_ge (tgt := 20) hx hb dJ7_fill_53178_7 (by decide) (fun c1 => ?_) (fun c1 => ?_)
  · have hF := op_t hF c1
    cases hF
    exact k_vret C hP hS dJ7_fill_53178_20
  · have hF := op_f hF c1
    refine lv_aload_n hx hb dJ7_fill_53178_10 rfl (lv_at hl 0 rfl) ?_
    refine lv_iload_n hx hb dJ7_fill_53178_11 rfl (lv_at hl 2 rfl) ?_
    refine lv_iload_n hx hb dJ7_fill_53178_12 rfl (lv_at hl 1 rfl) ?_
    obtain ⟨h2, hF⟩ := op_ck hF
    obtain ⟨U3, e4, hF⟩ := nw_s hF
    refine k_ist (f := S0.2.2.1 0) (W8 := fl [g99 q o0 a0 n0 U3]) C hP hD hS 0 rfl h2 dJ7_fill_53178_13 (by rw [e4]; rfl) (fun H locs hP hD hS => ?_)
    refine lv_iinc (v := (x2 + 1)) (lv' := [(2, .int (x2 + 1)), (0, .ref o0), (1, .int x1), (3, .int x3)]) hx hb dJ7_fill_53178_14 hl (k := 2) rfl rfl (by decide) rfl (fun ls hl => ?_)
    refine lv_goto (tgt := 5) hx hb dJ7_fill_53178_17 (by decide) ?_
    exact hk5 x1 (x2 + 1) x3 U3 hF _ _ _ hP hD hS (lv_sub hl [1, 2, 0, 3] rfl)
set_option maxRecDepth 100000 in
set_option maxHeartbeats 4000000 in
theorem l_J7_fill_53178_5 {p : Program} {l : Launch} {e : Env} {s : State} {m : MethodId} {args : Array Value} {below : List Frame} {meth : Method} {c : Code} {D : va_G} {q : Nat → ClassId} {A : Nat → Prop} {o0 : Nat} {a0 : Nat → Nat} {n0 : Nat} {T0 : St} (C : cx p s m args meth c cJ7_fill_53178 4 none RJ7 D q A) {x1 : Int32} {x2 : Int32} {x3 : Int32} {S0 : St} (hF : L_J7_fill_53178_5 n0 x1 x2 x3 S0 = some (T0)) : ∀ (H : Heap) (locs : List Loc) (ls : Array Slot), va_P D vwCl (fl [g99 q o0 a0 n0 S0]) H → va_D A (fl [g99 q o0 a0 n0 S0]) → va_S A s.heap H locs → lv_has ls 4 [(0, .ref o0), (1, .int x1), (2, .int x2), (3, .int x3)] → W p l e rm_J7_fill_53178 s m args below meth c H locs 0 0 (MQ below (QV D A (fl [g99 q o0 a0 n0 T0])) args s 0 0 A) (F0 m 5 ls []) :=
  lp_G _ _ (fun z => ∀ (H : Heap) (locs : List Loc) (ls : Array Slot), va_P D vwCl (fl [g99 q o0 a0 n0 z.2.2.2]) H → va_D A (fl [g99 q o0 a0 n0 z.2.2.2]) → va_S A s.heap H locs → lv_has ls 4 [(0, .ref o0), (1, .int z.1), (2, .int z.2.1), (3, .int z.2.2.1)] → W p l e rm_J7_fill_53178 s m args below meth c H locs 0 0 (MQ below (QV D A (fl [g99 q o0 a0 n0 T0])) args s 0 0 A) (F0 m 5 ls [])) (fun kz hkz z hz H locs ls hP hD hS hl => b_J7_fill_53178_5 C (fun x1 x2 x3 S0 hz => hkz (x1, x2, x3, S0) hz) hz hP hD hS hl) FU (x1, x2, x3, S0) hF
set_option maxRecDepth 100000 in
set_option maxHeartbeats 4000000 in
theorem c_J7_fill_53178 (l : Launch) (D : va_G) (q : Nat → ClassId) (o0 : Nat) (a0 : Nat → Nat) (n0 : Nat) (S0 : St) (sz : Nat) (x1 : Int32) {T0 : St} (hF : F_J7_fill_53178 n0 S0 x1 = some (T0)) : Met l yJ7_fill_53178 (Cond.code yJ7_fill_53178 cJ7_fill_53178 4 none :: TB) rm_J7_fill_53178 (PC D q [.ref o0, .int x1] (fl [g99 q o0 a0 n0 S0]) sz) ((fun A => QV D A (fl [g99 q o0 a0 n0 T0])) (va_A (fl [g99 q o0 a0 n0 S0]) sz)) 0 0 (va_A (fl [g99 q o0 a0 n0 S0]) sz) := by
  refine k_met (w0 := fl [g99 q o0 a0 n0 S0]) (Q := fun A => QV D A (fl [g99 q o0 a0 n0 T0])) (by decide +kernel) (Nat.le_of_ble_eq_true rfl) ?_
  intro p e s m args below meth c A ls C hP hD hS hl
  have hl : lv_has ls 4 [(0, .ref o0), (1, .int x1)] := hl
  unfold F_J7_fill_53178 at hF
  have C : cx p s m args meth c cJ7_fill_53178 4 none RJ7 D q A := C
  obtain ⟨hx, hb, hr, hml, hown, hts, hlk, hA, hK, hN, hV⟩ := id C
  refine lv_iconst (v := (0 : Int32)) hx hb dJ7_fill_53178_0 (by decide) ?_
  refine lv_istore_n (lv' := [(2, .int (0 : Int32)), (0, .ref o0), (1, .int x1)]) hx hb dJ7_fill_53178_1 rfl hl (by decide) rfl (fun ls hl => ?_)
  refine lv_aload_n hx hb dJ7_fill_53178_2 rfl (lv_at hl 1 rfl) ?_
  refine k_len (v := (Int32.ofNat n0)) C hP 0 1 rfl rfl rfl dJ7_fill_53178_3 ?_
  refine lv_istore_n (lv' := [(3, .int (Int32.ofNat n0)), (2, .int (0 : Int32)), (0, .ref o0), (1, .int x1)]) hx hb dJ7_fill_53178_4 rfl hl (by decide) rfl (fun ls hl => ?_)
  exact l_J7_fill_53178_5 C hF _ _ _ hP hD hS (lv_sub hl [2, 3, 1, 0] rfl)

abbrev rm_X8_climbable : Room := ({ frames := 1, cells := 0, slots := 0, locals := 22 } : Room)
def F_X8_climbable_63 (k4 : Int32 × Int32 × Int32 × St → Option (Int32)) (x1 : Int32) (x2 : Int32) (x3 : Int32) (S0 : St) : Option (Int32) := k4 (x1, x2, (x3 + 1), S0)
def F_X8_climbable_57 (k4 : Int32 × Int32 × Int32 × St → Option (Int32)) (x1 : Int32) (x2 : Int32) (x3 : Int32) (S0 : St) : Option (Int32) := nw (x2 ||| ((1 : Int32) <<< (x3 &&& 31))) fun v1 => F_X8_climbable_63 k4 x1 v1 x3 S0
def F_X8_climbable_4 (k4 : Int32 × Int32 × Int32 × St → Option (Int32)) (x1 : Int32) (x2 : Int32) (x3 : Int32) (S0 : St) : Option (Int32) := if (S0.1 0) ≤ x3 then (some (x2)) else (ob1 (F_X8_whoIsUp S0 x3) fun r3 => if (((S0.1 6) >>> (x3 &&& 31)) &&& (1 : Int32)) = 0 then (if oob x3 7 then none else if oob x1 6 then none else if (S0.2.2.1 11 x1.toNatClampNeg) < (S0.2.2.1 4 x3.toNatClampNeg) then (F_X8_climbable_63 k4 x1 x2 x3 S0) else (if r3 = (-1 : Int32) then (F_X8_climbable_57 k4 x1 x2 x3 S0) else (if r3 = x1 then (F_X8_climbable_57 k4 x1 x2 x3 S0) else (F_X8_climbable_63 k4 x1 x2 x3 S0)))) else (F_X8_climbable_63 k4 x1 x2 x3 S0))
def L_X8_climbable_4 (x1 : Int32) (x2 : Int32) (x3 : Int32) (S0 : St) : Option (Int32) := lp (fun kz z => F_X8_climbable_4 kz z.1 z.2.1 z.2.2.1 z.2.2.2) FU (x1, x2, x3, S0)
def F_X8_climbable (S0 : St) (x1 : Int32) : Option (Int32) := L_X8_climbable_4 x1 (0 : Int32) (0 : Int32) S0
set_option maxRecDepth 100000 in
set_option maxHeartbeats 4000000 in
theorem b_X8_climbable_63 {p : Program} {l : Launch} {e : Env} {s : State} {m : MethodId} {args : Array Value} {below : List Frame} {meth : Method} {c : Code} {D : va_G} {q : Nat → ClassId} {A : Nat → Prop} {o0 : Nat} {a0 : Nat → Nat} {r : Int32} (C : cx p s m args meth c cX8_climbable 5 (some .int) RX8 D q A) {k4 : Int32 × Int32 × Int32 × St → Option (Int32)} (hk4 : ∀ (x1 : Int32) (x2 : Int32) (x3 : Int32) (S0 : St), k4 (x1, x2, x3, S0) = some (r) → ∀ (H : Heap) (locs : List Loc) (ls : Array Slot), va_P D vwCl (fl [g8 q o0 a0 S0]) H → va_D A (fl [g8 q o0 a0 S0]) → va_S A s.heap H locs → lv_has ls 5 [(0, .ref o0), (1, .int x1), (2, .int x2), (3, .int x3)] → W p l e rm_X8_climbable s m args below meth c H locs 0 0 (MQ below (QI D A r (fl [g8 q o0 a0 S0])) args s 0 0 A) (F0 m 4 ls [])) {x1 : Int32} {x2 : Int32} {x3 : Int32} {S0 : St} (hF : F_X8_climbable_63 k4 x1 x2 x3 S0 = some (r)) {H : Heap} {locs : List Loc} (hP : va_P D vwCl (fl [g8 q o0 a0 S0]) H) (hD : va_D A (fl [g8 q o0 a0 S0])) (hS : va_S A s.heap H locs) {ls : Array Slot} (hl : lv_has ls 5 [(0, .ref o0), (1, .int x1), (2, .int x2), (3, .int x3)]) : W p l e rm_X8_climbable s m args below meth c H locs 0 0 (MQ below (QI D A r (fl [g8 q o0 a0 S0])) args s 0 0 A) (F0 m 63 ls []) := by
  unfold F_X8_climbable_63 at hF
  obtain ⟨hx, hb, hr, hml, hown, hts, hlk, hA, hK, hN, hV⟩ := id C
  refine lv_iinc (v := (x3 + 1)) (lv' := [(3, .int (x3 + 1)), (0, .ref o0), (1, .int x1), (2, .int x2)]) hx hb dX8_climbable_63 hl (k := 3) rfl rfl (by decide) rfl (fun ls hl => ?_)
  refine lv_goto (tgt := 4) hx hb dX8_climbable_66 (by decide) ?_
  exact hk4 x1 x2 (x3 + 1) S0 hF _ _ _ hP hD hS (lv_sub hl [1, 2, 3, 0] rfl)
set_option maxRecDepth 100000 in
set_option maxHeartbeats 4000000 in
theorem b_X8_climbable_57 {p : Program} {l : Launch} {e : Env} {s : State} {m : MethodId} {args : Array Value} {below : List Frame} {meth : Method} {c : Code} {D : va_G} {q : Nat → ClassId} {A : Nat → Prop} {o0 : Nat} {a0 : Nat → Nat} {r : Int32} (C : cx p s m args meth c cX8_climbable 5 (some .int) RX8 D q A) {k4 : Int32 × Int32 × Int32 × St → Option (Int32)} (hk4 : ∀ (x1 : Int32) (x2 : Int32) (x3 : Int32) (S0 : St), k4 (x1, x2, x3, S0) = some (r) → ∀ (H : Heap) (locs : List Loc) (ls : Array Slot), va_P D vwCl (fl [g8 q o0 a0 S0]) H → va_D A (fl [g8 q o0 a0 S0]) → va_S A s.heap H locs → lv_has ls 5 [(0, .ref o0), (1, .int x1), (2, .int x2), (3, .int x3)] → W p l e rm_X8_climbable s m args below meth c H locs 0 0 (MQ below (QI D A r (fl [g8 q o0 a0 S0])) args s 0 0 A) (F0 m 4 ls [])) {x1 : Int32} {x2 : Int32} {x3 : Int32} {S0 : St} (hF : F_X8_climbable_57 k4 x1 x2 x3 S0 = some (r)) {H : Heap} {locs : List Loc} (hP : va_P D vwCl (fl [g8 q o0 a0 S0]) H) (hD : va_D A (fl [g8 q o0 a0 S0])) (hS : va_S A s.heap H locs) {ls : Array Slot} (hl : lv_has ls 5 [(0, .ref o0), (1, .int x1), (2, .int x2), (3, .int x3)]) : W p l e rm_X8_climbable s m args below meth c H locs 0 0 (MQ below (QI D A r (fl [g8 q o0 a0 S0])) args s 0 0 A) (F0 m 57 ls []) := by
  unfold F_X8_climbable_57 at hF
  obtain ⟨hx, hb, hr, hml, hown, hts, hlk, hA, hK, hN, hV⟩ := id C
  refine lv_iload_n hx hb dX8_climbable_57 rfl (lv_at hl 2 rfl) ?_
  refine lv_iconst (v := (1 : Int32)) hx hb dX8_climbable_58 (by decide) ?_
  refine lv_iload_n hx hb dX8_climbable_59 rfl (lv_at hl 3 rfl) ?_
  refine lv_ishl hx hb dX8_climbable_60 ?_
  refine lv_ior hx hb dX8_climbable_61 ?_
  obtain ⟨v1, e2, hF⟩ := nw_s hF
  refine k_rni e2 ?_
  refine lv_istore_n (lv' := [(2, .int v1), (0, .ref o0), (1, .int x1), (3, .int x3)]) hx hb dX8_climbable_62 rfl hl (by decide) rfl (fun ls hl => ?_)
  exact b_X8_climbable_63 C hk4 hF hP hD hS (lv_sub hl [1, 2, 0, 3] rfl)
set_option maxRecDepth 100000 in
set_option maxHeartbeats 4000000 in
theorem b_X8_climbable_4 {p : Program} {l : Launch} {e : Env} {s : State} {m : MethodId} {args : Array Value} {below : List Frame} {meth : Method} {c : Code} {D : va_G} {q : Nat → ClassId} {A : Nat → Prop} {o0 : Nat} {a0 : Nat → Nat} {r : Int32} (C : cx p s m args meth c cX8_climbable 5 (some .int) RX8 D q A) {k4 : Int32 × Int32 × Int32 × St → Option (Int32)} (hk4 : ∀ (x1 : Int32) (x2 : Int32) (x3 : Int32) (S0 : St), k4 (x1, x2, x3, S0) = some (r) → ∀ (H : Heap) (locs : List Loc) (ls : Array Slot), va_P D vwCl (fl [g8 q o0 a0 S0]) H → va_D A (fl [g8 q o0 a0 S0]) → va_S A s.heap H locs → lv_has ls 5 [(0, .ref o0), (1, .int x1), (2, .int x2), (3, .int x3)] → W p l e rm_X8_climbable s m args below meth c H locs 0 0 (MQ below (QI D A r (fl [g8 q o0 a0 S0])) args s 0 0 A) (F0 m 4 ls [])) {x1 : Int32} {x2 : Int32} {x3 : Int32} {S0 : St} (hF : F_X8_climbable_4 k4 x1 x2 x3 S0 = some (r)) {H : Heap} {locs : List Loc} (hP : va_P D vwCl (fl [g8 q o0 a0 S0]) H) (hD : va_D A (fl [g8 q o0 a0 S0])) (hS : va_S A s.heap H locs) {ls : Array Slot} (hl : lv_has ls 5 [(0, .ref o0), (1, .int x1), (2, .int x2), (3, .int x3)]) : W p l e rm_X8_climbable s m args below meth c H locs 0 0 (MQ below (QI D A r (fl [g8 q o0 a0 S0])) args s 0 0 A) (F0 m 4 ls []) := by
  unfold F_X8_climbable_4 at hF
  obtain ⟨hx, hb, hr, hml, hown, hts, hlk, hA, hK, hN, hV⟩ := id C
  refine lv_iload_n hx hb dX8_climbable_4 rfl (lv_at hl 3 rfl) ?_
  refine lv_aload_n hx hb dX8_climbable_5 rfl (lv_at hl 0 rfl) ?_
  refine k_get (v := .int (S0.1 0)) C fg_X8_43 hP 0 rfl rfl dX8_climbable_6 ?_
  refine lv_icmp_ge (tgt := 69) hx hb dX8_climbable_9 (by decide) (fun c1 => ?_) (fun c1 => ?_)
  · have hF := op_t hF c1
    refine lv_iload_n hx hb dX8_climbable_69 rfl (lv_at hl 2 rfl) ?_
    cases hF
    exact k_iret C hP hS dX8_climbable_70
  · have hF := op_f hF c1
    refine lv_aload_n hx hb dX8_climbable_12 rfl (lv_at hl 0 rfl) ?_
    refine lv_iload_n hx hb dX8_climbable_13 rfl (lv_at hl 3 rfl) ?_
    obtain ⟨r3, hc2, hF⟩ := ob1_s hF
    refine k_isame C (k_rV (As := [.int x3]) (rest := []) C (c_X8_whoIsUp l D q o0 a0 S0 _ x3 hc2) kc_X8_whoIsUp ml_X8_151 rfl rfl (by decide) hP hD hS (va_recv hK hP (ci := 8) (q0 := 0) rfl rfl) rfl hl.1 rfl (Nat.le_of_ble_eq_true rfl) dX8_climbable_14 (by decide)) hP hD hS (fun H locs hP hD hS => ?_)
    refine lv_istore (lv' := [(4, .int r3), (0, .ref o0), (1, .int x1), (2, .int x2), (3, .int x3)]) hx hb dX8_climbable_17 hl (by decide) rfl (fun ls hl => ?_)
    refine lv_aload_n hx hb dX8_climbable_19 rfl (lv_at hl 1 rfl) ?_
    refine k_get (v := .int (S0.1 6)) C fg_X8_56 hP 0 rfl rfl dX8_climbable_20 ?_
    refine lv_iload_n hx hb dX8_climbable_23 rfl (lv_at hl 4 rfl) ?_
    refine lv_ishr hx hb dX8_climbable_24 ?_
    refine lv_iconst (v := (1 : Int32)) hx hb dX8_climbable_25 (by decide) ?_
    refine lv_iand hx hb dX8_climbable_26 ?_
    refine lv_if_ne (tgt := 63) hx hb dX8_climbable_27 (by decide) (fun c4 => ?_) (fun c4 => ?_)
    · have hF := op_f hF c4
      exact b_X8_climbable_63 C hk4 hF hP hD hS (lv_sub hl [1, 2, 3, 4] rfl)
    · have hF := op_t hF c4
      refine lv_aload_n hx hb dX8_climbable_30 rfl (lv_at hl 1 rfl) ?_
      refine k_get (v := .ref (a0 5)) C fg_X8_22 hP 0 rfl rfl dX8_climbable_31 ?_
      refine lv_iload_n hx hb dX8_climbable_34 rfl (lv_at hl 4 rfl) ?_
      obtain ⟨h5, hF⟩ := op_ck hF
      refine k_ild (f := S0.2.2.1 4) C hP 4 rfl h5 dX8_climbable_35 ?_
      refine lv_aload_n hx hb dX8_climbable_36 rfl (lv_at hl 1 rfl) ?_
      refine k_get (v := .ref (a0 12)) C fg_X8_34 hP 0 rfl rfl dX8_climbable_37 ?_
      refine lv_iload_n hx hb dX8_climbable_40 rfl (lv_at hl 2 rfl) ?_
      obtain ⟨h6, hF⟩ := op_ck hF
      refine k_ild (f := S0.2.2.1 11) C hP 8 rfl h6 dX8_climbable_41 ?_
      refine lv_icmp_gt (tgt := 63) hx hb dX8_climbable_42 (by decide) (fun c7 => ?_) (fun c7 => ?_)
      · have hF := op_t hF c7
        exact b_X8_climbable_63 C hk4 hF hP hD hS (lv_sub hl [1, 2, 3, 4] rfl)
      · have hF := op_f hF c7
        refine lv_iload hx hb dX8_climbable_45 (lv_at hl 0 rfl) ?_
        refine lv_iconst (v := (-1 : Int32)) hx hb dX8_climbable_47 (by decide) ?_
        refine lv_icmp_eq (tgt := 57) hx hb dX8_climbable_48 (by decide) (fun c8 => ?_) (fun c8 => ?_)
        · have hF := op_t hF c8
          exact b_X8_climbable_57 C hk4 hF hP hD hS (lv_sub hl [1, 2, 3, 4] rfl)
        · have hF := op_f hF c8
          refine lv_iload hx hb dX8_climbable_51 (lv_at hl 0 rfl) ?_
          refine lv_iload_n hx hb dX8_climbable_53 rfl (lv_at hl 2 rfl) ?_
          refine lv_icmp_ne (tgt := 63) hx hb dX8_climbable_54 (by decide) (fun c9 => ?_) (fun c9 => ?_)
          · have hF := op_f hF c9
            exact b_X8_climbable_63 C hk4 hF hP hD hS (lv_sub hl [1, 2, 3, 4] rfl)
          · have hF := op_t hF c9
            exact b_X8_climbable_57 C hk4 hF hP hD hS (lv_sub hl [1, 2, 3, 4] rfl)
set_option maxRecDepth 100000 in
set_option maxHeartbeats 4000000 in
theorem l_X8_climbable_4 {p : Program} {l : Launch} {e : Env} {s : State} {m : MethodId} {args : Array Value} {below : List Frame} {meth : Method} {c : Code} {D : va_G} {q : Nat → ClassId} {A : Nat → Prop} {o0 : Nat} {a0 : Nat → Nat} {r : Int32} (C : cx p s m args meth c cX8_climbable 5 (some .int) RX8 D q A) {x1 : Int32} {x2 : Int32} {x3 : Int32} {S0 : St} (hF : L_X8_climbable_4 x1 x2 x3 S0 = some (r)) : ∀ (H : Heap) (locs : List Loc) (ls : Array Slot), va_P D vwCl (fl [g8 q o0 a0 S0]) H → va_D A (fl [g8 q o0 a0 S0]) → va_S A s.heap H locs → lv_has ls 5 [(0, .ref o0), (1, .int x1), (2, .int x2), (3, .int x3)] → W p l e rm_X8_climbable s m args below meth c H locs 0 0 (MQ below (QI D A r (fl [g8 q o0 a0 S0])) args s 0 0 A) (F0 m 4 ls []) :=
  lp_G _ _ (fun z => ∀ (H : Heap) (locs : List Loc) (ls : Array Slot), va_P D vwCl (fl [g8 q o0 a0 z.2.2.2]) H → va_D A (fl [g8 q o0 a0 z.2.2.2]) → va_S A s.heap H locs → lv_has ls 5 [(0, .ref o0), (1, .int z.1), (2, .int z.2.1), (3, .int z.2.2.1)] → W p l e rm_X8_climbable s m args below meth c H locs 0 0 (MQ below (QI D A r (fl [g8 q o0 a0 z.2.2.2])) args s 0 0 A) (F0 m 4 ls [])) (fun kz hkz z hz H locs ls hP hD hS hl => b_X8_climbable_4 C (fun x1 x2 x3 S0 hz => hkz (x1, x2, x3, S0) hz) hz hP hD hS hl) FU (x1, x2, x3, S0) hF
set_option maxRecDepth 100000 in
set_option maxHeartbeats 4000000 in
theorem c_X8_climbable (l : Launch) (D : va_G) (q : Nat → ClassId) (o0 : Nat) (a0 : Nat → Nat) (S0 : St) (sz : Nat) (x1 : Int32) {r : Int32} (hF : F_X8_climbable S0 x1 = some (r)) : Met l yX8_climbable (Cond.code yX8_climbable cX8_climbable 5 (some .int) :: TB) rm_X8_climbable (PC D q [.ref o0, .int x1] (fl [g8 q o0 a0 S0]) sz) ((fun A => QI D A r (fl [g8 q o0 a0 S0])) (va_A (fl [g8 q o0 a0 S0]) sz)) 0 0 (va_A (fl [g8 q o0 a0 S0]) sz) := by
  refine k_met (w0 := fl [g8 q o0 a0 S0]) (Q := fun A => QI D A r (fl [g8 q o0 a0 S0])) (by decide +kernel) (Nat.le_of_ble_eq_true rfl) ?_
  intro p e s m args below meth c A ls C hP hD hS hl
  have hl : lv_has ls 5 [(0, .ref o0), (1, .int x1)] := hl
  unfold F_X8_climbable at hF
  have C : cx p s m args meth c cX8_climbable 5 (some .int) RX8 D q A := C
  obtain ⟨hx, hb, hr, hml, hown, hts, hlk, hA, hK, hN, hV⟩ := id C
  refine lv_iconst (v := (0 : Int32)) hx hb dX8_climbable_0 (by decide) ?_
  refine lv_istore_n (lv' := [(2, .int (0 : Int32)), (0, .ref o0), (1, .int x1)]) hx hb dX8_climbable_1 rfl hl (by decide) rfl (fun ls hl => ?_)
  refine lv_iconst (v := (0 : Int32)) hx hb dX8_climbable_2 (by decide) ?_
  refine lv_istore_n (lv' := [(3, .int (0 : Int32)), (2, .int (0 : Int32)), (0, .ref o0), (1, .int x1)]) hx hb dX8_climbable_3 rfl hl (by decide) rfl (fun ls hl => ?_)
  exact l_X8_climbable_4 C hF _ _ _ hP hD hS (lv_sub hl [2, 3, 1, 0] rfl)

abbrev rm_X8_isPleased : Room := ({ frames := 0, cells := 0, slots := 0, locals := 0 } : Room)
def F_X8_isPleased (S0 : St) (x1 : Int32) : Option (Int32) := if oob x1 6 then none else if oob x1 6 then none else if oob x1 6 then none else if ((S0.2.2.1 9 x1.toNatClampNeg) &&& (S0.2.2.1 10 x1.toNatClampNeg)) = (S0.2.2.1 10 x1.toNatClampNeg) then (some ((1 : Int32))) else (some ((0 : Int32)))
set_option maxRecDepth 100000 in
set_option maxHeartbeats 4000000 in
theorem c_X8_isPleased (l : Launch) (D : va_G) (q : Nat → ClassId) (o0 : Nat) (a0 : Nat → Nat) (S0 : St) (sz : Nat) (x1 : Int32) {r : Int32} (hF : F_X8_isPleased S0 x1 = some (r)) : Met l yX8_isPleased (Cond.code yX8_isPleased cX8_isPleased 2 (some .boolean) :: TB) rm_X8_isPleased (PC D q [.ref o0, .int x1] (fl [g8 q o0 a0 S0]) sz) ((fun A => QI D A r (fl [g8 q o0 a0 S0])) (va_A (fl [g8 q o0 a0 S0]) sz)) 0 0 (va_A (fl [g8 q o0 a0 S0]) sz) := by
  refine k_met (w0 := fl [g8 q o0 a0 S0]) (Q := fun A => QI D A r (fl [g8 q o0 a0 S0])) (by decide +kernel) (Nat.le_of_ble_eq_true rfl) ?_
  intro p e s m args below meth c A ls C hP hD hS hl
  have hl : lv_has ls 2 [(0, .ref o0), (1, .int x1)] := hl
  unfold F_X8_isPleased at hF
  have C : cx p s m args meth c cX8_isPleased 2 (some .boolean) RX8 D q A := C
  obtain ⟨hx, hb, hr, hml, hown, hts, hlk, hA, hK, hN, hV⟩ := id C
  refine lv_aload_n hx hb dX8_isPleased_0 rfl (lv_at hl 0 rfl) ?_
  refine k_get (v := .ref (a0 10)) C fg_X8_28 hP 0 rfl rfl dX8_isPleased_1 ?_
  refine lv_iload_n hx hb dX8_isPleased_4 rfl (lv_at hl 1 rfl) ?_
  obtain ⟨h1, hF⟩ := op_ck hF
  refine k_ild (f := S0.2.2.1 9) C hP 6 rfl h1 dX8_isPleased_5 ?_
  refine lv_aload_n hx hb dX8_isPleased_6 rfl (lv_at hl 0 rfl) ?_
  refine k_get (v := .ref (a0 11)) C fg_X8_31 hP 0 rfl rfl dX8_isPleased_7 ?_
  refine lv_iload_n hx hb dX8_isPleased_10 rfl (lv_at hl 1 rfl) ?_
  obtain ⟨h2, hF⟩ := op_ck hF
  refine k_ild (f := S0.2.2.1 10) C hP 7 rfl h2 dX8_isPleased_11 ?_
  refine lv_iand hx hb dX8_isPleased_12 ?_
  refine lv_aload_n hx hb dX8_isPleased_13 rfl (lv_at hl 0 rfl) ?_
  refine k_get (v := .ref (a0 11)) C fg_X8_31 hP 0 rfl rfl dX8_isPleased_14 ?_
  refine lv_iload_n hx hb dX8_isPleased_17 rfl (lv_at hl 1 rfl) ?_
  obtain ⟨h3, hF⟩ := op_ck hF
  refine k_ild (f := S0.2.2.1 10) C hP 7 rfl h3 dX8_isPleased_18 ?_
  refine lv_icmp_ne (tgt := 26) hx hb dX8_isPleased_19 (by decide) (fun c4 => ?_) (fun c4 => ?_)
  · have hF := op_f hF c4
    refine lv_iconst (v := (0 : Int32)) hx hb dX8_isPleased_26 (by decide) ?_
    cases hF
    exact k_zret C (by decide) hP hS dX8_isPleased_27
  · have hF := op_t hF c4
    refine lv_iconst (v := (1 : Int32)) hx hb dX8_isPleased_22 (by decide) ?_
    refine lv_goto (tgt := 27) hx hb dX8_isPleased_23 (by decide) ?_
    cases hF
    exact k_zret C (by decide) hP hS dX8_isPleased_27

abbrev rm_X4_weigh : Room := ({ frames := 3, cells := 0, slots := 0, locals := 68 } : Room)
def F_X4_weigh_87 (k47 : Int32 × Int32 × Int32 × St × St → Option (St)) (x2 : Int32) (x3 : Int32) (x4 : Int32) (S0 : St) (S1 : St) : Option (St) := k47 (x2, x3, (x4 + 1), S0, S1)
def F_X4_weigh_47 (k47 : Int32 × Int32 × Int32 × St × St → Option (St)) (x2 : Int32) (x3 : Int32) (x4 : Int32) (S0 : St) (S1 : St) : Option (St) := if (S1.1 0) ≤ x4 then (some (S0)) else (if oob x2 6 then none else ob1 (F_X8_afterClimb S1 (S1.2.2.1 9 x2.toNatClampNeg) x4) fun r4 => if (r4 &&& x3) = x3 then (if oob x2 6 then none else if oob x2 6 then none else nw (sA S0 2 x2 ((S0.2.2.1 2 x2.toNatClampNeg) ||| ((1 : Int32) <<< (x4 &&& 31)))) fun U8 => F_X4_weigh_87 k47 x2 x3 x4 U8 S1) else (F_X4_weigh_87 k47 x2 x3 x4 S0 S1))
def L_X4_weigh_47 (x2 : Int32) (x3 : Int32) (x4 : Int32) (S0 : St) (S1 : St) : Option (St) := lp (fun kz z => F_X4_weigh_47 kz z.1 z.2.1 z.2.2.1 z.2.2.2.1 z.2.2.2.2) FU (x2, x3, x4, S0, S1)
def F_X4_weigh_36 (x2 : Int32) (x3 : Int32) (s1 : Int32) (s2 : Int32) (S0 : St) (S1 : St) : Option (St) := if oob s1 6 then none else nw (sA S0 3 s1 s2) fun U2 => if oob x2 6 then none else nw (sA U2 2 x2 (0 : Int32)) fun U5 => L_X4_weigh_47 x2 x3 (0 : Int32) U5 S1
def F_X4_weigh (S0 : St) (S1 : St) (x2 : Int32) : Option (St) := if oob x2 6 then none else ob1 (F_X8_climbable S1 x2) fun r3 => if oob x2 6 then none else nw (sA S0 1 x2 r3) fun U5 => ob1 (F_X8_isPleased S1 x2) fun r8 => if r8 = 0 then (F_X4_weigh_36 x2 (S1.2.2.1 10 x2.toNatClampNeg) x2 (0 : Int32) U5 S1) else (F_X4_weigh_36 x2 (S1.2.2.1 10 x2.toNatClampNeg) x2 (1 : Int32) U5 S1)
set_option maxRecDepth 100000 in
set_option maxHeartbeats 4000000 in
theorem b_X4_weigh_87 {p : Program} {l : Launch} {e : Env} {s : State} {m : MethodId} {args : Array Value} {below : List Frame} {meth : Method} {c : Code} {D : va_G} {q : Nat → ClassId} {A : Nat → Prop} {o0 : Nat} {a0 : Nat → Nat} {o1 : Nat} {a1 : Nat → Nat} {T0 : St} (C : cx p s m args meth c cX4_weigh 5 none RX4 D q A) {k47 : Int32 × Int32 × Int32 × St × St → Option (St)} (hk47 : ∀ (x2 : Int32) (x3 : Int32) (x4 : Int32) (S0 : St) (S1 : St), k47 (x2, x3, x4, S0, S1) = some (T0) → ∀ (H : Heap) (locs : List Loc) (ls : Array Slot), va_P D vwCl (fl [g4 q o0 a0 S0, g8 q o1 a1 S1]) H → va_D A (fl [g4 q o0 a0 S0, g8 q o1 a1 S1]) → va_S A s.heap H locs → lv_has ls 5 [(0, .ref o0), (1, .ref o1), (2, .int x2), (3, .int x3), (4, .int x4)] → W p l e rm_X4_weigh s m args below meth c H locs 0 0 (MQ below (QV D A (fl [g4 q o0 a0 T0, g8 q o1 a1 S1])) args s 0 0 A) (F0 m 47 ls [])) {x2 : Int32} {x3 : Int32} {x4 : Int32} {S0 : St} {S1 : St} (hF : F_X4_weigh_87 k47 x2 x3 x4 S0 S1 = some (T0)) {H : Heap} {locs : List Loc} (hP : va_P D vwCl (fl [g4 q o0 a0 S0, g8 q o1 a1 S1]) H) (hD : va_D A (fl [g4 q o0 a0 S0, g8 q o1 a1 S1])) (hS : va_S A s.heap H locs) {ls : Array Slot} (hl : lv_has ls 5 [(0, .ref o0), (1, .ref o1), (2, .int x2), (3, .int x3), (4, .int x4)]) : W p l e rm_X4_weigh s m args below meth c H locs 0 0 (MQ below (QV D A (fl [g4 q o0 a0 T0, g8 q o1 a1 S1])) args s 0 0 A) (F0 m 87 ls []) := by
  unfold F_X4_weigh_87 at hF
  obtain ⟨hx, hb, hr, hml, hown, hts, hlk, hA, hK, hN, hV⟩ := id C
  refine lv_iinc (v := (x4 + 1)) (lv' := [(4, .int (x4 + 1)), (0, .ref o0), (1, .ref o1), (2, .int x2), (3, .int x3)]) hx hb dX4_weigh_87 hl (k := 4) rfl rfl (by decide) rfl (fun ls hl => ?_)
  refine lv_goto (tgt := 47) hx hb dX4_weigh_90 (by decide) ?_
  exact hk47 x2 x3 (x4 + 1) S0 S1 hF _ _ _ hP hD hS (lv_sub hl [1, 2, 3, 4, 0] rfl)
set_option maxRecDepth 100000 in
set_option maxHeartbeats 4000000 in
theorem b_X4_weigh_47 {p : Program} {l : Launch} {e : Env} {s : State} {m : MethodId} {args : Array Value} {below : List Frame} {meth : Method} {c : Code} {D : va_G} {q : Nat → ClassId} {A : Nat → Prop} {o0 : Nat} {a0 : Nat → Nat} {o1 : Nat} {a1 : Nat → Nat} {T0 : St} (C : cx p s m args meth c cX4_weigh 5 none RX4 D q A) {k47 : Int32 × Int32 × Int32 × St × St → Option (St)} (hk47 : ∀ (x2 : Int32) (x3 : Int32) (x4 : Int32) (S0 : St) (S1 : St), k47 (x2, x3, x4, S0, S1) = some (T0) → ∀ (H : Heap) (locs : List Loc) (ls : Array Slot), va_P D vwCl (fl [g4 q o0 a0 S0, g8 q o1 a1 S1]) H → va_D A (fl [g4 q o0 a0 S0, g8 q o1 a1 S1]) → va_S A s.heap H locs → lv_has ls 5 [(0, .ref o0), (1, .ref o1), (2, .int x2), (3, .int x3), (4, .int x4)] → W p l e rm_X4_weigh s m args below meth c H locs 0 0 (MQ below (QV D A (fl [g4 q o0 a0 T0, g8 q o1 a1 S1])) args s 0 0 A) (F0 m 47 ls [])) {x2 : Int32} {x3 : Int32} {x4 : Int32} {S0 : St} {S1 : St} (hF : F_X4_weigh_47 k47 x2 x3 x4 S0 S1 = some (T0)) {H : Heap} {locs : List Loc} (hP : va_P D vwCl (fl [g4 q o0 a0 S0, g8 q o1 a1 S1]) H) (hD : va_D A (fl [g4 q o0 a0 S0, g8 q o1 a1 S1])) (hS : va_S A s.heap H locs) {ls : Array Slot} (hl : lv_has ls 5 [(0, .ref o0), (1, .ref o1), (2, .int x2), (3, .int x3), (4, .int x4)]) : W p l e rm_X4_weigh s m args below meth c H locs 0 0 (MQ below (QV D A (fl [g4 q o0 a0 T0, g8 q o1 a1 S1])) args s 0 0 A) (F0 m 47 ls []) := by
  unfold F_X4_weigh_47 at hF
  obtain ⟨hx, hb, hr, hml, hown, hts, hlk, hA, hK, hN, hV⟩ := id C
  refine lv_iload hx hb dX4_weigh_47 (lv_at hl 4 rfl) ?_
  refine lv_aload_n hx hb dX4_weigh_49 rfl (lv_at hl 1 rfl) ?_
  refine k_get (v := .int (S1.1 0)) C fg_X4_60 hP 6 rfl rfl dX4_weigh_50 ?_
  refine lv_icmp_ge (tgt := 93) hx hb dX4_weigh_53 (by decide) (fun c1 => ?_) (fun c1 => ?_)
  · have hF := op_t hF c1
    cases hF
    exact k_vret C hP hS dX4_weigh_93
  · have hF := op_f hF c1
    refine lv_aload_n hx hb dX4_weigh_56 rfl (lv_at hl 1 rfl) ?_
    refine lv_aload_n hx hb dX4_weigh_57 rfl (lv_at hl 1 rfl) ?_
    refine k_get (v := .ref (a1 10)) C fg_X4_63 hP 6 rfl rfl dX4_weigh_58 ?_
    refine lv_iload_n hx hb dX4_weigh_61 rfl (lv_at hl 2 rfl) ?_
    obtain ⟨h2, hF⟩ := op_ck hF
    refine k_ild (f := S1.2.2.1 9) C hP 12 rfl h2 dX4_weigh_62 ?_
    refine lv_iload hx hb dX4_weigh_63 (lv_at hl 4 rfl) ?_
    obtain ⟨r4, hc3, hF⟩ := ob1_s hF
    refine k_iro C (k_rV (As := [.int (S1.2.2.1 9 x2.toNatClampNeg), .int x4]) (rest := []) C (c_X8_afterClimb l D q o1 a1 S1 _ (S1.2.2.1 9 x2.toNatClampNeg) x4 hc3) kc_X8_afterClimb ml_X4_66 rfl rfl (by decide) (flP hP [1] rfl) (flD hD [1] (by decide) rfl) hS (va_recv hK hP (ci := 8) (q0 := 6) rfl rfl) rfl hl.1 rfl (Nat.le_of_ble_eq_true rfl) dX4_weigh_65 (by decide)) hP hD hS [1] [0] [g4 q o0 a0 S0] 2 (by decide) rfl rfl rfl rfl (fun H locs hP hD hS => ?_)
    refine lv_iload_n hx hb dX4_weigh_68 rfl (lv_at hl 3 rfl) ?_
    refine lv_iand hx hb dX4_weigh_69 ?_
    refine lv_iload_n hx hb dX4_weigh_70 rfl (lv_at hl 3 rfl) ?_
    refine lv_icmp_ne (tgt := 87) hx hb dX4_weigh_71 (by decide) (fun c5 => ?_) (fun c5 => ?_)
    · have hF := op_f hF c5
      exact b_X4_weigh_87 C hk47 hF hP hD hS (lv_sub hl [0, 1, 2, 3, 4] rfl)
    · have hF := op_t hF c5
      refine lv_aload_n hx hb dX4_weigh_74 rfl (lv_at hl 0 rfl) ?_
      refine k_get (v := .ref (a0 3)) C fg_X4_18 hP 0 rfl rfl dX4_weigh_75 ?_
      refine lv_iload_n hx hb dX4_weigh_78 rfl (lv_at hl 2 rfl) ?_
      refine lv_dup2_11 hx hb dX4_weigh_79 rfl rfl ?_
      obtain ⟨h6, hF⟩ := op_ck hF
      refine k_ild (f := S0.2.2.1 2) C hP 3 rfl h6 dX4_weigh_80 ?_
      refine lv_iconst (v := (1 : Int32)) hx hb dX4_weigh_81 (by decide) ?_
      refine lv_iload hx hb dX4_weigh_82 (lv_at hl 4 rfl) ?_
      refine lv_ishl hx hb dX4_weigh_84 ?_
      refine lv_ior hx hb dX4_weigh_85 ?_
      obtain ⟨h7, hF⟩ := op_ck hF
      obtain ⟨U8, e9, hF⟩ := nw_s hF
      refine k_ist (f := S0.2.2.1 2) (W8 := fl [g4 q o0 a0 U8, g8 q o1 a1 S1]) C hP hD hS 3 rfl h7 dX4_weigh_86 (by rw [e9]; rfl) (fun H locs hP hD hS => ?_)
      exact b_X4_weigh_87 C hk47 hF hP hD hS (lv_sub hl [0, 1, 2, 3, 4] rfl)
set_option maxRecDepth 100000 in
set_option maxHeartbeats 4000000 in
theorem l_X4_weigh_47 {p : Program} {l : Launch} {e : Env} {s : State} {m : MethodId} {args : Array Value} {below : List Frame} {meth : Method} {c : Code} {D : va_G} {q : Nat → ClassId} {A : Nat → Prop} {o0 : Nat} {a0 : Nat → Nat} {o1 : Nat} {a1 : Nat → Nat} {T0 : St} (C : cx p s m args meth c cX4_weigh 5 none RX4 D q A) {x2 : Int32} {x3 : Int32} {x4 : Int32} {S0 : St} {S1 : St} (hF : L_X4_weigh_47 x2 x3 x4 S0 S1 = some (T0)) : ∀ (H : Heap) (locs : List Loc) (ls : Array Slot), va_P D vwCl (fl [g4 q o0 a0 S0, g8 q o1 a1 S1]) H → va_D A (fl [g4 q o0 a0 S0, g8 q o1 a1 S1]) → va_S A s.heap H locs → lv_has ls 5 [(0, .ref o0), (1, .ref o1), (2, .int x2), (3, .int x3), (4, .int x4)] → W p l e rm_X4_weigh s m args below meth c H locs 0 0 (MQ below (QV D A (fl [g4 q o0 a0 T0, g8 q o1 a1 S1])) args s 0 0 A) (F0 m 47 ls []) :=
  lp_G _ _ (fun z => ∀ (H : Heap) (locs : List Loc) (ls : Array Slot), va_P D vwCl (fl [g4 q o0 a0 z.2.2.2.1, g8 q o1 a1 z.2.2.2.2]) H → va_D A (fl [g4 q o0 a0 z.2.2.2.1, g8 q o1 a1 z.2.2.2.2]) → va_S A s.heap H locs → lv_has ls 5 [(0, .ref o0), (1, .ref o1), (2, .int z.1), (3, .int z.2.1), (4, .int z.2.2.1)] → W p l e rm_X4_weigh s m args below meth c H locs 0 0 (MQ below (QV D A (fl [g4 q o0 a0 T0, g8 q o1 a1 z.2.2.2.2])) args s 0 0 A) (F0 m 47 ls [])) (fun kz hkz z hz H locs ls hP hD hS hl => b_X4_weigh_47 C (fun x2 x3 x4 S0 S1 hz => hkz (x2, x3, x4, S0, S1) hz) hz hP hD hS hl) FU (x2, x3, x4, S0, S1) hF
set_option maxRecDepth 100000 in
set_option maxHeartbeats 4000000 in
theorem b_X4_weigh_36 {p : Program} {l : Launch} {e : Env} {s : State} {m : MethodId} {args : Array Value} {below : List Frame} {meth : Method} {c : Code} {D : va_G} {q : Nat → ClassId} {A : Nat → Prop} {o0 : Nat} {a0 : Nat → Nat} {o1 : Nat} {a1 : Nat → Nat} {T0 : St} (C : cx p s m args meth c cX4_weigh 5 none RX4 D q A) {x2 : Int32} {x3 : Int32} {s1 : Int32} {s2 : Int32} {S0 : St} {S1 : St} (hF : F_X4_weigh_36 x2 x3 s1 s2 S0 S1 = some (T0)) {H : Heap} {locs : List Loc} (hP : va_P D vwCl (fl [g4 q o0 a0 S0, g8 q o1 a1 S1]) H) (hD : va_D A (fl [g4 q o0 a0 S0, g8 q o1 a1 S1])) (hS : va_S A s.heap H locs) {ls : Array Slot} (hl : lv_has ls 5 [(0, .ref o0), (1, .ref o1), (2, .int x2), (3, .int x3)]) : W p l e rm_X4_weigh s m args below meth c H locs 0 0 (MQ below (QV D A (fl [g4 q o0 a0 T0, g8 q o1 a1 S1])) args s 0 0 A) (F0 m 36 ls [.int s2, .int s1, .ref (a0 4)]) := by
  unfold F_X4_weigh_36 at hF
  obtain ⟨hx, hb, hr, hml, hown, hts, hlk, hA, hK, hN, hV⟩ := id C
  obtain ⟨h1, hF⟩ := op_ck hF
  obtain ⟨U2, e3, hF⟩ := nw_s hF
  refine k_ist (f := S0.2.2.1 3) (W8 := fl [g4 q o0 a0 U2, g8 q o1 a1 S1]) C hP hD hS 4 rfl h1 dX4_weigh_36 (by rw [e3]; rfl) (fun H locs hP hD hS => ?_)
  refine lv_aload_n hx hb dX4_weigh_37 rfl (lv_at hl 0 rfl) ?_
  refine k_get (v := .ref (a0 3)) C fg_X4_18 hP 0 rfl rfl dX4_weigh_38 ?_
  refine lv_iload_n hx hb dX4_weigh_41 rfl (lv_at hl 2 rfl) ?_
  refine lv_iconst (v := (0 : Int32)) hx hb dX4_weigh_42 (by decide) ?_
  obtain ⟨h4, hF⟩ := op_ck hF
  obtain ⟨U5, e6, hF⟩ := nw_s hF
  refine k_ist (f := U2.2.2.1 2) (W8 := fl [g4 q o0 a0 U5, g8 q o1 a1 S1]) C hP hD hS 3 rfl h4 dX4_weigh_43 (by rw [e6]; rfl) (fun H locs hP hD hS => ?_)
  refine lv_iconst (v := (0 : Int32)) hx hb dX4_weigh_44 (by decide) ?_
  refine lv_istore (lv' := [(4, .int (0 : Int32)), (0, .ref o0), (1, .ref o1), (2, .int x2), (3, .int x3)]) hx hb dX4_weigh_45 hl (by decide) rfl (fun ls hl => ?_)
  exact l_X4_weigh_47 C hF _ _ _ hP hD hS (lv_sub hl [1, 2, 3, 4, 0] rfl)
set_option maxRecDepth 100000 in
set_option maxHeartbeats 4000000 in
theorem c_X4_weigh (l : Launch) (D : va_G) (q : Nat → ClassId) (o0 : Nat) (a0 : Nat → Nat) (S0 : St) (o1 : Nat) (a1 : Nat → Nat) (S1 : St) (sz : Nat) (x2 : Int32) {T0 : St} (hF : F_X4_weigh S0 S1 x2 = some (T0)) : Met l yX4_weigh (Cond.code yX4_weigh cX4_weigh 5 none :: TB) rm_X4_weigh (PC D q [.ref o0, .ref o1, .int x2] (fl [g4 q o0 a0 S0, g8 q o1 a1 S1]) sz) ((fun A => QV D A (fl [g4 q o0 a0 T0, g8 q o1 a1 S1])) (va_A (fl [g4 q o0 a0 S0, g8 q o1 a1 S1]) sz)) 0 0 (va_A (fl [g4 q o0 a0 S0, g8 q o1 a1 S1]) sz) := by
  refine k_met (w0 := fl [g4 q o0 a0 S0, g8 q o1 a1 S1]) (Q := fun A => QV D A (fl [g4 q o0 a0 T0, g8 q o1 a1 S1])) (by decide +kernel) (Nat.le_of_ble_eq_true rfl) ?_
  intro p e s m args below meth c A ls C hP hD hS hl
  have hl : lv_has ls 5 [(0, .ref o0), (1, .ref o1), (2, .int x2)] := hl
  unfold F_X4_weigh at hF
  have C : cx p s m args meth c cX4_weigh 5 none RX4 D q A := C
  obtain ⟨hx, hb, hr, hml, hown, hts, hlk, hA, hK, hN, hV⟩ := id C
  refine lv_aload_n hx hb dX4_weigh_0 rfl (lv_at hl 1 rfl) ?_
  refine k_get (v := .ref (a1 11)) C fg_X4_50 hP 6 rfl rfl dX4_weigh_1 ?_
  refine lv_iload_n hx hb dX4_weigh_4 rfl (lv_at hl 2 rfl) ?_
  obtain ⟨h1, hF⟩ := op_ck hF
  refine k_ild (f := S1.2.2.1 10) C hP 13 rfl h1 dX4_weigh_5 ?_
  refine lv_istore_n (lv' := [(3, .int (S1.2.2.1 10 x2.toNatClampNeg)), (0, .ref o0), (1, .ref o1), (2, .int x2)]) hx hb dX4_weigh_6 rfl hl (by decide) rfl (fun ls hl => ?_)
  refine lv_aload_n hx hb dX4_weigh_7 rfl (lv_at hl 1 rfl) ?_
  refine k_get (v := .ref (a0 2)) C fg_X4_15 hP 0 rfl rfl dX4_weigh_8 ?_
  refine lv_iload_n hx hb dX4_weigh_11 rfl (lv_at hl 3 rfl) ?_
  refine lv_aload_n hx hb dX4_weigh_12 rfl (lv_at hl 2 rfl) ?_
  refine lv_iload_n hx hb dX4_weigh_13 rfl (lv_at hl 3 rfl) ?_
  obtain ⟨r3, hc2, hF⟩ := ob1_s hF
  refine k_iro C (k_rV (As := [.int x2]) (rest := [.int x2, .ref (a0 2)]) C (c_X8_climbable l D q o1 a1 S1 _ x2 hc2) kc_X8_climbable ml_X4_53 rfl rfl (by decide) (flP hP [1] rfl) (flD hD [1] (by decide) rfl) hS (va_recv hK hP (ci := 8) (q0 := 6) rfl rfl) rfl hl.1 rfl (Nat.le_of_ble_eq_true rfl) dX4_weigh_14 (by decide)) hP hD hS [1] [0] [g4 q o0 a0 S0] 2 (by decide) rfl rfl rfl rfl (fun H locs hP hD hS => ?_)
  obtain ⟨h4, hF⟩ := op_ck hF
  obtain ⟨U5, e6, hF⟩ := nw_s hF
  refine k_ist (f := S0.2.2.1 1) (W8 := fl [g4 q o0 a0 U5, g8 q o1 a1 S1]) C hP hD hS 2 rfl h4 dX4_weigh_17 (by rw [e6]; rfl) (fun H locs hP hD hS => ?_)
  refine lv_aload_n hx hb dX4_weigh_18 rfl (lv_at hl 1 rfl) ?_
  refine k_get (v := .ref (a0 4)) C fg_X4_21 hP 0 rfl rfl dX4_weigh_19 ?_
  refine lv_iload_n hx hb dX4_weigh_22 rfl (lv_at hl 3 rfl) ?_
  refine lv_aload_n hx hb dX4_weigh_23 rfl (lv_at hl 2 rfl) ?_
  refine lv_iload_n hx hb dX4_weigh_24 rfl (lv_at hl 3 rfl) ?_
  obtain ⟨r8, hc7, hF⟩ := ob1_s hF
  refine k_iro C (k_rV (As := [.int x2]) (rest := [.int x2, .ref (a0 4)]) C (c_X8_isPleased l D q o1 a1 S1 _ x2 hc7) kc_X8_isPleased ml_X4_56 rfl rfl (by decide) (flP hP [1] rfl) (flD hD [1] (by decide) rfl) hS (va_recv hK hP (ci := 8) (q0 := 6) rfl rfl) rfl hl.1 rfl (Nat.le_of_ble_eq_true rfl) dX4_weigh_25 (by decide)) hP hD hS [1] [0] [g4 q o0 a0 U5] 2 (by decide) rfl rfl rfl rfl (fun H locs hP hD hS => ?_)
  refine lv_if_eq (tgt := 35) hx hb dX4_weigh_28 (by decide) (fun c9 => ?_) (fun c9 => ?_)
  · have hF := op_t hF c9
    refine lv_iconst (v := (0 : Int32)) hx hb dX4_weigh_35 (by decide) ?_
    exact b_X4_weigh_36 C hF hP hD hS (lv_sub hl [1, 2, 3, 0] rfl)
  · have hF := op_f hF c9
    refine lv_iconst (v := (1 : Int32)) hx hb dX4_weigh_31 (by decide) ?_
    refine lv_goto (tgt := 36) hx hb dX4_weigh_32 (by decide) ?_
    exact b_X4_weigh_36 C hF hP hD hS (lv_sub hl [1, 2, 3, 0] rfl)

abbrev rm_X4_bestWith : Room := ({ frames := 0, cells := 0, slots := 0, locals := 0 } : Room)
def F_X4_bestWith (S0 : St) (x1 : Int32) (x2 : Int32) (x3 : Int32) : Option (Int32) := if oob x1 6 then none else if oob (((x1 + (1 : Int32)) * (128 : Int32)) + (x2 ||| ((1 : Int32) <<< (x3 &&& 31)))) 896 then none else some (((((S0.2.2.1 2 x1.toNatClampNeg) >>> (x3 &&& 31)) &&& (1 : Int32)) + (S0.2.2.1 0 (((x1 + (1 : Int32)) * (128 : Int32)) + (x2 ||| ((1 : Int32) <<< (x3 &&& 31)))).toNatClampNeg)))
set_option maxRecDepth 100000 in
set_option maxHeartbeats 4000000 in
theorem c_X4_bestWith (l : Launch) (D : va_G) (q : Nat → ClassId) (o0 : Nat) (a0 : Nat → Nat) (S0 : St) (sz : Nat) (x1 : Int32) (x2 : Int32) (x3 : Int32) {r : Int32} (hF : F_X4_bestWith S0 x1 x2 x3 = some (r)) : Met l yX4_bestWith (Cond.code yX4_bestWith cX4_bestWith 4 (some .int) :: TB) rm_X4_bestWith (PC D q [.ref o0, .int x1, .int x2, .int x3] (fl [g4 q o0 a0 S0]) sz) ((fun A => QI D A r (fl [g4 q o0 a0 S0])) (va_A (fl [g4 q o0 a0 S0]) sz)) 0 0 (va_A (fl [g4 q o0 a0 S0]) sz) := by
  refine k_met (w0 := fl [g4 q o0 a0 S0]) (Q := fun A => QI D A r (fl [g4 q o0 a0 S0])) (by decide +kernel) (Nat.le_of_ble_eq_true rfl) ?_
  intro p e s m args below meth c A ls C hP hD hS hl
  have hl : lv_has ls 4 [(0, .ref o0), (1, .int x1), (2, .int x2), (3, .int x3)] := hl
  unfold F_X4_bestWith at hF
  have C : cx p s m args meth c cX4_bestWith 4 (some .int) RX4 D q A := C
  obtain ⟨hx, hb, hr, hml, hown, hts, hlk, hA, hK, hN, hV⟩ := id C
  refine lv_aload_n hx hb dX4_bestWith_0 rfl (lv_at hl 0 rfl) ?_
  refine k_get (v := .ref (a0 3)) C fg_X4_18 hP 0 rfl rfl dX4_bestWith_1 ?_
  refine lv_iload_n hx hb dX4_bestWith_4 rfl (lv_at hl 1 rfl) ?_
  obtain ⟨h1, hF⟩ := op_ck hF
  refine k_ild (f := S0.2.2.1 2) C hP 3 rfl h1 dX4_bestWith_5 ?_
  refine lv_iload_n hx hb dX4_bestWith_6 rfl (lv_at hl 3 rfl) ?_
  refine lv_ishr hx hb dX4_bestWith_7 ?_
  refine lv_iconst (v := (1 : Int32)) hx hb dX4_bestWith_8 (by decide) ?_
  refine lv_iand hx hb dX4_bestWith_9 ?_
  refine lv_aload_n hx hb dX4_bestWith_10 rfl (lv_at hl 0 rfl) ?_
  refine k_get (v := .ref (a0 1)) C fg_X4_9 hP 0 rfl rfl dX4_bestWith_11 ?_
  refine lv_iload_n hx hb dX4_bestWith_14 rfl (lv_at hl 1 rfl) ?_
  refine lv_iconst (v := (1 : Int32)) hx hb dX4_bestWith_15 (by decide) ?_
  refine lv_iadd hx hb dX4_bestWith_16 ?_
  refine lv_sipush (v := (128 : Int32)) hx hb dX4_bestWith_17 (by decide) ?_
  refine lv_imul hx hb dX4_bestWith_20 ?_
  refine lv_iload_n hx hb dX4_bestWith_21 rfl (lv_at hl 2 rfl) ?_
  refine lv_iconst (v := (1 : Int32)) hx hb dX4_bestWith_22 (by decide) ?_
  refine lv_iload_n hx hb dX4_bestWith_23 rfl (lv_at hl 3 rfl) ?_
  refine lv_ishl hx hb dX4_bestWith_24 ?_
  refine lv_ior hx hb dX4_bestWith_25 ?_
  refine lv_iadd hx hb dX4_bestWith_26 ?_
  obtain ⟨h2, hF⟩ := op_ck hF
  refine k_ild (f := S0.2.2.1 0) C hP 1 rfl h2 dX4_bestWith_27 ?_
  refine lv_iadd hx hb dX4_bestWith_28 ?_
  cases hF
  exact k_iret C hP hS dX4_bestWith_29

abbrev rm_X4_bestOf : Room := ({ frames := 1, cells := 0, slots := 0, locals := 23 } : Room)
def F_X4_bestOf_68 (k37 : Int32 × Int32 × Int32 × Int32 × Int32 × St → Option (Int32)) (x1 : Int32) (x2 : Int32) (x3 : Int32) (x4 : Int32) (x5 : Int32) (S0 : St) : Option (Int32) := k37 (x1, x2, x3, x4, (x5 + 1), S0)
def F_X4_bestOf_37 (k37 : Int32 × Int32 × Int32 × Int32 × Int32 × St → Option (Int32)) (x1 : Int32) (x2 : Int32) (x3 : Int32) (x4 : Int32) (x5 : Int32) (S0 : St) : Option (Int32) := if (7 : Int32) ≤ x5 then (some (x3)) else (if ((x4 >>> (x5 &&& 31)) &&& (1 : Int32)) = (1 : Int32) then (ob1 (F_X4_bestWith S0 x1 x2 x5) fun r4 => F_X4_bestOf_68 k37 x1 x2 (if x3 < r4 then r4 else x3) x4 x5 S0) else (F_X4_bestOf_68 k37 x1 x2 x3 x4 x5 S0))
def L_X4_bestOf_37 (x1 : Int32) (x2 : Int32) (x3 : Int32) (x4 : Int32) (x5 : Int32) (S0 : St) : Option (Int32) := lp (fun kz z => F_X4_bestOf_37 kz z.1 z.2.1 z.2.2.1 z.2.2.2.1 z.2.2.2.2.1 z.2.2.2.2.2) FU (x1, x2, x3, x4, x5, S0)
def F_X4_bestOf (S0 : St) (x1 : Int32) (x2 : Int32) : Option (Int32) := if oob x1 6 then none else if oob (((x1 + (1 : Int32)) * (128 : Int32)) + x2) 896 then none else nw ((S0.2.2.1 3 x1.toNatClampNeg) + (S0.2.2.1 0 (((x1 + (1 : Int32)) * (128 : Int32)) + x2).toNatClampNeg)) fun v3 => if oob x1 6 then none else nw ((S0.2.2.1 1 x1.toNatClampNeg) &&& (x2 ^^^ (-1 : Int32))) fun v6 => L_X4_bestOf_37 x1 x2 v3 v6 (0 : Int32) S0
set_option maxRecDepth 100000 in
set_option maxHeartbeats 4000000 in
theorem b_X4_bestOf_68 {p : Program} {l : Launch} {e : Env} {s : State} {m : MethodId} {args : Array Value} {below : List Frame} {meth : Method} {c : Code} {D : va_G} {q : Nat → ClassId} {A : Nat → Prop} {o0 : Nat} {a0 : Nat → Nat} {r : Int32} (C : cx p s m args meth c cX4_bestOf 6 (some .int) RX4 D q A) {k37 : Int32 × Int32 × Int32 × Int32 × Int32 × St → Option (Int32)} (hk37 : ∀ (x1 : Int32) (x2 : Int32) (x3 : Int32) (x4 : Int32) (x5 : Int32) (S0 : St), k37 (x1, x2, x3, x4, x5, S0) = some (r) → ∀ (H : Heap) (locs : List Loc) (ls : Array Slot), va_P D vwCl (fl [g4 q o0 a0 S0]) H → va_D A (fl [g4 q o0 a0 S0]) → va_S A s.heap H locs → lv_has ls 6 [(0, .ref o0), (1, .int x1), (2, .int x2), (3, .int x3), (4, .int x4), (5, .int x5)] → W p l e rm_X4_bestOf s m args below meth c H locs 0 0 (MQ below (QI D A r (fl [g4 q o0 a0 S0])) args s 0 0 A) (F0 m 37 ls [])) {x1 : Int32} {x2 : Int32} {x3 : Int32} {x4 : Int32} {x5 : Int32} {S0 : St} (hF : F_X4_bestOf_68 k37 x1 x2 x3 x4 x5 S0 = some (r)) {H : Heap} {locs : List Loc} (hP : va_P D vwCl (fl [g4 q o0 a0 S0]) H) (hD : va_D A (fl [g4 q o0 a0 S0])) (hS : va_S A s.heap H locs) {ls : Array Slot} (hl : lv_has ls 6 [(0, .ref o0), (1, .int x1), (2, .int x2), (3, .int x3), (4, .int x4), (5, .int x5)]) : W p l e rm_X4_bestOf s m args below meth c H locs 0 0 (MQ below (QI D A r (fl [g4 q o0 a0 S0])) args s 0 0 A) (F0 m 68 ls []) := by
  unfold F_X4_bestOf_68 at hF
  obtain ⟨hx, hb, hr, hml, hown, hts, hlk, hA, hK, hN, hV⟩ := id C
  refine lv_iinc (v := (x5 + 1)) (lv' := [(5, .int (x5 + 1)), (0, .ref o0), (1, .int x1), (2, .int x2), (3, .int x3), (4, .int x4)]) hx hb dX4_bestOf_68 hl (k := 5) rfl rfl (by decide) rfl (fun ls hl => ?_)
  refine lv_goto (tgt := 37) hx hb dX4_bestOf_71 (by decide) ?_
  exact hk37 x1 x2 x3 x4 (x5 + 1) S0 hF _ _ _ hP hD hS (lv_sub hl [1, 2, 3, 4, 5, 0] rfl)
set_option maxRecDepth 100000 in
set_option maxHeartbeats 4000000 in
theorem b_X4_bestOf_37 {p : Program} {l : Launch} {e : Env} {s : State} {m : MethodId} {args : Array Value} {below : List Frame} {meth : Method} {c : Code} {D : va_G} {q : Nat → ClassId} {A : Nat → Prop} {o0 : Nat} {a0 : Nat → Nat} {r : Int32} (C : cx p s m args meth c cX4_bestOf 6 (some .int) RX4 D q A) {k37 : Int32 × Int32 × Int32 × Int32 × Int32 × St → Option (Int32)} (hk37 : ∀ (x1 : Int32) (x2 : Int32) (x3 : Int32) (x4 : Int32) (x5 : Int32) (S0 : St), k37 (x1, x2, x3, x4, x5, S0) = some (r) → ∀ (H : Heap) (locs : List Loc) (ls : Array Slot), va_P D vwCl (fl [g4 q o0 a0 S0]) H → va_D A (fl [g4 q o0 a0 S0]) → va_S A s.heap H locs → lv_has ls 6 [(0, .ref o0), (1, .int x1), (2, .int x2), (3, .int x3), (4, .int x4), (5, .int x5)] → W p l e rm_X4_bestOf s m args below meth c H locs 0 0 (MQ below (QI D A r (fl [g4 q o0 a0 S0])) args s 0 0 A) (F0 m 37 ls [])) {x1 : Int32} {x2 : Int32} {x3 : Int32} {x4 : Int32} {x5 : Int32} {S0 : St} (hF : F_X4_bestOf_37 k37 x1 x2 x3 x4 x5 S0 = some (r)) {H : Heap} {locs : List Loc} (hP : va_P D vwCl (fl [g4 q o0 a0 S0]) H) (hD : va_D A (fl [g4 q o0 a0 S0])) (hS : va_S A s.heap H locs) {ls : Array Slot} (hl : lv_has ls 6 [(0, .ref o0), (1, .int x1), (2, .int x2), (3, .int x3), (4, .int x4), (5, .int x5)]) : W p l e rm_X4_bestOf s m args below meth c H locs 0 0 (MQ below (QI D A r (fl [g4 q o0 a0 S0])) args s 0 0 A) (F0 m 37 ls []) := by
  unfold F_X4_bestOf_37 at hF
  obtain ⟨hx, hb, hr, hml, hown, hts, hlk, hA, hK, hN, hV⟩ := id C
  refine lv_iload hx hb dX4_bestOf_37 (lv_at hl 5 rfl) ?_
  refine lv_bipush (v := (7 : Int32)) hx hb dX4_bestOf_39 (by decide) ?_
  refine lv_icmp_ge (tgt := 74) hx hb dX4_bestOf_41 (by decide) (fun c1 => ?_) (fun c1 => ?_)
  · have hF := op_t hF c1
    refine lv_iload_n hx hb dX4_bestOf_74 rfl (lv_at hl 3 rfl) ?_
    cases hF
    exact k_iret C hP hS dX4_bestOf_75
  · have hF := op_f hF c1
    refine lv_iload hx hb dX4_bestOf_44 (lv_at hl 4 rfl) ?_
    refine lv_iload hx hb dX4_bestOf_46 (lv_at hl 5 rfl) ?_
    refine lv_ishr hx hb dX4_bestOf_48 ?_
    refine lv_iconst (v := (1 : Int32)) hx hb dX4_bestOf_49 (by decide) ?_
    refine lv_iand hx hb dX4_bestOf_50 ?_
    refine lv_iconst (v := (1 : Int32)) hx hb dX4_bestOf_51 (by decide) ?_
    refine lv_icmp_ne (tgt := 68) hx hb dX4_bestOf_52 (by decide) (fun c2 => ?_) (fun c2 => ?_)
    · have hF := op_f hF c2
      exact b_X4_bestOf_68 C hk37 hF hP hD hS (lv_sub hl [0, 1, 2, 3, 4, 5] rfl)
    · have hF := op_t hF c2
      refine lv_iload_n hx hb dX4_bestOf_55 rfl (lv_at hl 3 rfl) ?_
      refine lv_aload_n hx hb dX4_bestOf_56 rfl (lv_at hl 0 rfl) ?_
      refine lv_iload_n hx hb dX4_bestOf_57 rfl (lv_at hl 1 rfl) ?_
      refine lv_iload_n hx hb dX4_bestOf_58 rfl (lv_at hl 2 rfl) ?_
      refine lv_iload hx hb dX4_bestOf_59 (lv_at hl 5 rfl) ?_
      obtain ⟨r4, hc3, hF⟩ := ob1_s hF
      refine k_isame C (k_rV (As := [.int x1, .int x2, .int x5]) (rest := [.int x3]) C (c_X4_bestWith l D q o0 a0 S0 _ x1 x2 x5 hc3) kc_X4_bestWith ml_X4_69 rfl rfl (by decide) hP hD hS (va_recv hK hP (ci := 4) (q0 := 0) rfl rfl) rfl hl.1 rfl (Nat.le_of_ble_eq_true rfl) dX4_bestOf_61 (by decide)) hP hD hS (fun H locs hP hD hS => ?_)
      refine k_max C ml_X4_73 kmath_max hl.1 ⟨Nat.le_of_ble_eq_true rfl, Nat.le_of_ble_eq_true rfl⟩ (by decide) dX4_bestOf_64 ?_
      refine lv_istore_n (lv' := [(3, .int (if x3 < r4 then r4 else x3)), (0, .ref o0), (1, .int x1), (2, .int x2), (4, .int x4), (5, .int x5)]) hx hb dX4_bestOf_67 rfl hl (by decide) rfl (fun ls hl => ?_)
      exact b_X4_bestOf_68 C hk37 hF hP hD hS (lv_sub hl [1, 2, 3, 0, 4, 5] rfl)
set_option maxRecDepth 100000 in
set_option maxHeartbeats 4000000 in
theorem l_X4_bestOf_37 {p : Program} {l : Launch} {e : Env} {s : State} {m : MethodId} {args : Array Value} {below : List Frame} {meth : Method} {c : Code} {D : va_G} {q : Nat → ClassId} {A : Nat → Prop} {o0 : Nat} {a0 : Nat → Nat} {r : Int32} (C : cx p s m args meth c cX4_bestOf 6 (some .int) RX4 D q A) {x1 : Int32} {x2 : Int32} {x3 : Int32} {x4 : Int32} {x5 : Int32} {S0 : St} (hF : L_X4_bestOf_37 x1 x2 x3 x4 x5 S0 = some (r)) : ∀ (H : Heap) (locs : List Loc) (ls : Array Slot), va_P D vwCl (fl [g4 q o0 a0 S0]) H → va_D A (fl [g4 q o0 a0 S0]) → va_S A s.heap H locs → lv_has ls 6 [(0, .ref o0), (1, .int x1), (2, .int x2), (3, .int x3), (4, .int x4), (5, .int x5)] → W p l e rm_X4_bestOf s m args below meth c H locs 0 0 (MQ below (QI D A r (fl [g4 q o0 a0 S0])) args s 0 0 A) (F0 m 37 ls []) :=
  lp_G _ _ (fun z => ∀ (H : Heap) (locs : List Loc) (ls : Array Slot), va_P D vwCl (fl [g4 q o0 a0 z.2.2.2.2.2]) H → va_D A (fl [g4 q o0 a0 z.2.2.2.2.2]) → va_S A s.heap H locs → lv_has ls 6 [(0, .ref o0), (1, .int z.1), (2, .int z.2.1), (3, .int z.2.2.1), (4, .int z.2.2.2.1), (5, .int z.2.2.2.2.1)] → W p l e rm_X4_bestOf s m args below meth c H locs 0 0 (MQ below (QI D A r (fl [g4 q o0 a0 z.2.2.2.2.2])) args s 0 0 A) (F0 m 37 ls [])) (fun kz hkz z hz H locs ls hP hD hS hl => b_X4_bestOf_37 C (fun x1 x2 x3 x4 x5 S0 hz => hkz (x1, x2, x3, x4, x5, S0) hz) hz hP hD hS hl) FU (x1, x2, x3, x4, x5, S0) hF
set_option maxRecDepth 100000 in
set_option maxHeartbeats 4000000 in
theorem c_X4_bestOf (l : Launch) (D : va_G) (q : Nat → ClassId) (o0 : Nat) (a0 : Nat → Nat) (S0 : St) (sz : Nat) (x1 : Int32) (x2 : Int32) {r : Int32} (hF : F_X4_bestOf S0 x1 x2 = some (r)) : Met l yX4_bestOf (Cond.code yX4_bestOf cX4_bestOf 6 (some .int) :: TB) rm_X4_bestOf (PC D q [.ref o0, .int x1, .int x2] (fl [g4 q o0 a0 S0]) sz) ((fun A => QI D A r (fl [g4 q o0 a0 S0])) (va_A (fl [g4 q o0 a0 S0]) sz)) 0 0 (va_A (fl [g4 q o0 a0 S0]) sz) := by
  refine k_met (w0 := fl [g4 q o0 a0 S0]) (Q := fun A => QI D A r (fl [g4 q o0 a0 S0])) (by decide +kernel) (Nat.le_of_ble_eq_true rfl) ?_
  intro p e s m args below meth c A ls C hP hD hS hl
  have hl : lv_has ls 6 [(0, .ref o0), (1, .int x1), (2, .int x2)] := hl
  unfold F_X4_bestOf at hF
  have C : cx p s m args meth c cX4_bestOf 6 (some .int) RX4 D q A := C
  obtain ⟨hx, hb, hr, hml, hown, hts, hlk, hA, hK, hN, hV⟩ := id C
  refine lv_aload_n hx hb dX4_bestOf_0 rfl (lv_at hl 0 rfl) ?_
  refine k_get (v := .ref (a0 4)) C fg_X4_21 hP 0 rfl rfl dX4_bestOf_1 ?_
  refine lv_iload_n hx hb dX4_bestOf_4 rfl (lv_at hl 1 rfl) ?_
  obtain ⟨h1, hF⟩ := op_ck hF
  refine k_ild (f := S0.2.2.1 3) C hP 4 rfl h1 dX4_bestOf_5 ?_
  refine lv_aload_n hx hb dX4_bestOf_6 rfl (lv_at hl 0 rfl) ?_
  refine k_get (v := .ref (a0 1)) C fg_X4_9 hP 0 rfl rfl dX4_bestOf_7 ?_
  refine lv_iload_n hx hb dX4_bestOf_10 rfl (lv_at hl 1 rfl) ?_
  refine lv_iconst (v := (1 : Int32)) hx hb dX4_bestOf_11 (by decide) ?_
  refine lv_iadd hx hb dX4_bestOf_12 ?_
  refine lv_sipush (v := (128 : Int32)) hx hb dX4_bestOf_13 (by decide) ?_
  refine lv_imul hx hb dX4_bestOf_16 ?_
  refine lv_iload_n hx hb dX4_bestOf_17 rfl (lv_at hl 2 rfl) ?_
  refine lv_iadd hx hb dX4_bestOf_18 ?_
  obtain ⟨h2, hF⟩ := op_ck hF
  refine k_ild (f := S0.2.2.1 0) C hP 1 rfl h2 dX4_bestOf_19 ?_
  refine lv_iadd hx hb dX4_bestOf_20 ?_
  obtain ⟨v3, e4, hF⟩ := nw_s hF
  refine k_rni e4 ?_
  refine lv_istore_n (lv' := [(3, .int v3), (0, .ref o0), (1, .int x1), (2, .int x2)]) hx hb dX4_bestOf_21 rfl hl (by decide) rfl (fun ls hl => ?_)
  refine lv_aload_n hx hb dX4_bestOf_22 rfl (lv_at hl 1 rfl) ?_
  refine k_get (v := .ref (a0 2)) C fg_X4_15 hP 0 rfl rfl dX4_bestOf_23 ?_
  refine lv_iload_n hx hb dX4_bestOf_26 rfl (lv_at hl 2 rfl) ?_
  obtain ⟨h5, hF⟩ := op_ck hF
  refine k_ild (f := S0.2.2.1 1) C hP 2 rfl h5 dX4_bestOf_27 ?_
  refine lv_iload_n hx hb dX4_bestOf_28 rfl (lv_at hl 3 rfl) ?_
  refine lv_iconst (v := (-1 : Int32)) hx hb dX4_bestOf_29 (by decide) ?_
  refine lv_ixor hx hb dX4_bestOf_30 ?_
  refine lv_iand hx hb dX4_bestOf_31 ?_
  obtain ⟨v6, e7, hF⟩ := nw_s hF
  refine k_rni e7 ?_
  refine lv_istore (lv' := [(4, .int v6), (3, .int v3), (0, .ref o0), (1, .int x1), (2, .int x2)]) hx hb dX4_bestOf_32 hl (by decide) rfl (fun ls hl => ?_)
  refine lv_iconst (v := (0 : Int32)) hx hb dX4_bestOf_34 (by decide) ?_
  refine lv_istore (lv' := [(5, .int (0 : Int32)), (4, .int v6), (3, .int v3), (0, .ref o0), (1, .int x1), (2, .int x2)]) hx hb dX4_bestOf_35 hl (by decide) rfl (fun ls hl => ?_)
  exact l_X4_bestOf_37 C hF _ _ _ hP hD hS (lv_sub hl [3, 4, 5, 2, 1, 0] rfl)

abbrev rm_X4_firstBest : Room := ({ frames := 1, cells := 0, slots := 0, locals := 23 } : Room)
def F_X4_firstBest_61 (k28 : Int32 × Int32 × Int32 × Int32 × Int32 × St → Option (Int32)) (x1 : Int32) (x2 : Int32) (x3 : Int32) (x4 : Int32) (x5 : Int32) (S0 : St) : Option (Int32) := k28 (x1, x2, x3, x4, (x5 + 1), S0)
def F_X4_firstBest_28 (k28 : Int32 × Int32 × Int32 × Int32 × Int32 × St → Option (Int32)) (x1 : Int32) (x2 : Int32) (x3 : Int32) (x4 : Int32) (x5 : Int32) (S0 : St) : Option (Int32) := if (7 : Int32) ≤ x5 then (some ((-1 : Int32))) else (if ((x3 >>> (x5 &&& 31)) &&& (1 : Int32)) = (1 : Int32) then (ob1 (F_X4_bestWith S0 x1 x2 x5) fun r4 => if r4 = x4 then (some (x5)) else (F_X4_firstBest_61 k28 x1 x2 x3 x4 x5 S0)) else (F_X4_firstBest_61 k28 x1 x2 x3 x4 x5 S0))
def L_X4_firstBest_28 (x1 : Int32) (x2 : Int32) (x3 : Int32) (x4 : Int32) (x5 : Int32) (S0 : St) : Option (Int32) := lp (fun kz z => F_X4_firstBest_28 kz z.1 z.2.1 z.2.2.1 z.2.2.2.1 z.2.2.2.2.1 z.2.2.2.2.2) FU (x1, x2, x3, x4, x5, S0)
def F_X4_firstBest (S0 : St) (x1 : Int32) (x2 : Int32) : Option (Int32) := if oob x1 6 then none else nw ((S0.2.2.1 1 x1.toNatClampNeg) &&& (x2 ^^^ (-1 : Int32))) fun v2 => if oob ((x1 * (128 : Int32)) + x2) 896 then none else nw (S0.2.2.1 0 ((x1 * (128 : Int32)) + x2).toNatClampNeg) fun v5 => L_X4_firstBest_28 x1 x2 v2 v5 (0 : Int32) S0
set_option maxRecDepth 100000 in
set_option maxHeartbeats 4000000 in
theorem b_X4_firstBest_61 {p : Program} {l : Launch} {e : Env} {s : State} {m : MethodId} {args : Array Value} {below : List Frame} {meth : Method} {c : Code} {D : va_G} {q : Nat → ClassId} {A : Nat → Prop} {o0 : Nat} {a0 : Nat → Nat} {r : Int32} (C : cx p s m args meth c cX4_firstBest 6 (some .int) RX4 D q A) {k28 : Int32 × Int32 × Int32 × Int32 × Int32 × St → Option (Int32)} (hk28 : ∀ (x1 : Int32) (x2 : Int32) (x3 : Int32) (x4 : Int32) (x5 : Int32) (S0 : St), k28 (x1, x2, x3, x4, x5, S0) = some (r) → ∀ (H : Heap) (locs : List Loc) (ls : Array Slot), va_P D vwCl (fl [g4 q o0 a0 S0]) H → va_D A (fl [g4 q o0 a0 S0]) → va_S A s.heap H locs → lv_has ls 6 [(0, .ref o0), (1, .int x1), (2, .int x2), (3, .int x3), (4, .int x4), (5, .int x5)] → W p l e rm_X4_firstBest s m args below meth c H locs 0 0 (MQ below (QI D A r (fl [g4 q o0 a0 S0])) args s 0 0 A) (F0 m 28 ls [])) {x1 : Int32} {x2 : Int32} {x3 : Int32} {x4 : Int32} {x5 : Int32} {S0 : St} (hF : F_X4_firstBest_61 k28 x1 x2 x3 x4 x5 S0 = some (r)) {H : Heap} {locs : List Loc} (hP : va_P D vwCl (fl [g4 q o0 a0 S0]) H) (hD : va_D A (fl [g4 q o0 a0 S0])) (hS : va_S A s.heap H locs) {ls : Array Slot} (hl : lv_has ls 6 [(0, .ref o0), (1, .int x1), (2, .int x2), (3, .int x3), (4, .int x4), (5, .int x5)]) : W p l e rm_X4_firstBest s m args below meth c H locs 0 0 (MQ below (QI D A r (fl [g4 q o0 a0 S0])) args s 0 0 A) (F0 m 61 ls []) := by
  unfold F_X4_firstBest_61 at hF
  obtain ⟨hx, hb, hr, hml, hown, hts, hlk, hA, hK, hN, hV⟩ := id C
  refine lv_iinc (v := (x5 + 1)) (lv' := [(5, .int (x5 + 1)), (0, .ref o0), (1, .int x1), (2, .int x2), (3, .int x3), (4, .int x4)]) hx hb dX4_firstBest_61 hl (k := 5) rfl rfl (by decide) rfl (fun ls hl => ?_)
  refine lv_goto (tgt := 28) hx hb dX4_firstBest_64 (by decide) ?_
  exact hk28 x1 x2 x3 x4 (x5 + 1) S0 hF _ _ _ hP hD hS (lv_sub hl [1, 2, 3, 4, 5, 0] rfl)
set_option maxRecDepth 100000 in
set_option maxHeartbeats 4000000 in
theorem b_X4_firstBest_28 {p : Program} {l : Launch} {e : Env} {s : State} {m : MethodId} {args : Array Value} {below : List Frame} {meth : Method} {c : Code} {D : va_G} {q : Nat → ClassId} {A : Nat → Prop} {o0 : Nat} {a0 : Nat → Nat} {r : Int32} (C : cx p s m args meth c cX4_firstBest 6 (some .int) RX4 D q A) {k28 : Int32 × Int32 × Int32 × Int32 × Int32 × St → Option (Int32)} (hk28 : ∀ (x1 : Int32) (x2 : Int32) (x3 : Int32) (x4 : Int32) (x5 : Int32) (S0 : St), k28 (x1, x2, x3, x4, x5, S0) = some (r) → ∀ (H : Heap) (locs : List Loc) (ls : Array Slot), va_P D vwCl (fl [g4 q o0 a0 S0]) H → va_D A (fl [g4 q o0 a0 S0]) → va_S A s.heap H locs → lv_has ls 6 [(0, .ref o0), (1, .int x1), (2, .int x2), (3, .int x3), (4, .int x4), (5, .int x5)] → W p l e rm_X4_firstBest s m args below meth c H locs 0 0 (MQ below (QI D A r (fl [g4 q o0 a0 S0])) args s 0 0 A) (F0 m 28 ls [])) {x1 : Int32} {x2 : Int32} {x3 : Int32} {x4 : Int32} {x5 : Int32} {S0 : St} (hF : F_X4_firstBest_28 k28 x1 x2 x3 x4 x5 S0 = some (r)) {H : Heap} {locs : List Loc} (hP : va_P D vwCl (fl [g4 q o0 a0 S0]) H) (hD : va_D A (fl [g4 q o0 a0 S0])) (hS : va_S A s.heap H locs) {ls : Array Slot} (hl : lv_has ls 6 [(0, .ref o0), (1, .int x1), (2, .int x2), (3, .int x3), (4, .int x4), (5, .int x5)]) : W p l e rm_X4_firstBest s m args below meth c H locs 0 0 (MQ below (QI D A r (fl [g4 q o0 a0 S0])) args s 0 0 A) (F0 m 28 ls []) := by
  unfold F_X4_firstBest_28 at hF
  obtain ⟨hx, hb, hr, hml, hown, hts, hlk, hA, hK, hN, hV⟩ := id C
  refine lv_iload hx hb dX4_firstBest_28 (lv_at hl 5 rfl) ?_
  refine lv_bipush (v := (7 : Int32)) hx hb dX4_firstBest_30 (by decide) ?_
  refine lv_icmp_ge (tgt := 67) hx hb dX4_firstBest_32 (by decide) (fun c1 => ?_) (fun c1 => ?_)
  · have hF := op_t hF c1
    refine lv_iconst (v := (-1 : Int32)) hx hb dX4_firstBest_67 (by decide) ?_
    cases hF
    exact k_iret C hP hS dX4_firstBest_68
  · have hF := op_f hF c1
    refine lv_iload_n hx hb dX4_firstBest_35 rfl (lv_at hl 3 rfl) ?_
    refine lv_iload hx hb dX4_firstBest_36 (lv_at hl 5 rfl) ?_
    refine lv_ishr hx hb dX4_firstBest_38 ?_
    refine lv_iconst (v := (1 : Int32)) hx hb dX4_firstBest_39 (by decide) ?_
    refine lv_iand hx hb dX4_firstBest_40 ?_
    refine lv_iconst (v := (1 : Int32)) hx hb dX4_firstBest_41 (by decide) ?_
    refine lv_icmp_ne (tgt := 61) hx hb dX4_firstBest_42 (by decide) (fun c2 => ?_) (fun c2 => ?_)
    · have hF := op_f hF c2
      exact b_X4_firstBest_61 C hk28 hF hP hD hS (lv_sub hl [0, 1, 2, 3, 4, 5] rfl)
    · have hF := op_t hF c2
      refine lv_aload_n hx hb dX4_firstBest_45 rfl (lv_at hl 0 rfl) ?_
      refine lv_iload_n hx hb dX4_firstBest_46 rfl (lv_at hl 1 rfl) ?_
      refine lv_iload_n hx hb dX4_firstBest_47 rfl (lv_at hl 2 rfl) ?_
      refine lv_iload hx hb dX4_firstBest_48 (lv_at hl 5 rfl) ?_
      obtain ⟨r4, hc3, hF⟩ := ob1_s hF
      refine k_isame C (k_rV (As := [.int x1, .int x2, .int x5]) (rest := []) C (c_X4_bestWith l D q o0 a0 S0 _ x1 x2 x5 hc3) kc_X4_bestWith ml_X4_69 rfl rfl (by decide) hP hD hS (va_recv hK hP (ci := 4) (q0 := 0) rfl rfl) rfl hl.1 rfl (Nat.le_of_ble_eq_true rfl) dX4_firstBest_50 (by decide)) hP hD hS (fun H locs hP hD hS => ?_)
      refine lv_iload hx hb dX4_firstBest_53 (lv_at hl 4 rfl) ?_
      refine lv_icmp_ne (tgt := 61) hx hb dX4_firstBest_55 (by decide) (fun c5 => ?_) (fun c5 => ?_)
      · have hF := op_f hF c5
        exact b_X4_firstBest_61 C hk28 hF hP hD hS (lv_sub hl [0, 1, 2, 3, 4, 5] rfl)
      · have hF := op_t hF c5
        refine lv_iload hx hb dX4_firstBest_58 (lv_at hl 5 rfl) ?_
        cases hF
        exact k_iret C hP hS dX4_firstBest_60
set_option maxRecDepth 100000 in
set_option maxHeartbeats 4000000 in
theorem l_X4_firstBest_28 {p : Program} {l : Launch} {e : Env} {s : State} {m : MethodId} {args : Array Value} {below : List Frame} {meth : Method} {c : Code} {D : va_G} {q : Nat → ClassId} {A : Nat → Prop} {o0 : Nat} {a0 : Nat → Nat} {r : Int32} (C : cx p s m args meth c cX4_firstBest 6 (some .int) RX4 D q A) {x1 : Int32} {x2 : Int32} {x3 : Int32} {x4 : Int32} {x5 : Int32} {S0 : St} (hF : L_X4_firstBest_28 x1 x2 x3 x4 x5 S0 = some (r)) : ∀ (H : Heap) (locs : List Loc) (ls : Array Slot), va_P D vwCl (fl [g4 q o0 a0 S0]) H → va_D A (fl [g4 q o0 a0 S0]) → va_S A s.heap H locs → lv_has ls 6 [(0, .ref o0), (1, .int x1), (2, .int x2), (3, .int x3), (4, .int x4), (5, .int x5)] → W p l e rm_X4_firstBest s m args below meth c H locs 0 0 (MQ below (QI D A r (fl [g4 q o0 a0 S0])) args s 0 0 A) (F0 m 28 ls []) :=
  lp_G _ _ (fun z => ∀ (H : Heap) (locs : List Loc) (ls : Array Slot), va_P D vwCl (fl [g4 q o0 a0 z.2.2.2.2.2]) H → va_D A (fl [g4 q o0 a0 z.2.2.2.2.2]) → va_S A s.heap H locs → lv_has ls 6 [(0, .ref o0), (1, .int z.1), (2, .int z.2.1), (3, .int z.2.2.1), (4, .int z.2.2.2.1), (5, .int z.2.2.2.2.1)] → W p l e rm_X4_firstBest s m args below meth c H locs 0 0 (MQ below (QI D A r (fl [g4 q o0 a0 z.2.2.2.2.2])) args s 0 0 A) (F0 m 28 ls [])) (fun kz hkz z hz H locs ls hP hD hS hl => b_X4_firstBest_28 C (fun x1 x2 x3 x4 x5 S0 hz => hkz (x1, x2, x3, x4, x5, S0) hz) hz hP hD hS hl) FU (x1, x2, x3, x4, x5, S0) hF
set_option maxRecDepth 100000 in
set_option maxHeartbeats 4000000 in
theorem c_X4_firstBest (l : Launch) (D : va_G) (q : Nat → ClassId) (o0 : Nat) (a0 : Nat → Nat) (S0 : St) (sz : Nat) (x1 : Int32) (x2 : Int32) {r : Int32} (hF : F_X4_firstBest S0 x1 x2 = some (r)) : Met l yX4_firstBest (Cond.code yX4_firstBest cX4_firstBest 6 (some .int) :: TB) rm_X4_firstBest (PC D q [.ref o0, .int x1, .int x2] (fl [g4 q o0 a0 S0]) sz) ((fun A => QI D A r (fl [g4 q o0 a0 S0])) (va_A (fl [g4 q o0 a0 S0]) sz)) 0 0 (va_A (fl [g4 q o0 a0 S0]) sz) := by
  refine k_met (w0 := fl [g4 q o0 a0 S0]) (Q := fun A => QI D A r (fl [g4 q o0 a0 S0])) (by decide +kernel) (Nat.le_of_ble_eq_true rfl) ?_
  intro p e s m args below meth c A ls C hP hD hS hl
  have hl : lv_has ls 6 [(0, .ref o0), (1, .int x1), (2, .int x2)] := hl
  unfold F_X4_firstBest at hF
  have C : cx p s m args meth c cX4_firstBest 6 (some .int) RX4 D q A := C
  obtain ⟨hx, hb, hr, hml, hown, hts, hlk, hA, hK, hN, hV⟩ := id C
  refine lv_aload_n hx hb dX4_firstBest_0 rfl (lv_at hl 0 rfl) ?_
  refine k_get (v := .ref (a0 2)) C fg_X4_15 hP 0 rfl rfl dX4_firstBest_1 ?_
  refine lv_iload_n hx hb dX4_firstBest_4 rfl (lv_at hl 1 rfl) ?_
  obtain ⟨h1, hF⟩ := op_ck hF
  refine k_ild (f := S0.2.2.1 1) C hP 2 rfl h1 dX4_firstBest_5 ?_
  refine lv_iload_n hx hb dX4_firstBest_6 rfl (lv_at hl 2 rfl) ?_
  refine lv_iconst (v := (-1 : Int32)) hx hb dX4_firstBest_7 (by decide) ?_
  refine lv_ixor hx hb dX4_firstBest_8 ?_
  refine lv_iand hx hb dX4_firstBest_9 ?_
  obtain ⟨v2, e3, hF⟩ := nw_s hF
  refine k_rni e3 ?_
  refine lv_istore_n (lv' := [(3, .int v2), (0, .ref o0), (1, .int x1), (2, .int x2)]) hx hb dX4_firstBest_10 rfl hl (by decide) rfl (fun ls hl => ?_)
  refine lv_aload_n hx hb dX4_firstBest_11 rfl (lv_at hl 1 rfl) ?_
  refine k_get (v := .ref (a0 1)) C fg_X4_9 hP 0 rfl rfl dX4_firstBest_12 ?_
  refine lv_iload_n hx hb dX4_firstBest_15 rfl (lv_at hl 2 rfl) ?_
  refine lv_sipush (v := (128 : Int32)) hx hb dX4_firstBest_16 (by decide) ?_
  refine lv_imul hx hb dX4_firstBest_19 ?_
  refine lv_iload_n hx hb dX4_firstBest_20 rfl (lv_at hl 3 rfl) ?_
  refine lv_iadd hx hb dX4_firstBest_21 ?_
  obtain ⟨h4, hF⟩ := op_ck hF
  refine k_ild (f := S0.2.2.1 0) C hP 1 rfl h4 dX4_firstBest_22 ?_
  obtain ⟨v5, e6, hF⟩ := nw_s hF
  refine k_rni e6 ?_
  refine lv_istore (lv' := [(4, .int v5), (3, .int v2), (0, .ref o0), (1, .int x1), (2, .int x2)]) hx hb dX4_firstBest_23 hl (by decide) rfl (fun ls hl => ?_)
  refine lv_iconst (v := (0 : Int32)) hx hb dX4_firstBest_25 (by decide) ?_
  refine lv_istore (lv' := [(5, .int (0 : Int32)), (4, .int v5), (3, .int v2), (0, .ref o0), (1, .int x1), (2, .int x2)]) hx hb dX4_firstBest_26 hl (by decide) rfl (fun ls hl => ?_)
  exact l_X4_firstBest_28 C hF _ _ _ hP hD hS (lv_sub hl [3, 4, 5, 2, 1, 0] rfl)

abbrev rm_X5_isWord : Room := ({ frames := 0, cells := 0, slots := 0, locals := 0 } : Room)
def F_X5_isWord (S0 : St) (x1 : Int32) : Option (Int32) := if (S0.1 8) = 0 then (if oob (S0.1 6) 901 then none else if (S0.2.2.1 3 (S0.1 6).toNatClampNeg) = x1 then (some ((1 : Int32))) else (some ((0 : Int32)))) else (some ((0 : Int32)))
set_option maxRecDepth 100000 in
set_option maxHeartbeats 4000000 in
theorem c_X5_isWord (l : Launch) (D : va_G) (q : Nat → ClassId) (tp : Nat) (o0 : Nat) (a0 : Nat → Nat) (S0 : St) (sz : Nat) (x1 : Int32) {r : Int32} (hF : F_X5_isWord S0 x1 = some (r)) : Met l yX5_isWord (Cond.code yX5_isWord cX5_isWord 2 (some .boolean) :: TB) rm_X5_isWord (PC D q [.ref o0, .int x1] (fl [g5 q o0 a0 tp S0]) sz) ((fun A => QI D A r (fl [g5 q o0 a0 tp S0])) (va_A (fl [g5 q o0 a0 tp S0]) sz)) 0 0 (va_A (fl [g5 q o0 a0 tp S0]) sz) := by
  refine k_met (w0 := fl [g5 q o0 a0 tp S0]) (Q := fun A => QI D A r (fl [g5 q o0 a0 tp S0])) (by decide +kernel) (Nat.le_of_ble_eq_true rfl) ?_
  intro p e s m args below meth c A ls C hP hD hS hl
  have hl : lv_has ls 2 [(0, .ref o0), (1, .int x1)] := hl
  unfold F_X5_isWord at hF
  have C : cx p s m args meth c cX5_isWord 2 (some .boolean) RX5 D q A := C
  obtain ⟨hx, hb, hr, hml, hown, hts, hlk, hA, hK, hN, hV⟩ := id C
  refine lv_aload_n hx hb dX5_isWord_0 rfl (lv_at hl 0 rfl) ?_
  refine k_get (v := .int (S0.1 8)) C fg_X5_83 hP 0 rfl rfl dX5_isWord_1 ?_
  refine lv_if_ne (tgt := 24) hx hb dX5_isWord_4 (by decide) (fun c1 => ?_) (fun c1 => ?_)
  · have hF := op_f hF c1
    refine lv_iconst (v := (0 : Int32)) hx hb dX5_isWord_24 (by decide) ?_
    cases hF
    exact k_zret C (by decide) hP hS dX5_isWord_25
  · have hF := op_t hF c1
    refine lv_aload_n hx hb dX5_isWord_7 rfl (lv_at hl 0 rfl) ?_
    refine k_get (v := .ref (a0 4)) C fg_X5_28 hP 0 rfl rfl dX5_isWord_8 ?_
    refine lv_aload_n hx hb dX5_isWord_11 rfl (lv_at hl 0 rfl) ?_
    refine k_get (v := .int (S0.1 6)) C fg_X5_80 hP 0 rfl rfl dX5_isWord_12 ?_
    obtain ⟨h2, hF⟩ := op_ck hF
    refine k_ild (f := S0.2.2.1 3) C hP 3 rfl h2 dX5_isWord_15 ?_
    refine lv_iload_n hx hb dX5_isWord_16 rfl (lv_at hl 1 rfl) ?_
    refine lv_icmp_ne (tgt := 24) hx hb dX5_isWord_17 (by decide) (fun c3 => ?_) (fun c3 => ?_)
    · have hF := op_f hF c3
      refine lv_iconst (v := (0 : Int32)) hx hb dX5_isWord_24 (by decide) ?_
      cases hF
      exact k_zret C (by decide) hP hS dX5_isWord_25
    · have hF := op_t hF c3
      refine lv_iconst (v := (1 : Int32)) hx hb dX5_isWord_20 (by decide) ?_
      refine lv_goto (tgt := 25) hx hb dX5_isWord_21 (by decide) ?_
      cases hF
      exact k_zret C (by decide) hP hS dX5_isWord_25

abbrev rm_X5_takeWord : Room := ({ frames := 1, cells := 0, slots := 0, locals := 21 } : Room)
def F_X5_takeWord (S0 : St) (x1 : Int32) : Option (Int32 × St) := ob1 (F_X5_isWord S0 x1) fun r2 => if r2 = 0 then (if nb r2 then none else some (r2, S0)) else (ob1 (F_X5_next S0) fun U6 => if nb r2 then none else some (r2, U6))
set_option maxRecDepth 100000 in
set_option maxHeartbeats 4000000 in
theorem c_X5_takeWord (l : Launch) (D : va_G) (q : Nat → ClassId) (tp : Nat) (o0 : Nat) (a0 : Nat → Nat) (S0 : St) (sz : Nat) (x1 : Int32) {r : Int32} {T0 : St} (hF : F_X5_takeWord S0 x1 = some (r, T0)) : Met l yX5_takeWord (Cond.code yX5_takeWord cX5_takeWord 3 (some .boolean) :: TB) rm_X5_takeWord (PC D q [.ref o0, .int x1] (fl [g5 q o0 a0 tp S0]) sz) ((fun A => QI D A r (fl [g5 q o0 a0 tp T0])) (va_A (fl [g5 q o0 a0 tp S0]) sz)) 0 0 (va_A (fl [g5 q o0 a0 tp S0]) sz) := by
  refine k_met (w0 := fl [g5 q o0 a0 tp S0]) (Q := fun A => QI D A r (fl [g5 q o0 a0 tp T0])) (by decide +kernel) (Nat.le_of_ble_eq_true rfl) ?_
  intro p e s m args below meth c A ls C hP hD hS hl
  have hl : lv_has ls 3 [(0, .ref o0), (1, .int x1)] := hl
  unfold F_X5_takeWord at hF
  have C : cx p s m args meth c cX5_takeWord 3 (some .boolean) RX5 D q A := C
  obtain ⟨hx, hb, hr, hml, hown, hts, hlk, hA, hK, hN, hV⟩ := id C
  refine lv_aload_n hx hb dX5_takeWord_0 rfl (lv_at hl 0 rfl) ?_
  refine lv_iload_n hx hb dX5_takeWord_1 rfl (lv_at hl 1 rfl) ?_
  obtain ⟨r2, hc1, hF⟩ := ob1_s hF
  refine k_isame C (k_rV (As := [.int x1]) (rest := []) C (c_X5_isWord l D q tp o0 a0 S0 _ x1 hc1) kc_X5_isWord ml_X5_111 rfl rfl (by decide) hP hD hS (va_recv hK hP (ci := 5) (q0 := 0) rfl rfl) rfl hl.1 rfl (Nat.le_of_ble_eq_true rfl) dX5_takeWord_2 (by decide)) hP hD hS (fun H locs hP hD hS => ?_)
  refine lv_istore_n (lv' := [(2, .int r2), (0, .ref o0), (1, .int x1)]) hx hb dX5_takeWord_5 rfl hl (by decide) rfl (fun ls hl => ?_)
  refine lv_iload_n hx hb dX5_takeWord_6 rfl (lv_at hl 0 rfl) ?_
  refine lv_if_eq (tgt := 14) hx hb dX5_takeWord_7 (by decide) (fun c3 => ?_) (fun c3 => ?_)
  · have hF := op_t hF c3
    refine lv_iload_n hx hb dX5_takeWord_14 rfl (lv_at hl 0 rfl) ?_
    obtain ⟨h4, hF⟩ := op_ck hF
    cases hF
    exact k_zret C h4 hP hS dX5_takeWord_15
  · have hF := op_f hF c3
    refine lv_aload_n hx hb dX5_takeWord_10 rfl (lv_at hl 1 rfl) ?_
    obtain ⟨U6, hc5, hF⟩ := ob1_s hF
    refine k_vall C (k_rV (As := []) (rest := []) C (c_X5_next l D q tp o0 a0 S0 _ hc5) kc_X5_next ml_X5_114 rfl rfl (by decide) hP hD hS (va_recv hK hP (ci := 5) (q0 := 0) rfl rfl) rfl hl.1 rfl (Nat.le_of_ble_eq_true rfl) dX5_takeWord_11 (by decide)) hP hD hS (by simp only [List.map_cons, List.map_nil, gad5]) (fun H locs hP hD hS => ?_)
    refine lv_iload_n hx hb dX5_takeWord_14 rfl (lv_at hl 0 rfl) ?_
    obtain ⟨h7, hF⟩ := op_ck hF
    cases hF
    exact k_zret C h7 hP hS dX5_takeWord_15

abbrev rm_X5_needSign : Room := ({ frames := 1, cells := 0, slots := 0, locals := 21 } : Room)
def F_X5_needSign_38 (x1 : Int32) (S0 : St) : Option (Int32 × St) := ob1 (F_X5_next S0) fun U2 => some (x1, U2)
def F_X5_needSign (S0 : St) : Option (Int32 × St) := if oob (S0.1 6) 901 then none else nw ((S0.2.2.2 4 (S0.1 6).toNatClampNeg).toInt32) fun v2 => ob1 (F_X5_isMark S0 (60 : Int32)) fun r5 => if r5 = 0 then (ob1 (F_X5_isMark S0 (61 : Int32)) fun r8 => if r8 = 0 then (ob1 (F_X5_isMark S0 (62 : Int32)) fun r11 => if r11 = 0 then (ob1 (F_X5_fail S0 (1 : Int32)) fun U14 => some (v2, U14)) else (F_X5_needSign_38 v2 S0)) else (F_X5_needSign_38 v2 S0)) else (F_X5_needSign_38 v2 S0)
set_option maxRecDepth 100000 in
set_option maxHeartbeats 4000000 in
theorem b_X5_needSign_38 {p : Program} {l : Launch} {e : Env} {s : State} {m : MethodId} {args : Array Value} {below : List Frame} {meth : Method} {c : Code} {D : va_G} {q : Nat → ClassId} {A : Nat → Prop} {tp : Nat} {o0 : Nat} {a0 : Nat → Nat} {r : Int32} {T0 : St} (C : cx p s m args meth c cX5_needSign 2 (some .int) RX5 D q A) {x1 : Int32} {S0 : St} (hF : F_X5_needSign_38 x1 S0 = some (r, T0)) {H : Heap} {locs : List Loc} (hP : va_P D vwCl (fl [g5 q o0 a0 tp S0]) H) (hD : va_D A (fl [g5 q o0 a0 tp S0])) (hS : va_S A s.heap H locs) {ls : Array Slot} (hl : lv_has ls 2 [(0, .ref o0), (1, .int x1)]) : W p l e rm_X5_needSign s m args below meth c H locs 0 0 (MQ below (QI D A r (fl [g5 q o0 a0 tp T0])) args s 0 0 A) (F0 m 38 ls []) := by
  unfold F_X5_needSign_38 at hF
  obtain ⟨hx, hb, hr, hml, hown, hts, hlk, hA, hK, hN, hV⟩ := id C
  refine lv_aload_n hx hb dX5_needSign_38 rfl (lv_at hl 0 rfl) ?_
  obtain ⟨U2, hc1, hF⟩ := ob1_s hF
  refine k_vall C (k_rV (As := []) (rest := []) C (c_X5_next l D q tp o0 a0 S0 _ hc1) kc_X5_next ml_X5_114 rfl rfl (by decide) hP hD hS (va_recv hK hP (ci := 5) (q0 := 0) rfl rfl) rfl hl.1 rfl (Nat.le_of_ble_eq_true rfl) dX5_needSign_39 (by decide)) hP hD hS (by simp only [List.map_cons, List.map_nil, gad5]) (fun H locs hP hD hS => ?_)
  refine lv_goto (tgt := 50) hx hb dX5_needSign_42 (by decide) ?_
  refine lv_iload_n hx hb dX5_needSign_50 rfl (lv_at hl 1 rfl) ?_
  cases hF
  exact k_iret C hP hS dX5_needSign_51
set_option maxRecDepth 100000 in
set_option maxHeartbeats 4000000 in
theorem c_X5_needSign (l : Launch) (D : va_G) (q : Nat → ClassId) (tp : Nat) (o0 : Nat) (a0 : Nat → Nat) (S0 : St) (sz : Nat) {r : Int32} {T0 : St} (hF : F_X5_needSign S0 = some (r, T0)) : Met l yX5_needSign (Cond.code yX5_needSign cX5_needSign 2 (some .int) :: TB) rm_X5_needSign (PC D q [.ref o0] (fl [g5 q o0 a0 tp S0]) sz) ((fun A => QI D A r (fl [g5 q o0 a0 tp T0])) (va_A (fl [g5 q o0 a0 tp S0]) sz)) 0 0 (va_A (fl [g5 q o0 a0 tp S0]) sz) := by
  refine k_met (w0 := fl [g5 q o0 a0 tp S0]) (Q := fun A => QI D A r (fl [g5 q o0 a0 tp T0])) (by decide +kernel) (Nat.le_of_ble_eq_true rfl) ?_
  intro p e s m args below meth c A ls C hP hD hS hl
  have hl : lv_has ls 2 [(0, .ref o0)] := hl
  unfold F_X5_needSign at hF
  have C : cx p s m args meth c cX5_needSign 2 (some .int) RX5 D q A := C
  obtain ⟨hx, hb, hr, hml, hown, hts, hlk, hA, hK, hN, hV⟩ := id C
  refine lv_aload_n hx hb dX5_needSign_0 rfl (lv_at hl 0 rfl) ?_
  refine k_get (v := .ref (a0 5)) C fg_X5_31 hP 0 rfl rfl dX5_needSign_1 ?_
  refine lv_aload_n hx hb dX5_needSign_4 rfl (lv_at hl 0 rfl) ?_
  refine k_get (v := .int (S0.1 6)) C fg_X5_80 hP 0 rfl rfl dX5_needSign_5 ?_
  obtain ⟨h1, hF⟩ := op_ck hF
  refine k_lld (f := S0.2.2.2 4) C hP 4 rfl h1 dX5_needSign_8 ?_
  refine lv_l2i (v := (S0.2.2.2 4 (S0.1 6).toNatClampNeg).toInt32) hx hb dX5_needSign_9 rfl ?_
  obtain ⟨v2, e3, hF⟩ := nw_s hF
  refine k_rni e3 ?_
  refine lv_istore_n (lv' := [(1, .int v2), (0, .ref o0)]) hx hb dX5_needSign_10 rfl hl (by decide) rfl (fun ls hl => ?_)
  refine lv_aload_n hx hb dX5_needSign_11 rfl (lv_at hl 1 rfl) ?_
  refine lv_bipush (v := (60 : Int32)) hx hb dX5_needSign_12 (by decide) ?_
  obtain ⟨r5, hc4, hF⟩ := ob1_s hF
  refine k_isame C (k_rV (As := [.int (60 : Int32)]) (rest := []) C (c_X5_isMark l D q tp o0 a0 S0 _ (60 : Int32) hc4) kc_X5_isMark ml_X5_117 rfl rfl (by decide) hP hD hS (va_recv hK hP (ci := 5) (q0 := 0) rfl rfl) rfl hl.1 rfl (Nat.le_of_ble_eq_true rfl) dX5_needSign_14 (by decide)) hP hD hS (fun H locs hP hD hS => ?_)
  refine lv_if_ne (tgt := 38) hx hb dX5_needSign_17 (by decide) (fun c6 => ?_) (fun c6 => ?_)
  · have hF := op_f hF c6
    exact b_X5_needSign_38 C hF hP hD hS (lv_sub hl [1, 0] rfl)
  · have hF := op_t hF c6
    refine lv_aload_n hx hb dX5_needSign_20 rfl (lv_at hl 1 rfl) ?_
    refine lv_bipush (v := (61 : Int32)) hx hb dX5_needSign_21 (by decide) ?_
    obtain ⟨r8, hc7, hF⟩ := ob1_s hF
    refine k_isame C (k_rV (As := [.int (61 : Int32)]) (rest := []) C (c_X5_isMark l D q tp o0 a0 S0 _ (61 : Int32) hc7) kc_X5_isMark ml_X5_117 rfl rfl (by decide) hP hD hS (va_recv hK hP (ci := 5) (q0 := 0) rfl rfl) rfl hl.1 rfl (Nat.le_of_ble_eq_true rfl) dX5_needSign_23 (by decide)) hP hD hS (fun H locs hP hD hS => ?_)
    refine lv_if_ne (tgt := 38) hx hb dX5_needSign_26 (by decide) (fun c9 => ?_) (fun c9 => ?_)
    · have hF := op_f hF c9
      exact b_X5_needSign_38 C hF hP hD hS (lv_sub hl [1, 0] rfl)
    · have hF := op_t hF c9
      refine lv_aload_n hx hb dX5_needSign_29 rfl (lv_at hl 1 rfl) ?_
      refine lv_bipush (v := (62 : Int32)) hx hb dX5_needSign_30 (by decide) ?_
      obtain ⟨r11, hc10, hF⟩ := ob1_s hF
      refine k_isame C (k_rV (As := [.int (62 : Int32)]) (rest := []) C (c_X5_isMark l D q tp o0 a0 S0 _ (62 : Int32) hc10) kc_X5_isMark ml_X5_117 rfl rfl (by decide) hP hD hS (va_recv hK hP (ci := 5) (q0 := 0) rfl rfl) rfl hl.1 rfl (Nat.le_of_ble_eq_true rfl) dX5_needSign_32 (by decide)) hP hD hS (fun H locs hP hD hS => ?_)
      refine lv_if_eq (tgt := 45) hx hb dX5_needSign_35 (by decide) (fun c12 => ?_) (fun c12 => ?_)
      · have hF := op_t hF c12
        refine lv_aload_n hx hb dX5_needSign_45 rfl (lv_at hl 1 rfl) ?_
        refine lv_iconst (v := (1 : Int32)) hx hb dX5_needSign_46 (by decide) ?_
        obtain ⟨U14, hc13, hF⟩ := ob1_s hF
        refine k_vall C (k_rV (As := [.int (1 : Int32)]) (rest := []) C (c_X5_fail l D q tp o0 a0 S0 _ (1 : Int32) hc13) kc_X5_fail ml_X5_108 rfl rfl (by decide) hP hD hS (va_recv hK hP (ci := 5) (q0 := 0) rfl rfl) rfl hl.1 rfl (Nat.le_of_ble_eq_true rfl) dX5_needSign_47 (by decide)) hP hD hS (by simp only [List.map_cons, List.map_nil, gad5]) (fun H locs hP hD hS => ?_)
        refine lv_iload_n hx hb dX5_needSign_50 rfl (lv_at hl 0 rfl) ?_
        cases hF
        exact k_iret C hP hS dX5_needSign_51
      · have hF := op_f hF c12
        exact b_X5_needSign_38 C hF hP hD hS (lv_sub hl [1, 0] rfl)

abbrev rm_X5_needNewName : Room := ({ frames := 1, cells := 0, slots := 0, locals := 23 } : Room)
def F_X5_needNewName_43 (x2 : Int64) (S0 : St) (S1 : St) : Option (Int64 × St) := ob1 (F_X5_fail S0 (3 : Int32)) fun U2 => some (x2, U2)
def F_X5_needNewName (S0 : St) (S1 : St) : Option (Int64 × St) := if oob (S0.1 6) 901 then none else ob1 (F_X5_isName S0) fun r3 => if r3 = 0 then (ob1 (F_X5_fail S0 (1 : Int32)) fun U14 => some ((S0.2.2.2 4 (S0.1 6).toNatClampNeg), U14)) else (ob1 (F_X8_turretNamed S1 (S0.2.2.2 4 (S0.1 6).toNatClampNeg)) fun r6 => if r6 = (-1 : Int32) then (ob1 (F_X8_personNamed S1 (S0.2.2.2 4 (S0.1 6).toNatClampNeg)) fun r9 => if r9 = (-1 : Int32) then (ob1 (F_X5_next S0) fun U12 => some ((S0.2.2.2 4 (S0.1 6).toNatClampNeg), U12)) else (F_X5_needNewName_43 (S0.2.2.2 4 (S0.1 6).toNatClampNeg) S0 S1)) else (F_X5_needNewName_43 (S0.2.2.2 4 (S0.1 6).toNatClampNeg) S0 S1))
set_option maxRecDepth 100000 in
set_option maxHeartbeats 4000000 in
theorem b_X5_needNewName_43 {p : Program} {l : Launch} {e : Env} {s : State} {m : MethodId} {args : Array Value} {below : List Frame} {meth : Method} {c : Code} {D : va_G} {q : Nat → ClassId} {A : Nat → Prop} {tp : Nat} {o0 : Nat} {a0 : Nat → Nat} {o1 : Nat} {a1 : Nat → Nat} {r : Int64} {T0 : St} (C : cx p s m args meth c cX5_needNewName 4 (some .long) RX5 D q A) {x2 : Int64} {S0 : St} {S1 : St} (hF : F_X5_needNewName_43 x2 S0 S1 = some (r, T0)) {H : Heap} {locs : List Loc} (hP : va_P D vwCl (fl [g5 q o0 a0 tp S0, g8 q o1 a1 S1]) H) (hD : va_D A (fl [g5 q o0 a0 tp S0, g8 q o1 a1 S1])) (hS : va_S A s.heap H locs) {ls : Array Slot} (hl : lv_has ls 4 [(0, .ref o0), (2, .long x2)]) : W p l e rm_X5_needNewName s m args below meth c H locs 0 0 (MQ below (QL D A r (fl [g5 q o0 a0 tp T0, g8 q o1 a1 S1])) args s 0 0 A) (F0 m 43 ls []) := by
  unfold F_X5_needNewName_43 at hF
  obtain ⟨hx, hb, hr, hml, hown, hts, hlk, hA, hK, hN, hV⟩ := id C
  refine lv_aload_n hx hb dX5_needNewName_43 rfl (lv_at hl 0 rfl) ?_
  refine lv_iconst (v := (3 : Int32)) hx hb dX5_needNewName_44 (by decide) ?_
  obtain ⟨U2, hc1, hF⟩ := ob1_s hF
  refine k_vgrp (gs8 := [g5 q o0 a0 tp U2, g8 q o1 a1 S1]) C (k_rV (As := [.int (3 : Int32)]) (rest := []) C (c_X5_fail l D q tp o0 a0 S0 _ (3 : Int32) hc1) kc_X5_fail ml_X5_108 rfl rfl (by decide) (flP hP [0] rfl) (flD hD [0] (by decide) rfl) hS (va_recv hK hP (ci := 5) (q0 := 0) rfl rfl) rfl hl.1 rfl (Nat.le_of_ble_eq_true rfl) dX5_needNewName_45 (by decide)) hP hD hS [0] [1] [g8 q o1 a1 S1] 2 (by decide) rfl rfl rfl rfl rfl rfl (by simp only [List.map_cons, List.map_nil, gad5, gad8]) (fun H locs hP hD hS => ?_)
  refine lv_goto (tgt := 55) hx hb dX5_needNewName_48 (by decide) ?_
  refine lv_lload_n hx hb dX5_needNewName_55 rfl (lv_at hl 1 rfl) ?_
  cases hF
  exact k_lret C hP hS dX5_needNewName_56
set_option maxRecDepth 100000 in
set_option maxHeartbeats 4000000 in
theorem c_X5_needNewName (l : Launch) (D : va_G) (q : Nat → ClassId) (tp : Nat) (o0 : Nat) (a0 : Nat → Nat) (S0 : St) (o1 : Nat) (a1 : Nat → Nat) (S1 : St) (sz : Nat) {r : Int64} {T0 : St} (hF : F_X5_needNewName S0 S1 = some (r, T0)) : Met l yX5_needNewName (Cond.code yX5_needNewName cX5_needNewName 4 (some .long) :: TB) rm_X5_needNewName (PC D q [.ref o0, .ref o1] (fl [g5 q o0 a0 tp S0, g8 q o1 a1 S1]) sz) ((fun A => QL D A r (fl [g5 q o0 a0 tp T0, g8 q o1 a1 S1])) (va_A (fl [g5 q o0 a0 tp S0, g8 q o1 a1 S1]) sz)) 0 0 (va_A (fl [g5 q o0 a0 tp S0, g8 q o1 a1 S1]) sz) := by
  refine k_met (w0 := fl [g5 q o0 a0 tp S0, g8 q o1 a1 S1]) (Q := fun A => QL D A r (fl [g5 q o0 a0 tp T0, g8 q o1 a1 S1])) (by decide +kernel) (Nat.le_of_ble_eq_true rfl) ?_
  intro p e s m args below meth c A ls C hP hD hS hl
  have hl : lv_has ls 4 [(0, .ref o0), (1, .ref o1)] := hl
  unfold F_X5_needNewName at hF
  have C : cx p s m args meth c cX5_needNewName 4 (some .long) RX5 D q A := C
  obtain ⟨hx, hb, hr, hml, hown, hts, hlk, hA, hK, hN, hV⟩ := id C
  refine lv_aload_n hx hb dX5_needNewName_0 rfl (lv_at hl 0 rfl) ?_
  refine k_get (v := .ref (a0 5)) C fg_X5_31 hP 0 rfl rfl dX5_needNewName_1 ?_
  refine lv_aload_n hx hb dX5_needNewName_4 rfl (lv_at hl 0 rfl) ?_
  refine k_get (v := .int (S0.1 6)) C fg_X5_80 hP 0 rfl rfl dX5_needNewName_5 ?_
  obtain ⟨h1, hF⟩ := op_ck hF
  refine k_lld (f := S0.2.2.2 4) C hP 4 rfl h1 dX5_needNewName_8 ?_
  refine lv_lstore_n (lv' := [(2, .long (S0.2.2.2 4 (S0.1 6).toNatClampNeg)), (0, .ref o0), (1, .ref o1)]) hx hb dX5_needNewName_9 rfl hl (by decide) rfl (fun ls hl => ?_)
  refine lv_aload_n hx hb dX5_needNewName_10 rfl (lv_at hl 1 rfl) ?_
  obtain ⟨r3, hc2, hF⟩ := ob1_s hF
  refine k_iro C (k_rV (As := []) (rest := []) C (c_X5_isName l D q tp o0 a0 S0 _ hc2) kc_X5_isName ml_X5_128 rfl rfl (by decide) (flP hP [0] rfl) (flD hD [0] (by decide) rfl) hS (va_recv hK hP (ci := 5) (q0 := 0) rfl rfl) rfl hl.1 rfl (Nat.le_of_ble_eq_true rfl) dX5_needNewName_11 (by decide)) hP hD hS [0] [1] [g8 q o1 a1 S1] 2 (by decide) rfl rfl rfl rfl (fun H locs hP hD hS => ?_)
  refine lv_if_ne (tgt := 25) hx hb dX5_needNewName_14 (by decide) (fun c4 => ?_) (fun c4 => ?_)
  · have hF := op_f hF c4
    refine lv_aload_n hx hb dX5_needNewName_25 rfl (lv_at hl 2 rfl) ?_
    refine lv_lload_n hx hb dX5_needNewName_26 rfl (lv_at hl 0 rfl) ?_
    obtain ⟨r6, hc5, hF⟩ := ob1_s hF
    refine k_iro C (k_rV (As := [.long (S0.2.2.2 4 (S0.1 6).toNatClampNeg)]) (rest := []) C (c_X8_turretNamed l D q o1 a1 S1 _ (S0.2.2.2 4 (S0.1 6).toNatClampNeg) hc5) kc_X8_turretNamed ml_X5_132 rfl rfl (by decide) (flP hP [1] rfl) (flD hD [1] (by decide) rfl) hS (va_recv hK hP (ci := 8) (q0 := 5) rfl rfl) rfl hl.1 rfl (Nat.le_of_ble_eq_true rfl) dX5_needNewName_27 (by decide)) hP hD hS [1] [0] [g5 q o0 a0 tp S0] 2 (by decide) rfl rfl rfl rfl (fun H locs hP hD hS => ?_)
    refine lv_iconst (v := (-1 : Int32)) hx hb dX5_needNewName_30 (by decide) ?_
    refine lv_icmp_ne (tgt := 43) hx hb dX5_needNewName_31 (by decide) (fun c7 => ?_) (fun c7 => ?_)
    · have hF := op_f hF c7
      exact b_X5_needNewName_43 C hF hP hD hS (lv_sub hl [1, 0] rfl)
    · have hF := op_t hF c7
      refine lv_aload_n hx hb dX5_needNewName_34 rfl (lv_at hl 2 rfl) ?_
      refine lv_lload_n hx hb dX5_needNewName_35 rfl (lv_at hl 0 rfl) ?_
      obtain ⟨r9, hc8, hF⟩ := ob1_s hF
      refine k_iro C (k_rV (As := [.long (S0.2.2.2 4 (S0.1 6).toNatClampNeg)]) (rest := []) C (c_X8_personNamed l D q o1 a1 S1 _ (S0.2.2.2 4 (S0.1 6).toNatClampNeg) hc8) kc_X8_personNamed ml_X5_137 rfl rfl (by decide) (flP hP [1] rfl) (flD hD [1] (by decide) rfl) hS (va_recv hK hP (ci := 8) (q0 := 5) rfl rfl) rfl hl.1 rfl (Nat.le_of_ble_eq_true rfl) dX5_needNewName_36 (by decide)) hP hD hS [1] [0] [g5 q o0 a0 tp S0] 2 (by decide) rfl rfl rfl rfl (fun H locs hP hD hS => ?_)
      refine lv_iconst (v := (-1 : Int32)) hx hb dX5_needNewName_39 (by decide) ?_
      refine lv_icmp_eq (tgt := 51) hx hb dX5_needNewName_40 (by decide) (fun c10 => ?_) (fun c10 => ?_)
      · have hF := op_t hF c10
        refine lv_aload_n hx hb dX5_needNewName_51 rfl (lv_at hl 1 rfl) ?_
        obtain ⟨U12, hc11, hF⟩ := ob1_s hF
        refine k_vgrp (gs8 := [g5 q o0 a0 tp U12, g8 q o1 a1 S1]) C (k_rV (As := []) (rest := []) C (c_X5_next l D q tp o0 a0 S0 _ hc11) kc_X5_next ml_X5_114 rfl rfl (by decide) (flP hP [0] rfl) (flD hD [0] (by decide) rfl) hS (va_recv hK hP (ci := 5) (q0 := 0) rfl rfl) rfl hl.1 rfl (Nat.le_of_ble_eq_true rfl) dX5_needNewName_52 (by decide)) hP hD hS [0] [1] [g8 q o1 a1 S1] 2 (by decide) rfl rfl rfl rfl rfl rfl (by simp only [List.map_cons, List.map_nil, gad5, gad8]) (fun H locs hP hD hS => ?_)
        refine lv_lload_n hx hb dX5_needNewName_55 rfl (lv_at hl 0 rfl) ?_
        cases hF
        exact k_lret C hP hS dX5_needNewName_56
      · have hF := op_f hF c10
        exact b_X5_needNewName_43 C hF hP hD hS (lv_sub hl [1, 0] rfl)
  · have hF := op_t hF c4
    refine lv_aload_n hx hb dX5_needNewName_17 rfl (lv_at hl 1 rfl) ?_
    refine lv_iconst (v := (1 : Int32)) hx hb dX5_needNewName_18 (by decide) ?_
    obtain ⟨U14, hc13, hF⟩ := ob1_s hF
    refine k_vgrp (gs8 := [g5 q o0 a0 tp U14, g8 q o1 a1 S1]) C (k_rV (As := [.int (1 : Int32)]) (rest := []) C (c_X5_fail l D q tp o0 a0 S0 _ (1 : Int32) hc13) kc_X5_fail ml_X5_108 rfl rfl (by decide) (flP hP [0] rfl) (flD hD [0] (by decide) rfl) hS (va_recv hK hP (ci := 5) (q0 := 0) rfl rfl) rfl hl.1 rfl (Nat.le_of_ble_eq_true rfl) dX5_needNewName_19 (by decide)) hP hD hS [0] [1] [g8 q o1 a1 S1] 2 (by decide) rfl rfl rfl rfl rfl rfl (by simp only [List.map_cons, List.map_nil, gad5, gad8]) (fun H locs hP hD hS => ?_)
    refine lv_goto (tgt := 55) hx hb dX5_needNewName_22 (by decide) ?_
    refine lv_lload_n hx hb dX5_needNewName_55 rfl (lv_at hl 0 rfl) ?_
    cases hF
    exact k_lret C hP hS dX5_needNewName_56

abbrev rm_X5_needNewView : Room := ({ frames := 2, cells := 0, slots := 0, locals := 45 } : Room)
def F_X5_needNewView_55 (S0 : St) : Option (Int32 × St) := ob2 (F_X5_needWordFrom S0 (9 : Int32) (8 : Int32)) fun r2 U3 => some (r2, U3)
def F_X5_needNewView_27 (x1 : Int32) (s0 : Int32) (S0 : St) : Option (Int32 × St) := if s0 = (-1 : Int32) then (F_X5_needNewView_55 S0) else (ob1 (F_X11_opposite s0) fun r3 => if (x1 &&& (((1 : Int32) <<< (s0 &&& 31)) ||| ((1 : Int32) <<< (r3 &&& 31)))) = 0 then (F_X5_needNewView_55 S0) else (ob1 (F_X5_fail S0 (3 : Int32)) fun U6 => some ((-1 : Int32), U6)))
def F_X5_needNewView (S0 : St) (x1 : Int32) : Option (Int32 × St) := ob1 (F_X5_isWordFrom S0 (9 : Int32) (8 : Int32)) fun r2 => if r2 = 0 then (F_X5_needNewView_27 x1 (-1 : Int32) S0) else (if oob (S0.1 6) 901 then none else F_X5_needNewView_27 x1 ((S0.2.2.1 3 (S0.1 6).toNatClampNeg) - (9 : Int32)) S0)
set_option maxRecDepth 100000 in
set_option maxHeartbeats 4000000 in
theorem b_X5_needNewView_55 {p : Program} {l : Launch} {e : Env} {s : State} {m : MethodId} {args : Array Value} {below : List Frame} {meth : Method} {c : Code} {D : va_G} {q : Nat → ClassId} {A : Nat → Prop} {tp : Nat} {o0 : Nat} {a0 : Nat → Nat} {r : Int32} {T0 : St} (C : cx p s m args meth c cX5_needNewView 3 (some .int) RX5 D q A) {S0 : St} (hF : F_X5_needNewView_55 S0 = some (r, T0)) {H : Heap} {locs : List Loc} (hP : va_P D vwCl (fl [g5 q o0 a0 tp S0]) H) (hD : va_D A (fl [g5 q o0 a0 tp S0])) (hS : va_S A s.heap H locs) {ls : Array Slot} (hl : lv_has ls 3 [(0, .ref o0)]) : W p l e rm_X5_needNewView s m args below meth c H locs 0 0 (MQ below (QI D A r (fl [g5 q o0 a0 tp T0])) args s 0 0 A) (F0 m 55 ls []) := by
  unfold F_X5_needNewView_55 at hF
  obtain ⟨hx, hb, hr, hml, hown, hts, hlk, hA, hK, hN, hV⟩ := id C
  refine lv_aload_n hx hb dX5_needNewView_55 rfl (lv_at hl 0 rfl) ?_
  refine lv_bipush (v := (9 : Int32)) hx hb dX5_needNewView_56 (by decide) ?_
  refine lv_bipush (v := (8 : Int32)) hx hb dX5_needNewView_58 (by decide) ?_
  obtain ⟨r2, U3, hc1, hF⟩ := ob2_s hF
  refine k_iall C (k_rV (As := [.int (9 : Int32), .int (8 : Int32)]) (rest := []) C (c_X5_needWordFrom l D q tp o0 a0 S0 _ (9 : Int32) (8 : Int32) hc1) kc_X5_needWordFrom ml_X5_147 rfl rfl (by decide) hP hD hS (va_recv hK hP (ci := 5) (q0 := 0) rfl rfl) rfl hl.1 rfl (Nat.le_of_ble_eq_true rfl) dX5_needNewView_60 (by decide)) hP hD hS (by simp only [List.map_cons, List.map_nil, gad5]) (fun H locs hP hD hS => ?_)
  cases hF
  exact k_iret C hP hS dX5_needNewView_63
set_option maxRecDepth 100000 in
set_option maxHeartbeats 4000000 in
theorem b_X5_needNewView_27 {p : Program} {l : Launch} {e : Env} {s : State} {m : MethodId} {args : Array Value} {below : List Frame} {meth : Method} {c : Code} {D : va_G} {q : Nat → ClassId} {A : Nat → Prop} {tp : Nat} {o0 : Nat} {a0 : Nat → Nat} {r : Int32} {T0 : St} (C : cx p s m args meth c cX5_needNewView 3 (some .int) RX5 D q A) {x1 : Int32} {s0 : Int32} {S0 : St} (hF : F_X5_needNewView_27 x1 s0 S0 = some (r, T0)) {H : Heap} {locs : List Loc} (hP : va_P D vwCl (fl [g5 q o0 a0 tp S0]) H) (hD : va_D A (fl [g5 q o0 a0 tp S0])) (hS : va_S A s.heap H locs) {ls : Array Slot} (hl : lv_has ls 3 [(0, .ref o0), (1, .int x1)]) : W p l e rm_X5_needNewView s m args below meth c H locs 0 0 (MQ below (QI D A r (fl [g5 q o0 a0 tp T0])) args s 0 0 A) (F0 m 27 ls [.int s0]) := by
  unfold F_X5_needNewView_27 at hF
  obtain ⟨hx, hb, hr, hml, hown, hts, hlk, hA, hK, hN, hV⟩ := id C
  refine lv_istore_n (lv' := [(2, .int s0), (0, .ref o0), (1, .int x1)]) hx hb dX5_needNewView_27 rfl hl (by decide) rfl (fun ls hl => ?_)
  refine lv_iload_n hx hb dX5_needNewView_28 rfl (lv_at hl 0 rfl) ?_
  refine lv_iconst (v := (-1 : Int32)) hx hb dX5_needNewView_29 (by decide) ?_
  refine lv_icmp_eq (tgt := 55) hx hb dX5_needNewView_30 (by decide) (fun c1 => ?_) (fun c1 => ?_)
  · have hF := op_t hF c1
    exact b_X5_needNewView_55 C hF hP hD hS (lv_sub hl [1] rfl)
  · have hF := op_f hF c1
    refine lv_iload_n hx hb dX5_needNewView_33 rfl (lv_at hl 2 rfl) ?_
    refine lv_iconst (v := (1 : Int32)) hx hb dX5_needNewView_34 (by decide) ?_
    refine lv_iload_n hx hb dX5_needNewView_35 rfl (lv_at hl 0 rfl) ?_
    refine lv_ishl hx hb dX5_needNewView_36 ?_
    refine lv_iconst (v := (1 : Int32)) hx hb dX5_needNewView_37 (by decide) ?_
    refine lv_iload_n hx hb dX5_needNewView_38 rfl (lv_at hl 0 rfl) ?_
    obtain ⟨r3, hc2, hF⟩ := ob1_s hF
    refine k_inil C (k_rN (As := [.int s0]) (rest := [.int (1 : Int32), .int ((1 : Int32) <<< (s0 &&& 31)), .int x1]) C (c_X11_opposite l D q _ s0 hc2) kc_X11_opposite (List.mem_of_getElem? (i := 0) rfl) rfl rfl (by decide) (fun k x h => by simp at h) (⟨fun i j x y h => by simp at h, fun k x h => by simp at h⟩ : va_D A []) hS rfl hl.1 rfl (Nat.le_of_ble_eq_true rfl) dX5_needNewView_39 (by decide)) hP hD hS (fun H locs hP hD hS => ?_)
    refine lv_ishl hx hb dX5_needNewView_42 ?_
    refine lv_ior hx hb dX5_needNewView_43 ?_
    refine lv_iand hx hb dX5_needNewView_44 ?_
    refine lv_if_eq (tgt := 55) hx hb dX5_needNewView_45 (by decide) (fun c4 => ?_) (fun c4 => ?_)
    · have hF := op_t hF c4
      exact b_X5_needNewView_55 C hF hP hD hS (lv_sub hl [1] rfl)
    · have hF := op_f hF c4
      refine lv_aload_n hx hb dX5_needNewView_48 rfl (lv_at hl 1 rfl) ?_
      refine lv_iconst (v := (3 : Int32)) hx hb dX5_needNewView_49 (by decide) ?_
      obtain ⟨U6, hc5, hF⟩ := ob1_s hF
      refine k_vall C (k_rV (As := [.int (3 : Int32)]) (rest := []) C (c_X5_fail l D q tp o0 a0 S0 _ (3 : Int32) hc5) kc_X5_fail ml_X5_108 rfl rfl (by decide) hP hD hS (va_recv hK hP (ci := 5) (q0 := 0) rfl rfl) rfl hl.1 rfl (Nat.le_of_ble_eq_true rfl) dX5_needNewView_50 (by decide)) hP hD hS (by simp only [List.map_cons, List.map_nil, gad5]) (fun H locs hP hD hS => ?_)
      refine lv_iconst (v := (-1 : Int32)) hx hb dX5_needNewView_53 (by decide) ?_
      cases hF
      exact k_iret C hP hS dX5_needNewView_54
set_option maxRecDepth 100000 in
set_option maxHeartbeats 4000000 in
theorem c_X5_needNewView (l : Launch) (D : va_G) (q : Nat → ClassId) (tp : Nat) (o0 : Nat) (a0 : Nat → Nat) (S0 : St) (sz : Nat) (x1 : Int32) {r : Int32} {T0 : St} (hF : F_X5_needNewView S0 x1 = some (r, T0)) : Met l yX5_needNewView (Cond.code yX5_needNewView cX5_needNewView 3 (some .int) :: TB) rm_X5_needNewView (PC D q [.ref o0, .int x1] (fl [g5 q o0 a0 tp S0]) sz) ((fun A => QI D A r (fl [g5 q o0 a0 tp T0])) (va_A (fl [g5 q o0 a0 tp S0]) sz)) 0 0 (va_A (fl [g5 q o0 a0 tp S0]) sz) := by
  refine k_met (w0 := fl [g5 q o0 a0 tp S0]) (Q := fun A => QI D A r (fl [g5 q o0 a0 tp T0])) (by decide +kernel) (Nat.le_of_ble_eq_true rfl) ?_
  intro p e s m args below meth c A ls C hP hD hS hl
  have hl : lv_has ls 3 [(0, .ref o0), (1, .int x1)] := hl
  unfold F_X5_needNewView at hF
  have C : cx p s m args meth c cX5_needNewView 3 (some .int) RX5 D q A := C
  obtain ⟨hx, hb, hr, hml, hown, hts, hlk, hA, hK, hN, hV⟩ := id C
  refine lv_aload_n hx hb dX5_needNewView_0 rfl (lv_at hl 0 rfl) ?_
  refine lv_bipush (v := (9 : Int32)) hx hb dX5_needNewView_1 (by decide) ?_
  refine lv_bipush (v := (8 : Int32)) hx hb dX5_needNewView_3 (by decide) ?_
  obtain ⟨r2, hc1, hF⟩ := ob1_s hF
  refine k_isame C (k_rV (As := [.int (9 : Int32), .int (8 : Int32)]) (rest := []) C (c_X5_isWordFrom l D q tp o0 a0 S0 _ (9 : Int32) (8 : Int32) hc1) kc_X5_isWordFrom ml_X5_124 rfl rfl (by decide) hP hD hS (va_recv hK hP (ci := 5) (q0 := 0) rfl rfl) rfl hl.1 rfl (Nat.le_of_ble_eq_true rfl) dX5_needNewView_5 (by decide)) hP hD hS (fun H locs hP hD hS => ?_)
  refine lv_if_eq (tgt := 26) hx hb dX5_needNewView_8 (by decide) (fun c3 => ?_) (fun c3 => ?_)
  · have hF := op_t hF c3
    refine lv_iconst (v := (-1 : Int32)) hx hb dX5_needNewView_26 (by decide) ?_
    exact b_X5_needNewView_27 C hF hP hD hS (lv_sub hl [0, 1] rfl)
  · have hF := op_f hF c3
    refine lv_aload_n hx hb dX5_needNewView_11 rfl (lv_at hl 0 rfl) ?_
    refine k_get (v := .ref (a0 4)) C fg_X5_28 hP 0 rfl rfl dX5_needNewView_12 ?_
    refine lv_aload_n hx hb dX5_needNewView_15 rfl (lv_at hl 0 rfl) ?_
    refine k_get (v := .int (S0.1 6)) C fg_X5_80 hP 0 rfl rfl dX5_needNewView_16 ?_
    obtain ⟨h4, hF⟩ := op_ck hF
    refine k_ild (f := S0.2.2.1 3) C hP 3 rfl h4 dX5_needNewView_19 ?_
    refine lv_bipush (v := (9 : Int32)) hx hb dX5_needNewView_20 (by decide) ?_
    refine lv_isub hx hb dX5_needNewView_22 ?_
    refine lv_goto (tgt := 27) hx hb dX5_needNewView_23 (by decide) ?_
    exact b_X5_needNewView_27 C hF hP hD hS (lv_sub hl [0, 1] rfl)
