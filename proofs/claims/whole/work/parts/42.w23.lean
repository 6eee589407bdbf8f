abbrev rm_X6_keepSoonest : Room := ({ frames := 0, cells := 0, slots := 0, locals := 0 } : Room)
def F_X6_keepSoonest_41 (k41 : Int32 × Int32 × Int32 × St → Option (St)) (x2 : Int32) (x3 : Int32) (x4 : Int32) (S0 : St) : Option (St) := if x4 < 0 then (nw (sI S0 4 x2) fun U2 => some (U2)) else (if oob x3 256 then none else if oob x4 256 then none else nw (sA S0 3 x4 (S0.2.2.1 2 x3.toNatClampNeg)) fun U6 => if oob x3 256 then none else k41 (x2, (U6.2.2.1 1 x3.toNatClampNeg), (x4 + (-1)), U6))
def L_X6_keepSoonest_41 (x2 : Int32) (x3 : Int32) (x4 : Int32) (S0 : St) : Option (St) := lp (fun kz z => F_X6_keepSoonest_41 kz z.1 z.2.1 z.2.2.1 z.2.2.2) FU (x2, x3, x4, S0)
def F_X6_keepSoonest_34 (x1 : Int32) (x2 : Int32) (S0 : St) : Option (St) := L_X6_keepSoonest_41 x2 x1 (x2 - (1 : Int32)) S0
def F_X6_keepSoonest_4 (k4 : Int32 × Int32 × Int32 × St → Option (St)) (x1 : Int32) (x2 : Int32) (x3 : Int32) (S0 : St) : Option (St) := if (256 : Int32) ≤ x2 then (F_X6_keepSoonest_34 x1 x2 S0) else (if oob x3 256 then none else if (S0.2.2.1 2 x3.toNatClampNeg) = (-1 : Int32) then (F_X6_keepSoonest_34 x1 x2 S0) else (if oob x3 256 then none else k4 (x1, (x2 + 1), (S0.2.2.1 1 x3.toNatClampNeg), S0)))
def L_X6_keepSoonest_4 (x1 : Int32) (x2 : Int32) (x3 : Int32) (S0 : St) : Option (St) := lp (fun kz z => F_X6_keepSoonest_4 kz z.1 z.2.1 z.2.2.1 z.2.2.2) FU (x1, x2, x3, S0)
def F_X6_keepSoonest (S0 : St) (x1 : Int32) : Option (St) := L_X6_keepSoonest_4 x1 (0 : Int32) x1 S0
set_option maxRecDepth 100000 in
set_option maxHeartbeats 4000000 in
theorem b_X6_keepSoonest_41 {p : Program} {l : Launch} {e : Env} {s : State} {m : MethodId} {args : Array Value} {below : List Frame} {meth : Method} {c : Code} {D : va_G} {q : Nat → ClassId} {A : Nat → Prop} {o0 : Nat} {a0 : Nat → Nat} {T0 : St} (C : cx p s m args meth c cX6_keepSoonest 5 none RX6 D q A) {k41 : Int32 × Int32 × Int32 × St → Option (St)} (hk41 : ∀ (x2 : Int32) (x3 : Int32) (x4 : Int32) (S0 : St), k41 (x2, x3, x4, S0) = some (T0) → ∀ (H : Heap) (locs : List Loc) (ls : Array Slot), va_P D vwCl (fl [g6 q o0 a0 S0]) H → va_D A (fl [g6 q o0 a0 S0]) → va_S A s.heap H locs → lv_has ls 5 [(0, .ref o0), (2, .int x2), (3, .int x3), (4, .int x4)] → W p l e rm_X6_keepSoonest s m args below meth c H locs 0 0 (MQ below (QV D A (fl [g6 q o0 a0 T0])) args s 0 0 A) (F0 m 41 ls [])) {x2 : Int32} {x3 : Int32} {x4 : Int32} {S0 : St} (hF : F_X6_keepSoonest_41 k41 x2 x3 x4 S0 = some (T0)) {H : Heap} {locs : List Loc} (hP : va_P D vwCl (fl [g6 q o0 a0 S0]) H) (hD : va_D A (fl [g6 q o0 a0 S0])) (hS : va_S A s.heap H locs) {ls : Array Slot} (hl : lv_has ls 5 [(0, .ref o0), (2, .int x2), (3, .int x3), (4, .int x4)]) : W p l e rm_X6_keepSoonest s m args below meth c H locs 0 0 (MQ below (QV D A (fl [g6 q o0 a0 T0])) args s 0 0 A) (F0 m 41 ls []) := by
  unfold F_X6_keepSoonest_41 at hF
  obtain ⟨hx, hb, hr, hml, hown, hts, hlk, hA, hK, hN, hV⟩ := id C
  refine lv_iload hx hb dX6_keepSoonest_41 (lv_at hl 3 rfl) ?_
  refine lv_if_lt (tgt := 72) hx hb dX6_keepSoonest_43 (by decide) (fun c1 => ?_) (fun c1 => ?_)
  · have hF := op_t hF c1
    refine lv_aload_n hx hb dX6_keepSoonest_72 rfl (lv_at hl 0 rfl) ?_
    refine lv_iload_n hx hb dX6_keepSoonest_73 rfl (lv_at hl 1 rfl) ?_
    obtain ⟨U2, e3, hF⟩ := nw_s hF
    refine k_put (W8 := fl [g6 q o0 a0 U2]) C fp_X6_52 hP hD hS 0 rfl rfl rfl (Nat.le_of_ble_eq_true rfl) dX6_keepSoonest_74 (by rw [e3]; rfl) (fun H locs hP hD hS => ?_)
    cases hF
    exact k_vret C hP hS dX6_keepSoonest_77
  · have hF := op_f hF c1
    refine lv_aload_n hx hb dX6_keepSoonest_46 rfl (lv_at hl 0 rfl) ?_
    refine k_get (v := .ref (a0 4)) C fg_X6_21 hP 0 rfl rfl dX6_keepSoonest_47 ?_
    refine lv_iload hx hb dX6_keepSoonest_50 (lv_at hl 3 rfl) ?_
    refine lv_aload_n hx hb dX6_keepSoonest_52 rfl (lv_at hl 0 rfl) ?_
    refine k_get (v := .ref (a0 3)) C fg_X6_18 hP 0 rfl rfl dX6_keepSoonest_53 ?_
    refine lv_iload_n hx hb dX6_keepSoonest_56 rfl (lv_at hl 2 rfl) ?_
    obtain ⟨h4, hF⟩ := op_ck hF
    refine k_ild (f := S0.2.2.1 2) C hP 3 rfl h4 dX6_keepSoonest_57 ?_
    obtain ⟨h5, hF⟩ := op_ck hF
    obtain ⟨U6, e7, hF⟩ := nw_s hF
    refine k_ist (f := S0.2.2.1 3) (W8 := fl [g6 q o0 a0 U6]) C hP hD hS 4 rfl h5 dX6_keepSoonest_58 (by rw [e7]; rfl) (fun H locs hP hD hS => ?_)
    refine lv_aload_n hx hb dX6_keepSoonest_59 rfl (lv_at hl 0 rfl) ?_
    refine k_get (v := .ref (a0 2)) C fg_X6_15 hP 0 rfl rfl dX6_keepSoonest_60 ?_
    refine lv_iload_n hx hb dX6_keepSoonest_63 rfl (lv_at hl 2 rfl) ?_
    obtain ⟨h8, hF⟩ := op_ck hF
    refine k_ild (f := U6.2.2.1 1) C hP 2 rfl h8 dX6_keepSoonest_64 ?_
    refine lv_istore_n (lv' := [(3, .int (U6.2.2.1 1 x3.toNatClampNeg)), (0, .ref o0), (2, .int x2), (4, .int x4)]) hx hb dX6_keepSoonest_65 rfl hl (by decide) rfl (fun ls hl => ?_)
    refine lv_iinc (v := (x4 + (-1))) (lv' := [(4, .int (x4 + (-1))), (3, .int (U6.2.2.1 1 x3.toNatClampNeg)), (0, .ref o0), (2, .int x2)]) hx hb dX6_keepSoonest_66 hl (k := 3) rfl rfl (by decide) rfl (fun ls hl => ?_)
    refine lv_goto (tgt := 41) hx hb dX6_keepSoonest_69 (by decide) ?_
    exact hk41 x2 (U6.2.2.1 1 x3.toNatClampNeg) (x4 + (-1)) U6 hF _ _ _ hP hD hS (lv_sub hl [2, 3, 1, 0] rfl)
set_option maxRecDepth 100000 in
set_option maxHeartbeats 4000000 in
theorem l_X6_keepSoonest_41 {p : Program} {l : Launch} {e : Env} {s : State} {m : MethodId} {args : Array Value} {below : List Frame} {meth : Method} {c : Code} {D : va_G} {q : Nat → ClassId} {A : Nat → Prop} {o0 : Nat} {a0 : Nat → Nat} {T0 : St} (C : cx p s m args meth c cX6_keepSoonest 5 none RX6 D q A) {x2 : Int32} {x3 : Int32} {x4 : Int32} {S0 : St} (hF : L_X6_keepSoonest_41 x2 x3 x4 S0 = some (T0)) : ∀ (H : Heap) (locs : List Loc) (ls : Array Slot), va_P D vwCl (fl [g6 q o0 a0 S0]) H → va_D A (fl [g6 q o0 a0 S0]) → va_S A s.heap H locs → lv_has ls 5 [(0, .ref o0), (2, .int x2), (3, .int x3), (4, .int x4)] → W p l e rm_X6_keepSoonest s m args below meth c H locs 0 0 (MQ below (QV D A (fl [g6 q o0 a0 T0])) args s 0 0 A) (F0 m 41 ls []) :=
  lp_G _ _ (fun z => ∀ (H : Heap) (locs : List Loc) (ls : Array Slot), va_P D vwCl (fl [g6 q o0 a0 z.2.2.2]) H → va_D A (fl [g6 q o0 a0 z.2.2.2]) → va_S A s.heap H locs → lv_has ls 5 [(0, .ref o0), (2, .int z.1), (3, .int z.2.1), (4, .int z.2.2.1)] → W p l e rm_X6_keepSoonest s m args below meth c H locs 0 0 (MQ below (QV D A (fl [g6 q o0 a0 T0])) args s 0 0 A) (F0 m 41 ls [])) (fun kz hkz z hz H locs ls hP hD hS hl => b_X6_keepSoonest_41 C (fun x2 x3 x4 S0 hz => hkz (x2, x3, x4, S0) hz) hz hP hD hS hl) FU (x2, x3, x4, S0) hF
set_option maxRecDepth 100000 in
set_option maxHeartbeats 4000000 in
theorem b_X6_keepSoonest_34 {p : Program} {l : Launch} {e : Env} {s : State} {m : MethodId} {args : Array Value} {below : List Frame} {meth : Method} {c : Code} {D : va_G} {q : Nat → ClassId} {A : Nat → Prop} {o0 : Nat} {a0 : Nat → Nat} {T0 : St} (C : cx p s m args meth c cX6_keepSoonest 5 none RX6 D q A) {x1 : Int32} {x2 : Int32} {S0 : St} (hF : F_X6_keepSoonest_34 x1 x2 S0 = some (T0)) {H : Heap} {locs : List Loc} (hP : va_P D vwCl (fl [g6 q o0 a0 S0]) H) (hD : va_D A (fl [g6 q o0 a0 S0])) (hS : va_S A s.heap H locs) {ls : Array Slot} (hl : lv_has ls 5 [(0, .ref o0), (1, .int x1), (2, .int x2)]) : W p l e rm_X6_keepSoonest s m args below meth c H locs 0 0 (MQ below (QV D A (fl [g6 q o0 a0 T0])) args s 0 0 A) (F0 m 34 ls []) := by
  unfold F_X6_keepSoonest_34 at hF
  obtain ⟨hx, hb, hr, hml, hown, hts, hlk, hA, hK, hN, hV⟩ := id C
  refine lv_iload_n hx hb dX6_keepSoonest_34 rfl (lv_at hl 1 rfl) ?_
  refine lv_istore_n (lv' := [(3, .int x1), (0, .ref o0), (1, .int x1), (2, .int x2)]) hx hb dX6_keepSoonest_35 rfl hl (by decide) rfl (fun ls hl => ?_)
  refine lv_iload_n hx hb dX6_keepSoonest_36 rfl (lv_at hl 3 rfl) ?_
  refine lv_iconst (v := (1 : Int32)) hx hb dX6_keepSoonest_37 (by decide) ?_
  refine lv_isub hx hb dX6_keepSoonest_38 ?_
  refine lv_istore (lv' := [(4, .int (x2 - (1 : Int32))), (3, .int x1), (0, .ref o0), (1, .int x1), (2, .int x2)]) hx hb dX6_keepSoonest_39 hl (by decide) rfl (fun ls hl => ?_)
  exact l_X6_keepSoonest_41 C hF _ _ _ hP hD hS (lv_sub hl [2, 4, 1, 0] rfl)
set_option maxRecDepth 100000 in
set_option maxHeartbeats 4000000 in
theorem b_X6_keepSoonest_4 {p : Program} {l : Launch} {e : Env} {s : State} {m : MethodId} {args : Array Value} {below : List Frame} {meth : Method} {c : Code} {D : va_G} {q : Nat → ClassId} {A : Nat → Prop} {o0 : Nat} {a0 : Nat → Nat} {T0 : St} (C : cx p s m args meth c cX6_keepSoonest 5 none RX6 D q A) {k4 : Int32 × Int32 × Int32 × St → Option (St)} (hk4 : ∀ (x1 : Int32) (x2 : Int32) (x3 : Int32) (S0 : St), k4 (x1, x2, x3, S0) = some (T0) → ∀ (H : Heap) (locs : List Loc) (ls : Array Slot), va_P D vwCl (fl [g6 q o0 a0 S0]) H → va_D A (fl [g6 q o0 a0 S0]) → va_S A s.heap H locs → lv_has ls 5 [(0, .ref o0), (1, .int x1), (2, .int x2), (3, .int x3)] → W p l e rm_X6_keepSoonest s m args below meth c H locs 0 0 (MQ below (QV D A (fl [g6 q o0 a0 T0])) args s 0 0 A) (F0 m 4 ls [])) {x1 : Int32} {x2 : Int32} {x3 : Int32} {S0 : St} (hF : F_X6_keepSoonest_4 k4 x1 x2 x3 S0 = some (T0)) {H : Heap} {locs : List Loc} (hP : va_P D vwCl (fl [g6 q o0 a0 S0]) H) (hD : va_D A (fl [g6 q o0 a0 S0])) (hS : va_S A s.heap H locs) {ls : Array Slot} (hl : lv_has ls 5 [(0, .ref o0), (1, .int x1), (2, .int x2), (3, .int x3)]) : W p l e rm_X6_keepSoonest s m args below meth c H locs 0 0 (MQ below (QV D A (fl [g6 q o0 a0 T0])) args s 0 0 A) (F0 m 4 ls []) := by
  unfold F_X6_keepSoonest_4 at hF
  obtain ⟨hx, hb, hr, hml, hown, hts, hlk, hA, hK, hN, hV⟩ := id C
  refine lv_iload_n hx hb dX6_keepSoonest_4 rfl (lv_at hl 2 rfl) ?_
  refine lv_sipush (v := (256 : Int32)) hx hb dX6_keepSoonest_5 (by decide) ?_
  refine lv_icmp_ge (tgt := 34) hx hb dX6_keepSoonest_8 (by decide) (fun c1 => ?_) (fun c1 => ?_)
  · have hF := op_t hF c1
    exact b_X6_keepSoonest_34 C hF hP hD hS (lv_sub hl [0, 1, 2] rfl)
  · have hF := op_f hF c1
    refine lv_aload_n hx hb dX6_keepSoonest_11 rfl (lv_at hl 0 rfl) ?_
    refine k_get (v := .ref (a0 3)) C fg_X6_18 hP 0 rfl rfl dX6_keepSoonest_12 ?_
    refine lv_iload_n hx hb dX6_keepSoonest_15 rfl (lv_at hl 3 rfl) ?_
    obtain ⟨h2, hF⟩ := op_ck hF
    refine k_ild (f := S0.2.2.1 2) C hP 3 rfl h2 dX6_keepSoonest_16 ?_
    refine lv_iconst (v := (-1 : Int32)) hx hb dX6_keepSoonest_17 (by decide) ?_
    refine lv_icmp_eq (tgt := 34) hx hb dX6_keepSoonest_18 (by decide) (fun c3 => ?_) (fun c3 => ?_)
    · have hF := op_t hF c3
      exact b_X6_keepSoonest_34 C hF hP hD hS (lv_sub hl [0, 1, 2] rfl)
    · have hF := op_f hF c3
      refine lv_iinc (v := (x2 + 1)) (lv' := [(2, .int (x2 + 1)), (0, .ref o0), (1, .int x1), (3, .int x3)]) hx hb dX6_keepSoonest_21 hl (k := 2) rfl rfl (by decide) rfl (fun ls hl => ?_)
      refine lv_aload_n hx hb dX6_keepSoonest_24 rfl (lv_at hl 1 rfl) ?_
      refine k_get (v := .ref (a0 2)) C fg_X6_15 hP 0 rfl rfl dX6_keepSoonest_25 ?_
      refine lv_iload_n hx hb dX6_keepSoonest_28 rfl (lv_at hl 3 rfl) ?_
      obtain ⟨h4, hF⟩ := op_ck hF
      refine k_ild (f := S0.2.2.1 1) C hP 2 rfl h4 dX6_keepSoonest_29 ?_
      refine lv_istore_n (lv' := [(3, .int (S0.2.2.1 1 x3.toNatClampNeg)), (2, .int (x2 + 1)), (0, .ref o0), (1, .int x1)]) hx hb dX6_keepSoonest_30 rfl hl (by decide) rfl (fun ls hl => ?_)
      refine lv_goto (tgt := 4) hx hb dX6_keepSoonest_31 (by decide) ?_
      exact hk4 x1 (x2 + 1) (S0.2.2.1 1 x3.toNatClampNeg) S0 hF _ _ _ hP hD hS (lv_sub hl [2, 3, 1, 0] rfl)
set_option maxRecDepth 100000 in
set_option maxHeartbeats 4000000 in
theorem l_X6_keepSoonest_4 {p : Program} {l : Launch} {e : Env} {s : State} {m : MethodId} {args : Array Value} {below : List Frame} {meth : Method} {c : Code} {D : va_G} {q : Nat → ClassId} {A : Nat → Prop} {o0 : Nat} {a0 : Nat → Nat} {T0 : St} (C : cx p s m args meth c cX6_keepSoonest 5 none RX6 D q A) {x1 : Int32} {x2 : Int32} {x3 : Int32} {S0 : St} (hF : L_X6_keepSoonest_4 x1 x2 x3 S0 = some (T0)) : ∀ (H : Heap) (locs : List Loc) (ls : Array Slot), va_P D vwCl (fl [g6 q o0 a0 S0]) H → va_D A (fl [g6 q o0 a0 S0]) → va_S A s.heap H locs → lv_has ls 5 [(0, .ref o0), (1, .int x1), (2, .int x2), (3, .int x3)] → W p l e rm_X6_keepSoonest s m args below meth c H locs 0 0 (MQ below (QV D A (fl [g6 q o0 a0 T0])) args s 0 0 A) (F0 m 4 ls []) :=
  lp_G _ _ (fun z => ∀ (H : Heap) (locs : List Loc) (ls : Array Slot), va_P D vwCl (fl [g6 q o0 a0 z.2.2.2]) H → va_D A (fl [g6 q o0 a0 z.2.2.2]) → va_S A s.heap H locs → lv_has ls 5 [(0, .ref o0), (1, .int z.1), (2, .int z.2.1), (3, .int z.2.2.1)] → W p l e rm_X6_keepSoonest s m args below meth c H locs 0 0 (MQ below (QV D A (fl [g6 q o0 a0 T0])) args s 0 0 A) (F0 m 4 ls [])) (fun kz hkz z hz H locs ls hP hD hS hl => b_X6_keepSoonest_4 C (fun x1 x2 x3 S0 hz => hkz (x1, x2, x3, S0) hz) hz hP hD hS hl) FU (x1, x2, x3, S0) hF
set_option maxRecDepth 100000 in
set_option maxHeartbeats 4000000 in
theorem c_X6_keepSoonest (l : Launch) (D : va_G) (q : Nat → ClassId) (o0 : Nat) (a0 : Nat → Nat) (S0 : St) (sz : Nat) (x1 : Int32) {T0 : St} (hF : F_X6_keepSoonest S0 x1 = some (T0)) : Met l yX6_keepSoonest (Cond.code yX6_keepSoonest cX6_keepSoonest 5 none :: TB) rm_X6_keepSoonest (PC D q [.ref o0, .int x1] (fl [g6 q o0 a0 S0]) sz) ((fun A => QV D A (fl [g6 q o0 a0 T0])) (va_A (fl [g6 q o0 a0 S0]) sz)) 0 0 (va_A (fl [g6 q o0 a0 S0]) sz) := by
  refine k_met (w0 := fl [g6 q o0 a0 S0]) (Q := fun A => QV D A (fl [g6 q o0 a0 T0])) (by decide +kernel) (Nat.le_of_ble_eq_true rfl) ?_
  intro p e s m args below meth c A ls C hP hD hS hl
  have hl : lv_has ls 5 [(0, .ref o0), (1, .int x1)] := hl
  unfold F_X6_keepSoonest at hF
  have C : cx p s m args meth c cX6_keepSoonest 5 none RX6 D q A := C
  obtain ⟨hx, hb, hr, hml, hown, hts, hlk, hA, hK, hN, hV⟩ := id C
  refine lv_iconst (v := (0 : Int32)) hx hb dX6_keepSoonest_0 (by decide) ?_
  refine lv_istore_n (lv' := [(2, .int (0 : Int32)), (0, .ref o0), (1, .int x1)]) hx hb dX6_keepSoonest_1 rfl hl (by decide) rfl (fun ls hl => ?_)
  refine lv_iload_n hx hb dX6_keepSoonest_2 rfl (lv_at hl 2 rfl) ?_
  refine lv_istore_n (lv' := [(3, .int x1), (2, .int (0 : Int32)), (0, .ref o0), (1, .int x1)]) hx hb dX6_keepSoonest_3 rfl hl (by decide) rfl (fun ls hl => ?_)
  exact l_X6_keepSoonest_4 C hF _ _ _ hP hD hS (lv_sub hl [2, 3, 1, 0] rfl)

abbrev rm_X6_climbTried : Room := ({ frames := 3, cells := 0, slots := 0, locals := 68 } : Room)
def F_X6_climbTried_55 (k55 : Int32 × Int32 × Int32 × St × St → Option (Int32 × St)) (x3 : Int32) (x7 : Int32) (x8 : Int32) (S0 : St) (S1 : St) : Option (Int32 × St) := if x3 ≤ x8 then (some (x7, S0)) else (if oob x8 3 then none else ob1 (F_X8_afterClimb S1 x7 (S0.2.2.1 5 x8.toNatClampNeg)) fun r4 => k55 (x3, r4, (x8 + 1), S0, S1))
def L_X6_climbTried_55 (x3 : Int32) (x7 : Int32) (x8 : Int32) (S0 : St) (S1 : St) : Option (Int32 × St) := lp (fun kz z => F_X6_climbTried_55 kz z.1 z.2.1 z.2.2.1 z.2.2.2.1 z.2.2.2.2) FU (x3, x7, x8, S0, S1)
def F_X6_climbTried_19 (k19 : Int32 × Int32 × Int32 × Int32 × Int32 × St × St → Option (Int32 × St)) (x2 : Int32) (x3 : Int32) (x5 : Int32) (x6 : Int32) (x7 : Int32) (S0 : St) (S1 : St) : Option (Int32 × St) := if x7 < 0 then (L_X6_climbTried_55 x3 x2 (0 : Int32) S0 S1) else (if x5 = 0 then none else if oob x7 3 then none else nw (sA S0 5 x7 (x6 - x6 / x5 * x5)) fun U4 => if x5 = 0 then none else k19 (x2, x3, x5, (x6 / x5), (x7 + (-1)), U4, S1))
def L_X6_climbTried_19 (x2 : Int32) (x3 : Int32) (x5 : Int32) (x6 : Int32) (x7 : Int32) (S0 : St) (S1 : St) : Option (Int32 × St) := lp (fun kz z => F_X6_climbTried_19 kz z.1 z.2.1 z.2.2.1 z.2.2.2.1 z.2.2.2.2.1 z.2.2.2.2.2.1 z.2.2.2.2.2.2) FU (x2, x3, x5, x6, x7, S0, S1)
def F_X6_climbTried (S0 : St) (S1 : St) (x2 : Int32) (x3 : Int32) (x4 : Int32) : Option (Int32 × St) := nw (if (S1.1 0) < (1 : Int32) then (1 : Int32) else (S1.1 0)) fun v1 => L_X6_climbTried_19 x2 x3 v1 x4 (x3 - (1 : Int32)) S0 S1
set_option maxRecDepth 100000 in
set_option maxHeartbeats 4000000 in
theorem b_X6_climbTried_55 {p : Program} {l : Launch} {e : Env} {s : State} {m : MethodId} {args : Array Value} {below : List Frame} {meth : Method} {c : Code} {D : va_G} {q : Nat → ClassId} {A : Nat → Prop} {o0 : Nat} {a0 : Nat → Nat} {o1 : Nat} {a1 : Nat → Nat} {r : Int32} {T0 : St} (C : cx p s m args meth c cX6_climbTried 9 (some .int) RX6 D q A) {k55 : Int32 × Int32 × Int32 × St × St → Option (Int32 × St)} (hk55 : ∀ (x3 : Int32) (x7 : Int32) (x8 : Int32) (S0 : St) (S1 : St), k55 (x3, x7, x8, S0, S1) = some (r, T0) → ∀ (H : Heap) (locs : List Loc) (ls : Array Slot), va_P D vwCl (fl [g6 q o0 a0 S0, g8 q o1 a1 S1]) H → va_D A (fl [g6 q o0 a0 S0, g8 q o1 a1 S1]) → va_S A s.heap H locs → lv_has ls 9 [(0, .ref o0), (1, .ref o1), (3, .int x3), (7, .int x7), (8, .int x8)] → W p l e rm_X6_climbTried s m args below meth c H locs 0 0 (MQ below (QI D A r (fl [g6 q o0 a0 T0, g8 q o1 a1 S1])) args s 0 0 A) (F0 m 55 ls [])) {x3 : Int32} {x7 : Int32} {x8 : Int32} {S0 : St} {S1 : St} (hF : F_X6_climbTried_55 k55 x3 x7 x8 S0 S1 = some (r, T0)) {H : Heap} {locs : List Loc} (hP : va_P D vwCl (fl [g6 q o0 a0 S0, g8 q o1 a1 S1]) H) (hD : va_D A (fl [g6 q o0 a0 S0, g8 q o1 a1 S1])) (hS : va_S A s.heap H locs) {ls : Array Slot} (hl : lv_has ls 9 [(0, .ref o0), (1, .ref o1), (3, .int x3), (7, .int x7), (8, .int x8)]) : W p l e rm_X6_climbTried s m args below meth c H locs 0 0 (MQ below (QI D A r (fl [g6 q o0 a0 T0, g8 q o1 a1 S1])) args s 0 0 A) (F0 m 55 ls []) := by
  unfold F_X6_climbTried_55 at hF
  obtain ⟨hx, hb, hr, hml, hown, hts, hlk, hA, hK, hN, hV⟩ := id C
  refine lv_iload hx hb dX6_climbTried_55 (lv_at hl 4 rfl) ?_
  refine lv_iload_n hx hb dX6_climbTried_57 rfl (lv_at hl 2 rfl) ?_
  refine lv_icmp_ge (tgt := 82) hx hb dX6_climbTried_58 (by decide) (fun c1 => ?_) (fun c1 => ?_)
  · have hF := op_t hF c1
    refine lv_iload hx hb dX6_climbTried_82 (lv_at hl 3 rfl) ?_
    cases hF
    exact k_iret C hP hS dX6_climbTried_84
  · have hF := op_f hF c1
    refine lv_aload_n hx hb dX6_climbTried_61 rfl (lv_at hl 1 rfl) ?_
    refine lv_iload hx hb dX6_climbTried_62 (lv_at hl 3 rfl) ?_
    refine lv_aload_n hx hb dX6_climbTried_64 rfl (lv_at hl 0 rfl) ?_
    refine k_get (v := .ref (a0 6)) C fg_X6_24 hP 0 rfl rfl dX6_climbTried_65 ?_
    refine lv_iload hx hb dX6_climbTried_68 (lv_at hl 4 rfl) ?_
    obtain ⟨h2, hF⟩ := op_ck hF
    refine k_ild (f := S0.2.2.1 5) C hP 5 rfl h2 dX6_climbTried_70 ?_
    obtain ⟨r4, hc3, hF⟩ := ob1_s hF
    refine k_iro C (k_rV (As := [.int x7, .int (S0.2.2.1 5 x8.toNatClampNeg)]) (rest := []) C (c_X8_afterClimb l D q o1 a1 S1 _ x7 (S0.2.2.1 5 x8.toNatClampNeg) hc3) kc_X8_afterClimb ml_X6_59 rfl rfl (by decide) (flP hP [1] rfl) (flD hD [1] (by decide) rfl) hS (va_recv hK hP (ci := 8) (q0 := 7) rfl rfl) rfl hl.1 rfl (Nat.le_of_ble_eq_true rfl) dX6_climbTried_71 (by decide)) hP hD hS [1] [0] [g6 q o0 a0 S0] 2 (by decide) rfl rfl rfl rfl (fun H locs hP hD hS => ?_)
    refine lv_istore (lv' := [(7, .int r4), (0, .ref o0), (1, .ref o1), (3, .int x3), (8, .int x8)]) hx hb dX6_climbTried_74 hl (by decide) rfl (fun ls hl => ?_)
    refine lv_iinc (v := (x8 + 1)) (lv' := [(8, .int (x8 + 1)), (7, .int r4), (0, .ref o0), (1, .ref o1), (3, .int x3)]) hx hb dX6_climbTried_76 hl (k := 4) rfl rfl (by decide) rfl (fun ls hl => ?_)
    refine lv_goto (tgt := 55) hx hb dX6_climbTried_79 (by decide) ?_
    exact hk55 x3 r4 (x8 + 1) S0 S1 hF _ _ _ hP hD hS (lv_sub hl [2, 3, 4, 1, 0] rfl)
set_option maxRecDepth 100000 in
set_option maxHeartbeats 4000000 in
theorem l_X6_climbTried_55 {p : Program} {l : Launch} {e : Env} {s : State} {m : MethodId} {args : Array Value} {below : List Frame} {meth : Method} {c : Code} {D : va_G} {q : Nat → ClassId} {A : Nat → Prop} {o0 : Nat} {a0 : Nat → Nat} {o1 : Nat} {a1 : Nat → Nat} {r : Int32} {T0 : St} (C : cx p s m args meth c cX6_climbTried 9 (some .int) RX6 D q A) {x3 : Int32} {x7 : Int32} {x8 : Int32} {S0 : St} {S1 : St} (hF : L_X6_climbTried_55 x3 x7 x8 S0 S1 = some (r, T0)) : ∀ (H : Heap) (locs : List Loc) (ls : Array Slot), va_P D vwCl (fl [g6 q o0 a0 S0, g8 q o1 a1 S1]) H → va_D A (fl [g6 q o0 a0 S0, g8 q o1 a1 S1]) → va_S A s.heap H locs → lv_has ls 9 [(0, .ref o0), (1, .ref o1), (3, .int x3), (7, .int x7), (8, .int x8)] → W p l e rm_X6_climbTried s m args below meth c H locs 0 0 (MQ below (QI D A r (fl [g6 q o0 a0 T0, g8 q o1 a1 S1])) args s 0 0 A) (F0 m 55 ls []) :=
  lp_G _ _ (fun z => ∀ (H : Heap) (locs : List Loc) (ls : Array Slot), va_P D vwCl (fl [g6 q o0 a0 z.2.2.2.1, g8 q o1 a1 z.2.2.2.2]) H → va_D A (fl [g6 q o0 a0 z.2.2.2.1, g8 q o1 a1 z.2.2.2.2]) → va_S A s.heap H locs → lv_has ls 9 [(0, .ref o0), (1, .ref o1), (3, .int z.1), (7, .int z.2.1), (8, .int z.2.2.1)] → W p l e rm_X6_climbTried s m args below meth c H locs 0 0 (MQ below (QI D A r (fl [g6 q o0 a0 T0, g8 q o1 a1 z.2.2.2.2])) args s 0 0 A) (F0 m 55 ls [])) (fun kz hkz z hz H locs ls hP hD hS hl => b_X6_climbTried_55 C (fun x3 x7 x8 S0 S1 hz => hkz (x3, x7, x8, S0, S1) hz) hz hP hD hS hl) FU (x3, x7, x8, S0, S1) hF
set_option maxRecDepth 100000 in
set_option maxHeartbeats 4000000 in
theorem b_X6_climbTried_19 {p : Program} {l : Launch} {e : Env} {s : State} {m : MethodId} {args : Array Value} {below : List Frame} {meth : Method} {c : Code} {D : va_G} {q : Nat → ClassId} {A : Nat → Prop} {o0 : Nat} {a0 : Nat → Nat} {o1 : Nat} {a1 : Nat → Nat} {r : Int32} {T0 : St} (C : cx p s m args meth c cX6_climbTried 9 (some .int) RX6 D q A) {k19 : Int32 × Int32 × Int32 × Int32 × Int32 × St × St → Option (Int32 × St)} (hk19 : ∀ (x2 : Int32) (x3 : Int32) (x5 : Int32) (x6 : Int32) (x7 : Int32) (S0 : St) (S1 : St), k19 (x2, x3, x5, x6, x7, S0, S1) = some (r, T0) → ∀ (H : Heap) (locs : List Loc) (ls : Array Slot), va_P D vwCl (fl [g6 q o0 a0 S0, g8 q o1 a1 S1]) H → va_D A (fl [g6 q o0 a0 S0, g8 q o1 a1 S1]) → va_S A s.heap H locs → lv_has ls 9 [(0, .ref o0), (1, .ref o1), (2, .int x2), (3, .int x3), (5, .int x5), (6, .int x6), (7, .int x7)] → W p l e rm_X6_climbTried s m args below meth c H locs 0 0 (MQ below (QI D A r (fl [g6 q o0 a0 T0, g8 q o1 a1 S1])) args s 0 0 A) (F0 m 19 ls [])) {x2 : Int32} {x3 : Int32} {x5 : Int32} {x6 : Int32} {x7 : Int32} {S0 : St} {S1 : St} (hF : F_X6_climbTried_19 k19 x2 x3 x5 x6 x7 S0 S1 = some (r, T0)) {H : Heap} {locs : List Loc} (hP : va_P D vwCl (fl [g6 q o0 a0 S0, g8 q o1 a1 S1]) H) (hD : va_D A (fl [g6 q o0 a0 S0, g8 q o1 a1 S1])) (hS : va_S A s.heap H locs) {ls : Array Slot} (hl : lv_has ls 9 [(0, .ref o0), (1, .ref o1), (2, .int x2), (3, .int x3), (5, .int x5), (6, .int x6), (7, .int x7)]) : W p l e rm_X6_climbTried s m args below meth c H locs 0 0 (MQ below (QI D A r (fl [g6 q o0 a0 T0, g8 q o1 a1 S1])) args s 0 0 A) (F0 m 19 ls []) := by
  unfold F_X6_climbTried_19 at hF
  obtain ⟨hx, hb, hr, hml, hown, hts, hlk, hA, hK, hN, hV⟩ := id C
  refine lv_iload hx hb dX6_climbTried_19 (lv_at hl 6 rfl) ?_
  refine lv_if_lt (tgt := 49) hx hb dX6_climbTried_21 (by decide) (fun c1 => ?_) (fun c1 => ?_)
  · have hF := op_t hF c1
    refine lv_iload_n hx hb dX6_climbTried_49 rfl (lv_at hl 2 rfl) ?_
    refine lv_istore (lv' := [(7, .int x2), (0, .ref o0), (1, .ref o1), (2, .int x2), (3, .int x3), (5, .int x5), (6, .int x6)]) hx hb dX6_climbTried_50 hl (by decide) rfl (fun ls hl => ?_)
    refine lv_iconst (v := (0 : Int32)) hx hb dX6_climbTried_52 (by decide) ?_
    refine lv_istore (lv' := [(8, .int (0 : Int32)), (7, .int x2), (0, .ref o0), (1, .ref o1), (2, .int x2), (3, .int x3), (5, .int x5), (6, .int x6)]) hx hb dX6_climbTried_53 hl (by decide) rfl (fun ls hl => ?_)
    exact l_X6_climbTried_55 C hF _ _ _ hP hD hS (lv_sub hl [2, 3, 5, 1, 0] rfl)
  · have hF := op_f hF c1
    refine lv_aload_n hx hb dX6_climbTried_24 rfl (lv_at hl 0 rfl) ?_
    refine k_get (v := .ref (a0 6)) C fg_X6_24 hP 0 rfl rfl dX6_climbTried_25 ?_
    refine lv_iload hx hb dX6_climbTried_28 (lv_at hl 6 rfl) ?_
    refine lv_iload hx hb dX6_climbTried_30 (lv_at hl 5 rfl) ?_
    refine lv_iload hx hb dX6_climbTried_32 (lv_at hl 4 rfl) ?_
    obtain ⟨h2, hF⟩ := op_ck hF
    refine lv_irem hx hb dX6_climbTried_34 h2 ?_
    obtain ⟨h3, hF⟩ := op_ck hF
    obtain ⟨U4, e5, hF⟩ := nw_s hF
    refine k_ist (f := S0.2.2.1 5) (W8 := fl [g6 q o0 a0 U4, g8 q o1 a1 S1]) C hP hD hS 5 rfl h3 dX6_climbTried_35 (by rw [e5]; rfl) (fun H locs hP hD hS => ?_)
    refine lv_iload hx hb dX6_climbTried_36 (lv_at hl 5 rfl) ?_
    refine lv_iload hx hb dX6_climbTried_38 (lv_at hl 4 rfl) ?_
    obtain ⟨h6, hF⟩ := op_ck hF
    refine lv_idiv hx hb dX6_climbTried_40 h6 ?_
    refine lv_istore (lv' := [(6, .int (x6 / x5)), (0, .ref o0), (1, .ref o1), (2, .int x2), (3, .int x3), (5, .int x5), (7, .int x7)]) hx hb dX6_climbTried_41 hl (by decide) rfl (fun ls hl => ?_)
    refine lv_iinc (v := (x7 + (-1))) (lv' := [(7, .int (x7 + (-1))), (6, .int (x6 / x5)), (0, .ref o0), (1, .ref o1), (2, .int x2), (3, .int x3), (5, .int x5)]) hx hb dX6_climbTried_43 hl (k := 6) rfl rfl (by decide) rfl (fun ls hl => ?_)
    refine lv_goto (tgt := 19) hx hb dX6_climbTried_46 (by decide) ?_
    exact hk19 x2 x3 x5 (x6 / x5) (x7 + (-1)) U4 S1 hF _ _ _ hP hD hS (lv_sub hl [2, 3, 4, 5, 6, 1, 0] rfl)
set_option maxRecDepth 100000 in
set_option maxHeartbeats 4000000 in
theorem l_X6_climbTried_19 {p : Program} {l : Launch} {e : Env} {s : State} {m : MethodId} {args : Array Value} {below : List Frame} {meth : Method} {c : Code} {D : va_G} {q : Nat → ClassId} {A : Nat → Prop} {o0 : Nat} {a0 : Nat → Nat} {o1 : Nat} {a1 : Nat → Nat} {r : Int32} {T0 : St} (C : cx p s m args meth c cX6_climbTried 9 (some .int) RX6 D q A) {x2 : Int32} {x3 : Int32} {x5 : Int32} {x6 : Int32} {x7 : Int32} {S0 : St} {S1 : St} (hF : L_X6_climbTried_19 x2 x3 x5 x6 x7 S0 S1 = some (r, T0)) : ∀ (H : Heap) (locs : List Loc) (ls : Array Slot), va_P D vwCl (fl [g6 q o0 a0 S0, g8 q o1 a1 S1]) H → va_D A (fl [g6 q o0 a0 S0, g8 q o1 a1 S1]) → va_S A s.heap H locs → lv_has ls 9 [(0, .ref o0), (1, .ref o1), (2, .int x2), (3, .int x3), (5, .int x5), (6, .int x6), (7, .int x7)] → W p l e rm_X6_climbTried s m args below meth c H locs 0 0 (MQ below (QI D A r (fl [g6 q o0 a0 T0, g8 q o1 a1 S1])) args s 0 0 A) (F0 m 19 ls []) :=
  lp_G _ _ (fun z => ∀ (H : Heap) (locs : List Loc) (ls : Array Slot), va_P D vwCl (fl [g6 q o0 a0 z.2.2.2.2.2.1, g8 q o1 a1 z.2.2.2.2.2.2]) H → va_D A (fl [g6 q o0 a0 z.2.2.2.2.2.1, g8 q o1 a1 z.2.2.2.2.2.2]) → va_S A s.heap H locs → lv_has ls 9 [(0, .ref o0), (1, .ref o1), (2, .int z.1), (3, .int z.2.1), (5, .int z.2.2.1), (6, .int z.2.2.2.1), (7, .int z.2.2.2.2.1)] → W p l e rm_X6_climbTried s m args below meth c H locs 0 0 (MQ below (QI D A r (fl [g6 q o0 a0 T0, g8 q o1 a1 z.2.2.2.2.2.2])) args s 0 0 A) (F0 m 19 ls [])) (fun kz hkz z hz H locs ls hP hD hS hl => b_X6_climbTried_19 C (fun x2 x3 x5 x6 x7 S0 S1 hz => hkz (x2, x3, x5, x6, x7, S0, S1) hz) hz hP hD hS hl) FU (x2, x3, x5, x6, x7, S0, S1) hF
set_option maxRecDepth 100000 in
set_option maxHeartbeats 4000000 in
theorem c_X6_climbTried (l : Launch) (D : va_G) (q : Nat → ClassId) (o0 : Nat) (a0 : Nat → Nat) (S0 : St) (o1 : Nat) (a1 : Nat → Nat) (S1 : St) (sz : Nat) (x2 : Int32) (x3 : Int32) (x4 : Int32) {r : Int32} {T0 : St} (hF : F_X6_climbTried S0 S1 x2 x3 x4 = some (r, T0)) : Met l yX6_climbTried (Cond.code yX6_climbTried cX6_climbTried 9 (some .int) :: TB) rm_X6_climbTried (PC D q [.ref o0, .ref o1, .int x2, .int x3, .int x4] (fl [g6 q o0 a0 S0, g8 q o1 a1 S1]) sz) ((fun A => QI D A r (fl [g6 q o0 a0 T0, g8 q o1 a1 S1])) (va_A (fl [g6 q o0 a0 S0, g8 q o1 a1 S1]) sz)) 0 0 (va_A (fl [g6 q o0 a0 S0, g8 q o1 a1 S1]) sz) := by
  refine k_met (w0 := fl [g6 q o0 a0 S0, g8 q o1 a1 S1]) (Q := fun A => QI D A r (fl [g6 q o0 a0 T0, g8 q o1 a1 S1])) (by decide +kernel) (Nat.le_of_ble_eq_true rfl) ?_
  intro p e s m args below meth c A ls C hP hD hS hl
  have hl : lv_has ls 9 [(0, .ref o0), (1, .ref o1), (2, .int x2), (3, .int x3), (4, .int x4)] := hl
  unfold F_X6_climbTried at hF
  have C : cx p s m args meth c cX6_climbTried 9 (some .int) RX6 D q A := C
  obtain ⟨hx, hb, hr, hml, hown, hts, hlk, hA, hK, hN, hV⟩ := id C
  refine lv_aload_n hx hb dX6_climbTried_0 rfl (lv_at hl 1 rfl) ?_
  refine k_get (v := .int (S1.1 0)) C fg_X6_56 hP 7 rfl rfl dX6_climbTried_1 ?_
  refine lv_iconst (v := (1 : Int32)) hx hb dX6_climbTried_4 (by decide) ?_
  refine k_max C ml_X6_76 kmath_max hl.1 ⟨Nat.le_of_ble_eq_true rfl, Nat.le_of_ble_eq_true rfl⟩ (by decide) dX6_climbTried_5 ?_
  obtain ⟨v1, e2, hF⟩ := nw_s hF
  refine k_rni e2 ?_
  refine lv_istore (lv' := [(5, .int v1), (0, .ref o0), (1, .ref o1), (2, .int x2), (3, .int x3), (4, .int x4)]) hx hb dX6_climbTried_8 hl (by decide) rfl (fun ls hl => ?_)
  refine lv_iload hx hb dX6_climbTried_10 (lv_at hl 5 rfl) ?_
  refine lv_istore (lv' := [(6, .int x4), (5, .int v1), (0, .ref o0), (1, .ref o1), (2, .int x2), (3, .int x3), (4, .int x4)]) hx hb dX6_climbTried_12 hl (by decide) rfl (fun ls hl => ?_)
  refine lv_iload_n hx hb dX6_climbTried_14 rfl (lv_at hl 5 rfl) ?_
  refine lv_iconst (v := (1 : Int32)) hx hb dX6_climbTried_15 (by decide) ?_
  refine lv_isub hx hb dX6_climbTried_16 ?_
  refine lv_istore (lv' := [(7, .int (x3 - (1 : Int32))), (6, .int x4), (5, .int v1), (0, .ref o0), (1, .ref o1), (2, .int x2), (3, .int x3), (4, .int x4)]) hx hb dX6_climbTried_17 hl (by decide) rfl (fun ls hl => ?_)
  exact l_X6_climbTried_19 C hF _ _ _ hP hD hS (lv_sub hl [3, 4, 5, 6, 2, 1, 0] rfl)

abbrev rm_X6_countMade : Room := ({ frames := 4, cells := 0, slots := 0, locals := 96 } : Room)
def F_X6_countMade_76 (k9 : Int32 × Int32 × Int32 × Int32 × Int32 × St × St → Option (Int32 × St)) (k27 : Int32 × Int32 × Int32 × Int32 × Int32 × Int32 × St × St → Option (Int32 × St)) (x2 : Int32) (x3 : Int32) (x4 : Int32) (x5 : Int32) (x6 : Int32) (x7 : Int32) (S0 : St) (S1 : St) : Option (Int32 × St) := k27 (x2, x3, x4, x5, x6, (x7 + 1), S0, S1)
def F_X6_countMade_73 (k9 : Int32 × Int32 × Int32 × Int32 × Int32 × St × St → Option (Int32 × St)) (k27 : Int32 × Int32 × Int32 × Int32 × Int32 × Int32 × St × St → Option (Int32 × St)) (x2 : Int32) (x3 : Int32) (x4 : Int32) (x5 : Int32) (x6 : Int32) (x7 : Int32) (S0 : St) (S1 : St) : Option (Int32 × St) := F_X6_countMade_76 k9 k27 x2 x3 (x4 + 1) x5 x6 x7 S0 S1
def F_X6_countMade_27 (k9 : Int32 × Int32 × Int32 × Int32 × Int32 × St × St → Option (Int32 × St)) (k27 : Int32 × Int32 × Int32 × Int32 × Int32 × Int32 × St × St → Option (Int32 × St)) (x2 : Int32) (x3 : Int32) (x4 : Int32) (x5 : Int32) (x6 : Int32) (x7 : Int32) (S0 : St) (S1 : St) : Option (Int32 × St) := if x5 ≤ x7 then (k9 (x2, x3, x4, x5, (x6 + 1), S0, S1)) else (ob2 (F_X6_climbTried S0 S1 x2 x6 x7) fun r3 U4 => if r3 = x3 then (if x4 = 0 then (nw (sF U4 6 (U4.2.2.1 5)) fun U7 => nw (sI U7 7 x6) fun U9 => F_X6_countMade_73 k9 k27 x2 x3 x4 x5 x6 x7 U9 S1) else (F_X6_countMade_73 k9 k27 x2 x3 x4 x5 x6 x7 U4 S1)) else (F_X6_countMade_76 k9 k27 x2 x3 x4 x5 x6 x7 U4 S1))
def L_X6_countMade_27 (k9 : Int32 × Int32 × Int32 × Int32 × Int32 × St × St → Option (Int32 × St)) (x2 : Int32) (x3 : Int32) (x4 : Int32) (x5 : Int32) (x6 : Int32) (x7 : Int32) (S0 : St) (S1 : St) : Option (Int32 × St) := lp (fun kz z => F_X6_countMade_27 k9 kz z.1 z.2.1 z.2.2.1 z.2.2.2.1 z.2.2.2.2.1 z.2.2.2.2.2.1 z.2.2.2.2.2.2.1 z.2.2.2.2.2.2.2) FU (x2, x3, x4, x5, x6, x7, S0, S1)
def F_X6_countMade_9 (k9 : Int32 × Int32 × Int32 × Int32 × Int32 × St × St → Option (Int32 × St)) (x2 : Int32) (x3 : Int32) (x4 : Int32) (x5 : Int32) (x6 : Int32) (S0 : St) (S1 : St) : Option (Int32 × St) := if (3 : Int32) < x6 then (some (x4, S0)) else (L_X6_countMade_27 k9 x2 x3 x4 (x5 * (S1.1 0)) x6 (0 : Int32) S0 S1)
def L_X6_countMade_9 (x2 : Int32) (x3 : Int32) (x4 : Int32) (x5 : Int32) (x6 : Int32) (S0 : St) (S1 : St) : Option (Int32 × St) := lp (fun kz z => F_X6_countMade_9 kz z.1 z.2.1 z.2.2.1 z.2.2.2.1 z.2.2.2.2.1 z.2.2.2.2.2.1 z.2.2.2.2.2.2) FU (x2, x3, x4, x5, x6, S0, S1)
def F_X6_countMade (S0 : St) (S1 : St) (x2 : Int32) (x3 : Int32) : Option (Int32 × St) := L_X6_countMade_9 x2 x3 (0 : Int32) (1 : Int32) (1 : Int32) S0 S1
set_option maxRecDepth 100000 in
set_option maxHeartbeats 4000000 in
theorem b_X6_countMade_76 {p : Program} {l : Launch} {e : Env} {s : State} {m : MethodId} {args : Array Value} {below : List Frame} {meth : Method} {c : Code} {D : va_G} {q : Nat → ClassId} {A : Nat → Prop} {o0 : Nat} {a0 : Nat → Nat} {o1 : Nat} {a1 : Nat → Nat} {r : Int32} {T0 : St} (C : cx p s m args meth c cX6_countMade 8 (some .int) RX6 D q A) {k9 : Int32 × Int32 × Int32 × Int32 × Int32 × St × St → Option (Int32 × St)} (hk9 : ∀ (x2 : Int32) (x3 : Int32) (x4 : Int32) (x5 : Int32) (x6 : Int32) (S0 : St) (S1 : St), k9 (x2, x3, x4, x5, x6, S0, S1) = some (r, T0) → ∀ (H : Heap) (locs : List Loc) (ls : Array Slot), va_P D vwCl (fl [g6 q o0 a0 S0, g8 q o1 a1 S1]) H → va_D A (fl [g6 q o0 a0 S0, g8 q o1 a1 S1]) → va_S A s.heap H locs → lv_has ls 8 [(0, .ref o0), (1, .ref o1), (2, .int x2), (3, .int x3), (4, .int x4), (5, .int x5), (6, .int x6)] → W p l e rm_X6_countMade s m args below meth c H locs 0 0 (MQ below (QI D A r (fl [g6 q o0 a0 T0, g8 q o1 a1 S1])) args s 0 0 A) (F0 m 9 ls [])) {k27 : Int32 × Int32 × Int32 × Int32 × Int32 × Int32 × St × St → Option (Int32 × St)} (hk27 : ∀ (x2 : Int32) (x3 : Int32) (x4 : Int32) (x5 : Int32) (x6 : Int32) (x7 : Int32) (S0 : St) (S1 : St), k27 (x2, x3, x4, x5, x6, x7, S0, S1) = some (r, T0) → ∀ (H : Heap) (locs : List Loc) (ls : Array Slot), va_P D vwCl (fl [g6 q o0 a0 S0, g8 q o1 a1 S1]) H → va_D A (fl [g6 q o0 a0 S0, g8 q o1 a1 S1]) → va_S A s.heap H locs → lv_has ls 8 [(0, .ref o0), (1, .ref o1), (2, .int x2), (3, .int x3), (4, .int x4), (5, .int x5), (6, .int x6), (7, .int x7)] → W p l e rm_X6_countMade s m args below meth c H locs 0 0 (MQ below (QI D A r (fl [g6 q o0 a0 T0, g8 q o1 a1 S1])) args s 0 0 A) (F0 m 27 ls [])) {x2 : Int32} {x3 : Int32} {x4 : Int32} {x5 : Int32} {x6 : Int32} {x7 : Int32} {S0 : St} {S1 : St} (hF : F_X6_countMade_76 k9 k27 x2 x3 x4 x5 x6 x7 S0 S1 = some (r, T0)) {H : Heap} {locs : List Loc} (hP : va_P D vwCl (fl [g6 q o0 a0 S0, g8 q o1 a1 S1]) H) (hD : va_D A (fl [g6 q o0 a0 S0, g8 q o1 a1 S1])) (hS : va_S A s.heap H locs) {ls : Array Slot} (hl : lv_has ls 8 [(0, .ref o0), (1, .ref o1), (2, .int x2), (3, .int x3), (4, .int x4), (5, .int x5), (6, .int x6), (7, .int x7)]) : W p l e rm_X6_countMade s m args below meth c H locs 0 0 (MQ below (QI D A r (fl [g6 q o0 a0 T0, g8 q o1 a1 S1])) args s 0 0 A) (F0 m 76 ls []) := by
  unfold F_X6_countMade_76 at hF
  obtain ⟨hx, hb, hr, hml, hown, hts, hlk, hA, hK, hN, hV⟩ := id C
  refine lv_iinc (v := (x7 + 1)) (lv' := [(7, .int (x7 + 1)), (0, .ref o0), (1, .ref o1), (2, .int x2), (3, .int x3), (4, .int x4), (5, .int x5), (6, .int x6)]) hx hb dX6_countMade_76 hl (k := 7) rfl rfl (by decide) rfl (fun ls hl => ?_)
  refine lv_goto (tgt := 27) hx hb dX6_countMade_79 (by decide) ?_
  exact hk27 x2 x3 x4 x5 x6 (x7 + 1) S0 S1 hF _ _ _ hP hD hS (lv_sub hl [1, 2, 3, 4, 5, 6, 7, 0] rfl)
set_option maxRecDepth 100000 in
set_option maxHeartbeats 4000000 in
theorem b_X6_countMade_73 {p : Program} {l : Launch} {e : Env} {s : State} {m : MethodId} {args : Array Value} {below : List Frame} {meth : Method} {c : Code} {D : va_G} {q : Nat → ClassId} {A : Nat → Prop} {o0 : Nat} {a0 : Nat → Nat} {o1 : Nat} {a1 : Nat → Nat} {r : Int32} {T0 : St} (C : cx p s m args meth c cX6_countMade 8 (some .int) RX6 D q A) {k9 : Int32 × Int32 × Int32 × Int32 × Int32 × St × St → Option (Int32 × St)} (hk9 : ∀ (x2 : Int32) (x3 : Int32) (x4 : Int32) (x5 : Int32) (x6 : Int32) (S0 : St) (S1 : St), k9 (x2, x3, x4, x5, x6, S0, S1) = some (r, T0) → ∀ (H : Heap) (locs : List Loc) (ls : Array Slot), va_P D vwCl (fl [g6 q o0 a0 S0, g8 q o1 a1 S1]) H → va_D A (fl [g6 q o0 a0 S0, g8 q o1 a1 S1]) → va_S A s.heap H locs → lv_has ls 8 [(0, .ref o0), (1, .ref o1), (2, .int x2), (3, .int x3), (4, .int x4), (5, .int x5), (6, .int x6)] → W p l e rm_X6_countMade s m args below meth c H locs 0 0 (MQ below (QI D A r (fl [g6 q o0 a0 T0, g8 q o1 a1 S1])) args s 0 0 A) (F0 m 9 ls [])) {k27 : Int32 × Int32 × Int32 × Int32 × Int32 × Int32 × St × St → Option (Int32 × St)} (hk27 : ∀ (x2 : Int32) (x3 : Int32) (x4 : Int32) (x5 : Int32) (x6 : Int32) (x7 : Int32) (S0 : St) (S1 : St), k27 (x2, x3, x4, x5, x6, x7, S0, S1) = some (r, T0) → ∀ (H : Heap) (locs : List Loc) (ls : Array Slot), va_P D vwCl (fl [g6 q o0 a0 S0, g8 q o1 a1 S1]) H → va_D A (fl [g6 q o0 a0 S0, g8 q o1 a1 S1]) → va_S A s.heap H locs → lv_has ls 8 [(0, .ref o0), (1, .ref o1), (2, .int x2), (3, .int x3), (4, .int x4), (5, .int x5), (6, .int x6), (7, .int x7)] → W p l e rm_X6_countMade s m args below meth c H locs 0 0 (MQ below (QI D A r (fl [g6 q o0 a0 T0, g8 q o1 a1 S1])) args s 0 0 A) (F0 m 27 ls [])) {x2 : Int32} {x3 : Int32} {x4 : Int32} {x5 : Int32} {x6 : Int32} {x7 : Int32} {S0 : St} {S1 : St} (hF : F_X6_countMade_73 k9 k27 x2 x3 x4 x5 x6 x7 S0 S1 = some (r, T0)) {H : Heap} {locs : List Loc} (hP : va_P D vwCl (fl [g6 q o0 a0 S0, g8 q o1 a1 S1]) H) (hD : va_D A (fl [g6 q o0 a0 S0, g8 q o1 a1 S1])) (hS : va_S A s.heap H locs) {ls : Array Slot} (hl : lv_has ls 8 [(0, .ref o0), (1, .ref o1), (2, .int x2), (3, .int x3), (4, .int x4), (5, .int x5), (6, .int x6), (7, .int x7)]) : W p l e rm_X6_countMade s m args below meth c H locs 0 0 (MQ below (QI D A r (fl [g6 q o0 a0 T0, g8 q o1 a1 S1])) args s 0 0 A) (F0 m 73 ls []) := by
  unfold F_X6_countMade_73 at hF
  obtain ⟨hx, hb, hr, hml, hown, hts, hlk, hA, hK, hN, hV⟩ := id C
  refine lv_iinc (v := (x4 + 1)) (lv' := [(4, .int (x4 + 1)), (0, .ref o0), (1, .ref o1), (2, .int x2), (3, .int x3), (5, .int x5), (6, .int x6), (7, .int x7)]) hx hb dX6_countMade_73 hl (k := 4) rfl rfl (by decide) rfl (fun ls hl => ?_)
  exact b_X6_countMade_76 C hk9 hk27 hF hP hD hS (lv_sub hl [1, 2, 3, 4, 0, 5, 6, 7] rfl)
set_option maxRecDepth 100000 in
set_option maxHeartbeats 4000000 in
theorem b_X6_countMade_27 {p : Program} {l : Launch} {e : Env} {s : State} {m : MethodId} {args : Array Value} {below : List Frame} {meth : Method} {c : Code} {D : va_G} {q : Nat → ClassId} {A : Nat → Prop} {o0 : Nat} {a0 : Nat → Nat} {o1 : Nat} {a1 : Nat → Nat} {r : Int32} {T0 : St} (C : cx p s m args meth c cX6_countMade 8 (some .int) RX6 D q A) {k9 : Int32 × Int32 × Int32 × Int32 × Int32 × St × St → Option (Int32 × St)} (hk9 : ∀ (x2 : Int32) (x3 : Int32) (x4 : Int32) (x5 : Int32) (x6 : Int32) (S0 : St) (S1 : St), k9 (x2, x3, x4, x5, x6, S0, S1) = some (r, T0) → ∀ (H : Heap) (locs : List Loc) (ls : Array Slot), va_P D vwCl (fl [g6 q o0 a0 S0, g8 q o1 a1 S1]) H → va_D A (fl [g6 q o0 a0 S0, g8 q o1 a1 S1]) → va_S A s.heap H locs → lv_has ls 8 [(0, .ref o0), (1, .ref o1), (2, .int x2), (3, .int x3), (4, .int x4), (5, .int x5), (6, .int x6)] → W p l e rm_X6_countMade s m args below meth c H locs 0 0 (MQ below (QI D A r (fl [g6 q o0 a0 T0, g8 q o1 a1 S1])) args s 0 0 A) (F0 m 9 ls [])) {k27 : Int32 × Int32 × Int32 × Int32 × Int32 × Int32 × St × St → Option (Int32 × St)} (hk27 : ∀ (x2 : Int32) (x3 : Int32) (x4 : Int32) (x5 : Int32) (x6 : Int32) (x7 : Int32) (S0 : St) (S1 : St), k27 (x2, x3, x4, x5, x6, x7, S0, S1) = some (r, T0) → ∀ (H : Heap) (locs : List Loc) (ls : Array Slot), va_P D vwCl (fl [g6 q o0 a0 S0, g8 q o1 a1 S1]) H → va_D A (fl [g6 q o0 a0 S0, g8 q o1 a1 S1]) → va_S A s.heap H locs → lv_has ls 8 [(0, .ref o0), (1, .ref o1), (2, .int x2), (3, .int x3), (4, .int x4), (5, .int x5), (6, .int x6), (7, .int x7)] → W p l e rm_X6_countMade s m args below meth c H locs 0 0 (MQ below (QI D A r (fl [g6 q o0 a0 T0, g8 q o1 a1 S1])) args s 0 0 A) (F0 m 27 ls [])) {x2 : Int32} {x3 : Int32} {x4 : Int32} {x5 : Int32} {x6 : Int32} {x7 : Int32} {S0 : St} {S1 : St} (hF : F_X6_countMade_27 k9 k27 x2 x3 x4 x5 x6 x7 S0 S1 = some (r, T0)) {H : Heap} {locs : List Loc} (hP : va_P D vwCl (fl [g6 q o0 a0 S0, g8 q o1 a1 S1]) H) (hD : va_D A (fl [g6 q o0 a0 S0, g8 q o1 a1 S1])) (hS : va_S A s.heap H locs) {ls : Array Slot} (hl : lv_has ls 8 [(0, .ref o0), (1, .ref o1), (2, .int x2), (3, .int x3), (4, .int x4), (5, .int x5), (6, .int x6), (7, .int x7)]) : W p l e rm_X6_countMade s m args below meth c H locs 0 0 (MQ below (QI D A r (fl [g6 q o0 a0 T0, g8 q o1 a1 S1])) args s 0 0 A) (F0 m 27 ls []) := by
  unfold F_X6_countMade_27 at hF
  obtain ⟨hx, hb, hr, hml, hown, hts, hlk, hA, hK, hN, hV⟩ := id C
  refine lv_iload hx hb dX6_countMade_27 (lv_at hl 7 rfl) ?_
  refine lv_iload hx hb dX6_countMade_29 (lv_at hl 5 rfl) ?_
  refine lv_icmp_ge (tgt := 82) hx hb dX6_countMade_31 (by decide) (fun c1 => ?_) (fun c1 => ?_)
  · have hF := op_t hF c1
    refine lv_iinc (v := (x6 + 1)) (lv' := [(6, .int (x6 + 1)), (0, .ref o0), (1, .ref o1), (2, .int x2), (3, .int x3), (4, .int x4), (5, .int x5), (7, .int x7)]) hx hb dX6_countMade_82 hl (k := 6) rfl rfl (by decide) rfl (fun ls hl => ?_)
    refine lv_goto (tgt := 9) hx hb dX6_countMade_85 (by decide) ?_
    exact hk9 x2 x3 x4 x5 (x6 + 1) S0 S1 hF _ _ _ hP hD hS (lv_sub hl [1, 2, 3, 4, 5, 6, 0] rfl)
  · have hF := op_f hF c1
    refine lv_aload_n hx hb dX6_countMade_34 rfl (lv_at hl 0 rfl) ?_
    refine lv_aload_n hx hb dX6_countMade_35 rfl (lv_at hl 1 rfl) ?_
    refine lv_iload_n hx hb dX6_countMade_36 rfl (lv_at hl 2 rfl) ?_
    refine lv_iload hx hb dX6_countMade_37 (lv_at hl 6 rfl) ?_
    refine lv_iload hx hb dX6_countMade_39 (lv_at hl 7 rfl) ?_
    obtain ⟨r3, U4, hc2, hF⟩ := ob2_s hF
    refine k_iall C (k_rV (As := [.ref o1, .int x2, .int x6, .int x7]) (rest := []) C (c_X6_climbTried l D q o0 a0 S0 o1 a1 S1 _ x2 x6 x7 hc2) kc_X6_climbTried ml_X6_63 rfl rfl (by decide) hP hD hS (va_recv hK hP (ci := 6) (q0 := 0) rfl rfl) rfl hl.1 rfl (Nat.le_of_ble_eq_true rfl) dX6_countMade_41 (by decide)) hP hD hS (by simp only [List.map_cons, List.map_nil, gad6, gad8]) (fun H locs hP hD hS => ?_)
    refine lv_iload_n hx hb dX6_countMade_44 rfl (lv_at hl 3 rfl) ?_
    refine lv_icmp_ne (tgt := 76) hx hb dX6_countMade_45 (by decide) (fun c5 => ?_) (fun c5 => ?_)
    · have hF := op_f hF c5
      exact b_X6_countMade_76 C hk9 hk27 hF hP hD hS (lv_sub hl [0, 1, 2, 3, 4, 5, 6, 7] rfl)
    · have hF := op_t hF c5
      refine lv_iload hx hb dX6_countMade_48 (lv_at hl 4 rfl) ?_
      refine lv_if_ne (tgt := 73) hx hb dX6_countMade_50 (by decide) (fun c6 => ?_) (fun c6 => ?_)
      · have hF := op_f hF c6
        exact b_X6_countMade_73 C hk9 hk27 hF hP hD hS (lv_sub hl [0, 1, 2, 3, 4, 5, 6, 7] rfl)
      · have hF := op_t hF c6
        refine lv_aload_n hx hb dX6_countMade_53 rfl (lv_at hl 0 rfl) ?_
        refine k_get (v := .ref (a0 6)) C fg_X6_24 hP 0 rfl rfl dX6_countMade_54 ?_
        refine lv_iconst (v := (0 : Int32)) hx hb dX6_countMade_57 (by decide) ?_
        refine lv_aload_n hx hb dX6_countMade_58 rfl (lv_at hl 0 rfl) ?_
        refine k_get (v := .ref (a0 7)) C fg_X6_27 hP 0 rfl rfl dX6_countMade_59 ?_
        refine lv_iconst (v := (0 : Int32)) hx hb dX6_countMade_62 (by decide) ?_
        refine lv_iconst (v := (3 : Int32)) hx hb dX6_countMade_63 (by decide) ?_
        obtain ⟨U7, e8, hF⟩ := nw_s hF
        refine k_cpi (f := U4.2.2.1 5) (g := U4.2.2.1 6) (W8 := fl [g6 q o0 a0 U7, g8 q o1 a1 S1]) C ml_X6_67 hl.1 hP hD hS 5 6 rfl rfl ⟨by decide, by decide⟩ (Nat.le_of_ble_eq_true rfl) ⟨by decide, by decide⟩ dX6_countMade_64 (by rw [e8]; rfl) (fun H locs hP hD hS => ?_)
        refine lv_aload_n hx hb dX6_countMade_67 rfl (lv_at hl 0 rfl) ?_
        refine lv_iload hx hb dX6_countMade_68 (lv_at hl 6 rfl) ?_
        obtain ⟨U9, e10, hF⟩ := nw_s hF
        refine k_put (W8 := fl [g6 q o0 a0 U9, g8 q o1 a1 S1]) C fp_X6_73 hP hD hS 0 rfl rfl rfl (Nat.le_of_ble_eq_true rfl) dX6_countMade_70 (by rw [e10]; rfl) (fun H locs hP hD hS => ?_)
        exact b_X6_countMade_73 C hk9 hk27 hF hP hD hS (lv_sub hl [0, 1, 2, 3, 4, 5, 6, 7] rfl)
set_option maxRecDepth 100000 in
set_option maxHeartbeats 4000000 in
theorem l_X6_countMade_27 {p : Program} {l : Launch} {e : Env} {s : State} {m : MethodId} {args : Array Value} {below : List Frame} {meth : Method} {c : Code} {D : va_G} {q : Nat → ClassId} {A : Nat → Prop} {o0 : Nat} {a0 : Nat → Nat} {o1 : Nat} {a1 : Nat → Nat} {r : Int32} {T0 : St} (C : cx p s m args meth c cX6_countMade 8 (some .int) RX6 D q A) {k9 : Int32 × Int32 × Int32 × Int32 × Int32 × St × St → Option (Int32 × St)} (hk9 : ∀ (x2 : Int32) (x3 : Int32) (x4 : Int32) (x5 : Int32) (x6 : Int32) (S0 : St) (S1 : St), k9 (x2, x3, x4, x5, x6, S0, S1) = some (r, T0) → ∀ (H : Heap) (locs : List Loc) (ls : Array Slot), va_P D vwCl (fl [g6 q o0 a0 S0, g8 q o1 a1 S1]) H → va_D A (fl [g6 q o0 a0 S0, g8 q o1 a1 S1]) → va_S A s.heap H locs → lv_has ls 8 [(0, .ref o0), (1, .ref o1), (2, .int x2), (3, .int x3), (4, .int x4), (5, .int x5), (6, .int x6)] → W p l e rm_X6_countMade s m args below meth c H locs 0 0 (MQ below (QI D A r (fl [g6 q o0 a0 T0, g8 q o1 a1 S1])) args s 0 0 A) (F0 m 9 ls [])) {x2 : Int32} {x3 : Int32} {x4 : Int32} {x5 : Int32} {x6 : Int32} {x7 : Int32} {S0 : St} {S1 : St} (hF : L_X6_countMade_27 k9 x2 x3 x4 x5 x6 x7 S0 S1 = some (r, T0)) : ∀ (H : Heap) (locs : List Loc) (ls : Array Slot), va_P D vwCl (fl [g6 q o0 a0 S0, g8 q o1 a1 S1]) H → va_D A (fl [g6 q o0 a0 S0, g8 q o1 a1 S1]) → va_S A s.heap H locs → lv_has ls 8 [(0, .ref o0), (1, .ref o1), (2, .int x2), (3, .int x3), (4, .int x4), (5, .int x5), (6, .int x6), (7, .int x7)] → W p l e rm_X6_countMade s m args below meth c H locs 0 0 (MQ below (QI D A r (fl [g6 q o0 a0 T0, g8 q o1 a1 S1])) args s 0 0 A) (F0 m 27 ls []) :=
  lp_G _ _ (fun z => ∀ (H : Heap) (locs : List Loc) (ls : Array Slot), va_P D vwCl (fl [g6 q o0 a0 z.2.2.2.2.2.2.1, g8 q o1 a1 z.2.2.2.2.2.2.2]) H → va_D A (fl [g6 q o0 a0 z.2.2.2.2.2.2.1, g8 q o1 a1 z.2.2.2.2.2.2.2]) → va_S A s.heap H locs → lv_has ls 8 [(0, .ref o0), (1, .ref o1), (2, .int z.1), (3, .int z.2.1), (4, .int z.2.2.1), (5, .int z.2.2.2.1), (6, .int z.2.2.2.2.1), (7, .int z.2.2.2.2.2.1)] → W p l e rm_X6_countMade s m args below meth c H locs 0 0 (MQ below (QI D A r (fl [g6 q o0 a0 T0, g8 q o1 a1 z.2.2.2.2.2.2.2])) args s 0 0 A) (F0 m 27 ls [])) (fun kz hkz z hz H locs ls hP hD hS hl => b_X6_countMade_27 C hk9 (fun x2 x3 x4 x5 x6 x7 S0 S1 hz => hkz (x2, x3, x4, x5, x6, x7, S0, S1) hz) hz hP hD hS hl) FU (x2, x3, x4, x5, x6, x7, S0, S1) hF
set_option maxRecDepth 100000 in
set_option maxHeartbeats 4000000 in
theorem b_X6_countMade_9 {p : Program} {l : Launch} {e : Env} {s : State} {m : MethodId} {args : Array Value} {below : List Frame} {meth : Method} {c : Code} {D : va_G} {q : Nat → ClassId} {A : Nat → Prop} {o0 : Nat} {a0 : Nat → Nat} {o1 : Nat} {a1 : Nat → Nat} {r : Int32} {T0 : St} (C : cx p s m args meth c cX6_countMade 8 (some .int) RX6 D q A) {k9 : Int32 × Int32 × Int32 × Int32 × Int32 × St × St → Option (Int32 × St)} (hk9 : ∀ (x2 : Int32) (x3 : Int32) (x4 : Int32) (x5 : Int32) (x6 : Int32) (S0 : St) (S1 : St), k9 (x2, x3, x4, x5, x6, S0, S1) = some (r, T0) → ∀ (H : Heap) (locs : List Loc) (ls : Array Slot), va_P D vwCl (fl [g6 q o0 a0 S0, g8 q o1 a1 S1]) H → va_D A (fl [g6 q o0 a0 S0, g8 q o1 a1 S1]) → va_S A s.heap H locs → lv_has ls 8 [(0, .ref o0), (1, .ref o1), (2, .int x2), (3, .int x3), (4, .int x4), (5, .int x5), (6, .int x6)] → W p l e rm_X6_countMade s m args below meth c H locs 0 0 (MQ below (QI D A r (fl [g6 q o0 a0 T0, g8 q o1 a1 S1])) args s 0 0 A) (F0 m 9 ls [])) {x2 : Int32} {x3 : Int32} {x4 : Int32} {x5 : Int32} {x6 : Int32} {S0 : St} {S1 : St} (hF : F_X6_countMade_9 k9 x2 x3 x4 x5 x6 S0 S1 = some (r, T0)) {H : Heap} {locs : List Loc} (hP : va_P D vwCl (fl [g6 q o0 a0 S0, g8 q o1 a1 S1]) H) (hD : va_D A (fl [g6 q o0 a0 S0, g8 q o1 a1 S1])) (hS : va_S A s.heap H locs) {ls : Array Slot} (hl : lv_has ls 8 [(0, .ref o0), (1, .ref o1), (2, .int x2), (3, .int x3), (4, .int x4), (5, .int x5), (6, .int x6)]) : W p l e rm_X6_countMade s m args below meth c H locs 0 0 (MQ below (QI D A r (fl [g6 q o0 a0 T0, g8 q o1 a1 S1])) args s 0 0 A) (F0 m 9 ls []) := by
  unfold F_X6_countMade_9 at hF
  obtain ⟨hx, hb, hr, hml, hown, hts, hlk, hA, hK, hN, hV⟩ := id C
  refine lv_iload hx hb dX6_countMade_9 (lv_at hl 6 rfl) ?_
  refine lv_iconst (v := (3 : Int32)) hx hb dX6_countMade_11 (by decide) ?_
  refine lv_icmp_gt (tgt := 88) hx hb dX6_countMade_12 (by decide) (fun c1 => ?_) (fun c1 => ?_)
  · have hF := op_t hF c1
    refine lv_iload hx hb dX6_countMade_88 (lv_at hl 4 rfl) ?_
    cases hF
    exact k_iret C hP hS dX6_countMade_90
  · have hF := op_f hF c1
    refine lv_iload hx hb dX6_countMade_15 (lv_at hl 5 rfl) ?_
    refine lv_aload_n hx hb dX6_countMade_17 rfl (lv_at hl 1 rfl) ?_
    refine k_get (v := .int (S1.1 0)) C fg_X6_56 hP 7 rfl rfl dX6_countMade_18 ?_
    refine lv_imul hx hb dX6_countMade_21 ?_
    refine lv_istore (lv' := [(5, .int (x5 * (S1.1 0))), (0, .ref o0), (1, .ref o1), (2, .int x2), (3, .int x3), (4, .int x4), (6, .int x6)]) hx hb dX6_countMade_22 hl (by decide) rfl (fun ls hl => ?_)
    refine lv_iconst (v := (0 : Int32)) hx hb dX6_countMade_24 (by decide) ?_
    refine lv_istore (lv' := [(7, .int (0 : Int32)), (5, .int (x5 * (S1.1 0))), (0, .ref o0), (1, .ref o1), (2, .int x2), (3, .int x3), (4, .int x4), (6, .int x6)]) hx hb dX6_countMade_25 hl (by decide) rfl (fun ls hl => ?_)
    exact l_X6_countMade_27 C hk9 hF _ _ _ hP hD hS (lv_sub hl [2, 3, 4, 5, 6, 1, 7, 0] rfl)
set_option maxRecDepth 100000 in
set_option maxHeartbeats 4000000 in
theorem l_X6_countMade_9 {p : Program} {l : Launch} {e : Env} {s : State} {m : MethodId} {args : Array Value} {below : List Frame} {meth : Method} {c : Code} {D : va_G} {q : Nat → ClassId} {A : Nat → Prop} {o0 : Nat} {a0 : Nat → Nat} {o1 : Nat} {a1 : Nat → Nat} {r : Int32} {T0 : St} (C : cx p s m args meth c cX6_countMade 8 (some .int) RX6 D q A) {x2 : Int32} {x3 : Int32} {x4 : Int32} {x5 : Int32} {x6 : Int32} {S0 : St} {S1 : St} (hF : L_X6_countMade_9 x2 x3 x4 x5 x6 S0 S1 = some (r, T0)) : ∀ (H : Heap) (locs : List Loc) (ls : Array Slot), va_P D vwCl (fl [g6 q o0 a0 S0, g8 q o1 a1 S1]) H → va_D A (fl [g6 q o0 a0 S0, g8 q o1 a1 S1]) → va_S A s.heap H locs → lv_has ls 8 [(0, .ref o0), (1, .ref o1), (2, .int x2), (3, .int x3), (4, .int x4), (5, .int x5), (6, .int x6)] → W p l e rm_X6_countMade s m args below meth c H locs 0 0 (MQ below (QI D A r (fl [g6 q o0 a0 T0, g8 q o1 a1 S1])) args s 0 0 A) (F0 m 9 ls []) :=
  lp_G _ _ (fun z => ∀ (H : Heap) (locs : List Loc) (ls : Array Slot), va_P D vwCl (fl [g6 q o0 a0 z.2.2.2.2.2.1, g8 q o1 a1 z.2.2.2.2.2.2]) H → va_D A (fl [g6 q o0 a0 z.2.2.2.2.2.1, g8 q o1 a1 z.2.2.2.2.2.2]) → va_S A s.heap H locs → lv_has ls 8 [(0, .ref o0), (1, .ref o1), (2, .int z.1), (3, .int z.2.1), (4, .int z.2.2.1), (5, .int z.2.2.2.1), (6, .int z.2.2.2.2.1)] → W p l e rm_X6_countMade s m args below meth c H locs 0 0 (MQ below (QI D A r (fl [g6 q o0 a0 T0, g8 q o1 a1 z.2.2.2.2.2.2])) args s 0 0 A) (F0 m 9 ls [])) (fun kz hkz z hz H locs ls hP hD hS hl => b_X6_countMade_9 C (fun x2 x3 x4 x5 x6 S0 S1 hz => hkz (x2, x3, x4, x5, x6, S0, S1) hz) hz hP hD hS hl) FU (x2, x3, x4, x5, x6, S0, S1) hF
set_option maxRecDepth 100000 in
set_option maxHeartbeats 4000000 in
theorem c_X6_countMade (l : Launch) (D : va_G) (q : Nat → ClassId) (o0 : Nat) (a0 : Nat → Nat) (S0 : St) (o1 : Nat) (a1 : Nat → Nat) (S1 : St) (sz : Nat) (x2 : Int32) (x3 : Int32) {r : Int32} {T0 : St} (hF : F_X6_countMade S0 S1 x2 x3 = some (r, T0)) : Met l yX6_countMade (Cond.code yX6_countMade cX6_countMade 8 (some .int) :: TB) rm_X6_countMade (PC D q [.ref o0, .ref o1, .int x2, .int x3] (fl [g6 q o0 a0 S0, g8 q o1 a1 S1]) sz) ((fun A => QI D A r (fl [g6 q o0 a0 T0, g8 q o1 a1 S1])) (va_A (fl [g6 q o0 a0 S0, g8 q o1 a1 S1]) sz)) 0 0 (va_A (fl [g6 q o0 a0 S0, g8 q o1 a1 S1]) sz) := by
  refine k_met (w0 := fl [g6 q o0 a0 S0, g8 q o1 a1 S1]) (Q := fun A => QI D A r (fl [g6 q o0 a0 T0, g8 q o1 a1 S1])) (by decide +kernel) (Nat.le_of_ble_eq_true rfl) ?_
  intro p e s m args below meth c A ls C hP hD hS hl
  have hl : lv_has ls 8 [(0, .ref o0), (1, .ref o1), (2, .int x2), (3, .int x3)] := hl
  unfold F_X6_countMade at hF
  have C : cx p s m args meth c cX6_countMade 8 (some .int) RX6 D q A := C
  obtain ⟨hx, hb, hr, hml, hown, hts, hlk, hA, hK, hN, hV⟩ := id C
  refine lv_iconst (v := (0 : Int32)) hx hb dX6_countMade_0 (by decide) ?_
  refine lv_istore (lv' := [(4, .int (0 : Int32)), (0, .ref o0), (1, .ref o1), (2, .int x2), (3, .int x3)]) hx hb dX6_countMade_1 hl (by decide) rfl (fun ls hl => ?_)
  refine lv_iconst (v := (1 : Int32)) hx hb dX6_countMade_3 (by decide) ?_
  refine lv_istore (lv' := [(5, .int (1 : Int32)), (4, .int (0 : Int32)), (0, .ref o0), (1, .ref o1), (2, .int x2), (3, .int x3)]) hx hb dX6_countMade_4 hl (by decide) rfl (fun ls hl => ?_)
  refine lv_iconst (v := (1 : Int32)) hx hb dX6_countMade_6 (by decide) ?_
  refine lv_istore (lv' := [(6, .int (1 : Int32)), (5, .int (1 : Int32)), (4, .int (0 : Int32)), (0, .ref o0), (1, .ref o1), (2, .int x2), (3, .int x3)]) hx hb dX6_countMade_7 hl (by decide) rfl (fun ls hl => ?_)
  exact l_X6_countMade_9 C hF _ _ _ hP hD hS (lv_sub hl [3, 4, 5, 6, 2, 1, 0] rfl)

abbrev rm_X7_empty : Room := ({ frames := 0, cells := 0, slots := 0, locals := 0 } : Room)
def F_X7_empty (S0 : St) : Option (St) := nw (sI S0 3 (0 : Int32)) fun U1 => nw (sI U1 4 (0 : Int32)) fun U3 => some (U3)
set_option maxRecDepth 100000 in
set_option maxHeartbeats 4000000 in
theorem c_X7_empty (l : Launch) (D : va_G) (q : Nat → ClassId) (o0 : Nat) (a0 : Nat → Nat) (S0 : St) (sz : Nat) {T0 : St} (hF : F_X7_empty S0 = some (T0)) : Met l yX7_empty (Cond.code yX7_empty cX7_empty 1 none :: TB) rm_X7_empty (PC D q [.ref o0] (fl [g7 q o0 a0 S0]) sz) ((fun A => QV D A (fl [g7 q o0 a0 T0])) (va_A (fl [g7 q o0 a0 S0]) sz)) 0 0 (va_A (fl [g7 q o0 a0 S0]) sz) := by
  refine k_met (w0 := fl [g7 q o0 a0 S0]) (Q := fun A => QV D A (fl [g7 q o0 a0 T0])) (by decide +kernel) (Nat.le_of_ble_eq_true rfl) ?_
  intro p e s m args below meth c A ls C hP hD hS hl
  have hl : lv_has ls 1 [(0, .ref o0)] := hl
  unfold F_X7_empty at hF
  have C : cx p s m args meth c cX7_empty 1 none RX7 D q A := C
  obtain ⟨hx, hb, hr, hml, hown, hts, hlk, hA, hK, hN, hV⟩ := id C
  refine lv_aload_n hx hb dX7_empty_0 rfl (lv_at hl 0 rfl) ?_
  refine lv_iconst (v := (0 : Int32)) hx hb dX7_empty_1 (by decide) ?_
  obtain ⟨U1, e2, hF⟩ := nw_s hF
  refine k_put (W8 := fl [g7 q o0 a0 U1]) C fp_X7_21 hP hD hS 0 rfl rfl rfl (Nat.le_of_ble_eq_true rfl) dX7_empty_2 (by rw [e2]; rfl) (fun H locs hP hD hS => ?_)
  refine lv_aload_n hx hb dX7_empty_5 rfl (lv_at hl 0 rfl) ?_
  refine lv_iconst (v := (0 : Int32)) hx hb dX7_empty_6 (by decide) ?_
  obtain ⟨U3, e4, hF⟩ := nw_s hF
  refine k_put (W8 := fl [g7 q o0 a0 U3]) C fp_X7_25 hP hD hS 0 rfl rfl rfl (Nat.le_of_ble_eq_true rfl) dX7_empty_7 (by rw [e4]; rfl) (fun H locs hP hD hS => ?_)
  cases hF
  exact k_vret C hP hS dX7_empty_10

abbrev rm_X7_copyFrom : Room := ({ frames := 1, cells := 0, slots := 0, locals := 80 } : Room)
def F_X7_copyFrom (S0 : St) (S1 : St) : Option (St) := nw (sF S0 0 (S1.2.2.1 0)) fun U1 => nw (sF U1 1 (S1.2.2.1 1)) fun U3 => nw (sF U3 2 (S1.2.2.1 2)) fun U5 => nw (sI U5 3 (S1.1 3)) fun U7 => nw (sI U7 4 (S1.1 4)) fun U9 => some (U9)
set_option maxRecDepth 100000 in
set_option maxHeartbeats 4000000 in
theorem c_X7_copyFrom (l : Launch) (D : va_G) (q : Nat → ClassId) (o0 : Nat) (a0 : Nat → Nat) (S0 : St) (o1 : Nat) (a1 : Nat → Nat) (S1 : St) (sz : Nat) {T0 : St} (hF : F_X7_copyFrom S0 S1 = some (T0)) : Met l yX7_copyFrom (Cond.code yX7_copyFrom cX7_copyFrom 2 none :: TB) rm_X7_copyFrom (PC D q [.ref o0, .ref o1] (fl [g7 q o0 a0 S0, g7 q o1 a1 S1]) sz) ((fun A => QV D A (fl [g7 q o0 a0 T0, g7 q o1 a1 S1])) (va_A (fl [g7 q o0 a0 S0, g7 q o1 a1 S1]) sz)) 0 0 (va_A (fl [g7 q o0 a0 S0, g7 q o1 a1 S1]) sz) := by
  refine k_met (w0 := fl [g7 q o0 a0 S0, g7 q o1 a1 S1]) (Q := fun A => QV D A (fl [g7 q o0 a0 T0, g7 q o1 a1 S1])) (by decide +kernel) (Nat.le_of_ble_eq_true rfl) ?_
  intro p e s m args below meth c A ls C hP hD hS hl
  have hl : lv_has ls 2 [(0, .ref o0), (1, .ref o1)] := hl
  unfold F_X7_copyFrom at hF
  have C : cx p s m args meth c cX7_copyFrom 2 none RX7 D q A := C
  obtain ⟨hx, hb, hr, hml, hown, hts, hlk, hA, hK, hN, hV⟩ := id C
  refine lv_aload_n hx hb dX7_copyFrom_0 rfl (lv_at hl 1 rfl) ?_
  refine k_get (v := .ref (a1 1)) C fg_X7_9 hP 4 rfl rfl dX7_copyFrom_1 ?_
  refine lv_iconst (v := (0 : Int32)) hx hb dX7_copyFrom_4 (by decide) ?_
  refine lv_aload_n hx hb dX7_copyFrom_5 rfl (lv_at hl 0 rfl) ?_
  refine k_get (v := .ref (a0 1)) C fg_X7_9 hP 0 rfl rfl dX7_copyFrom_6 ?_
  refine lv_iconst (v := (0 : Int32)) hx hb dX7_copyFrom_9 (by decide) ?_
  refine lv_bipush (v := (40 : Int32)) hx hb dX7_copyFrom_10 (by decide) ?_
  obtain ⟨U1, e2, hF⟩ := nw_s hF
  refine k_cpi (f := S1.2.2.1 0) (g := S0.2.2.1 0) (W8 := fl [g7 q o0 a0 U1, g7 q o1 a1 S1]) C ml_X7_28 hl.1 hP hD hS 5 1 rfl rfl ⟨by decide, by decide⟩ (Nat.le_of_ble_eq_true rfl) ⟨by decide, by decide⟩ dX7_copyFrom_12 (by rw [e2]; rfl) (fun H locs hP hD hS => ?_)
  refine lv_aload_n hx hb dX7_copyFrom_15 rfl (lv_at hl 1 rfl) ?_
  refine k_get (v := .ref (a1 2)) C fg_X7_15 hP 4 rfl rfl dX7_copyFrom_16 ?_
  refine lv_iconst (v := (0 : Int32)) hx hb dX7_copyFrom_19 (by decide) ?_
  refine lv_aload_n hx hb dX7_copyFrom_20 rfl (lv_at hl 0 rfl) ?_
  refine k_get (v := .ref (a0 2)) C fg_X7_15 hP 0 rfl rfl dX7_copyFrom_21 ?_
  refine lv_iconst (v := (0 : Int32)) hx hb dX7_copyFrom_24 (by decide) ?_
  refine lv_bipush (v := (40 : Int32)) hx hb dX7_copyFrom_25 (by decide) ?_
  obtain ⟨U3, e4, hF⟩ := nw_s hF
  refine k_cpi (f := S1.2.2.1 1) (g := U1.2.2.1 1) (W8 := fl [g7 q o0 a0 U3, g7 q o1 a1 S1]) C ml_X7_28 hl.1 hP hD hS 6 2 rfl rfl ⟨by decide, by decide⟩ (Nat.le_of_ble_eq_true rfl) ⟨by decide, by decide⟩ dX7_copyFrom_27 (by rw [e4]; rfl) (fun H locs hP hD hS => ?_)
  refine lv_aload_n hx hb dX7_copyFrom_30 rfl (lv_at hl 1 rfl) ?_
  refine k_get (v := .ref (a1 3)) C fg_X7_18 hP 4 rfl rfl dX7_copyFrom_31 ?_
  refine lv_iconst (v := (0 : Int32)) hx hb dX7_copyFrom_34 (by decide) ?_
  refine lv_aload_n hx hb dX7_copyFrom_35 rfl (lv_at hl 0 rfl) ?_
  refine k_get (v := .ref (a0 3)) C fg_X7_18 hP 0 rfl rfl dX7_copyFrom_36 ?_
  refine lv_iconst (v := (0 : Int32)) hx hb dX7_copyFrom_39 (by decide) ?_
  refine lv_bipush (v := (40 : Int32)) hx hb dX7_copyFrom_40 (by decide) ?_
  obtain ⟨U5, e6, hF⟩ := nw_s hF
  refine k_cpi (f := S1.2.2.1 2) (g := U3.2.2.1 2) (W8 := fl [g7 q o0 a0 U5, g7 q o1 a1 S1]) C ml_X7_28 hl.1 hP hD hS 7 3 rfl rfl ⟨by decide, by decide⟩ (Nat.le_of_ble_eq_true rfl) ⟨by decide, by decide⟩ dX7_copyFrom_42 (by rw [e6]; rfl) (fun H locs hP hD hS => ?_)
  refine lv_aload_n hx hb dX7_copyFrom_45 rfl (lv_at hl 0 rfl) ?_
  refine lv_aload_n hx hb dX7_copyFrom_46 rfl (lv_at hl 1 rfl) ?_
  refine k_get (v := .int (S1.1 3)) C fg_X7_21 hP 4 rfl rfl dX7_copyFrom_47 ?_
  obtain ⟨U7, e8, hF⟩ := nw_s hF
  refine k_put (W8 := fl [g7 q o0 a0 U7, g7 q o1 a1 S1]) C fp_X7_21 hP hD hS 0 rfl rfl rfl (Nat.le_of_ble_eq_true rfl) dX7_copyFrom_50 (by rw [e8]; rfl) (fun H locs hP hD hS => ?_)
  refine lv_aload_n hx hb dX7_copyFrom_53 rfl (lv_at hl 0 rfl) ?_
  refine lv_aload_n hx hb dX7_copyFrom_54 rfl (lv_at hl 1 rfl) ?_
  refine k_get (v := .int (S1.1 4)) C fg_X7_25 hP 4 rfl rfl dX7_copyFrom_55 ?_
  obtain ⟨U9, e10, hF⟩ := nw_s hF
  refine k_put (W8 := fl [g7 q o0 a0 U9, g7 q o1 a1 S1]) C fp_X7_25 hP hD hS 0 rfl rfl rfl (Nat.le_of_ble_eq_true rfl) dX7_copyFrom_58 (by rw [e10]; rfl) (fun H locs hP hD hS => ?_)
  cases hF
  exact k_vret C hP hS dX7_copyFrom_61

abbrev rm_X7_addStep : Room := ({ frames := 0, cells := 0, slots := 0, locals := 0 } : Room)
def F_X7_addStep (S0 : St) (x1 : Int32) (x2 : Int32) (x3 : Int32) : Option (St) := if (40 : Int32) ≤ (S0.1 3) then (some (S0)) else (if oob (S0.1 3) 40 then none else nw (sA S0 0 (S0.1 3) x1) fun U3 => if oob (U3.1 3) 40 then none else nw (sA U3 1 (U3.1 3) x2) fun U6 => if oob (U6.1 3) 40 then none else nw (sA U6 2 (U6.1 3) x3) fun U9 => nw (sI U9 3 ((U9.1 3) + (1 : Int32))) fun U11 => some (U11))
set_option maxRecDepth 100000 in
set_option maxHeartbeats 4000000 in
theorem c_X7_addStep (l : Launch) (D : va_G) (q : Nat → ClassId) (o0 : Nat) (a0 : Nat → Nat) (S0 : St) (sz : Nat) (x1 : Int32) (x2 : Int32) (x3 : Int32) {T0 : St} (hF : F_X7_addStep S0 x1 x2 x3 = some (T0)) : Met l yX7_addStep (Cond.code yX7_addStep cX7_addStep 4 none :: TB) rm_X7_addStep (PC D q [.ref o0, .int x1, .int x2, .int x3] (fl [g7 q o0 a0 S0]) sz) ((fun A => QV D A (fl [g7 q o0 a0 T0])) (va_A (fl [g7 q o0 a0 S0]) sz)) 0 0 (va_A (fl [g7 q o0 a0 S0]) sz) := by
  refine k_met (w0 := fl [g7 q o0 a0 S0]) (Q := fun A => QV D A (fl [g7 q o0 a0 T0])) (by decide +kernel) (Nat.le_of_ble_eq_true rfl) ?_
  intro p e s m args below meth c A ls C hP hD hS hl
  have hl : lv_has ls 4 [(0, .ref o0), (1, .int x1), (2, .int x2), (3, .int x3)] := hl
  unfold F_X7_addStep at hF
  have C : cx p s m args meth c cX7_addStep 4 none RX7 D q A := C
  obtain ⟨hx, hb, hr, hml, hown, hts, hlk, hA, hK, hN, hV⟩ := id C
  refine lv_aload_n hx hb dX7_addStep_0 rfl (lv_at hl 0 rfl) ?_
  refine k_get (v := .int (S0.1 3)) C fg_X7_21 hP 0 rfl rfl dX7_addStep_1 ?_
  refine lv_bipush (v := (40 : Int32)) hx hb dX7_addStep_4 (by decide) ?_
  refine lv_icmp_ge (tgt := 49) hx hb dX7_addStep_6 (by decide) (fun c1 => ?_) (fun c1 => ?_)
  · have hF := op_t hF c1
    cases hF
    exact k_vret C hP hS dX7_addStep_49
  · have hF := op_f hF c1
    refine lv_aload_n hx hb dX7_addStep_9 rfl (lv_at hl 0 rfl) ?_
    refine k_get (v := .ref (a0 1)) C fg_X7_9 hP 0 rfl rfl dX7_addStep_10 ?_
    refine lv_aload_n hx hb dX7_addStep_13 rfl (lv_at hl 0 rfl) ?_
    refine k_get (v := .int (S0.1 3)) C fg_X7_21 hP 0 rfl rfl dX7_addStep_14 ?_
    refine lv_iload_n hx hb dX7_addStep_17 rfl (lv_at hl 1 rfl) ?_
    obtain ⟨h2, hF⟩ := op_ck hF
    obtain ⟨U3, e4, hF⟩ := nw_s hF
    refine k_ist (f := S0.2.2.1 0) (W8 := fl [g7 q o0 a0 U3]) C hP hD hS 1 rfl h2 dX7_addStep_18 (by rw [e4]; rfl) (fun H locs hP hD hS => ?_)
    refine lv_aload_n hx hb dX7_addStep_19 rfl (lv_at hl 0 rfl) ?_
    refine k_get (v := .ref (a0 2)) C fg_X7_15 hP 0 rfl rfl dX7_addStep_20 ?_
    refine lv_aload_n hx hb dX7_addStep_23 rfl (lv_at hl 0 rfl) ?_
    refine k_get (v := .int (U3.1 3)) C fg_X7_21 hP 0 rfl rfl dX7_addStep_24 ?_
    refine lv_iload_n hx hb dX7_addStep_27 rfl (lv_at hl 2 rfl) ?_
    obtain ⟨h5, hF⟩ := op_ck hF
    obtain ⟨U6, e7, hF⟩ := nw_s hF
    refine k_ist (f := U3.2.2.1 1) (W8 := fl [g7 q o0 a0 U6]) C hP hD hS 2 rfl h5 dX7_addStep_28 (by rw [e7]; rfl) (fun H locs hP hD hS => ?_)
    refine lv_aload_n hx hb dX7_addStep_29 rfl (lv_at hl 0 rfl) ?_
    refine k_get (v := .ref (a0 3)) C fg_X7_18 hP 0 rfl rfl dX7_addStep_30 ?_
    refine lv_aload_n hx hb dX7_addStep_33 rfl (lv_at hl 0 rfl) ?_
    refine k_get (v := .int (U6.1 3)) C fg_X7_21 hP 0 rfl rfl dX7_addStep_34 ?_
    refine lv_iload_n hx hb dX7_addStep_37 rfl (lv_at hl 3 rfl) ?_
    obtain ⟨h8, hF⟩ := op_ck hF
    obtain ⟨U9, e10, hF⟩ := nw_s hF
    refine k_ist (f := U6.2.2.1 2) (W8 := fl [g7 q o0 a0 U9]) C hP hD hS 3 rfl h8 dX7_addStep_38 (by rw [e10]; rfl) (fun H locs hP hD hS => ?_)
    refine lv_aload_n hx hb dX7_addStep_39 rfl (lv_at hl 0 rfl) ?_
    refine lv_dup hx hb dX7_addStep_40 rfl ?_
    refine k_get (v := .int (U9.1 3)) C fg_X7_21 hP 0 rfl rfl dX7_addStep_41 ?_
    refine lv_iconst (v := (1 : Int32)) hx hb dX7_addStep_44 (by decide) ?_
    refine lv_iadd hx hb dX7_addStep_45 ?_
    obtain ⟨U11, e12, hF⟩ := nw_s hF
    refine k_put (W8 := fl [g7 q o0 a0 U11]) C fp_X7_21 hP hD hS 0 rfl rfl rfl (Nat.le_of_ble_eq_true rfl) dX7_addStep_46 (by rw [e12]; rfl) (fun H locs hP hD hS => ?_)
    cases hF
    exact k_vret C hP hS dX7_addStep_49

abbrev rm_X7_readPlain : Room := ({ frames := 2, cells := 0, slots := 0, locals := 45 } : Room)
def F_X7_readPlain_75 (x3 : Int32) (x4 : Int32) (x5 : Int32) (S0 : St) (S1 : St) (S2 : St) : Option (St × St) := ob1 (F_X7_addStep S0 x3 x4 x5) fun U2 => some (U2, S1)
def F_X7_readPlain (S0 : St) (S1 : St) (S2 : St) : Option (St × St) := ob2 (F_X5_needWordFrom S1 (27 : Int32) (9 : Int32)) fun r2 U3 => if ((27 : Int32) + r2) = (30 : Int32) then (ob2 (F_X5_needWordFrom U3 (9 : Int32) (8 : Int32)) fun r17 U18 => F_X7_readPlain_75 ((27 : Int32) + r2) (0 : Int32) r17 S0 U18 S2) else (if ((27 : Int32) + r2) = (31 : Int32) then (ob2 (F_X5_needTurret U3 S2) fun r14 U15 => F_X7_readPlain_75 ((27 : Int32) + r2) (0 : Int32) r14 S0 U15 S2) else (if ((27 : Int32) + r2) < (32 : Int32) then (F_X7_readPlain_75 ((27 : Int32) + r2) (0 : Int32) (0 : Int32) S0 U3 S2) else (ob2 (F_X5_needSign U3) fun r8 U9 => ob2 (F_X5_needNumber U9 (0 : Int32) (999 : Int32)) fun r11 U12 => F_X7_readPlain_75 ((27 : Int32) + r2) r8 r11 S0 U12 S2)))
set_option maxRecDepth 100000 in
set_option maxHeartbeats 4000000 in
theorem b_X7_readPlain_75 {p : Program} {l : Launch} {e : Env} {s : State} {m : MethodId} {args : Array Value} {below : List Frame} {meth : Method} {c : Code} {D : va_G} {q : Nat → ClassId} {A : Nat → Prop} {tp : Nat} {o0 : Nat} {a0 : Nat → Nat} {o1 : Nat} {a1 : Nat → Nat} {o2 : Nat} {a2 : Nat → Nat} {T0 : St} {T1 : St} (C : cx p s m args meth c cX7_readPlain 6 none RX7 D q A) {x3 : Int32} {x4 : Int32} {x5 : Int32} {S0 : St} {S1 : St} {S2 : St} (hF : F_X7_readPlain_75 x3 x4 x5 S0 S1 S2 = some (T0, T1)) {H : Heap} {locs : List Loc} (hP : va_P D vwCl (fl [g7 q o0 a0 S0, g5 q o1 a1 tp S1, g8 q o2 a2 S2]) H) (hD : va_D A (fl [g7 q o0 a0 S0, g5 q o1 a1 tp S1, g8 q o2 a2 S2])) (hS : va_S A s.heap H locs) {ls : Array Slot} (hl : lv_has ls 6 [(0, .ref o0), (3, .int x3), (4, .int x4), (5, .int x5)]) : W p l e rm_X7_readPlain s m args below meth c H locs 0 0 (MQ below (QV D A (fl [g7 q o0 a0 T0, g5 q o1 a1 tp T1, g8 q o2 a2 S2])) args s 0 0 A) (F0 m 75 ls []) := by
  unfold F_X7_readPlain_75 at hF
  obtain ⟨hx, hb, hr, hml, hown, hts, hlk, hA, hK, hN, hV⟩ := id C
  refine lv_aload_n hx hb dX7_readPlain_75 rfl (lv_at hl 0 rfl) ?_
  refine lv_iload_n hx hb dX7_readPlain_76 rfl (lv_at hl 1 rfl) ?_
  refine lv_iload hx hb dX7_readPlain_77 (lv_at hl 2 rfl) ?_
  refine lv_iload hx hb dX7_readPlain_79 (lv_at hl 3 rfl) ?_
  obtain ⟨U2, hc1, hF⟩ := ob1_s hF
  refine k_vgrp (gs8 := [g7 q o0 a0 U2, g5 q o1 a1 tp S1, g8 q o2 a2 S2]) C (k_rV (As := [.int x3, .int x4, .int x5]) (rest := []) C (c_X7_addStep l D q o0 a0 S0 _ x3 x4 x5 hc1) kc_X7_addStep ml_X7_58 rfl rfl (by decide) (flP hP [0] rfl) (flD hD [0] (by decide) rfl) hS (va_recv hK hP (ci := 7) (q0 := 0) rfl rfl) rfl hl.1 rfl (Nat.le_of_ble_eq_true rfl) dX7_readPlain_81 (by decide)) hP hD hS [0] [1, 2] [g5 q o1 a1 tp S1, g8 q o2 a2 S2] 3 (by decide) rfl rfl rfl rfl rfl rfl (by simp only [List.map_cons, List.map_nil, gad5, gad7, gad8]) (fun H locs hP hD hS => ?_)
  cases hF
  exact k_vret C hP hS dX7_readPlain_84
set_option maxRecDepth 100000 in
set_option maxHeartbeats 4000000 in
theorem c_X7_readPlain (l : Launch) (D : va_G) (q : Nat → ClassId) (tp : Nat) (o0 : Nat) (a0 : Nat → Nat) (S0 : St) (o1 : Nat) (a1 : Nat → Nat) (S1 : St) (o2 : Nat) (a2 : Nat → Nat) (S2 : St) (sz : Nat) {T0 : St} {T1 : St} (hF : F_X7_readPlain S0 S1 S2 = some (T0, T1)) : Met l yX7_readPlain (Cond.code yX7_readPlain cX7_readPlain 6 none :: TB) rm_X7_readPlain (PC D q [.ref o0, .ref o1, .ref o2] (fl [g7 q o0 a0 S0, g5 q o1 a1 tp S1, g8 q o2 a2 S2]) sz) ((fun A => QV D A (fl [g7 q o0 a0 T0, g5 q o1 a1 tp T1, g8 q o2 a2 S2])) (va_A (fl [g7 q o0 a0 S0, g5 q o1 a1 tp S1, g8 q o2 a2 S2]) sz)) 0 0 (va_A (fl [g7 q o0 a0 S0, g5 q o1 a1 tp S1, g8 q o2 a2 S2]) sz) := by
  refine k_met (w0 := fl [g7 q o0 a0 S0, g5 q o1 a1 tp S1, g8 q o2 a2 S2]) (Q := fun A => QV D A (fl [g7 q o0 a0 T0, g5 q o1 a1 tp T1, g8 q o2 a2 S2])) (by decide +kernel) (Nat.le_of_ble_eq_true rfl) ?_
  intro p e s m args below meth c A ls C hP hD hS hl
  have hl : lv_has ls 6 [(0, .ref o0), (1, .ref o1), (2, .ref o2)] := hl
  unfold F_X7_readPlain at hF
  have C : cx p s m args meth c cX7_readPlain 6 none RX7 D q A := C
  obtain ⟨hx, hb, hr, hml, hown, hts, hlk, hA, hK, hN, hV⟩ := id C
  refine lv_bipush (v := (27 : Int32)) hx hb dX7_readPlain_0 (by decide) ?_
  refine lv_aload_n hx hb dX7_readPlain_2 rfl (lv_at hl 1 rfl) ?_
  refine lv_bipush (v := (27 : Int32)) hx hb dX7_readPlain_3 (by decide) ?_
  refine lv_bipush (v := (9 : Int32)) hx hb dX7_readPlain_5 (by decide) ?_
  obtain ⟨r2, U3, hc1, hF⟩ := ob2_s hF
  refine k_igrp (gs8 := [g7 q o0 a0 S0, g5 q o1 a1 tp U3, g8 q o2 a2 S2]) C (k_rV (As := [.int (27 : Int32), .int (9 : Int32)]) (rest := [.int (27 : Int32)]) C (c_X5_needWordFrom l D q tp o1 a1 S1 _ (27 : Int32) (9 : Int32) hc1) kc_X5_needWordFrom ml_X7_90 rfl rfl (by decide) (flP hP [1] rfl) (flD hD [1] (by decide) rfl) hS (va_recv hK hP (ci := 5) (q0 := 4) rfl rfl) rfl hl.1 rfl (Nat.le_of_ble_eq_true rfl) dX7_readPlain_7 (by decide)) hP hD hS [1] [0, 2] [g7 q o0 a0 S0, g8 q o2 a2 S2] 3 (by decide) rfl rfl rfl rfl rfl rfl (by simp only [List.map_cons, List.map_nil, gad5, gad7, gad8]) (fun H locs hP hD hS => ?_)
  refine lv_iadd hx hb dX7_readPlain_10 ?_
  refine lv_istore_n (lv' := [(3, .int ((27 : Int32) + r2)), (0, .ref o0), (1, .ref o1), (2, .ref o2)]) hx hb dX7_readPlain_11 rfl hl (by decide) rfl (fun ls hl => ?_)
  refine lv_iconst (v := (0 : Int32)) hx hb dX7_readPlain_12 (by decide) ?_
  refine lv_istore (lv' := [(4, .int (0 : Int32)), (3, .int ((27 : Int32) + r2)), (0, .ref o0), (1, .ref o1), (2, .ref o2)]) hx hb dX7_readPlain_13 hl (by decide) rfl (fun ls hl => ?_)
  refine lv_iconst (v := (0 : Int32)) hx hb dX7_readPlain_15 (by decide) ?_
  refine lv_istore (lv' := [(5, .int (0 : Int32)), (4, .int (0 : Int32)), (3, .int ((27 : Int32) + r2)), (0, .ref o0), (1, .ref o1), (2, .ref o2)]) hx hb dX7_readPlain_16 hl (by decide) rfl (fun ls hl => ?_)
  refine lv_iload_n hx hb dX7_readPlain_18 rfl (lv_at hl 2 rfl) ?_
  refine lv_bipush (v := (30 : Int32)) hx hb dX7_readPlain_19 (by decide) ?_
  refine lv_icmp_ne (tgt := 37) hx hb dX7_readPlain_21 (by decide) (fun c4 => ?_) (fun c4 => ?_)
  · have hF := op_f hF c4
    refine lv_iload_n hx hb dX7_readPlain_37 rfl (lv_at hl 2 rfl) ?_
    refine lv_bipush (v := (31 : Int32)) hx hb dX7_readPlain_38 (by decide) ?_
    refine lv_icmp_ne (tgt := 53) hx hb dX7_readPlain_40 (by decide) (fun c5 => ?_) (fun c5 => ?_)
    · have hF := op_f hF c5
      refine lv_iload_n hx hb dX7_readPlain_53 rfl (lv_at hl 2 rfl) ?_
      refine lv_bipush (v := (32 : Int32)) hx hb dX7_readPlain_54 (by decide) ?_
      refine lv_icmp_lt (tgt := 75) hx hb dX7_readPlain_56 (by decide) (fun c6 => ?_) (fun c6 => ?_)
      · have hF := op_t hF c6
        exact b_X7_readPlain_75 C hF hP hD hS (lv_sub hl [3, 2, 1, 0] rfl)
      · have hF := op_f hF c6
        refine lv_aload_n hx hb dX7_readPlain_59 rfl (lv_at hl 4 rfl) ?_
        obtain ⟨r8, U9, hc7, hF⟩ := ob2_s hF
        refine k_igrp (gs8 := [g7 q o0 a0 S0, g5 q o1 a1 tp U9, g8 q o2 a2 S2]) C (k_rV (As := []) (rest := []) C (c_X5_needSign l D q tp o1 a1 U3 _ hc7) kc_X5_needSign ml_X7_98 rfl rfl (by decide) (flP hP [1] rfl) (flD hD [1] (by decide) rfl) hS (va_recv hK hP (ci := 5) (q0 := 4) rfl rfl) rfl hl.1 rfl (Nat.le_of_ble_eq_true rfl) dX7_readPlain_60 (by decide)) hP hD hS [1] [0, 2] [g7 q o0 a0 S0, g8 q o2 a2 S2] 3 (by decide) rfl rfl rfl rfl rfl rfl (by simp only [List.map_cons, List.map_nil, gad5, gad7, gad8]) (fun H locs hP hD hS => ?_)
        refine lv_istore (lv' := [(4, .int r8), (5, .int (0 : Int32)), (3, .int ((27 : Int32) + r2)), (0, .ref o0), (1, .ref o1), (2, .ref o2)]) hx hb dX7_readPlain_63 hl (by decide) rfl (fun ls hl => ?_)
        refine lv_aload_n hx hb dX7_readPlain_65 rfl (lv_at hl 4 rfl) ?_
        refine lv_iconst (v := (0 : Int32)) hx hb dX7_readPlain_66 (by decide) ?_
        refine lv_sipush (v := (999 : Int32)) hx hb dX7_readPlain_67 (by decide) ?_
        obtain ⟨r11, U12, hc10, hF⟩ := ob2_s hF
        refine k_igrp (gs8 := [g7 q o0 a0 S0, g5 q o1 a1 tp U12, g8 q o2 a2 S2]) C (k_rV (As := [.int (0 : Int32), .int (999 : Int32)]) (rest := []) C (c_X5_needNumber l D q tp o1 a1 U9 _ (0 : Int32) (999 : Int32) hc10) kc_X5_needNumber ml_X7_102 rfl rfl (by decide) (flP hP [1] rfl) (flD hD [1] (by decide) rfl) hS (va_recv hK hP (ci := 5) (q0 := 4) rfl rfl) rfl hl.1 rfl (Nat.le_of_ble_eq_true rfl) dX7_readPlain_70 (by decide)) hP hD hS [1] [0, 2] [g7 q o0 a0 S0, g8 q o2 a2 S2] 3 (by decide) rfl rfl rfl rfl rfl rfl (by simp only [List.map_cons, List.map_nil, gad5, gad7, gad8]) (fun H locs hP hD hS => ?_)
        refine lv_istore (lv' := [(5, .int r11), (4, .int r8), (3, .int ((27 : Int32) + r2)), (0, .ref o0), (1, .ref o1), (2, .ref o2)]) hx hb dX7_readPlain_73 hl (by decide) rfl (fun ls hl => ?_)
        exact b_X7_readPlain_75 C hF hP hD hS (lv_sub hl [3, 2, 1, 0] rfl)
    · have hF := op_t hF c5
      refine lv_aload_n hx hb dX7_readPlain_43 rfl (lv_at hl 4 rfl) ?_
      refine lv_aload_n hx hb dX7_readPlain_44 rfl (lv_at hl 5 rfl) ?_
      obtain ⟨r14, U15, hc13, hF⟩ := ob2_s hF
      refine k_igrp (gs8 := [g7 q o0 a0 S0, g5 q o1 a1 tp U15, g8 q o2 a2 S2]) C (k_rV (As := [.ref o2]) (rest := []) C (c_X5_needTurret l D q tp o1 a1 U3 o2 a2 S2 _ hc13) kc_X5_needTurret ml_X7_94 rfl rfl (by decide) (flP hP [1, 2] rfl) (flD hD [1, 2] (by decide) rfl) hS (va_recv hK hP (ci := 5) (q0 := 4) rfl rfl) rfl hl.1 rfl (Nat.le_of_ble_eq_true rfl) dX7_readPlain_45 (by decide)) hP hD hS [1, 2] [0] [g7 q o0 a0 S0] 3 (by decide) rfl rfl rfl rfl rfl rfl (by simp only [List.map_cons, List.map_nil, gad5, gad7, gad8]) (fun H locs hP hD hS => ?_)
      refine lv_istore (lv' := [(5, .int r14), (4, .int (0 : Int32)), (3, .int ((27 : Int32) + r2)), (0, .ref o0), (1, .ref o1), (2, .ref o2)]) hx hb dX7_readPlain_48 hl (by decide) rfl (fun ls hl => ?_)
      refine lv_goto (tgt := 75) hx hb dX7_readPlain_50 (by decide) ?_
      exact b_X7_readPlain_75 C hF hP hD hS (lv_sub hl [3, 2, 1, 0] rfl)
  · have hF := op_t hF c4
    refine lv_aload_n hx hb dX7_readPlain_24 rfl (lv_at hl 4 rfl) ?_
    refine lv_bipush (v := (9 : Int32)) hx hb dX7_readPlain_25 (by decide) ?_
    refine lv_bipush (v := (8 : Int32)) hx hb dX7_readPlain_27 (by decide) ?_
    obtain ⟨r17, U18, hc16, hF⟩ := ob2_s hF
    refine k_igrp (gs8 := [g7 q o0 a0 S0, g5 q o1 a1 tp U18, g8 q o2 a2 S2]) C (k_rV (As := [.int (9 : Int32), .int (8 : Int32)]) (rest := []) C (c_X5_needWordFrom l D q tp o1 a1 U3 _ (9 : Int32) (8 : Int32) hc16) kc_X5_needWordFrom ml_X7_90 rfl rfl (by decide) (flP hP [1] rfl) (flD hD [1] (by decide) rfl) hS (va_recv hK hP (ci := 5) (q0 := 4) rfl rfl) rfl hl.1 rfl (Nat.le_of_ble_eq_true rfl) dX7_readPlain_29 (by decide)) hP hD hS [1] [0, 2] [g7 q o0 a0 S0, g8 q o2 a2 S2] 3 (by decide) rfl rfl rfl rfl rfl rfl (by simp only [List.map_cons, List.map_nil, gad5, gad7, gad8]) (fun H locs hP hD hS => ?_)
    refine lv_istore (lv' := [(5, .int r17), (4, .int (0 : Int32)), (3, .int ((27 : Int32) + r2)), (0, .ref o0), (1, .ref o1), (2, .ref o2)]) hx hb dX7_readPlain_32 hl (by decide) rfl (fun ls hl => ?_)
    refine lv_goto (tgt := 75) hx hb dX7_readPlain_34 (by decide) ?_
    exact b_X7_readPlain_75 C hF hP hD hS (lv_sub hl [3, 2, 1, 0] rfl)

abbrev rm_X7_readOne : Room := ({ frames := 3, cells := 0, slots := 0, locals := 70 } : Room)
def F_X7_readOne_48 (f_X7_readCond : St → St → St → Int32 → Option (St × St)) (f_X7_readOne : St → St → St → Int32 → Option (St × St)) (x3 : Int32) (S0 : St) (S1 : St) (S2 : St) : Option (St × St) := if (S1.1 8) = 0 then (nw (sI S0 4 ((S0.1 4) + (1 : Int32))) fun U2 => ob2 (F_X5_takeMark S1 (40 : Int32)) fun r5 U6 => if r5 = 0 then (ob2 (F_X5_takeWord U6 (26 : Int32)) fun r9 U10 => if r9 = 0 then (ob2 (F_X7_readPlain U2 U10 S2) fun U13 U14 => some (U13, U14)) else (ob2 (f_X7_readOne U2 U10 S2 (x3 + (1 : Int32))) fun U16 U17 => ob1 (F_X7_addStep U16 (26 : Int32) (0 : Int32) (0 : Int32)) fun U19 => some (U19, U17))) else (ob2 (f_X7_readCond U2 U6 S2 (x3 + (1 : Int32))) fun U21 U22 => ob1 (F_X5_needMark U22 (41 : Int32)) fun U24 => some (U21, U24))) else (some (S0, S1))
def F_X7_readOne_43 (f_X7_readCond : St → St → St → Int32 → Option (St × St)) (f_X7_readOne : St → St → St → Int32 → Option (St × St)) (x3 : Int32) (S0 : St) (S1 : St) (S2 : St) : Option (St × St) := ob1 (F_X5_fail S1 (4 : Int32)) fun U2 => F_X7_readOne_48 f_X7_readCond f_X7_readOne x3 S0 U2 S2
def F_X7_readOne_28 (f_X7_readCond : St → St → St → Int32 → Option (St × St)) (f_X7_readOne : St → St → St → Int32 → Option (St × St)) (x3 : Int32) (S0 : St) (S1 : St) (S2 : St) : Option (St × St) := if (20 : Int32) ≤ (S0.1 4) then (F_X7_readOne_43 f_X7_readCond f_X7_readOne x3 S0 S1 S2) else (if x3 ≤ (8 : Int32) then (F_X7_readOne_48 f_X7_readCond f_X7_readOne x3 S0 S1 S2) else (F_X7_readOne_43 f_X7_readCond f_X7_readOne x3 S0 S1 S2))
def F_X7_readOne (f_X7_readCond : St → St → St → Int32 → Option (St × St)) (f_X7_readOne : St → St → St → Int32 → Option (St × St)) (S0 : St) (S1 : St) (S2 : St) (x3 : Int32) : Option (St × St) := ob1 (F_X5_isMark S1 (40 : Int32)) fun r2 => if r2 = 0 then (ob1 (F_X5_isWordFrom S1 (26 : Int32) (10 : Int32)) fun r5 => if r5 = 0 then (ob1 (F_X5_fail S1 (1 : Int32)) fun U8 => F_X7_readOne_48 f_X7_readCond f_X7_readOne x3 S0 U8 S2) else (F_X7_readOne_28 f_X7_readCond f_X7_readOne x3 S0 S1 S2)) else (F_X7_readOne_28 f_X7_readCond f_X7_readOne x3 S0 S1 S2)
set_option maxRecDepth 100000 in
set_option maxHeartbeats 4000000 in
theorem b_X7_readOne_48 {p : Program} {l : Launch} {e : Env} {s : State} {m : MethodId} {args : Array Value} {below : List Frame} {meth : Method} {c : Code} {D : va_G} {q : Nat → ClassId} {A : Nat → Prop} {tp : Nat} {o0 : Nat} {a0 : Nat → Nat} {o1 : Nat} {a1 : Nat → Nat} {o2 : Nat} {a2 : Nat → Nat} {T0 : St} {T1 : St} (C : cx p s m args meth c cX7_readOne 4 none RX7 D q A) {R : Room} (hR0 : 3 ≤ R.frames ∧ 70 ≤ R.locals) {f_X7_readCond : St → St → St → Int32 → Option (St × St)} {rm_X7_readCond : Room} (hm_X7_readCond : ∀ (sz : Nat) (S0 S1 S2 : St) (x3 : Int32) (T0 T1 : St), f_X7_readCond S0 S1 S2 x3 = some (T0, T1) → Met l yX7_readCond (Cond.code yX7_readCond cX7_readCond 5 none :: TB) rm_X7_readCond (PC D q [.ref o0, .ref o1, .ref o2, .int x3] (fl [g7 q o0 a0 S0, g5 q o1 a1 tp S1, g8 q o2 a2 S2]) sz) (QV D (va_A (fl [g7 q o0 a0 S0, g5 q o1 a1 tp S1, g8 q o2 a2 S2]) sz) (fl [g7 q o0 a0 T0, g5 q o1 a1 tp T1, g8 q o2 a2 S2])) 0 0 (va_A (fl [g7 q o0 a0 S0, g5 q o1 a1 tp S1, g8 q o2 a2 S2]) sz)) (hz_X7_readCond : rm_X7_readCond.cells = 0 ∧ rm_X7_readCond.slots = 0) (hr_X7_readCond : rm_X7_readCond.frames + 1 ≤ R.frames ∧ 8 + (5 + 11) + rm_X7_readCond.locals ≤ R.locals) {f_X7_readOne : St → St → St → Int32 → Option (St × St)} {rm_X7_readOne : Room} (hm_X7_readOne : ∀ (sz : Nat) (S0 S1 S2 : St) (x3 : Int32) (T0 T1 : St), f_X7_readOne S0 S1 S2 x3 = some (T0, T1) → Met l yX7_readOne (Cond.code yX7_readOne cX7_readOne 4 none :: TB) rm_X7_readOne (PC D q [.ref o0, .ref o1, .ref o2, .int x3] (fl [g7 q o0 a0 S0, g5 q o1 a1 tp S1, g8 q o2 a2 S2]) sz) (QV D (va_A (fl [g7 q o0 a0 S0, g5 q o1 a1 tp S1, g8 q o2 a2 S2]) sz) (fl [g7 q o0 a0 T0, g5 q o1 a1 tp T1, g8 q o2 a2 S2])) 0 0 (va_A (fl [g7 q o0 a0 S0, g5 q o1 a1 tp S1, g8 q o2 a2 S2]) sz)) (hz_X7_readOne : rm_X7_readOne.cells = 0 ∧ rm_X7_readOne.slots = 0) (hr_X7_readOne : rm_X7_readOne.frames + 1 ≤ R.frames ∧ 8 + (4 + 11) + rm_X7_readOne.locals ≤ R.locals) {x3 : Int32} {S0 : St} {S1 : St} {S2 : St} (hF : F_X7_readOne_48 f_X7_readCond f_X7_readOne x3 S0 S1 S2 = some (T0, T1)) {H : Heap} {locs : List Loc} (hP : va_P D vwCl (fl [g7 q o0 a0 S0, g5 q o1 a1 tp S1, g8 q o2 a2 S2]) H) (hD : va_D A (fl [g7 q o0 a0 S0, g5 q o1 a1 tp S1, g8 q o2 a2 S2])) (hS : va_S A s.heap H locs) {ls : Array Slot} (hl : lv_has ls 4 [(0, .ref o0), (1, .ref o1), (2, .ref o2), (3, .int x3)]) : W p l e R s m args below meth c H locs 0 0 (MQ below (QV D A (fl [g7 q o0 a0 T0, g5 q o1 a1 tp T1, g8 q o2 a2 S2])) args s 0 0 A) (F0 m 48 ls []) := by
  unfold F_X7_readOne_48 at hF
  obtain ⟨hx, hb, hr, hml, hown, hts, hlk, hA, hK, hN, hV⟩ := id C
  refine lv_aload_n hx hb dX7_readOne_48 rfl (lv_at hl 1 rfl) ?_
  refine k_get (v := .int (S1.1 8)) C fg_X7_76 hP 4 rfl rfl dX7_readOne_49 ?_
  refine lv_if_eq (tgt := 56) hx hb dX7_readOne_52 (by decide) (fun c1 => ?_) (fun c1 => ?_)
  · have hF := op_t hF c1
    refine lv_aload_n hx hb dX7_readOne_56 rfl (lv_at hl 0 rfl) ?_
    refine lv_dup hx hb dX7_readOne_57 rfl ?_
    refine k_get (v := .int (S0.1 4)) C fg_X7_25 hP 0 rfl rfl dX7_readOne_58 ?_
    refine lv_iconst (v := (1 : Int32)) hx hb dX7_readOne_61 (by decide) ?_
    refine lv_iadd hx hb dX7_readOne_62 ?_
    obtain ⟨U2, e3, hF⟩ := nw_s hF
    refine k_put (W8 := fl [g7 q o0 a0 U2, g5 q o1 a1 tp S1, g8 q o2 a2 S2]) C fp_X7_25 hP hD hS 0 rfl rfl rfl (Nat.le_of_ble_eq_true rfl) dX7_readOne_63 (by rw [e3]; rfl) (fun H locs hP hD hS => ?_)
    refine lv_aload_n hx hb dX7_readOne_66 rfl (lv_at hl 1 rfl) ?_
    refine lv_bipush (v := (40 : Int32)) hx hb dX7_readOne_67 (by decide) ?_
    obtain ⟨r5, U6, hc4, hF⟩ := ob2_s hF
    refine k_igrp (gs8 := [g7 q o0 a0 U2, g5 q o1 a1 tp U6, g8 q o2 a2 S2]) C (k_rV (As := [.int (40 : Int32)]) (rest := []) C (c_X5_takeMark l D q tp o1 a1 S1 _ (40 : Int32) hc4) kc_X5_takeMark ml_X7_79 rfl rfl ⟨Nat.le_trans (Nat.le_of_ble_eq_true rfl) hR0.1, Nat.le_trans (Nat.le_of_ble_eq_true rfl) hR0.2⟩ (flP hP [1] rfl) (flD hD [1] (by decide) rfl) hS (va_recv hK hP (ci := 5) (q0 := 4) rfl rfl) rfl hl.1 rfl (Nat.le_of_ble_eq_true rfl) dX7_readOne_69 ⟨Nat.zero_le _, Nat.zero_le _⟩) hP hD hS [1] [0, 2] [g7 q o0 a0 U2, g8 q o2 a2 S2] 3 (by decide) rfl rfl rfl rfl rfl rfl (by simp only [List.map_cons, List.map_nil, gad5, gad7, gad8]) (fun H locs hP hD hS => ?_)
    refine lv_if_eq (tgt := 93) hx hb dX7_readOne_72 (by decide) (fun c7 => ?_) (fun c7 => ?_)
    · have hF := op_t hF c7
      refine lv_aload_n hx hb dX7_readOne_93 rfl (lv_at hl 1 rfl) ?_
      refine lv_bipush (v := (26 : Int32)) hx hb dX7_readOne_94 (by decide) ?_
      obtain ⟨r9, U10, hc8, hF⟩ := ob2_s hF
      refine k_igrp (gs8 := [g7 q o0 a0 U2, g5 q o1 a1 tp U10, g8 q o2 a2 S2]) C (k_rV (As := [.int (26 : Int32)]) (rest := []) C (c_X5_takeWord l D q tp o1 a1 U6 _ (26 : Int32) hc8) kc_X5_takeWord ml_X7_54 rfl rfl ⟨Nat.le_trans (Nat.le_of_ble_eq_true rfl) hR0.1, Nat.le_trans (Nat.le_of_ble_eq_true rfl) hR0.2⟩ (flP hP [1] rfl) (flD hD [1] (by decide) rfl) hS (va_recv hK hP (ci := 5) (q0 := 4) rfl rfl) rfl hl.1 rfl (Nat.le_of_ble_eq_true rfl) dX7_readOne_96 ⟨Nat.zero_le _, Nat.zero_le _⟩) hP hD hS [1] [0, 2] [g7 q o0 a0 U2, g8 q o2 a2 S2] 3 (by decide) rfl rfl rfl rfl rfl rfl (by simp only [List.map_cons, List.map_nil, gad5, gad7, gad8]) (fun H locs hP hD hS => ?_)
      refine lv_if_eq (tgt := 122) hx hb dX7_readOne_99 (by decide) (fun c11 => ?_) (fun c11 => ?_)
      · have hF := op_t hF c11
        refine lv_aload_n hx hb dX7_readOne_122 rfl (lv_at hl 0 rfl) ?_
        refine lv_aload_n hx hb dX7_readOne_123 rfl (lv_at hl 1 rfl) ?_
        refine lv_aload_n hx hb dX7_readOne_124 rfl (lv_at hl 2 rfl) ?_
        obtain ⟨U13, U14, hc12, hF⟩ := ob2_s hF
        refine k_vall C (k_rV (As := [.ref o1, .ref o2]) (rest := []) C (c_X7_readPlain l D q tp o0 a0 U2 o1 a1 U10 o2 a2 S2 _ hc12) kc_X7_readPlain ml_X7_86 rfl rfl ⟨Nat.le_trans (Nat.le_of_ble_eq_true rfl) hR0.1, Nat.le_trans (Nat.le_of_ble_eq_true rfl) hR0.2⟩ hP hD hS (va_recv hK hP (ci := 7) (q0 := 0) rfl rfl) rfl hl.1 rfl (Nat.le_of_ble_eq_true rfl) dX7_readOne_125 ⟨Nat.zero_le _, Nat.zero_le _⟩) hP hD hS (by simp only [List.map_cons, List.map_nil, gad5, gad7, gad8]) (fun H locs hP hD hS => ?_)
        cases hF
        exact k_vret C hP hS dX7_readOne_128
      · have hF := op_f hF c11
        refine lv_aload_n hx hb dX7_readOne_102 rfl (lv_at hl 0 rfl) ?_
        refine lv_aload_n hx hb dX7_readOne_103 rfl (lv_at hl 1 rfl) ?_
        refine lv_aload_n hx hb dX7_readOne_104 rfl (lv_at hl 2 rfl) ?_
        refine lv_iload_n hx hb dX7_readOne_105 rfl (lv_at hl 3 rfl) ?_
        refine lv_iconst (v := (1 : Int32)) hx hb dX7_readOne_106 (by decide) ?_
        refine lv_iadd hx hb dX7_readOne_107 ?_
        obtain ⟨U16, U17, hc15, hF⟩ := ob2_s hF
        refine k_vall C (k_rV (As := [.ref o1, .ref o2, .int (x3 + (1 : Int32))]) (rest := []) C (hm_X7_readOne _ U2 U10 S2 (x3 + (1 : Int32)) U16 U17 hc15) kc_X7_readOne ml_X7_62 hz_X7_readOne.1 hz_X7_readOne.2 hr_X7_readOne hP hD hS (va_recv hK hP (ci := 7) (q0 := 0) rfl rfl) rfl hl.1 rfl (Nat.le_of_ble_eq_true rfl) dX7_readOne_108 ⟨Nat.zero_le _, Nat.zero_le _⟩) hP hD hS (by simp only [List.map_cons, List.map_nil, gad5, gad7, gad8]) (fun H locs hP hD hS => ?_)
        refine lv_aload_n hx hb dX7_readOne_111 rfl (lv_at hl 0 rfl) ?_
        refine lv_bipush (v := (26 : Int32)) hx hb dX7_readOne_112 (by decide) ?_
        refine lv_iconst (v := (0 : Int32)) hx hb dX7_readOne_114 (by decide) ?_
        refine lv_iconst (v := (0 : Int32)) hx hb dX7_readOne_115 (by decide) ?_
        obtain ⟨U19, hc18, hF⟩ := ob1_s hF
        refine k_vgrp (gs8 := [g7 q o0 a0 U19, g5 q o1 a1 tp U17, g8 q o2 a2 S2]) C (k_rV (As := [.int (26 : Int32), .int (0 : Int32), .int (0 : Int32)]) (rest := []) C (c_X7_addStep l D q o0 a0 U16 _ (26 : Int32) (0 : Int32) (0 : Int32) hc18) kc_X7_addStep ml_X7_58 rfl rfl ⟨Nat.le_trans (Nat.le_of_ble_eq_true rfl) hR0.1, Nat.le_trans (Nat.le_of_ble_eq_true rfl) hR0.2⟩ (flP hP [0] rfl) (flD hD [0] (by decide) rfl) hS (va_recv hK hP (ci := 7) (q0 := 0) rfl rfl) rfl hl.1 rfl (Nat.le_of_ble_eq_true rfl) dX7_readOne_116 ⟨Nat.zero_le _, Nat.zero_le _⟩) hP hD hS [0] [1, 2] [g5 q o1 a1 tp U17, g8 q o2 a2 S2] 3 (by decide) rfl rfl rfl rfl rfl rfl (by simp only [List.map_cons, List.map_nil, gad5, gad7, gad8]) (fun H locs hP hD hS => ?_)
        refine lv_goto (tgt := 128) hx hb dX7_readOne_119 (by decide) ?_
        cases hF
        exact k_vret C hP hS dX7_readOne_128
    · have hF := op_f hF c7
      refine lv_aload_n hx hb dX7_readOne_75 rfl (lv_at hl 0 rfl) ?_
      refine lv_aload_n hx hb dX7_readOne_76 rfl (lv_at hl 1 rfl) ?_
      refine lv_aload_n hx hb dX7_readOne_77 rfl (lv_at hl 2 rfl) ?_
      refine lv_iload_n hx hb dX7_readOne_78 rfl (lv_at hl 3 rfl) ?_
      refine lv_iconst (v := (1 : Int32)) hx hb dX7_readOne_79 (by decide) ?_
      refine lv_iadd hx hb dX7_readOne_80 ?_
      obtain ⟨U21, U22, hc20, hF⟩ := ob2_s hF
      refine k_vall C (k_rV (As := [.ref o1, .ref o2, .int (x3 + (1 : Int32))]) (rest := []) C (hm_X7_readCond _ U2 U6 S2 (x3 + (1 : Int32)) U21 U22 hc20) kc_X7_readCond ml_X7_43 hz_X7_readCond.1 hz_X7_readCond.2 hr_X7_readCond hP hD hS (va_recv hK hP (ci := 7) (q0 := 0) rfl rfl) rfl hl.1 rfl (Nat.le_of_ble_eq_true rfl) dX7_readOne_81 ⟨Nat.zero_le _, Nat.zero_le _⟩) hP hD hS (by simp only [List.map_cons, List.map_nil, gad5, gad7, gad8]) (fun H locs hP hD hS => ?_)
      refine lv_aload_n hx hb dX7_readOne_84 rfl (lv_at hl 1 rfl) ?_
      refine lv_bipush (v := (41 : Int32)) hx hb dX7_readOne_85 (by decide) ?_
      obtain ⟨U24, hc23, hF⟩ := ob1_s hF
      refine k_vgrp (gs8 := [g7 q o0 a0 U21, g5 q o1 a1 tp U24, g8 q o2 a2 S2]) C (k_rV (As := [.int (41 : Int32)]) (rest := []) C (c_X5_needMark l D q tp o1 a1 U22 _ (41 : Int32) hc23) kc_X5_needMark ml_X7_82 rfl rfl ⟨Nat.le_trans (Nat.le_of_ble_eq_true rfl) hR0.1, Nat.le_trans (Nat.le_of_ble_eq_true rfl) hR0.2⟩ (flP hP [1] rfl) (flD hD [1] (by decide) rfl) hS (va_recv hK hP (ci := 5) (q0 := 4) rfl rfl) rfl hl.1 rfl (Nat.le_of_ble_eq_true rfl) dX7_readOne_87 ⟨Nat.zero_le _, Nat.zero_le _⟩) hP hD hS [1] [0, 2] [g7 q o0 a0 U21, g8 q o2 a2 S2] 3 (by decide) rfl rfl rfl rfl rfl rfl (by simp only [List.map_cons, List.map_nil, gad5, gad7, gad8]) (fun H locs hP hD hS => ?_)
      refine lv_goto (tgt := 128) hx hb dX7_readOne_90 (by decide) ?_
      cases hF
      exact k_vret C hP hS dX7_readOne_128
  · have hF := op_f hF c1
    cases hF
    exact k_vret C hP hS dX7_readOne_55
set_option maxRecDepth 100000 in
set_option maxHeartbeats 4000000 in
theorem b_X7_readOne_43 {p : Program} {l : Launch} {e : Env} {s : State} {m : MethodId} {args : Array Value} {below : List Frame} {meth : Method} {c : Code} {D : va_G} {q : Nat → ClassId} {A : Nat → Prop} {tp : Nat} {o0 : Nat} {a0 : Nat → Nat} {o1 : Nat} {a1 : Nat → Nat} {o2 : Nat} {a2 : Nat → Nat} {T0 : St} {T1 : St} (C : cx p s m args meth c cX7_readOne 4 none RX7 D q A) {R : Room} (hR0 : 3 ≤ R.frames ∧ 70 ≤ R.locals) {f_X7_readCond : St → St → St → Int32 → Option (St × St)} {rm_X7_readCond : Room} (hm_X7_readCond : ∀ (sz : Nat) (S0 S1 S2 : St) (x3 : Int32) (T0 T1 : St), f_X7_readCond S0 S1 S2 x3 = some (T0, T1) → Met l yX7_readCond (Cond.code yX7_readCond cX7_readCond 5 none :: TB) rm_X7_readCond (PC D q [.ref o0, .ref o1, .ref o2, .int x3] (fl [g7 q o0 a0 S0, g5 q o1 a1 tp S1, g8 q o2 a2 S2]) sz) (QV D (va_A (fl [g7 q o0 a0 S0, g5 q o1 a1 tp S1, g8 q o2 a2 S2]) sz) (fl [g7 q o0 a0 T0, g5 q o1 a1 tp T1, g8 q o2 a2 S2])) 0 0 (va_A (fl [g7 q o0 a0 S0, g5 q o1 a1 tp S1, g8 q o2 a2 S2]) sz)) (hz_X7_readCond : rm_X7_readCond.cells = 0 ∧ rm_X7_readCond.slots = 0) (hr_X7_readCond : rm_X7_readCond.frames + 1 ≤ R.frames ∧ 8 + (5 + 11) + rm_X7_readCond.locals ≤ R.locals) {f_X7_readOne : St → St → St → Int32 → Option (St × St)} {rm_X7_readOne : Room} (hm_X7_readOne : ∀ (sz : Nat) (S0 S1 S2 : St) (x3 : Int32) (T0 T1 : St), f_X7_readOne S0 S1 S2 x3 = some (T0, T1) → Met l yX7_readOne (Cond.code yX7_readOne cX7_readOne 4 none :: TB) rm_X7_readOne (PC D q [.ref o0, .ref o1, .ref o2, .int x3] (fl [g7 q o0 a0 S0, g5 q o1 a1 tp S1, g8 q o2 a2 S2]) sz) (QV D (va_A (fl [g7 q o0 a0 S0, g5 q o1 a1 tp S1, g8 q o2 a2 S2]) sz) (fl [g7 q o0 a0 T0, g5 q o1 a1 tp T1, g8 q o2 a2 S2])) 0 0 (va_A (fl [g7 q o0 a0 S0, g5 q o1 a1 tp S1, g8 q o2 a2 S2]) sz)) (hz_X7_readOne : rm_X7_readOne.cells = 0 ∧ rm_X7_readOne.slots = 0) (hr_X7_readOne : rm_X7_readOne.frames + 1 ≤ R.frames ∧ 8 + (4 + 11) + rm_X7_readOne.locals ≤ R.locals) {x3 : Int32} {S0 : St} {S1 : St} {S2 : St} (hF : F_X7_readOne_43 f_X7_readCond f_X7_readOne x3 S0 S1 S2 = some (T0, T1)) {H : Heap} {locs : List Loc} (hP : va_P D vwCl (fl [g7 q o0 a0 S0, g5 q o1 a1 tp S1, g8 q o2 a2 S2]) H) (hD : va_D A (fl [g7 q o0 a0 S0, g5 q o1 a1 tp S1, g8 q o2 a2 S2])) (hS : va_S A s.heap H locs) {ls : Array Slot} (hl : lv_has ls 4 [(0, .ref o0), (1, .ref o1), (2, .ref o2), (3, .int x3)]) : W p l e R s m args below meth c H locs 0 0 (MQ below (QV D A (fl [g7 q o0 a0 T0, g5 q o1 a1 tp T1, g8 q o2 a2 S2])) args s 0 0 A) (F0 m 43 ls []) := by
  unfold F_X7_readOne_43 at hF
  obtain ⟨hx, hb, hr, hml, hown, hts, hlk, hA, hK, hN, hV⟩ := id C
  refine lv_aload_n hx hb dX7_readOne_43 rfl (lv_at hl 1 rfl) ?_
  refine lv_iconst (v := (4 : Int32)) hx hb dX7_readOne_44 (by decide) ?_
  obtain ⟨U2, hc1, hF⟩ := ob1_s hF
  refine k_vgrp (gs8 := [g7 q o0 a0 S0, g5 q o1 a1 tp U2, g8 q o2 a2 S2]) C (k_rV (As := [.int (4 : Int32)]) (rest := []) C (c_X5_fail l D q tp o1 a1 S1 _ (4 : Int32) hc1) kc_X5_fail ml_X7_73 rfl rfl ⟨Nat.le_trans (Nat.le_of_ble_eq_true rfl) hR0.1, Nat.le_trans (Nat.le_of_ble_eq_true rfl) hR0.2⟩ (flP hP [1] rfl) (flD hD [1] (by decide) rfl) hS (va_recv hK hP (ci := 5) (q0 := 4) rfl rfl) rfl hl.1 rfl (Nat.le_of_ble_eq_true rfl) dX7_readOne_45 ⟨Nat.zero_le _, Nat.zero_le _⟩) hP hD hS [1] [0, 2] [g7 q o0 a0 S0, g8 q o2 a2 S2] 3 (by decide) rfl rfl rfl rfl rfl rfl (by simp only [List.map_cons, List.map_nil, gad5, gad7, gad8]) (fun H locs hP hD hS => ?_)
  exact b_X7_readOne_48 C hR0 hm_X7_readCond hz_X7_readCond hr_X7_readCond hm_X7_readOne hz_X7_readOne hr_X7_readOne hF hP hD hS (lv_sub hl [0, 1, 2, 3] rfl)
set_option maxRecDepth 100000 in
set_option maxHeartbeats 4000000 in
theorem b_X7_readOne_28 {p : Program} {l : Launch} {e : Env} {s : State} {m : MethodId} {args : Array Value} {below : List Frame} {meth : Method} {c : Code} {D : va_G} {q : Nat → ClassId} {A : Nat → Prop} {tp : Nat} {o0 : Nat} {a0 : Nat → Nat} {o1 : Nat} {a1 : Nat → Nat} {o2 : Nat} {a2 : Nat → Nat} {T0 : St} {T1 : St} (C : cx p s m args meth c cX7_readOne 4 none RX7 D q A) {R : Room} (hR0 : 3 ≤ R.frames ∧ 70 ≤ R.locals) {f_X7_readCond : St → St → St → Int32 → Option (St × St)} {rm_X7_readCond : Room} (hm_X7_readCond : ∀ (sz : Nat) (S0 S1 S2 : St) (x3 : Int32) (T0 T1 : St), f_X7_readCond S0 S1 S2 x3 = some (T0, T1) → Met l yX7_readCond (Cond.code yX7_readCond cX7_readCond 5 none :: TB) rm_X7_readCond (PC D q [.ref o0, .ref o1, .ref o2, .int x3] (fl [g7 q o0 a0 S0, g5 q o1 a1 tp S1, g8 q o2 a2 S2]) sz) (QV D (va_A (fl [g7 q o0 a0 S0, g5 q o1 a1 tp S1, g8 q o2 a2 S2]) sz) (fl [g7 q o0 a0 T0, g5 q o1 a1 tp T1, g8 q o2 a2 S2])) 0 0 (va_A (fl [g7 q o0 a0 S0, g5 q o1 a1 tp S1, g8 q o2 a2 S2]) sz)) (hz_X7_readCond : rm_X7_readCond.cells = 0 ∧ rm_X7_readCond.slots = 0) (hr_X7_readCond : rm_X7_readCond.frames + 1 ≤ R.frames ∧ 8 + (5 + 11) + rm_X7_readCond.locals ≤ R.locals) {f_X7_readOne : St → St → St → Int32 → Option (St × St)} {rm_X7_readOne : Room} (hm_X7_readOne : ∀ (sz : Nat) (S0 S1 S2 : St) (x3 : Int32) (T0 T1 : St), f_X7_readOne S0 S1 S2 x3 = some (T0, T1) → Met l yX7_readOne (Cond.code yX7_readOne cX7_readOne 4 none :: TB) rm_X7_readOne (PC D q [.ref o0, .ref o1, .ref o2, .int x3] (fl [g7 q o0 a0 S0, g5 q o1 a1 tp S1, g8 q o2 a2 S2]) sz) (QV D (va_A (fl [g7 q o0 a0 S0, g5 q o1 a1 tp S1, g8 q o2 a2 S2]) sz) (fl [g7 q o0 a0 T0, g5 q o1 a1 tp T1, g8 q o2 a2 S2])) 0 0 (va_A (fl [g7 q o0 a0 S0, g5 q o1 a1 tp S1, g8 q o2 a2 S2]) sz)) (hz_X7_readOne : rm_X7_readOne.cells = 0 ∧ rm_X7_readOne.slots = 0) (hr_X7_readOne : rm_X7_readOne.frames + 1 ≤ R.frames ∧ 8 + (4 + 11) + rm_X7_readOne.locals ≤ R.locals) {x3 : Int32} {S0 : St} {S1 : St} {S2 : St} (hF : F_X7_readOne_28 f_X7_readCond f_X7_readOne x3 S0 S1 S2 = some (T0, T1)) {H : Heap} {locs : List Loc} (hP : va_P D vwCl (fl [g7 q o0 a0 S0, g5 q o1 a1 tp S1, g8 q o2 a2 S2]) H) (hD : va_D A (fl [g7 q o0 a0 S0, g5 q o1 a1 tp S1, g8 q o2 a2 S2])) (hS : va_S A s.heap H locs) {ls : Array Slot} (hl : lv_has ls 4 [(0, .ref o0), (1, .ref o1), (2, .ref o2), (3, .int x3)]) : W p l e R s m args below meth c H locs 0 0 (MQ below (QV D A (fl [g7 q o0 a0 T0, g5 q o1 a1 tp T1, g8 q o2 a2 S2])) args s 0 0 A) (F0 m 28 ls []) := by
  unfold F_X7_readOne_28 at hF
  obtain ⟨hx, hb, hr, hml, hown, hts, hlk, hA, hK, hN, hV⟩ := id C
  refine lv_aload_n hx hb dX7_readOne_28 rfl (lv_at hl 0 rfl) ?_
  refine k_get (v := .int (S0.1 4)) C fg_X7_25 hP 0 rfl rfl dX7_readOne_29 ?_
  refine lv_bipush (v := (20 : Int32)) hx hb dX7_readOne_32 (by decide) ?_
  refine lv_icmp_ge (tgt := 43) hx hb dX7_readOne_34 (by decide) (fun c1 => ?_) (fun c1 => ?_)
  · have hF := op_t hF c1
    exact b_X7_readOne_43 C hR0 hm_X7_readCond hz_X7_readCond hr_X7_readCond hm_X7_readOne hz_X7_readOne hr_X7_readOne hF hP hD hS (lv_sub hl [0, 1, 2, 3] rfl)
  · have hF := op_f hF c1
    refine lv_iload_n hx hb dX7_readOne_37 rfl (lv_at hl 3 rfl) ?_
    refine lv_bipush (v := (8 : Int32)) hx hb dX7_readOne_38 (by decide) ?_
    refine lv_icmp_le (tgt := 48) hx hb dX7_readOne_40 (by decide) (fun c2 => ?_) (fun c2 => ?_)
    · have hF := op_t hF c2
      exact b_X7_readOne_48 C hR0 hm_X7_readCond hz_X7_readCond hr_X7_readCond hm_X7_readOne hz_X7_readOne hr_X7_readOne hF hP hD hS (lv_sub hl [0, 1, 2, 3] rfl)
    · have hF := op_f hF c2
      exact b_X7_readOne_43 C hR0 hm_X7_readCond hz_X7_readCond hr_X7_readCond hm_X7_readOne hz_X7_readOne hr_X7_readOne hF hP hD hS (lv_sub hl [0, 1, 2, 3] rfl)
set_option maxRecDepth 100000 in
set_option maxHeartbeats 4000000 in
theorem c_X7_readOne (l : Launch) (D : va_G) (q : Nat → ClassId) (tp : Nat) (o0 : Nat) (a0 : Nat → Nat) (S0 : St) (o1 : Nat) (a1 : Nat → Nat) (S1 : St) (o2 : Nat) (a2 : Nat → Nat) (S2 : St) (sz : Nat) (x3 : Int32) {T0 : St} {T1 : St} {R : Room} (hR0 : 3 ≤ R.frames ∧ 70 ≤ R.locals) {f_X7_readCond : St → St → St → Int32 → Option (St × St)} {rm_X7_readCond : Room} (hm_X7_readCond : ∀ (sz : Nat) (S0 S1 S2 : St) (x3 : Int32) (T0 T1 : St), f_X7_readCond S0 S1 S2 x3 = some (T0, T1) → Met l yX7_readCond (Cond.code yX7_readCond cX7_readCond 5 none :: TB) rm_X7_readCond (PC D q [.ref o0, .ref o1, .ref o2, .int x3] (fl [g7 q o0 a0 S0, g5 q o1 a1 tp S1, g8 q o2 a2 S2]) sz) (QV D (va_A (fl [g7 q o0 a0 S0, g5 q o1 a1 tp S1, g8 q o2 a2 S2]) sz) (fl [g7 q o0 a0 T0, g5 q o1 a1 tp T1, g8 q o2 a2 S2])) 0 0 (va_A (fl [g7 q o0 a0 S0, g5 q o1 a1 tp S1, g8 q o2 a2 S2]) sz)) (hz_X7_readCond : rm_X7_readCond.cells = 0 ∧ rm_X7_readCond.slots = 0) (hr_X7_readCond : rm_X7_readCond.frames + 1 ≤ R.frames ∧ 8 + (5 + 11) + rm_X7_readCond.locals ≤ R.locals) {f_X7_readOne : St → St → St → Int32 → Option (St × St)} {rm_X7_readOne : Room} (hm_X7_readOne : ∀ (sz : Nat) (S0 S1 S2 : St) (x3 : Int32) (T0 T1 : St), f_X7_readOne S0 S1 S2 x3 = some (T0, T1) → Met l yX7_readOne (Cond.code yX7_readOne cX7_readOne 4 none :: TB) rm_X7_readOne (PC D q [.ref o0, .ref o1, .ref o2, .int x3] (fl [g7 q o0 a0 S0, g5 q o1 a1 tp S1, g8 q o2 a2 S2]) sz) (QV D (va_A (fl [g7 q o0 a0 S0, g5 q o1 a1 tp S1, g8 q o2 a2 S2]) sz) (fl [g7 q o0 a0 T0, g5 q o1 a1 tp T1, g8 q o2 a2 S2])) 0 0 (va_A (fl [g7 q o0 a0 S0, g5 q o1 a1 tp S1, g8 q o2 a2 S2]) sz)) (hz_X7_readOne : rm_X7_readOne.cells = 0 ∧ rm_X7_readOne.slots = 0) (hr_X7_readOne : rm_X7_readOne.frames + 1 ≤ R.frames ∧ 8 + (4 + 11) + rm_X7_readOne.locals ≤ R.locals) (hF : F_X7_readOne f_X7_readCond f_X7_readOne S0 S1 S2 x3 = some (T0, T1)) : Met l yX7_readOne (Cond.code yX7_readOne cX7_readOne 4 none :: TB) R (PC D q [.ref o0, .ref o1, .ref o2, .int x3] (fl [g7 q o0 a0 S0, g5 q o1 a1 tp S1, g8 q o2 a2 S2]) sz) ((fun A => QV D A (fl [g7 q o0 a0 T0, g5 q o1 a1 tp T1, g8 q o2 a2 S2])) (va_A (fl [g7 q o0 a0 S0, g5 q o1 a1 tp S1, g8 q o2 a2 S2]) sz)) 0 0 (va_A (fl [g7 q o0 a0 S0, g5 q o1 a1 tp S1, g8 q o2 a2 S2]) sz) := by
  refine k_met (w0 := fl [g7 q o0 a0 S0, g5 q o1 a1 tp S1, g8 q o2 a2 S2]) (Q := fun A => QV D A (fl [g7 q o0 a0 T0, g5 q o1 a1 tp T1, g8 q o2 a2 S2])) (by decide +kernel) (Nat.le_of_ble_eq_true rfl) ?_
  intro p e s m args below meth c A ls C hP hD hS hl
  have hl : lv_has ls 4 [(0, .ref o0), (1, .ref o1), (2, .ref o2), (3, .int x3)] := hl
  unfold F_X7_readOne at hF
  have C : cx p s m args meth c cX7_readOne 4 none RX7 D q A := C
  obtain ⟨hx, hb, hr, hml, hown, hts, hlk, hA, hK, hN, hV⟩ := id C
  refine lv_aload_n hx hb dX7_readOne_0 rfl (lv_at hl 1 rfl) ?_
  refine lv_bipush (v := (40 : Int32)) hx hb dX7_readOne_1 (by decide) ?_
  obtain ⟨r2, hc1, hF⟩ := ob1_s hF
  refine k_iro C (k_rV (As := [.int (40 : Int32)]) (rest := []) C (c_X5_isMark l D q tp o1 a1 S1 _ (40 : Int32) hc1) kc_X5_isMark ml_X7_65 rfl rfl ⟨Nat.le_trans (Nat.le_of_ble_eq_true rfl) hR0.1, Nat.le_trans (Nat.le_of_ble_eq_true rfl) hR0.2⟩ (flP hP [1] rfl) (flD hD [1] (by decide) rfl) hS (va_recv hK hP (ci := 5) (q0 := 4) rfl rfl) rfl hl.1 rfl (Nat.le_of_ble_eq_true rfl) dX7_readOne_3 ⟨Nat.zero_le _, Nat.zero_le _⟩) hP hD hS [1] [0, 2] [g7 q o0 a0 S0, g8 q o2 a2 S2] 3 (by decide) rfl rfl rfl rfl (fun H locs hP hD hS => ?_)
  refine lv_if_ne (tgt := 28) hx hb dX7_readOne_6 (by decide) (fun c3 => ?_) (fun c3 => ?_)
  · have hF := op_f hF c3
    exact b_X7_readOne_28 C hR0 hm_X7_readCond hz_X7_readCond hr_X7_readCond hm_X7_readOne hz_X7_readOne hr_X7_readOne hF hP hD hS (lv_sub hl [0, 1, 2, 3] rfl)
  · have hF := op_t hF c3
    refine lv_aload_n hx hb dX7_readOne_9 rfl (lv_at hl 1 rfl) ?_
    refine lv_bipush (v := (26 : Int32)) hx hb dX7_readOne_10 (by decide) ?_
    refine lv_bipush (v := (10 : Int32)) hx hb dX7_readOne_12 (by decide) ?_
    obtain ⟨r5, hc4, hF⟩ := ob1_s hF
    refine k_iro C (k_rV (As := [.int (26 : Int32), .int (10 : Int32)]) (rest := []) C (c_X5_isWordFrom l D q tp o1 a1 S1 _ (26 : Int32) (10 : Int32) hc4) kc_X5_isWordFrom ml_X7_69 rfl rfl ⟨Nat.le_trans (Nat.le_of_ble_eq_true rfl) hR0.1, Nat.le_trans (Nat.le_of_ble_eq_true rfl) hR0.2⟩ (flP hP [1] rfl) (flD hD [1] (by decide) rfl) hS (va_recv hK hP (ci := 5) (q0 := 4) rfl rfl) rfl hl.1 rfl (Nat.le_of_ble_eq_true rfl) dX7_readOne_14 ⟨Nat.zero_le _, Nat.zero_le _⟩) hP hD hS [1] [0, 2] [g7 q o0 a0 S0, g8 q o2 a2 S2] 3 (by decide) rfl rfl rfl rfl (fun H locs hP hD hS => ?_)
    refine lv_if_ne (tgt := 28) hx hb dX7_readOne_17 (by decide) (fun c6 => ?_) (fun c6 => ?_)
    · have hF := op_f hF c6
      exact b_X7_readOne_28 C hR0 hm_X7_readCond hz_X7_readCond hr_X7_readCond hm_X7_readOne hz_X7_readOne hr_X7_readOne hF hP hD hS (lv_sub hl [0, 1, 2, 3] rfl)
    · have hF := op_t hF c6
      refine lv_aload_n hx hb dX7_readOne_20 rfl (lv_at hl 1 rfl) ?_
      refine lv_iconst (v := (1 : Int32)) hx hb dX7_readOne_21 (by decide) ?_
      obtain ⟨U8, hc7, hF⟩ := ob1_s hF
      refine k_vgrp (gs8 := [g7 q o0 a0 S0, g5 q o1 a1 tp U8, g8 q o2 a2 S2]) C (k_rV (As := [.int (1 : Int32)]) (rest := []) C (c_X5_fail l D q tp o1 a1 S1 _ (1 : Int32) hc7) kc_X5_fail ml_X7_73 rfl rfl ⟨Nat.le_trans (Nat.le_of_ble_eq_true rfl) hR0.1, Nat.le_trans (Nat.le_of_ble_eq_true rfl) hR0.2⟩ (flP hP [1] rfl) (flD hD [1] (by decide) rfl) hS (va_recv hK hP (ci := 5) (q0 := 4) rfl rfl) rfl hl.1 rfl (Nat.le_of_ble_eq_true rfl) dX7_readOne_22 ⟨Nat.zero_le _, Nat.zero_le _⟩) hP hD hS [1] [0, 2] [g7 q o0 a0 S0, g8 q o2 a2 S2] 3 (by decide) rfl rfl rfl rfl rfl rfl (by simp only [List.map_cons, List.map_nil, gad5, gad7, gad8]) (fun H locs hP hD hS => ?_)
      refine lv_goto (tgt := 48) hx hb dX7_readOne_25 (by decide) ?_
      exact b_X7_readOne_48 C hR0 hm_X7_readCond hz_X7_readCond hr_X7_readCond hm_X7_readOne hz_X7_readOne hr_X7_readOne hF hP hD hS (lv_sub hl [0, 1, 2, 3] rfl)

abbrev rm_X7_readAll : Room := ({ frames := 2, cells := 0, slots := 0, locals := 43 } : Room)
def F_X7_readAll_10 (f_X7_readOne : St → St → St → Int32 → Option (St × St)) (k10 : Int32 × Int32 × St × St × St → Option (St × St)) (x3 : Int32) (x4 : Int32) (S0 : St) (S1 : St) (S2 : St) : Option (St × St) := if (20 : Int32) ≤ x4 then (some (S0, S1)) else (ob2 (F_X5_takeWord S1 (25 : Int32)) fun r3 U4 => if r3 = 0 then (some (S0, U4)) else (ob2 (f_X7_readOne S0 U4 S2 x3) fun U7 U8 => ob1 (F_X7_addStep U7 (25 : Int32) (0 : Int32) (0 : Int32)) fun U10 => k10 (x3, (x4 + 1), U10, U8, S2)))
def L_X7_readAll_10 (f_X7_readOne : St → St → St → Int32 → Option (St × St)) (x3 : Int32) (x4 : Int32) (S0 : St) (S1 : St) (S2 : St) : Option (St × St) := lp (fun kz z => F_X7_readAll_10 f_X7_readOne kz z.1 z.2.1 z.2.2.1 z.2.2.2.1 z.2.2.2.2) FU (x3, x4, S0, S1, S2)
def F_X7_readAll (f_X7_readOne : St → St → St → Int32 → Option (St × St)) (S0 : St) (S1 : St) (S2 : St) (x3 : Int32) : Option (St × St) := ob2 (f_X7_readOne S0 S1 S2 x3) fun U2 U3 => L_X7_readAll_10 f_X7_readOne x3 (0 : Int32) U2 U3 S2
set_option maxRecDepth 100000 in
set_option maxHeartbeats 4000000 in
theorem b_X7_readAll_10 {p : Program} {l : Launch} {e : Env} {s : State} {m : MethodId} {args : Array Value} {below : List Frame} {meth : Method} {c : Code} {D : va_G} {q : Nat → ClassId} {A : Nat → Prop} {tp : Nat} {o0 : Nat} {a0 : Nat → Nat} {o1 : Nat} {a1 : Nat → Nat} {o2 : Nat} {a2 : Nat → Nat} {T0 : St} {T1 : St} (C : cx p s m args meth c cX7_readAll 5 none RX7 D q A) {R : Room} (hR0 : 2 ≤ R.frames ∧ 43 ≤ R.locals) {f_X7_readOne : St → St → St → Int32 → Option (St × St)} {rm_X7_readOne : Room} (hm_X7_readOne : ∀ (sz : Nat) (S0 S1 S2 : St) (x3 : Int32) (T0 T1 : St), f_X7_readOne S0 S1 S2 x3 = some (T0, T1) → Met l yX7_readOne (Cond.code yX7_readOne cX7_readOne 4 none :: TB) rm_X7_readOne (PC D q [.ref o0, .ref o1, .ref o2, .int x3] (fl [g7 q o0 a0 S0, g5 q o1 a1 tp S1, g8 q o2 a2 S2]) sz) (QV D (va_A (fl [g7 q o0 a0 S0, g5 q o1 a1 tp S1, g8 q o2 a2 S2]) sz) (fl [g7 q o0 a0 T0, g5 q o1 a1 tp T1, g8 q o2 a2 S2])) 0 0 (va_A (fl [g7 q o0 a0 S0, g5 q o1 a1 tp S1, g8 q o2 a2 S2]) sz)) (hz_X7_readOne : rm_X7_readOne.cells = 0 ∧ rm_X7_readOne.slots = 0) (hr_X7_readOne : rm_X7_readOne.frames + 1 ≤ R.frames ∧ 8 + (4 + 11) + rm_X7_readOne.locals ≤ R.locals) {k10 : Int32 × Int32 × St × St × St → Option (St × St)} (hk10 : ∀ (x3 : Int32) (x4 : Int32) (S0 : St) (S1 : St) (S2 : St), k10 (x3, x4, S0, S1, S2) = some (T0, T1) → ∀ (H : Heap) (locs : List Loc) (ls : Array Slot), va_P D vwCl (fl [g7 q o0 a0 S0, g5 q o1 a1 tp S1, g8 q o2 a2 S2]) H → va_D A (fl [g7 q o0 a0 S0, g5 q o1 a1 tp S1, g8 q o2 a2 S2]) → va_S A s.heap H locs → lv_has ls 5 [(0, .ref o0), (1, .ref o1), (2, .ref o2), (3, .int x3), (4, .int x4)] → W p l e R s m args below meth c H locs 0 0 (MQ below (QV D A (fl [g7 q o0 a0 T0, g5 q o1 a1 tp T1, g8 q o2 a2 S2])) args s 0 0 A) (F0 m 10 ls [])) {x3 : Int32} {x4 : Int32} {S0 : St} {S1 : St} {S2 : St} (hF : F_X7_readAll_10 f_X7_readOne k10 x3 x4 S0 S1 S2 = some (T0, T1)) {H : Heap} {locs : List Loc} (hP : va_P D vwCl (fl [g7 q o0 a0 S0, g5 q o1 a1 tp S1, g8 q o2 a2 S2]) H) (hD : va_D A (fl [g7 q o0 a0 S0, g5 q o1 a1 tp S1, g8 q o2 a2 S2])) (hS : va_S A s.heap H locs) {ls : Array Slot} (hl : lv_has ls 5 [(0, .ref o0), (1, .ref o1), (2, .ref o2), (3, .int x3), (4, .int x4)]) : W p l e R s m args below meth c H locs 0 0 (MQ below (QV D A (fl [g7 q o0 a0 T0, g5 q o1 a1 tp T1, g8 q o2 a2 S2])) args s 0 0 A) (F0 m 10 ls []) := by
  unfold F_X7_readAll_10 at hF
  obtain ⟨hx, hb, hr, hml, hown, hts, hlk, hA, hK, hN, hV⟩ := id C
  refine lv_iload hx hb dX7_readAll_10 (lv_at hl 4 rfl) ?_
  refine lv_bipush (v := (20 : Int32)) hx hb dX7_readAll_12 (by decide) ?_
  refine lv_icmp_ge (tgt := 47) hx hb dX7_readAll_14 (by decide) (fun c1 => ?_) (fun c1 => ?_)
  · have hF := op_t hF c1
    cases hF
    exact k_vret C hP hS dX7_readAll_47
  · have hF := op_f hF c1
    refine lv_aload_n hx hb dX7_readAll_17 rfl (lv_at hl 1 rfl) ?_
    refine lv_bipush (v := (25 : Int32)) hx hb dX7_readAll_18 (by decide) ?_
    obtain ⟨r3, U4, hc2, hF⟩ := ob2_s hF
    refine k_igrp (gs8 := [g7 q o0 a0 S0, g5 q o1 a1 tp U4, g8 q o2 a2 S2]) C (k_rV (As := [.int (25 : Int32)]) (rest := []) C (c_X5_takeWord l D q tp o1 a1 S1 _ (25 : Int32) hc2) kc_X5_takeWord ml_X7_54 rfl rfl ⟨Nat.le_trans (Nat.le_of_ble_eq_true rfl) hR0.1, Nat.le_trans (Nat.le_of_ble_eq_true rfl) hR0.2⟩ (flP hP [1] rfl) (flD hD [1] (by decide) rfl) hS (va_recv hK hP (ci := 5) (q0 := 4) rfl rfl) rfl hl.1 rfl (Nat.le_of_ble_eq_true rfl) dX7_readAll_20 ⟨Nat.zero_le _, Nat.zero_le _⟩) hP hD hS [1] [0, 2] [g7 q o0 a0 S0, g8 q o2 a2 S2] 3 (by decide) rfl rfl rfl rfl rfl rfl (by simp only [List.map_cons, List.map_nil, gad5, gad7, gad8]) (fun H locs hP hD hS => ?_)
    refine lv_if_eq (tgt := 47) hx hb dX7_readAll_23 (by decide) (fun c5 => ?_) (fun c5 => ?_)
    · have hF := op_t hF c5
      cases hF
      exact k_vret C hP hS dX7_readAll_47
    · have hF := op_f hF c5
      refine lv_aload_n hx hb dX7_readAll_26 rfl (lv_at hl 0 rfl) ?_
      refine lv_aload_n hx hb dX7_readAll_27 rfl (lv_at hl 1 rfl) ?_
      refine lv_aload_n hx hb dX7_readAll_28 rfl (lv_at hl 2 rfl) ?_
      refine lv_iload_n hx hb dX7_readAll_29 rfl (lv_at hl 3 rfl) ?_
      obtain ⟨U7, U8, hc6, hF⟩ := ob2_s hF
      refine k_vall C (k_rV (As := [.ref o1, .ref o2, .int x3]) (rest := []) C (hm_X7_readOne _ S0 U4 S2 x3 U7 U8 hc6) kc_X7_readOne ml_X7_62 hz_X7_readOne.1 hz_X7_readOne.2 hr_X7_readOne hP hD hS (va_recv hK hP (ci := 7) (q0 := 0) rfl rfl) rfl hl.1 rfl (Nat.le_of_ble_eq_true rfl) dX7_readAll_30 ⟨Nat.zero_le _, Nat.zero_le _⟩) hP hD hS (by simp only [List.map_cons, List.map_nil, gad5, gad7, gad8]) (fun H locs hP hD hS => ?_)
      refine lv_aload_n hx hb dX7_readAll_33 rfl (lv_at hl 0 rfl) ?_
      refine lv_bipush (v := (25 : Int32)) hx hb dX7_readAll_34 (by decide) ?_
      refine lv_iconst (v := (0 : Int32)) hx hb dX7_readAll_36 (by decide) ?_
      refine lv_iconst (v := (0 : Int32)) hx hb dX7_readAll_37 (by decide) ?_
      obtain ⟨U10, hc9, hF⟩ := ob1_s hF
      refine k_vgrp (gs8 := [g7 q o0 a0 U10, g5 q o1 a1 tp U8, g8 q o2 a2 S2]) C (k_rV (As := [.int (25 : Int32), .int (0 : Int32), .int (0 : Int32)]) (rest := []) C (c_X7_addStep l D q o0 a0 U7 _ (25 : Int32) (0 : Int32) (0 : Int32) hc9) kc_X7_addStep ml_X7_58 rfl rfl ⟨Nat.le_trans (Nat.le_of_ble_eq_true rfl) hR0.1, Nat.le_trans (Nat.le_of_ble_eq_true rfl) hR0.2⟩ (flP hP [0] rfl) (flD hD [0] (by decide) rfl) hS (va_recv hK hP (ci := 7) (q0 := 0) rfl rfl) rfl hl.1 rfl (Nat.le_of_ble_eq_true rfl) dX7_readAll_38 ⟨Nat.zero_le _, Nat.zero_le _⟩) hP hD hS [0] [1, 2] [g5 q o1 a1 tp U8, g8 q o2 a2 S2] 3 (by decide) rfl rfl rfl rfl rfl rfl (by simp only [List.map_cons, List.map_nil, gad5, gad7, gad8]) (fun H locs hP hD hS => ?_)
      refine lv_iinc (v := (x4 + 1)) (lv' := [(4, .int (x4 + 1)), (0, .ref o0), (1, .ref o1), (2, .ref o2), (3, .int x3)]) hx hb dX7_readAll_41 hl (k := 4) rfl rfl (by decide) rfl (fun ls hl => ?_)
      refine lv_goto (tgt := 10) hx hb dX7_readAll_44 (by decide) ?_
      exact hk10 x3 (x4 + 1) U10 U8 S2 hF _ _ _ hP hD hS (lv_sub hl [1, 2, 3, 4, 0] rfl)
set_option maxRecDepth 100000 in
set_option maxHeartbeats 4000000 in
theorem l_X7_readAll_10 {p : Program} {l : Launch} {e : Env} {s : State} {m : MethodId} {args : Array Value} {below : List Frame} {meth : Method} {c : Code} {D : va_G} {q : Nat → ClassId} {A : Nat → Prop} {tp : Nat} {o0 : Nat} {a0 : Nat → Nat} {o1 : Nat} {a1 : Nat → Nat} {o2 : Nat} {a2 : Nat → Nat} {T0 : St} {T1 : St} (C : cx p s m args meth c cX7_readAll 5 none RX7 D q A) {R : Room} (hR0 : 2 ≤ R.frames ∧ 43 ≤ R.locals) {f_X7_readOne : St → St → St → Int32 → Option (St × St)} {rm_X7_readOne : Room} (hm_X7_readOne : ∀ (sz : Nat) (S0 S1 S2 : St) (x3 : Int32) (T0 T1 : St), f_X7_readOne S0 S1 S2 x3 = some (T0, T1) → Met l yX7_readOne (Cond.code yX7_readOne cX7_readOne 4 none :: TB) rm_X7_readOne (PC D q [.ref o0, .ref o1, .ref o2, .int x3] (fl [g7 q o0 a0 S0, g5 q o1 a1 tp S1, g8 q o2 a2 S2]) sz) (QV D (va_A (fl [g7 q o0 a0 S0, g5 q o1 a1 tp S1, g8 q o2 a2 S2]) sz) (fl [g7 q o0 a0 T0, g5 q o1 a1 tp T1, g8 q o2 a2 S2])) 0 0 (va_A (fl [g7 q o0 a0 S0, g5 q o1 a1 tp S1, g8 q o2 a2 S2]) sz)) (hz_X7_readOne : rm_X7_readOne.cells = 0 ∧ rm_X7_readOne.slots = 0) (hr_X7_readOne : rm_X7_readOne.frames + 1 ≤ R.frames ∧ 8 + (4 + 11) + rm_X7_readOne.locals ≤ R.locals) {x3 : Int32} {x4 : Int32} {S0 : St} {S1 : St} {S2 : St} (hF : L_X7_readAll_10 f_X7_readOne x3 x4 S0 S1 S2 = some (T0, T1)) : ∀ (H : Heap) (locs : List Loc) (ls : Array Slot), va_P D vwCl (fl [g7 q o0 a0 S0, g5 q o1 a1 tp S1, g8 q o2 a2 S2]) H → va_D A (fl [g7 q o0 a0 S0, g5 q o1 a1 tp S1, g8 q o2 a2 S2]) → va_S A s.heap H locs → lv_has ls 5 [(0, .ref o0), (1, .ref o1), (2, .ref o2), (3, .int x3), (4, .int x4)] → W p l e R s m args below meth c H locs 0 0 (MQ below (QV D A (fl [g7 q o0 a0 T0, g5 q o1 a1 tp T1, g8 q o2 a2 S2])) args s 0 0 A) (F0 m 10 ls []) :=
  lp_G _ _ (fun z => ∀ (H : Heap) (locs : List Loc) (ls : Array Slot), va_P D vwCl (fl [g7 q o0 a0 z.2.2.1, g5 q o1 a1 tp z.2.2.2.1, g8 q o2 a2 z.2.2.2.2]) H → va_D A (fl [g7 q o0 a0 z.2.2.1, g5 q o1 a1 tp z.2.2.2.1, g8 q o2 a2 z.2.2.2.2]) → va_S A s.heap H locs → lv_has ls 5 [(0, .ref o0), (1, .ref o1), (2, .ref o2), (3, .int z.1), (4, .int z.2.1)] → W p l e R s m args below meth c H locs 0 0 (MQ below (QV D A (fl [g7 q o0 a0 T0, g5 q o1 a1 tp T1, g8 q o2 a2 z.2.2.2.2])) args s 0 0 A) (F0 m 10 ls [])) (fun kz hkz z hz H locs ls hP hD hS hl => b_X7_readAll_10 C hR0 hm_X7_readOne hz_X7_readOne hr_X7_readOne (fun x3 x4 S0 S1 S2 hz => hkz (x3, x4, S0, S1, S2) hz) hz hP hD hS hl) FU (x3, x4, S0, S1, S2) hF
set_option maxRecDepth 100000 in
set_option maxHeartbeats 4000000 in
theorem c_X7_readAll (l : Launch) (D : va_G) (q : Nat → ClassId) (tp : Nat) (o0 : Nat) (a0 : Nat → Nat) (S0 : St) (o1 : Nat) (a1 : Nat → Nat) (S1 : St) (o2 : Nat) (a2 : Nat → Nat) (S2 : St) (sz : Nat) (x3 : Int32) {T0 : St} {T1 : St} {R : Room} (hR0 : 2 ≤ R.frames ∧ 43 ≤ R.locals) {f_X7_readOne : St → St → St → Int32 → Option (St × St)} {rm_X7_readOne : Room} (hm_X7_readOne : ∀ (sz : Nat) (S0 S1 S2 : St) (x3 : Int32) (T0 T1 : St), f_X7_readOne S0 S1 S2 x3 = some (T0, T1) → Met l yX7_readOne (Cond.code yX7_readOne cX7_readOne 4 none :: TB) rm_X7_readOne (PC D q [.ref o0, .ref o1, .ref o2, .int x3] (fl [g7 q o0 a0 S0, g5 q o1 a1 tp S1, g8 q o2 a2 S2]) sz) (QV D (va_A (fl [g7 q o0 a0 S0, g5 q o1 a1 tp S1, g8 q o2 a2 S2]) sz) (fl [g7 q o0 a0 T0, g5 q o1 a1 tp T1, g8 q o2 a2 S2])) 0 0 (va_A (fl [g7 q o0 a0 S0, g5 q o1 a1 tp S1, g8 q o2 a2 S2]) sz)) (hz_X7_readOne : rm_X7_readOne.cells = 0 ∧ rm_X7_readOne.slots = 0) (hr_X7_readOne : rm_X7_readOne.frames + 1 ≤ R.frames ∧ 8 + (4 + 11) + rm_X7_readOne.locals ≤ R.locals) (hF : F_X7_readAll f_X7_readOne S0 S1 S2 x3 = some (T0, T1)) : Met l yX7_readAll (Cond.code yX7_readAll cX7_readAll 5 none :: TB) R (PC D q [.ref o0, .ref o1, .ref o2, .int x3] (fl [g7 q o0 a0 S0, g5 q o1 a1 tp S1, g8 q o2 a2 S2]) sz) ((fun A => QV D A (fl [g7 q o0 a0 T0, g5 q o1 a1 tp T1, g8 q o2 a2 S2])) (va_A (fl [g7 q o0 a0 S0, g5 q o1 a1 tp S1, g8 q o2 a2 S2]) sz)) 0 0 (va_A (fl [g7 q o0 a0 S0, g5 q o1 a1 tp S1, g8 q o2 a2 S2]) sz) := by
  refine k_met (w0 := fl [g7 q o0 a0 S0, g5 q o1 a1 tp S1, g8 q o2 a2 S2]) (Q := fun A => QV D A (fl [g7 q o0 a0 T0, g5 q o1 a1 tp T1, g8 q o2 a2 S2])) (by decide +kernel) (Nat.le_of_ble_eq_true rfl) ?_
  intro p e s m args below meth c A ls C hP hD hS hl
  have hl : lv_has ls 5 [(0, .ref o0), (1, .ref o1), (2, .ref o2), (3, .int x3)] := hl
  unfold F_X7_readAll at hF
  have C : cx p s m args meth c cX7_readAll 5 none RX7 D q A := C
  obtain ⟨hx, hb, hr, hml, hown, hts, hlk, hA, hK, hN, hV⟩ := id C
  refine lv_aload_n hx hb dX7_readAll_0 rfl (lv_at hl 0 rfl) ?_
  refine lv_aload_n hx hb dX7_readAll_1 rfl (lv_at hl 1 rfl) ?_
  refine lv_aload_n hx hb dX7_readAll_2 rfl (lv_at hl 2 rfl) ?_
  refine lv_iload_n hx hb dX7_readAll_3 rfl (lv_at hl 3 rfl) ?_
  obtain ⟨U2, U3, hc1, hF⟩ := ob2_s hF
  refine k_vall C (k_rV (As := [.ref o1, .ref o2, .int x3]) (rest := []) C (hm_X7_readOne _ S0 S1 S2 x3 U2 U3 hc1) kc_X7_readOne ml_X7_62 hz_X7_readOne.1 hz_X7_readOne.2 hr_X7_readOne hP hD hS (va_recv hK hP (ci := 7) (q0 := 0) rfl rfl) rfl hl.1 rfl (Nat.le_of_ble_eq_true rfl) dX7_readAll_4 ⟨Nat.zero_le _, Nat.zero_le _⟩) hP hD hS (by simp only [List.map_cons, List.map_nil, gad5, gad7, gad8]) (fun H locs hP hD hS => ?_)
  refine lv_iconst (v := (0 : Int32)) hx hb dX7_readAll_7 (by decide) ?_
  refine lv_istore (lv' := [(4, .int (0 : Int32)), (0, .ref o0), (1, .ref o1), (2, .ref o2), (3, .int x3)]) hx hb dX7_readAll_8 hl (by decide) rfl (fun ls hl => ?_)
  exact l_X7_readAll_10 C hR0 hm_X7_readOne hz_X7_readOne hr_X7_readOne hF _ _ _ hP hD hS (lv_sub hl [1, 2, 3, 4, 0] rfl)

abbrev rm_X7_readCond : Room := ({ frames := 2, cells := 0, slots := 0, locals := 43 } : Room)
def F_X7_readCond_10 (f_X7_readAll : St → St → St → Int32 → Option (St × St)) (k10 : Int32 × Int32 × St × St × St → Option (St × St)) (x3 : Int32) (x4 : Int32) (S0 : St) (S1 : St) (S2 : St) : Option (St × St) := if (20 : Int32) ≤ x4 then (some (S0, S1)) else (ob2 (F_X5_takeWord S1 (24 : Int32)) fun r3 U4 => if r3 = 0 then (some (S0, U4)) else (ob2 (f_X7_readAll S0 U4 S2 x3) fun U7 U8 => ob1 (F_X7_addStep U7 (24 : Int32) (0 : Int32) (0 : Int32)) fun U10 => k10 (x3, (x4 + 1), U10, U8, S2)))
def L_X7_readCond_10 (f_X7_readAll : St → St → St → Int32 → Option (St × St)) (x3 : Int32) (x4 : Int32) (S0 : St) (S1 : St) (S2 : St) : Option (St × St) := lp (fun kz z => F_X7_readCond_10 f_X7_readAll kz z.1 z.2.1 z.2.2.1 z.2.2.2.1 z.2.2.2.2) FU (x3, x4, S0, S1, S2)
def F_X7_readCond (f_X7_readAll : St → St → St → Int32 → Option (St × St)) (S0 : St) (S1 : St) (S2 : St) (x3 : Int32) : Option (St × St) := ob2 (f_X7_readAll S0 S1 S2 x3) fun U2 U3 => L_X7_readCond_10 f_X7_readAll x3 (0 : Int32) U2 U3 S2
set_option maxRecDepth 100000 in
set_option maxHeartbeats 4000000 in
theorem b_X7_readCond_10 {p : Program} {l : Launch} {e : Env} {s : State} {m : MethodId} {args : Array Value} {below : List Frame} {meth : Method} {c : Code} {D : va_G} {q : Nat → ClassId} {A : Nat → Prop} {tp : Nat} {o0 : Nat} {a0 : Nat → Nat} {o1 : Nat} {a1 : Nat → Nat} {o2 : Nat} {a2 : Nat → Nat} {T0 : St} {T1 : St} (C : cx p s m args meth c cX7_readCond 5 none RX7 D q A) {R : Room} (hR0 : 2 ≤ R.frames ∧ 43 ≤ R.locals) {f_X7_readAll : St → St → St → Int32 → Option (St × St)} {rm_X7_readAll : Room} (hm_X7_readAll : ∀ (sz : Nat) (S0 S1 S2 : St) (x3 : Int32) (T0 T1 : St), f_X7_readAll S0 S1 S2 x3 = some (T0, T1) → Met l yX7_readAll (Cond.code yX7_readAll cX7_readAll 5 none :: TB) rm_X7_readAll (PC D q [.ref o0, .ref o1, .ref o2, .int x3] (fl [g7 q o0 a0 S0, g5 q o1 a1 tp S1, g8 q o2 a2 S2]) sz) (QV D (va_A (fl [g7 q o0 a0 S0, g5 q o1 a1 tp S1, g8 q o2 a2 S2]) sz) (fl [g7 q o0 a0 T0, g5 q o1 a1 tp T1, g8 q o2 a2 S2])) 0 0 (va_A (fl [g7 q o0 a0 S0, g5 q o1 a1 tp S1, g8 q o2 a2 S2]) sz)) (hz_X7_readAll : rm_X7_readAll.cells = 0 ∧ rm_X7_readAll.slots = 0) (hr_X7_readAll : rm_X7_readAll.frames + 1 ≤ R.frames ∧ 8 + (5 + 11) + rm_X7_readAll.locals ≤ R.locals) {k10 : Int32 × Int32 × St × St × St → Option (St × St)} (hk10 : ∀ (x3 : Int32) (x4 : Int32) (S0 : St) (S1 : St) (S2 : St), k10 (x3, x4, S0, S1, S2) = some (T0, T1) → ∀ (H : Heap) (locs : List Loc) (ls : Array Slot), va_P D vwCl (fl [g7 q o0 a0 S0, g5 q o1 a1 tp S1, g8 q o2 a2 S2]) H → va_D A (fl [g7 q o0 a0 S0, g5 q o1 a1 tp S1, g8 q o2 a2 S2]) → va_S A s.heap H locs → lv_has ls 5 [(0, .ref o0), (1, .ref o1), (2, .ref o2), (3, .int x3), (4, .int x4)] → W p l e R s m args below meth c H locs 0 0 (MQ below (QV D A (fl [g7 q o0 a0 T0, g5 q o1 a1 tp T1, g8 q o2 a2 S2])) args s 0 0 A) (F0 m 10 ls [])) {x3 : Int32} {x4 : Int32} {S0 : St} {S1 : St} {S2 : St} (hF : F_X7_readCond_10 f_X7_readAll k10 x3 x4 S0 S1 S2 = some (T0, T1)) {H : Heap} {locs : List Loc} (hP : va_P D vwCl (fl [g7 q o0 a0 S0, g5 q o1 a1 tp S1, g8 q o2 a2 S2]) H) (hD : va_D A (fl [g7 q o0 a0 S0, g5 q o1 a1 tp S1, g8 q o2 a2 S2])) (hS : va_S A s.heap H locs) {ls : Array Slot} (hl : lv_has ls 5 [(0, .ref o0), (1, .ref o1), (2, .ref o2), (3, .int x3), (4, .int x4)]) : W p l e R s m args below meth c H locs 0 0 (MQ below (QV D A (fl [g7 q o0 a0 T0, g5 q o1 a1 tp T1, g8 q o2 a2 S2])) args s 0 0 A) (F0 m 10 ls []) := by
  unfold F_X7_readCond_10 at hF
  obtain ⟨hx, hb, hr, hml, hown, hts, hlk, hA, hK, hN, hV⟩ := id C
  refine lv_iload hx hb dX7_readCond_10 (lv_at hl 4 rfl) ?_
  refine lv_bipush (v := (20 : Int32)) hx hb dX7_readCond_12 (by decide) ?_
  refine lv_icmp_ge (tgt := 47) hx hb dX7_readCond_14 (by decide) (fun c1 => ?_) (fun c1 => ?_)
  · have hF := op_t hF c1
    cases hF
    exact k_vret C hP hS dX7_readCond_47
  · have hF := op_f hF c1
    refine lv_aload_n hx hb dX7_readCond_17 rfl (lv_at hl 1 rfl) ?_
    refine lv_bipush (v := (24 : Int32)) hx hb dX7_readCond_18 (by decide) ?_
    obtain ⟨r3, U4, hc2, hF⟩ := ob2_s hF
    refine k_igrp (gs8 := [g7 q o0 a0 S0, g5 q o1 a1 tp U4, g8 q o2 a2 S2]) C (k_rV (As := [.int (24 : Int32)]) (rest := []) C (c_X5_takeWord l D q tp o1 a1 S1 _ (24 : Int32) hc2) kc_X5_takeWord ml_X7_54 rfl rfl ⟨Nat.le_trans (Nat.le_of_ble_eq_true rfl) hR0.1, Nat.le_trans (Nat.le_of_ble_eq_true rfl) hR0.2⟩ (flP hP [1] rfl) (flD hD [1] (by decide) rfl) hS (va_recv hK hP (ci := 5) (q0 := 4) rfl rfl) rfl hl.1 rfl (Nat.le_of_ble_eq_true rfl) dX7_readCond_20 ⟨Nat.zero_le _, Nat.zero_le _⟩) hP hD hS [1] [0, 2] [g7 q o0 a0 S0, g8 q o2 a2 S2] 3 (by decide) rfl rfl rfl rfl rfl rfl (by simp only [List.map_cons, List.map_nil, gad5, gad7, gad8]) (fun H locs hP hD hS => ?_)
    refine lv_if_eq (tgt := 47) hx hb dX7_readCond_23 (by decide) (fun c5 => ?_) (fun c5 => ?_)
    · have hF := op_t hF c5
      cases hF
      exact k_vret C hP hS dX7_readCond_47
    · have hF := op_f hF c5
      refine lv_aload_n hx hb dX7_readCond_26 rfl (lv_at hl 0 rfl) ?_
      refine lv_aload_n hx hb dX7_readCond_27 rfl (lv_at hl 1 rfl) ?_
      refine lv_aload_n hx hb dX7_readCond_28 rfl (lv_at hl 2 rfl) ?_
      refine lv_iload_n hx hb dX7_readCond_29 rfl (lv_at hl 3 rfl) ?_
      obtain ⟨U7, U8, hc6, hF⟩ := ob2_s hF
      refine k_vall C (k_rV (As := [.ref o1, .ref o2, .int x3]) (rest := []) C (hm_X7_readAll _ S0 U4 S2 x3 U7 U8 hc6) kc_X7_readAll ml_X7_51 hz_X7_readAll.1 hz_X7_readAll.2 hr_X7_readAll hP hD hS (va_recv hK hP (ci := 7) (q0 := 0) rfl rfl) rfl hl.1 rfl (Nat.le_of_ble_eq_true rfl) dX7_readCond_30 ⟨Nat.zero_le _, Nat.zero_le _⟩) hP hD hS (by simp only [List.map_cons, List.map_nil, gad5, gad7, gad8]) (fun H locs hP hD hS => ?_)
      refine lv_aload_n hx hb dX7_readCond_33 rfl (lv_at hl 0 rfl) ?_
      refine lv_bipush (v := (24 : Int32)) hx hb dX7_readCond_34 (by decide) ?_
      refine lv_iconst (v := (0 : Int32)) hx hb dX7_readCond_36 (by decide) ?_
      refine lv_iconst (v := (0 : Int32)) hx hb dX7_readCond_37 (by decide) ?_
      obtain ⟨U10, hc9, hF⟩ := ob1_s hF
      refine k_vgrp (gs8 := [g7 q o0 a0 U10, g5 q o1 a1 tp U8, g8 q o2 a2 S2]) C (k_rV (As := [.int (24 : Int32), .int (0 : Int32), .int (0 : Int32)]) (rest := []) C (c_X7_addStep l D q o0 a0 U7 _ (24 : Int32) (0 : Int32) (0 : Int32) hc9) kc_X7_addStep ml_X7_58 rfl rfl ⟨Nat.le_trans (Nat.le_of_ble_eq_true rfl) hR0.1, Nat.le_trans (Nat.le_of_ble_eq_true rfl) hR0.2⟩ (flP hP [0] rfl) (flD hD [0] (by decide) rfl) hS (va_recv hK hP (ci := 7) (q0 := 0) rfl rfl) rfl hl.1 rfl (Nat.le_of_ble_eq_true rfl) dX7_readCond_38 ⟨Nat.zero_le _, Nat.zero_le _⟩) hP hD hS [0] [1, 2] [g5 q o1 a1 tp U8, g8 q o2 a2 S2] 3 (by decide) rfl rfl rfl rfl rfl rfl (by simp only [List.map_cons, List.map_nil, gad5, gad7, gad8]) (fun H locs hP hD hS => ?_)
      refine lv_iinc (v := (x4 + 1)) (lv' := [(4, .int (x4 + 1)), (0, .ref o0), (1, .ref o1), (2, .ref o2), (3, .int x3)]) hx hb dX7_readCond_41 hl (k := 4) rfl rfl (by decide) rfl (fun ls hl => ?_)
      refine lv_goto (tgt := 10) hx hb dX7_readCond_44 (by decide) ?_
      exact hk10 x3 (x4 + 1) U10 U8 S2 hF _ _ _ hP hD hS (lv_sub hl [1, 2, 3, 4, 0] rfl)
set_option maxRecDepth 100000 in
set_option maxHeartbeats 4000000 in
theorem l_X7_readCond_10 {p : Program} {l : Launch} {e : Env} {s : State} {m : MethodId} {args : Array Value} {below : List Frame} {meth : Method} {c : Code} {D : va_G} {q : Nat → ClassId} {A : Nat → Prop} {tp : Nat} {o0 : Nat} {a0 : Nat → Nat} {o1 : Nat} {a1 : Nat → Nat} {o2 : Nat} {a2 : Nat → Nat} {T0 : St} {T1 : St} (C : cx p s m args meth c cX7_readCond 5 none RX7 D q A) {R : Room} (hR0 : 2 ≤ R.frames ∧ 43 ≤ R.locals) {f_X7_readAll : St → St → St → Int32 → Option (St × St)} {rm_X7_readAll : Room} (hm_X7_readAll : ∀ (sz : Nat) (S0 S1 S2 : St) (x3 : Int32) (T0 T1 : St), f_X7_readAll S0 S1 S2 x3 = some (T0, T1) → Met l yX7_readAll (Cond.code yX7_readAll cX7_readAll 5 none :: TB) rm_X7_readAll (PC D q [.ref o0, .ref o1, .ref o2, .int x3] (fl [g7 q o0 a0 S0, g5 q o1 a1 tp S1, g8 q o2 a2 S2]) sz) (QV D (va_A (fl [g7 q o0 a0 S0, g5 q o1 a1 tp S1, g8 q o2 a2 S2]) sz) (fl [g7 q o0 a0 T0, g5 q o1 a1 tp T1, g8 q o2 a2 S2])) 0 0 (va_A (fl [g7 q o0 a0 S0, g5 q o1 a1 tp S1, g8 q o2 a2 S2]) sz)) (hz_X7_readAll : rm_X7_readAll.cells = 0 ∧ rm_X7_readAll.slots = 0) (hr_X7_readAll : rm_X7_readAll.frames + 1 ≤ R.frames ∧ 8 + (5 + 11) + rm_X7_readAll.locals ≤ R.locals) {x3 : Int32} {x4 : Int32} {S0 : St} {S1 : St} {S2 : St} (hF : L_X7_readCond_10 f_X7_readAll x3 x4 S0 S1 S2 = some (T0, T1)) : ∀ (H : Heap) (locs : List Loc) (ls : Array Slot), va_P D vwCl (fl [g7 q o0 a0 S0, g5 q o1 a1 tp S1, g8 q o2 a2 S2]) H → va_D A (fl [g7 q o0 a0 S0, g5 q o1 a1 tp S1, g8 q o2 a2 S2]) → va_S A s.heap H locs → lv_has ls 5 [(0, .ref o0), (1, .ref o1), (2, .ref o2), (3, .int x3), (4, .int x4)] → W p l e R s m args below meth c H locs 0 0 (MQ below (QV D A (fl [g7 q o0 a0 T0, g5 q o1 a1 tp T1, g8 q o2 a2 S2])) args s 0 0 A) (F0 m 10 ls []) :=
  lp_G _ _ (fun z => ∀ (H : Heap) (locs : List Loc) (ls : Array Slot), va_P D vwCl (fl [g7 q o0 a0 z.2.2.1, g5 q o1 a1 tp z.2.2.2.1, g8 q o2 a2 z.2.2.2.2]) H → va_D A (fl [g7 q o0 a0 z.2.2.1, g5 q o1 a1 tp z.2.2.2.1, g8 q o2 a2 z.2.2.2.2]) → va_S A s.heap H locs → lv_has ls 5 [(0, .ref o0), (1, .ref o1), (2, .ref o2), (3, .int z.1), (4, .int z.2.1)] → W p l e R s m args below meth c H locs 0 0 (MQ below (QV D A (fl [g7 q o0 a0 T0, g5 q o1 a1 tp T1, g8 q o2 a2 z.2.2.2.2])) args s 0 0 A) (F0 m 10 ls [])) (fun kz hkz z hz H locs ls hP hD hS hl => b_X7_readCond_10 C hR0 hm_X7_readAll hz_X7_readAll hr_X7_readAll (fun x3 x4 S0 S1 S2 hz => hkz (x3, x4, S0, S1, S2) hz) hz hP hD hS hl) FU (x3, x4, S0, S1, S2) hF
set_option maxRecDepth 100000 in
set_option maxHeartbeats 4000000 in
theorem c_X7_readCond (l : Launch) (D : va_G) (q : Nat → ClassId) (tp : Nat) (o0 : Nat) (a0 : Nat → Nat) (S0 : St) (o1 : Nat) (a1 : Nat → Nat) (S1 : St) (o2 : Nat) (a2 : Nat → Nat) (S2 : St) (sz : Nat) (x3 : Int32) {T0 : St} {T1 : St} {R : Room} (hR0 : 2 ≤ R.frames ∧ 43 ≤ R.locals) {f_X7_readAll : St → St → St → Int32 → Option (St × St)} {rm_X7_readAll : Room} (hm_X7_readAll : ∀ (sz : Nat) (S0 S1 S2 : St) (x3 : Int32) (T0 T1 : St), f_X7_readAll S0 S1 S2 x3 = some (T0, T1) → Met l yX7_readAll (Cond.code yX7_readAll cX7_readAll 5 none :: TB) rm_X7_readAll (PC D q [.ref o0, .ref o1, .ref o2, .int x3] (fl [g7 q o0 a0 S0, g5 q o1 a1 tp S1, g8 q o2 a2 S2]) sz) (QV D (va_A (fl [g7 q o0 a0 S0, g5 q o1 a1 tp S1, g8 q o2 a2 S2]) sz) (fl [g7 q o0 a0 T0, g5 q o1 a1 tp T1, g8 q o2 a2 S2])) 0 0 (va_A (fl [g7 q o0 a0 S0, g5 q o1 a1 tp S1, g8 q o2 a2 S2]) sz)) (hz_X7_readAll : rm_X7_readAll.cells = 0 ∧ rm_X7_readAll.slots = 0) (hr_X7_readAll : rm_X7_readAll.frames + 1 ≤ R.frames ∧ 8 + (5 + 11) + rm_X7_readAll.locals ≤ R.locals) (hF : F_X7_readCond f_X7_readAll S0 S1 S2 x3 = some (T0, T1)) : Met l yX7_readCond (Cond.code yX7_readCond cX7_readCond 5 none :: TB) R (PC D q [.ref o0, .ref o1, .ref o2, .int x3] (fl [g7 q o0 a0 S0, g5 q o1 a1 tp S1, g8 q o2 a2 S2]) sz) ((fun A => QV D A (fl [g7 q o0 a0 T0, g5 q o1 a1 tp T1, g8 q o2 a2 S2])) (va_A (fl [g7 q o0 a0 S0, g5 q o1 a1 tp S1, g8 q o2 a2 S2]) sz)) 0 0 (va_A (fl [g7 q o0 a0 S0, g5 q o1 a1 tp S1, g8 q o2 a2 S2]) sz) := by
  refine k_met (w0 := fl [g7 q o0 a0 S0, g5 q o1 a1 tp S1, g8 q o2 a2 S2]) (Q := fun A => QV D A (fl [g7 q o0 a0 T0, g5 q o1 a1 tp T1, g8 q o2 a2 S2])) (by decide +kernel) (Nat.le_of_ble_eq_true rfl) ?_
  intro p e s m args below meth c A ls C hP hD hS hl
  have hl : lv_has ls 5 [(0, .ref o0), (1, .ref o1), (2, .ref o2), (3, .int x3)] := hl
  unfold F_X7_readCond at hF
  have C : cx p s m args meth c cX7_readCond 5 none RX7 D q A := C
  obtain ⟨hx, hb, hr, hml, hown, hts, hlk, hA, hK, hN, hV⟩ := id C
  refine lv_aload_n hx hb dX7_readCond_0 rfl (lv_at hl 0 rfl) ?_
  refine lv_aload_n hx hb dX7_readCond_1 rfl (lv_at hl 1 rfl) ?_
  refine lv_aload_n hx hb dX7_readCond_2 rfl (lv_at hl 2 rfl) ?_
  refine lv_iload_n hx hb dX7_readCond_3 rfl (lv_at hl 3 rfl) ?_
  obtain ⟨U2, U3, hc1, hF⟩ := ob2_s hF
  refine k_vall C (k_rV (As := [.ref o1, .ref o2, .int x3]) (rest := []) C (hm_X7_readAll _ S0 S1 S2 x3 U2 U3 hc1) kc_X7_readAll ml_X7_51 hz_X7_readAll.1 hz_X7_readAll.2 hr_X7_readAll hP hD hS (va_recv hK hP (ci := 7) (q0 := 0) rfl rfl) rfl hl.1 rfl (Nat.le_of_ble_eq_true rfl) dX7_readCond_4 ⟨Nat.zero_le _, Nat.zero_le _⟩) hP hD hS (by simp only [List.map_cons, List.map_nil, gad5, gad7, gad8]) (fun H locs hP hD hS => ?_)
  refine lv_iconst (v := (0 : Int32)) hx hb dX7_readCond_7 (by decide) ?_
  refine lv_istore (lv' := [(4, .int (0 : Int32)), (0, .ref o0), (1, .ref o1), (2, .ref o2), (3, .int x3)]) hx hb dX7_readCond_8 hl (by decide) rfl (fun ls hl => ?_)
  exact l_X7_readCond_10 C hR0 hm_X7_readAll hz_X7_readAll hr_X7_readAll hF _ _ _ hP hD hS (lv_sub hl [1, 2, 3, 4, 0] rfl)

abbrev rm_J6_bitCount_0f7a4 : Room := ({ frames := 0, cells := 0, slots := 0, locals := 0 } : Room)
def F_J6_bitCount_0f7a4 (x0 : Int32) : Option (Int32) := nw (x0 - ((x0.toUInt32 >>> ((1 : Int32).toUInt32 &&& Int32.toUInt32 31)).toInt32 &&& (1431655765 : Int32))) fun v1 => nw ((v1 &&& (858993459 : Int32)) + ((v1.toUInt32 >>> ((2 : Int32).toUInt32 &&& Int32.toUInt32 31)).toInt32 &&& (858993459 : Int32))) fun v3 => nw ((v3 + (v3.toUInt32 >>> ((4 : Int32).toUInt32 &&& Int32.toUInt32 31)).toInt32) &&& (252645135 : Int32)) fun v5 => nw (v5 + (v5.toUInt32 >>> ((8 : Int32).toUInt32 &&& Int32.toUInt32 31)).toInt32) fun v7 => nw (v7 + (v7.toUInt32 >>> ((16 : Int32).toUInt32 &&& Int32.toUInt32 31)).toInt32) fun v9 => some ((v9 &&& (63 : Int32)))
set_option maxRecDepth 100000 in
set_option maxHeartbeats 4000000 in
theorem c_J6_bitCount_0f7a4 (l : Launch) (D : va_G) (q : Nat → ClassId) (sz : Nat) (x0 : Int32) {r : Int32} (hF : F_J6_bitCount_0f7a4 x0 = some (r)) : Met l yJ6_bitCount_0f7a4 (Cond.code yJ6_bitCount_0f7a4 cJ6_bitCount_0f7a4 1 (some .int) :: TB) rm_J6_bitCount_0f7a4 (PC D q [.int x0] ([]) sz) ((fun A => QI D A r ([])) (va_A ([]) sz)) 0 0 (va_A ([]) sz) := by
  refine k_met (w0 := []) (Q := fun A => QI D A r ([])) (by decide +kernel) (Nat.le_of_ble_eq_true rfl) ?_
  intro p e s m args below meth c A ls C hP hD hS hl
  have hl : lv_has ls 1 [(0, .int x0)] := hl
  unfold F_J6_bitCount_0f7a4 at hF
  have C : cx p s m args meth c cJ6_bitCount_0f7a4 1 (some .int) RJ6 D q A := C
  obtain ⟨hx, hb, hr, hml, hown, hts, hlk, hA, hK, hN, hV⟩ := id C
  refine lv_iload_n hx hb dJ6_bitCount_0f7a4_0 rfl (lv_at hl 0 rfl) ?_
  refine lv_iload_n hx hb dJ6_bitCount_0f7a4_1 rfl (lv_at hl 0 rfl) ?_
  refine lv_iconst (v := (1 : Int32)) hx hb dJ6_bitCount_0f7a4_2 (by decide) ?_
  refine lv_iushr (v := (x0.toUInt32 >>> ((1 : Int32).toUInt32 &&& Int32.toUInt32 31)).toInt32) hx hb dJ6_bitCount_0f7a4_3 rfl ?_
  refine lv_ldcw (v := (1431655765 : Int32)) hx hb hown (hts _ kn_J6_265) dJ6_bitCount_0f7a4_4 ?_
  refine lv_iand hx hb dJ6_bitCount_0f7a4_7 ?_
  refine lv_isub hx hb dJ6_bitCount_0f7a4_8 ?_
  obtain ⟨v1, e2, hF⟩ := nw_s hF
  refine k_rni e2 ?_
  refine lv_istore_n (lv' := [(0, .int v1)]) hx hb dJ6_bitCount_0f7a4_9 rfl hl (by decide) rfl (fun ls hl => ?_)
  refine lv_iload_n hx hb dJ6_bitCount_0f7a4_10 rfl (lv_at hl 0 rfl) ?_
  refine lv_ldcw (v := (858993459 : Int32)) hx hb hown (hts _ kn_J6_266) dJ6_bitCount_0f7a4_11 ?_
  refine lv_iand hx hb dJ6_bitCount_0f7a4_14 ?_
  refine lv_iload_n hx hb dJ6_bitCount_0f7a4_15 rfl (lv_at hl 0 rfl) ?_
  refine lv_iconst (v := (2 : Int32)) hx hb dJ6_bitCount_0f7a4_16 (by decide) ?_
  refine lv_iushr (v := (v1.toUInt32 >>> ((2 : Int32).toUInt32 &&& Int32.toUInt32 31)).toInt32) hx hb dJ6_bitCount_0f7a4_17 rfl ?_
  refine lv_ldcw (v := (858993459 : Int32)) hx hb hown (hts _ kn_J6_266) dJ6_bitCount_0f7a4_18 ?_
  refine lv_iand hx hb dJ6_bitCount_0f7a4_21 ?_
  refine lv_iadd hx hb dJ6_bitCount_0f7a4_22 ?_
  obtain ⟨v3, e4, hF⟩ := nw_s hF
  refine k_rni e4 ?_
  refine lv_istore_n (lv' := [(0, .int v3)]) hx hb dJ6_bitCount_0f7a4_23 rfl hl (by decide) rfl (fun ls hl => ?_)
  refine lv_iload_n hx hb dJ6_bitCount_0f7a4_24 rfl (lv_at hl 0 rfl) ?_
  refine lv_iload_n hx hb dJ6_bitCount_0f7a4_25 rfl (lv_at hl 0 rfl) ?_
  refine lv_iconst (v := (4 : Int32)) hx hb dJ6_bitCount_0f7a4_26 (by decide) ?_
  refine lv_iushr (v := (v3.toUInt32 >>> ((4 : Int32).toUInt32 &&& Int32.toUInt32 31)).toInt32) hx hb dJ6_bitCount_0f7a4_27 rfl ?_
  refine lv_iadd hx hb dJ6_bitCount_0f7a4_28 ?_
  refine lv_ldcw (v := (252645135 : Int32)) hx hb hown (hts _ kn_J6_267) dJ6_bitCount_0f7a4_29 ?_
  refine lv_iand hx hb dJ6_bitCount_0f7a4_32 ?_
  obtain ⟨v5, e6, hF⟩ := nw_s hF
  refine k_rni e6 ?_
  refine lv_istore_n (lv' := [(0, .int v5)]) hx hb dJ6_bitCount_0f7a4_33 rfl hl (by decide) rfl (fun ls hl => ?_)
  refine lv_iload_n hx hb dJ6_bitCount_0f7a4_34 rfl (lv_at hl 0 rfl) ?_
  refine lv_iload_n hx hb dJ6_bitCount_0f7a4_35 rfl (lv_at hl 0 rfl) ?_
  refine lv_bipush (v := (8 : Int32)) hx hb dJ6_bitCount_0f7a4_36 (by decide) ?_
  refine lv_iushr (v := (v5.toUInt32 >>> ((8 : Int32).toUInt32 &&& Int32.toUInt32 31)).toInt32) hx hb dJ6_bitCount_0f7a4_38 rfl ?_
  refine lv_iadd hx hb dJ6_bitCount_0f7a4_39 ?_
  obtain ⟨v7, e8, hF⟩ := nw_s hF
  refine k_rni e8 ?_
  refine lv_istore_n (lv' := [(0, .int v7)]) hx hb dJ6_bitCount_0f7a4_40 rfl hl (by decide) rfl (fun ls hl => ?_)
  refine lv_iload_n hx hb dJ6_bitCount_0f7a4_41 rfl (lv_at hl 0 rfl) ?_
  refine lv_iload_n hx hb dJ6_bitCount_0f7a4_42 rfl (lv_at hl 0 rfl) ?_
  refine lv_bipush (v := (16 : Int32)) hx hb dJ6_bitCount_0f7a4_43 (by decide) ?_
  refine lv_iushr (v := (v7.toUInt32 >>> ((16 : Int32).toUInt32 &&& Int32.toUInt32 31)).toInt32) hx hb dJ6_bitCount_0f7a4_45 rfl ?_
  refine lv_iadd hx hb dJ6_bitCount_0f7a4_46 ?_
  obtain ⟨v9, e10, hF⟩ := nw_s hF
  refine k_rni e10 ?_
  refine lv_istore_n (lv' := [(0, .int v9)]) hx hb dJ6_bitCount_0f7a4_47 rfl hl (by decide) rfl (fun ls hl => ?_)
  refine lv_iload_n hx hb dJ6_bitCount_0f7a4_48 rfl (lv_at hl 0 rfl) ?_
  refine lv_bipush (v := (63 : Int32)) hx hb dJ6_bitCount_0f7a4_49 (by decide) ?_
  refine lv_iand hx hb dJ6_bitCount_0f7a4_51 ?_
  cases hF
  exact k_iret C hP hS dJ6_bitCount_0f7a4_52

abbrev rm_X7_compares : Room := ({ frames := 0, cells := 0, slots := 0, locals := 0 } : Room)
def F_X7_compares (S0 : St) (x1 : Int32) (x2 : Int32) : Option (Int32) := if oob x2 40 then none else if (S0.2.2.1 1 x2.toNatClampNeg) = (60 : Int32) then (if oob x2 40 then none else if (S0.2.2.1 2 x2.toNatClampNeg) ≤ x1 then (some ((0 : Int32))) else (some ((1 : Int32)))) else if (S0.2.2.1 1 x2.toNatClampNeg) = (62 : Int32) then (if oob x2 40 then none else if x1 ≤ (S0.2.2.1 2 x2.toNatClampNeg) then (some ((0 : Int32))) else (some ((1 : Int32)))) else if oob x2 40 then none else if x1 = (S0.2.2.1 2 x2.toNatClampNeg) then (some ((1 : Int32))) else (some ((0 : Int32)))
set_option maxRecDepth 100000 in
set_option maxHeartbeats 4000000 in
theorem c_X7_compares (l : Launch) (D : va_G) (q : Nat → ClassId) (o0 : Nat) (a0 : Nat → Nat) (S0 : St) (sz : Nat) (x1 : Int32) (x2 : Int32) {r : Int32} (hF : F_X7_compares S0 x1 x2 = some (r)) : Met l yX7_compares (Cond.code yX7_compares cX7_compares 3 (some .boolean) :: TB) rm_X7_compares (PC D q [.ref o0, .int x1, .int x2] (fl [g7 q o0 a0 S0]) sz) ((fun A => QI D A r (fl [g7 q o0 a0 S0])) (va_A (fl [g7 q o0 a0 S0]) sz)) 0 0 (va_A (fl [g7 q o0 a0 S0]) sz) := by
  refine k_met (w0 := fl [g7 q o0 a0 S0]) (Q := fun A => QI D A r (fl [g7 q o0 a0 S0])) (by decide +kernel) (Nat.le_of_ble_eq_true rfl) ?_
  intro p e s m args below meth c A ls C hP hD hS hl
  have hl : lv_has ls 3 [(0, .ref o0), (1, .int x1), (2, .int x2)] := hl
  unfold F_X7_compares at hF
  have C : cx p s m args meth c cX7_compares 3 (some .boolean) RX7 D q A := C
  obtain ⟨hx, hb, hr, hml, hown, hts, hlk, hA, hK, hN, hV⟩ := id C
  refine lv_aload_n hx hb dX7_compares_0 rfl (lv_at hl 0 rfl) ?_
  refine k_get (v := .ref (a0 2)) C fg_X7_15 hP 0 rfl rfl dX7_compares_1 ?_
  refine lv_iload_n hx hb dX7_compares_4 rfl (lv_at hl 2 rfl) ?_
  obtain ⟨h1, hF⟩ := op_ck hF
  refine k_ild (f := S0.2.2.1 1) C hP 2 rfl h1 dX7_compares_5 ?_
  by_cases c2 : (S0.2.2.1 1 x2.toNatClampNeg) = (60 : Int32)
  · have hF := op_t hF c2
    refine lv_lookup (off := 26) (tgt := 32) hx hb dX7_compares_6 (by decide) (by first | (rw [c2]; rfl) | rw [c2]) (by decide) ?_
    refine lv_iload_n hx hb dX7_compares_32 rfl (lv_at hl 1 rfl) ?_
    refine lv_aload_n hx hb dX7_compares_33 rfl (lv_at hl 0 rfl) ?_
    refine k_get (v := .ref (a0 3)) C fg_X7_18 hP 0 rfl rfl dX7_compares_34 ?_
    refine lv_iload_n hx hb dX7_compares_37 rfl (lv_at hl 2 rfl) ?_
    obtain ⟨h3, hF⟩ := op_ck hF
    refine k_ild (f := S0.2.2.1 2) C hP 3 rfl h3 dX7_compares_38 ?_
    refine lv_icmp_ge (tgt := 46) hx hb dX7_compares_39 (by decide) (fun c4 => ?_) (fun c4 => ?_)
    · have hF := op_t hF c4
      refine lv_iconst (v := (0 : Int32)) hx hb dX7_compares_46 (by decide) ?_
      cases hF
      exact k_zret C (by decide) hP hS dX7_compares_47
    · have hF := op_f hF c4
      refine lv_iconst (v := (1 : Int32)) hx hb dX7_compares_42 (by decide) ?_
      refine lv_goto (tgt := 47) hx hb dX7_compares_43 (by decide) ?_
      cases hF
      exact k_zret C (by decide) hP hS dX7_compares_47
  have hF := op_f hF c2
  by_cases c5 : (S0.2.2.1 1 x2.toNatClampNeg) = (62 : Int32)
  · have hF := op_t hF c5
    refine lv_lookup (off := 42) (tgt := 48) hx hb dX7_compares_6 (by decide) (by first | (rw [c5]; rfl) | rw [c5]) (by decide) ?_
    refine lv_iload_n hx hb dX7_compares_48 rfl (lv_at hl 1 rfl) ?_
    refine lv_aload_n hx hb dX7_compares_49 rfl (lv_at hl 0 rfl) ?_
    refine k_get (v := .ref (a0 3)) C fg_X7_18 hP 0 rfl rfl dX7_compares_50 ?_
    refine lv_iload_n hx hb dX7_compares_53 rfl (lv_at hl 2 rfl) ?_
    obtain ⟨h6, hF⟩ := op_ck hF
    refine k_ild (f := S0.2.2.1 2) C hP 3 rfl h6 dX7_compares_54 ?_
    refine lv_icmp_le (tgt := 62) hx hb dX7_compares_55 (by decide) (fun c7 => ?_) (fun c7 => ?_)
    · have hF := op_t hF c7
      refine lv_iconst (v := (0 : Int32)) hx hb dX7_compares_62 (by decide) ?_
      cases hF
      exact k_zret C (by decide) hP hS dX7_compares_63
    · have hF := op_f hF c7
      refine lv_iconst (v := (1 : Int32)) hx hb dX7_compares_58 (by decide) ?_
      refine lv_goto (tgt := 63) hx hb dX7_compares_59 (by decide) ?_
      cases hF
      exact k_zret C (by decide) hP hS dX7_compares_63
  have hF := op_f hF c5
  refine lv_lookup (off := 58) (tgt := 64) hx hb dX7_compares_6 (by decide) (by first | (rw [lv_osw c2 (k := 60) (by decide), lv_osw c5 (k := 62) (by decide)]; rfl) | rw [lv_osw c2 (k := 60) (by decide), lv_osw c5 (k := 62) (by decide)]) (by decide) ?_
  refine lv_iload_n hx hb dX7_compares_64 rfl (lv_at hl 1 rfl) ?_
  refine lv_aload_n hx hb dX7_compares_65 rfl (lv_at hl 0 rfl) ?_
  refine k_get (v := .ref (a0 3)) C fg_X7_18 hP 0 rfl rfl dX7_compares_66 ?_
  refine lv_iload_n hx hb dX7_compares_69 rfl (lv_at hl 2 rfl) ?_
  obtain ⟨h8, hF⟩ := op_ck hF
  refine k_ild (f := S0.2.2.1 2) C hP 3 rfl h8 dX7_compares_70 ?_
  refine lv_icmp_ne (tgt := 78) hx hb dX7_compares_71 (by decide) (fun c9 => ?_) (fun c9 => ?_)
  · have hF := op_f hF c9
    refine lv_iconst (v := (0 : Int32)) hx hb dX7_compares_78 (by decide) ?_
    cases hF
    exact k_zret C (by decide) hP hS dX7_compares_79
  · have hF := op_t hF c9
    refine lv_iconst (v := (1 : Int32)) hx hb dX7_compares_74 (by decide) ?_
    refine lv_goto (tgt := 79) hx hb dX7_compares_75 (by decide) ?_
    cases hF
    exact k_zret C (by decide) hP hS dX7_compares_79

abbrev rm_X7_isSo : Room := ({ frames := 1, cells := 0, slots := 0, locals := 22 } : Room)
def F_X7_isSo (S0 : St) (S1 : St) (x2 : Int32) (x3 : Int32) : Option (Int32) := if oob x3 40 then none else if (S0.2.2.1 0 x3.toNatClampNeg) = (27 : Int32) then (if oob x2 6 then none else if (S1.2.2.1 12 x2.toNatClampNeg) = (-1 : Int32) then (some ((0 : Int32))) else (some ((1 : Int32)))) else if (S0.2.2.1 0 x3.toNatClampNeg) = (28 : Int32) then (if oob x2 6 then none else if (S1.2.2.1 9 x2.toNatClampNeg) = 0 then (some ((1 : Int32))) else (some ((0 : Int32)))) else if (S0.2.2.1 0 x3.toNatClampNeg) = (29 : Int32) then (ob1 (F_X8_isPleased S1 x2) fun r10 => if nb r10 then none else some (r10)) else if (S0.2.2.1 0 x3.toNatClampNeg) = (30 : Int32) then (if oob x2 6 then none else if oob x3 40 then none else if (((S1.2.2.1 9 x2.toNatClampNeg) >>> ((S0.2.2.1 2 x3.toNatClampNeg) &&& 31)) &&& (1 : Int32)) = (1 : Int32) then (some ((1 : Int32))) else (some ((0 : Int32)))) else if (S0.2.2.1 0 x3.toNatClampNeg) = (31 : Int32) then (if oob x2 6 then none else if oob x3 40 then none else if (S1.2.2.1 12 x2.toNatClampNeg) = (S0.2.2.1 2 x3.toNatClampNeg) then (some ((1 : Int32))) else (some ((0 : Int32)))) else if (S0.2.2.1 0 x3.toNatClampNeg) = (32 : Int32) then (if oob x2 6 then none else ob1 (F_J6_bitCount_0f7a4 (S1.2.2.1 9 x2.toNatClampNeg)) fun r23 => ob1 (F_X7_compares S0 r23 x3) fun r25 => if nb r25 then none else some (r25)) else if (S0.2.2.1 0 x3.toNatClampNeg) = (33 : Int32) then (if oob x2 6 then none else ob1 (F_X7_compares S0 (S1.2.2.1 11 x2.toNatClampNeg) x3) fun r30 => if nb r30 then none else some (r30)) else if (S0.2.2.1 0 x3.toNatClampNeg) = (34 : Int32) then (if oob x2 6 then none else ob1 (F_X7_compares S0 (S1.2.2.1 13 x2.toNatClampNeg) x3) fun r35 => if nb r35 then none else some (r35)) else if (S0.2.2.1 0 x3.toNatClampNeg) = (35 : Int32) then (ob1 (F_X7_compares S0 x2 x3) fun r39 => if nb r39 then none else some (r39)) else some ((0 : Int32))
set_option maxRecDepth 100000 in
set_option maxHeartbeats 4000000 in
theorem c_X7_isSo (l : Launch) (D : va_G) (q : Nat → ClassId) (o0 : Nat) (a0 : Nat → Nat) (S0 : St) (o1 : Nat) (a1 : Nat → Nat) (S1 : St) (sz : Nat) (x2 : Int32) (x3 : Int32) {r : Int32} (hF : F_X7_isSo S0 S1 x2 x3 = some (r)) : Met l yX7_isSo (Cond.code yX7_isSo cX7_isSo 4 (some .boolean) :: TB) rm_X7_isSo (PC D q [.ref o0, .ref o1, .int x2, .int x3] (fl [g7 q o0 a0 S0, g8 q o1 a1 S1]) sz) ((fun A => QI D A r (fl [g7 q o0 a0 S0, g8 q o1 a1 S1])) (va_A (fl [g7 q o0 a0 S0, g8 q o1 a1 S1]) sz)) 0 0 (va_A (fl [g7 q o0 a0 S0, g8 q o1 a1 S1]) sz) := by
  refine k_met (w0 := fl [g7 q o0 a0 S0, g8 q o1 a1 S1]) (Q := fun A => QI D A r (fl [g7 q o0 a0 S0, g8 q o1 a1 S1])) (by decide +kernel) (Nat.le_of_ble_eq_true rfl) ?_
  intro p e s m args below meth c A ls C hP hD hS hl
  have hl : lv_has ls 4 [(0, .ref o0), (1, .ref o1), (2, .int x2), (3, .int x3)] := hl
  unfold F_X7_isSo at hF
  have C : cx p s m args meth c cX7_isSo 4 (some .boolean) RX7 D q A := C
  obtain ⟨hx, hb, hr, hml, hown, hts, hlk, hA, hK, hN, hV⟩ := id C
  refine lv_aload_n hx hb dX7_isSo_0 rfl (lv_at hl 0 rfl) ?_
  refine k_get (v := .ref (a0 1)) C fg_X7_9 hP 0 rfl rfl dX7_isSo_1 ?_
  refine lv_iload_n hx hb dX7_isSo_4 rfl (lv_at hl 3 rfl) ?_
  obtain ⟨h1, hF⟩ := op_ck hF
  refine k_ild (f := S0.2.2.1 0) C hP 1 rfl h1 dX7_isSo_5 ?_
  by_cases c2 : (S0.2.2.1 0 x3.toNatClampNeg) = (27 : Int32)
  · have hF := op_t hF c2
    refine lv_tableIn (tgt := 56) hx hb dX7_isSo_6 (by rw [c2]; decide) (by rw [c2]; decide) (by rw [c2]; rfl) (by decide) ?_
    refine lv_aload_n hx hb dX7_isSo_56 rfl (lv_at hl 1 rfl) ?_
    refine k_get (v := .ref (a1 13)) C fg_X7_109 hP 4 rfl rfl dX7_isSo_57 ?_
    refine lv_iload_n hx hb dX7_isSo_60 rfl (lv_at hl 2 rfl) ?_
    obtain ⟨h3, hF⟩ := op_ck hF
    refine k_ild (f := S1.2.2.1 12) C hP 13 rfl h3 dX7_isSo_61 ?_
    refine lv_iconst (v := (-1 : Int32)) hx hb dX7_isSo_62 (by decide) ?_
    refine lv_icmp_eq (tgt := 70) hx hb dX7_isSo_63 (by decide) (fun c4 => ?_) (fun c4 => ?_)
    · have hF := op_t hF c4
      refine lv_iconst (v := (0 : Int32)) hx hb dX7_isSo_70 (by decide) ?_
      cases hF
      exact k_zret C (by decide) hP hS dX7_isSo_71
    · have hF := op_f hF c4
      refine lv_iconst (v := (1 : Int32)) hx hb dX7_isSo_66 (by decide) ?_
      refine lv_goto (tgt := 71) hx hb dX7_isSo_67 (by decide) ?_
      cases hF
      exact k_zret C (by decide) hP hS dX7_isSo_71
  have hF := op_f hF c2
  by_cases c5 : (S0.2.2.1 0 x3.toNatClampNeg) = (28 : Int32)
  · have hF := op_t hF c5
    refine lv_tableIn (tgt := 72) hx hb dX7_isSo_6 (by rw [c5]; decide) (by rw [c5]; decide) (by rw [c5]; rfl) (by decide) ?_
    refine lv_aload_n hx hb dX7_isSo_72 rfl (lv_at hl 1 rfl) ?_
    refine k_get (v := .ref (a1 10)) C fg_X7_114 hP 4 rfl rfl dX7_isSo_73 ?_
    refine lv_iload_n hx hb dX7_isSo_76 rfl (lv_at hl 2 rfl) ?_
    obtain ⟨h6, hF⟩ := op_ck hF
    refine k_ild (f := S1.2.2.1 9) C hP 10 rfl h6 dX7_isSo_77 ?_
    refine lv_if_ne (tgt := 85) hx hb dX7_isSo_78 (by decide) (fun c7 => ?_) (fun c7 => ?_)
    · have hF := op_f hF c7
      refine lv_iconst (v := (0 : Int32)) hx hb dX7_isSo_85 (by decide) ?_
      cases hF
      exact k_zret C (by decide) hP hS dX7_isSo_86
    · have hF := op_t hF c7
      refine lv_iconst (v := (1 : Int32)) hx hb dX7_isSo_81 (by decide) ?_
      refine lv_goto (tgt := 86) hx hb dX7_isSo_82 (by decide) ?_
      cases hF
      exact k_zret C (by decide) hP hS dX7_isSo_86
  have hF := op_f hF c5
  by_cases c8 : (S0.2.2.1 0 x3.toNatClampNeg) = (29 : Int32)
  · have hF := op_t hF c8
    refine lv_tableIn (tgt := 87) hx hb dX7_isSo_6 (by rw [c8]; decide) (by rw [c8]; decide) (by rw [c8]; rfl) (by decide) ?_
    refine lv_aload_n hx hb dX7_isSo_87 rfl (lv_at hl 1 rfl) ?_
    refine lv_iload_n hx hb dX7_isSo_88 rfl (lv_at hl 2 rfl) ?_
    obtain ⟨r10, hc9, hF⟩ := ob1_s hF
    refine k_iro C (k_rV (As := [.int x2]) (rest := []) C (c_X8_isPleased l D q o1 a1 S1 _ x2 hc9) kc_X8_isPleased ml_X7_117 rfl rfl (by decide) (flP hP [1] rfl) (flD hD [1] (by decide) rfl) hS (va_recv hK hP (ci := 8) (q0 := 4) rfl rfl) rfl hl.1 rfl (Nat.le_of_ble_eq_true rfl) dX7_isSo_89 (by decide)) hP hD hS [1] [0] [g7 q o0 a0 S0] 2 (by decide) rfl rfl rfl rfl (fun H locs hP hD hS => ?_)
    obtain ⟨h11, hF⟩ := op_ck hF
    cases hF
    exact k_zret C h11 hP hS dX7_isSo_92
  have hF := op_f hF c8
  by_cases c12 : (S0.2.2.1 0 x3.toNatClampNeg) = (30 : Int32)
  · have hF := op_t hF c12
    refine lv_tableIn (tgt := 93) hx hb dX7_isSo_6 (by rw [c12]; decide) (by rw [c12]; decide) (by rw [c12]; rfl) (by decide) ?_
    refine lv_aload_n hx hb dX7_isSo_93 rfl (lv_at hl 1 rfl) ?_
    refine k_get (v := .ref (a1 10)) C fg_X7_114 hP 4 rfl rfl dX7_isSo_94 ?_
    refine lv_iload_n hx hb dX7_isSo_97 rfl (lv_at hl 2 rfl) ?_
    obtain ⟨h13, hF⟩ := op_ck hF
    refine k_ild (f := S1.2.2.1 9) C hP 10 rfl h13 dX7_isSo_98 ?_
    refine lv_aload_n hx hb dX7_isSo_99 rfl (lv_at hl 0 rfl) ?_
    refine k_get (v := .ref (a0 3)) C fg_X7_18 hP 0 rfl rfl dX7_isSo_100 ?_
    refine lv_iload_n hx hb dX7_isSo_103 rfl (lv_at hl 3 rfl) ?_
    obtain ⟨h14, hF⟩ := op_ck hF
    refine k_ild (f := S0.2.2.1 2) C hP 3 rfl h14 dX7_isSo_104 ?_
    refine lv_ishr hx hb dX7_isSo_105 ?_
    refine lv_iconst (v := (1 : Int32)) hx hb dX7_isSo_106 (by decide) ?_
    refine lv_iand hx hb dX7_isSo_107 ?_
    refine lv_iconst (v := (1 : Int32)) hx hb dX7_isSo_108 (by decide) ?_
    refine lv_icmp_ne (tgt := 116) hx hb dX7_isSo_109 (by decide) (fun c15 => ?_) (fun c15 => ?_)
    · have hF := op_f hF c15
      refine lv_iconst (v := (0 : Int32)) hx hb dX7_isSo_116 (by decide) ?_
      cases hF
      exact k_zret C (by decide) hP hS dX7_isSo_117
    · have hF := op_t hF c15
      refine lv_iconst (v := (1 : Int32)) hx hb dX7_isSo_112 (by decide) ?_
      refine lv_goto (tgt := 117) hx hb dX7_isSo_113 (by decide) ?_
      cases hF
      exact k_zret C (by decide) hP hS dX7_isSo_117
  have hF := op_f hF c12
  by_cases c16 : (S0.2.2.1 0 x3.toNatClampNeg) = (31 : Int32)
  · have hF := op_t hF c16
    refine lv_tableIn (tgt := 118) hx hb dX7_isSo_6 (by rw [c16]; decide) (by rw [c16]; decide) (by rw [c16]; rfl) (by decide) ?_
    refine lv_aload_n hx hb dX7_isSo_118 rfl (lv_at hl 1 rfl) ?_
    refine k_get (v := .ref (a1 13)) C fg_X7_109 hP 4 rfl rfl dX7_isSo_119 ?_
    refine lv_iload_n hx hb dX7_isSo_122 rfl (lv_at hl 2 rfl) ?_
    obtain ⟨h17, hF⟩ := op_ck hF
    refine k_ild (f := S1.2.2.1 12) C hP 13 rfl h17 dX7_isSo_123 ?_
    refine lv_aload_n hx hb dX7_isSo_124 rfl (lv_at hl 0 rfl) ?_
    refine k_get (v := .ref (a0 3)) C fg_X7_18 hP 0 rfl rfl dX7_isSo_125 ?_
    refine lv_iload_n hx hb dX7_isSo_128 rfl (lv_at hl 3 rfl) ?_
    obtain ⟨h18, hF⟩ := op_ck hF
    refine k_ild (f := S0.2.2.1 2) C hP 3 rfl h18 dX7_isSo_129 ?_
    refine lv_icmp_ne (tgt := 137) hx hb dX7_isSo_130 (by decide) (fun c19 => ?_) (fun c19 => ?_)
    · have hF := op_f hF c19
      refine lv_iconst (v := (0 : Int32)) hx hb dX7_isSo_137 (by decide) ?_
      cases hF
      exact k_zret C (by decide) hP hS dX7_isSo_138
    · have hF := op_t hF c19
      refine lv_iconst (v := (1 : Int32)) hx hb dX7_isSo_133 (by decide) ?_
      refine lv_goto (tgt := 138) hx hb dX7_isSo_134 (by decide) ?_
      cases hF
      exact k_zret C (by decide) hP hS dX7_isSo_138
  have hF := op_f hF c16
  by_cases c20 : (S0.2.2.1 0 x3.toNatClampNeg) = (32 : Int32)
  · have hF := op_t hF c20
    refine lv_tableIn (tgt := 139) hx hb dX7_isSo_6 (by rw [c20]; decide) (by rw [c20]; decide) (by rw [c20]; rfl) (by decide) ?_
    refine lv_aload_n hx hb dX7_isSo_139 rfl (lv_at hl 0 rfl) ?_
    refine lv_aload_n hx hb dX7_isSo_140 rfl (lv_at hl 1 rfl) ?_
    refine k_get (v := .ref (a1 10)) C fg_X7_114 hP 4 rfl rfl dX7_isSo_141 ?_
    refine lv_iload_n hx hb dX7_isSo_144 rfl (lv_at hl 2 rfl) ?_
    obtain ⟨h21, hF⟩ := op_ck hF
    refine k_ild (f := S1.2.2.1 9) C hP 10 rfl h21 dX7_isSo_145 ?_
    obtain ⟨r23, hc22, hF⟩ := ob1_s hF
    refine k_inil C (k_rS (As := [.int (S1.2.2.1 9 x2.toNatClampNeg)]) (rest := [.ref o0]) C (c_J6_bitCount_0f7a4 l D q _ (S1.2.2.1 9 x2.toNatClampNeg) hc22) kc_J6_bitCount_0f7a4 ml_X7_120 rfl rfl (by decide) (fun k x h => by simp at h) (⟨fun i j x y h => by simp at h, fun k x h => by simp at h⟩ : va_D A []) hS rfl hl.1 rfl (Nat.le_of_ble_eq_true rfl) dX7_isSo_146 (by decide)) hP hD hS (fun H locs hP hD hS => ?_)
    refine lv_iload_n hx hb dX7_isSo_149 rfl (lv_at hl 3 rfl) ?_
    obtain ⟨r25, hc24, hF⟩ := ob1_s hF
    refine k_iro C (k_rV (As := [.int r23, .int x3]) (rest := []) C (c_X7_compares l D q o0 a0 S0 _ r23 x3 hc24) kc_X7_compares ml_X7_126 rfl rfl (by decide) (flP hP [0] rfl) (flD hD [0] (by decide) rfl) hS (va_recv hK hP (ci := 7) (q0 := 0) rfl rfl) rfl hl.1 rfl (Nat.le_of_ble_eq_true rfl) dX7_isSo_150 (by decide)) hP hD hS [0] [1] [g8 q o1 a1 S1] 2 (by decide) rfl rfl rfl rfl (fun H locs hP hD hS => ?_)
    obtain ⟨h26, hF⟩ := op_ck hF
    cases hF
    exact k_zret C h26 hP hS dX7_isSo_153
  have hF := op_f hF c20
  by_cases c27 : (S0.2.2.1 0 x3.toNatClampNeg) = (33 : Int32)
  · have hF := op_t hF c27
    refine lv_tableIn (tgt := 154) hx hb dX7_isSo_6 (by rw [c27]; decide) (by rw [c27]; decide) (by rw [c27]; rfl) (by decide) ?_
    refine lv_aload_n hx hb dX7_isSo_154 rfl (lv_at hl 0 rfl) ?_
    refine lv_aload_n hx hb dX7_isSo_155 rfl (lv_at hl 1 rfl) ?_
    refine k_get (v := .ref (a1 12)) C fg_X7_129 hP 4 rfl rfl dX7_isSo_156 ?_
    refine lv_iload_n hx hb dX7_isSo_159 rfl (lv_at hl 2 rfl) ?_
    obtain ⟨h28, hF⟩ := op_ck hF
    refine k_ild (f := S1.2.2.1 11) C hP 12 rfl h28 dX7_isSo_160 ?_
    refine lv_iload_n hx hb dX7_isSo_161 rfl (lv_at hl 3 rfl) ?_
    obtain ⟨r30, hc29, hF⟩ := ob1_s hF
    refine k_iro C (k_rV (As := [.int (S1.2.2.1 11 x2.toNatClampNeg), .int x3]) (rest := []) C (c_X7_compares l D q o0 a0 S0 _ (S1.2.2.1 11 x2.toNatClampNeg) x3 hc29) kc_X7_compares ml_X7_126 rfl rfl (by decide) (flP hP [0] rfl) (flD hD [0] (by decide) rfl) hS (va_recv hK hP (ci := 7) (q0 := 0) rfl rfl) rfl hl.1 rfl (Nat.le_of_ble_eq_true rfl) dX7_isSo_162 (by decide)) hP hD hS [0] [1] [g8 q o1 a1 S1] 2 (by decide) rfl rfl rfl rfl (fun H locs hP hD hS => ?_)
    obtain ⟨h31, hF⟩ := op_ck hF
    cases hF
    exact k_zret C h31 hP hS dX7_isSo_165
  have hF := op_f hF c27
  by_cases c32 : (S0.2.2.1 0 x3.toNatClampNeg) = (34 : Int32)
  · have hF := op_t hF c32
    refine lv_tableIn (tgt := 166) hx hb dX7_isSo_6 (by rw [c32]; decide) (by rw [c32]; decide) (by rw [c32]; rfl) (by decide) ?_
    refine lv_aload_n hx hb dX7_isSo_166 rfl (lv_at hl 0 rfl) ?_
    refine lv_aload_n hx hb dX7_isSo_167 rfl (lv_at hl 1 rfl) ?_
    refine k_get (v := .ref (a1 14)) C fg_X7_132 hP 4 rfl rfl dX7_isSo_168 ?_
    refine lv_iload_n hx hb dX7_isSo_171 rfl (lv_at hl 2 rfl) ?_
    obtain ⟨h33, hF⟩ := op_ck hF
    refine k_ild (f := S1.2.2.1 13) C hP 14 rfl h33 dX7_isSo_172 ?_
    refine lv_iload_n hx hb dX7_isSo_173 rfl (lv_at hl 3 rfl) ?_
    obtain ⟨r35, hc34, hF⟩ := ob1_s hF
    refine k_iro C (k_rV (As := [.int (S1.2.2.1 13 x2.toNatClampNeg), .int x3]) (rest := []) C (c_X7_compares l D q o0 a0 S0 _ (S1.2.2.1 13 x2.toNatClampNeg) x3 hc34) kc_X7_compares ml_X7_126 rfl rfl (by decide) (flP hP [0] rfl) (flD hD [0] (by decide) rfl) hS (va_recv hK hP (ci := 7) (q0 := 0) rfl rfl) rfl hl.1 rfl (Nat.le_of_ble_eq_true rfl) dX7_isSo_174 (by decide)) hP hD hS [0] [1] [g8 q o1 a1 S1] 2 (by decide) rfl rfl rfl rfl (fun H locs hP hD hS => ?_)
    obtain ⟨h36, hF⟩ := op_ck hF
    cases hF
    exact k_zret C h36 hP hS dX7_isSo_177
  have hF := op_f hF c32
  by_cases c37 : (S0.2.2.1 0 x3.toNatClampNeg) = (35 : Int32)
  · have hF := op_t hF c37
    refine lv_tableIn (tgt := 178) hx hb dX7_isSo_6 (by rw [c37]; decide) (by rw [c37]; decide) (by rw [c37]; rfl) (by decide) ?_
    refine lv_aload_n hx hb dX7_isSo_178 rfl (lv_at hl 0 rfl) ?_
    refine lv_iload_n hx hb dX7_isSo_179 rfl (lv_at hl 2 rfl) ?_
    refine lv_iload_n hx hb dX7_isSo_180 rfl (lv_at hl 3 rfl) ?_
    obtain ⟨r39, hc38, hF⟩ := ob1_s hF
    refine k_iro C (k_rV (As := [.int x2, .int x3]) (rest := []) C (c_X7_compares l D q o0 a0 S0 _ x2 x3 hc38) kc_X7_compares ml_X7_126 rfl rfl (by decide) (flP hP [0] rfl) (flD hD [0] (by decide) rfl) hS (va_recv hK hP (ci := 7) (q0 := 0) rfl rfl) rfl hl.1 rfl (Nat.le_of_ble_eq_true rfl) dX7_isSo_181 (by decide)) hP hD hS [0] [1] [g8 q o1 a1 S1] 2 (by decide) rfl rfl rfl rfl (fun H locs hP hD hS => ?_)
    obtain ⟨h40, hF⟩ := op_ck hF
    cases hF
    exact k_zret C h40 hP hS dX7_isSo_184
  have hF := op_f hF c37
  have nc2 := lv_neT (a := 27) c2 (by decide)
  have nc5 := lv_neT (a := 28) c5 (by decide)
  have nc8 := lv_neT (a := 29) c8 (by decide)
  have nc12 := lv_neT (a := 30) c12 (by decide)
  have nc16 := lv_neT (a := 31) c16 (by decide)
  have nc20 := lv_neT (a := 32) c20 (by decide)
  have nc27 := lv_neT (a := 33) c27 (by decide)
  have nc32 := lv_neT (a := 34) c32 (by decide)
  have nc37 := lv_neT (a := 35) c37 (by decide)
  refine lv_tableOut (tgt := 185) hx hb dX7_isSo_6 (by omega) (by decide) ?_
  refine lv_iconst (v := (0 : Int32)) hx hb dX7_isSo_185 (by decide) ?_
  cases hF
  exact k_zret C (by decide) hP hS dX7_isSo_186

abbrev rm_X7_holdsOf : Room := ({ frames := 2, cells := 0, slots := 0, locals := 45 } : Room)
def F_X7_holdsOf_106 (k5 : Int32 × Int32 × Int32 × St × St → Option (Int32)) (x2 : Int32) (x3 : Int32) (x4 : Int32) (S0 : St) (S1 : St) : Option (Int32) := k5 (x2, x3, (x4 + 1), S0, S1)
def F_X7_holdsOf_104 (k5 : Int32 × Int32 × Int32 × St × St → Option (Int32)) (x2 : Int32) (x4 : Int32) (s0 : Int32) (s1 : Int32) (S0 : St) (S1 : St) : Option (Int32) := F_X7_holdsOf_106 k5 x2 (s0 ||| s1) x4 S0 S1
def F_X7_holdsOf_5 (k5 : Int32 × Int32 × Int32 × St × St → Option (Int32)) (x2 : Int32) (x3 : Int32) (x4 : Int32) (S0 : St) (S1 : St) : Option (Int32) := if (S0.1 3) ≤ x4 then (if (x3 &&& (1 : Int32)) = (1 : Int32) then (some ((1 : Int32))) else (some ((0 : Int32)))) else (if oob x4 40 then none else if (S0.2.2.1 0 x4.toNatClampNeg) = (24 : Int32) then (nw ((x3.toUInt32 >>> ((1 : Int32).toUInt32 &&& Int32.toUInt32 31)).toInt32 ||| (x3 &&& (1 : Int32))) fun v14 => F_X7_holdsOf_106 k5 x2 v14 x4 S0 S1) else (if oob x4 40 then none else if (S0.2.2.1 0 x4.toNatClampNeg) = (25 : Int32) then (nw ((x3.toUInt32 >>> ((1 : Int32).toUInt32 &&& Int32.toUInt32 31)).toInt32 &&& ((x3 &&& (1 : Int32)) ||| (-2 : Int32))) fun v12 => F_X7_holdsOf_106 k5 x2 v12 x4 S0 S1) else (if oob x4 40 then none else if (S0.2.2.1 0 x4.toNatClampNeg) = (26 : Int32) then (F_X7_holdsOf_106 k5 x2 (x3 ^^^ (1 : Int32)) x4 S0 S1) else (ob1 (F_X7_isSo S0 S1 x2 x4) fun r10 => if r10 = 0 then (F_X7_holdsOf_104 k5 x2 x4 (x3 <<< ((1 : Int32) &&& 31)) (0 : Int32) S0 S1) else (F_X7_holdsOf_104 k5 x2 x4 (x3 <<< ((1 : Int32) &&& 31)) (1 : Int32) S0 S1)))))
def L_X7_holdsOf_5 (x2 : Int32) (x3 : Int32) (x4 : Int32) (S0 : St) (S1 : St) : Option (Int32) := lp (fun kz z => F_X7_holdsOf_5 kz z.1 z.2.1 z.2.2.1 z.2.2.2.1 z.2.2.2.2) FU (x2, x3, x4, S0, S1)
def F_X7_holdsOf (S0 : St) (S1 : St) (x2 : Int32) : Option (Int32) := L_X7_holdsOf_5 x2 (0 : Int32) (0 : Int32) S0 S1
set_option maxRecDepth 100000 in
set_option maxHeartbeats 4000000 in
theorem b_X7_holdsOf_106 {p : Program} {l : Launch} {e : Env} {s : State} {m : MethodId} {args : Array Value} {below : List Frame} {meth : Method} {c : Code} {D : va_G} {q : Nat → ClassId} {A : Nat → Prop} {o0 : Nat} {a0 : Nat → Nat} {o1 : Nat} {a1 : Nat → Nat} {r : Int32} (C : cx p s m args meth c cX7_holdsOf 6 (some .boolean) RX7 D q A) {k5 : Int32 × Int32 × Int32 × St × St → Option (Int32)} (hk5 : ∀ (x2 : Int32) (x3 : Int32) (x4 : Int32) (S0 : St) (S1 : St), k5 (x2, x3, x4, S0, S1) = some (r) → ∀ (H : Heap) (locs : List Loc) (ls : Array Slot), va_P D vwCl (fl [g7 q o0 a0 S0, g8 q o1 a1 S1]) H → va_D A (fl [g7 q o0 a0 S0, g8 q o1 a1 S1]) → va_S A s.heap H locs → lv_has ls 6 [(0, .ref o0), (1, .ref o1), (2, .int x2), (3, .int x3), (4, .int x4)] → W p l e rm_X7_holdsOf s m args below meth c H locs 0 0 (MQ below (QI D A r (fl [g7 q o0 a0 S0, g8 q o1 a1 S1])) args s 0 0 A) (F0 m 5 ls [])) {x2 : Int32} {x3 : Int32} {x4 : Int32} {S0 : St} {S1 : St} (hF : F_X7_holdsOf_106 k5 x2 x3 x4 S0 S1 = some (r)) {H : Heap} {locs : List Loc} (hP : va_P D vwCl (fl [g7 q o0 a0 S0, g8 q o1 a1 S1]) H) (hD : va_D A (fl [g7 q o0 a0 S0, g8 q o1 a1 S1])) (hS : va_S A s.heap H locs) {ls : Array Slot} (hl : lv_has ls 6 [(0, .ref o0), (1, .ref o1), (2, .int x2), (3, .int x3), (4, .int x4)]) : W p l e rm_X7_holdsOf s m args below meth c H locs 0 0 (MQ below (QI D A r (fl [g7 q o0 a0 S0, g8 q o1 a1 S1])) args s 0 0 A) (F0 m 106 ls []) := by
  unfold F_X7_holdsOf_106 at hF
  obtain ⟨hx, hb, hr, hml, hown, hts, hlk, hA, hK, hN, hV⟩ := id C
  refine lv_iinc (v := (x4 + 1)) (lv' := [(4, .int (x4 + 1)), (0, .ref o0), (1, .ref o1), (2, .int x2), (3, .int x3)]) hx hb dX7_holdsOf_106 hl (k := 4) rfl rfl (by decide) rfl (fun ls hl => ?_)
  refine lv_goto (tgt := 5) hx hb dX7_holdsOf_109 (by decide) ?_
  exact hk5 x2 x3 (x4 + 1) S0 S1 hF _ _ _ hP hD hS (lv_sub hl [1, 2, 3, 4, 0] rfl)
set_option maxRecDepth 100000 in
set_option maxHeartbeats 4000000 in
theorem b_X7_holdsOf_104 {p : Program} {l : Launch} {e : Env} {s : State} {m : MethodId} {args : Array Value} {below : List Frame} {meth : Method} {c : Code} {D : va_G} {q : Nat → ClassId} {A : Nat → Prop} {o0 : Nat} {a0 : Nat → Nat} {o1 : Nat} {a1 : Nat → Nat} {r : Int32} (C : cx p s m args meth c cX7_holdsOf 6 (some .boolean) RX7 D q A) {k5 : Int32 × Int32 × Int32 × St × St → Option (Int32)} (hk5 : ∀ (x2 : Int32) (x3 : Int32) (x4 : Int32) (S0 : St) (S1 : St), k5 (x2, x3, x4, S0, S1) = some (r) → ∀ (H : Heap) (locs : List Loc) (ls : Array Slot), va_P D vwCl (fl [g7 q o0 a0 S0, g8 q o1 a1 S1]) H → va_D A (fl [g7 q o0 a0 S0, g8 q o1 a1 S1]) → va_S A s.heap H locs → lv_has ls 6 [(0, .ref o0), (1, .ref o1), (2, .int x2), (3, .int x3), (4, .int x4)] → W p l e rm_X7_holdsOf s m args below meth c H locs 0 0 (MQ below (QI D A r (fl [g7 q o0 a0 S0, g8 q o1 a1 S1])) args s 0 0 A) (F0 m 5 ls [])) {x2 : Int32} {x4 : Int32} {s0 : Int32} {s1 : Int32} {S0 : St} {S1 : St} (hF : F_X7_holdsOf_104 k5 x2 x4 s0 s1 S0 S1 = some (r)) {H : Heap} {locs : List Loc} (hP : va_P D vwCl (fl [g7 q o0 a0 S0, g8 q o1 a1 S1]) H) (hD : va_D A (fl [g7 q o0 a0 S0, g8 q o1 a1 S1])) (hS : va_S A s.heap H locs) {ls : Array Slot} (hl : lv_has ls 6 [(0, .ref o0), (1, .ref o1), (2, .int x2), (4, .int x4)]) : W p l e rm_X7_holdsOf s m args below meth c H locs 0 0 (MQ below (QI D A r (fl [g7 q o0 a0 S0, g8 q o1 a1 S1])) args s 0 0 A) (F0 m 104 ls [.int s1, .int s0]) := by
  unfold F_X7_holdsOf_104 at hF
  obtain ⟨hx, hb, hr, hml, hown, hts, hlk, hA, hK, hN, hV⟩ := id C
  refine lv_ior hx hb dX7_holdsOf_104 ?_
  refine lv_istore_n (lv' := [(3, .int (s0 ||| s1)), (0, .ref o0), (1, .ref o1), (2, .int x2), (4, .int x4)]) hx hb dX7_holdsOf_105 rfl hl (by decide) rfl (fun ls hl => ?_)
  exact b_X7_holdsOf_106 C hk5 hF hP hD hS (lv_sub hl [1, 2, 3, 0, 4] rfl)
set_option maxRecDepth 100000 in
set_option maxHeartbeats 4000000 in
theorem b_X7_holdsOf_5 {p : Program} {l : Launch} {e : Env} {s : State} {m : MethodId} {args : Array Value} {below : List Frame} {meth : Method} {c : Code} {D : va_G} {q : Nat → ClassId} {A : Nat → Prop} {o0 : Nat} {a0 : Nat → Nat} {o1 : Nat} {a1 : Nat → Nat} {r : Int32} (C : cx p s m args meth c cX7_holdsOf 6 (some .boolean) RX7 D q A) {k5 : Int32 × Int32 × Int32 × St × St → Option (Int32)} (hk5 : ∀ (x2 : Int32) (x3 : Int32) (x4 : Int32) (S0 : St) (S1 : St), k5 (x2, x3, x4, S0, S1) = some (r) → ∀ (H : Heap) (locs : List Loc) (ls : Array Slot), va_P D vwCl (fl [g7 q o0 a0 S0, g8 q o1 a1 S1]) H → va_D A (fl [g7 q o0 a0 S0, g8 q o1 a1 S1]) → va_S A s.heap H locs → lv_has ls 6 [(0, .ref o0), (1, .ref o1), (2, .int x2), (3, .int x3), (4, .int x4)] → W p l e rm_X7_holdsOf s m args below meth c H locs 0 0 (MQ below (QI D A r (fl [g7 q o0 a0 S0, g8 q o1 a1 S1])) args s 0 0 A) (F0 m 5 ls [])) {x2 : Int32} {x3 : Int32} {x4 : Int32} {S0 : St} {S1 : St} (hF : F_X7_holdsOf_5 k5 x2 x3 x4 S0 S1 = some (r)) {H : Heap} {locs : List Loc} (hP : va_P D vwCl (fl [g7 q o0 a0 S0, g8 q o1 a1 S1]) H) (hD : va_D A (fl [g7 q o0 a0 S0, g8 q o1 a1 S1])) (hS : va_S A s.heap H locs) {ls : Array Slot} (hl : lv_has ls 6 [(0, .ref o0), (1, .ref o1), (2, .int x2), (3, .int x3), (4, .int x4)]) : W p l e rm_X7_holdsOf s m args below meth c H locs 0 0 (MQ below (QI D A r (fl [g7 q o0 a0 S0, g8 q o1 a1 S1])) args s 0 0 A) (F0 m 5 ls []) := by
  unfold F_X7_holdsOf_5 at hF
  obtain ⟨hx, hb, hr, hml, hown, hts, hlk, hA, hK, hN, hV⟩ := id C
  refine lv_iload hx hb dX7_holdsOf_5 (lv_at hl 4 rfl) ?_
  refine lv_aload_n hx hb dX7_holdsOf_7 rfl (lv_at hl 0 rfl) ?_
  refine k_get (v := .int (S0.1 3)) C fg_X7_21 hP 0 rfl rfl dX7_holdsOf_8 ?_
  refine lv_icmp_ge (tgt := 112) hx hb dX7_holdsOf_11 (by decide) (fun c1 => ?_) (fun c1 => ?_)
  · have hF := op_t hF c1
    refine lv_iload_n hx hb dX7_holdsOf_112 rfl (lv_at hl 3 rfl) ?_
    refine lv_iconst (v := (1 : Int32)) hx hb dX7_holdsOf_113 (by decide) ?_
    refine lv_iand hx hb dX7_holdsOf_114 ?_
    refine lv_iconst (v := (1 : Int32)) hx hb dX7_holdsOf_115 (by decide) ?_
    refine lv_icmp_ne (tgt := 123) hx hb dX7_holdsOf_116 (by decide) (fun c2 => ?_) (fun c2 => ?_)
    · have hF := op_f hF c2
      refine lv_iconst (v := (0 : Int32)) hx hb dX7_holdsOf_123 (by decide) ?_
      cases hF
      exact k_zret C (by decide) hP hS dX7_holdsOf_124
    · have hF := op_t hF c2
      refine lv_iconst (v := (1 : Int32)) hx hb dX7_holdsOf_119 (by decide) ?_
      refine lv_goto (tgt := 124) hx hb dX7_holdsOf_120 (by decide) ?_
      cases hF
      exact k_zret C (by decide) hP hS dX7_holdsOf_124
  · have hF := op_f hF c1
    refine lv_iload_n hx hb dX7_holdsOf_14 rfl (lv_at hl 3 rfl) ?_
    refine lv_iconst (v := (1 : Int32)) hx hb dX7_holdsOf_15 (by decide) ?_
    refine lv_iand hx hb dX7_holdsOf_16 ?_
    refine lv_istore (lv' := [(5, .int (x3 &&& (1 : Int32))), (0, .ref o0), (1, .ref o1), (2, .int x2), (3, .int x3), (4, .int x4)]) hx hb dX7_holdsOf_17 hl (by decide) rfl (fun ls hl => ?_)
    refine lv_aload_n hx hb dX7_holdsOf_19 rfl (lv_at hl 1 rfl) ?_
    refine k_get (v := .ref (a0 1)) C fg_X7_9 hP 0 rfl rfl dX7_holdsOf_20 ?_
    refine lv_iload hx hb dX7_holdsOf_23 (lv_at hl 5 rfl) ?_
    obtain ⟨h3, hF⟩ := op_ck hF
    refine k_ild (f := S0.2.2.1 0) C hP 1 rfl h3 dX7_holdsOf_25 ?_
    refine lv_bipush (v := (24 : Int32)) hx hb dX7_holdsOf_26 (by decide) ?_
    refine lv_icmp_ne (tgt := 41) hx hb dX7_holdsOf_28 (by decide) (fun c4 => ?_) (fun c4 => ?_)
    · have hF := op_f hF c4
      refine lv_aload_n hx hb dX7_holdsOf_41 rfl (lv_at hl 1 rfl) ?_
      refine k_get (v := .ref (a0 1)) C fg_X7_9 hP 0 rfl rfl dX7_holdsOf_42 ?_
      refine lv_iload hx hb dX7_holdsOf_45 (lv_at hl 5 rfl) ?_
      obtain ⟨h5, hF⟩ := op_ck hF
      refine k_ild (f := S0.2.2.1 0) C hP 1 rfl h5 dX7_holdsOf_47 ?_
      refine lv_bipush (v := (25 : Int32)) hx hb dX7_holdsOf_48 (by decide) ?_
      refine lv_icmp_ne (tgt := 66) hx hb dX7_holdsOf_50 (by decide) (fun c6 => ?_) (fun c6 => ?_)
      · have hF := op_f hF c6
        refine lv_aload_n hx hb dX7_holdsOf_66 rfl (lv_at hl 1 rfl) ?_
        refine k_get (v := .ref (a0 1)) C fg_X7_9 hP 0 rfl rfl dX7_holdsOf_67 ?_
        refine lv_iload hx hb dX7_holdsOf_70 (lv_at hl 5 rfl) ?_
        obtain ⟨h7, hF⟩ := op_ck hF
        refine k_ild (f := S0.2.2.1 0) C hP 1 rfl h7 dX7_holdsOf_72 ?_
        refine lv_bipush (v := (26 : Int32)) hx hb dX7_holdsOf_73 (by decide) ?_
        refine lv_icmp_ne (tgt := 85) hx hb dX7_holdsOf_75 (by decide) (fun c8 => ?_) (fun c8 => ?_)
        · have hF := op_f hF c8
          refine lv_iload_n hx hb dX7_holdsOf_85 rfl (lv_at hl 4 rfl) ?_
          refine lv_iconst (v := (1 : Int32)) hx hb dX7_holdsOf_86 (by decide) ?_
          refine lv_ishl hx hb dX7_holdsOf_87 ?_
          refine lv_aload_n hx hb dX7_holdsOf_88 rfl (lv_at hl 1 rfl) ?_
          refine lv_aload_n hx hb dX7_holdsOf_89 rfl (lv_at hl 2 rfl) ?_
          refine lv_iload_n hx hb dX7_holdsOf_90 rfl (lv_at hl 3 rfl) ?_
          refine lv_iload hx hb dX7_holdsOf_91 (lv_at hl 5 rfl) ?_
          obtain ⟨r10, hc9, hF⟩ := ob1_s hF
          refine k_isame C (k_rV (As := [.ref o1, .int x2, .int x4]) (rest := [.int (x3 <<< ((1 : Int32) &&& 31))]) C (c_X7_isSo l D q o0 a0 S0 o1 a1 S1 _ x2 x4 hc9) kc_X7_isSo ml_X7_105 rfl rfl (by decide) hP hD hS (va_recv hK hP (ci := 7) (q0 := 0) rfl rfl) rfl hl.1 rfl (Nat.le_of_ble_eq_true rfl) dX7_holdsOf_93 (by decide)) hP hD hS (fun H locs hP hD hS => ?_)
          refine lv_if_eq (tgt := 103) hx hb dX7_holdsOf_96 (by decide) (fun c11 => ?_) (fun c11 => ?_)
          · have hF := op_t hF c11
            refine lv_iconst (v := (0 : Int32)) hx hb dX7_holdsOf_103 (by decide) ?_
            exact b_X7_holdsOf_104 C hk5 hF hP hD hS (lv_sub hl [1, 2, 3, 5] rfl)
          · have hF := op_f hF c11
            refine lv_iconst (v := (1 : Int32)) hx hb dX7_holdsOf_99 (by decide) ?_
            refine lv_goto (tgt := 104) hx hb dX7_holdsOf_100 (by decide) ?_
            exact b_X7_holdsOf_104 C hk5 hF hP hD hS (lv_sub hl [1, 2, 3, 5] rfl)
        · have hF := op_t hF c8
          refine lv_iload_n hx hb dX7_holdsOf_78 rfl (lv_at hl 4 rfl) ?_
          refine lv_iconst (v := (1 : Int32)) hx hb dX7_holdsOf_79 (by decide) ?_
          refine lv_ixor hx hb dX7_holdsOf_80 ?_
          refine lv_istore_n (lv' := [(3, .int (x3 ^^^ (1 : Int32))), (5, .int (x3 &&& (1 : Int32))), (0, .ref o0), (1, .ref o1), (2, .int x2), (4, .int x4)]) hx hb dX7_holdsOf_81 rfl hl (by decide) rfl (fun ls hl => ?_)
          refine lv_goto (tgt := 106) hx hb dX7_holdsOf_82 (by decide) ?_
          exact b_X7_holdsOf_106 C hk5 hF hP hD hS (lv_sub hl [2, 3, 4, 0, 5] rfl)
      · have hF := op_t hF c6
        refine lv_iload_n hx hb dX7_holdsOf_53 rfl (lv_at hl 4 rfl) ?_
        refine lv_iconst (v := (1 : Int32)) hx hb dX7_holdsOf_54 (by decide) ?_
        refine lv_iushr (v := (x3.toUInt32 >>> ((1 : Int32).toUInt32 &&& Int32.toUInt32 31)).toInt32) hx hb dX7_holdsOf_55 rfl ?_
        refine lv_iload hx hb dX7_holdsOf_56 (lv_at hl 0 rfl) ?_
        refine lv_bipush (v := (-2 : Int32)) hx hb dX7_holdsOf_58 (by decide) ?_
        refine lv_ior hx hb dX7_holdsOf_60 ?_
        refine lv_iand hx hb dX7_holdsOf_61 ?_
        obtain ⟨v12, e13, hF⟩ := nw_s hF
        refine k_rni e13 ?_
        refine lv_istore_n (lv' := [(3, .int v12), (5, .int (x3 &&& (1 : Int32))), (0, .ref o0), (1, .ref o1), (2, .int x2), (4, .int x4)]) hx hb dX7_holdsOf_62 rfl hl (by decide) rfl (fun ls hl => ?_)
        refine lv_goto (tgt := 106) hx hb dX7_holdsOf_63 (by decide) ?_
        exact b_X7_holdsOf_106 C hk5 hF hP hD hS (lv_sub hl [2, 3, 4, 0, 5] rfl)
    · have hF := op_t hF c4
      refine lv_iload_n hx hb dX7_holdsOf_31 rfl (lv_at hl 4 rfl) ?_
      refine lv_iconst (v := (1 : Int32)) hx hb dX7_holdsOf_32 (by decide) ?_
      refine lv_iushr (v := (x3.toUInt32 >>> ((1 : Int32).toUInt32 &&& Int32.toUInt32 31)).toInt32) hx hb dX7_holdsOf_33 rfl ?_
      refine lv_iload hx hb dX7_holdsOf_34 (lv_at hl 0 rfl) ?_
      refine lv_ior hx hb dX7_holdsOf_36 ?_
      obtain ⟨v14, e15, hF⟩ := nw_s hF
      refine k_rni e15 ?_
      refine lv_istore_n (lv' := [(3, .int v14), (5, .int (x3 &&& (1 : Int32))), (0, .ref o0), (1, .ref o1), (2, .int x2), (4, .int x4)]) hx hb dX7_holdsOf_37 rfl hl (by decide) rfl (fun ls hl => ?_)
      refine lv_goto (tgt := 106) hx hb dX7_holdsOf_38 (by decide) ?_
      exact b_X7_holdsOf_106 C hk5 hF hP hD hS (lv_sub hl [2, 3, 4, 0, 5] rfl)
set_option maxRecDepth 100000 in
set_option maxHeartbeats 4000000 in
theorem l_X7_holdsOf_5 {p : Program} {l : Launch} {e : Env} {s : State} {m : MethodId} {args : Array Value} {below : List Frame} {meth : Method} {c : Code} {D : va_G} {q : Nat → ClassId} {A : Nat → Prop} {o0 : Nat} {a0 : Nat → Nat} {o1 : Nat} {a1 : Nat → Nat} {r : Int32} (C : cx p s m args meth c cX7_holdsOf 6 (some .boolean) RX7 D q A) {x2 : Int32} {x3 : Int32} {x4 : Int32} {S0 : St} {S1 : St} (hF : L_X7_holdsOf_5 x2 x3 x4 S0 S1 = some (r)) : ∀ (H : Heap) (locs : List Loc) (ls : Array Slot), va_P D vwCl (fl [g7 q o0 a0 S0, g8 q o1 a1 S1]) H → va_D A (fl [g7 q o0 a0 S0, g8 q o1 a1 S1]) → va_S A s.heap H locs → lv_has ls 6 [(0, .ref o0), (1, .ref o1), (2, .int x2), (3, .int x3), (4, .int x4)] → W p l e rm_X7_holdsOf s m args below meth c H locs 0 0 (MQ below (QI D A r (fl [g7 q o0 a0 S0, g8 q o1 a1 S1])) args s 0 0 A) (F0 m 5 ls []) :=
  lp_G _ _ (fun z => ∀ (H : Heap) (locs : List Loc) (ls : Array Slot), va_P D vwCl (fl [g7 q o0 a0 z.2.2.2.1, g8 q o1 a1 z.2.2.2.2]) H → va_D A (fl [g7 q o0 a0 z.2.2.2.1, g8 q o1 a1 z.2.2.2.2]) → va_S A s.heap H locs → lv_has ls 6 [(0, .ref o0), (1, .ref o1), (2, .int z.1), (3, .int z.2.1), (4, .int z.2.2.1)] → W p l e rm_X7_holdsOf s m args below meth c H locs 0 0 (MQ below (QI D A r (fl [g7 q o0 a0 z.2.2.2.1, g8 q o1 a1 z.2.2.2.2])) args s 0 0 A) (F0 m 5 ls [])) (fun kz hkz z hz H locs ls hP hD hS hl => b_X7_holdsOf_5 C (fun x2 x3 x4 S0 S1 hz => hkz (x2, x3, x4, S0, S1) hz) hz hP hD hS hl) FU (x2, x3, x4, S0, S1) hF
set_option maxRecDepth 100000 in
set_option maxHeartbeats 4000000 in
theorem c_X7_holdsOf (l : Launch) (D : va_G) (q : Nat → ClassId) (o0 : Nat) (a0 : Nat → Nat) (S0 : St) (o1 : Nat) (a1 : Nat → Nat) (S1 : St) (sz : Nat) (x2 : Int32) {r : Int32} (hF : F_X7_holdsOf S0 S1 x2 = some (r)) : Met l yX7_holdsOf (Cond.code yX7_holdsOf cX7_holdsOf 6 (some .boolean) :: TB) rm_X7_holdsOf (PC D q [.ref o0, .ref o1, .int x2] (fl [g7 q o0 a0 S0, g8 q o1 a1 S1]) sz) ((fun A => QI D A r (fl [g7 q o0 a0 S0, g8 q o1 a1 S1])) (va_A (fl [g7 q o0 a0 S0, g8 q o1 a1 S1]) sz)) 0 0 (va_A (fl [g7 q o0 a0 S0, g8 q o1 a1 S1]) sz) := by
  refine k_met (w0 := fl [g7 q o0 a0 S0, g8 q o1 a1 S1]) (Q := fun A => QI D A r (fl [g7 q o0 a0 S0, g8 q o1 a1 S1])) (by decide +kernel) (Nat.le_of_ble_eq_true rfl) ?_
  intro p e s m args below meth c A ls C hP hD hS hl
  have hl : lv_has ls 6 [(0, .ref o0), (1, .ref o1), (2, .int x2)] := hl
  unfold F_X7_holdsOf at hF
  have C : cx p s m args meth c cX7_holdsOf 6 (some .boolean) RX7 D q A := C
  obtain ⟨hx, hb, hr, hml, hown, hts, hlk, hA, hK, hN, hV⟩ := id C
  refine lv_iconst (v := (0 : Int32)) hx hb dX7_holdsOf_0 (by decide) ?_
  refine lv_istore_n (lv' := [(3, .int (0 : Int32)), (0, .ref o0), (1, .ref o1), (2, .int x2)]) hx hb dX7_holdsOf_1 rfl hl (by decide) rfl (fun ls hl => ?_)
  refine lv_iconst (v := (0 : Int32)) hx hb dX7_holdsOf_2 (by decide) ?_
  refine lv_istore (lv' := [(4, .int (0 : Int32)), (3, .int (0 : Int32)), (0, .ref o0), (1, .ref o1), (2, .int x2)]) hx hb dX7_holdsOf_3 hl (by decide) rfl (fun ls hl => ?_)
  exact l_X7_holdsOf_5 C hF _ _ _ hP hD hS (lv_sub hl [2, 3, 4, 1, 0] rfl)

abbrev rm_X8_readTurret : Room := ({ frames := 2, cells := 0, slots := 0, locals := 46 } : Room)
def F_X8_readTurret_91 (S0 : St) (S1 : St) : Option (St × St) := nw (sI S0 0 ((S0.1 0) + (1 : Int32))) fun U1 => some (U1, S1)
def F_X8_readTurret (S0 : St) (S1 : St) : Option (St × St) := if (S0.1 0) < (7 : Int32) then (ob1 (F_X5_next S1) fun U3 => ob2 (F_X5_needNewName U3 S0) fun r5 U6 => if oob (S0.1 0) 7 then none else nw (sJ S0 1 (S0.1 0) r5) fun U8 => ob2 (F_X5_needWordFrom U6 (5 : Int32) (4 : Int32)) fun r11 U12 => if oob (S0.1 0) 7 then none else nw (sA U8 2 (S0.1 0) r11) fun U14 => ob2 (F_X5_needWordFrom U12 (9 : Int32) (8 : Int32)) fun r17 U18 => if oob (S0.1 0) 7 then none else nw (sA U14 3 (S0.1 0) r17) fun U20 => ob2 (F_X5_needNumber U18 (1 : Int32) (60 : Int32)) fun r23 U24 => if oob (S0.1 0) 7 then none else nw (sA U20 4 (S0.1 0) r23) fun U26 => ob2 (F_X5_takeWord U24 (4 : Int32)) fun r29 U30 => if r29 = 0 then (F_X8_readTurret_91 U26 U30) else (nw (sI U26 5 ((U26.1 5) ||| ((1 : Int32) <<< ((S0.1 0) &&& 31)))) fun U32 => F_X8_readTurret_91 U32 U30)) else (ob1 (F_X5_fail S1 (4 : Int32)) fun U35 => some (S0, U35))
set_option maxRecDepth 100000 in
set_option maxHeartbeats 4000000 in
theorem b_X8_readTurret_91 {p : Program} {l : Launch} {e : Env} {s : State} {m : MethodId} {args : Array Value} {below : List Frame} {meth : Method} {c : Code} {D : va_G} {q : Nat → ClassId} {A : Nat → Prop} {tp : Nat} {o0 : Nat} {a0 : Nat → Nat} {o1 : Nat} {a1 : Nat → Nat} {T0 : St} {T1 : St} (C : cx p s m args meth c cX8_readTurret 3 none RX8 D q A) {S0 : St} {S1 : St} (hF : F_X8_readTurret_91 S0 S1 = some (T0, T1)) {H : Heap} {locs : List Loc} (hP : va_P D vwCl (fl [g8 q o0 a0 S0, g5 q o1 a1 tp S1]) H) (hD : va_D A (fl [g8 q o0 a0 S0, g5 q o1 a1 tp S1])) (hS : va_S A s.heap H locs) {ls : Array Slot} (hl : lv_has ls 3 [(0, .ref o0)]) : W p l e rm_X8_readTurret s m args below meth c H locs 0 0 (MQ below (QV D A (fl [g8 q o0 a0 T0, g5 q o1 a1 tp T1])) args s 0 0 A) (F0 m 91 ls []) := by
  unfold F_X8_readTurret_91 at hF
  obtain ⟨hx, hb, hr, hml, hown, hts, hlk, hA, hK, hN, hV⟩ := id C
  refine lv_aload_n hx hb dX8_readTurret_91 rfl (lv_at hl 0 rfl) ?_
  refine lv_dup hx hb dX8_readTurret_92 rfl ?_
  refine k_get (v := .int (S0.1 0)) C fg_X8_43 hP 0 rfl rfl dX8_readTurret_93 ?_
  refine lv_iconst (v := (1 : Int32)) hx hb dX8_readTurret_96 (by decide) ?_
  refine lv_iadd hx hb dX8_readTurret_97 ?_
  obtain ⟨U1, e2, hF⟩ := nw_s hF
  refine k_put (W8 := fl [g8 q o0 a0 U1, g5 q o1 a1 tp S1]) C fp_X8_43 hP hD hS 0 rfl rfl rfl (Nat.le_of_ble_eq_true rfl) dX8_readTurret_98 (by rw [e2]; rfl) (fun H locs hP hD hS => ?_)
  cases hF
  exact k_vret C hP hS dX8_readTurret_101
set_option maxRecDepth 100000 in
set_option maxHeartbeats 4000000 in
theorem c_X8_readTurret (l : Launch) (D : va_G) (q : Nat → ClassId) (tp : Nat) (o0 : Nat) (a0 : Nat → Nat) (S0 : St) (o1 : Nat) (a1 : Nat → Nat) (S1 : St) (sz : Nat) {T0 : St} {T1 : St} (hF : F_X8_readTurret S0 S1 = some (T0, T1)) : Met l yX8_readTurret (Cond.code yX8_readTurret cX8_readTurret 3 none :: TB) rm_X8_readTurret (PC D q [.ref o0, .ref o1] (fl [g8 q o0 a0 S0, g5 q o1 a1 tp S1]) sz) ((fun A => QV D A (fl [g8 q o0 a0 T0, g5 q o1 a1 tp T1])) (va_A (fl [g8 q o0 a0 S0, g5 q o1 a1 tp S1]) sz)) 0 0 (va_A (fl [g8 q o0 a0 S0, g5 q o1 a1 tp S1]) sz) := by
  refine k_met (w0 := fl [g8 q o0 a0 S0, g5 q o1 a1 tp S1]) (Q := fun A => QV D A (fl [g8 q o0 a0 T0, g5 q o1 a1 tp T1])) (by decide +kernel) (Nat.le_of_ble_eq_true rfl) ?_
  intro p e s m args below meth c A ls C hP hD hS hl
  have hl : lv_has ls 3 [(0, .ref o0), (1, .ref o1)] := hl
  unfold F_X8_readTurret at hF
  have C : cx p s m args meth c cX8_readTurret 3 none RX8 D q A := C
  obtain ⟨hx, hb, hr, hml, hown, hts, hlk, hA, hK, hN, hV⟩ := id C
  refine lv_aload_n hx hb dX8_readTurret_0 rfl (lv_at hl 0 rfl) ?_
  refine k_get (v := .int (S0.1 0)) C fg_X8_43 hP 0 rfl rfl dX8_readTurret_1 ?_
  refine lv_istore_n (lv' := [(2, .int (S0.1 0)), (0, .ref o0), (1, .ref o1)]) hx hb dX8_readTurret_4 rfl hl (by decide) rfl (fun ls hl => ?_)
  refine lv_iload_n hx hb dX8_readTurret_5 rfl (lv_at hl 0 rfl) ?_
  refine lv_bipush (v := (7 : Int32)) hx hb dX8_readTurret_6 (by decide) ?_
  refine lv_icmp_lt (tgt := 17) hx hb dX8_readTurret_8 (by decide) (fun c1 => ?_) (fun c1 => ?_)
  · have hF := op_t hF c1
    refine lv_aload_n hx hb dX8_readTurret_17 rfl (lv_at hl 2 rfl) ?_
    obtain ⟨U3, hc2, hF⟩ := ob1_s hF
    refine k_vgrp (gs8 := [g8 q o0 a0 S0, g5 q o1 a1 tp U3]) C (k_rV (As := []) (rest := []) C (c_X5_next l D q tp o1 a1 S1 _ hc2) kc_X5_next ml_X8_106 rfl rfl (by decide) (flP hP [1] rfl) (flD hD [1] (by decide) rfl) hS (va_recv hK hP (ci := 5) (q0 := 11) rfl rfl) rfl hl.1 rfl (Nat.le_of_ble_eq_true rfl) dX8_readTurret_18 (by decide)) hP hD hS [1] [0] [g8 q o0 a0 S0] 2 (by decide) rfl rfl rfl rfl rfl rfl (by simp only [List.map_cons, List.map_nil, gad5, gad8]) (fun H locs hP hD hS => ?_)
    refine lv_aload_n hx hb dX8_readTurret_21 rfl (lv_at hl 1 rfl) ?_
    refine k_get (v := .ref (a0 2)) C fg_X8_9 hP 0 rfl rfl dX8_readTurret_22 ?_
    refine lv_iload_n hx hb dX8_readTurret_25 rfl (lv_at hl 0 rfl) ?_
    refine lv_aload_n hx hb dX8_readTurret_26 rfl (lv_at hl 2 rfl) ?_
    refine lv_aload_n hx hb dX8_readTurret_27 rfl (lv_at hl 1 rfl) ?_
    obtain ⟨r5, U6, hc4, hF⟩ := ob2_s hF
    refine k_lgrp (gs8 := [g8 q o0 a0 S0, g5 q o1 a1 tp U6]) C (k_rV (As := [.ref o0]) (rest := [.int (S0.1 0), .ref (a0 2)]) C (c_X5_needNewName l D q tp o1 a1 U3 o0 a0 S0 _ hc4) kc_X5_needNewName ml_X8_109 rfl rfl (by decide) (flP hP [1, 0] rfl) (flD hD [1, 0] (by decide) rfl) hS (va_recv hK hP (ci := 5) (q0 := 11) rfl rfl) rfl hl.1 rfl (Nat.le_of_ble_eq_true rfl) dX8_readTurret_28 (by decide)) hP hD hS [1, 0] [] [] 2 (by decide) rfl rfl rfl rfl rfl rfl (by simp only [List.map_cons, List.map_nil, gad5, gad8]) (fun H locs hP hD hS => ?_)
    obtain ⟨h7, hF⟩ := op_ck hF
    obtain ⟨U8, e9, hF⟩ := nw_s hF
    refine k_lst (f := S0.2.2.2 1) (W8 := fl [g8 q o0 a0 U8, g5 q o1 a1 tp U6]) C hP hD hS 1 rfl h7 dX8_readTurret_31 (by rw [e9]; rfl) (fun H locs hP hD hS => ?_)
    refine lv_aload_n hx hb dX8_readTurret_32 rfl (lv_at hl 1 rfl) ?_
    refine k_get (v := .ref (a0 3)) C fg_X8_15 hP 0 rfl rfl dX8_readTurret_33 ?_
    refine lv_iload_n hx hb dX8_readTurret_36 rfl (lv_at hl 0 rfl) ?_
    refine lv_aload_n hx hb dX8_readTurret_37 rfl (lv_at hl 2 rfl) ?_
    refine lv_iconst (v := (5 : Int32)) hx hb dX8_readTurret_38 (by decide) ?_
    refine lv_iconst (v := (4 : Int32)) hx hb dX8_readTurret_39 (by decide) ?_
    obtain ⟨r11, U12, hc10, hF⟩ := ob2_s hF
    refine k_igrp (gs8 := [g8 q o0 a0 U8, g5 q o1 a1 tp U12]) C (k_rV (As := [.int (5 : Int32), .int (4 : Int32)]) (rest := [.int (S0.1 0), .ref (a0 3)]) C (c_X5_needWordFrom l D q tp o1 a1 U6 _ (5 : Int32) (4 : Int32) hc10) kc_X5_needWordFrom ml_X8_113 rfl rfl (by decide) (flP hP [1] rfl) (flD hD [1] (by decide) rfl) hS (va_recv hK hP (ci := 5) (q0 := 11) rfl rfl) rfl hl.1 rfl (Nat.le_of_ble_eq_true rfl) dX8_readTurret_40 (by decide)) hP hD hS [1] [0] [g8 q o0 a0 U8] 2 (by decide) rfl rfl rfl rfl rfl rfl (by simp only [List.map_cons, List.map_nil, gad5, gad8]) (fun H locs hP hD hS => ?_)
    obtain ⟨h13, hF⟩ := op_ck hF
    obtain ⟨U14, e15, hF⟩ := nw_s hF
    refine k_ist (f := U8.2.2.1 2) (W8 := fl [g8 q o0 a0 U14, g5 q o1 a1 tp U12]) C hP hD hS 2 rfl h13 dX8_readTurret_43 (by rw [e15]; rfl) (fun H locs hP hD hS => ?_)
    refine lv_aload_n hx hb dX8_readTurret_44 rfl (lv_at hl 1 rfl) ?_
    refine k_get (v := .ref (a0 4)) C fg_X8_19 hP 0 rfl rfl dX8_readTurret_45 ?_
    refine lv_iload_n hx hb dX8_readTurret_48 rfl (lv_at hl 0 rfl) ?_
    refine lv_aload_n hx hb dX8_readTurret_49 rfl (lv_at hl 2 rfl) ?_
    refine lv_bipush (v := (9 : Int32)) hx hb dX8_readTurret_50 (by decide) ?_
    refine lv_bipush (v := (8 : Int32)) hx hb dX8_readTurret_52 (by decide) ?_
    obtain ⟨r17, U18, hc16, hF⟩ := ob2_s hF
    refine k_igrp (gs8 := [g8 q o0 a0 U14, g5 q o1 a1 tp U18]) C (k_rV (As := [.int (9 : Int32), .int (8 : Int32)]) (rest := [.int (S0.1 0), .ref (a0 4)]) C (c_X5_needWordFrom l D q tp o1 a1 U12 _ (9 : Int32) (8 : Int32) hc16) kc_X5_needWordFrom ml_X8_113 rfl rfl (by decide) (flP hP [1] rfl) (flD hD [1] (by decide) rfl) hS (va_recv hK hP (ci := 5) (q0 := 11) rfl rfl) rfl hl.1 rfl (Nat.le_of_ble_eq_true rfl) dX8_readTurret_54 (by decide)) hP hD hS [1] [0] [g8 q o0 a0 U14] 2 (by decide) rfl rfl rfl rfl rfl rfl (by simp only [List.map_cons, List.map_nil, gad5, gad8]) (fun H locs hP hD hS => ?_)
    obtain ⟨h19, hF⟩ := op_ck hF
    obtain ⟨U20, e21, hF⟩ := nw_s hF
    refine k_ist (f := U14.2.2.1 3) (W8 := fl [g8 q o0 a0 U20, g5 q o1 a1 tp U18]) C hP hD hS 3 rfl h19 dX8_readTurret_57 (by rw [e21]; rfl) (fun H locs hP hD hS => ?_)
    refine lv_aload_n hx hb dX8_readTurret_58 rfl (lv_at hl 1 rfl) ?_
    refine k_get (v := .ref (a0 5)) C fg_X8_22 hP 0 rfl rfl dX8_readTurret_59 ?_
    refine lv_iload_n hx hb dX8_readTurret_62 rfl (lv_at hl 0 rfl) ?_
    refine lv_aload_n hx hb dX8_readTurret_63 rfl (lv_at hl 2 rfl) ?_
    refine lv_iconst (v := (1 : Int32)) hx hb dX8_readTurret_64 (by decide) ?_
    refine lv_bipush (v := (60 : Int32)) hx hb dX8_readTurret_65 (by decide) ?_
    obtain ⟨r23, U24, hc22, hF⟩ := ob2_s hF
    refine k_igrp (gs8 := [g8 q o0 a0 U20, g5 q o1 a1 tp U24]) C (k_rV (As := [.int (1 : Int32), .int (60 : Int32)]) (rest := [.int (S0.1 0), .ref (a0 5)]) C (c_X5_needNumber l D q tp o1 a1 U18 _ (1 : Int32) (60 : Int32) hc22) kc_X5_needNumber ml_X8_117 rfl rfl (by decide) (flP hP [1] rfl) (flD hD [1] (by decide) rfl) hS (va_recv hK hP (ci := 5) (q0 := 11) rfl rfl) rfl hl.1 rfl (Nat.le_of_ble_eq_true rfl) dX8_readTurret_67 (by decide)) hP hD hS [1] [0] [g8 q o0 a0 U20] 2 (by decide) rfl rfl rfl rfl rfl rfl (by simp only [List.map_cons, List.map_nil, gad5, gad8]) (fun H locs hP hD hS => ?_)
    obtain ⟨h25, hF⟩ := op_ck hF
    obtain ⟨U26, e27, hF⟩ := nw_s hF
    refine k_ist (f := U20.2.2.1 4) (W8 := fl [g8 q o0 a0 U26, g5 q o1 a1 tp U24]) C hP hD hS 4 rfl h25 dX8_readTurret_70 (by rw [e27]; rfl) (fun H locs hP hD hS => ?_)
    refine lv_aload_n hx hb dX8_readTurret_71 rfl (lv_at hl 2 rfl) ?_
    refine lv_iconst (v := (4 : Int32)) hx hb dX8_readTurret_72 (by decide) ?_
    obtain ⟨r29, U30, hc28, hF⟩ := ob2_s hF
    refine k_igrp (gs8 := [g8 q o0 a0 U26, g5 q o1 a1 tp U30]) C (k_rV (As := [.int (4 : Int32)]) (rest := []) C (c_X5_takeWord l D q tp o1 a1 U24 _ (4 : Int32) hc28) kc_X5_takeWord ml_X8_96 rfl rfl (by decide) (flP hP [1] rfl) (flD hD [1] (by decide) rfl) hS (va_recv hK hP (ci := 5) (q0 := 11) rfl rfl) rfl hl.1 rfl (Nat.le_of_ble_eq_true rfl) dX8_readTurret_73 (by decide)) hP hD hS [1] [0] [g8 q o0 a0 U26] 2 (by decide) rfl rfl rfl rfl rfl rfl (by simp only [List.map_cons, List.map_nil, gad5, gad8]) (fun H locs hP hD hS => ?_)
    refine lv_if_eq (tgt := 91) hx hb dX8_readTurret_76 (by decide) (fun c31 => ?_) (fun c31 => ?_)
    · have hF := op_t hF c31
      exact b_X8_readTurret_91 C hF hP hD hS (lv_sub hl [1] rfl)
    · have hF := op_f hF c31
      refine lv_aload_n hx hb dX8_readTurret_79 rfl (lv_at hl 1 rfl) ?_
      refine lv_dup hx hb dX8_readTurret_80 rfl ?_
      refine k_get (v := .int (U26.1 5)) C fg_X8_53 hP 0 rfl rfl dX8_readTurret_81 ?_
      refine lv_iconst (v := (1 : Int32)) hx hb dX8_readTurret_84 (by decide) ?_
      refine lv_iload_n hx hb dX8_readTurret_85 rfl (lv_at hl 0 rfl) ?_
      refine lv_ishl hx hb dX8_readTurret_86 ?_
      refine lv_ior hx hb dX8_readTurret_87 ?_
      obtain ⟨U32, e33, hF⟩ := nw_s hF
      refine k_put (W8 := fl [g8 q o0 a0 U32, g5 q o1 a1 tp U30]) C fp_X8_53 hP hD hS 0 rfl rfl rfl (Nat.le_of_ble_eq_true rfl) dX8_readTurret_88 (by rw [e33]; rfl) (fun H locs hP hD hS => ?_)
      exact b_X8_readTurret_91 C hF hP hD hS (lv_sub hl [1] rfl)
  · have hF := op_f hF c1
    refine lv_aload_n hx hb dX8_readTurret_11 rfl (lv_at hl 2 rfl) ?_
    refine lv_iconst (v := (4 : Int32)) hx hb dX8_readTurret_12 (by decide) ?_
    obtain ⟨U35, hc34, hF⟩ := ob1_s hF
    refine k_vgrp (gs8 := [g8 q o0 a0 S0, g5 q o1 a1 tp U35]) C (k_rV (As := [.int (4 : Int32)]) (rest := []) C (c_X5_fail l D q tp o1 a1 S1 _ (4 : Int32) hc34) kc_X5_fail ml_X8_103 rfl rfl (by decide) (flP hP [1] rfl) (flD hD [1] (by decide) rfl) hS (va_recv hK hP (ci := 5) (q0 := 11) rfl rfl) rfl hl.1 rfl (Nat.le_of_ble_eq_true rfl) dX8_readTurret_13 (by decide)) hP hD hS [1] [0] [g8 q o0 a0 S0] 2 (by decide) rfl rfl rfl rfl rfl rfl (by simp only [List.map_cons, List.map_nil, gad5, gad8]) (fun H locs hP hD hS => ?_)
    cases hF
    exact k_vret C hP hS dX8_readTurret_16

abbrev rm_X8_readPerson : Room := ({ frames := 2, cells := 0, slots := 0, locals := 46 } : Room)
def F_X8_readPerson (S0 : St) (S1 : St) : Option (St × St) := if (S0.1 7) < (6 : Int32) then (ob1 (F_X5_next S1) fun U3 => ob2 (F_X5_needNewName U3 S0) fun r5 U6 => if oob (S0.1 7) 6 then none else nw (sJ S0 8 (S0.1 7) r5) fun U8 => ob2 (F_X5_needNumber U6 (0 : Int32) (60 : Int32)) fun r11 U12 => if oob (S0.1 7) 6 then none else nw (sA U8 11 (S0.1 7) r11) fun U14 => if oob (S0.1 7) 6 then none else nw (sA U14 9 (S0.1 7) (0 : Int32)) fun U17 => if oob (S0.1 7) 6 then none else nw (sA U17 10 (S0.1 7) (0 : Int32)) fun U20 => if oob (S0.1 7) 6 then none else nw (sA U20 12 (S0.1 7) (-1 : Int32)) fun U23 => if oob (S0.1 7) 6 then none else nw (sA U23 13 (S0.1 7) (0 : Int32)) fun U26 => nw (sI U26 7 ((U26.1 7) + (1 : Int32))) fun U28 => some (U28, U12)) else (ob1 (F_X5_fail S1 (4 : Int32)) fun U31 => some (S0, U31))
set_option maxRecDepth 100000 in
set_option maxHeartbeats 4000000 in
theorem c_X8_readPerson (l : Launch) (D : va_G) (q : Nat → ClassId) (tp : Nat) (o0 : Nat) (a0 : Nat → Nat) (S0 : St) (o1 : Nat) (a1 : Nat → Nat) (S1 : St) (sz : Nat) {T0 : St} {T1 : St} (hF : F_X8_readPerson S0 S1 = some (T0, T1)) : Met l yX8_readPerson (Cond.code yX8_readPerson cX8_readPerson 3 none :: TB) rm_X8_readPerson (PC D q [.ref o0, .ref o1] (fl [g8 q o0 a0 S0, g5 q o1 a1 tp S1]) sz) ((fun A => QV D A (fl [g8 q o0 a0 T0, g5 q o1 a1 tp T1])) (va_A (fl [g8 q o0 a0 S0, g5 q o1 a1 tp S1]) sz)) 0 0 (va_A (fl [g8 q o0 a0 S0, g5 q o1 a1 tp S1]) sz) := by
  refine k_met (w0 := fl [g8 q o0 a0 S0, g5 q o1 a1 tp S1]) (Q := fun A => QV D A (fl [g8 q o0 a0 T0, g5 q o1 a1 tp T1])) (by decide +kernel) (Nat.le_of_ble_eq_true rfl) ?_
  intro p e s m args below meth c A ls C hP hD hS hl
  have hl : lv_has ls 3 [(0, .ref o0), (1, .ref o1)] := hl
  unfold F_X8_readPerson at hF
  have C : cx p s m args meth c cX8_readPerson 3 none RX8 D q A := C
  obtain ⟨hx, hb, hr, hml, hown, hts, hlk, hA, hK, hN, hV⟩ := id C
  refine lv_aload_n hx hb dX8_readPerson_0 rfl (lv_at hl 0 rfl) ?_
  refine k_get (v := .int (S0.1 7)) C fg_X8_59 hP 0 rfl rfl dX8_readPerson_1 ?_
  refine lv_istore_n (lv' := [(2, .int (S0.1 7)), (0, .ref o0), (1, .ref o1)]) hx hb dX8_readPerson_4 rfl hl (by decide) rfl (fun ls hl => ?_)
  refine lv_iload_n hx hb dX8_readPerson_5 rfl (lv_at hl 0 rfl) ?_
  refine lv_bipush (v := (6 : Int32)) hx hb dX8_readPerson_6 (by decide) ?_
  refine lv_icmp_lt (tgt := 17) hx hb dX8_readPerson_8 (by decide) (fun c1 => ?_) (fun c1 => ?_)
  · have hF := op_t hF c1
    refine lv_aload_n hx hb dX8_readPerson_17 rfl (lv_at hl 2 rfl) ?_
    obtain ⟨U3, hc2, hF⟩ := ob1_s hF
    refine k_vgrp (gs8 := [g8 q o0 a0 S0, g5 q o1 a1 tp U3]) C (k_rV (As := []) (rest := []) C (c_X5_next l D q tp o1 a1 S1 _ hc2) kc_X5_next ml_X8_106 rfl rfl (by decide) (flP hP [1] rfl) (flD hD [1] (by decide) rfl) hS (va_recv hK hP (ci := 5) (q0 := 11) rfl rfl) rfl hl.1 rfl (Nat.le_of_ble_eq_true rfl) dX8_readPerson_18 (by decide)) hP hD hS [1] [0] [g8 q o0 a0 S0] 2 (by decide) rfl rfl rfl rfl rfl rfl (by simp only [List.map_cons, List.map_nil, gad5, gad8]) (fun H locs hP hD hS => ?_)
    refine lv_aload_n hx hb dX8_readPerson_21 rfl (lv_at hl 1 rfl) ?_
    refine k_get (v := .ref (a0 9)) C fg_X8_25 hP 0 rfl rfl dX8_readPerson_22 ?_
    refine lv_iload_n hx hb dX8_readPerson_25 rfl (lv_at hl 0 rfl) ?_
    refine lv_aload_n hx hb dX8_readPerson_26 rfl (lv_at hl 2 rfl) ?_
    refine lv_aload_n hx hb dX8_readPerson_27 rfl (lv_at hl 1 rfl) ?_
    obtain ⟨r5, U6, hc4, hF⟩ := ob2_s hF
    refine k_lgrp (gs8 := [g8 q o0 a0 S0, g5 q o1 a1 tp U6]) C (k_rV (As := [.ref o0]) (rest := [.int (S0.1 7), .ref (a0 9)]) C (c_X5_needNewName l D q tp o1 a1 U3 o0 a0 S0 _ hc4) kc_X5_needNewName ml_X8_109 rfl rfl (by decide) (flP hP [1, 0] rfl) (flD hD [1, 0] (by decide) rfl) hS (va_recv hK hP (ci := 5) (q0 := 11) rfl rfl) rfl hl.1 rfl (Nat.le_of_ble_eq_true rfl) dX8_readPerson_28 (by decide)) hP hD hS [1, 0] [] [] 2 (by decide) rfl rfl rfl rfl rfl rfl (by simp only [List.map_cons, List.map_nil, gad5, gad8]) (fun H locs hP hD hS => ?_)
    obtain ⟨h7, hF⟩ := op_ck hF
    obtain ⟨U8, e9, hF⟩ := nw_s hF
    refine k_lst (f := S0.2.2.2 8) (W8 := fl [g8 q o0 a0 U8, g5 q o1 a1 tp U6]) C hP hD hS 5 rfl h7 dX8_readPerson_31 (by rw [e9]; rfl) (fun H locs hP hD hS => ?_)
    refine lv_aload_n hx hb dX8_readPerson_32 rfl (lv_at hl 1 rfl) ?_
    refine k_get (v := .ref (a0 12)) C fg_X8_34 hP 0 rfl rfl dX8_readPerson_33 ?_
    refine lv_iload_n hx hb dX8_readPerson_36 rfl (lv_at hl 0 rfl) ?_
    refine lv_aload_n hx hb dX8_readPerson_37 rfl (lv_at hl 2 rfl) ?_
    refine lv_iconst (v := (0 : Int32)) hx hb dX8_readPerson_38 (by decide) ?_
    refine lv_bipush (v := (60 : Int32)) hx hb dX8_readPerson_39 (by decide) ?_
    obtain ⟨r11, U12, hc10, hF⟩ := ob2_s hF
    refine k_igrp (gs8 := [g8 q o0 a0 U8, g5 q o1 a1 tp U12]) C (k_rV (As := [.int (0 : Int32), .int (60 : Int32)]) (rest := [.int (S0.1 7), .ref (a0 12)]) C (c_X5_needNumber l D q tp o1 a1 U6 _ (0 : Int32) (60 : Int32) hc10) kc_X5_needNumber ml_X8_117 rfl rfl (by decide) (flP hP [1] rfl) (flD hD [1] (by decide) rfl) hS (va_recv hK hP (ci := 5) (q0 := 11) rfl rfl) rfl hl.1 rfl (Nat.le_of_ble_eq_true rfl) dX8_readPerson_41 (by decide)) hP hD hS [1] [0] [g8 q o0 a0 U8] 2 (by decide) rfl rfl rfl rfl rfl rfl (by simp only [List.map_cons, List.map_nil, gad5, gad8]) (fun H locs hP hD hS => ?_)
    obtain ⟨h13, hF⟩ := op_ck hF
    obtain ⟨U14, e15, hF⟩ := nw_s hF
    refine k_ist (f := U8.2.2.1 11) (W8 := fl [g8 q o0 a0 U14, g5 q o1 a1 tp U12]) C hP hD hS 8 rfl h13 dX8_readPerson_44 (by rw [e15]; rfl) (fun H locs hP hD hS => ?_)
    refine lv_aload_n hx hb dX8_readPerson_45 rfl (lv_at hl 1 rfl) ?_
    refine k_get (v := .ref (a0 10)) C fg_X8_28 hP 0 rfl rfl dX8_readPerson_46 ?_
    refine lv_iload_n hx hb dX8_readPerson_49 rfl (lv_at hl 0 rfl) ?_
    refine lv_iconst (v := (0 : Int32)) hx hb dX8_readPerson_50 (by decide) ?_
    obtain ⟨h16, hF⟩ := op_ck hF
    obtain ⟨U17, e18, hF⟩ := nw_s hF
    refine k_ist (f := U14.2.2.1 9) (W8 := fl [g8 q o0 a0 U17, g5 q o1 a1 tp U12]) C hP hD hS 6 rfl h16 dX8_readPerson_51 (by rw [e18]; rfl) (fun H locs hP hD hS => ?_)
    refine lv_aload_n hx hb dX8_readPerson_52 rfl (lv_at hl 1 rfl) ?_
    refine k_get (v := .ref (a0 11)) C fg_X8_31 hP 0 rfl rfl dX8_readPerson_53 ?_
    refine lv_iload_n hx hb dX8_readPerson_56 rfl (lv_at hl 0 rfl) ?_
    refine lv_iconst (v := (0 : Int32)) hx hb dX8_readPerson_57 (by decide) ?_
    obtain ⟨h19, hF⟩ := op_ck hF
    obtain ⟨U20, e21, hF⟩ := nw_s hF
    refine k_ist (f := U17.2.2.1 10) (W8 := fl [g8 q o0 a0 U20, g5 q o1 a1 tp U12]) C hP hD hS 7 rfl h19 dX8_readPerson_58 (by rw [e21]; rfl) (fun H locs hP hD hS => ?_)
    refine lv_aload_n hx hb dX8_readPerson_59 rfl (lv_at hl 1 rfl) ?_
    refine k_get (v := .ref (a0 13)) C fg_X8_37 hP 0 rfl rfl dX8_readPerson_60 ?_
    refine lv_iload_n hx hb dX8_readPerson_63 rfl (lv_at hl 0 rfl) ?_
    refine lv_iconst (v := (-1 : Int32)) hx hb dX8_readPerson_64 (by decide) ?_
    obtain ⟨h22, hF⟩ := op_ck hF
    obtain ⟨U23, e24, hF⟩ := nw_s hF
    refine k_ist (f := U20.2.2.1 12) (W8 := fl [g8 q o0 a0 U23, g5 q o1 a1 tp U12]) C hP hD hS 9 rfl h22 dX8_readPerson_65 (by rw [e24]; rfl) (fun H locs hP hD hS => ?_)
    refine lv_aload_n hx hb dX8_readPerson_66 rfl (lv_at hl 1 rfl) ?_
    refine k_get (v := .ref (a0 14)) C fg_X8_40 hP 0 rfl rfl dX8_readPerson_67 ?_
    refine lv_iload_n hx hb dX8_readPerson_70 rfl (lv_at hl 0 rfl) ?_
    refine lv_iconst (v := (0 : Int32)) hx hb dX8_readPerson_71 (by decide) ?_
    obtain ⟨h25, hF⟩ := op_ck hF
    obtain ⟨U26, e27, hF⟩ := nw_s hF
    refine k_ist (f := U23.2.2.1 13) (W8 := fl [g8 q o0 a0 U26, g5 q o1 a1 tp U12]) C hP hD hS 10 rfl h25 dX8_readPerson_72 (by rw [e27]; rfl) (fun H locs hP hD hS => ?_)
    refine lv_aload_n hx hb dX8_readPerson_73 rfl (lv_at hl 1 rfl) ?_
    refine lv_dup hx hb dX8_readPerson_74 rfl ?_
    refine k_get (v := .int (U26.1 7)) C fg_X8_59 hP 0 rfl rfl dX8_readPerson_75 ?_
    refine lv_iconst (v := (1 : Int32)) hx hb dX8_readPerson_78 (by decide) ?_
    refine lv_iadd hx hb dX8_readPerson_79 ?_
    obtain ⟨U28, e29, hF⟩ := nw_s hF
    refine k_put (W8 := fl [g8 q o0 a0 U28, g5 q o1 a1 tp U12]) C fp_X8_59 hP hD hS 0 rfl rfl rfl (Nat.le_of_ble_eq_true rfl) dX8_readPerson_80 (by rw [e29]; rfl) (fun H locs hP hD hS => ?_)
    cases hF
    exact k_vret C hP hS dX8_readPerson_83
  · have hF := op_f hF c1
    refine lv_aload_n hx hb dX8_readPerson_11 rfl (lv_at hl 2 rfl) ?_
    refine lv_iconst (v := (4 : Int32)) hx hb dX8_readPerson_12 (by decide) ?_
    obtain ⟨U31, hc30, hF⟩ := ob1_s hF
    refine k_vgrp (gs8 := [g8 q o0 a0 S0, g5 q o1 a1 tp U31]) C (k_rV (As := [.int (4 : Int32)]) (rest := []) C (c_X5_fail l D q tp o1 a1 S1 _ (4 : Int32) hc30) kc_X5_fail ml_X8_103 rfl rfl (by decide) (flP hP [1] rfl) (flD hD [1] (by decide) rfl) hS (va_recv hK hP (ci := 5) (q0 := 11) rfl rfl) rfl hl.1 rfl (Nat.le_of_ble_eq_true rfl) dX8_readPerson_13 (by decide)) hP hD hS [1] [0] [g8 q o0 a0 S0] 2 (by decide) rfl rfl rfl rfl rfl rfl (by simp only [List.map_cons, List.map_nil, gad5, gad8]) (fun H locs hP hD hS => ?_)
    cases hF
    exact k_vret C hP hS dX8_readPerson_16
