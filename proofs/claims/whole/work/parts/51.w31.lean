abbrev rm_X4_plan : Room := ({ frames := 4, cells := 0, slots := 0, locals := 92 } : Room)
def F_X4_plan_128 (k83 : Int32 × Int32 × Int32 × St × St → Option (Int32 × St)) (x2 : Int32) (x4 : Int32) (s0 : Int32) (s1 : Int32) (S0 : St) (S1 : St) : Option (Int32 × St) := k83 (x2, (s0 ||| s1), (x4 + 1), S0, S1)
def F_X4_plan_83 (k83 : Int32 × Int32 × Int32 × St × St → Option (Int32 × St)) (x2 : Int32) (x3 : Int32) (x4 : Int32) (S0 : St) (S1 : St) : Option (Int32 × St) := if x2 ≤ x4 then (if oob (0 : Int32) 896 then none else some ((S0.2.2.1 0 (0 : Int32).toNatClampNeg), S0)) else (ob1 (F_X4_firstBest S0 x4 x3) fun r4 => if oob x4 6 then none else nw (sA S0 4 x4 r4) fun U6 => if oob x4 6 then none else if (U6.2.2.1 4 x4.toNatClampNeg) = (-1 : Int32) then (F_X4_plan_128 k83 x2 x4 x3 (0 : Int32) U6 S1) else (if oob x4 6 then none else F_X4_plan_128 k83 x2 x4 x3 ((1 : Int32) <<< ((U6.2.2.1 4 x4.toNatClampNeg) &&& 31)) U6 S1))
def L_X4_plan_83 (x2 : Int32) (x3 : Int32) (x4 : Int32) (S0 : St) (S1 : St) : Option (Int32 × St) := lp (fun kz z => F_X4_plan_83 kz z.1 z.2.1 z.2.2.1 z.2.2.2.1 z.2.2.2.2) FU (x2, x3, x4, S0, S1)
def F_X4_plan_38 (k25 : Int32 × Int32 × St × St → Option (Int32 × St)) (k38 : Int32 × Int32 × Int32 × St × St → Option (Int32 × St)) (x2 : Int32) (x3 : Int32) (x4 : Int32) (S0 : St) (S1 : St) : Option (Int32 × St) := if (128 : Int32) ≤ x4 then (k25 (x2, (x3 + (-1)), S0, S1)) else (ob1 (F_X4_bestOf S0 x3 x4) fun r3 => if oob ((x3 * (128 : Int32)) + x4) 896 then none else nw (sA S0 0 ((x3 * (128 : Int32)) + x4) r3) fun U5 => k38 (x2, x3, (x4 + 1), U5, S1))
def L_X4_plan_38 (k25 : Int32 × Int32 × St × St → Option (Int32 × St)) (x2 : Int32) (x3 : Int32) (x4 : Int32) (S0 : St) (S1 : St) : Option (Int32 × St) := lp (fun kz z => F_X4_plan_38 k25 kz z.1 z.2.1 z.2.2.1 z.2.2.2.1 z.2.2.2.2) FU (x2, x3, x4, S0, S1)
def F_X4_plan_25 (k25 : Int32 × Int32 × St × St → Option (Int32 × St)) (x2 : Int32) (x3 : Int32) (S0 : St) (S1 : St) : Option (Int32 × St) := if x3 < 0 then (L_X4_plan_83 x2 (0 : Int32) (0 : Int32) S0 S1) else (ob1 (F_X4_weigh S0 S1 x3) fun U3 => L_X4_plan_38 k25 x2 x3 (0 : Int32) U3 S1)
def L_X4_plan_25 (x2 : Int32) (x3 : Int32) (S0 : St) (S1 : St) : Option (Int32 × St) := lp (fun kz z => F_X4_plan_25 kz z.1 z.2.1 z.2.2.1 z.2.2.2) FU (x2, x3, S0, S1)
def F_X4_plan (S0 : St) (S1 : St) : Option (Int32 × St) := nw (sF S0 4 (fun _ => (-1 : Int32))) fun U1 => nw (sF U1 0 (fun _ => (0 : Int32))) fun U3 => L_X4_plan_25 (S1.1 7) ((S1.1 7) - (1 : Int32)) U3 S1
set_option maxRecDepth 100000 in
set_option maxHeartbeats 4000000 in
theorem b_X4_plan_128 {p : Program} {l : Launch} {e : Env} {s : State} {m : MethodId} {args : Array Value} {below : List Frame} {meth : Method} {c : Code} {D : va_G} {q : Nat → ClassId} {A : Nat → Prop} {o0 : Nat} {a0 : Nat → Nat} {o1 : Nat} {a1 : Nat → Nat} {r : Int32} {T0 : St} (C : cx p s m args meth c cX4_plan 5 (some .int) RX4 D q A) {k83 : Int32 × Int32 × Int32 × St × St → Option (Int32 × St)} (hk83 : ∀ (x2 : Int32) (x3 : Int32) (x4 : Int32) (S0 : St) (S1 : St), k83 (x2, x3, x4, S0, S1) = some (r, T0) → ∀ (H : Heap) (locs : List Loc) (ls : Array Slot), va_P D vwCl (fl [g4 q o0 a0 S0, g8 q o1 a1 S1]) H → va_D A (fl [g4 q o0 a0 S0, g8 q o1 a1 S1]) → va_S A s.heap H locs → lv_has ls 5 [(0, .ref o0), (2, .int x2), (3, .int x3), (4, .int x4)] → W p l e rm_X4_plan s m args below meth c H locs 0 0 (MQ below (QI D A r (fl [g4 q o0 a0 T0, g8 q o1 a1 S1])) args s 0 0 A) (F0 m 83 ls [])) {x2 : Int32} {x4 : Int32} {s0 : Int32} {s1 : Int32} {S0 : St} {S1 : St} (hF : F_X4_plan_128 k83 x2 x4 s0 s1 S0 S1 = some (r, T0)) {H : Heap} {locs : List Loc} (hP : va_P D vwCl (fl [g4 q o0 a0 S0, g8 q o1 a1 S1]) H) (hD : va_D A (fl [g4 q o0 a0 S0, g8 q o1 a1 S1])) (hS : va_S A s.heap H locs) {ls : Array Slot} (hl : lv_has ls 5 [(0, .ref o0), (2, .int x2), (4, .int x4)]) : W p l e rm_X4_plan s m args below meth c H locs 0 0 (MQ below (QI D A r (fl [g4 q o0 a0 T0, g8 q o1 a1 S1])) args s 0 0 A) (F0 m 128 ls [.int s1, .int s0]) := by
  unfold F_X4_plan_128 at hF
  obtain ⟨hx, hb, hr, hml, hown, hts, hlk, hA, hK, hN, hV⟩ := id C
  refine lv_ior hx hb dX4_plan_128 ?_
  refine lv_istore_n (lv' := [(3, .int (s0 ||| s1)), (0, .ref o0), (2, .int x2), (4, .int x4)]) hx hb dX4_plan_129 rfl hl (by decide) rfl (fun ls hl => ?_)
  refine lv_iinc (v := (x4 + 1)) (lv' := [(4, .int (x4 + 1)), (3, .int (s0 ||| s1)), (0, .ref o0), (2, .int x2)]) hx hb dX4_plan_130 hl (k := 3) rfl rfl (by decide) rfl (fun ls hl => ?_)
  refine lv_goto (tgt := 83) hx hb dX4_plan_133 (by decide) ?_
  exact hk83 x2 (s0 ||| s1) (x4 + 1) S0 S1 hF _ _ _ hP hD hS (lv_sub hl [2, 3, 1, 0] rfl)
set_option maxRecDepth 100000 in
set_option maxHeartbeats 4000000 in
theorem b_X4_plan_83 {p : Program} {l : Launch} {e : Env} {s : State} {m : MethodId} {args : Array Value} {below : List Frame} {meth : Method} {c : Code} {D : va_G} {q : Nat → ClassId} {A : Nat → Prop} {o0 : Nat} {a0 : Nat → Nat} {o1 : Nat} {a1 : Nat → Nat} {r : Int32} {T0 : St} (C : cx p s m args meth c cX4_plan 5 (some .int) RX4 D q A) {k83 : Int32 × Int32 × Int32 × St × St → Option (Int32 × St)} (hk83 : ∀ (x2 : Int32) (x3 : Int32) (x4 : Int32) (S0 : St) (S1 : St), k83 (x2, x3, x4, S0, S1) = some (r, T0) → ∀ (H : Heap) (locs : List Loc) (ls : Array Slot), va_P D vwCl (fl [g4 q o0 a0 S0, g8 q o1 a1 S1]) H → va_D A (fl [g4 q o0 a0 S0, g8 q o1 a1 S1]) → va_S A s.heap H locs → lv_has ls 5 [(0, .ref o0), (2, .int x2), (3, .int x3), (4, .int x4)] → W p l e rm_X4_plan s m args below meth c H locs 0 0 (MQ below (QI D A r (fl [g4 q o0 a0 T0, g8 q o1 a1 S1])) args s 0 0 A) (F0 m 83 ls [])) {x2 : Int32} {x3 : Int32} {x4 : Int32} {S0 : St} {S1 : St} (hF : F_X4_plan_83 k83 x2 x3 x4 S0 S1 = some (r, T0)) {H : Heap} {locs : List Loc} (hP : va_P D vwCl (fl [g4 q o0 a0 S0, g8 q o1 a1 S1]) H) (hD : va_D A (fl [g4 q o0 a0 S0, g8 q o1 a1 S1])) (hS : va_S A s.heap H locs) {ls : Array Slot} (hl : lv_has ls 5 [(0, .ref o0), (2, .int x2), (3, .int x3), (4, .int x4)]) : W p l e rm_X4_plan s m args below meth c H locs 0 0 (MQ below (QI D A r (fl [g4 q o0 a0 T0, g8 q o1 a1 S1])) args s 0 0 A) (F0 m 83 ls []) := by
  unfold F_X4_plan_83 at hF
  obtain ⟨hx, hb, hr, hml, hown, hts, hlk, hA, hK, hN, hV⟩ := id C
  refine lv_iload hx hb dX4_plan_83 (lv_at hl 3 rfl) ?_
  refine lv_iload_n hx hb dX4_plan_85 rfl (lv_at hl 1 rfl) ?_
  refine lv_icmp_ge (tgt := 136) hx hb dX4_plan_86 (by decide) (fun c1 => ?_) (fun c1 => ?_)
  · have hF := op_t hF c1
    refine lv_aload_n hx hb dX4_plan_136 rfl (lv_at hl 0 rfl) ?_
    refine k_get (v := .ref (a0 1)) C fg_X4_9 hP 0 rfl rfl dX4_plan_137 ?_
    refine lv_iconst (v := (0 : Int32)) hx hb dX4_plan_140 (by decide) ?_
    obtain ⟨h2, hF⟩ := op_ck hF
    refine k_ild (f := S0.2.2.1 0) C hP 1 rfl h2 dX4_plan_141 ?_
    cases hF
    exact k_iret C hP hS dX4_plan_142
  · have hF := op_f hF c1
    refine lv_aload_n hx hb dX4_plan_89 rfl (lv_at hl 0 rfl) ?_
    refine k_get (v := .ref (a0 5)) C fg_X4_24 hP 0 rfl rfl dX4_plan_90 ?_
    refine lv_iload hx hb dX4_plan_93 (lv_at hl 3 rfl) ?_
    refine lv_aload_n hx hb dX4_plan_95 rfl (lv_at hl 0 rfl) ?_
    refine lv_iload hx hb dX4_plan_96 (lv_at hl 3 rfl) ?_
    refine lv_iload_n hx hb dX4_plan_98 rfl (lv_at hl 2 rfl) ?_
    obtain ⟨r4, hc3, hF⟩ := ob1_s hF
    refine k_iro C (k_rV (As := [.int x4, .int x3]) (rest := [.int x4, .ref (a0 5)]) C (c_X4_firstBest l D q o0 a0 S0 _ x4 x3 hc3) kc_X4_firstBest ml_X4_47 rfl rfl (by decide) (flP hP [0] rfl) (flD hD [0] (by decide) rfl) hS (va_recv hK hP (ci := 4) (q0 := 0) rfl rfl) rfl hl.1 rfl (Nat.le_of_ble_eq_true rfl) dX4_plan_99 (by decide)) hP hD hS [0] [1] [g8 q o1 a1 S1] 2 (by decide) rfl rfl rfl rfl (fun H locs hP hD hS => ?_)
    obtain ⟨h5, hF⟩ := op_ck hF
    obtain ⟨U6, e7, hF⟩ := nw_s hF
    refine k_ist (f := S0.2.2.1 4) (W8 := fl [g4 q o0 a0 U6, g8 q o1 a1 S1]) C hP hD hS 5 rfl h5 dX4_plan_102 (by rw [e7]; rfl) (fun H locs hP hD hS => ?_)
    refine lv_iload_n hx hb dX4_plan_103 rfl (lv_at hl 2 rfl) ?_
    refine lv_aload_n hx hb dX4_plan_104 rfl (lv_at hl 0 rfl) ?_
    refine k_get (v := .ref (a0 5)) C fg_X4_24 hP 0 rfl rfl dX4_plan_105 ?_
    refine lv_iload hx hb dX4_plan_108 (lv_at hl 3 rfl) ?_
    obtain ⟨h8, hF⟩ := op_ck hF
    refine k_ild (f := U6.2.2.1 4) C hP 5 rfl h8 dX4_plan_110 ?_
    refine lv_iconst (v := (-1 : Int32)) hx hb dX4_plan_111 (by decide) ?_
    refine lv_icmp_ne (tgt := 119) hx hb dX4_plan_112 (by decide) (fun c9 => ?_) (fun c9 => ?_)
    · have hF := op_f hF c9
      refine lv_iconst (v := (1 : Int32)) hx hb dX4_plan_119 (by decide) ?_
      refine lv_aload_n hx hb dX4_plan_120 rfl (lv_at hl 0 rfl) ?_
      refine k_get (v := .ref (a0 5)) C fg_X4_24 hP 0 rfl rfl dX4_plan_121 ?_
      refine lv_iload hx hb dX4_plan_124 (lv_at hl 3 rfl) ?_
      obtain ⟨h10, hF⟩ := op_ck hF
      refine k_ild (f := U6.2.2.1 4) C hP 5 rfl h10 dX4_plan_126 ?_
      refine lv_ishl hx hb dX4_plan_127 ?_
      exact b_X4_plan_128 C hk83 hF hP hD hS (lv_sub hl [0, 1, 3] rfl)
    · have hF := op_t hF c9
      refine lv_iconst (v := (0 : Int32)) hx hb dX4_plan_115 (by decide) ?_
      refine lv_goto (tgt := 128) hx hb dX4_plan_116 (by decide) ?_
      exact b_X4_plan_128 C hk83 hF hP hD hS (lv_sub hl [0, 1, 3] rfl)
set_option maxRecDepth 100000 in
set_option maxHeartbeats 4000000 in
theorem l_X4_plan_83 {p : Program} {l : Launch} {e : Env} {s : State} {m : MethodId} {args : Array Value} {below : List Frame} {meth : Method} {c : Code} {D : va_G} {q : Nat → ClassId} {A : Nat → Prop} {o0 : Nat} {a0 : Nat → Nat} {o1 : Nat} {a1 : Nat → Nat} {r : Int32} {T0 : St} (C : cx p s m args meth c cX4_plan 5 (some .int) RX4 D q A) {x2 : Int32} {x3 : Int32} {x4 : Int32} {S0 : St} {S1 : St} (hF : L_X4_plan_83 x2 x3 x4 S0 S1 = some (r, T0)) : ∀ (H : Heap) (locs : List Loc) (ls : Array Slot), va_P D vwCl (fl [g4 q o0 a0 S0, g8 q o1 a1 S1]) H → va_D A (fl [g4 q o0 a0 S0, g8 q o1 a1 S1]) → va_S A s.heap H locs → lv_has ls 5 [(0, .ref o0), (2, .int x2), (3, .int x3), (4, .int x4)] → W p l e rm_X4_plan s m args below meth c H locs 0 0 (MQ below (QI D A r (fl [g4 q o0 a0 T0, g8 q o1 a1 S1])) args s 0 0 A) (F0 m 83 ls []) :=
  lp_G _ _ (fun z => ∀ (H : Heap) (locs : List Loc) (ls : Array Slot), va_P D vwCl (fl [g4 q o0 a0 z.2.2.2.1, g8 q o1 a1 z.2.2.2.2]) H → va_D A (fl [g4 q o0 a0 z.2.2.2.1, g8 q o1 a1 z.2.2.2.2]) → va_S A s.heap H locs → lv_has ls 5 [(0, .ref o0), (2, .int z.1), (3, .int z.2.1), (4, .int z.2.2.1)] → W p l e rm_X4_plan s m args below meth c H locs 0 0 (MQ below (QI D A r (fl [g4 q o0 a0 T0, g8 q o1 a1 z.2.2.2.2])) args s 0 0 A) (F0 m 83 ls [])) (fun kz hkz z hz H locs ls hP hD hS hl => b_X4_plan_83 C (fun x2 x3 x4 S0 S1 hz => hkz (x2, x3, x4, S0, S1) hz) hz hP hD hS hl) FU (x2, x3, x4, S0, S1) hF
set_option maxRecDepth 100000 in
set_option maxHeartbeats 4000000 in
theorem b_X4_plan_38 {p : Program} {l : Launch} {e : Env} {s : State} {m : MethodId} {args : Array Value} {below : List Frame} {meth : Method} {c : Code} {D : va_G} {q : Nat → ClassId} {A : Nat → Prop} {o0 : Nat} {a0 : Nat → Nat} {o1 : Nat} {a1 : Nat → Nat} {r : Int32} {T0 : St} (C : cx p s m args meth c cX4_plan 5 (some .int) RX4 D q A) {k25 : Int32 × Int32 × St × St → Option (Int32 × St)} (hk25 : ∀ (x2 : Int32) (x3 : Int32) (S0 : St) (S1 : St), k25 (x2, x3, S0, S1) = some (r, T0) → ∀ (H : Heap) (locs : List Loc) (ls : Array Slot), va_P D vwCl (fl [g4 q o0 a0 S0, g8 q o1 a1 S1]) H → va_D A (fl [g4 q o0 a0 S0, g8 q o1 a1 S1]) → va_S A s.heap H locs → lv_has ls 5 [(0, .ref o0), (1, .ref o1), (2, .int x2), (3, .int x3)] → W p l e rm_X4_plan s m args below meth c H locs 0 0 (MQ below (QI D A r (fl [g4 q o0 a0 T0, g8 q o1 a1 S1])) args s 0 0 A) (F0 m 25 ls [])) {k38 : Int32 × Int32 × Int32 × St × St → Option (Int32 × St)} (hk38 : ∀ (x2 : Int32) (x3 : Int32) (x4 : Int32) (S0 : St) (S1 : St), k38 (x2, x3, x4, S0, S1) = some (r, T0) → ∀ (H : Heap) (locs : List Loc) (ls : Array Slot), va_P D vwCl (fl [g4 q o0 a0 S0, g8 q o1 a1 S1]) H → va_D A (fl [g4 q o0 a0 S0, g8 q o1 a1 S1]) → va_S A s.heap H locs → lv_has ls 5 [(0, .ref o0), (1, .ref o1), (2, .int x2), (3, .int x3), (4, .int x4)] → W p l e rm_X4_plan s m args below meth c H locs 0 0 (MQ below (QI D A r (fl [g4 q o0 a0 T0, g8 q o1 a1 S1])) args s 0 0 A) (F0 m 38 ls [])) {x2 : Int32} {x3 : Int32} {x4 : Int32} {S0 : St} {S1 : St} (hF : F_X4_plan_38 k25 k38 x2 x3 x4 S0 S1 = some (r, T0)) {H : Heap} {locs : List Loc} (hP : va_P D vwCl (fl [g4 q o0 a0 S0, g8 q o1 a1 S1]) H) (hD : va_D A (fl [g4 q o0 a0 S0, g8 q o1 a1 S1])) (hS : va_S A s.heap H locs) {ls : Array Slot} (hl : lv_has ls 5 [(0, .ref o0), (1, .ref o1), (2, .int x2), (3, .int x3), (4, .int x4)]) : W p l e rm_X4_plan s m args below meth c H locs 0 0 (MQ below (QI D A r (fl [g4 q o0 a0 T0, g8 q o1 a1 S1])) args s 0 0 A) (F0 m 38 ls []) := by
  unfold F_X4_plan_38 at hF
  obtain ⟨hx, hb, hr, hml, hown, hts, hlk, hA, hK, hN, hV⟩ := id C
  refine lv_iload hx hb dX4_plan_38 (lv_at hl 4 rfl) ?_
  refine lv_sipush (v := (128 : Int32)) hx hb dX4_plan_40 (by decide) ?_
  refine lv_icmp_ge (tgt := 72) hx hb dX4_plan_43 (by decide) (fun c1 => ?_) (fun c1 => ?_)
  · have hF := op_t hF c1
    refine lv_iinc (v := (x3 + (-1))) (lv' := [(3, .int (x3 + (-1))), (0, .ref o0), (1, .ref o1), (2, .int x2), (4, .int x4)]) hx hb dX4_plan_72 hl (k := 3) rfl rfl (by decide) rfl (fun ls hl => ?_)
    refine lv_goto (tgt := 25) hx hb dX4_plan_75 (by decide) ?_
    exact hk25 x2 (x3 + (-1)) S0 S1 hF _ _ _ hP hD hS (lv_sub hl [1, 2, 3, 0] rfl)
  · have hF := op_f hF c1
    refine lv_aload_n hx hb dX4_plan_46 rfl (lv_at hl 0 rfl) ?_
    refine k_get (v := .ref (a0 1)) C fg_X4_9 hP 0 rfl rfl dX4_plan_47 ?_
    refine lv_iload_n hx hb dX4_plan_50 rfl (lv_at hl 3 rfl) ?_
    refine lv_sipush (v := (128 : Int32)) hx hb dX4_plan_51 (by decide) ?_
    refine lv_imul hx hb dX4_plan_54 ?_
    refine lv_iload hx hb dX4_plan_55 (lv_at hl 4 rfl) ?_
    refine lv_iadd hx hb dX4_plan_57 ?_
    refine lv_aload_n hx hb dX4_plan_58 rfl (lv_at hl 0 rfl) ?_
    refine lv_iload_n hx hb dX4_plan_59 rfl (lv_at hl 3 rfl) ?_
    refine lv_iload hx hb dX4_plan_60 (lv_at hl 4 rfl) ?_
    obtain ⟨r3, hc2, hF⟩ := ob1_s hF
    refine k_iro C (k_rV (As := [.int x3, .int x4]) (rest := [.int ((x3 * (128 : Int32)) + x4), .ref (a0 1)]) C (c_X4_bestOf l D q o0 a0 S0 _ x3 x4 hc2) kc_X4_bestOf ml_X4_43 rfl rfl (by decide) (flP hP [0] rfl) (flD hD [0] (by decide) rfl) hS (va_recv hK hP (ci := 4) (q0 := 0) rfl rfl) rfl hl.1 rfl (Nat.le_of_ble_eq_true rfl) dX4_plan_62 (by decide)) hP hD hS [0] [1] [g8 q o1 a1 S1] 2 (by decide) rfl rfl rfl rfl (fun H locs hP hD hS => ?_)
    obtain ⟨h4, hF⟩ := op_ck hF
    obtain ⟨U5, e6, hF⟩ := nw_s hF
    refine k_ist (f := S0.2.2.1 0) (W8 := fl [g4 q o0 a0 U5, g8 q o1 a1 S1]) C hP hD hS 1 rfl h4 dX4_plan_65 (by rw [e6]; rfl) (fun H locs hP hD hS => ?_)
    refine lv_iinc (v := (x4 + 1)) (lv' := [(4, .int (x4 + 1)), (0, .ref o0), (1, .ref o1), (2, .int x2), (3, .int x3)]) hx hb dX4_plan_66 hl (k := 4) rfl rfl (by decide) rfl (fun ls hl => ?_)
    refine lv_goto (tgt := 38) hx hb dX4_plan_69 (by decide) ?_
    exact hk38 x2 x3 (x4 + 1) U5 S1 hF _ _ _ hP hD hS (lv_sub hl [1, 2, 3, 4, 0] rfl)
set_option maxRecDepth 100000 in
set_option maxHeartbeats 4000000 in
theorem l_X4_plan_38 {p : Program} {l : Launch} {e : Env} {s : State} {m : MethodId} {args : Array Value} {below : List Frame} {meth : Method} {c : Code} {D : va_G} {q : Nat → ClassId} {A : Nat → Prop} {o0 : Nat} {a0 : Nat → Nat} {o1 : Nat} {a1 : Nat → Nat} {r : Int32} {T0 : St} (C : cx p s m args meth c cX4_plan 5 (some .int) RX4 D q A) {k25 : Int32 × Int32 × St × St → Option (Int32 × St)} (hk25 : ∀ (x2 : Int32) (x3 : Int32) (S0 : St) (S1 : St), k25 (x2, x3, S0, S1) = some (r, T0) → ∀ (H : Heap) (locs : List Loc) (ls : Array Slot), va_P D vwCl (fl [g4 q o0 a0 S0, g8 q o1 a1 S1]) H → va_D A (fl [g4 q o0 a0 S0, g8 q o1 a1 S1]) → va_S A s.heap H locs → lv_has ls 5 [(0, .ref o0), (1, .ref o1), (2, .int x2), (3, .int x3)] → W p l e rm_X4_plan s m args below meth c H locs 0 0 (MQ below (QI D A r (fl [g4 q o0 a0 T0, g8 q o1 a1 S1])) args s 0 0 A) (F0 m 25 ls [])) {x2 : Int32} {x3 : Int32} {x4 : Int32} {S0 : St} {S1 : St} (hF : L_X4_plan_38 k25 x2 x3 x4 S0 S1 = some (r, T0)) : ∀ (H : Heap) (locs : List Loc) (ls : Array Slot), va_P D vwCl (fl [g4 q o0 a0 S0, g8 q o1 a1 S1]) H → va_D A (fl [g4 q o0 a0 S0, g8 q o1 a1 S1]) → va_S A s.heap H locs → lv_has ls 5 [(0, .ref o0), (1, .ref o1), (2, .int x2), (3, .int x3), (4, .int x4)] → W p l e rm_X4_plan s m args below meth c H locs 0 0 (MQ below (QI D A r (fl [g4 q o0 a0 T0, g8 q o1 a1 S1])) args s 0 0 A) (F0 m 38 ls []) :=
  lp_G _ _ (fun z => ∀ (H : Heap) (locs : List Loc) (ls : Array Slot), va_P D vwCl (fl [g4 q o0 a0 z.2.2.2.1, g8 q o1 a1 z.2.2.2.2]) H → va_D A (fl [g4 q o0 a0 z.2.2.2.1, g8 q o1 a1 z.2.2.2.2]) → va_S A s.heap H locs → lv_has ls 5 [(0, .ref o0), (1, .ref o1), (2, .int z.1), (3, .int z.2.1), (4, .int z.2.2.1)] → W p l e rm_X4_plan s m args below meth c H locs 0 0 (MQ below (QI D A r (fl [g4 q o0 a0 T0, g8 q o1 a1 z.2.2.2.2])) args s 0 0 A) (F0 m 38 ls [])) (fun kz hkz z hz H locs ls hP hD hS hl => b_X4_plan_38 C hk25 (fun x2 x3 x4 S0 S1 hz => hkz (x2, x3, x4, S0, S1) hz) hz hP hD hS hl) FU (x2, x3, x4, S0, S1) hF
set_option maxRecDepth 100000 in
set_option maxHeartbeats 4000000 in
theorem b_X4_plan_25 {p : Program} {l : Launch} {e : Env} {s : State} {m : MethodId} {args : Array Value} {below : List Frame} {meth : Method} {c : Code} {D : va_G} {q : Nat → ClassId} {A : Nat → Prop} {o0 : Nat} {a0 : Nat → Nat} {o1 : Nat} {a1 : Nat → Nat} {r : Int32} {T0 : St} (C : cx p s m args meth c cX4_plan 5 (some .int) RX4 D q A) {k25 : Int32 × Int32 × St × St → Option (Int32 × St)} (hk25 : ∀ (x2 : Int32) (x3 : Int32) (S0 : St) (S1 : St), k25 (x2, x3, S0, S1) = some (r, T0) → ∀ (H : Heap) (locs : List Loc) (ls : Array Slot), va_P D vwCl (fl [g4 q o0 a0 S0, g8 q o1 a1 S1]) H → va_D A (fl [g4 q o0 a0 S0, g8 q o1 a1 S1]) → va_S A s.heap H locs → lv_has ls 5 [(0, .ref o0), (1, .ref o1), (2, .int x2), (3, .int x3)] → W p l e rm_X4_plan s m args below meth c H locs 0 0 (MQ below (QI D A r (fl [g4 q o0 a0 T0, g8 q o1 a1 S1])) args s 0 0 A) (F0 m 25 ls [])) {x2 : Int32} {x3 : Int32} {S0 : St} {S1 : St} (hF : F_X4_plan_25 k25 x2 x3 S0 S1 = some (r, T0)) {H : Heap} {locs : List Loc} (hP : va_P D vwCl (fl [g4 q o0 a0 S0, g8 q o1 a1 S1]) H) (hD : va_D A (fl [g4 q o0 a0 S0, g8 q o1 a1 S1])) (hS : va_S A s.heap H locs) {ls : Array Slot} (hl : lv_has ls 5 [(0, .ref o0), (1, .ref o1), (2, .int x2), (3, .int x3)]) : W p l e rm_X4_plan s m args below meth c H locs 0 0 (MQ below (QI D A r (fl [g4 q o0 a0 T0, g8 q o1 a1 S1])) args s 0 0 A) (F0 m 25 ls []) := by
  unfold F_X4_plan_25 at hF
  obtain ⟨hx, hb, hr, hml, hown, hts, hlk, hA, hK, hN, hV⟩ := id C
  refine lv_iload_n hx hb dX4_plan_25 rfl (lv_at hl 3 rfl) ?_
  refine lv_if_lt (tgt := 78) hx hb dX4_plan_26 (by decide) (fun c1 => ?_) (fun c1 => ?_)
  · have hF := op_t hF c1
    refine lv_iconst (v := (0 : Int32)) hx hb dX4_plan_78 (by decide) ?_
    refine lv_istore_n (lv' := [(3, .int (0 : Int32)), (0, .ref o0), (1, .ref o1), (2, .int x2)]) hx hb dX4_plan_79 rfl hl (by decide) rfl (fun ls hl => ?_)
    refine lv_iconst (v := (0 : Int32)) hx hb dX4_plan_80 (by decide) ?_
    refine lv_istore (lv' := [(4, .int (0 : Int32)), (3, .int (0 : Int32)), (0, .ref o0), (1, .ref o1), (2, .int x2)]) hx hb dX4_plan_81 hl (by decide) rfl (fun ls hl => ?_)
    exact l_X4_plan_83 C hF _ _ _ hP hD hS (lv_sub hl [2, 4, 1, 0] rfl)
  · have hF := op_f hF c1
    refine lv_aload_n hx hb dX4_plan_29 rfl (lv_at hl 0 rfl) ?_
    refine lv_aload_n hx hb dX4_plan_30 rfl (lv_at hl 1 rfl) ?_
    refine lv_iload_n hx hb dX4_plan_31 rfl (lv_at hl 3 rfl) ?_
    obtain ⟨U3, hc2, hF⟩ := ob1_s hF
    refine k_vall C (k_rV (As := [.ref o1, .int x3]) (rest := []) C (c_X4_weigh l D q o0 a0 S0 o1 a1 S1 _ x3 hc2) kc_X4_weigh ml_X4_39 rfl rfl (by decide) hP hD hS (va_recv hK hP (ci := 4) (q0 := 0) rfl rfl) rfl hl.1 rfl (Nat.le_of_ble_eq_true rfl) dX4_plan_32 (by decide)) hP hD hS (by simp only [List.map_cons, List.map_nil, gad4, gad8]) (fun H locs hP hD hS => ?_)
    refine lv_iconst (v := (0 : Int32)) hx hb dX4_plan_35 (by decide) ?_
    refine lv_istore (lv' := [(4, .int (0 : Int32)), (0, .ref o0), (1, .ref o1), (2, .int x2), (3, .int x3)]) hx hb dX4_plan_36 hl (by decide) rfl (fun ls hl => ?_)
    exact l_X4_plan_38 C hk25 hF _ _ _ hP hD hS (lv_sub hl [1, 2, 3, 4, 0] rfl)
set_option maxRecDepth 100000 in
set_option maxHeartbeats 4000000 in
theorem l_X4_plan_25 {p : Program} {l : Launch} {e : Env} {s : State} {m : MethodId} {args : Array Value} {below : List Frame} {meth : Method} {c : Code} {D : va_G} {q : Nat → ClassId} {A : Nat → Prop} {o0 : Nat} {a0 : Nat → Nat} {o1 : Nat} {a1 : Nat → Nat} {r : Int32} {T0 : St} (C : cx p s m args meth c cX4_plan 5 (some .int) RX4 D q A) {x2 : Int32} {x3 : Int32} {S0 : St} {S1 : St} (hF : L_X4_plan_25 x2 x3 S0 S1 = some (r, T0)) : ∀ (H : Heap) (locs : List Loc) (ls : Array Slot), va_P D vwCl (fl [g4 q o0 a0 S0, g8 q o1 a1 S1]) H → va_D A (fl [g4 q o0 a0 S0, g8 q o1 a1 S1]) → va_S A s.heap H locs → lv_has ls 5 [(0, .ref o0), (1, .ref o1), (2, .int x2), (3, .int x3)] → W p l e rm_X4_plan s m args below meth c H locs 0 0 (MQ below (QI D A r (fl [g4 q o0 a0 T0, g8 q o1 a1 S1])) args s 0 0 A) (F0 m 25 ls []) :=
  lp_G _ _ (fun z => ∀ (H : Heap) (locs : List Loc) (ls : Array Slot), va_P D vwCl (fl [g4 q o0 a0 z.2.2.1, g8 q o1 a1 z.2.2.2]) H → va_D A (fl [g4 q o0 a0 z.2.2.1, g8 q o1 a1 z.2.2.2]) → va_S A s.heap H locs → lv_has ls 5 [(0, .ref o0), (1, .ref o1), (2, .int z.1), (3, .int z.2.1)] → W p l e rm_X4_plan s m args below meth c H locs 0 0 (MQ below (QI D A r (fl [g4 q o0 a0 T0, g8 q o1 a1 z.2.2.2])) args s 0 0 A) (F0 m 25 ls [])) (fun kz hkz z hz H locs ls hP hD hS hl => b_X4_plan_25 C (fun x2 x3 S0 S1 hz => hkz (x2, x3, S0, S1) hz) hz hP hD hS hl) FU (x2, x3, S0, S1) hF
set_option maxRecDepth 100000 in
set_option maxHeartbeats 4000000 in
theorem c_X4_plan (l : Launch) (D : va_G) (q : Nat → ClassId) (o0 : Nat) (a0 : Nat → Nat) (S0 : St) (o1 : Nat) (a1 : Nat → Nat) (S1 : St) (sz : Nat) {r : Int32} {T0 : St} (hF : F_X4_plan S0 S1 = some (r, T0)) : Met l yX4_plan (Cond.code yX4_plan cX4_plan 5 (some .int) :: TB) rm_X4_plan (PC D q [.ref o0, .ref o1] (fl [g4 q o0 a0 S0, g8 q o1 a1 S1]) sz) ((fun A => QI D A r (fl [g4 q o0 a0 T0, g8 q o1 a1 S1])) (va_A (fl [g4 q o0 a0 S0, g8 q o1 a1 S1]) sz)) 0 0 (va_A (fl [g4 q o0 a0 S0, g8 q o1 a1 S1]) sz) := by
  refine k_met (w0 := fl [g4 q o0 a0 S0, g8 q o1 a1 S1]) (Q := fun A => QI D A r (fl [g4 q o0 a0 T0, g8 q o1 a1 S1])) (by decide +kernel) (Nat.le_of_ble_eq_true rfl) ?_
  intro p e s m args below meth c A ls C hP hD hS hl
  have hl : lv_has ls 5 [(0, .ref o0), (1, .ref o1)] := hl
  unfold F_X4_plan at hF
  have C : cx p s m args meth c cX4_plan 5 (some .int) RX4 D q A := C
  obtain ⟨hx, hb, hr, hml, hown, hts, hlk, hA, hK, hN, hV⟩ := id C
  refine lv_aload_n hx hb dX4_plan_0 rfl (lv_at hl 1 rfl) ?_
  refine k_get (v := .int (S1.1 7)) C fg_X4_33 hP 6 rfl rfl dX4_plan_1 ?_
  refine lv_istore_n (lv' := [(2, .int (S1.1 7)), (0, .ref o0), (1, .ref o1)]) hx hb dX4_plan_4 rfl hl (by decide) rfl (fun ls hl => ?_)
  refine lv_aload_n hx hb dX4_plan_5 rfl (lv_at hl 1 rfl) ?_
  refine k_get (v := .ref (a0 5)) C fg_X4_24 hP 0 rfl rfl dX4_plan_6 ?_
  refine lv_iconst (v := (-1 : Int32)) hx hb dX4_plan_9 (by decide) ?_
  obtain ⟨U1, e2, hF⟩ := nw_s hF
  refine k_vset (W8 := fl [g4 q o0 a0 U1, g8 q o1 a1 S1]) C (k_rS (As := [.ref (a0 5), .int (-1 : Int32)]) (rest := []) C (c_fill l D q (a0 5) 6 (S0.2.2.1 4) _ (-1 : Int32) (by decide)) kc_J7_fill_53178 ml_X4_27 rfl rfl (by decide) (hP.sub (ws' := [((a0 5), .inl (q 1, 6, .inl (S0.2.2.1 4)))]) [5] rfl) (hD.sub (ws' := [((a0 5), .inl (q 1, 6, .inl (S0.2.2.1 4)))]) [5] (by decide) rfl) hS rfl hl.1 rfl (Nat.le_of_ble_eq_true rfl) dX4_plan_10 (by decide)) hP hD hS 5 rfl (by rw [e2]; rfl) (fun H locs hP hD hS => ?_)
  refine lv_aload_n hx hb dX4_plan_13 rfl (lv_at hl 1 rfl) ?_
  refine k_get (v := .ref (a0 1)) C fg_X4_9 hP 0 rfl rfl dX4_plan_14 ?_
  refine lv_iconst (v := (0 : Int32)) hx hb dX4_plan_17 (by decide) ?_
  obtain ⟨U3, e4, hF⟩ := nw_s hF
  refine k_vset (W8 := fl [g4 q o0 a0 U3, g8 q o1 a1 S1]) C (k_rS (As := [.ref (a0 1), .int (0 : Int32)]) (rest := []) C (c_fill l D q (a0 1) 896 (U1.2.2.1 0) _ (0 : Int32) (by decide)) kc_J7_fill_53178 ml_X4_27 rfl rfl (by decide) (hP.sub (ws' := [((a0 1), .inl (q 1, 896, .inl (U1.2.2.1 0)))]) [1] rfl) (hD.sub (ws' := [((a0 1), .inl (q 1, 896, .inl (U1.2.2.1 0)))]) [1] (by decide) rfl) hS rfl hl.1 rfl (Nat.le_of_ble_eq_true rfl) dX4_plan_18 (by decide)) hP hD hS 1 rfl (by rw [e4]; rfl) (fun H locs hP hD hS => ?_)
  refine lv_iload_n hx hb dX4_plan_21 rfl (lv_at hl 0 rfl) ?_
  refine lv_iconst (v := (1 : Int32)) hx hb dX4_plan_22 (by decide) ?_
  refine lv_isub hx hb dX4_plan_23 ?_
  refine lv_istore_n (lv' := [(3, .int ((S1.1 7) - (1 : Int32))), (2, .int (S1.1 7)), (0, .ref o0), (1, .ref o1)]) hx hb dX4_plan_24 rfl hl (by decide) rfl (fun ls hl => ?_)
  exact l_X4_plan_25 C hF _ _ _ hP hD hS (lv_sub hl [2, 3, 1, 0] rfl)

abbrev rm_X6_findSoonest : Room := ({ frames := 3, cells := 0, slots := 0, locals := 68 } : Room)
def F_X6_findSoonest_180 (k53 : Int32 × Int32 × Int32 × Int32 × St × St → Option (Int32 × St)) (k101 : Int32 × Int32 × Int32 × Int32 × Int32 × Int32 × St × St → Option (Int32 × St)) (x3 : Int32) (x4 : Int32) (x5 : Int32) (x6 : Int32) (x7 : Int32) (x8 : Int32) (S0 : St) (S1 : St) : Option (Int32 × St) := k101 (x3, x4, x5, x6, x7, (x8 + 1), S0, S1)
def F_X6_findSoonest_101 (k53 : Int32 × Int32 × Int32 × Int32 × St × St → Option (Int32 × St)) (k101 : Int32 × Int32 × Int32 × Int32 × Int32 × Int32 × St × St → Option (Int32 × St)) (x3 : Int32) (x4 : Int32) (x5 : Int32) (x6 : Int32) (x7 : Int32) (x8 : Int32) (S0 : St) (S1 : St) : Option (Int32 × St) := if (S1.1 0) ≤ x8 then (k53 (x3, x4, x5, (x6 + 1), S0, S1)) else (ob1 (F_X8_afterClimb S1 x7 x8) fun r3 => if ((x3 >>> (x8 &&& 31)) &&& (1 : Int32)) = (1 : Int32) then (if oob r3 256 then none else if (S0.2.2.1 2 r3.toNatClampNeg) = (-2 : Int32) then (if (256 : Int32) ≤ x5 then (F_X6_findSoonest_180 k53 k101 x3 x4 x5 x6 x7 x8 S0 S1) else (if oob r3 256 then none else nw (sA S0 2 r3 x8) fun U9 => if oob r3 256 then none else nw (sA U9 1 r3 x7) fun U12 => if oob x5 256 then none else nw (sA U12 0 x5 r3) fun U15 => F_X6_findSoonest_180 k53 k101 x3 x4 (x5 + 1) x6 x7 x8 U15 S1)) else (F_X6_findSoonest_180 k53 k101 x3 x4 x5 x6 x7 x8 S0 S1)) else (F_X6_findSoonest_180 k53 k101 x3 x4 x5 x6 x7 x8 S0 S1))
def L_X6_findSoonest_101 (k53 : Int32 × Int32 × Int32 × Int32 × St × St → Option (Int32 × St)) (x3 : Int32) (x4 : Int32) (x5 : Int32) (x6 : Int32) (x7 : Int32) (x8 : Int32) (S0 : St) (S1 : St) : Option (Int32 × St) := lp (fun kz z => F_X6_findSoonest_101 k53 kz z.1 z.2.1 z.2.2.1 z.2.2.2.1 z.2.2.2.2.1 z.2.2.2.2.2.1 z.2.2.2.2.2.2.1 z.2.2.2.2.2.2.2) FU (x3, x4, x5, x6, x7, x8, S0, S1)
def F_X6_findSoonest_53 (k53 : Int32 × Int32 × Int32 × Int32 × St × St → Option (Int32 × St)) (x3 : Int32) (x4 : Int32) (x5 : Int32) (x6 : Int32) (S0 : St) (S1 : St) : Option (Int32 × St) := if x5 ≤ x6 then (some ((-1 : Int32), S0)) else (if (256 : Int32) ≤ x6 then (some ((-1 : Int32), S0)) else (if oob x6 256 then none else if ((S0.2.2.1 0 x6.toNatClampNeg) &&& x4) = x4 then (ob1 (F_X6_keepSoonest S0 (S0.2.2.1 0 x6.toNatClampNeg)) fun U6 => some ((U6.1 4), U6)) else (L_X6_findSoonest_101 k53 x3 x4 x5 x6 (S0.2.2.1 0 x6.toNatClampNeg) (0 : Int32) S0 S1)))
def L_X6_findSoonest_53 (x3 : Int32) (x4 : Int32) (x5 : Int32) (x6 : Int32) (S0 : St) (S1 : St) : Option (Int32 × St) := lp (fun kz z => F_X6_findSoonest_53 kz z.1 z.2.1 z.2.2.1 z.2.2.2.1 z.2.2.2.2.1 z.2.2.2.2.2) FU (x3, x4, x5, x6, S0, S1)
def F_X6_findSoonest (S0 : St) (S1 : St) (x2 : Int32) : Option (Int32 × St) := ob1 (F_X8_climbable S1 x2) fun r2 => if oob x2 6 then none else nw (sF S0 2 (fun _ => (-2 : Int32))) fun U4 => if oob x2 6 then none else if oob (0 : Int32) 256 then none else nw (sA U4 0 (0 : Int32) (S1.2.2.1 9 x2.toNatClampNeg)) fun U8 => if oob (0 : Int32) 256 then none else if oob (U8.2.2.1 0 (0 : Int32).toNatClampNeg) 256 then none else nw (sA U8 2 (U8.2.2.1 0 (0 : Int32).toNatClampNeg) (-1 : Int32)) fun U12 => L_X6_findSoonest_53 r2 (S1.2.2.1 10 x2.toNatClampNeg) (1 : Int32) (0 : Int32) U12 S1
set_option maxRecDepth 100000 in
set_option maxHeartbeats 4000000 in
theorem b_X6_findSoonest_180 {p : Program} {l : Launch} {e : Env} {s : State} {m : MethodId} {args : Array Value} {below : List Frame} {meth : Method} {c : Code} {D : va_G} {q : Nat → ClassId} {A : Nat → Prop} {o0 : Nat} {a0 : Nat → Nat} {o1 : Nat} {a1 : Nat → Nat} {r : Int32} {T0 : St} (C : cx p s m args meth c cX6_findSoonest 10 (some .int) RX6 D q A) {k53 : Int32 × Int32 × Int32 × Int32 × St × St → Option (Int32 × St)} (hk53 : ∀ (x3 : Int32) (x4 : Int32) (x5 : Int32) (x6 : Int32) (S0 : St) (S1 : St), k53 (x3, x4, x5, x6, S0, S1) = some (r, T0) → ∀ (H : Heap) (locs : List Loc) (ls : Array Slot), va_P D vwCl (fl [g6 q o0 a0 S0, g8 q o1 a1 S1]) H → va_D A (fl [g6 q o0 a0 S0, g8 q o1 a1 S1]) → va_S A s.heap H locs → lv_has ls 10 [(0, .ref o0), (1, .ref o1), (3, .int x3), (4, .int x4), (5, .int x5), (6, .int x6)] → W p l e rm_X6_findSoonest s m args below meth c H locs 0 0 (MQ below (QI D A r (fl [g6 q o0 a0 T0, g8 q o1 a1 S1])) args s 0 0 A) (F0 m 53 ls [])) {k101 : Int32 × Int32 × Int32 × Int32 × Int32 × Int32 × St × St → Option (Int32 × St)} (hk101 : ∀ (x3 : Int32) (x4 : Int32) (x5 : Int32) (x6 : Int32) (x7 : Int32) (x8 : Int32) (S0 : St) (S1 : St), k101 (x3, x4, x5, x6, x7, x8, S0, S1) = some (r, T0) → ∀ (H : Heap) (locs : List Loc) (ls : Array Slot), va_P D vwCl (fl [g6 q o0 a0 S0, g8 q o1 a1 S1]) H → va_D A (fl [g6 q o0 a0 S0, g8 q o1 a1 S1]) → va_S A s.heap H locs → lv_has ls 10 [(0, .ref o0), (1, .ref o1), (3, .int x3), (4, .int x4), (5, .int x5), (6, .int x6), (7, .int x7), (8, .int x8)] → W p l e rm_X6_findSoonest s m args below meth c H locs 0 0 (MQ below (QI D A r (fl [g6 q o0 a0 T0, g8 q o1 a1 S1])) args s 0 0 A) (F0 m 101 ls [])) {x3 : Int32} {x4 : Int32} {x5 : Int32} {x6 : Int32} {x7 : Int32} {x8 : Int32} {S0 : St} {S1 : St} (hF : F_X6_findSoonest_180 k53 k101 x3 x4 x5 x6 x7 x8 S0 S1 = some (r, T0)) {H : Heap} {locs : List Loc} (hP : va_P D vwCl (fl [g6 q o0 a0 S0, g8 q o1 a1 S1]) H) (hD : va_D A (fl [g6 q o0 a0 S0, g8 q o1 a1 S1])) (hS : va_S A s.heap H locs) {ls : Array Slot} (hl : lv_has ls 10 [(0, .ref o0), (1, .ref o1), (3, .int x3), (4, .int x4), (5, .int x5), (6, .int x6), (7, .int x7), (8, .int x8)]) : W p l e rm_X6_findSoonest s m args below meth c H locs 0 0 (MQ below (QI D A r (fl [g6 q o0 a0 T0, g8 q o1 a1 S1])) args s 0 0 A) (F0 m 180 ls []) := by
  unfold F_X6_findSoonest_180 at hF
  obtain ⟨hx, hb, hr, hml, hown, hts, hlk, hA, hK, hN, hV⟩ := id C
  refine lv_iinc (v := (x8 + 1)) (lv' := [(8, .int (x8 + 1)), (0, .ref o0), (1, .ref o1), (3, .int x3), (4, .int x4), (5, .int x5), (6, .int x6), (7, .int x7)]) hx hb dX6_findSoonest_180 hl (k := 7) rfl rfl (by decide) rfl (fun ls hl => ?_)
  refine lv_goto (tgt := 101) hx hb dX6_findSoonest_183 (by decide) ?_
  exact hk101 x3 x4 x5 x6 x7 (x8 + 1) S0 S1 hF _ _ _ hP hD hS (lv_sub hl [1, 2, 3, 4, 5, 6, 7, 0] rfl)
set_option maxRecDepth 100000 in
set_option maxHeartbeats 4000000 in
theorem b_X6_findSoonest_101 {p : Program} {l : Launch} {e : Env} {s : State} {m : MethodId} {args : Array Value} {below : List Frame} {meth : Method} {c : Code} {D : va_G} {q : Nat → ClassId} {A : Nat → Prop} {o0 : Nat} {a0 : Nat → Nat} {o1 : Nat} {a1 : Nat → Nat} {r : Int32} {T0 : St} (C : cx p s m args meth c cX6_findSoonest 10 (some .int) RX6 D q A) {k53 : Int32 × Int32 × Int32 × Int32 × St × St → Option (Int32 × St)} (hk53 : ∀ (x3 : Int32) (x4 : Int32) (x5 : Int32) (x6 : Int32) (S0 : St) (S1 : St), k53 (x3, x4, x5, x6, S0, S1) = some (r, T0) → ∀ (H : Heap) (locs : List Loc) (ls : Array Slot), va_P D vwCl (fl [g6 q o0 a0 S0, g8 q o1 a1 S1]) H → va_D A (fl [g6 q o0 a0 S0, g8 q o1 a1 S1]) → va_S A s.heap H locs → lv_has ls 10 [(0, .ref o0), (1, .ref o1), (3, .int x3), (4, .int x4), (5, .int x5), (6, .int x6)] → W p l e rm_X6_findSoonest s m args below meth c H locs 0 0 (MQ below (QI D A r (fl [g6 q o0 a0 T0, g8 q o1 a1 S1])) args s 0 0 A) (F0 m 53 ls [])) {k101 : Int32 × Int32 × Int32 × Int32 × Int32 × Int32 × St × St → Option (Int32 × St)} (hk101 : ∀ (x3 : Int32) (x4 : Int32) (x5 : Int32) (x6 : Int32) (x7 : Int32) (x8 : Int32) (S0 : St) (S1 : St), k101 (x3, x4, x5, x6, x7, x8, S0, S1) = some (r, T0) → ∀ (H : Heap) (locs : List Loc) (ls : Array Slot), va_P D vwCl (fl [g6 q o0 a0 S0, g8 q o1 a1 S1]) H → va_D A (fl [g6 q o0 a0 S0, g8 q o1 a1 S1]) → va_S A s.heap H locs → lv_has ls 10 [(0, .ref o0), (1, .ref o1), (3, .int x3), (4, .int x4), (5, .int x5), (6, .int x6), (7, .int x7), (8, .int x8)] → W p l e rm_X6_findSoonest s m args below meth c H locs 0 0 (MQ below (QI D A r (fl [g6 q o0 a0 T0, g8 q o1 a1 S1])) args s 0 0 A) (F0 m 101 ls [])) {x3 : Int32} {x4 : Int32} {x5 : Int32} {x6 : Int32} {x7 : Int32} {x8 : Int32} {S0 : St} {S1 : St} (hF : F_X6_findSoonest_101 k53 k101 x3 x4 x5 x6 x7 x8 S0 S1 = some (r, T0)) {H : Heap} {locs : List Loc} (hP : va_P D vwCl (fl [g6 q o0 a0 S0, g8 q o1 a1 S1]) H) (hD : va_D A (fl [g6 q o0 a0 S0, g8 q o1 a1 S1])) (hS : va_S A s.heap H locs) {ls : Array Slot} (hl : lv_has ls 10 [(0, .ref o0), (1, .ref o1), (3, .int x3), (4, .int x4), (5, .int x5), (6, .int x6), (7, .int x7), (8, .int x8)]) : W p l e rm_X6_findSoonest s m args below meth c H locs 0 0 (MQ below (QI D A r (fl [g6 q o0 a0 T0, g8 q o1 a1 S1])) args s 0 0 A) (F0 m 101 ls []) := by
  unfold F_X6_findSoonest_101 at hF
  obtain ⟨hx, hb, hr, hml, hown, hts, hlk, hA, hK, hN, hV⟩ := id C
  refine lv_iload hx hb dX6_findSoonest_101 (lv_at hl 7 rfl) ?_
  refine lv_aload_n hx hb dX6_findSoonest_103 rfl (lv_at hl 1 rfl) ?_
  refine k_get (v := .int (S1.1 0)) C fg_X6_56 hP 7 rfl rfl dX6_findSoonest_104 ?_
  refine lv_icmp_ge (tgt := 186) hx hb dX6_findSoonest_107 (by decide) (fun c1 => ?_) (fun c1 => ?_)
  · have hF := op_t hF c1
    refine lv_iinc (v := (x6 + 1)) (lv' := [(6, .int (x6 + 1)), (0, .ref o0), (1, .ref o1), (3, .int x3), (4, .int x4), (5, .int x5), (7, .int x7), (8, .int x8)]) hx hb dX6_findSoonest_186 hl (k := 5) rfl rfl (by decide) rfl (fun ls hl => ?_)
    refine lv_goto (tgt := 53) hx hb dX6_findSoonest_189 (by decide) ?_
    exact hk53 x3 x4 x5 (x6 + 1) S0 S1 hF _ _ _ hP hD hS (lv_sub hl [1, 2, 3, 4, 5, 0] rfl)
  · have hF := op_f hF c1
    refine lv_aload_n hx hb dX6_findSoonest_110 rfl (lv_at hl 1 rfl) ?_
    refine lv_iload hx hb dX6_findSoonest_111 (lv_at hl 6 rfl) ?_
    refine lv_iload hx hb dX6_findSoonest_113 (lv_at hl 7 rfl) ?_
    obtain ⟨r3, hc2, hF⟩ := ob1_s hF
    refine k_iro C (k_rV (As := [.int x7, .int x8]) (rest := []) C (c_X8_afterClimb l D q o1 a1 S1 _ x7 x8 hc2) kc_X8_afterClimb ml_X6_59 rfl rfl (by decide) (flP hP [1] rfl) (flD hD [1] (by decide) rfl) hS (va_recv hK hP (ci := 8) (q0 := 7) rfl rfl) rfl hl.1 rfl (Nat.le_of_ble_eq_true rfl) dX6_findSoonest_115 (by decide)) hP hD hS [1] [0] [g6 q o0 a0 S0] 2 (by decide) rfl rfl rfl rfl (fun H locs hP hD hS => ?_)
    refine lv_istore (lv' := [(9, .int r3), (0, .ref o0), (1, .ref o1), (3, .int x3), (4, .int x4), (5, .int x5), (6, .int x6), (7, .int x7), (8, .int x8)]) hx hb dX6_findSoonest_118 hl (by decide) rfl (fun ls hl => ?_)
    refine lv_iload_n hx hb dX6_findSoonest_120 rfl (lv_at hl 3 rfl) ?_
    refine lv_iload hx hb dX6_findSoonest_121 (lv_at hl 8 rfl) ?_
    refine lv_ishr hx hb dX6_findSoonest_123 ?_
    refine lv_iconst (v := (1 : Int32)) hx hb dX6_findSoonest_124 (by decide) ?_
    refine lv_iand hx hb dX6_findSoonest_125 ?_
    refine lv_iconst (v := (1 : Int32)) hx hb dX6_findSoonest_126 (by decide) ?_
    refine lv_icmp_ne (tgt := 180) hx hb dX6_findSoonest_127 (by decide) (fun c4 => ?_) (fun c4 => ?_)
    · have hF := op_f hF c4
      exact b_X6_findSoonest_180 C hk53 hk101 hF hP hD hS (lv_sub hl [1, 2, 3, 4, 5, 6, 7, 8] rfl)
    · have hF := op_t hF c4
      refine lv_aload_n hx hb dX6_findSoonest_130 rfl (lv_at hl 1 rfl) ?_
      refine k_get (v := .ref (a0 3)) C fg_X6_18 hP 0 rfl rfl dX6_findSoonest_131 ?_
      refine lv_iload hx hb dX6_findSoonest_134 (lv_at hl 0 rfl) ?_
      obtain ⟨h5, hF⟩ := op_ck hF
      refine k_ild (f := S0.2.2.1 2) C hP 3 rfl h5 dX6_findSoonest_136 ?_
      refine lv_bipush (v := (-2 : Int32)) hx hb dX6_findSoonest_137 (by decide) ?_
      refine lv_icmp_ne (tgt := 180) hx hb dX6_findSoonest_139 (by decide) (fun c6 => ?_) (fun c6 => ?_)
      · have hF := op_f hF c6
        exact b_X6_findSoonest_180 C hk53 hk101 hF hP hD hS (lv_sub hl [1, 2, 3, 4, 5, 6, 7, 8] rfl)
      · have hF := op_t hF c6
        refine lv_iload hx hb dX6_findSoonest_142 (lv_at hl 5 rfl) ?_
        refine lv_sipush (v := (256 : Int32)) hx hb dX6_findSoonest_144 (by decide) ?_
        refine lv_icmp_ge (tgt := 180) hx hb dX6_findSoonest_147 (by decide) (fun c7 => ?_) (fun c7 => ?_)
        · have hF := op_t hF c7
          exact b_X6_findSoonest_180 C hk53 hk101 hF hP hD hS (lv_sub hl [1, 2, 3, 4, 5, 6, 7, 8] rfl)
        · have hF := op_f hF c7
          refine lv_aload_n hx hb dX6_findSoonest_150 rfl (lv_at hl 1 rfl) ?_
          refine k_get (v := .ref (a0 3)) C fg_X6_18 hP 0 rfl rfl dX6_findSoonest_151 ?_
          refine lv_iload hx hb dX6_findSoonest_154 (lv_at hl 0 rfl) ?_
          refine lv_iload hx hb dX6_findSoonest_156 (lv_at hl 8 rfl) ?_
          obtain ⟨h8, hF⟩ := op_ck hF
          obtain ⟨U9, e10, hF⟩ := nw_s hF
          refine k_ist (f := S0.2.2.1 2) (W8 := fl [g6 q o0 a0 U9, g8 q o1 a1 S1]) C hP hD hS 3 rfl h8 dX6_findSoonest_158 (by rw [e10]; rfl) (fun H locs hP hD hS => ?_)
          refine lv_aload_n hx hb dX6_findSoonest_159 rfl (lv_at hl 1 rfl) ?_
          refine k_get (v := .ref (a0 2)) C fg_X6_15 hP 0 rfl rfl dX6_findSoonest_160 ?_
          refine lv_iload hx hb dX6_findSoonest_163 (lv_at hl 0 rfl) ?_
          refine lv_iload hx hb dX6_findSoonest_165 (lv_at hl 7 rfl) ?_
          obtain ⟨h11, hF⟩ := op_ck hF
          obtain ⟨U12, e13, hF⟩ := nw_s hF
          refine k_ist (f := U9.2.2.1 1) (W8 := fl [g6 q o0 a0 U12, g8 q o1 a1 S1]) C hP hD hS 2 rfl h11 dX6_findSoonest_167 (by rw [e13]; rfl) (fun H locs hP hD hS => ?_)
          refine lv_aload_n hx hb dX6_findSoonest_168 rfl (lv_at hl 1 rfl) ?_
          refine k_get (v := .ref (a0 1)) C fg_X6_9 hP 0 rfl rfl dX6_findSoonest_169 ?_
          refine lv_iload hx hb dX6_findSoonest_172 (lv_at hl 5 rfl) ?_
          refine lv_iload hx hb dX6_findSoonest_174 (lv_at hl 0 rfl) ?_
          obtain ⟨h14, hF⟩ := op_ck hF
          obtain ⟨U15, e16, hF⟩ := nw_s hF
          refine k_ist (f := U12.2.2.1 0) (W8 := fl [g6 q o0 a0 U15, g8 q o1 a1 S1]) C hP hD hS 1 rfl h14 dX6_findSoonest_176 (by rw [e16]; rfl) (fun H locs hP hD hS => ?_)
          refine lv_iinc (v := (x5 + 1)) (lv' := [(5, .int (x5 + 1)), (9, .int r3), (0, .ref o0), (1, .ref o1), (3, .int x3), (4, .int x4), (6, .int x6), (7, .int x7), (8, .int x8)]) hx hb dX6_findSoonest_177 hl (k := 5) rfl rfl (by decide) rfl (fun ls hl => ?_)
          exact b_X6_findSoonest_180 C hk53 hk101 hF hP hD hS (lv_sub hl [2, 3, 4, 5, 0, 6, 7, 8] rfl)
set_option maxRecDepth 100000 in
set_option maxHeartbeats 4000000 in
theorem l_X6_findSoonest_101 {p : Program} {l : Launch} {e : Env} {s : State} {m : MethodId} {args : Array Value} {below : List Frame} {meth : Method} {c : Code} {D : va_G} {q : Nat → ClassId} {A : Nat → Prop} {o0 : Nat} {a0 : Nat → Nat} {o1 : Nat} {a1 : Nat → Nat} {r : Int32} {T0 : St} (C : cx p s m args meth c cX6_findSoonest 10 (some .int) RX6 D q A) {k53 : Int32 × Int32 × Int32 × Int32 × St × St → Option (Int32 × St)} (hk53 : ∀ (x3 : Int32) (x4 : Int32) (x5 : Int32) (x6 : Int32) (S0 : St) (S1 : St), k53 (x3, x4, x5, x6, S0, S1) = some (r, T0) → ∀ (H : Heap) (locs : List Loc) (ls : Array Slot), va_P D vwCl (fl [g6 q o0 a0 S0, g8 q o1 a1 S1]) H → va_D A (fl [g6 q o0 a0 S0, g8 q o1 a1 S1]) → va_S A s.heap H locs → lv_has ls 10 [(0, .ref o0), (1, .ref o1), (3, .int x3), (4, .int x4), (5, .int x5), (6, .int x6)] → W p l e rm_X6_findSoonest s m args below meth c H locs 0 0 (MQ below (QI D A r (fl [g6 q o0 a0 T0, g8 q o1 a1 S1])) args s 0 0 A) (F0 m 53 ls [])) {x3 : Int32} {x4 : Int32} {x5 : Int32} {x6 : Int32} {x7 : Int32} {x8 : Int32} {S0 : St} {S1 : St} (hF : L_X6_findSoonest_101 k53 x3 x4 x5 x6 x7 x8 S0 S1 = some (r, T0)) : ∀ (H : Heap) (locs : List Loc) (ls : Array Slot), va_P D vwCl (fl [g6 q o0 a0 S0, g8 q o1 a1 S1]) H → va_D A (fl [g6 q o0 a0 S0, g8 q o1 a1 S1]) → va_S A s.heap H locs → lv_has ls 10 [(0, .ref o0), (1, .ref o1), (3, .int x3), (4, .int x4), (5, .int x5), (6, .int x6), (7, .int x7), (8, .int x8)] → W p l e rm_X6_findSoonest s m args below meth c H locs 0 0 (MQ below (QI D A r (fl [g6 q o0 a0 T0, g8 q o1 a1 S1])) args s 0 0 A) (F0 m 101 ls []) :=
  lp_G _ _ (fun z => ∀ (H : Heap) (locs : List Loc) (ls : Array Slot), va_P D vwCl (fl [g6 q o0 a0 z.2.2.2.2.2.2.1, g8 q o1 a1 z.2.2.2.2.2.2.2]) H → va_D A (fl [g6 q o0 a0 z.2.2.2.2.2.2.1, g8 q o1 a1 z.2.2.2.2.2.2.2]) → va_S A s.heap H locs → lv_has ls 10 [(0, .ref o0), (1, .ref o1), (3, .int z.1), (4, .int z.2.1), (5, .int z.2.2.1), (6, .int z.2.2.2.1), (7, .int z.2.2.2.2.1), (8, .int z.2.2.2.2.2.1)] → W p l e rm_X6_findSoonest s m args below meth c H locs 0 0 (MQ below (QI D A r (fl [g6 q o0 a0 T0, g8 q o1 a1 z.2.2.2.2.2.2.2])) args s 0 0 A) (F0 m 101 ls [])) (fun kz hkz z hz H locs ls hP hD hS hl => b_X6_findSoonest_101 C hk53 (fun x3 x4 x5 x6 x7 x8 S0 S1 hz => hkz (x3, x4, x5, x6, x7, x8, S0, S1) hz) hz hP hD hS hl) FU (x3, x4, x5, x6, x7, x8, S0, S1) hF
set_option maxRecDepth 100000 in
set_option maxHeartbeats 4000000 in
theorem b_X6_findSoonest_53 {p : Program} {l : Launch} {e : Env} {s : State} {m : MethodId} {args : Array Value} {below : List Frame} {meth : Method} {c : Code} {D : va_G} {q : Nat → ClassId} {A : Nat → Prop} {o0 : Nat} {a0 : Nat → Nat} {o1 : Nat} {a1 : Nat → Nat} {r : Int32} {T0 : St} (C : cx p s m args meth c cX6_findSoonest 10 (some .int) RX6 D q A) {k53 : Int32 × Int32 × Int32 × Int32 × St × St → Option (Int32 × St)} (hk53 : ∀ (x3 : Int32) (x4 : Int32) (x5 : Int32) (x6 : Int32) (S0 : St) (S1 : St), k53 (x3, x4, x5, x6, S0, S1) = some (r, T0) → ∀ (H : Heap) (locs : List Loc) (ls : Array Slot), va_P D vwCl (fl [g6 q o0 a0 S0, g8 q o1 a1 S1]) H → va_D A (fl [g6 q o0 a0 S0, g8 q o1 a1 S1]) → va_S A s.heap H locs → lv_has ls 10 [(0, .ref o0), (1, .ref o1), (3, .int x3), (4, .int x4), (5, .int x5), (6, .int x6)] → W p l e rm_X6_findSoonest s m args below meth c H locs 0 0 (MQ below (QI D A r (fl [g6 q o0 a0 T0, g8 q o1 a1 S1])) args s 0 0 A) (F0 m 53 ls [])) {x3 : Int32} {x4 : Int32} {x5 : Int32} {x6 : Int32} {S0 : St} {S1 : St} (hF : F_X6_findSoonest_53 k53 x3 x4 x5 x6 S0 S1 = some (r, T0)) {H : Heap} {locs : List Loc} (hP : va_P D vwCl (fl [g6 q o0 a0 S0, g8 q o1 a1 S1]) H) (hD : va_D A (fl [g6 q o0 a0 S0, g8 q o1 a1 S1])) (hS : va_S A s.heap H locs) {ls : Array Slot} (hl : lv_has ls 10 [(0, .ref o0), (1, .ref o1), (3, .int x3), (4, .int x4), (5, .int x5), (6, .int x6)]) : W p l e rm_X6_findSoonest s m args below meth c H locs 0 0 (MQ below (QI D A r (fl [g6 q o0 a0 T0, g8 q o1 a1 S1])) args s 0 0 A) (F0 m 53 ls []) := by
  unfold F_X6_findSoonest_53 at hF
  obtain ⟨hx, hb, hr, hml, hown, hts, hlk, hA, hK, hN, hV⟩ := id C
  refine lv_iload hx hb dX6_findSoonest_53 (lv_at hl 5 rfl) ?_
  refine lv_iload hx hb dX6_findSoonest_55 (lv_at hl 4 rfl) ?_
  refine lv_icmp_ge (tgt := 192) hx hb dX6_findSoonest_57 (by decide) (fun c1 => ?_) (fun c1 => ?_)
  · have hF := op_t hF c1
    refine lv_iconst (v := (-1 : Int32)) hx hb dX6_findSoonest_192 (by decide) ?_
    cases hF
    exact k_iret C hP hS dX6_findSoonest_193
  · have hF := op_f hF c1
    refine lv_iload hx hb dX6_findSoonest_60 (lv_at hl 5 rfl) ?_
    refine lv_sipush (v := (256 : Int32)) hx hb dX6_findSoonest_62 (by decide) ?_
    refine lv_icmp_ge (tgt := 192) hx hb dX6_findSoonest_65 (by decide) (fun c2 => ?_) (fun c2 => ?_)
    · have hF := op_t hF c2
      refine lv_iconst (v := (-1 : Int32)) hx hb dX6_findSoonest_192 (by decide) ?_
      cases hF
      exact k_iret C hP hS dX6_findSoonest_193
    · have hF := op_f hF c2
      refine lv_aload_n hx hb dX6_findSoonest_68 rfl (lv_at hl 0 rfl) ?_
      refine k_get (v := .ref (a0 1)) C fg_X6_9 hP 0 rfl rfl dX6_findSoonest_69 ?_
      refine lv_iload hx hb dX6_findSoonest_72 (lv_at hl 5 rfl) ?_
      obtain ⟨h3, hF⟩ := op_ck hF
      refine k_ild (f := S0.2.2.1 0) C hP 1 rfl h3 dX6_findSoonest_74 ?_
      refine lv_istore (lv' := [(7, .int (S0.2.2.1 0 x6.toNatClampNeg)), (0, .ref o0), (1, .ref o1), (3, .int x3), (4, .int x4), (5, .int x5), (6, .int x6)]) hx hb dX6_findSoonest_75 hl (by decide) rfl (fun ls hl => ?_)
      refine lv_iload hx hb dX6_findSoonest_77 (lv_at hl 0 rfl) ?_
      refine lv_iload hx hb dX6_findSoonest_79 (lv_at hl 4 rfl) ?_
      refine lv_iand hx hb dX6_findSoonest_81 ?_
      refine lv_iload hx hb dX6_findSoonest_82 (lv_at hl 4 rfl) ?_
      refine lv_icmp_ne (tgt := 98) hx hb dX6_findSoonest_84 (by decide) (fun c4 => ?_) (fun c4 => ?_)
      · have hF := op_f hF c4
        refine lv_iconst (v := (0 : Int32)) hx hb dX6_findSoonest_98 (by decide) ?_
        refine lv_istore (lv' := [(8, .int (0 : Int32)), (7, .int (S0.2.2.1 0 x6.toNatClampNeg)), (0, .ref o0), (1, .ref o1), (3, .int x3), (4, .int x4), (5, .int x5), (6, .int x6)]) hx hb dX6_findSoonest_99 hl (by decide) rfl (fun ls hl => ?_)
        exact l_X6_findSoonest_101 C hk53 hF _ _ _ hP hD hS (lv_sub hl [2, 3, 4, 5, 6, 7, 1, 0] rfl)
      · have hF := op_t hF c4
        refine lv_aload_n hx hb dX6_findSoonest_87 rfl (lv_at hl 1 rfl) ?_
        refine lv_iload hx hb dX6_findSoonest_88 (lv_at hl 0 rfl) ?_
        obtain ⟨U6, hc5, hF⟩ := ob1_s hF
        refine k_vgrp (gs8 := [g6 q o0 a0 U6, g8 q o1 a1 S1]) C (k_rV (As := [.int (S0.2.2.1 0 x6.toNatClampNeg)]) (rest := []) C (c_X6_keepSoonest l D q o0 a0 S0 _ (S0.2.2.1 0 x6.toNatClampNeg) hc5) kc_X6_keepSoonest ml_X6_48 rfl rfl (by decide) (flP hP [0] rfl) (flD hD [0] (by decide) rfl) hS (va_recv hK hP (ci := 6) (q0 := 0) rfl rfl) rfl hl.1 rfl (Nat.le_of_ble_eq_true rfl) dX6_findSoonest_90 (by decide)) hP hD hS [0] [1] [g8 q o1 a1 S1] 2 (by decide) rfl rfl rfl rfl rfl rfl (by simp only [List.map_cons, List.map_nil, gad6, gad8]) (fun H locs hP hD hS => ?_)
        refine lv_aload_n hx hb dX6_findSoonest_93 rfl (lv_at hl 1 rfl) ?_
        refine k_get (v := .int (U6.1 4)) C fg_X6_52 hP 0 rfl rfl dX6_findSoonest_94 ?_
        cases hF
        exact k_iret C hP hS dX6_findSoonest_97
set_option maxRecDepth 100000 in
set_option maxHeartbeats 4000000 in
theorem l_X6_findSoonest_53 {p : Program} {l : Launch} {e : Env} {s : State} {m : MethodId} {args : Array Value} {below : List Frame} {meth : Method} {c : Code} {D : va_G} {q : Nat → ClassId} {A : Nat → Prop} {o0 : Nat} {a0 : Nat → Nat} {o1 : Nat} {a1 : Nat → Nat} {r : Int32} {T0 : St} (C : cx p s m args meth c cX6_findSoonest 10 (some .int) RX6 D q A) {x3 : Int32} {x4 : Int32} {x5 : Int32} {x6 : Int32} {S0 : St} {S1 : St} (hF : L_X6_findSoonest_53 x3 x4 x5 x6 S0 S1 = some (r, T0)) : ∀ (H : Heap) (locs : List Loc) (ls : Array Slot), va_P D vwCl (fl [g6 q o0 a0 S0, g8 q o1 a1 S1]) H → va_D A (fl [g6 q o0 a0 S0, g8 q o1 a1 S1]) → va_S A s.heap H locs → lv_has ls 10 [(0, .ref o0), (1, .ref o1), (3, .int x3), (4, .int x4), (5, .int x5), (6, .int x6)] → W p l e rm_X6_findSoonest s m args below meth c H locs 0 0 (MQ below (QI D A r (fl [g6 q o0 a0 T0, g8 q o1 a1 S1])) args s 0 0 A) (F0 m 53 ls []) :=
  lp_G _ _ (fun z => ∀ (H : Heap) (locs : List Loc) (ls : Array Slot), va_P D vwCl (fl [g6 q o0 a0 z.2.2.2.2.1, g8 q o1 a1 z.2.2.2.2.2]) H → va_D A (fl [g6 q o0 a0 z.2.2.2.2.1, g8 q o1 a1 z.2.2.2.2.2]) → va_S A s.heap H locs → lv_has ls 10 [(0, .ref o0), (1, .ref o1), (3, .int z.1), (4, .int z.2.1), (5, .int z.2.2.1), (6, .int z.2.2.2.1)] → W p l e rm_X6_findSoonest s m args below meth c H locs 0 0 (MQ below (QI D A r (fl [g6 q o0 a0 T0, g8 q o1 a1 z.2.2.2.2.2])) args s 0 0 A) (F0 m 53 ls [])) (fun kz hkz z hz H locs ls hP hD hS hl => b_X6_findSoonest_53 C (fun x3 x4 x5 x6 S0 S1 hz => hkz (x3, x4, x5, x6, S0, S1) hz) hz hP hD hS hl) FU (x3, x4, x5, x6, S0, S1) hF
set_option maxRecDepth 100000 in
set_option maxHeartbeats 4000000 in
theorem c_X6_findSoonest (l : Launch) (D : va_G) (q : Nat → ClassId) (o0 : Nat) (a0 : Nat → Nat) (S0 : St) (o1 : Nat) (a1 : Nat → Nat) (S1 : St) (sz : Nat) (x2 : Int32) {r : Int32} {T0 : St} (hF : F_X6_findSoonest S0 S1 x2 = some (r, T0)) : Met l yX6_findSoonest (Cond.code yX6_findSoonest cX6_findSoonest 10 (some .int) :: TB) rm_X6_findSoonest (PC D q [.ref o0, .ref o1, .int x2] (fl [g6 q o0 a0 S0, g8 q o1 a1 S1]) sz) ((fun A => QI D A r (fl [g6 q o0 a0 T0, g8 q o1 a1 S1])) (va_A (fl [g6 q o0 a0 S0, g8 q o1 a1 S1]) sz)) 0 0 (va_A (fl [g6 q o0 a0 S0, g8 q o1 a1 S1]) sz) := by
  refine k_met (w0 := fl [g6 q o0 a0 S0, g8 q o1 a1 S1]) (Q := fun A => QI D A r (fl [g6 q o0 a0 T0, g8 q o1 a1 S1])) (by decide +kernel) (Nat.le_of_ble_eq_true rfl) ?_
  intro p e s m args below meth c A ls C hP hD hS hl
  have hl : lv_has ls 10 [(0, .ref o0), (1, .ref o1), (2, .int x2)] := hl
  unfold F_X6_findSoonest at hF
  have C : cx p s m args meth c cX6_findSoonest 10 (some .int) RX6 D q A := C
  obtain ⟨hx, hb, hr, hml, hown, hts, hlk, hA, hK, hN, hV⟩ := id C
  refine lv_aload_n hx hb dX6_findSoonest_0 rfl (lv_at hl 1 rfl) ?_
  refine lv_iload_n hx hb dX6_findSoonest_1 rfl (lv_at hl 2 rfl) ?_
  obtain ⟨r2, hc1, hF⟩ := ob1_s hF
  refine k_iro C (k_rV (As := [.int x2]) (rest := []) C (c_X8_climbable l D q o1 a1 S1 _ x2 hc1) kc_X8_climbable ml_X6_30 rfl rfl (by decide) (flP hP [1] rfl) (flD hD [1] (by decide) rfl) hS (va_recv hK hP (ci := 8) (q0 := 7) rfl rfl) rfl hl.1 rfl (Nat.le_of_ble_eq_true rfl) dX6_findSoonest_2 (by decide)) hP hD hS [1] [0] [g6 q o0 a0 S0] 2 (by decide) rfl rfl rfl rfl (fun H locs hP hD hS => ?_)
  refine lv_istore_n (lv' := [(3, .int r2), (0, .ref o0), (1, .ref o1), (2, .int x2)]) hx hb dX6_findSoonest_5 rfl hl (by decide) rfl (fun ls hl => ?_)
  refine lv_aload_n hx hb dX6_findSoonest_6 rfl (lv_at hl 2 rfl) ?_
  refine k_get (v := .ref (a1 11)) C fg_X6_36 hP 7 rfl rfl dX6_findSoonest_7 ?_
  refine lv_iload_n hx hb dX6_findSoonest_10 rfl (lv_at hl 3 rfl) ?_
  obtain ⟨h3, hF⟩ := op_ck hF
  refine k_ild (f := S1.2.2.1 10) C hP 14 rfl h3 dX6_findSoonest_11 ?_
  refine lv_istore (lv' := [(4, .int (S1.2.2.1 10 x2.toNatClampNeg)), (3, .int r2), (0, .ref o0), (1, .ref o1), (2, .int x2)]) hx hb dX6_findSoonest_12 hl (by decide) rfl (fun ls hl => ?_)
  refine lv_aload_n hx hb dX6_findSoonest_14 rfl (lv_at hl 2 rfl) ?_
  refine k_get (v := .ref (a0 3)) C fg_X6_18 hP 0 rfl rfl dX6_findSoonest_15 ?_
  refine lv_bipush (v := (-2 : Int32)) hx hb dX6_findSoonest_18 (by decide) ?_
  obtain ⟨U4, e5, hF⟩ := nw_s hF
  refine k_vset (W8 := fl [g6 q o0 a0 U4, g8 q o1 a1 S1]) C (k_rS (As := [.ref (a0 3), .int (-2 : Int32)]) (rest := []) C (c_fill l D q (a0 3) 256 (S0.2.2.1 2) _ (-2 : Int32) (by decide)) kc_J7_fill_53178 ml_X6_39 rfl rfl (by decide) (hP.sub (ws' := [((a0 3), .inl (q 1, 256, .inl (S0.2.2.1 2)))]) [3] rfl) (hD.sub (ws' := [((a0 3), .inl (q 1, 256, .inl (S0.2.2.1 2)))]) [3] (by decide) rfl) hS rfl hl.1 rfl (Nat.le_of_ble_eq_true rfl) dX6_findSoonest_20 (by decide)) hP hD hS 3 rfl (by rw [e5]; rfl) (fun H locs hP hD hS => ?_)
  refine lv_aload_n hx hb dX6_findSoonest_23 rfl (lv_at hl 2 rfl) ?_
  refine k_get (v := .ref (a0 1)) C fg_X6_9 hP 0 rfl rfl dX6_findSoonest_24 ?_
  refine lv_iconst (v := (0 : Int32)) hx hb dX6_findSoonest_27 (by decide) ?_
  refine lv_aload_n hx hb dX6_findSoonest_28 rfl (lv_at hl 3 rfl) ?_
  refine k_get (v := .ref (a1 10)) C fg_X6_45 hP 7 rfl rfl dX6_findSoonest_29 ?_
  refine lv_iload_n hx hb dX6_findSoonest_32 rfl (lv_at hl 4 rfl) ?_
  obtain ⟨h6, hF⟩ := op_ck hF
  refine k_ild (f := S1.2.2.1 9) C hP 13 rfl h6 dX6_findSoonest_33 ?_
  obtain ⟨h7, hF⟩ := op_ck hF
  obtain ⟨U8, e9, hF⟩ := nw_s hF
  refine k_ist (f := U4.2.2.1 0) (W8 := fl [g6 q o0 a0 U8, g8 q o1 a1 S1]) C hP hD hS 1 rfl h7 dX6_findSoonest_34 (by rw [e9]; rfl) (fun H locs hP hD hS => ?_)
  refine lv_aload_n hx hb dX6_findSoonest_35 rfl (lv_at hl 2 rfl) ?_
  refine k_get (v := .ref (a0 3)) C fg_X6_18 hP 0 rfl rfl dX6_findSoonest_36 ?_
  refine lv_aload_n hx hb dX6_findSoonest_39 rfl (lv_at hl 2 rfl) ?_
  refine k_get (v := .ref (a0 1)) C fg_X6_9 hP 0 rfl rfl dX6_findSoonest_40 ?_
  refine lv_iconst (v := (0 : Int32)) hx hb dX6_findSoonest_43 (by decide) ?_
  obtain ⟨h10, hF⟩ := op_ck hF
  refine k_ild (f := U8.2.2.1 0) C hP 1 rfl h10 dX6_findSoonest_44 ?_
  refine lv_iconst (v := (-1 : Int32)) hx hb dX6_findSoonest_45 (by decide) ?_
  obtain ⟨h11, hF⟩ := op_ck hF
  obtain ⟨U12, e13, hF⟩ := nw_s hF
  refine k_ist (f := U8.2.2.1 2) (W8 := fl [g6 q o0 a0 U12, g8 q o1 a1 S1]) C hP hD hS 3 rfl h11 dX6_findSoonest_46 (by rw [e13]; rfl) (fun H locs hP hD hS => ?_)
  refine lv_iconst (v := (1 : Int32)) hx hb dX6_findSoonest_47 (by decide) ?_
  refine lv_istore (lv' := [(5, .int (1 : Int32)), (4, .int (S1.2.2.1 10 x2.toNatClampNeg)), (3, .int r2), (0, .ref o0), (1, .ref o1), (2, .int x2)]) hx hb dX6_findSoonest_48 hl (by decide) rfl (fun ls hl => ?_)
  refine lv_iconst (v := (0 : Int32)) hx hb dX6_findSoonest_50 (by decide) ?_
  refine lv_istore (lv' := [(6, .int (0 : Int32)), (5, .int (1 : Int32)), (4, .int (S1.2.2.1 10 x2.toNatClampNeg)), (3, .int r2), (0, .ref o0), (1, .ref o1), (2, .int x2)]) hx hb dX6_findSoonest_51 hl (by decide) rfl (fun ls hl => ?_)
  exact l_X6_findSoonest_53 C hF _ _ _ hP hD hS (lv_sub hl [4, 5, 3, 2, 1, 0] rfl)

abbrev rm_X7_readFrom : Room := ({ frames := 49, cells := 0, slots := 0, locals := 1484 } : Room)
def F_X7_readFrom (S0 : St) (S1 : St) (S2 : St) (S3 : St) : Option (Int32 × St × St) := ob1 (F_X7_empty S0) fun U2 => ob1 (F_X5_begin S1 S2 (200 : Int32)) fun U4 => ob2 (F_X7_readCondK U2 U4 S3 (1 : Int32)) fun U6 U7 => ob2 (F_X5_closes U7) fun r9 U10 => if nb r9 then none else some (r9, U6, U10)
set_option maxRecDepth 100000 in
set_option maxHeartbeats 4000000 in
theorem c_X7_readFrom (l : Launch) (D : va_G) (q : Nat → ClassId) (tp : Nat) (o0 : Nat) (a0 : Nat → Nat) (S0 : St) (o1 : Nat) (a1 : Nat → Nat) (S1 : St) (a2 : Nat → Nat) (S2 : St) (o3 : Nat) (a3 : Nat → Nat) (S3 : St) (sz : Nat) {r : Int32} {T0 : St} {T1 : St} (hF : F_X7_readFrom S0 S1 S2 S3 = some (r, T0, T1)) : Met l yX7_readFrom (Cond.code yX7_readFrom cX7_readFrom 3 (some .boolean) :: TB) rm_X7_readFrom (PC D q [.ref o0, .ref o1, .ref o3] (fl [g7 q o0 a0 S0, g5 q o1 a1 tp S1, g9 q tp a2 940 S2, g8 q o3 a3 S3]) sz) ((fun A => QI D A r (fl [g7 q o0 a0 T0, g5 q o1 a1 tp T1, g9 q tp a2 940 S2, g8 q o3 a3 S3])) (va_A (fl [g7 q o0 a0 S0, g5 q o1 a1 tp S1, g9 q tp a2 940 S2, g8 q o3 a3 S3]) sz)) 0 0 (va_A (fl [g7 q o0 a0 S0, g5 q o1 a1 tp S1, g9 q tp a2 940 S2, g8 q o3 a3 S3]) sz) := by
  refine k_met (w0 := fl [g7 q o0 a0 S0, g5 q o1 a1 tp S1, g9 q tp a2 940 S2, g8 q o3 a3 S3]) (Q := fun A => QI D A r (fl [g7 q o0 a0 T0, g5 q o1 a1 tp T1, g9 q tp a2 940 S2, g8 q o3 a3 S3])) (by decide +kernel) (Nat.le_of_ble_eq_true rfl) ?_
  intro p e s m args below meth c A ls C hP hD hS hl
  have hl : lv_has ls 3 [(0, .ref o0), (1, .ref o1), (2, .ref o3)] := hl
  unfold F_X7_readFrom at hF
  have C : cx p s m args meth c cX7_readFrom 3 (some .boolean) RX7 D q A := C
  obtain ⟨hx, hb, hr, hml, hown, hts, hlk, hA, hK, hN, hV⟩ := id C
  refine lv_aload_n hx hb dX7_readFrom_0 rfl (lv_at hl 0 rfl) ?_
  obtain ⟨U2, hc1, hF⟩ := ob1_s hF
  refine k_vgrp (gs8 := [g7 q o0 a0 U2, g5 q o1 a1 tp S1, g9 q tp a2 940 S2, g8 q o3 a3 S3]) C (k_rV (As := []) (rest := []) C (c_X7_empty l D q o0 a0 S0 _ hc1) kc_X7_empty ml_X7_34 rfl rfl (by decide) (flP hP [0] rfl) (flD hD [0] (by decide) rfl) hS (va_recv hK hP (ci := 7) (q0 := 0) rfl rfl) rfl hl.1 rfl (Nat.le_of_ble_eq_true rfl) dX7_readFrom_1 (by decide)) hP hD hS [0] [1, 2, 3] [g5 q o1 a1 tp S1, g9 q tp a2 940 S2, g8 q o3 a3 S3] 4 (by decide) rfl rfl rfl rfl rfl rfl (by simp only [List.map_cons, List.map_nil, gad5, gad7, gad8, gad9]) (fun H locs hP hD hS => ?_)
  refine lv_aload_n hx hb dX7_readFrom_4 rfl (lv_at hl 1 rfl) ?_
  refine lv_sipush (v := (200 : Int32)) hx hb dX7_readFrom_5 (by decide) ?_
  obtain ⟨U4, hc3, hF⟩ := ob1_s hF
  refine k_vgrp (gs8 := [g7 q o0 a0 U2, g5 q o1 a1 tp U4, g9 q tp a2 940 S2, g8 q o3 a3 S3]) C (k_rV (As := [.int (200 : Int32)]) (rest := []) C (c_X5_begin l D q tp o1 a1 S1 a2 S2 _ (200 : Int32) hc3) kc_X5_begin ml_X7_37 rfl rfl (by decide) (flP hP [1, 2] rfl) (flD hD [1, 2] (by decide) rfl) hS (va_recv hK hP (ci := 5) (q0 := 4) rfl rfl) rfl hl.1 rfl (Nat.le_of_ble_eq_true rfl) dX7_readFrom_8 (by decide)) hP hD hS [1, 2] [0, 3] [g7 q o0 a0 U2, g8 q o3 a3 S3] 4 (by decide) rfl rfl rfl rfl rfl rfl (by simp only [List.map_cons, List.map_nil, gad5, gad7, gad8, gad9]) (fun H locs hP hD hS => ?_)
  refine lv_aload_n hx hb dX7_readFrom_11 rfl (lv_at hl 0 rfl) ?_
  refine lv_aload_n hx hb dX7_readFrom_12 rfl (lv_at hl 1 rfl) ?_
  refine lv_aload_n hx hb dX7_readFrom_13 rfl (lv_at hl 2 rfl) ?_
  refine lv_iconst (v := (1 : Int32)) hx hb dX7_readFrom_14 (by decide) ?_
  obtain ⟨U6, U7, hc5, hF⟩ := ob2_s hF
  refine k_vgrp (gs8 := [g7 q o0 a0 U6, g5 q o1 a1 tp U7, g9 q tp a2 940 S2, g8 q o3 a3 S3]) C (k_rV (As := [.ref o1, .ref o3, .int (1 : Int32)]) (rest := []) C (c_X7_readCondK l D q tp o0 a0 U2 o1 a1 U4 o3 a3 S3 _ (1 : Int32) hc5) kc_X7_readCond ml_X7_43 rfl rfl (by decide) (flP hP [0, 1, 3] rfl) (flD hD [0, 1, 3] (by decide) rfl) hS (va_recv hK hP (ci := 7) (q0 := 0) rfl rfl) rfl hl.1 rfl (Nat.le_of_ble_eq_true rfl) dX7_readFrom_15 (by decide)) hP hD hS [0, 1, 3] [2] [g9 q tp a2 940 S2] 4 (by decide) rfl rfl rfl rfl rfl rfl (by simp only [List.map_cons, List.map_nil, gad5, gad7, gad8, gad9]) (fun H locs hP hD hS => ?_)
  refine lv_aload_n hx hb dX7_readFrom_18 rfl (lv_at hl 1 rfl) ?_
  obtain ⟨r9, U10, hc8, hF⟩ := ob2_s hF
  refine k_igrp (gs8 := [g7 q o0 a0 U6, g5 q o1 a1 tp U10, g9 q tp a2 940 S2, g8 q o3 a3 S3]) C (k_rV (As := []) (rest := []) C (c_X5_closes l D q tp o1 a1 U7 _ hc8) kc_X5_closes ml_X7_47 rfl rfl (by decide) (flP hP [1] rfl) (flD hD [1] (by decide) rfl) hS (va_recv hK hP (ci := 5) (q0 := 4) rfl rfl) rfl hl.1 rfl (Nat.le_of_ble_eq_true rfl) dX7_readFrom_19 (by decide)) hP hD hS [1] [0, 2, 3] [g7 q o0 a0 U6, g9 q tp a2 940 S2, g8 q o3 a3 S3] 4 (by decide) rfl rfl rfl rfl rfl rfl (by simp only [List.map_cons, List.map_nil, gad5, gad7, gad8, gad9]) (fun H locs hP hD hS => ?_)
  obtain ⟨h11, hF⟩ := op_ck hF
  cases hF
  exact k_zret C h11 hP hS dX7_readFrom_22

abbrev rm_X11_soonest : Room := ({ frames := 4, cells := 0, slots := 0, locals := 97 } : Room)
def F_X11_soonest (S0 : St) (S1 : St) (S2 : St) (x1 : Int32) : Option (Int32 × St) := ob1 (F_X8_hasPerson S2 x1) fun r2 => if r2 = 0 then (some ((-1 : Int32), S1)) else (ob2 (F_X6_findSoonest S1 S2 x1) fun r5 U6 => some (r5, U6))
set_option maxRecDepth 100000 in
set_option maxHeartbeats 4000000 in
theorem c_X11_soonest (l : Launch) (D : va_G) (q : Nat → ClassId) (tp : Nat) (o0 : Nat) (a0 : Nat → Nat) (S0 : St) (a1 : Nat → Nat) (S1 : St) (a2 : Nat → Nat) (S2 : St) (sz : Nat) (x1 : Int32) {r : Int32} {T1 : St} (hF : F_X11_soonest S0 S1 S2 x1 = some (r, T1)) : Met l yX11_soonest (Cond.code yX11_soonest cX11_soonest 2 (some .int) :: TB) rm_X11_soonest (PC D q [.ref o0, .int x1] (fl [g11 q o0 a0 tp S0, g6 q (a0 10) a1 S1, g8 q (a0 3) a2 S2]) sz) ((fun A => QI D A r (fl [g11 q o0 a0 tp S0, g6 q (a0 10) a1 T1, g8 q (a0 3) a2 S2])) (va_A (fl [g11 q o0 a0 tp S0, g6 q (a0 10) a1 S1, g8 q (a0 3) a2 S2]) sz)) 0 0 (va_A (fl [g11 q o0 a0 tp S0, g6 q (a0 10) a1 S1, g8 q (a0 3) a2 S2]) sz) := by
  refine k_met (w0 := fl [g11 q o0 a0 tp S0, g6 q (a0 10) a1 S1, g8 q (a0 3) a2 S2]) (Q := fun A => QI D A r (fl [g11 q o0 a0 tp S0, g6 q (a0 10) a1 T1, g8 q (a0 3) a2 S2])) (by decide +kernel) (Nat.le_of_ble_eq_true rfl) ?_
  intro p e s m args below meth c A ls C hP hD hS hl
  have hl : lv_has ls 2 [(0, .ref o0), (1, .int x1)] := hl
  unfold F_X11_soonest at hF
  have C : cx p s m args meth c cX11_soonest 2 (some .int) RX11 D q A := C
  obtain ⟨hx, hb, hr, hml, hown, hts, hlk, hA, hK, hN, hV⟩ := id C
  refine lv_aload_n hx hb dX11_soonest_0 rfl (lv_at hl 0 rfl) ?_
  refine k_get (v := .ref (a0 3)) C fg_X11_26 hP 0 rfl rfl dX11_soonest_1 ?_
  refine lv_iload_n hx hb dX11_soonest_4 rfl (lv_at hl 1 rfl) ?_
  obtain ⟨r2, hc1, hF⟩ := ob1_s hF
  refine k_iro C (k_rV (As := [.int x1]) (rest := []) C (c_X8_hasPerson l D q (a0 3) a2 S2 _ x1 hc1) kc_X8_hasPerson ml_X11_137 rfl rfl (by decide) (flP hP [2] rfl) (flD hD [2] (by decide) rfl) hS (va_recv hK hP (ci := 8) (q0 := 9) rfl rfl) rfl hl.1 rfl (Nat.le_of_ble_eq_true rfl) dX11_soonest_5 (by decide)) hP hD hS [2] [0, 1] [g11 q o0 a0 tp S0, g6 q (a0 10) a1 S1] 3 (by decide) rfl rfl rfl rfl (fun H locs hP hD hS => ?_)
  refine lv_if_eq (tgt := 26) hx hb dX11_soonest_8 (by decide) (fun c3 => ?_) (fun c3 => ?_)
  · have hF := op_t hF c3
    refine lv_iconst (v := (-1 : Int32)) hx hb dX11_soonest_26 (by decide) ?_
    cases hF
    exact k_iret C hP hS dX11_soonest_27
  · have hF := op_f hF c3
    refine lv_aload_n hx hb dX11_soonest_11 rfl (lv_at hl 0 rfl) ?_
    refine k_get (v := .ref (a0 10)) C fg_X11_67 hP 0 rfl rfl dX11_soonest_12 ?_
    refine lv_aload_n hx hb dX11_soonest_15 rfl (lv_at hl 0 rfl) ?_
    refine k_get (v := .ref (a0 3)) C fg_X11_26 hP 0 rfl rfl dX11_soonest_16 ?_
    refine lv_iload_n hx hb dX11_soonest_19 rfl (lv_at hl 1 rfl) ?_
    obtain ⟨r5, U6, hc4, hF⟩ := ob2_s hF
    refine k_igrp (gs8 := [g11 q o0 a0 tp S0, g6 q (a0 10) a1 U6, g8 q (a0 3) a2 S2]) C (k_rV (As := [.ref (a0 3), .int x1]) (rest := []) C (c_X6_findSoonest l D q (a0 10) a1 S1 (a0 3) a2 S2 _ x1 hc4) kc_X6_findSoonest ml_X11_262 rfl rfl (by decide) (flP hP [1, 2] rfl) (flD hD [1, 2] (by decide) rfl) hS (va_recv hK hP (ci := 6) (q0 := 2) rfl rfl) rfl hl.1 rfl (Nat.le_of_ble_eq_true rfl) dX11_soonest_20 (by decide)) hP hD hS [1, 2] [0] [g11 q o0 a0 tp S0] 3 (by decide) rfl rfl rfl rfl rfl rfl (by simp only [List.map_cons, List.map_nil, gad11, gad6, gad8]) (fun H locs hP hD hS => ?_)
    refine lv_goto (tgt := 27) hx hb dX11_soonest_23 (by decide) ?_
    cases hF
    exact k_iret C hP hS dX11_soonest_27

abbrev rm_X11_party : Room := ({ frames := 5, cells := 0, slots := 0, locals := 116 } : Room)
def F_X11_party (S0 : St) (S1 : St) (S2 : St) : Option (Int32 × St) := ob2 (F_X4_plan S1 S2) fun r2 U3 => some (r2, U3)
set_option maxRecDepth 100000 in
set_option maxHeartbeats 4000000 in
theorem c_X11_party (l : Launch) (D : va_G) (q : Nat → ClassId) (tp : Nat) (o0 : Nat) (a0 : Nat → Nat) (S0 : St) (a1 : Nat → Nat) (S1 : St) (a2 : Nat → Nat) (S2 : St) (sz : Nat) {r : Int32} {T1 : St} (hF : F_X11_party S0 S1 S2 = some (r, T1)) : Met l yX11_party (Cond.code yX11_party cX11_party 1 (some .int) :: TB) rm_X11_party (PC D q [.ref o0] (fl [g11 q o0 a0 tp S0, g4 q (a0 11) a1 S1, g8 q (a0 3) a2 S2]) sz) ((fun A => QI D A r (fl [g11 q o0 a0 tp S0, g4 q (a0 11) a1 T1, g8 q (a0 3) a2 S2])) (va_A (fl [g11 q o0 a0 tp S0, g4 q (a0 11) a1 S1, g8 q (a0 3) a2 S2]) sz)) 0 0 (va_A (fl [g11 q o0 a0 tp S0, g4 q (a0 11) a1 S1, g8 q (a0 3) a2 S2]) sz) := by
  refine k_met (w0 := fl [g11 q o0 a0 tp S0, g4 q (a0 11) a1 S1, g8 q (a0 3) a2 S2]) (Q := fun A => QI D A r (fl [g11 q o0 a0 tp S0, g4 q (a0 11) a1 T1, g8 q (a0 3) a2 S2])) (by decide +kernel) (Nat.le_of_ble_eq_true rfl) ?_
  intro p e s m args below meth c A ls C hP hD hS hl
  have hl : lv_has ls 1 [(0, .ref o0)] := hl
  unfold F_X11_party at hF
  have C : cx p s m args meth c cX11_party 1 (some .int) RX11 D q A := C
  obtain ⟨hx, hb, hr, hml, hown, hts, hlk, hA, hK, hN, hV⟩ := id C
  refine lv_aload_n hx hb dX11_party_0 rfl (lv_at hl 0 rfl) ?_
  refine k_get (v := .ref (a0 11)) C fg_X11_74 hP 0 rfl rfl dX11_party_1 ?_
  refine lv_aload_n hx hb dX11_party_4 rfl (lv_at hl 0 rfl) ?_
  refine k_get (v := .ref (a0 3)) C fg_X11_26 hP 0 rfl rfl dX11_party_5 ?_
  obtain ⟨r2, U3, hc1, hF⟩ := ob2_s hF
  refine k_igrp (gs8 := [g11 q o0 a0 tp S0, g4 q (a0 11) a1 U3, g8 q (a0 3) a2 S2]) C (k_rV (As := [.ref (a0 3)]) (rest := []) C (c_X4_plan l D q (a0 11) a1 S1 (a0 3) a2 S2 _ hc1) kc_X4_plan ml_X11_307 rfl rfl (by decide) (flP hP [1, 2] rfl) (flD hD [1, 2] (by decide) rfl) hS (va_recv hK hP (ci := 4) (q0 := 2) rfl rfl) rfl hl.1 rfl (Nat.le_of_ble_eq_true rfl) dX11_party_8 (by decide)) hP hD hS [1, 2] [0] [g11 q o0 a0 tp S0] 3 (by decide) rfl rfl rfl rfl rfl rfl (by simp only [List.map_cons, List.map_nil, gad11, gad4, gad8]) (fun H locs hP hD hS => ?_)
  cases hF
  exact k_iret C hP hS dX11_party_11
