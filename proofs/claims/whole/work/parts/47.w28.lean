abbrev rm_X12_keepsRow : Room := ({ frames := 0, cells := 0, slots := 0, locals := 0 } : Room)
def F_X12_keepsRow_13 (k13 : Int32 × Int32 × Int32 × St → Option (St)) (x3 : Int32) (x4 : Int32) (x5 : Int32) (S0 : St) : Option (St) := if x5 < 0 then (some (S0)) else (if x3 = 0 then none else if oob x5 3 then none else nw (sA S0 26 x5 (x4 - x4 / x3 * x3)) fun U4 => if x3 = 0 then none else k13 (x3, (x4 / x3), (x5 + (-1)), U4))
def L_X12_keepsRow_13 (x3 : Int32) (x4 : Int32) (x5 : Int32) (S0 : St) : Option (St) := lp (fun kz z => F_X12_keepsRow_13 kz z.1 z.2.1 z.2.2.1 z.2.2.2) FU (x3, x4, x5, S0)
def F_X12_keepsRow (S0 : St) (x1 : Int32) (x2 : Int32) (x3 : Int32) : Option (St) := nw (sI S0 27 x2) fun U1 => L_X12_keepsRow_13 x3 x1 (x2 - (1 : Int32)) U1
set_option maxRecDepth 100000 in
set_option maxHeartbeats 4000000 in
theorem b_X12_keepsRow_13 {p : Program} {l : Launch} {e : Env} {s : State} {m : MethodId} {args : Array Value} {below : List Frame} {meth : Method} {c : Code} {D : va_G} {q : Nat → ClassId} {A : Nat → Prop} {o0 : Nat} {a0 : Nat → Nat} {T0 : St} (C : cx p s m args meth c cX12_keepsRow 6 none RX12 D q A) {k13 : Int32 × Int32 × Int32 × St → Option (St)} (hk13 : ∀ (x3 : Int32) (x4 : Int32) (x5 : Int32) (S0 : St), k13 (x3, x4, x5, S0) = some (T0) → ∀ (H : Heap) (locs : List Loc) (ls : Array Slot), va_P D vwCl (fl [g12 q o0 a0 S0]) H → va_D A (fl [g12 q o0 a0 S0]) → va_S A s.heap H locs → lv_has ls 6 [(0, .ref o0), (3, .int x3), (4, .int x4), (5, .int x5)] → W p l e rm_X12_keepsRow s m args below meth c H locs 0 0 (MQ below (QV D A (fl [g12 q o0 a0 T0])) args s 0 0 A) (F0 m 13 ls [])) {x3 : Int32} {x4 : Int32} {x5 : Int32} {S0 : St} (hF : F_X12_keepsRow_13 k13 x3 x4 x5 S0 = some (T0)) {H : Heap} {locs : List Loc} (hP : va_P D vwCl (fl [g12 q o0 a0 S0]) H) (hD : va_D A (fl [g12 q o0 a0 S0])) (hS : va_S A s.heap H locs) {ls : Array Slot} (hl : lv_has ls 6 [(0, .ref o0), (3, .int x3), (4, .int x4), (5, .int x5)]) : W p l e rm_X12_keepsRow s m args below meth c H locs 0 0 (MQ below (QV D A (fl [g12 q o0 a0 T0])) args s 0 0 A) (F0 m 13 ls []) := by
  unfold F_X12_keepsRow_13 at hF
  obtain ⟨hx, hb, hr, hml, hown, hts, hlk, hA, hK, hN, hV⟩ := id C
  refine lv_iload hx hb dX12_keepsRow_13 (lv_at hl 3 rfl) ?_
  refine lv_if_lt (tgt := 41) hx hb dX12_keepsRow_15 (by decide) (fun c1 => ?_) (fun c1 => ?_)
  · have hF := op_t hF c1
    cases hF
    exact k_vret C hP hS dX12_keepsRow_41
  · have hF := op_f hF c1
    refine lv_aload_n hx hb dX12_keepsRow_18 rfl (lv_at hl 0 rfl) ?_
    refine k_get (v := .ref (a0 27)) C fg_X12_65 hP 0 rfl rfl dX12_keepsRow_19 ?_
    refine lv_iload hx hb dX12_keepsRow_22 (lv_at hl 3 rfl) ?_
    refine lv_iload hx hb dX12_keepsRow_24 (lv_at hl 2 rfl) ?_
    refine lv_iload_n hx hb dX12_keepsRow_26 rfl (lv_at hl 1 rfl) ?_
    obtain ⟨h2, hF⟩ := op_ck hF
    refine lv_irem hx hb dX12_keepsRow_27 h2 ?_
    obtain ⟨h3, hF⟩ := op_ck hF
    obtain ⟨U4, e5, hF⟩ := nw_s hF
    refine k_ist (f := S0.2.2.1 26) (W8 := fl [g12 q o0 a0 U4]) C hP hD hS 11 rfl h3 dX12_keepsRow_28 (by rw [e5]; rfl) (fun H locs hP hD hS => ?_)
    refine lv_iload hx hb dX12_keepsRow_29 (lv_at hl 2 rfl) ?_
    refine lv_iload_n hx hb dX12_keepsRow_31 rfl (lv_at hl 1 rfl) ?_
    obtain ⟨h6, hF⟩ := op_ck hF
    refine lv_idiv hx hb dX12_keepsRow_32 h6 ?_
    refine lv_istore (lv' := [(4, .int (x4 / x3)), (0, .ref o0), (3, .int x3), (5, .int x5)]) hx hb dX12_keepsRow_33 hl (by decide) rfl (fun ls hl => ?_)
    refine lv_iinc (v := (x5 + (-1))) (lv' := [(5, .int (x5 + (-1))), (4, .int (x4 / x3)), (0, .ref o0), (3, .int x3)]) hx hb dX12_keepsRow_35 hl (k := 3) rfl rfl (by decide) rfl (fun ls hl => ?_)
    refine lv_goto (tgt := 13) hx hb dX12_keepsRow_38 (by decide) ?_
    exact hk13 x3 (x4 / x3) (x5 + (-1)) U4 hF _ _ _ hP hD hS (lv_sub hl [2, 3, 1, 0] rfl)
set_option maxRecDepth 100000 in
set_option maxHeartbeats 4000000 in
theorem l_X12_keepsRow_13 {p : Program} {l : Launch} {e : Env} {s : State} {m : MethodId} {args : Array Value} {below : List Frame} {meth : Method} {c : Code} {D : va_G} {q : Nat → ClassId} {A : Nat → Prop} {o0 : Nat} {a0 : Nat → Nat} {T0 : St} (C : cx p s m args meth c cX12_keepsRow 6 none RX12 D q A) {x3 : Int32} {x4 : Int32} {x5 : Int32} {S0 : St} (hF : L_X12_keepsRow_13 x3 x4 x5 S0 = some (T0)) : ∀ (H : Heap) (locs : List Loc) (ls : Array Slot), va_P D vwCl (fl [g12 q o0 a0 S0]) H → va_D A (fl [g12 q o0 a0 S0]) → va_S A s.heap H locs → lv_has ls 6 [(0, .ref o0), (3, .int x3), (4, .int x4), (5, .int x5)] → W p l e rm_X12_keepsRow s m args below meth c H locs 0 0 (MQ below (QV D A (fl [g12 q o0 a0 T0])) args s 0 0 A) (F0 m 13 ls []) :=
  lp_G _ _ (fun z => ∀ (H : Heap) (locs : List Loc) (ls : Array Slot), va_P D vwCl (fl [g12 q o0 a0 z.2.2.2]) H → va_D A (fl [g12 q o0 a0 z.2.2.2]) → va_S A s.heap H locs → lv_has ls 6 [(0, .ref o0), (3, .int z.1), (4, .int z.2.1), (5, .int z.2.2.1)] → W p l e rm_X12_keepsRow s m args below meth c H locs 0 0 (MQ below (QV D A (fl [g12 q o0 a0 T0])) args s 0 0 A) (F0 m 13 ls [])) (fun kz hkz z hz H locs ls hP hD hS hl => b_X12_keepsRow_13 C (fun x3 x4 x5 S0 hz => hkz (x3, x4, x5, S0) hz) hz hP hD hS hl) FU (x3, x4, x5, S0) hF
set_option maxRecDepth 100000 in
set_option maxHeartbeats 4000000 in
theorem c_X12_keepsRow (l : Launch) (D : va_G) (q : Nat → ClassId) (o0 : Nat) (a0 : Nat → Nat) (S0 : St) (sz : Nat) (x1 : Int32) (x2 : Int32) (x3 : Int32) {T0 : St} (hF : F_X12_keepsRow S0 x1 x2 x3 = some (T0)) : Met l yX12_keepsRow (Cond.code yX12_keepsRow cX12_keepsRow 6 none :: TB) rm_X12_keepsRow (PC D q [.ref o0, .int x1, .int x2, .int x3] (fl [g12 q o0 a0 S0]) sz) ((fun A => QV D A (fl [g12 q o0 a0 T0])) (va_A (fl [g12 q o0 a0 S0]) sz)) 0 0 (va_A (fl [g12 q o0 a0 S0]) sz) := by
  refine k_met (w0 := fl [g12 q o0 a0 S0]) (Q := fun A => QV D A (fl [g12 q o0 a0 T0])) (by decide +kernel) (Nat.le_of_ble_eq_true rfl) ?_
  intro p e s m args below meth c A ls C hP hD hS hl
  have hl : lv_has ls 6 [(0, .ref o0), (1, .int x1), (2, .int x2), (3, .int x3)] := hl
  unfold F_X12_keepsRow at hF
  have C : cx p s m args meth c cX12_keepsRow 6 none RX12 D q A := C
  obtain ⟨hx, hb, hr, hml, hown, hts, hlk, hA, hK, hN, hV⟩ := id C
  refine lv_aload_n hx hb dX12_keepsRow_0 rfl (lv_at hl 0 rfl) ?_
  refine lv_iload_n hx hb dX12_keepsRow_1 rfl (lv_at hl 2 rfl) ?_
  obtain ⟨U1, e2, hF⟩ := nw_s hF
  refine k_put (W8 := fl [g12 q o0 a0 U1]) C fp_X12_68 hP hD hS 0 rfl rfl rfl (Nat.le_of_ble_eq_true rfl) dX12_keepsRow_2 (by rw [e2]; rfl) (fun H locs hP hD hS => ?_)
  refine lv_iload_n hx hb dX12_keepsRow_5 rfl (lv_at hl 1 rfl) ?_
  refine lv_istore (lv' := [(4, .int x1), (0, .ref o0), (1, .int x1), (2, .int x2), (3, .int x3)]) hx hb dX12_keepsRow_6 hl (by decide) rfl (fun ls hl => ?_)
  refine lv_iload_n hx hb dX12_keepsRow_8 rfl (lv_at hl 3 rfl) ?_
  refine lv_iconst (v := (1 : Int32)) hx hb dX12_keepsRow_9 (by decide) ?_
  refine lv_isub hx hb dX12_keepsRow_10 ?_
  refine lv_istore (lv' := [(5, .int (x2 - (1 : Int32))), (4, .int x1), (0, .ref o0), (1, .int x1), (2, .int x2), (3, .int x3)]) hx hb dX12_keepsRow_11 hl (by decide) rfl (fun ls hl => ?_)
  exact l_X12_keepsRow_13 C hF _ _ _ hP hD hS (lv_sub hl [2, 5, 1, 0] rfl)

abbrev rm_X12_made : Room := ({ frames := 2, cells := 0, slots := 0, locals := 47 } : Room)
def F_X12_made_131 (k36 : Int32 × Int32 × Int32 × Int32 × St → Option (Int32 × St)) (k49 : Int32 × Int32 × Int32 × Int32 × Int32 × St → Option (Int32 × St)) (x1 : Int32) (x2 : Int32) (x3 : Int32) (x4 : Int32) (x5 : Int32) (S0 : St) : Option (Int32 × St) := k49 (x1, x2, x3, x4, (x5 + 1), S0)
def F_X12_made_128 (k36 : Int32 × Int32 × Int32 × Int32 × St → Option (Int32 × St)) (k49 : Int32 × Int32 × Int32 × Int32 × Int32 × St → Option (Int32 × St)) (x1 : Int32) (x2 : Int32) (x3 : Int32) (x4 : Int32) (x5 : Int32) (S0 : St) : Option (Int32 × St) := F_X12_made_131 k36 k49 (x1 + 1) x2 x3 x4 x5 S0
def F_X12_made_68 (k36 : Int32 × Int32 × Int32 × Int32 × St → Option (Int32 × St)) (k49 : Int32 × Int32 × Int32 × Int32 × Int32 × St → Option (Int32 × St)) (k68 : Int32 × Int32 × Int32 × Int32 × Int32 × Int32 × Int32 × Int32 × St → Option (Int32 × St)) (x1 : Int32) (x2 : Int32) (x3 : Int32) (x4 : Int32) (x5 : Int32) (x6 : Int32) (x7 : Int32) (x8 : Int32) (S0 : St) : Option (Int32 × St) := if x4 ≤ x8 then (ob1 (F_X12_octet S0 (1 : Int32)) fun r3 => if x6 = r3 then (if x1 = 0 then (ob1 (F_X12_keepsRow S0 x5 x4 x2) fun U7 => F_X12_made_128 k36 k49 x1 x2 x3 x4 x5 U7) else (F_X12_made_128 k36 k49 x1 x2 x3 x4 x5 S0)) else (F_X12_made_131 k36 k49 x1 x2 x3 x4 x5 S0)) else (if x2 = 0 then none else if (x7 / x2) = 0 then none else if x2 = 0 then none else ob1 (F_X12_behindOf S0 x6 ((x5 / (x7 / x2)) - (x5 / (x7 / x2)) / x2 * x2)) fun r12 => k68 (x1, x2, x3, x4, x5, r12, (x7 / x2), (x8 + 1), S0))
def L_X12_made_68 (k36 : Int32 × Int32 × Int32 × Int32 × St → Option (Int32 × St)) (k49 : Int32 × Int32 × Int32 × Int32 × Int32 × St → Option (Int32 × St)) (x1 : Int32) (x2 : Int32) (x3 : Int32) (x4 : Int32) (x5 : Int32) (x6 : Int32) (x7 : Int32) (x8 : Int32) (S0 : St) : Option (Int32 × St) := lp (fun kz z => F_X12_made_68 k36 k49 kz z.1 z.2.1 z.2.2.1 z.2.2.2.1 z.2.2.2.2.1 z.2.2.2.2.2.1 z.2.2.2.2.2.2.1 z.2.2.2.2.2.2.2.1 z.2.2.2.2.2.2.2.2) FU (x1, x2, x3, x4, x5, x6, x7, x8, S0)
def F_X12_made_49 (k36 : Int32 × Int32 × Int32 × Int32 × St → Option (Int32 × St)) (k49 : Int32 × Int32 × Int32 × Int32 × Int32 × St → Option (Int32 × St)) (x1 : Int32) (x2 : Int32) (x3 : Int32) (x4 : Int32) (x5 : Int32) (S0 : St) : Option (Int32 × St) := if x3 ≤ x5 then (k36 (x1, x2, x3, (x4 + 1), S0)) else (ob1 (F_X12_octet S0 (0 : Int32)) fun r3 => L_X12_made_68 k36 k49 x1 x2 x3 x4 x5 r3 x3 (0 : Int32) S0)
def L_X12_made_49 (k36 : Int32 × Int32 × Int32 × Int32 × St → Option (Int32 × St)) (x1 : Int32) (x2 : Int32) (x3 : Int32) (x4 : Int32) (x5 : Int32) (S0 : St) : Option (Int32 × St) := lp (fun kz z => F_X12_made_49 k36 kz z.1 z.2.1 z.2.2.1 z.2.2.2.1 z.2.2.2.2.1 z.2.2.2.2.2) FU (x1, x2, x3, x4, x5, S0)
def F_X12_made_36 (k36 : Int32 × Int32 × Int32 × Int32 × St → Option (Int32 × St)) (x1 : Int32) (x2 : Int32) (x3 : Int32) (x4 : Int32) (S0 : St) : Option (Int32 × St) := if (4 : Int32) ≤ x4 then (some (x1, S0)) else (L_X12_made_49 k36 x1 x2 (x3 * x2) x4 (0 : Int32) S0)
def L_X12_made_36 (x1 : Int32) (x2 : Int32) (x3 : Int32) (x4 : Int32) (S0 : St) : Option (Int32 × St) := lp (fun kz z => F_X12_made_36 kz z.1 z.2.1 z.2.2.1 z.2.2.2.1 z.2.2.2.2) FU (x1, x2, x3, x4, S0)
def F_X12_made (S0 : St) : Option (Int32 × St) := nw (sI S0 0 (0 : Int32)) fun U1 => ob1 (F_X12_taken U1 (940 : Int32)) fun U4 => if (U4.1 3) = (2 : Int32) then (if oob (0 : Int32) 258 then none else nw (U4.2.2.1 6 (0 : Int32).toNatClampNeg) fun v7 => L_X12_made_36 (0 : Int32) v7 (1 : Int32) (1 : Int32) U4) else (some ((-1 : Int32), U4))
set_option maxRecDepth 100000 in
set_option maxHeartbeats 4000000 in
theorem b_X12_made_131 {p : Program} {l : Launch} {e : Env} {s : State} {m : MethodId} {args : Array Value} {below : List Frame} {meth : Method} {c : Code} {D : va_G} {q : Nat → ClassId} {A : Nat → Prop} {o0 : Nat} {a0 : Nat → Nat} {r : Int32} {T0 : St} (C : cx p s m args meth c cX12_made 9 (some .int) RX12 D q A) {k36 : Int32 × Int32 × Int32 × Int32 × St → Option (Int32 × St)} (hk36 : ∀ (x1 : Int32) (x2 : Int32) (x3 : Int32) (x4 : Int32) (S0 : St), k36 (x1, x2, x3, x4, S0) = some (r, T0) → ∀ (H : Heap) (locs : List Loc) (ls : Array Slot), va_P D vwCl (fl [g12 q o0 a0 S0]) H → va_D A (fl [g12 q o0 a0 S0]) → va_S A s.heap H locs → lv_has ls 9 [(0, .ref o0), (1, .int x1), (2, .int x2), (3, .int x3), (4, .int x4)] → W p l e rm_X12_made s m args below meth c H locs 0 0 (MQ below (QI D A r (fl [g12 q o0 a0 T0])) args s 0 0 A) (F0 m 36 ls [])) {k49 : Int32 × Int32 × Int32 × Int32 × Int32 × St → Option (Int32 × St)} (hk49 : ∀ (x1 : Int32) (x2 : Int32) (x3 : Int32) (x4 : Int32) (x5 : Int32) (S0 : St), k49 (x1, x2, x3, x4, x5, S0) = some (r, T0) → ∀ (H : Heap) (locs : List Loc) (ls : Array Slot), va_P D vwCl (fl [g12 q o0 a0 S0]) H → va_D A (fl [g12 q o0 a0 S0]) → va_S A s.heap H locs → lv_has ls 9 [(0, .ref o0), (1, .int x1), (2, .int x2), (3, .int x3), (4, .int x4), (5, .int x5)] → W p l e rm_X12_made s m args below meth c H locs 0 0 (MQ below (QI D A r (fl [g12 q o0 a0 T0])) args s 0 0 A) (F0 m 49 ls [])) {x1 : Int32} {x2 : Int32} {x3 : Int32} {x4 : Int32} {x5 : Int32} {S0 : St} (hF : F_X12_made_131 k36 k49 x1 x2 x3 x4 x5 S0 = some (r, T0)) {H : Heap} {locs : List Loc} (hP : va_P D vwCl (fl [g12 q o0 a0 S0]) H) (hD : va_D A (fl [g12 q o0 a0 S0])) (hS : va_S A s.heap H locs) {ls : Array Slot} (hl : lv_has ls 9 [(0, .ref o0), (1, .int x1), (2, .int x2), (3, .int x3), (4, .int x4), (5, .int x5)]) : W p l e rm_X12_made s m args below meth c H locs 0 0 (MQ below (QI D A r (fl [g12 q o0 a0 T0])) args s 0 0 A) (F0 m 131 ls []) := by
  unfold F_X12_made_131 at hF
  obtain ⟨hx, hb, hr, hml, hown, hts, hlk, hA, hK, hN, hV⟩ := id C
  refine lv_iinc (v := (x5 + 1)) (lv' := [(5, .int (x5 + 1)), (0, .ref o0), (1, .int x1), (2, .int x2), (3, .int x3), (4, .int x4)]) hx hb dX12_made_131 hl (k := 5) rfl rfl (by decide) rfl (fun ls hl => ?_)
  refine lv_goto (tgt := 49) hx hb dX12_made_134 (by decide) ?_
  exact hk49 x1 x2 x3 x4 (x5 + 1) S0 hF _ _ _ hP hD hS (lv_sub hl [1, 2, 3, 4, 5, 0] rfl)
set_option maxRecDepth 100000 in
set_option maxHeartbeats 4000000 in
theorem b_X12_made_128 {p : Program} {l : Launch} {e : Env} {s : State} {m : MethodId} {args : Array Value} {below : List Frame} {meth : Method} {c : Code} {D : va_G} {q : Nat → ClassId} {A : Nat → Prop} {o0 : Nat} {a0 : Nat → Nat} {r : Int32} {T0 : St} (C : cx p s m args meth c cX12_made 9 (some .int) RX12 D q A) {k36 : Int32 × Int32 × Int32 × Int32 × St → Option (Int32 × St)} (hk36 : ∀ (x1 : Int32) (x2 : Int32) (x3 : Int32) (x4 : Int32) (S0 : St), k36 (x1, x2, x3, x4, S0) = some (r, T0) → ∀ (H : Heap) (locs : List Loc) (ls : Array Slot), va_P D vwCl (fl [g12 q o0 a0 S0]) H → va_D A (fl [g12 q o0 a0 S0]) → va_S A s.heap H locs → lv_has ls 9 [(0, .ref o0), (1, .int x1), (2, .int x2), (3, .int x3), (4, .int x4)] → W p l e rm_X12_made s m args below meth c H locs 0 0 (MQ below (QI D A r (fl [g12 q o0 a0 T0])) args s 0 0 A) (F0 m 36 ls [])) {k49 : Int32 × Int32 × Int32 × Int32 × Int32 × St → Option (Int32 × St)} (hk49 : ∀ (x1 : Int32) (x2 : Int32) (x3 : Int32) (x4 : Int32) (x5 : Int32) (S0 : St), k49 (x1, x2, x3, x4, x5, S0) = some (r, T0) → ∀ (H : Heap) (locs : List Loc) (ls : Array Slot), va_P D vwCl (fl [g12 q o0 a0 S0]) H → va_D A (fl [g12 q o0 a0 S0]) → va_S A s.heap H locs → lv_has ls 9 [(0, .ref o0), (1, .int x1), (2, .int x2), (3, .int x3), (4, .int x4), (5, .int x5)] → W p l e rm_X12_made s m args below meth c H locs 0 0 (MQ below (QI D A r (fl [g12 q o0 a0 T0])) args s 0 0 A) (F0 m 49 ls [])) {x1 : Int32} {x2 : Int32} {x3 : Int32} {x4 : Int32} {x5 : Int32} {S0 : St} (hF : F_X12_made_128 k36 k49 x1 x2 x3 x4 x5 S0 = some (r, T0)) {H : Heap} {locs : List Loc} (hP : va_P D vwCl (fl [g12 q o0 a0 S0]) H) (hD : va_D A (fl [g12 q o0 a0 S0])) (hS : va_S A s.heap H locs) {ls : Array Slot} (hl : lv_has ls 9 [(0, .ref o0), (1, .int x1), (2, .int x2), (3, .int x3), (4, .int x4), (5, .int x5)]) : W p l e rm_X12_made s m args below meth c H locs 0 0 (MQ below (QI D A r (fl [g12 q o0 a0 T0])) args s 0 0 A) (F0 m 128 ls []) := by
  unfold F_X12_made_128 at hF
  obtain ⟨hx, hb, hr, hml, hown, hts, hlk, hA, hK, hN, hV⟩ := id C
  refine lv_iinc (v := (x1 + 1)) (lv' := [(1, .int (x1 + 1)), (0, .ref o0), (2, .int x2), (3, .int x3), (4, .int x4), (5, .int x5)]) hx hb dX12_made_128 hl (k := 1) rfl rfl (by decide) rfl (fun ls hl => ?_)
  exact b_X12_made_131 C hk36 hk49 hF hP hD hS (lv_sub hl [1, 0, 2, 3, 4, 5] rfl)
set_option maxRecDepth 100000 in
set_option maxHeartbeats 4000000 in
theorem b_X12_made_68 {p : Program} {l : Launch} {e : Env} {s : State} {m : MethodId} {args : Array Value} {below : List Frame} {meth : Method} {c : Code} {D : va_G} {q : Nat → ClassId} {A : Nat → Prop} {o0 : Nat} {a0 : Nat → Nat} {r : Int32} {T0 : St} (C : cx p s m args meth c cX12_made 9 (some .int) RX12 D q A) {k36 : Int32 × Int32 × Int32 × Int32 × St → Option (Int32 × St)} (hk36 : ∀ (x1 : Int32) (x2 : Int32) (x3 : Int32) (x4 : Int32) (S0 : St), k36 (x1, x2, x3, x4, S0) = some (r, T0) → ∀ (H : Heap) (locs : List Loc) (ls : Array Slot), va_P D vwCl (fl [g12 q o0 a0 S0]) H → va_D A (fl [g12 q o0 a0 S0]) → va_S A s.heap H locs → lv_has ls 9 [(0, .ref o0), (1, .int x1), (2, .int x2), (3, .int x3), (4, .int x4)] → W p l e rm_X12_made s m args below meth c H locs 0 0 (MQ below (QI D A r (fl [g12 q o0 a0 T0])) args s 0 0 A) (F0 m 36 ls [])) {k49 : Int32 × Int32 × Int32 × Int32 × Int32 × St → Option (Int32 × St)} (hk49 : ∀ (x1 : Int32) (x2 : Int32) (x3 : Int32) (x4 : Int32) (x5 : Int32) (S0 : St), k49 (x1, x2, x3, x4, x5, S0) = some (r, T0) → ∀ (H : Heap) (locs : List Loc) (ls : Array Slot), va_P D vwCl (fl [g12 q o0 a0 S0]) H → va_D A (fl [g12 q o0 a0 S0]) → va_S A s.heap H locs → lv_has ls 9 [(0, .ref o0), (1, .int x1), (2, .int x2), (3, .int x3), (4, .int x4), (5, .int x5)] → W p l e rm_X12_made s m args below meth c H locs 0 0 (MQ below (QI D A r (fl [g12 q o0 a0 T0])) args s 0 0 A) (F0 m 49 ls [])) {k68 : Int32 × Int32 × Int32 × Int32 × Int32 × Int32 × Int32 × Int32 × St → Option (Int32 × St)} (hk68 : ∀ (x1 : Int32) (x2 : Int32) (x3 : Int32) (x4 : Int32) (x5 : Int32) (x6 : Int32) (x7 : Int32) (x8 : Int32) (S0 : St), k68 (x1, x2, x3, x4, x5, x6, x7, x8, S0) = some (r, T0) → ∀ (H : Heap) (locs : List Loc) (ls : Array Slot), va_P D vwCl (fl [g12 q o0 a0 S0]) H → va_D A (fl [g12 q o0 a0 S0]) → va_S A s.heap H locs → lv_has ls 9 [(0, .ref o0), (1, .int x1), (2, .int x2), (3, .int x3), (4, .int x4), (5, .int x5), (6, .int x6), (7, .int x7), (8, .int x8)] → W p l e rm_X12_made s m args below meth c H locs 0 0 (MQ below (QI D A r (fl [g12 q o0 a0 T0])) args s 0 0 A) (F0 m 68 ls [])) {x1 : Int32} {x2 : Int32} {x3 : Int32} {x4 : Int32} {x5 : Int32} {x6 : Int32} {x7 : Int32} {x8 : Int32} {S0 : St} (hF : F_X12_made_68 k36 k49 k68 x1 x2 x3 x4 x5 x6 x7 x8 S0 = some (r, T0)) {H : Heap} {locs : List Loc} (hP : va_P D vwCl (fl [g12 q o0 a0 S0]) H) (hD : va_D A (fl [g12 q o0 a0 S0])) (hS : va_S A s.heap H locs) {ls : Array Slot} (hl : lv_has ls 9 [(0, .ref o0), (1, .int x1), (2, .int x2), (3, .int x3), (4, .int x4), (5, .int x5), (6, .int x6), (7, .int x7), (8, .int x8)]) : W p l e rm_X12_made s m args below meth c H locs 0 0 (MQ below (QI D A r (fl [g12 q o0 a0 T0])) args s 0 0 A) (F0 m 68 ls []) := by
  unfold F_X12_made_68 at hF
  obtain ⟨hx, hb, hr, hml, hown, hts, hlk, hA, hK, hN, hV⟩ := id C
  refine lv_iload hx hb dX12_made_68 (lv_at hl 8 rfl) ?_
  refine lv_iload hx hb dX12_made_70 (lv_at hl 4 rfl) ?_
  refine lv_icmp_ge (tgt := 102) hx hb dX12_made_72 (by decide) (fun c1 => ?_) (fun c1 => ?_)
  · have hF := op_t hF c1
    refine lv_iload hx hb dX12_made_102 (lv_at hl 6 rfl) ?_
    refine lv_aload_n hx hb dX12_made_104 rfl (lv_at hl 0 rfl) ?_
    refine lv_iconst (v := (1 : Int32)) hx hb dX12_made_105 (by decide) ?_
    obtain ⟨r3, hc2, hF⟩ := ob1_s hF
    refine k_isame C (k_rV (As := [.int (1 : Int32)]) (rest := [.int x6]) C (c_X12_octet l D q o0 a0 S0 _ (1 : Int32) hc2) kc_X12_octet ml_X12_385 rfl rfl (by decide) hP hD hS (va_recv hK hP (ci := 12) (q0 := 0) rfl rfl) rfl hl.1 rfl (Nat.le_of_ble_eq_true rfl) dX12_made_106 (by decide)) hP hD hS (fun H locs hP hD hS => ?_)
    refine lv_icmp_eq (tgt := 115) hx hb dX12_made_109 (by decide) (fun c4 => ?_) (fun c4 => ?_)
    · have hF := op_t hF c4
      refine lv_iload_n hx hb dX12_made_115 rfl (lv_at hl 1 rfl) ?_
      refine lv_if_ne (tgt := 128) hx hb dX12_made_116 (by decide) (fun c5 => ?_) (fun c5 => ?_)
      · have hF := op_f hF c5
        exact b_X12_made_128 C hk36 hk49 hF hP hD hS (lv_sub hl [0, 1, 2, 3, 4, 5] rfl)
      · have hF := op_t hF c5
        refine lv_aload_n hx hb dX12_made_119 rfl (lv_at hl 0 rfl) ?_
        refine lv_iload hx hb dX12_made_120 (lv_at hl 5 rfl) ?_
        refine lv_iload hx hb dX12_made_122 (lv_at hl 4 rfl) ?_
        refine lv_iload_n hx hb dX12_made_124 rfl (lv_at hl 2 rfl) ?_
        obtain ⟨U7, hc6, hF⟩ := ob1_s hF
        refine k_vall C (k_rV (As := [.int x5, .int x4, .int x2]) (rest := []) C (c_X12_keepsRow l D q o0 a0 S0 _ x5 x4 x2 hc6) kc_X12_keepsRow ml_X12_388 rfl rfl (by decide) hP hD hS (va_recv hK hP (ci := 12) (q0 := 0) rfl rfl) rfl hl.1 rfl (Nat.le_of_ble_eq_true rfl) dX12_made_125 (by decide)) hP hD hS (by simp only [List.map_cons, List.map_nil, gad12]) (fun H locs hP hD hS => ?_)
        exact b_X12_made_128 C hk36 hk49 hF hP hD hS (lv_sub hl [0, 1, 2, 3, 4, 5] rfl)
    · have hF := op_f hF c4
      refine lv_goto (tgt := 131) hx hb dX12_made_112 (by decide) ?_
      exact b_X12_made_131 C hk36 hk49 hF hP hD hS (lv_sub hl [0, 1, 2, 3, 4, 5] rfl)
  · have hF := op_f hF c1
    refine lv_iload hx hb dX12_made_75 (lv_at hl 7 rfl) ?_
    refine lv_iload_n hx hb dX12_made_77 rfl (lv_at hl 2 rfl) ?_
    obtain ⟨h8, hF⟩ := op_ck hF
    refine lv_idiv hx hb dX12_made_78 h8 ?_
    refine lv_istore (lv' := [(7, .int (x7 / x2)), (0, .ref o0), (1, .int x1), (2, .int x2), (3, .int x3), (4, .int x4), (5, .int x5), (6, .int x6), (8, .int x8)]) hx hb dX12_made_79 hl (by decide) rfl (fun ls hl => ?_)
    refine lv_aload_n hx hb dX12_made_81 rfl (lv_at hl 1 rfl) ?_
    refine lv_iload hx hb dX12_made_82 (lv_at hl 7 rfl) ?_
    refine lv_iload hx hb dX12_made_84 (lv_at hl 6 rfl) ?_
    refine lv_iload hx hb dX12_made_86 (lv_at hl 0 rfl) ?_
    obtain ⟨h9, hF⟩ := op_ck hF
    refine lv_idiv hx hb dX12_made_88 h9 ?_
    refine lv_iload_n hx hb dX12_made_89 rfl (lv_at hl 3 rfl) ?_
    obtain ⟨h10, hF⟩ := op_ck hF
    refine lv_irem hx hb dX12_made_90 h10 ?_
    obtain ⟨r12, hc11, hF⟩ := ob1_s hF
    refine k_isame C (k_rV (As := [.int x6, .int ((x5 / (x7 / x2)) - (x5 / (x7 / x2)) / x2 * x2)]) (rest := []) C (c_X12_behindOf l D q o0 a0 S0 _ x6 ((x5 / (x7 / x2)) - (x5 / (x7 / x2)) / x2 * x2) hc11) kc_X12_behindOf ml_X12_346 rfl rfl (by decide) hP hD hS (va_recv hK hP (ci := 12) (q0 := 0) rfl rfl) rfl hl.1 rfl (Nat.le_of_ble_eq_true rfl) dX12_made_91 (by decide)) hP hD hS (fun H locs hP hD hS => ?_)
    refine lv_istore (lv' := [(6, .int r12), (7, .int (x7 / x2)), (0, .ref o0), (1, .int x1), (2, .int x2), (3, .int x3), (4, .int x4), (5, .int x5), (8, .int x8)]) hx hb dX12_made_94 hl (by decide) rfl (fun ls hl => ?_)
    refine lv_iinc (v := (x8 + 1)) (lv' := [(8, .int (x8 + 1)), (6, .int r12), (7, .int (x7 / x2)), (0, .ref o0), (1, .int x1), (2, .int x2), (3, .int x3), (4, .int x4), (5, .int x5)]) hx hb dX12_made_96 hl (k := 8) rfl rfl (by decide) rfl (fun ls hl => ?_)
    refine lv_goto (tgt := 68) hx hb dX12_made_99 (by decide) ?_
    exact hk68 x1 x2 x3 x4 x5 r12 (x7 / x2) (x8 + 1) S0 hF _ _ _ hP hD hS (lv_sub hl [3, 4, 5, 6, 7, 8, 1, 2, 0] rfl)
set_option maxRecDepth 100000 in
set_option maxHeartbeats 4000000 in
theorem l_X12_made_68 {p : Program} {l : Launch} {e : Env} {s : State} {m : MethodId} {args : Array Value} {below : List Frame} {meth : Method} {c : Code} {D : va_G} {q : Nat → ClassId} {A : Nat → Prop} {o0 : Nat} {a0 : Nat → Nat} {r : Int32} {T0 : St} (C : cx p s m args meth c cX12_made 9 (some .int) RX12 D q A) {k36 : Int32 × Int32 × Int32 × Int32 × St → Option (Int32 × St)} (hk36 : ∀ (x1 : Int32) (x2 : Int32) (x3 : Int32) (x4 : Int32) (S0 : St), k36 (x1, x2, x3, x4, S0) = some (r, T0) → ∀ (H : Heap) (locs : List Loc) (ls : Array Slot), va_P D vwCl (fl [g12 q o0 a0 S0]) H → va_D A (fl [g12 q o0 a0 S0]) → va_S A s.heap H locs → lv_has ls 9 [(0, .ref o0), (1, .int x1), (2, .int x2), (3, .int x3), (4, .int x4)] → W p l e rm_X12_made s m args below meth c H locs 0 0 (MQ below (QI D A r (fl [g12 q o0 a0 T0])) args s 0 0 A) (F0 m 36 ls [])) {k49 : Int32 × Int32 × Int32 × Int32 × Int32 × St → Option (Int32 × St)} (hk49 : ∀ (x1 : Int32) (x2 : Int32) (x3 : Int32) (x4 : Int32) (x5 : Int32) (S0 : St), k49 (x1, x2, x3, x4, x5, S0) = some (r, T0) → ∀ (H : Heap) (locs : List Loc) (ls : Array Slot), va_P D vwCl (fl [g12 q o0 a0 S0]) H → va_D A (fl [g12 q o0 a0 S0]) → va_S A s.heap H locs → lv_has ls 9 [(0, .ref o0), (1, .int x1), (2, .int x2), (3, .int x3), (4, .int x4), (5, .int x5)] → W p l e rm_X12_made s m args below meth c H locs 0 0 (MQ below (QI D A r (fl [g12 q o0 a0 T0])) args s 0 0 A) (F0 m 49 ls [])) {x1 : Int32} {x2 : Int32} {x3 : Int32} {x4 : Int32} {x5 : Int32} {x6 : Int32} {x7 : Int32} {x8 : Int32} {S0 : St} (hF : L_X12_made_68 k36 k49 x1 x2 x3 x4 x5 x6 x7 x8 S0 = some (r, T0)) : ∀ (H : Heap) (locs : List Loc) (ls : Array Slot), va_P D vwCl (fl [g12 q o0 a0 S0]) H → va_D A (fl [g12 q o0 a0 S0]) → va_S A s.heap H locs → lv_has ls 9 [(0, .ref o0), (1, .int x1), (2, .int x2), (3, .int x3), (4, .int x4), (5, .int x5), (6, .int x6), (7, .int x7), (8, .int x8)] → W p l e rm_X12_made s m args below meth c H locs 0 0 (MQ below (QI D A r (fl [g12 q o0 a0 T0])) args s 0 0 A) (F0 m 68 ls []) :=
  lp_G _ _ (fun z => ∀ (H : Heap) (locs : List Loc) (ls : Array Slot), va_P D vwCl (fl [g12 q o0 a0 z.2.2.2.2.2.2.2.2]) H → va_D A (fl [g12 q o0 a0 z.2.2.2.2.2.2.2.2]) → va_S A s.heap H locs → lv_has ls 9 [(0, .ref o0), (1, .int z.1), (2, .int z.2.1), (3, .int z.2.2.1), (4, .int z.2.2.2.1), (5, .int z.2.2.2.2.1), (6, .int z.2.2.2.2.2.1), (7, .int z.2.2.2.2.2.2.1), (8, .int z.2.2.2.2.2.2.2.1)] → W p l e rm_X12_made s m args below meth c H locs 0 0 (MQ below (QI D A r (fl [g12 q o0 a0 T0])) args s 0 0 A) (F0 m 68 ls [])) (fun kz hkz z hz H locs ls hP hD hS hl => b_X12_made_68 C hk36 hk49 (fun x1 x2 x3 x4 x5 x6 x7 x8 S0 hz => hkz (x1, x2, x3, x4, x5, x6, x7, x8, S0) hz) hz hP hD hS hl) FU (x1, x2, x3, x4, x5, x6, x7, x8, S0) hF
set_option maxRecDepth 100000 in
set_option maxHeartbeats 4000000 in
theorem b_X12_made_49 {p : Program} {l : Launch} {e : Env} {s : State} {m : MethodId} {args : Array Value} {below : List Frame} {meth : Method} {c : Code} {D : va_G} {q : Nat → ClassId} {A : Nat → Prop} {o0 : Nat} {a0 : Nat → Nat} {r : Int32} {T0 : St} (C : cx p s m args meth c cX12_made 9 (some .int) RX12 D q A) {k36 : Int32 × Int32 × Int32 × Int32 × St → Option (Int32 × St)} (hk36 : ∀ (x1 : Int32) (x2 : Int32) (x3 : Int32) (x4 : Int32) (S0 : St), k36 (x1, x2, x3, x4, S0) = some (r, T0) → ∀ (H : Heap) (locs : List Loc) (ls : Array Slot), va_P D vwCl (fl [g12 q o0 a0 S0]) H → va_D A (fl [g12 q o0 a0 S0]) → va_S A s.heap H locs → lv_has ls 9 [(0, .ref o0), (1, .int x1), (2, .int x2), (3, .int x3), (4, .int x4)] → W p l e rm_X12_made s m args below meth c H locs 0 0 (MQ below (QI D A r (fl [g12 q o0 a0 T0])) args s 0 0 A) (F0 m 36 ls [])) {k49 : Int32 × Int32 × Int32 × Int32 × Int32 × St → Option (Int32 × St)} (hk49 : ∀ (x1 : Int32) (x2 : Int32) (x3 : Int32) (x4 : Int32) (x5 : Int32) (S0 : St), k49 (x1, x2, x3, x4, x5, S0) = some (r, T0) → ∀ (H : Heap) (locs : List Loc) (ls : Array Slot), va_P D vwCl (fl [g12 q o0 a0 S0]) H → va_D A (fl [g12 q o0 a0 S0]) → va_S A s.heap H locs → lv_has ls 9 [(0, .ref o0), (1, .int x1), (2, .int x2), (3, .int x3), (4, .int x4), (5, .int x5)] → W p l e rm_X12_made s m args below meth c H locs 0 0 (MQ below (QI D A r (fl [g12 q o0 a0 T0])) args s 0 0 A) (F0 m 49 ls [])) {x1 : Int32} {x2 : Int32} {x3 : Int32} {x4 : Int32} {x5 : Int32} {S0 : St} (hF : F_X12_made_49 k36 k49 x1 x2 x3 x4 x5 S0 = some (r, T0)) {H : Heap} {locs : List Loc} (hP : va_P D vwCl (fl [g12 q o0 a0 S0]) H) (hD : va_D A (fl [g12 q o0 a0 S0])) (hS : va_S A s.heap H locs) {ls : Array Slot} (hl : lv_has ls 9 [(0, .ref o0), (1, .int x1), (2, .int x2), (3, .int x3), (4, .int x4), (5, .int x5)]) : W p l e rm_X12_made s m args below meth c H locs 0 0 (MQ below (QI D A r (fl [g12 q o0 a0 T0])) args s 0 0 A) (F0 m 49 ls []) := by
  unfold F_X12_made_49 at hF
  obtain ⟨hx, hb, hr, hml, hown, hts, hlk, hA, hK, hN, hV⟩ := id C
  refine lv_iload hx hb dX12_made_49 (lv_at hl 5 rfl) ?_
  refine lv_iload_n hx hb dX12_made_51 rfl (lv_at hl 3 rfl) ?_
  refine lv_icmp_ge (tgt := 137) hx hb dX12_made_52 (by decide) (fun c1 => ?_) (fun c1 => ?_)
  · have hF := op_t hF c1
    refine lv_iinc (v := (x4 + 1)) (lv' := [(4, .int (x4 + 1)), (0, .ref o0), (1, .int x1), (2, .int x2), (3, .int x3), (5, .int x5)]) hx hb dX12_made_137 hl (k := 4) rfl rfl (by decide) rfl (fun ls hl => ?_)
    refine lv_goto (tgt := 36) hx hb dX12_made_140 (by decide) ?_
    exact hk36 x1 x2 x3 (x4 + 1) S0 hF _ _ _ hP hD hS (lv_sub hl [1, 2, 3, 4, 0] rfl)
  · have hF := op_f hF c1
    refine lv_aload_n hx hb dX12_made_55 rfl (lv_at hl 0 rfl) ?_
    refine lv_iconst (v := (0 : Int32)) hx hb dX12_made_56 (by decide) ?_
    obtain ⟨r3, hc2, hF⟩ := ob1_s hF
    refine k_isame C (k_rV (As := [.int (0 : Int32)]) (rest := []) C (c_X12_octet l D q o0 a0 S0 _ (0 : Int32) hc2) kc_X12_octet ml_X12_385 rfl rfl (by decide) hP hD hS (va_recv hK hP (ci := 12) (q0 := 0) rfl rfl) rfl hl.1 rfl (Nat.le_of_ble_eq_true rfl) dX12_made_57 (by decide)) hP hD hS (fun H locs hP hD hS => ?_)
    refine lv_istore (lv' := [(6, .int r3), (0, .ref o0), (1, .int x1), (2, .int x2), (3, .int x3), (4, .int x4), (5, .int x5)]) hx hb dX12_made_60 hl (by decide) rfl (fun ls hl => ?_)
    refine lv_iload_n hx hb dX12_made_62 rfl (lv_at hl 4 rfl) ?_
    refine lv_istore (lv' := [(7, .int x3), (6, .int r3), (0, .ref o0), (1, .int x1), (2, .int x2), (3, .int x3), (4, .int x4), (5, .int x5)]) hx hb dX12_made_63 hl (by decide) rfl (fun ls hl => ?_)
    refine lv_iconst (v := (0 : Int32)) hx hb dX12_made_65 (by decide) ?_
    refine lv_istore (lv' := [(8, .int (0 : Int32)), (7, .int x3), (6, .int r3), (0, .ref o0), (1, .int x1), (2, .int x2), (3, .int x3), (4, .int x4), (5, .int x5)]) hx hb dX12_made_66 hl (by decide) rfl (fun ls hl => ?_)
    exact l_X12_made_68 C hk36 hk49 hF _ _ _ hP hD hS (lv_sub hl [3, 4, 5, 6, 7, 8, 2, 1, 0] rfl)
set_option maxRecDepth 100000 in
set_option maxHeartbeats 4000000 in
theorem l_X12_made_49 {p : Program} {l : Launch} {e : Env} {s : State} {m : MethodId} {args : Array Value} {below : List Frame} {meth : Method} {c : Code} {D : va_G} {q : Nat → ClassId} {A : Nat → Prop} {o0 : Nat} {a0 : Nat → Nat} {r : Int32} {T0 : St} (C : cx p s m args meth c cX12_made 9 (some .int) RX12 D q A) {k36 : Int32 × Int32 × Int32 × Int32 × St → Option (Int32 × St)} (hk36 : ∀ (x1 : Int32) (x2 : Int32) (x3 : Int32) (x4 : Int32) (S0 : St), k36 (x1, x2, x3, x4, S0) = some (r, T0) → ∀ (H : Heap) (locs : List Loc) (ls : Array Slot), va_P D vwCl (fl [g12 q o0 a0 S0]) H → va_D A (fl [g12 q o0 a0 S0]) → va_S A s.heap H locs → lv_has ls 9 [(0, .ref o0), (1, .int x1), (2, .int x2), (3, .int x3), (4, .int x4)] → W p l e rm_X12_made s m args below meth c H locs 0 0 (MQ below (QI D A r (fl [g12 q o0 a0 T0])) args s 0 0 A) (F0 m 36 ls [])) {x1 : Int32} {x2 : Int32} {x3 : Int32} {x4 : Int32} {x5 : Int32} {S0 : St} (hF : L_X12_made_49 k36 x1 x2 x3 x4 x5 S0 = some (r, T0)) : ∀ (H : Heap) (locs : List Loc) (ls : Array Slot), va_P D vwCl (fl [g12 q o0 a0 S0]) H → va_D A (fl [g12 q o0 a0 S0]) → va_S A s.heap H locs → lv_has ls 9 [(0, .ref o0), (1, .int x1), (2, .int x2), (3, .int x3), (4, .int x4), (5, .int x5)] → W p l e rm_X12_made s m args below meth c H locs 0 0 (MQ below (QI D A r (fl [g12 q o0 a0 T0])) args s 0 0 A) (F0 m 49 ls []) :=
  lp_G _ _ (fun z => ∀ (H : Heap) (locs : List Loc) (ls : Array Slot), va_P D vwCl (fl [g12 q o0 a0 z.2.2.2.2.2]) H → va_D A (fl [g12 q o0 a0 z.2.2.2.2.2]) → va_S A s.heap H locs → lv_has ls 9 [(0, .ref o0), (1, .int z.1), (2, .int z.2.1), (3, .int z.2.2.1), (4, .int z.2.2.2.1), (5, .int z.2.2.2.2.1)] → W p l e rm_X12_made s m args below meth c H locs 0 0 (MQ below (QI D A r (fl [g12 q o0 a0 T0])) args s 0 0 A) (F0 m 49 ls [])) (fun kz hkz z hz H locs ls hP hD hS hl => b_X12_made_49 C hk36 (fun x1 x2 x3 x4 x5 S0 hz => hkz (x1, x2, x3, x4, x5, S0) hz) hz hP hD hS hl) FU (x1, x2, x3, x4, x5, S0) hF
set_option maxRecDepth 100000 in
set_option maxHeartbeats 4000000 in
theorem b_X12_made_36 {p : Program} {l : Launch} {e : Env} {s : State} {m : MethodId} {args : Array Value} {below : List Frame} {meth : Method} {c : Code} {D : va_G} {q : Nat → ClassId} {A : Nat → Prop} {o0 : Nat} {a0 : Nat → Nat} {r : Int32} {T0 : St} (C : cx p s m args meth c cX12_made 9 (some .int) RX12 D q A) {k36 : Int32 × Int32 × Int32 × Int32 × St → Option (Int32 × St)} (hk36 : ∀ (x1 : Int32) (x2 : Int32) (x3 : Int32) (x4 : Int32) (S0 : St), k36 (x1, x2, x3, x4, S0) = some (r, T0) → ∀ (H : Heap) (locs : List Loc) (ls : Array Slot), va_P D vwCl (fl [g12 q o0 a0 S0]) H → va_D A (fl [g12 q o0 a0 S0]) → va_S A s.heap H locs → lv_has ls 9 [(0, .ref o0), (1, .int x1), (2, .int x2), (3, .int x3), (4, .int x4)] → W p l e rm_X12_made s m args below meth c H locs 0 0 (MQ below (QI D A r (fl [g12 q o0 a0 T0])) args s 0 0 A) (F0 m 36 ls [])) {x1 : Int32} {x2 : Int32} {x3 : Int32} {x4 : Int32} {S0 : St} (hF : F_X12_made_36 k36 x1 x2 x3 x4 S0 = some (r, T0)) {H : Heap} {locs : List Loc} (hP : va_P D vwCl (fl [g12 q o0 a0 S0]) H) (hD : va_D A (fl [g12 q o0 a0 S0])) (hS : va_S A s.heap H locs) {ls : Array Slot} (hl : lv_has ls 9 [(0, .ref o0), (1, .int x1), (2, .int x2), (3, .int x3), (4, .int x4)]) : W p l e rm_X12_made s m args below meth c H locs 0 0 (MQ below (QI D A r (fl [g12 q o0 a0 T0])) args s 0 0 A) (F0 m 36 ls []) := by
  unfold F_X12_made_36 at hF
  obtain ⟨hx, hb, hr, hml, hown, hts, hlk, hA, hK, hN, hV⟩ := id C
  refine lv_iload hx hb dX12_made_36 (lv_at hl 4 rfl) ?_
  refine lv_iconst (v := (4 : Int32)) hx hb dX12_made_38 (by decide) ?_
  refine lv_icmp_ge (tgt := 143) hx hb dX12_made_39 (by decide) (fun c1 => ?_) (fun c1 => ?_)
  · have hF := op_t hF c1
    refine lv_iload_n hx hb dX12_made_143 rfl (lv_at hl 1 rfl) ?_
    cases hF
    exact k_iret C hP hS dX12_made_144
  · have hF := op_f hF c1
    refine lv_iload_n hx hb dX12_made_42 rfl (lv_at hl 3 rfl) ?_
    refine lv_iload_n hx hb dX12_made_43 rfl (lv_at hl 2 rfl) ?_
    refine lv_imul hx hb dX12_made_44 ?_
    refine lv_istore_n (lv' := [(3, .int (x3 * x2)), (0, .ref o0), (1, .int x1), (2, .int x2), (4, .int x4)]) hx hb dX12_made_45 rfl hl (by decide) rfl (fun ls hl => ?_)
    refine lv_iconst (v := (0 : Int32)) hx hb dX12_made_46 (by decide) ?_
    refine lv_istore (lv' := [(5, .int (0 : Int32)), (3, .int (x3 * x2)), (0, .ref o0), (1, .int x1), (2, .int x2), (4, .int x4)]) hx hb dX12_made_47 hl (by decide) rfl (fun ls hl => ?_)
    exact l_X12_made_49 C hk36 hF _ _ _ hP hD hS (lv_sub hl [2, 3, 4, 1, 5, 0] rfl)
set_option maxRecDepth 100000 in
set_option maxHeartbeats 4000000 in
theorem l_X12_made_36 {p : Program} {l : Launch} {e : Env} {s : State} {m : MethodId} {args : Array Value} {below : List Frame} {meth : Method} {c : Code} {D : va_G} {q : Nat → ClassId} {A : Nat → Prop} {o0 : Nat} {a0 : Nat → Nat} {r : Int32} {T0 : St} (C : cx p s m args meth c cX12_made 9 (some .int) RX12 D q A) {x1 : Int32} {x2 : Int32} {x3 : Int32} {x4 : Int32} {S0 : St} (hF : L_X12_made_36 x1 x2 x3 x4 S0 = some (r, T0)) : ∀ (H : Heap) (locs : List Loc) (ls : Array Slot), va_P D vwCl (fl [g12 q o0 a0 S0]) H → va_D A (fl [g12 q o0 a0 S0]) → va_S A s.heap H locs → lv_has ls 9 [(0, .ref o0), (1, .int x1), (2, .int x2), (3, .int x3), (4, .int x4)] → W p l e rm_X12_made s m args below meth c H locs 0 0 (MQ below (QI D A r (fl [g12 q o0 a0 T0])) args s 0 0 A) (F0 m 36 ls []) :=
  lp_G _ _ (fun z => ∀ (H : Heap) (locs : List Loc) (ls : Array Slot), va_P D vwCl (fl [g12 q o0 a0 z.2.2.2.2]) H → va_D A (fl [g12 q o0 a0 z.2.2.2.2]) → va_S A s.heap H locs → lv_has ls 9 [(0, .ref o0), (1, .int z.1), (2, .int z.2.1), (3, .int z.2.2.1), (4, .int z.2.2.2.1)] → W p l e rm_X12_made s m args below meth c H locs 0 0 (MQ below (QI D A r (fl [g12 q o0 a0 T0])) args s 0 0 A) (F0 m 36 ls [])) (fun kz hkz z hz H locs ls hP hD hS hl => b_X12_made_36 C (fun x1 x2 x3 x4 S0 hz => hkz (x1, x2, x3, x4, S0) hz) hz hP hD hS hl) FU (x1, x2, x3, x4, S0) hF
set_option maxRecDepth 100000 in
set_option maxHeartbeats 4000000 in
theorem c_X12_made (l : Launch) (D : va_G) (q : Nat → ClassId) (o0 : Nat) (a0 : Nat → Nat) (S0 : St) (sz : Nat) {r : Int32} {T0 : St} (hF : F_X12_made S0 = some (r, T0)) : Met l yX12_made (Cond.code yX12_made cX12_made 9 (some .int) :: TB) rm_X12_made (PC D q [.ref o0] (fl [g12 q o0 a0 S0]) sz) ((fun A => QI D A r (fl [g12 q o0 a0 T0])) (va_A (fl [g12 q o0 a0 S0]) sz)) 0 0 (va_A (fl [g12 q o0 a0 S0]) sz) := by
  refine k_met (w0 := fl [g12 q o0 a0 S0]) (Q := fun A => QI D A r (fl [g12 q o0 a0 T0])) (by decide +kernel) (Nat.le_of_ble_eq_true rfl) ?_
  intro p e s m args below meth c A ls C hP hD hS hl
  have hl : lv_has ls 9 [(0, .ref o0)] := hl
  unfold F_X12_made at hF
  have C : cx p s m args meth c cX12_made 9 (some .int) RX12 D q A := C
  obtain ⟨hx, hb, hr, hml, hown, hts, hlk, hA, hK, hN, hV⟩ := id C
  refine lv_aload_n hx hb dX12_made_0 rfl (lv_at hl 0 rfl) ?_
  refine lv_iconst (v := (0 : Int32)) hx hb dX12_made_1 (by decide) ?_
  obtain ⟨U1, e2, hF⟩ := nw_s hF
  refine k_put (W8 := fl [g12 q o0 a0 U1]) C fp_X12_1 hP hD hS 0 rfl rfl rfl (Nat.le_of_ble_eq_true rfl) dX12_made_2 (by rw [e2]; rfl) (fun H locs hP hD hS => ?_)
  refine lv_aload_n hx hb dX12_made_5 rfl (lv_at hl 0 rfl) ?_
  refine lv_sipush (v := (940 : Int32)) hx hb dX12_made_6 (by decide) ?_
  obtain ⟨U4, hc3, hF⟩ := ob1_s hF
  refine k_vall C (k_rV (As := [.int (940 : Int32)]) (rest := []) C (c_X12_taken l D q o0 a0 U1 _ (940 : Int32) hc3) kc_X12_taken ml_X12_278 rfl rfl (by decide) hP hD hS (va_recv hK hP (ci := 12) (q0 := 0) rfl rfl) rfl hl.1 rfl (Nat.le_of_ble_eq_true rfl) dX12_made_9 (by decide)) hP hD hS (by simp only [List.map_cons, List.map_nil, gad12]) (fun H locs hP hD hS => ?_)
  refine lv_aload_n hx hb dX12_made_12 rfl (lv_at hl 0 rfl) ?_
  refine k_get (v := .int (U4.1 3)) C fg_X12_18 hP 0 rfl rfl dX12_made_13 ?_
  refine lv_iconst (v := (2 : Int32)) hx hb dX12_made_16 (by decide) ?_
  refine lv_icmp_eq (tgt := 22) hx hb dX12_made_17 (by decide) (fun c5 => ?_) (fun c5 => ?_)
  · have hF := op_t hF c5
    refine lv_iconst (v := (0 : Int32)) hx hb dX12_made_22 (by decide) ?_
    refine lv_istore_n (lv' := [(1, .int (0 : Int32)), (0, .ref o0)]) hx hb dX12_made_23 rfl hl (by decide) rfl (fun ls hl => ?_)
    refine lv_aload_n hx hb dX12_made_24 rfl (lv_at hl 1 rfl) ?_
    refine k_get (v := .ref (a0 7)) C fg_X12_33 hP 0 rfl rfl dX12_made_25 ?_
    refine lv_iconst (v := (0 : Int32)) hx hb dX12_made_28 (by decide) ?_
    obtain ⟨h6, hF⟩ := op_ck hF
    refine k_ild (f := U4.2.2.1 6) C hP 2 rfl h6 dX12_made_29 ?_
    obtain ⟨v7, e8, hF⟩ := nw_s hF
    refine k_rni e8 ?_
    refine lv_istore_n (lv' := [(2, .int v7), (1, .int (0 : Int32)), (0, .ref o0)]) hx hb dX12_made_30 rfl hl (by decide) rfl (fun ls hl => ?_)
    refine lv_iconst (v := (1 : Int32)) hx hb dX12_made_31 (by decide) ?_
    refine lv_istore_n (lv' := [(3, .int (1 : Int32)), (2, .int v7), (1, .int (0 : Int32)), (0, .ref o0)]) hx hb dX12_made_32 rfl hl (by decide) rfl (fun ls hl => ?_)
    refine lv_iconst (v := (1 : Int32)) hx hb dX12_made_33 (by decide) ?_
    refine lv_istore (lv' := [(4, .int (1 : Int32)), (3, .int (1 : Int32)), (2, .int v7), (1, .int (0 : Int32)), (0, .ref o0)]) hx hb dX12_made_34 hl (by decide) rfl (fun ls hl => ?_)
    exact l_X12_made_36 C hF _ _ _ hP hD hS (lv_sub hl [4, 3, 2, 1, 0] rfl)
  · have hF := op_f hF c5
    refine lv_iconst (v := (-1 : Int32)) hx hb dX12_made_20 (by decide) ?_
    cases hF
    exact k_iret C hP hS dX12_made_21

abbrev rm_X12_madeAt : Room := ({ frames := 1, cells := 0, slots := 0, locals := 22 } : Room)
def F_X12_madeAt (S0 : St) (x1 : Int32) : Option (Int32 × St) := nw (sI S0 0 (0 : Int32)) fun U1 => ob1 (F_X12_isIn x1 (0 : Int32) ((U1.1 27) - (1 : Int32))) fun r4 => if r4 = 0 then (some ((-1 : Int32), U1)) else (if oob x1 3 then none else some ((U1.2.2.1 26 x1.toNatClampNeg), U1))
set_option maxRecDepth 100000 in
set_option maxHeartbeats 4000000 in
theorem c_X12_madeAt (l : Launch) (D : va_G) (q : Nat → ClassId) (o0 : Nat) (a0 : Nat → Nat) (S0 : St) (sz : Nat) (x1 : Int32) {r : Int32} {T0 : St} (hF : F_X12_madeAt S0 x1 = some (r, T0)) : Met l yX12_madeAt (Cond.code yX12_madeAt cX12_madeAt 2 (some .int) :: TB) rm_X12_madeAt (PC D q [.ref o0, .int x1] (fl [g12 q o0 a0 S0]) sz) ((fun A => QI D A r (fl [g12 q o0 a0 T0])) (va_A (fl [g12 q o0 a0 S0]) sz)) 0 0 (va_A (fl [g12 q o0 a0 S0]) sz) := by
  refine k_met (w0 := fl [g12 q o0 a0 S0]) (Q := fun A => QI D A r (fl [g12 q o0 a0 T0])) (by decide +kernel) (Nat.le_of_ble_eq_true rfl) ?_
  intro p e s m args below meth c A ls C hP hD hS hl
  have hl : lv_has ls 2 [(0, .ref o0), (1, .int x1)] := hl
  unfold F_X12_madeAt at hF
  have C : cx p s m args meth c cX12_madeAt 2 (some .int) RX12 D q A := C
  obtain ⟨hx, hb, hr, hml, hown, hts, hlk, hA, hK, hN, hV⟩ := id C
  refine lv_aload_n hx hb dX12_madeAt_0 rfl (lv_at hl 0 rfl) ?_
  refine lv_iconst (v := (0 : Int32)) hx hb dX12_madeAt_1 (by decide) ?_
  obtain ⟨U1, e2, hF⟩ := nw_s hF
  refine k_put (W8 := fl [g12 q o0 a0 U1]) C fp_X12_1 hP hD hS 0 rfl rfl rfl (Nat.le_of_ble_eq_true rfl) dX12_madeAt_2 (by rw [e2]; rfl) (fun H locs hP hD hS => ?_)
  refine lv_iload_n hx hb dX12_madeAt_5 rfl (lv_at hl 1 rfl) ?_
  refine lv_iconst (v := (0 : Int32)) hx hb dX12_madeAt_6 (by decide) ?_
  refine lv_aload_n hx hb dX12_madeAt_7 rfl (lv_at hl 0 rfl) ?_
  refine k_get (v := .int (U1.1 27)) C fg_X12_68 hP 0 rfl rfl dX12_madeAt_8 ?_
  refine lv_iconst (v := (1 : Int32)) hx hb dX12_madeAt_11 (by decide) ?_
  refine lv_isub hx hb dX12_madeAt_12 ?_
  obtain ⟨r4, hc3, hF⟩ := ob1_s hF
  refine k_inil C (k_rS (As := [.int x1, .int (0 : Int32), .int ((U1.1 27) - (1 : Int32))]) (rest := []) C (c_X12_isIn l D q _ x1 (0 : Int32) ((U1.1 27) - (1 : Int32)) hc3) kc_X12_isIn ml_X12_225 rfl rfl (by decide) (fun k x h => by simp at h) (⟨fun i j x y h => by simp at h, fun k x h => by simp at h⟩ : va_D A []) hS rfl hl.1 rfl (Nat.le_of_ble_eq_true rfl) dX12_madeAt_13 (by decide)) hP hD hS (fun H locs hP hD hS => ?_)
  refine lv_if_eq (tgt := 28) hx hb dX12_madeAt_16 (by decide) (fun c5 => ?_) (fun c5 => ?_)
  · have hF := op_t hF c5
    refine lv_iconst (v := (-1 : Int32)) hx hb dX12_madeAt_28 (by decide) ?_
    cases hF
    exact k_iret C hP hS dX12_madeAt_29
  · have hF := op_f hF c5
    refine lv_aload_n hx hb dX12_madeAt_19 rfl (lv_at hl 0 rfl) ?_
    refine k_get (v := .ref (a0 27)) C fg_X12_65 hP 0 rfl rfl dX12_madeAt_20 ?_
    refine lv_iload_n hx hb dX12_madeAt_23 rfl (lv_at hl 1 rfl) ?_
    obtain ⟨h6, hF⟩ := op_ck hF
    refine k_ild (f := U1.2.2.1 26) C hP 11 rfl h6 dX12_madeAt_24 ?_
    refine lv_goto (tgt := 29) hx hb dX12_madeAt_25 (by decide) ?_
    cases hF
    exact k_iret C hP hS dX12_madeAt_29

abbrev rm_X12_withView : Room := ({ frames := 1, cells := 0, slots := 0, locals := 21 } : Room)
def F_X12_withView_36 (k4 : Int32 × Int32 × Int32 × St → Option (Int32)) (x1 : Int32) (x3 : Int32) (s0 : Int32) (s1 : Int32) (S0 : St) : Option (Int32) := k4 (x1, (s0 + s1), (x3 + 1), S0)
def F_X12_withView_4 (k4 : Int32 × Int32 × Int32 × St → Option (Int32)) (x1 : Int32) (x2 : Int32) (x3 : Int32) (S0 : St) : Option (Int32) := if oob (1 : Int32) 258 then none else if (S0.2.2.1 6 (1 : Int32).toNatClampNeg) ≤ x3 then (if oob (1 : Int32) 258 then none else ob1 (F_X12_greater x2 ((S0.2.2.1 6 (1 : Int32).toNatClampNeg) - x2)) fun r5 => some (r5)) else (if oob ((59 : Int32) + x3) 258 then none else ob1 (F_X12_bitOf (S0.2.2.1 6 ((59 : Int32) + x3).toNatClampNeg) x1) fun r8 => if r8 = 0 then (F_X12_withView_36 k4 x1 x3 x2 (0 : Int32) S0) else (F_X12_withView_36 k4 x1 x3 x2 (1 : Int32) S0))
def L_X12_withView_4 (x1 : Int32) (x2 : Int32) (x3 : Int32) (S0 : St) : Option (Int32) := lp (fun kz z => F_X12_withView_4 kz z.1 z.2.1 z.2.2.1 z.2.2.2) FU (x1, x2, x3, S0)
def F_X12_withView (S0 : St) (x1 : Int32) : Option (Int32) := L_X12_withView_4 x1 (0 : Int32) (0 : Int32) S0
set_option maxRecDepth 100000 in
set_option maxHeartbeats 4000000 in
theorem b_X12_withView_36 {p : Program} {l : Launch} {e : Env} {s : State} {m : MethodId} {args : Array Value} {below : List Frame} {meth : Method} {c : Code} {D : va_G} {q : Nat → ClassId} {A : Nat → Prop} {o0 : Nat} {a0 : Nat → Nat} {r : Int32} (C : cx p s m args meth c cX12_withView 4 (some .int) RX12 D q A) {k4 : Int32 × Int32 × Int32 × St → Option (Int32)} (hk4 : ∀ (x1 : Int32) (x2 : Int32) (x3 : Int32) (S0 : St), k4 (x1, x2, x3, S0) = some (r) → ∀ (H : Heap) (locs : List Loc) (ls : Array Slot), va_P D vwCl (fl [g12 q o0 a0 S0]) H → va_D A (fl [g12 q o0 a0 S0]) → va_S A s.heap H locs → lv_has ls 4 [(0, .ref o0), (1, .int x1), (2, .int x2), (3, .int x3)] → W p l e rm_X12_withView s m args below meth c H locs 0 0 (MQ below (QI D A r (fl [g12 q o0 a0 S0])) args s 0 0 A) (F0 m 4 ls [])) {x1 : Int32} {x3 : Int32} {s0 : Int32} {s1 : Int32} {S0 : St} (hF : F_X12_withView_36 k4 x1 x3 s0 s1 S0 = some (r)) {H : Heap} {locs : List Loc} (hP : va_P D vwCl (fl [g12 q o0 a0 S0]) H) (hD : va_D A (fl [g12 q o0 a0 S0])) (hS : va_S A s.heap H locs) {ls : Array Slot} (hl : lv_has ls 4 [(0, .ref o0), (1, .int x1), (3, .int x3)]) : W p l e rm_X12_withView s m args below meth c H locs 0 0 (MQ below (QI D A r (fl [g12 q o0 a0 S0])) args s 0 0 A) (F0 m 36 ls [.int s1, .int s0]) := by
  unfold F_X12_withView_36 at hF
  obtain ⟨hx, hb, hr, hml, hown, hts, hlk, hA, hK, hN, hV⟩ := id C
  refine lv_iadd hx hb dX12_withView_36 ?_
  refine lv_istore_n (lv' := [(2, .int (s0 + s1)), (0, .ref o0), (1, .int x1), (3, .int x3)]) hx hb dX12_withView_37 rfl hl (by decide) rfl (fun ls hl => ?_)
  refine lv_iinc (v := (x3 + 1)) (lv' := [(3, .int (x3 + 1)), (2, .int (s0 + s1)), (0, .ref o0), (1, .int x1)]) hx hb dX12_withView_38 hl (k := 3) rfl rfl (by decide) rfl (fun ls hl => ?_)
  refine lv_goto (tgt := 4) hx hb dX12_withView_41 (by decide) ?_
  exact hk4 x1 (s0 + s1) (x3 + 1) S0 hF _ _ _ hP hD hS (lv_sub hl [2, 3, 1, 0] rfl)
set_option maxRecDepth 100000 in
set_option maxHeartbeats 4000000 in
theorem b_X12_withView_4 {p : Program} {l : Launch} {e : Env} {s : State} {m : MethodId} {args : Array Value} {below : List Frame} {meth : Method} {c : Code} {D : va_G} {q : Nat → ClassId} {A : Nat → Prop} {o0 : Nat} {a0 : Nat → Nat} {r : Int32} (C : cx p s m args meth c cX12_withView 4 (some .int) RX12 D q A) {k4 : Int32 × Int32 × Int32 × St → Option (Int32)} (hk4 : ∀ (x1 : Int32) (x2 : Int32) (x3 : Int32) (S0 : St), k4 (x1, x2, x3, S0) = some (r) → ∀ (H : Heap) (locs : List Loc) (ls : Array Slot), va_P D vwCl (fl [g12 q o0 a0 S0]) H → va_D A (fl [g12 q o0 a0 S0]) → va_S A s.heap H locs → lv_has ls 4 [(0, .ref o0), (1, .int x1), (2, .int x2), (3, .int x3)] → W p l e rm_X12_withView s m args below meth c H locs 0 0 (MQ below (QI D A r (fl [g12 q o0 a0 S0])) args s 0 0 A) (F0 m 4 ls [])) {x1 : Int32} {x2 : Int32} {x3 : Int32} {S0 : St} (hF : F_X12_withView_4 k4 x1 x2 x3 S0 = some (r)) {H : Heap} {locs : List Loc} (hP : va_P D vwCl (fl [g12 q o0 a0 S0]) H) (hD : va_D A (fl [g12 q o0 a0 S0])) (hS : va_S A s.heap H locs) {ls : Array Slot} (hl : lv_has ls 4 [(0, .ref o0), (1, .int x1), (2, .int x2), (3, .int x3)]) : W p l e rm_X12_withView s m args below meth c H locs 0 0 (MQ below (QI D A r (fl [g12 q o0 a0 S0])) args s 0 0 A) (F0 m 4 ls []) := by
  unfold F_X12_withView_4 at hF
  obtain ⟨hx, hb, hr, hml, hown, hts, hlk, hA, hK, hN, hV⟩ := id C
  refine lv_iload_n hx hb dX12_withView_4 rfl (lv_at hl 3 rfl) ?_
  refine lv_aload_n hx hb dX12_withView_5 rfl (lv_at hl 0 rfl) ?_
  refine k_get (v := .ref (a0 7)) C fg_X12_33 hP 0 rfl rfl dX12_withView_6 ?_
  refine lv_iconst (v := (1 : Int32)) hx hb dX12_withView_9 (by decide) ?_
  obtain ⟨h1, hF⟩ := op_ck hF
  refine k_ild (f := S0.2.2.1 6) C hP 2 rfl h1 dX12_withView_10 ?_
  refine lv_icmp_ge (tgt := 44) hx hb dX12_withView_11 (by decide) (fun c2 => ?_) (fun c2 => ?_)
  · have hF := op_t hF c2
    refine lv_iload_n hx hb dX12_withView_44 rfl (lv_at hl 2 rfl) ?_
    refine lv_aload_n hx hb dX12_withView_45 rfl (lv_at hl 0 rfl) ?_
    refine k_get (v := .ref (a0 7)) C fg_X12_33 hP 0 rfl rfl dX12_withView_46 ?_
    refine lv_iconst (v := (1 : Int32)) hx hb dX12_withView_49 (by decide) ?_
    obtain ⟨h3, hF⟩ := op_ck hF
    refine k_ild (f := S0.2.2.1 6) C hP 2 rfl h3 dX12_withView_50 ?_
    refine lv_iload_n hx hb dX12_withView_51 rfl (lv_at hl 2 rfl) ?_
    refine lv_isub hx hb dX12_withView_52 ?_
    obtain ⟨r5, hc4, hF⟩ := ob1_s hF
    refine k_inil C (k_rS (As := [.int x2, .int ((S0.2.2.1 6 (1 : Int32).toNatClampNeg) - x2)]) (rest := []) C (c_X12_greater l D q _ x2 ((S0.2.2.1 6 (1 : Int32).toNatClampNeg) - x2) hc4) kc_X12_greater ml_X12_392 rfl rfl (by decide) (fun k x h => by simp at h) (⟨fun i j x y h => by simp at h, fun k x h => by simp at h⟩ : va_D A []) hS rfl hl.1 rfl (Nat.le_of_ble_eq_true rfl) dX12_withView_53 (by decide)) hP hD hS (fun H locs hP hD hS => ?_)
    cases hF
    exact k_iret C hP hS dX12_withView_56
  · have hF := op_f hF c2
    refine lv_iload_n hx hb dX12_withView_14 rfl (lv_at hl 2 rfl) ?_
    refine lv_aload_n hx hb dX12_withView_15 rfl (lv_at hl 0 rfl) ?_
    refine k_get (v := .ref (a0 7)) C fg_X12_33 hP 0 rfl rfl dX12_withView_16 ?_
    refine lv_bipush (v := (59 : Int32)) hx hb dX12_withView_19 (by decide) ?_
    refine lv_iload_n hx hb dX12_withView_21 rfl (lv_at hl 3 rfl) ?_
    refine lv_iadd hx hb dX12_withView_22 ?_
    obtain ⟨h6, hF⟩ := op_ck hF
    refine k_ild (f := S0.2.2.1 6) C hP 2 rfl h6 dX12_withView_23 ?_
    refine lv_iload_n hx hb dX12_withView_24 rfl (lv_at hl 1 rfl) ?_
    obtain ⟨r8, hc7, hF⟩ := ob1_s hF
    refine k_inil C (k_rS (As := [.int (S0.2.2.1 6 ((59 : Int32) + x3).toNatClampNeg), .int x1]) (rest := [.int x2]) C (c_X12_bitOf l D q _ (S0.2.2.1 6 ((59 : Int32) + x3).toNatClampNeg) x1 hc7) kc_X12_bitOf ml_X12_275 rfl rfl (by decide) (fun k x h => by simp at h) (⟨fun i j x y h => by simp at h, fun k x h => by simp at h⟩ : va_D A []) hS rfl hl.1 rfl (Nat.le_of_ble_eq_true rfl) dX12_withView_25 (by decide)) hP hD hS (fun H locs hP hD hS => ?_)
    refine lv_if_eq (tgt := 35) hx hb dX12_withView_28 (by decide) (fun c9 => ?_) (fun c9 => ?_)
    · have hF := op_t hF c9
      refine lv_iconst (v := (0 : Int32)) hx hb dX12_withView_35 (by decide) ?_
      exact b_X12_withView_36 C hk4 hF hP hD hS (lv_sub hl [0, 1, 3] rfl)
    · have hF := op_f hF c9
      refine lv_iconst (v := (1 : Int32)) hx hb dX12_withView_31 (by decide) ?_
      refine lv_goto (tgt := 36) hx hb dX12_withView_32 (by decide) ?_
      exact b_X12_withView_36 C hk4 hF hP hD hS (lv_sub hl [0, 1, 3] rfl)
set_option maxRecDepth 100000 in
set_option maxHeartbeats 4000000 in
theorem l_X12_withView_4 {p : Program} {l : Launch} {e : Env} {s : State} {m : MethodId} {args : Array Value} {below : List Frame} {meth : Method} {c : Code} {D : va_G} {q : Nat → ClassId} {A : Nat → Prop} {o0 : Nat} {a0 : Nat → Nat} {r : Int32} (C : cx p s m args meth c cX12_withView 4 (some .int) RX12 D q A) {x1 : Int32} {x2 : Int32} {x3 : Int32} {S0 : St} (hF : L_X12_withView_4 x1 x2 x3 S0 = some (r)) : ∀ (H : Heap) (locs : List Loc) (ls : Array Slot), va_P D vwCl (fl [g12 q o0 a0 S0]) H → va_D A (fl [g12 q o0 a0 S0]) → va_S A s.heap H locs → lv_has ls 4 [(0, .ref o0), (1, .int x1), (2, .int x2), (3, .int x3)] → W p l e rm_X12_withView s m args below meth c H locs 0 0 (MQ below (QI D A r (fl [g12 q o0 a0 S0])) args s 0 0 A) (F0 m 4 ls []) :=
  lp_G _ _ (fun z => ∀ (H : Heap) (locs : List Loc) (ls : Array Slot), va_P D vwCl (fl [g12 q o0 a0 z.2.2.2]) H → va_D A (fl [g12 q o0 a0 z.2.2.2]) → va_S A s.heap H locs → lv_has ls 4 [(0, .ref o0), (1, .int z.1), (2, .int z.2.1), (3, .int z.2.2.1)] → W p l e rm_X12_withView s m args below meth c H locs 0 0 (MQ below (QI D A r (fl [g12 q o0 a0 z.2.2.2])) args s 0 0 A) (F0 m 4 ls [])) (fun kz hkz z hz H locs ls hP hD hS hl => b_X12_withView_4 C (fun x1 x2 x3 S0 hz => hkz (x1, x2, x3, S0) hz) hz hP hD hS hl) FU (x1, x2, x3, S0) hF
set_option maxRecDepth 100000 in
set_option maxHeartbeats 4000000 in
theorem c_X12_withView (l : Launch) (D : va_G) (q : Nat → ClassId) (o0 : Nat) (a0 : Nat → Nat) (S0 : St) (sz : Nat) (x1 : Int32) {r : Int32} (hF : F_X12_withView S0 x1 = some (r)) : Met l yX12_withView (Cond.code yX12_withView cX12_withView 4 (some .int) :: TB) rm_X12_withView (PC D q [.ref o0, .int x1] (fl [g12 q o0 a0 S0]) sz) ((fun A => QI D A r (fl [g12 q o0 a0 S0])) (va_A (fl [g12 q o0 a0 S0]) sz)) 0 0 (va_A (fl [g12 q o0 a0 S0]) sz) := by
  refine k_met (w0 := fl [g12 q o0 a0 S0]) (Q := fun A => QI D A r (fl [g12 q o0 a0 S0])) (by decide +kernel) (Nat.le_of_ble_eq_true rfl) ?_
  intro p e s m args below meth c A ls C hP hD hS hl
  have hl : lv_has ls 4 [(0, .ref o0), (1, .int x1)] := hl
  unfold F_X12_withView at hF
  have C : cx p s m args meth c cX12_withView 4 (some .int) RX12 D q A := C
  obtain ⟨hx, hb, hr, hml, hown, hts, hlk, hA, hK, hN, hV⟩ := id C
  refine lv_iconst (v := (0 : Int32)) hx hb dX12_withView_0 (by decide) ?_
  refine lv_istore_n (lv' := [(2, .int (0 : Int32)), (0, .ref o0), (1, .int x1)]) hx hb dX12_withView_1 rfl hl (by decide) rfl (fun ls hl => ?_)
  refine lv_iconst (v := (0 : Int32)) hx hb dX12_withView_2 (by decide) ?_
  refine lv_istore_n (lv' := [(3, .int (0 : Int32)), (2, .int (0 : Int32)), (0, .ref o0), (1, .int x1)]) hx hb dX12_withView_3 rfl hl (by decide) rfl (fun ls hl => ?_)
  exact l_X12_withView_4 C hF _ _ _ hP hD hS (lv_sub hl [2, 3, 1, 0] rfl)

abbrev rm_X12_ask : Room := ({ frames := 2, cells := 0, slots := 0, locals := 44 } : Room)
def F_X12_ask_41 (k20 : Int32 × Int32 × St → Option (Int32 × St)) (x1 : Int32) (x2 : Int32) (S0 : St) : Option (Int32 × St) := k20 (x1, (x2 + 1), S0)
def F_X12_ask_20 (k20 : Int32 × Int32 × St → Option (Int32 × St)) (x1 : Int32) (x2 : Int32) (S0 : St) : Option (Int32 × St) := if (8 : Int32) ≤ x2 then (some (x1, S0)) else (ob1 (F_X12_withView S0 x2) fun r3 => ob1 (F_X12_withView S0 x1) fun r5 => if r5 ≤ r3 then (F_X12_ask_41 k20 x1 x2 S0) else (F_X12_ask_41 k20 x2 x2 S0))
def L_X12_ask_20 (x1 : Int32) (x2 : Int32) (S0 : St) : Option (Int32 × St) := lp (fun kz z => F_X12_ask_20 kz z.1 z.2.1 z.2.2) FU (x1, x2, S0)
def F_X12_ask (S0 : St) : Option (Int32 × St) := nw (sI S0 0 (0 : Int32)) fun U1 => if oob (1 : Int32) 258 then none else if (U1.2.2.1 6 (1 : Int32).toNatClampNeg) = 0 then (some ((-1 : Int32), U1)) else (L_X12_ask_20 (0 : Int32) (1 : Int32) U1)
set_option maxRecDepth 100000 in
set_option maxHeartbeats 4000000 in
theorem b_X12_ask_41 {p : Program} {l : Launch} {e : Env} {s : State} {m : MethodId} {args : Array Value} {below : List Frame} {meth : Method} {c : Code} {D : va_G} {q : Nat → ClassId} {A : Nat → Prop} {o0 : Nat} {a0 : Nat → Nat} {r : Int32} {T0 : St} (C : cx p s m args meth c cX12_ask 3 (some .int) RX12 D q A) {k20 : Int32 × Int32 × St → Option (Int32 × St)} (hk20 : ∀ (x1 : Int32) (x2 : Int32) (S0 : St), k20 (x1, x2, S0) = some (r, T0) → ∀ (H : Heap) (locs : List Loc) (ls : Array Slot), va_P D vwCl (fl [g12 q o0 a0 S0]) H → va_D A (fl [g12 q o0 a0 S0]) → va_S A s.heap H locs → lv_has ls 3 [(0, .ref o0), (1, .int x1), (2, .int x2)] → W p l e rm_X12_ask s m args below meth c H locs 0 0 (MQ below (QI D A r (fl [g12 q o0 a0 T0])) args s 0 0 A) (F0 m 20 ls [])) {x1 : Int32} {x2 : Int32} {S0 : St} (hF : F_X12_ask_41 k20 x1 x2 S0 = some (r, T0)) {H : Heap} {locs : List Loc} (hP : va_P D vwCl (fl [g12 q o0 a0 S0]) H) (hD : va_D A (fl [g12 q o0 a0 S0])) (hS : va_S A s.heap H locs) {ls : Array Slot} (hl : lv_has ls 3 [(0, .ref o0), (1, .int x1), (2, .int x2)]) : W p l e rm_X12_ask s m args below meth c H locs 0 0 (MQ below (QI D A r (fl [g12 q o0 a0 T0])) args s 0 0 A) (F0 m 41 ls []) := by
  unfold F_X12_ask_41 at hF
  obtain ⟨hx, hb, hr, hml, hown, hts, hlk, hA, hK, hN, hV⟩ := id C
  refine lv_iinc (v := (x2 + 1)) (lv' := [(2, .int (x2 + 1)), (0, .ref o0), (1, .int x1)]) hx hb dX12_ask_41 hl (k := 2) rfl rfl (by decide) rfl (fun ls hl => ?_)
  refine lv_goto (tgt := 20) hx hb dX12_ask_44 (by decide) ?_
  exact hk20 x1 (x2 + 1) S0 hF _ _ _ hP hD hS (lv_sub hl [1, 2, 0] rfl)
set_option maxRecDepth 100000 in
set_option maxHeartbeats 4000000 in
theorem b_X12_ask_20 {p : Program} {l : Launch} {e : Env} {s : State} {m : MethodId} {args : Array Value} {below : List Frame} {meth : Method} {c : Code} {D : va_G} {q : Nat → ClassId} {A : Nat → Prop} {o0 : Nat} {a0 : Nat → Nat} {r : Int32} {T0 : St} (C : cx p s m args meth c cX12_ask 3 (some .int) RX12 D q A) {k20 : Int32 × Int32 × St → Option (Int32 × St)} (hk20 : ∀ (x1 : Int32) (x2 : Int32) (S0 : St), k20 (x1, x2, S0) = some (r, T0) → ∀ (H : Heap) (locs : List Loc) (ls : Array Slot), va_P D vwCl (fl [g12 q o0 a0 S0]) H → va_D A (fl [g12 q o0 a0 S0]) → va_S A s.heap H locs → lv_has ls 3 [(0, .ref o0), (1, .int x1), (2, .int x2)] → W p l e rm_X12_ask s m args below meth c H locs 0 0 (MQ below (QI D A r (fl [g12 q o0 a0 T0])) args s 0 0 A) (F0 m 20 ls [])) {x1 : Int32} {x2 : Int32} {S0 : St} (hF : F_X12_ask_20 k20 x1 x2 S0 = some (r, T0)) {H : Heap} {locs : List Loc} (hP : va_P D vwCl (fl [g12 q o0 a0 S0]) H) (hD : va_D A (fl [g12 q o0 a0 S0])) (hS : va_S A s.heap H locs) {ls : Array Slot} (hl : lv_has ls 3 [(0, .ref o0), (1, .int x1), (2, .int x2)]) : W p l e rm_X12_ask s m args below meth c H locs 0 0 (MQ below (QI D A r (fl [g12 q o0 a0 T0])) args s 0 0 A) (F0 m 20 ls []) := by
  unfold F_X12_ask_20 at hF
  obtain ⟨hx, hb, hr, hml, hown, hts, hlk, hA, hK, hN, hV⟩ := id C
  refine lv_iload_n hx hb dX12_ask_20 rfl (lv_at hl 2 rfl) ?_
  refine lv_bipush (v := (8 : Int32)) hx hb dX12_ask_21 (by decide) ?_
  refine lv_icmp_ge (tgt := 47) hx hb dX12_ask_23 (by decide) (fun c1 => ?_) (fun c1 => ?_)
  · have hF := op_t hF c1
    refine lv_iload_n hx hb dX12_ask_47 rfl (lv_at hl 1 rfl) ?_
    cases hF
    exact k_iret C hP hS dX12_ask_48
  · have hF := op_f hF c1
    refine lv_aload_n hx hb dX12_ask_26 rfl (lv_at hl 0 rfl) ?_
    refine lv_iload_n hx hb dX12_ask_27 rfl (lv_at hl 2 rfl) ?_
    obtain ⟨r3, hc2, hF⟩ := ob1_s hF
    refine k_isame C (k_rV (As := [.int x2]) (rest := []) C (c_X12_withView l D q o0 a0 S0 _ x2 hc2) kc_X12_withView ml_X12_395 rfl rfl (by decide) hP hD hS (va_recv hK hP (ci := 12) (q0 := 0) rfl rfl) rfl hl.1 rfl (Nat.le_of_ble_eq_true rfl) dX12_ask_28 (by decide)) hP hD hS (fun H locs hP hD hS => ?_)
    refine lv_aload_n hx hb dX12_ask_31 rfl (lv_at hl 0 rfl) ?_
    refine lv_iload_n hx hb dX12_ask_32 rfl (lv_at hl 1 rfl) ?_
    obtain ⟨r5, hc4, hF⟩ := ob1_s hF
    refine k_isame C (k_rV (As := [.int x1]) (rest := [.int r3]) C (c_X12_withView l D q o0 a0 S0 _ x1 hc4) kc_X12_withView ml_X12_395 rfl rfl (by decide) hP hD hS (va_recv hK hP (ci := 12) (q0 := 0) rfl rfl) rfl hl.1 rfl (Nat.le_of_ble_eq_true rfl) dX12_ask_33 (by decide)) hP hD hS (fun H locs hP hD hS => ?_)
    refine lv_icmp_ge (tgt := 41) hx hb dX12_ask_36 (by decide) (fun c6 => ?_) (fun c6 => ?_)
    · have hF := op_t hF c6
      exact b_X12_ask_41 C hk20 hF hP hD hS (lv_sub hl [0, 1, 2] rfl)
    · have hF := op_f hF c6
      refine lv_iload_n hx hb dX12_ask_39 rfl (lv_at hl 2 rfl) ?_
      refine lv_istore_n (lv' := [(1, .int x2), (0, .ref o0), (2, .int x2)]) hx hb dX12_ask_40 rfl hl (by decide) rfl (fun ls hl => ?_)
      exact b_X12_ask_41 C hk20 hF hP hD hS (lv_sub hl [1, 0, 2] rfl)
set_option maxRecDepth 100000 in
set_option maxHeartbeats 4000000 in
theorem l_X12_ask_20 {p : Program} {l : Launch} {e : Env} {s : State} {m : MethodId} {args : Array Value} {below : List Frame} {meth : Method} {c : Code} {D : va_G} {q : Nat → ClassId} {A : Nat → Prop} {o0 : Nat} {a0 : Nat → Nat} {r : Int32} {T0 : St} (C : cx p s m args meth c cX12_ask 3 (some .int) RX12 D q A) {x1 : Int32} {x2 : Int32} {S0 : St} (hF : L_X12_ask_20 x1 x2 S0 = some (r, T0)) : ∀ (H : Heap) (locs : List Loc) (ls : Array Slot), va_P D vwCl (fl [g12 q o0 a0 S0]) H → va_D A (fl [g12 q o0 a0 S0]) → va_S A s.heap H locs → lv_has ls 3 [(0, .ref o0), (1, .int x1), (2, .int x2)] → W p l e rm_X12_ask s m args below meth c H locs 0 0 (MQ below (QI D A r (fl [g12 q o0 a0 T0])) args s 0 0 A) (F0 m 20 ls []) :=
  lp_G _ _ (fun z => ∀ (H : Heap) (locs : List Loc) (ls : Array Slot), va_P D vwCl (fl [g12 q o0 a0 z.2.2]) H → va_D A (fl [g12 q o0 a0 z.2.2]) → va_S A s.heap H locs → lv_has ls 3 [(0, .ref o0), (1, .int z.1), (2, .int z.2.1)] → W p l e rm_X12_ask s m args below meth c H locs 0 0 (MQ below (QI D A r (fl [g12 q o0 a0 T0])) args s 0 0 A) (F0 m 20 ls [])) (fun kz hkz z hz H locs ls hP hD hS hl => b_X12_ask_20 C (fun x1 x2 S0 hz => hkz (x1, x2, S0) hz) hz hP hD hS hl) FU (x1, x2, S0) hF
set_option maxRecDepth 100000 in
set_option maxHeartbeats 4000000 in
theorem c_X12_ask (l : Launch) (D : va_G) (q : Nat → ClassId) (o0 : Nat) (a0 : Nat → Nat) (S0 : St) (sz : Nat) {r : Int32} {T0 : St} (hF : F_X12_ask S0 = some (r, T0)) : Met l yX12_ask (Cond.code yX12_ask cX12_ask 3 (some .int) :: TB) rm_X12_ask (PC D q [.ref o0] (fl [g12 q o0 a0 S0]) sz) ((fun A => QI D A r (fl [g12 q o0 a0 T0])) (va_A (fl [g12 q o0 a0 S0]) sz)) 0 0 (va_A (fl [g12 q o0 a0 S0]) sz) := by
  refine k_met (w0 := fl [g12 q o0 a0 S0]) (Q := fun A => QI D A r (fl [g12 q o0 a0 T0])) (by decide +kernel) (Nat.le_of_ble_eq_true rfl) ?_
  intro p e s m args below meth c A ls C hP hD hS hl
  have hl : lv_has ls 3 [(0, .ref o0)] := hl
  unfold F_X12_ask at hF
  have C : cx p s m args meth c cX12_ask 3 (some .int) RX12 D q A := C
  obtain ⟨hx, hb, hr, hml, hown, hts, hlk, hA, hK, hN, hV⟩ := id C
  refine lv_aload_n hx hb dX12_ask_0 rfl (lv_at hl 0 rfl) ?_
  refine lv_iconst (v := (0 : Int32)) hx hb dX12_ask_1 (by decide) ?_
  obtain ⟨U1, e2, hF⟩ := nw_s hF
  refine k_put (W8 := fl [g12 q o0 a0 U1]) C fp_X12_1 hP hD hS 0 rfl rfl rfl (Nat.le_of_ble_eq_true rfl) dX12_ask_2 (by rw [e2]; rfl) (fun H locs hP hD hS => ?_)
  refine lv_aload_n hx hb dX12_ask_5 rfl (lv_at hl 0 rfl) ?_
  refine k_get (v := .ref (a0 7)) C fg_X12_33 hP 0 rfl rfl dX12_ask_6 ?_
  refine lv_iconst (v := (1 : Int32)) hx hb dX12_ask_9 (by decide) ?_
  obtain ⟨h3, hF⟩ := op_ck hF
  refine k_ild (f := U1.2.2.1 6) C hP 2 rfl h3 dX12_ask_10 ?_
  refine lv_if_ne (tgt := 16) hx hb dX12_ask_11 (by decide) (fun c4 => ?_) (fun c4 => ?_)
  · have hF := op_f hF c4
    refine lv_iconst (v := (0 : Int32)) hx hb dX12_ask_16 (by decide) ?_
    refine lv_istore_n (lv' := [(1, .int (0 : Int32)), (0, .ref o0)]) hx hb dX12_ask_17 rfl hl (by decide) rfl (fun ls hl => ?_)
    refine lv_iconst (v := (1 : Int32)) hx hb dX12_ask_18 (by decide) ?_
    refine lv_istore_n (lv' := [(2, .int (1 : Int32)), (1, .int (0 : Int32)), (0, .ref o0)]) hx hb dX12_ask_19 rfl hl (by decide) rfl (fun ls hl => ?_)
    exact l_X12_ask_20 C hF _ _ _ hP hD hS (lv_sub hl [2, 1, 0] rfl)
  · have hF := op_t hF c4
    refine lv_iconst (v := (-1 : Int32)) hx hb dX12_ask_14 (by decide) ?_
    cases hF
    exact k_iret C hP hS dX12_ask_15

abbrev rm_X12_cover : Room := ({ frames := 2, cells := 0, slots := 0, locals := 46 } : Room)
def F_X12_cover_104 (k9 : Int32 × Int32 × St → Option (Int32 × St)) (x1 : Int32) (x2 : Int32) (S0 : St) : Option (Int32 × St) := k9 (x1, (x2 + 1), S0)
def F_X12_cover_87 (k9 : Int32 × Int32 × St → Option (Int32 × St)) (k56 : Int32 × Int32 × Int32 × Int32 × St → Option (Int32 × St)) (x1 : Int32) (x2 : Int32) (x4 : Int32) (s0 : Int32) (s1 : Int32) (S0 : St) : Option (Int32 × St) := k56 (x1, x2, (s0 ||| s1), (x4 + 1), S0)
def F_X12_cover_56 (k9 : Int32 × Int32 × St → Option (Int32 × St)) (k56 : Int32 × Int32 × Int32 × Int32 × St → Option (Int32 × St)) (x1 : Int32) (x2 : Int32) (x3 : Int32) (x4 : Int32) (S0 : St) : Option (Int32 × St) := if oob (0 : Int32) 258 then none else if (S0.2.2.1 6 (0 : Int32).toNatClampNeg) ≤ x4 then (if x3 = (255 : Int32) then (F_X12_cover_104 k9 x2 x2 S0) else (F_X12_cover_104 k9 x1 x2 S0)) else (ob1 (F_X12_bitOf x2 x4) fun r5 => if r5 = 0 then (F_X12_cover_87 k9 k56 x1 x2 x4 x3 (0 : Int32) S0) else (ob1 (F_X12_looksOf S0 x4) fun r8 => F_X12_cover_87 k9 k56 x1 x2 x4 x3 r8 S0))
def L_X12_cover_56 (k9 : Int32 × Int32 × St → Option (Int32 × St)) (x1 : Int32) (x2 : Int32) (x3 : Int32) (x4 : Int32) (S0 : St) : Option (Int32 × St) := lp (fun kz z => F_X12_cover_56 k9 kz z.1 z.2.1 z.2.2.1 z.2.2.2.1 z.2.2.2.2) FU (x1, x2, x3, x4, S0)
def F_X12_cover_51 (k9 : Int32 × Int32 × St → Option (Int32 × St)) (x1 : Int32) (x2 : Int32) (S0 : St) : Option (Int32 × St) := L_X12_cover_56 k9 x1 x2 (0 : Int32) (0 : Int32) S0
def F_X12_cover_9 (k9 : Int32 × Int32 × St → Option (Int32 × St)) (x1 : Int32) (x2 : Int32) (S0 : St) : Option (Int32 × St) := if oob (0 : Int32) 258 then none else if ((1 : Int32) <<< ((S0.2.2.1 6 (0 : Int32).toNatClampNeg) &&& 31)) ≤ x2 then (if 0 ≤ x1 then (nw (sI S0 29 (1 : Int32)) fun U4 => nw (sI U4 28 x1) fun U6 => ob1 (F_X12_bits x1) fun r9 => some (r9, U6)) else (some ((-1 : Int32), S0))) else (if oob (44 : Int32) 258 then none else if (x2 &&& (S0.2.2.1 6 (44 : Int32).toNatClampNeg)) = 0 then (if x1 < 0 then (F_X12_cover_51 k9 x1 x2 S0) else (ob1 (F_X12_bits x2) fun r14 => ob1 (F_X12_bits x1) fun r16 => if r14 < r16 then (F_X12_cover_51 k9 x1 x2 S0) else (F_X12_cover_104 k9 x1 x2 S0))) else (F_X12_cover_104 k9 x1 x2 S0))
def L_X12_cover_9 (x1 : Int32) (x2 : Int32) (S0 : St) : Option (Int32 × St) := lp (fun kz z => F_X12_cover_9 kz z.1 z.2.1 z.2.2) FU (x1, x2, S0)
def F_X12_cover (S0 : St) : Option (Int32 × St) := nw (sI S0 0 (0 : Int32)) fun U1 => L_X12_cover_9 (-1 : Int32) (1 : Int32) U1
set_option maxRecDepth 100000 in
set_option maxHeartbeats 4000000 in
theorem b_X12_cover_104 {p : Program} {l : Launch} {e : Env} {s : State} {m : MethodId} {args : Array Value} {below : List Frame} {meth : Method} {c : Code} {D : va_G} {q : Nat → ClassId} {A : Nat → Prop} {o0 : Nat} {a0 : Nat → Nat} {r : Int32} {T0 : St} (C : cx p s m args meth c cX12_cover 5 (some .int) RX12 D q A) {k9 : Int32 × Int32 × St → Option (Int32 × St)} (hk9 : ∀ (x1 : Int32) (x2 : Int32) (S0 : St), k9 (x1, x2, S0) = some (r, T0) → ∀ (H : Heap) (locs : List Loc) (ls : Array Slot), va_P D vwCl (fl [g12 q o0 a0 S0]) H → va_D A (fl [g12 q o0 a0 S0]) → va_S A s.heap H locs → lv_has ls 5 [(0, .ref o0), (1, .int x1), (2, .int x2)] → W p l e rm_X12_cover s m args below meth c H locs 0 0 (MQ below (QI D A r (fl [g12 q o0 a0 T0])) args s 0 0 A) (F0 m 9 ls [])) {x1 : Int32} {x2 : Int32} {S0 : St} (hF : F_X12_cover_104 k9 x1 x2 S0 = some (r, T0)) {H : Heap} {locs : List Loc} (hP : va_P D vwCl (fl [g12 q o0 a0 S0]) H) (hD : va_D A (fl [g12 q o0 a0 S0])) (hS : va_S A s.heap H locs) {ls : Array Slot} (hl : lv_has ls 5 [(0, .ref o0), (1, .int x1), (2, .int x2)]) : W p l e rm_X12_cover s m args below meth c H locs 0 0 (MQ below (QI D A r (fl [g12 q o0 a0 T0])) args s 0 0 A) (F0 m 104 ls []) := by
  unfold F_X12_cover_104 at hF
  obtain ⟨hx, hb, hr, hml, hown, hts, hlk, hA, hK, hN, hV⟩ := id C
  refine lv_iinc (v := (x2 + 1)) (lv' := [(2, .int (x2 + 1)), (0, .ref o0), (1, .int x1)]) hx hb dX12_cover_104 hl (k := 2) rfl rfl (by decide) rfl (fun ls hl => ?_)
  refine lv_goto (tgt := 9) hx hb dX12_cover_107 (by decide) ?_
  exact hk9 x1 (x2 + 1) S0 hF _ _ _ hP hD hS (lv_sub hl [1, 2, 0] rfl)
set_option maxRecDepth 100000 in
set_option maxHeartbeats 4000000 in
theorem b_X12_cover_87 {p : Program} {l : Launch} {e : Env} {s : State} {m : MethodId} {args : Array Value} {below : List Frame} {meth : Method} {c : Code} {D : va_G} {q : Nat → ClassId} {A : Nat → Prop} {o0 : Nat} {a0 : Nat → Nat} {r : Int32} {T0 : St} (C : cx p s m args meth c cX12_cover 5 (some .int) RX12 D q A) {k9 : Int32 × Int32 × St → Option (Int32 × St)} (hk9 : ∀ (x1 : Int32) (x2 : Int32) (S0 : St), k9 (x1, x2, S0) = some (r, T0) → ∀ (H : Heap) (locs : List Loc) (ls : Array Slot), va_P D vwCl (fl [g12 q o0 a0 S0]) H → va_D A (fl [g12 q o0 a0 S0]) → va_S A s.heap H locs → lv_has ls 5 [(0, .ref o0), (1, .int x1), (2, .int x2)] → W p l e rm_X12_cover s m args below meth c H locs 0 0 (MQ below (QI D A r (fl [g12 q o0 a0 T0])) args s 0 0 A) (F0 m 9 ls [])) {k56 : Int32 × Int32 × Int32 × Int32 × St → Option (Int32 × St)} (hk56 : ∀ (x1 : Int32) (x2 : Int32) (x3 : Int32) (x4 : Int32) (S0 : St), k56 (x1, x2, x3, x4, S0) = some (r, T0) → ∀ (H : Heap) (locs : List Loc) (ls : Array Slot), va_P D vwCl (fl [g12 q o0 a0 S0]) H → va_D A (fl [g12 q o0 a0 S0]) → va_S A s.heap H locs → lv_has ls 5 [(0, .ref o0), (1, .int x1), (2, .int x2), (3, .int x3), (4, .int x4)] → W p l e rm_X12_cover s m args below meth c H locs 0 0 (MQ below (QI D A r (fl [g12 q o0 a0 T0])) args s 0 0 A) (F0 m 56 ls [])) {x1 : Int32} {x2 : Int32} {x4 : Int32} {s0 : Int32} {s1 : Int32} {S0 : St} (hF : F_X12_cover_87 k9 k56 x1 x2 x4 s0 s1 S0 = some (r, T0)) {H : Heap} {locs : List Loc} (hP : va_P D vwCl (fl [g12 q o0 a0 S0]) H) (hD : va_D A (fl [g12 q o0 a0 S0])) (hS : va_S A s.heap H locs) {ls : Array Slot} (hl : lv_has ls 5 [(0, .ref o0), (1, .int x1), (2, .int x2), (4, .int x4)]) : W p l e rm_X12_cover s m args below meth c H locs 0 0 (MQ below (QI D A r (fl [g12 q o0 a0 T0])) args s 0 0 A) (F0 m 87 ls [.int s1, .int s0]) := by
  unfold F_X12_cover_87 at hF
  obtain ⟨hx, hb, hr, hml, hown, hts, hlk, hA, hK, hN, hV⟩ := id C
  refine lv_ior hx hb dX12_cover_87 ?_
  refine lv_istore_n (lv' := [(3, .int (s0 ||| s1)), (0, .ref o0), (1, .int x1), (2, .int x2), (4, .int x4)]) hx hb dX12_cover_88 rfl hl (by decide) rfl (fun ls hl => ?_)
  refine lv_iinc (v := (x4 + 1)) (lv' := [(4, .int (x4 + 1)), (3, .int (s0 ||| s1)), (0, .ref o0), (1, .int x1), (2, .int x2)]) hx hb dX12_cover_89 hl (k := 4) rfl rfl (by decide) rfl (fun ls hl => ?_)
  refine lv_goto (tgt := 56) hx hb dX12_cover_92 (by decide) ?_
  exact hk56 x1 x2 (s0 ||| s1) (x4 + 1) S0 hF _ _ _ hP hD hS (lv_sub hl [2, 3, 4, 1, 0] rfl)
set_option maxRecDepth 100000 in
set_option maxHeartbeats 4000000 in
theorem b_X12_cover_56 {p : Program} {l : Launch} {e : Env} {s : State} {m : MethodId} {args : Array Value} {below : List Frame} {meth : Method} {c : Code} {D : va_G} {q : Nat → ClassId} {A : Nat → Prop} {o0 : Nat} {a0 : Nat → Nat} {r : Int32} {T0 : St} (C : cx p s m args meth c cX12_cover 5 (some .int) RX12 D q A) {k9 : Int32 × Int32 × St → Option (Int32 × St)} (hk9 : ∀ (x1 : Int32) (x2 : Int32) (S0 : St), k9 (x1, x2, S0) = some (r, T0) → ∀ (H : Heap) (locs : List Loc) (ls : Array Slot), va_P D vwCl (fl [g12 q o0 a0 S0]) H → va_D A (fl [g12 q o0 a0 S0]) → va_S A s.heap H locs → lv_has ls 5 [(0, .ref o0), (1, .int x1), (2, .int x2)] → W p l e rm_X12_cover s m args below meth c H locs 0 0 (MQ below (QI D A r (fl [g12 q o0 a0 T0])) args s 0 0 A) (F0 m 9 ls [])) {k56 : Int32 × Int32 × Int32 × Int32 × St → Option (Int32 × St)} (hk56 : ∀ (x1 : Int32) (x2 : Int32) (x3 : Int32) (x4 : Int32) (S0 : St), k56 (x1, x2, x3, x4, S0) = some (r, T0) → ∀ (H : Heap) (locs : List Loc) (ls : Array Slot), va_P D vwCl (fl [g12 q o0 a0 S0]) H → va_D A (fl [g12 q o0 a0 S0]) → va_S A s.heap H locs → lv_has ls 5 [(0, .ref o0), (1, .int x1), (2, .int x2), (3, .int x3), (4, .int x4)] → W p l e rm_X12_cover s m args below meth c H locs 0 0 (MQ below (QI D A r (fl [g12 q o0 a0 T0])) args s 0 0 A) (F0 m 56 ls [])) {x1 : Int32} {x2 : Int32} {x3 : Int32} {x4 : Int32} {S0 : St} (hF : F_X12_cover_56 k9 k56 x1 x2 x3 x4 S0 = some (r, T0)) {H : Heap} {locs : List Loc} (hP : va_P D vwCl (fl [g12 q o0 a0 S0]) H) (hD : va_D A (fl [g12 q o0 a0 S0])) (hS : va_S A s.heap H locs) {ls : Array Slot} (hl : lv_has ls 5 [(0, .ref o0), (1, .int x1), (2, .int x2), (3, .int x3), (4, .int x4)]) : W p l e rm_X12_cover s m args below meth c H locs 0 0 (MQ below (QI D A r (fl [g12 q o0 a0 T0])) args s 0 0 A) (F0 m 56 ls []) := by
  unfold F_X12_cover_56 at hF
  obtain ⟨hx, hb, hr, hml, hown, hts, hlk, hA, hK, hN, hV⟩ := id C
  refine lv_iload hx hb dX12_cover_56 (lv_at hl 4 rfl) ?_
  refine lv_aload_n hx hb dX12_cover_58 rfl (lv_at hl 0 rfl) ?_
  refine k_get (v := .ref (a0 7)) C fg_X12_33 hP 0 rfl rfl dX12_cover_59 ?_
  refine lv_iconst (v := (0 : Int32)) hx hb dX12_cover_62 (by decide) ?_
  obtain ⟨h1, hF⟩ := op_ck hF
  refine k_ild (f := S0.2.2.1 6) C hP 2 rfl h1 dX12_cover_63 ?_
  refine lv_icmp_ge (tgt := 95) hx hb dX12_cover_64 (by decide) (fun c2 => ?_) (fun c2 => ?_)
  · have hF := op_t hF c2
    refine lv_iload_n hx hb dX12_cover_95 rfl (lv_at hl 3 rfl) ?_
    refine lv_sipush (v := (255 : Int32)) hx hb dX12_cover_96 (by decide) ?_
    refine lv_icmp_ne (tgt := 104) hx hb dX12_cover_99 (by decide) (fun c3 => ?_) (fun c3 => ?_)
    · have hF := op_f hF c3
      exact b_X12_cover_104 C hk9 hF hP hD hS (lv_sub hl [0, 1, 2] rfl)
    · have hF := op_t hF c3
      refine lv_iload_n hx hb dX12_cover_102 rfl (lv_at hl 2 rfl) ?_
      refine lv_istore_n (lv' := [(1, .int x2), (0, .ref o0), (2, .int x2), (3, .int x3), (4, .int x4)]) hx hb dX12_cover_103 rfl hl (by decide) rfl (fun ls hl => ?_)
      exact b_X12_cover_104 C hk9 hF hP hD hS (lv_sub hl [1, 0, 2] rfl)
  · have hF := op_f hF c2
    refine lv_iload_n hx hb dX12_cover_67 rfl (lv_at hl 3 rfl) ?_
    refine lv_iload_n hx hb dX12_cover_68 rfl (lv_at hl 2 rfl) ?_
    refine lv_iload hx hb dX12_cover_69 (lv_at hl 4 rfl) ?_
    obtain ⟨r5, hc4, hF⟩ := ob1_s hF
    refine k_inil C (k_rS (As := [.int x2, .int x4]) (rest := [.int x3]) C (c_X12_bitOf l D q _ x2 x4 hc4) kc_X12_bitOf ml_X12_275 rfl rfl (by decide) (fun k x h => by simp at h) (⟨fun i j x y h => by simp at h, fun k x h => by simp at h⟩ : va_D A []) hS rfl hl.1 rfl (Nat.le_of_ble_eq_true rfl) dX12_cover_71 (by decide)) hP hD hS (fun H locs hP hD hS => ?_)
    refine lv_if_eq (tgt := 86) hx hb dX12_cover_74 (by decide) (fun c6 => ?_) (fun c6 => ?_)
    · have hF := op_t hF c6
      refine lv_iconst (v := (0 : Int32)) hx hb dX12_cover_86 (by decide) ?_
      exact b_X12_cover_87 C hk9 hk56 hF hP hD hS (lv_sub hl [0, 1, 2, 4] rfl)
    · have hF := op_f hF c6
      refine lv_aload_n hx hb dX12_cover_77 rfl (lv_at hl 0 rfl) ?_
      refine lv_iload hx hb dX12_cover_78 (lv_at hl 4 rfl) ?_
      obtain ⟨r8, hc7, hF⟩ := ob1_s hF
      refine k_isame C (k_rV (As := [.int x4]) (rest := [.int x3]) C (c_X12_looksOf l D q o0 a0 S0 _ x4 hc7) kc_X12_looksOf ml_X12_334 rfl rfl (by decide) hP hD hS (va_recv hK hP (ci := 12) (q0 := 0) rfl rfl) rfl hl.1 rfl (Nat.le_of_ble_eq_true rfl) dX12_cover_80 (by decide)) hP hD hS (fun H locs hP hD hS => ?_)
      refine lv_goto (tgt := 87) hx hb dX12_cover_83 (by decide) ?_
      exact b_X12_cover_87 C hk9 hk56 hF hP hD hS (lv_sub hl [0, 1, 2, 4] rfl)
set_option maxRecDepth 100000 in
set_option maxHeartbeats 4000000 in
theorem l_X12_cover_56 {p : Program} {l : Launch} {e : Env} {s : State} {m : MethodId} {args : Array Value} {below : List Frame} {meth : Method} {c : Code} {D : va_G} {q : Nat → ClassId} {A : Nat → Prop} {o0 : Nat} {a0 : Nat → Nat} {r : Int32} {T0 : St} (C : cx p s m args meth c cX12_cover 5 (some .int) RX12 D q A) {k9 : Int32 × Int32 × St → Option (Int32 × St)} (hk9 : ∀ (x1 : Int32) (x2 : Int32) (S0 : St), k9 (x1, x2, S0) = some (r, T0) → ∀ (H : Heap) (locs : List Loc) (ls : Array Slot), va_P D vwCl (fl [g12 q o0 a0 S0]) H → va_D A (fl [g12 q o0 a0 S0]) → va_S A s.heap H locs → lv_has ls 5 [(0, .ref o0), (1, .int x1), (2, .int x2)] → W p l e rm_X12_cover s m args below meth c H locs 0 0 (MQ below (QI D A r (fl [g12 q o0 a0 T0])) args s 0 0 A) (F0 m 9 ls [])) {x1 : Int32} {x2 : Int32} {x3 : Int32} {x4 : Int32} {S0 : St} (hF : L_X12_cover_56 k9 x1 x2 x3 x4 S0 = some (r, T0)) : ∀ (H : Heap) (locs : List Loc) (ls : Array Slot), va_P D vwCl (fl [g12 q o0 a0 S0]) H → va_D A (fl [g12 q o0 a0 S0]) → va_S A s.heap H locs → lv_has ls 5 [(0, .ref o0), (1, .int x1), (2, .int x2), (3, .int x3), (4, .int x4)] → W p l e rm_X12_cover s m args below meth c H locs 0 0 (MQ below (QI D A r (fl [g12 q o0 a0 T0])) args s 0 0 A) (F0 m 56 ls []) :=
  lp_G _ _ (fun z => ∀ (H : Heap) (locs : List Loc) (ls : Array Slot), va_P D vwCl (fl [g12 q o0 a0 z.2.2.2.2]) H → va_D A (fl [g12 q o0 a0 z.2.2.2.2]) → va_S A s.heap H locs → lv_has ls 5 [(0, .ref o0), (1, .int z.1), (2, .int z.2.1), (3, .int z.2.2.1), (4, .int z.2.2.2.1)] → W p l e rm_X12_cover s m args below meth c H locs 0 0 (MQ below (QI D A r (fl [g12 q o0 a0 T0])) args s 0 0 A) (F0 m 56 ls [])) (fun kz hkz z hz H locs ls hP hD hS hl => b_X12_cover_56 C hk9 (fun x1 x2 x3 x4 S0 hz => hkz (x1, x2, x3, x4, S0) hz) hz hP hD hS hl) FU (x1, x2, x3, x4, S0) hF
set_option maxRecDepth 100000 in
set_option maxHeartbeats 4000000 in
theorem b_X12_cover_51 {p : Program} {l : Launch} {e : Env} {s : State} {m : MethodId} {args : Array Value} {below : List Frame} {meth : Method} {c : Code} {D : va_G} {q : Nat → ClassId} {A : Nat → Prop} {o0 : Nat} {a0 : Nat → Nat} {r : Int32} {T0 : St} (C : cx p s m args meth c cX12_cover 5 (some .int) RX12 D q A) {k9 : Int32 × Int32 × St → Option (Int32 × St)} (hk9 : ∀ (x1 : Int32) (x2 : Int32) (S0 : St), k9 (x1, x2, S0) = some (r, T0) → ∀ (H : Heap) (locs : List Loc) (ls : Array Slot), va_P D vwCl (fl [g12 q o0 a0 S0]) H → va_D A (fl [g12 q o0 a0 S0]) → va_S A s.heap H locs → lv_has ls 5 [(0, .ref o0), (1, .int x1), (2, .int x2)] → W p l e rm_X12_cover s m args below meth c H locs 0 0 (MQ below (QI D A r (fl [g12 q o0 a0 T0])) args s 0 0 A) (F0 m 9 ls [])) {x1 : Int32} {x2 : Int32} {S0 : St} (hF : F_X12_cover_51 k9 x1 x2 S0 = some (r, T0)) {H : Heap} {locs : List Loc} (hP : va_P D vwCl (fl [g12 q o0 a0 S0]) H) (hD : va_D A (fl [g12 q o0 a0 S0])) (hS : va_S A s.heap H locs) {ls : Array Slot} (hl : lv_has ls 5 [(0, .ref o0), (1, .int x1), (2, .int x2)]) : W p l e rm_X12_cover s m args below meth c H locs 0 0 (MQ below (QI D A r (fl [g12 q o0 a0 T0])) args s 0 0 A) (F0 m 51 ls []) := by
  unfold F_X12_cover_51 at hF
  obtain ⟨hx, hb, hr, hml, hown, hts, hlk, hA, hK, hN, hV⟩ := id C
  refine lv_iconst (v := (0 : Int32)) hx hb dX12_cover_51 (by decide) ?_
  refine lv_istore_n (lv' := [(3, .int (0 : Int32)), (0, .ref o0), (1, .int x1), (2, .int x2)]) hx hb dX12_cover_52 rfl hl (by decide) rfl (fun ls hl => ?_)
  refine lv_iconst (v := (0 : Int32)) hx hb dX12_cover_53 (by decide) ?_
  refine lv_istore (lv' := [(4, .int (0 : Int32)), (3, .int (0 : Int32)), (0, .ref o0), (1, .int x1), (2, .int x2)]) hx hb dX12_cover_54 hl (by decide) rfl (fun ls hl => ?_)
  exact l_X12_cover_56 C hk9 hF _ _ _ hP hD hS (lv_sub hl [2, 3, 4, 1, 0] rfl)
set_option maxRecDepth 100000 in
set_option maxHeartbeats 4000000 in
theorem b_X12_cover_9 {p : Program} {l : Launch} {e : Env} {s : State} {m : MethodId} {args : Array Value} {below : List Frame} {meth : Method} {c : Code} {D : va_G} {q : Nat → ClassId} {A : Nat → Prop} {o0 : Nat} {a0 : Nat → Nat} {r : Int32} {T0 : St} (C : cx p s m args meth c cX12_cover 5 (some .int) RX12 D q A) {k9 : Int32 × Int32 × St → Option (Int32 × St)} (hk9 : ∀ (x1 : Int32) (x2 : Int32) (S0 : St), k9 (x1, x2, S0) = some (r, T0) → ∀ (H : Heap) (locs : List Loc) (ls : Array Slot), va_P D vwCl (fl [g12 q o0 a0 S0]) H → va_D A (fl [g12 q o0 a0 S0]) → va_S A s.heap H locs → lv_has ls 5 [(0, .ref o0), (1, .int x1), (2, .int x2)] → W p l e rm_X12_cover s m args below meth c H locs 0 0 (MQ below (QI D A r (fl [g12 q o0 a0 T0])) args s 0 0 A) (F0 m 9 ls [])) {x1 : Int32} {x2 : Int32} {S0 : St} (hF : F_X12_cover_9 k9 x1 x2 S0 = some (r, T0)) {H : Heap} {locs : List Loc} (hP : va_P D vwCl (fl [g12 q o0 a0 S0]) H) (hD : va_D A (fl [g12 q o0 a0 S0])) (hS : va_S A s.heap H locs) {ls : Array Slot} (hl : lv_has ls 5 [(0, .ref o0), (1, .int x1), (2, .int x2)]) : W p l e rm_X12_cover s m args below meth c H locs 0 0 (MQ below (QI D A r (fl [g12 q o0 a0 T0])) args s 0 0 A) (F0 m 9 ls []) := by
  unfold F_X12_cover_9 at hF
  obtain ⟨hx, hb, hr, hml, hown, hts, hlk, hA, hK, hN, hV⟩ := id C
  refine lv_iload_n hx hb dX12_cover_9 rfl (lv_at hl 2 rfl) ?_
  refine lv_iconst (v := (1 : Int32)) hx hb dX12_cover_10 (by decide) ?_
  refine lv_aload_n hx hb dX12_cover_11 rfl (lv_at hl 0 rfl) ?_
  refine k_get (v := .ref (a0 7)) C fg_X12_33 hP 0 rfl rfl dX12_cover_12 ?_
  refine lv_iconst (v := (0 : Int32)) hx hb dX12_cover_15 (by decide) ?_
  obtain ⟨h1, hF⟩ := op_ck hF
  refine k_ild (f := S0.2.2.1 6) C hP 2 rfl h1 dX12_cover_16 ?_
  refine lv_ishl hx hb dX12_cover_17 ?_
  refine lv_icmp_ge (tgt := 110) hx hb dX12_cover_18 (by decide) (fun c2 => ?_) (fun c2 => ?_)
  · have hF := op_t hF c2
    refine lv_iload_n hx hb dX12_cover_110 rfl (lv_at hl 1 rfl) ?_
    refine lv_if_ge (tgt := 116) hx hb dX12_cover_111 (by decide) (fun c3 => ?_) (fun c3 => ?_)
    · have hF := op_t hF c3
      refine lv_aload_n hx hb dX12_cover_116 rfl (lv_at hl 0 rfl) ?_
      refine lv_iconst (v := (1 : Int32)) hx hb dX12_cover_117 (by decide) ?_
      obtain ⟨U4, e5, hF⟩ := nw_s hF
      refine k_put (W8 := fl [g12 q o0 a0 U4]) C fp_X12_398 hP hD hS 0 rfl rfl rfl (Nat.le_of_ble_eq_true rfl) dX12_cover_118 (by rw [e5]; rfl) (fun H locs hP hD hS => ?_)
      refine lv_aload_n hx hb dX12_cover_121 rfl (lv_at hl 0 rfl) ?_
      refine lv_iload_n hx hb dX12_cover_122 rfl (lv_at hl 1 rfl) ?_
      obtain ⟨U6, e7, hF⟩ := nw_s hF
      refine k_put (W8 := fl [g12 q o0 a0 U6]) C fp_X12_402 hP hD hS 0 rfl rfl rfl (Nat.le_of_ble_eq_true rfl) dX12_cover_123 (by rw [e7]; rfl) (fun H locs hP hD hS => ?_)
      refine lv_iload_n hx hb dX12_cover_126 rfl (lv_at hl 1 rfl) ?_
      obtain ⟨r9, hc8, hF⟩ := ob1_s hF
      refine k_inil C (k_rS (As := [.int x1]) (rest := []) C (c_X12_bits l D q _ x1 hc8) kc_X12_bits ml_X12_340 rfl rfl (by decide) (fun k x h => by simp at h) (⟨fun i j x y h => by simp at h, fun k x h => by simp at h⟩ : va_D A []) hS rfl hl.1 rfl (Nat.le_of_ble_eq_true rfl) dX12_cover_127 (by decide)) hP hD hS (fun H locs hP hD hS => ?_)
      cases hF
      exact k_iret C hP hS dX12_cover_130
    · have hF := op_f hF c3
      refine lv_iconst (v := (-1 : Int32)) hx hb dX12_cover_114 (by decide) ?_
      cases hF
      exact k_iret C hP hS dX12_cover_115
  · have hF := op_f hF c2
    refine lv_iload_n hx hb dX12_cover_21 rfl (lv_at hl 2 rfl) ?_
    refine lv_aload_n hx hb dX12_cover_22 rfl (lv_at hl 0 rfl) ?_
    refine k_get (v := .ref (a0 7)) C fg_X12_33 hP 0 rfl rfl dX12_cover_23 ?_
    refine lv_bipush (v := (44 : Int32)) hx hb dX12_cover_26 (by decide) ?_
    obtain ⟨h10, hF⟩ := op_ck hF
    refine k_ild (f := S0.2.2.1 6) C hP 2 rfl h10 dX12_cover_28 ?_
    refine lv_iand hx hb dX12_cover_29 ?_
    refine lv_if_ne (tgt := 104) hx hb dX12_cover_30 (by decide) (fun c11 => ?_) (fun c11 => ?_)
    · have hF := op_f hF c11
      exact b_X12_cover_104 C hk9 hF hP hD hS (lv_sub hl [0, 1, 2] rfl)
    · have hF := op_t hF c11
      refine lv_iload_n hx hb dX12_cover_33 rfl (lv_at hl 1 rfl) ?_
      refine lv_if_lt (tgt := 51) hx hb dX12_cover_34 (by decide) (fun c12 => ?_) (fun c12 => ?_)
      · have hF := op_t hF c12
        exact b_X12_cover_51 C hk9 hF hP hD hS (lv_sub hl [0, 1, 2] rfl)
      · have hF := op_f hF c12
        refine lv_iload_n hx hb dX12_cover_37 rfl (lv_at hl 2 rfl) ?_
        obtain ⟨r14, hc13, hF⟩ := ob1_s hF
        refine k_inil C (k_rS (As := [.int x2]) (rest := []) C (c_X12_bits l D q _ x2 hc13) kc_X12_bits ml_X12_340 rfl rfl (by decide) (fun k x h => by simp at h) (⟨fun i j x y h => by simp at h, fun k x h => by simp at h⟩ : va_D A []) hS rfl hl.1 rfl (Nat.le_of_ble_eq_true rfl) dX12_cover_38 (by decide)) hP hD hS (fun H locs hP hD hS => ?_)
        refine lv_iload_n hx hb dX12_cover_41 rfl (lv_at hl 1 rfl) ?_
        obtain ⟨r16, hc15, hF⟩ := ob1_s hF
        refine k_inil C (k_rS (As := [.int x1]) (rest := [.int r14]) C (c_X12_bits l D q _ x1 hc15) kc_X12_bits ml_X12_340 rfl rfl (by decide) (fun k x h => by simp at h) (⟨fun i j x y h => by simp at h, fun k x h => by simp at h⟩ : va_D A []) hS rfl hl.1 rfl (Nat.le_of_ble_eq_true rfl) dX12_cover_42 (by decide)) hP hD hS (fun H locs hP hD hS => ?_)
        refine lv_icmp_lt (tgt := 51) hx hb dX12_cover_45 (by decide) (fun c17 => ?_) (fun c17 => ?_)
        · have hF := op_t hF c17
          exact b_X12_cover_51 C hk9 hF hP hD hS (lv_sub hl [0, 1, 2] rfl)
        · have hF := op_f hF c17
          refine lv_goto (tgt := 104) hx hb dX12_cover_48 (by decide) ?_
          exact b_X12_cover_104 C hk9 hF hP hD hS (lv_sub hl [0, 1, 2] rfl)
set_option maxRecDepth 100000 in
set_option maxHeartbeats 4000000 in
theorem l_X12_cover_9 {p : Program} {l : Launch} {e : Env} {s : State} {m : MethodId} {args : Array Value} {below : List Frame} {meth : Method} {c : Code} {D : va_G} {q : Nat → ClassId} {A : Nat → Prop} {o0 : Nat} {a0 : Nat → Nat} {r : Int32} {T0 : St} (C : cx p s m args meth c cX12_cover 5 (some .int) RX12 D q A) {x1 : Int32} {x2 : Int32} {S0 : St} (hF : L_X12_cover_9 x1 x2 S0 = some (r, T0)) : ∀ (H : Heap) (locs : List Loc) (ls : Array Slot), va_P D vwCl (fl [g12 q o0 a0 S0]) H → va_D A (fl [g12 q o0 a0 S0]) → va_S A s.heap H locs → lv_has ls 5 [(0, .ref o0), (1, .int x1), (2, .int x2)] → W p l e rm_X12_cover s m args below meth c H locs 0 0 (MQ below (QI D A r (fl [g12 q o0 a0 T0])) args s 0 0 A) (F0 m 9 ls []) :=
  lp_G _ _ (fun z => ∀ (H : Heap) (locs : List Loc) (ls : Array Slot), va_P D vwCl (fl [g12 q o0 a0 z.2.2]) H → va_D A (fl [g12 q o0 a0 z.2.2]) → va_S A s.heap H locs → lv_has ls 5 [(0, .ref o0), (1, .int z.1), (2, .int z.2.1)] → W p l e rm_X12_cover s m args below meth c H locs 0 0 (MQ below (QI D A r (fl [g12 q o0 a0 T0])) args s 0 0 A) (F0 m 9 ls [])) (fun kz hkz z hz H locs ls hP hD hS hl => b_X12_cover_9 C (fun x1 x2 S0 hz => hkz (x1, x2, S0) hz) hz hP hD hS hl) FU (x1, x2, S0) hF
set_option maxRecDepth 100000 in
set_option maxHeartbeats 4000000 in
theorem c_X12_cover (l : Launch) (D : va_G) (q : Nat → ClassId) (o0 : Nat) (a0 : Nat → Nat) (S0 : St) (sz : Nat) {r : Int32} {T0 : St} (hF : F_X12_cover S0 = some (r, T0)) : Met l yX12_cover (Cond.code yX12_cover cX12_cover 5 (some .int) :: TB) rm_X12_cover (PC D q [.ref o0] (fl [g12 q o0 a0 S0]) sz) ((fun A => QI D A r (fl [g12 q o0 a0 T0])) (va_A (fl [g12 q o0 a0 S0]) sz)) 0 0 (va_A (fl [g12 q o0 a0 S0]) sz) := by
  refine k_met (w0 := fl [g12 q o0 a0 S0]) (Q := fun A => QI D A r (fl [g12 q o0 a0 T0])) (by decide +kernel) (Nat.le_of_ble_eq_true rfl) ?_
  intro p e s m args below meth c A ls C hP hD hS hl
  have hl : lv_has ls 5 [(0, .ref o0)] := hl
  unfold F_X12_cover at hF
  have C : cx p s m args meth c cX12_cover 5 (some .int) RX12 D q A := C
  obtain ⟨hx, hb, hr, hml, hown, hts, hlk, hA, hK, hN, hV⟩ := id C
  refine lv_aload_n hx hb dX12_cover_0 rfl (lv_at hl 0 rfl) ?_
  refine lv_iconst (v := (0 : Int32)) hx hb dX12_cover_1 (by decide) ?_
  obtain ⟨U1, e2, hF⟩ := nw_s hF
  refine k_put (W8 := fl [g12 q o0 a0 U1]) C fp_X12_1 hP hD hS 0 rfl rfl rfl (Nat.le_of_ble_eq_true rfl) dX12_cover_2 (by rw [e2]; rfl) (fun H locs hP hD hS => ?_)
  refine lv_iconst (v := (-1 : Int32)) hx hb dX12_cover_5 (by decide) ?_
  refine lv_istore_n (lv' := [(1, .int (-1 : Int32)), (0, .ref o0)]) hx hb dX12_cover_6 rfl hl (by decide) rfl (fun ls hl => ?_)
  refine lv_iconst (v := (1 : Int32)) hx hb dX12_cover_7 (by decide) ?_
  refine lv_istore_n (lv' := [(2, .int (1 : Int32)), (1, .int (-1 : Int32)), (0, .ref o0)]) hx hb dX12_cover_8 rfl hl (by decide) rfl (fun ls hl => ?_)
  exact l_X12_cover_9 C hF _ _ _ hP hD hS (lv_sub hl [2, 1, 0] rfl)

abbrev rm_X12_covering : Room := ({ frames := 0, cells := 0, slots := 0, locals := 0 } : Room)
def F_X12_covering (S0 : St) : Option (Int32 × St) := nw (sI S0 0 (0 : Int32)) fun U1 => if (U1.1 29) = 0 then (some ((-1 : Int32), U1)) else (some ((U1.1 28), U1))
set_option maxRecDepth 100000 in
set_option maxHeartbeats 4000000 in
theorem c_X12_covering (l : Launch) (D : va_G) (q : Nat → ClassId) (o0 : Nat) (a0 : Nat → Nat) (S0 : St) (sz : Nat) {r : Int32} {T0 : St} (hF : F_X12_covering S0 = some (r, T0)) : Met l yX12_covering (Cond.code yX12_covering cX12_covering 1 (some .int) :: TB) rm_X12_covering (PC D q [.ref o0] (fl [g12 q o0 a0 S0]) sz) ((fun A => QI D A r (fl [g12 q o0 a0 T0])) (va_A (fl [g12 q o0 a0 S0]) sz)) 0 0 (va_A (fl [g12 q o0 a0 S0]) sz) := by
  refine k_met (w0 := fl [g12 q o0 a0 S0]) (Q := fun A => QI D A r (fl [g12 q o0 a0 T0])) (by decide +kernel) (Nat.le_of_ble_eq_true rfl) ?_
  intro p e s m args below meth c A ls C hP hD hS hl
  have hl : lv_has ls 1 [(0, .ref o0)] := hl
  unfold F_X12_covering at hF
  have C : cx p s m args meth c cX12_covering 1 (some .int) RX12 D q A := C
  obtain ⟨hx, hb, hr, hml, hown, hts, hlk, hA, hK, hN, hV⟩ := id C
  refine lv_aload_n hx hb dX12_covering_0 rfl (lv_at hl 0 rfl) ?_
  refine lv_iconst (v := (0 : Int32)) hx hb dX12_covering_1 (by decide) ?_
  obtain ⟨U1, e2, hF⟩ := nw_s hF
  refine k_put (W8 := fl [g12 q o0 a0 U1]) C fp_X12_1 hP hD hS 0 rfl rfl rfl (Nat.le_of_ble_eq_true rfl) dX12_covering_2 (by rw [e2]; rfl) (fun H locs hP hD hS => ?_)
  refine lv_aload_n hx hb dX12_covering_5 rfl (lv_at hl 0 rfl) ?_
  refine k_get (v := .int (U1.1 29)) C fg_X12_398 hP 0 rfl rfl dX12_covering_6 ?_
  refine lv_if_eq (tgt := 19) hx hb dX12_covering_9 (by decide) (fun c3 => ?_) (fun c3 => ?_)
  · have hF := op_t hF c3
    refine lv_iconst (v := (-1 : Int32)) hx hb dX12_covering_19 (by decide) ?_
    cases hF
    exact k_iret C hP hS dX12_covering_20
  · have hF := op_f hF c3
    refine lv_aload_n hx hb dX12_covering_12 rfl (lv_at hl 0 rfl) ?_
    refine k_get (v := .int (U1.1 28)) C fg_X12_402 hP 0 rfl rfl dX12_covering_13 ?_
    refine lv_goto (tgt := 20) hx hb dX12_covering_16 (by decide) ?_
    cases hF
    exact k_iret C hP hS dX12_covering_20

abbrev rm_X12_mostBy : Room := ({ frames := 2, cells := 0, slots := 0, locals := 47 } : Room)
def F_X12_mostBy_47 (x1 : Int32) (x2 : Int32) (x3 : Int32) (s0 : Int32) (S0 : St) : Option (Int32) := if 0 ≤ x3 then (if oob (((128 : Int32) * (x1 + (1 : Int32))) + (x2 ||| ((1 : Int32) <<< (x3 &&& 31)))) 896 then none else some ((s0 + (S0.2.2.1 30 (((128 : Int32) * (x1 + (1 : Int32))) + (x2 ||| ((1 : Int32) <<< (x3 &&& 31)))).toNatClampNeg)))) else (if oob (((128 : Int32) * (x1 + (1 : Int32))) + x2) 896 then none else some ((s0 + (S0.2.2.1 30 (((128 : Int32) * (x1 + (1 : Int32))) + x2).toNatClampNeg))))
def F_X12_mostBy_30 (x1 : Int32) (x2 : Int32) (x3 : Int32) (s0 : Int32) (S0 : St) : Option (Int32) := ob1 (F_X12_isPleased S0 x1 s0) fun r2 => if r2 = 0 then (F_X12_mostBy_47 x1 x2 x3 (0 : Int32) S0) else (F_X12_mostBy_47 x1 x2 x3 (1 : Int32) S0)
def F_X12_mostBy (S0 : St) (x1 : Int32) (x2 : Int32) (x3 : Int32) : Option (Int32) := if 0 ≤ x3 then (if oob ((59 : Int32) + x1) 258 then none else ob1 (F_X12_behindOf S0 (S0.2.2.1 6 ((59 : Int32) + x1).toNatClampNeg) x3) fun r4 => F_X12_mostBy_30 x1 x2 x3 r4 S0) else (if oob ((59 : Int32) + x1) 258 then none else F_X12_mostBy_30 x1 x2 x3 (S0.2.2.1 6 ((59 : Int32) + x1).toNatClampNeg) S0)
set_option maxRecDepth 100000 in
set_option maxHeartbeats 4000000 in
theorem b_X12_mostBy_47 {p : Program} {l : Launch} {e : Env} {s : State} {m : MethodId} {args : Array Value} {below : List Frame} {meth : Method} {c : Code} {D : va_G} {q : Nat → ClassId} {A : Nat → Prop} {o0 : Nat} {a0 : Nat → Nat} {r : Int32} (C : cx p s m args meth c cX12_mostBy 5 (some .int) RX12 D q A) {x1 : Int32} {x2 : Int32} {x3 : Int32} {s0 : Int32} {S0 : St} (hF : F_X12_mostBy_47 x1 x2 x3 s0 S0 = some (r)) {H : Heap} {locs : List Loc} (hP : va_P D vwCl (fl [g12 q o0 a0 S0]) H) (hD : va_D A (fl [g12 q o0 a0 S0])) (hS : va_S A s.heap H locs) {ls : Array Slot} (hl : lv_has ls 5 [(0, .ref o0), (1, .int x1), (2, .int x2), (3, .int x3)]) : W p l e rm_X12_mostBy s m args below meth c H locs 0 0 (MQ below (QI D A r (fl [g12 q o0 a0 S0])) args s 0 0 A) (F0 m 47 ls [.int s0]) := by
  unfold F_X12_mostBy_47 at hF
  obtain ⟨hx, hb, hr, hml, hown, hts, hlk, hA, hK, hN, hV⟩ := id C
  refine lv_aload_n hx hb dX12_mostBy_47 rfl (lv_at hl 0 rfl) ?_
  refine k_get (v := .ref (a0 31)) C fg_X12_71 hP 0 rfl rfl dX12_mostBy_48 ?_
  refine lv_sipush (v := (128 : Int32)) hx hb dX12_mostBy_51 (by decide) ?_
  refine lv_iload_n hx hb dX12_mostBy_54 rfl (lv_at hl 1 rfl) ?_
  refine lv_iconst (v := (1 : Int32)) hx hb dX12_mostBy_55 (by decide) ?_
  refine lv_iadd hx hb dX12_mostBy_56 ?_
  refine lv_imul hx hb dX12_mostBy_57 ?_
  refine lv_iload_n hx hb dX12_mostBy_58 rfl (lv_at hl 3 rfl) ?_
  refine lv_if_ge (tgt := 66) hx hb dX12_mostBy_59 (by decide) (fun c1 => ?_) (fun c1 => ?_)
  · have hF := op_t hF c1
    refine lv_iload_n hx hb dX12_mostBy_66 rfl (lv_at hl 2 rfl) ?_
    refine lv_iconst (v := (1 : Int32)) hx hb dX12_mostBy_67 (by decide) ?_
    refine lv_iload_n hx hb dX12_mostBy_68 rfl (lv_at hl 3 rfl) ?_
    refine lv_ishl hx hb dX12_mostBy_69 ?_
    refine lv_ior hx hb dX12_mostBy_70 ?_
    refine lv_iadd hx hb dX12_mostBy_71 ?_
    obtain ⟨h2, hF⟩ := op_ck hF
    refine k_ild (f := S0.2.2.1 30) C hP 12 rfl h2 dX12_mostBy_72 ?_
    refine lv_iadd hx hb dX12_mostBy_73 ?_
    cases hF
    exact k_iret C hP hS dX12_mostBy_74
  · have hF := op_f hF c1
    refine lv_iload_n hx hb dX12_mostBy_62 rfl (lv_at hl 2 rfl) ?_
    refine lv_goto (tgt := 71) hx hb dX12_mostBy_63 (by decide) ?_
    refine lv_iadd hx hb dX12_mostBy_71 ?_
    obtain ⟨h3, hF⟩ := op_ck hF
    refine k_ild (f := S0.2.2.1 30) C hP 12 rfl h3 dX12_mostBy_72 ?_
    refine lv_iadd hx hb dX12_mostBy_73 ?_
    cases hF
    exact k_iret C hP hS dX12_mostBy_74
set_option maxRecDepth 100000 in
set_option maxHeartbeats 4000000 in
theorem b_X12_mostBy_30 {p : Program} {l : Launch} {e : Env} {s : State} {m : MethodId} {args : Array Value} {below : List Frame} {meth : Method} {c : Code} {D : va_G} {q : Nat → ClassId} {A : Nat → Prop} {o0 : Nat} {a0 : Nat → Nat} {r : Int32} (C : cx p s m args meth c cX12_mostBy 5 (some .int) RX12 D q A) {x1 : Int32} {x2 : Int32} {x3 : Int32} {s0 : Int32} {S0 : St} (hF : F_X12_mostBy_30 x1 x2 x3 s0 S0 = some (r)) {H : Heap} {locs : List Loc} (hP : va_P D vwCl (fl [g12 q o0 a0 S0]) H) (hD : va_D A (fl [g12 q o0 a0 S0])) (hS : va_S A s.heap H locs) {ls : Array Slot} (hl : lv_has ls 5 [(0, .ref o0), (1, .int x1), (2, .int x2), (3, .int x3)]) : W p l e rm_X12_mostBy s m args below meth c H locs 0 0 (MQ below (QI D A r (fl [g12 q o0 a0 S0])) args s 0 0 A) (F0 m 30 ls [.int s0]) := by
  unfold F_X12_mostBy_30 at hF
  obtain ⟨hx, hb, hr, hml, hown, hts, hlk, hA, hK, hN, hV⟩ := id C
  refine lv_istore (lv' := [(4, .int s0), (0, .ref o0), (1, .int x1), (2, .int x2), (3, .int x3)]) hx hb dX12_mostBy_30 hl (by decide) rfl (fun ls hl => ?_)
  refine lv_aload_n hx hb dX12_mostBy_32 rfl (lv_at hl 1 rfl) ?_
  refine lv_iload_n hx hb dX12_mostBy_33 rfl (lv_at hl 2 rfl) ?_
  refine lv_iload hx hb dX12_mostBy_34 (lv_at hl 0 rfl) ?_
  obtain ⟨r2, hc1, hF⟩ := ob1_s hF
  refine k_isame C (k_rV (As := [.int x1, .int s0]) (rest := []) C (c_X12_isPleased l D q o0 a0 S0 _ x1 s0 hc1) kc_X12_isPleased ml_X12_315 rfl rfl (by decide) hP hD hS (va_recv hK hP (ci := 12) (q0 := 0) rfl rfl) rfl hl.1 rfl (Nat.le_of_ble_eq_true rfl) dX12_mostBy_36 (by decide)) hP hD hS (fun H locs hP hD hS => ?_)
  refine lv_if_eq (tgt := 46) hx hb dX12_mostBy_39 (by decide) (fun c3 => ?_) (fun c3 => ?_)
  · have hF := op_t hF c3
    refine lv_iconst (v := (0 : Int32)) hx hb dX12_mostBy_46 (by decide) ?_
    exact b_X12_mostBy_47 C hF hP hD hS (lv_sub hl [1, 2, 3, 4] rfl)
  · have hF := op_f hF c3
    refine lv_iconst (v := (1 : Int32)) hx hb dX12_mostBy_42 (by decide) ?_
    refine lv_goto (tgt := 47) hx hb dX12_mostBy_43 (by decide) ?_
    exact b_X12_mostBy_47 C hF hP hD hS (lv_sub hl [1, 2, 3, 4] rfl)
set_option maxRecDepth 100000 in
set_option maxHeartbeats 4000000 in
theorem c_X12_mostBy (l : Launch) (D : va_G) (q : Nat → ClassId) (o0 : Nat) (a0 : Nat → Nat) (S0 : St) (sz : Nat) (x1 : Int32) (x2 : Int32) (x3 : Int32) {r : Int32} (hF : F_X12_mostBy S0 x1 x2 x3 = some (r)) : Met l yX12_mostBy (Cond.code yX12_mostBy cX12_mostBy 5 (some .int) :: TB) rm_X12_mostBy (PC D q [.ref o0, .int x1, .int x2, .int x3] (fl [g12 q o0 a0 S0]) sz) ((fun A => QI D A r (fl [g12 q o0 a0 S0])) (va_A (fl [g12 q o0 a0 S0]) sz)) 0 0 (va_A (fl [g12 q o0 a0 S0]) sz) := by
  refine k_met (w0 := fl [g12 q o0 a0 S0]) (Q := fun A => QI D A r (fl [g12 q o0 a0 S0])) (by decide +kernel) (Nat.le_of_ble_eq_true rfl) ?_
  intro p e s m args below meth c A ls C hP hD hS hl
  have hl : lv_has ls 5 [(0, .ref o0), (1, .int x1), (2, .int x2), (3, .int x3)] := hl
  unfold F_X12_mostBy at hF
  have C : cx p s m args meth c cX12_mostBy 5 (some .int) RX12 D q A := C
  obtain ⟨hx, hb, hr, hml, hown, hts, hlk, hA, hK, hN, hV⟩ := id C
  refine lv_iload_n hx hb dX12_mostBy_0 rfl (lv_at hl 3 rfl) ?_
  refine lv_if_ge (tgt := 16) hx hb dX12_mostBy_1 (by decide) (fun c1 => ?_) (fun c1 => ?_)
  · have hF := op_t hF c1
    refine lv_aload_n hx hb dX12_mostBy_16 rfl (lv_at hl 0 rfl) ?_
    refine lv_aload_n hx hb dX12_mostBy_17 rfl (lv_at hl 0 rfl) ?_
    refine k_get (v := .ref (a0 7)) C fg_X12_33 hP 0 rfl rfl dX12_mostBy_18 ?_
    refine lv_bipush (v := (59 : Int32)) hx hb dX12_mostBy_21 (by decide) ?_
    refine lv_iload_n hx hb dX12_mostBy_23 rfl (lv_at hl 1 rfl) ?_
    refine lv_iadd hx hb dX12_mostBy_24 ?_
    obtain ⟨h2, hF⟩ := op_ck hF
    refine k_ild (f := S0.2.2.1 6) C hP 2 rfl h2 dX12_mostBy_25 ?_
    refine lv_iload_n hx hb dX12_mostBy_26 rfl (lv_at hl 3 rfl) ?_
    obtain ⟨r4, hc3, hF⟩ := ob1_s hF
    refine k_isame C (k_rV (As := [.int (S0.2.2.1 6 ((59 : Int32) + x1).toNatClampNeg), .int x3]) (rest := []) C (c_X12_behindOf l D q o0 a0 S0 _ (S0.2.2.1 6 ((59 : Int32) + x1).toNatClampNeg) x3 hc3) kc_X12_behindOf ml_X12_346 rfl rfl (by decide) hP hD hS (va_recv hK hP (ci := 12) (q0 := 0) rfl rfl) rfl hl.1 rfl (Nat.le_of_ble_eq_true rfl) dX12_mostBy_27 (by decide)) hP hD hS (fun H locs hP hD hS => ?_)
    exact b_X12_mostBy_30 C hF hP hD hS (lv_sub hl [0, 1, 2, 3] rfl)
  · have hF := op_f hF c1
    refine lv_aload_n hx hb dX12_mostBy_4 rfl (lv_at hl 0 rfl) ?_
    refine k_get (v := .ref (a0 7)) C fg_X12_33 hP 0 rfl rfl dX12_mostBy_5 ?_
    refine lv_bipush (v := (59 : Int32)) hx hb dX12_mostBy_8 (by decide) ?_
    refine lv_iload_n hx hb dX12_mostBy_10 rfl (lv_at hl 1 rfl) ?_
    refine lv_iadd hx hb dX12_mostBy_11 ?_
    obtain ⟨h5, hF⟩ := op_ck hF
    refine k_ild (f := S0.2.2.1 6) C hP 2 rfl h5 dX12_mostBy_12 ?_
    refine lv_goto (tgt := 30) hx hb dX12_mostBy_13 (by decide) ?_
    exact b_X12_mostBy_30 C hF hP hD hS (lv_sub hl [0, 1, 2, 3] rfl)

abbrev rm_X12_party : Room := ({ frames := 4, cells := 0, slots := 0, locals := 87 } : Room)
def F_X12_party_273 (k161 : Int32 × Int32 × Int32 × St → Option (Int32 × St)) (x1 : Int32) (x3 : Int32) (s0 : Int32) (s1 : Int32) (S0 : St) : Option (Int32 × St) := k161 (x1, (s0 ||| s1), (x3 + 1), S0)
def F_X12_party_252 (k161 : Int32 × Int32 × Int32 × St → Option (Int32 × St)) (x1 : Int32) (x2 : Int32) (x3 : Int32) (x5 : Int32) (s1 : Int32) (s2 : Int32) (S0 : St) : Option (Int32 × St) := if oob s1 6 then none else nw (sA S0 31 s1 s2) fun U2 => if oob (0 : Int32) 258 then none else if (U2.2.2.1 6 (0 : Int32).toNatClampNeg) ≤ x5 then (F_X12_party_273 k161 x1 x3 x2 (0 : Int32) U2) else (F_X12_party_273 k161 x1 x3 x2 ((1 : Int32) <<< (x5 &&& 31)) U2)
def F_X12_party_230 (k161 : Int32 × Int32 × Int32 × St → Option (Int32 × St)) (x1 : Int32) (x2 : Int32) (x3 : Int32) (x5 : Int32) (S0 : St) : Option (Int32 × St) := if oob (0 : Int32) 258 then none else if (S0.2.2.1 6 (0 : Int32).toNatClampNeg) ≤ x5 then (F_X12_party_252 k161 x1 x2 x3 x5 x3 (-1 : Int32) S0) else (F_X12_party_252 k161 x1 x2 x3 x5 x3 x5 S0)
def F_X12_party_224 (k161 : Int32 × Int32 × Int32 × St → Option (Int32 × St)) (k180 : Int32 × Int32 × Int32 × Int32 × Int32 × St → Option (Int32 × St)) (x1 : Int32) (x2 : Int32) (x3 : Int32) (x4 : Int32) (x5 : Int32) (S0 : St) : Option (Int32 × St) := k180 (x1, x2, x3, x4, (x5 + 1), S0)
def F_X12_party_180 (k161 : Int32 × Int32 × Int32 × St → Option (Int32 × St)) (k180 : Int32 × Int32 × Int32 × Int32 × Int32 × St → Option (Int32 × St)) (x1 : Int32) (x2 : Int32) (x3 : Int32) (x4 : Int32) (x5 : Int32) (S0 : St) : Option (Int32 × St) := if oob (0 : Int32) 258 then none else if (S0.2.2.1 6 (0 : Int32).toNatClampNeg) ≤ x5 then (F_X12_party_230 k161 x1 x2 x3 x5 S0) else (ob1 (F_X12_bitOf x4 x5) fun r4 => if r4 = 0 then (F_X12_party_224 k161 k180 x1 x2 x3 x4 x5 S0) else (ob1 (F_X12_mostBy S0 x3 x2 x5) fun r7 => if oob (((128 : Int32) * x3) + x2) 896 then none else if r7 = (S0.2.2.1 30 (((128 : Int32) * x3) + x2).toNatClampNeg) then (F_X12_party_230 k161 x1 x2 x3 x5 S0) else (F_X12_party_224 k161 k180 x1 x2 x3 x4 x5 S0)))
def L_X12_party_180 (k161 : Int32 × Int32 × Int32 × St → Option (Int32 × St)) (x1 : Int32) (x2 : Int32) (x3 : Int32) (x4 : Int32) (x5 : Int32) (S0 : St) : Option (Int32 × St) := lp (fun kz z => F_X12_party_180 k161 kz z.1 z.2.1 z.2.2.1 z.2.2.2.1 z.2.2.2.2.1 z.2.2.2.2.2) FU (x1, x2, x3, x4, x5, S0)
def F_X12_party_161 (k161 : Int32 × Int32 × Int32 × St → Option (Int32 × St)) (x1 : Int32) (x2 : Int32) (x3 : Int32) (S0 : St) : Option (Int32 × St) := if x1 ≤ x3 then (if oob (0 : Int32) 896 then none else some ((S0.2.2.1 30 (0 : Int32).toNatClampNeg), S0)) else (ob1 (F_X12_canOf S0 x3) fun r4 => L_X12_party_180 k161 x1 x2 x3 (r4 &&& (x2 ^^^ (-1 : Int32))) (0 : Int32) S0)
def L_X12_party_161 (x1 : Int32) (x2 : Int32) (x3 : Int32) (S0 : St) : Option (Int32 × St) := lp (fun kz z => F_X12_party_161 kz z.1 z.2.1 z.2.2.1 z.2.2.2) FU (x1, x2, x3, S0)
def F_X12_party_119 (k44 : Int32 × Int32 × St → Option (Int32 × St)) (k57 : Int32 × Int32 × Int32 × Int32 × St → Option (Int32 × St)) (k78 : Int32 × Int32 × Int32 × Int32 × Int32 × Int32 × St → Option (Int32 × St)) (x1 : Int32) (x2 : Int32) (x3 : Int32) (x4 : Int32) (x5 : Int32) (x6 : Int32) (S0 : St) : Option (Int32 × St) := k78 (x1, x2, x3, x4, x5, (x6 + 1), S0)
def F_X12_party_78 (k44 : Int32 × Int32 × St → Option (Int32 × St)) (k57 : Int32 × Int32 × Int32 × Int32 × St → Option (Int32 × St)) (k78 : Int32 × Int32 × Int32 × Int32 × Int32 × Int32 × St → Option (Int32 × St)) (x1 : Int32) (x2 : Int32) (x3 : Int32) (x4 : Int32) (x5 : Int32) (x6 : Int32) (S0 : St) : Option (Int32 × St) := if oob (0 : Int32) 258 then none else if (S0.2.2.1 6 (0 : Int32).toNatClampNeg) ≤ x6 then (if oob (((128 : Int32) * x2) + x4) 896 then none else nw (sA S0 30 (((128 : Int32) * x2) + x4) x5) fun U4 => k57 (x1, x2, x3, (x4 + 1), U4)) else (ob1 (F_X12_bitOf (x3 &&& (x4 ^^^ (-1 : Int32))) x6) fun r7 => if r7 = 0 then (F_X12_party_119 k44 k57 k78 x1 x2 x3 x4 x5 x6 S0) else (ob1 (F_X12_mostBy S0 x2 x4 x6) fun r10 => ob1 (F_X12_greater x5 r10) fun r12 => F_X12_party_119 k44 k57 k78 x1 x2 x3 x4 r12 x6 S0))
def L_X12_party_78 (k44 : Int32 × Int32 × St → Option (Int32 × St)) (k57 : Int32 × Int32 × Int32 × Int32 × St → Option (Int32 × St)) (x1 : Int32) (x2 : Int32) (x3 : Int32) (x4 : Int32) (x5 : Int32) (x6 : Int32) (S0 : St) : Option (Int32 × St) := lp (fun kz z => F_X12_party_78 k44 k57 kz z.1 z.2.1 z.2.2.1 z.2.2.2.1 z.2.2.2.2.1 z.2.2.2.2.2.1 z.2.2.2.2.2.2) FU (x1, x2, x3, x4, x5, x6, S0)
def F_X12_party_57 (k44 : Int32 × Int32 × St → Option (Int32 × St)) (k57 : Int32 × Int32 × Int32 × Int32 × St → Option (Int32 × St)) (x1 : Int32) (x2 : Int32) (x3 : Int32) (x4 : Int32) (S0 : St) : Option (Int32 × St) := if (128 : Int32) ≤ x4 then (k44 (x1, (x2 + (-1)), S0)) else (ob1 (F_X12_mostBy S0 x2 x4 (-1 : Int32)) fun r3 => L_X12_party_78 k44 k57 x1 x2 x3 x4 r3 (0 : Int32) S0)
def L_X12_party_57 (k44 : Int32 × Int32 × St → Option (Int32 × St)) (x1 : Int32) (x2 : Int32) (x3 : Int32) (x4 : Int32) (S0 : St) : Option (Int32 × St) := lp (fun kz z => F_X12_party_57 k44 kz z.1 z.2.1 z.2.2.1 z.2.2.2.1 z.2.2.2.2) FU (x1, x2, x3, x4, S0)
def F_X12_party_44 (k44 : Int32 × Int32 × St → Option (Int32 × St)) (x1 : Int32) (x2 : Int32) (S0 : St) : Option (Int32 × St) := if x2 < 0 then (nw (sI S0 32 x1) fun U2 => L_X12_party_161 x1 (0 : Int32) (0 : Int32) U2) else (ob1 (F_X12_canOf S0 x2) fun r5 => L_X12_party_57 k44 x1 x2 r5 (0 : Int32) S0)
def L_X12_party_44 (x1 : Int32) (x2 : Int32) (S0 : St) : Option (Int32 × St) := lp (fun kz z => F_X12_party_44 kz z.1 z.2.1 z.2.2) FU (x1, x2, S0)
def F_X12_party_14 (k14 : Int32 × Int32 × St → Option (Int32 × St)) (x1 : Int32) (x2 : Int32) (S0 : St) : Option (Int32 × St) := if (128 : Int32) ≤ x2 then (L_X12_party_44 x1 (x1 - (1 : Int32)) S0) else (if oob (((128 : Int32) * x1) + x2) 896 then none else nw (sA S0 30 (((128 : Int32) * x1) + x2) (0 : Int32)) fun U3 => k14 (x1, (x2 + 1), U3))
def L_X12_party_14 (x1 : Int32) (x2 : Int32) (S0 : St) : Option (Int32 × St) := lp (fun kz z => F_X12_party_14 kz z.1 z.2.1 z.2.2) FU (x1, x2, S0)
def F_X12_party (S0 : St) : Option (Int32 × St) := nw (sI S0 0 (0 : Int32)) fun U1 => if oob (1 : Int32) 258 then none else nw (U1.2.2.1 6 (1 : Int32).toNatClampNeg) fun v4 => L_X12_party_14 v4 (0 : Int32) U1
set_option maxRecDepth 100000 in
set_option maxHeartbeats 4000000 in
theorem b_X12_party_273 {p : Program} {l : Launch} {e : Env} {s : State} {m : MethodId} {args : Array Value} {below : List Frame} {meth : Method} {c : Code} {D : va_G} {q : Nat → ClassId} {A : Nat → Prop} {o0 : Nat} {a0 : Nat → Nat} {r : Int32} {T0 : St} (C : cx p s m args meth c cX12_party 7 (some .int) RX12 D q A) {k161 : Int32 × Int32 × Int32 × St → Option (Int32 × St)} (hk161 : ∀ (x1 : Int32) (x2 : Int32) (x3 : Int32) (S0 : St), k161 (x1, x2, x3, S0) = some (r, T0) → ∀ (H : Heap) (locs : List Loc) (ls : Array Slot), va_P D vwCl (fl [g12 q o0 a0 S0]) H → va_D A (fl [g12 q o0 a0 S0]) → va_S A s.heap H locs → lv_has ls 7 [(0, .ref o0), (1, .int x1), (2, .int x2), (3, .int x3)] → W p l e rm_X12_party s m args below meth c H locs 0 0 (MQ below (QI D A r (fl [g12 q o0 a0 T0])) args s 0 0 A) (F0 m 161 ls [])) {x1 : Int32} {x3 : Int32} {s0 : Int32} {s1 : Int32} {S0 : St} (hF : F_X12_party_273 k161 x1 x3 s0 s1 S0 = some (r, T0)) {H : Heap} {locs : List Loc} (hP : va_P D vwCl (fl [g12 q o0 a0 S0]) H) (hD : va_D A (fl [g12 q o0 a0 S0])) (hS : va_S A s.heap H locs) {ls : Array Slot} (hl : lv_has ls 7 [(0, .ref o0), (1, .int x1), (3, .int x3)]) : W p l e rm_X12_party s m args below meth c H locs 0 0 (MQ below (QI D A r (fl [g12 q o0 a0 T0])) args s 0 0 A) (F0 m 273 ls [.int s1, .int s0]) := by
  unfold F_X12_party_273 at hF
  obtain ⟨hx, hb, hr, hml, hown, hts, hlk, hA, hK, hN, hV⟩ := id C
  refine lv_ior hx hb dX12_party_273 ?_
  refine lv_istore_n (lv' := [(2, .int (s0 ||| s1)), (0, .ref o0), (1, .int x1), (3, .int x3)]) hx hb dX12_party_274 rfl hl (by decide) rfl (fun ls hl => ?_)
  refine lv_iinc (v := (x3 + 1)) (lv' := [(3, .int (x3 + 1)), (2, .int (s0 ||| s1)), (0, .ref o0), (1, .int x1)]) hx hb dX12_party_275 hl (k := 3) rfl rfl (by decide) rfl (fun ls hl => ?_)
  refine lv_goto (tgt := 161) hx hb dX12_party_278 (by decide) ?_
  exact hk161 x1 (s0 ||| s1) (x3 + 1) S0 hF _ _ _ hP hD hS (lv_sub hl [2, 3, 1, 0] rfl)
set_option maxRecDepth 100000 in
set_option maxHeartbeats 4000000 in
theorem b_X12_party_252 {p : Program} {l : Launch} {e : Env} {s : State} {m : MethodId} {args : Array Value} {below : List Frame} {meth : Method} {c : Code} {D : va_G} {q : Nat → ClassId} {A : Nat → Prop} {o0 : Nat} {a0 : Nat → Nat} {r : Int32} {T0 : St} (C : cx p s m args meth c cX12_party 7 (some .int) RX12 D q A) {k161 : Int32 × Int32 × Int32 × St → Option (Int32 × St)} (hk161 : ∀ (x1 : Int32) (x2 : Int32) (x3 : Int32) (S0 : St), k161 (x1, x2, x3, S0) = some (r, T0) → ∀ (H : Heap) (locs : List Loc) (ls : Array Slot), va_P D vwCl (fl [g12 q o0 a0 S0]) H → va_D A (fl [g12 q o0 a0 S0]) → va_S A s.heap H locs → lv_has ls 7 [(0, .ref o0), (1, .int x1), (2, .int x2), (3, .int x3)] → W p l e rm_X12_party s m args below meth c H locs 0 0 (MQ below (QI D A r (fl [g12 q o0 a0 T0])) args s 0 0 A) (F0 m 161 ls [])) {x1 : Int32} {x2 : Int32} {x3 : Int32} {x5 : Int32} {s1 : Int32} {s2 : Int32} {S0 : St} (hF : F_X12_party_252 k161 x1 x2 x3 x5 s1 s2 S0 = some (r, T0)) {H : Heap} {locs : List Loc} (hP : va_P D vwCl (fl [g12 q o0 a0 S0]) H) (hD : va_D A (fl [g12 q o0 a0 S0])) (hS : va_S A s.heap H locs) {ls : Array Slot} (hl : lv_has ls 7 [(0, .ref o0), (1, .int x1), (2, .int x2), (3, .int x3), (5, .int x5)]) : W p l e rm_X12_party s m args below meth c H locs 0 0 (MQ below (QI D A r (fl [g12 q o0 a0 T0])) args s 0 0 A) (F0 m 252 ls [.int s2, .int s1, .ref (a0 32)]) := by
  unfold F_X12_party_252 at hF
  obtain ⟨hx, hb, hr, hml, hown, hts, hlk, hA, hK, hN, hV⟩ := id C
  obtain ⟨h1, hF⟩ := op_ck hF
  obtain ⟨U2, e3, hF⟩ := nw_s hF
  refine k_ist (f := S0.2.2.1 31) (W8 := fl [g12 q o0 a0 U2]) C hP hD hS 13 rfl h1 dX12_party_252 (by rw [e3]; rfl) (fun H locs hP hD hS => ?_)
  refine lv_iload_n hx hb dX12_party_253 rfl (lv_at hl 2 rfl) ?_
  refine lv_iload hx hb dX12_party_254 (lv_at hl 4 rfl) ?_
  refine lv_aload_n hx hb dX12_party_256 rfl (lv_at hl 0 rfl) ?_
  refine k_get (v := .ref (a0 7)) C fg_X12_33 hP 0 rfl rfl dX12_party_257 ?_
  refine lv_iconst (v := (0 : Int32)) hx hb dX12_party_260 (by decide) ?_
  obtain ⟨h4, hF⟩ := op_ck hF
  refine k_ild (f := U2.2.2.1 6) C hP 2 rfl h4 dX12_party_261 ?_
  refine lv_icmp_ge (tgt := 272) hx hb dX12_party_262 (by decide) (fun c5 => ?_) (fun c5 => ?_)
  · have hF := op_t hF c5
    refine lv_iconst (v := (0 : Int32)) hx hb dX12_party_272 (by decide) ?_
    exact b_X12_party_273 C hk161 hF hP hD hS (lv_sub hl [0, 1, 3] rfl)
  · have hF := op_f hF c5
    refine lv_iconst (v := (1 : Int32)) hx hb dX12_party_265 (by decide) ?_
    refine lv_iload hx hb dX12_party_266 (lv_at hl 4 rfl) ?_
    refine lv_ishl hx hb dX12_party_268 ?_
    refine lv_goto (tgt := 273) hx hb dX12_party_269 (by decide) ?_
    exact b_X12_party_273 C hk161 hF hP hD hS (lv_sub hl [0, 1, 3] rfl)
set_option maxRecDepth 100000 in
set_option maxHeartbeats 4000000 in
theorem b_X12_party_230 {p : Program} {l : Launch} {e : Env} {s : State} {m : MethodId} {args : Array Value} {below : List Frame} {meth : Method} {c : Code} {D : va_G} {q : Nat → ClassId} {A : Nat → Prop} {o0 : Nat} {a0 : Nat → Nat} {r : Int32} {T0 : St} (C : cx p s m args meth c cX12_party 7 (some .int) RX12 D q A) {k161 : Int32 × Int32 × Int32 × St → Option (Int32 × St)} (hk161 : ∀ (x1 : Int32) (x2 : Int32) (x3 : Int32) (S0 : St), k161 (x1, x2, x3, S0) = some (r, T0) → ∀ (H : Heap) (locs : List Loc) (ls : Array Slot), va_P D vwCl (fl [g12 q o0 a0 S0]) H → va_D A (fl [g12 q o0 a0 S0]) → va_S A s.heap H locs → lv_has ls 7 [(0, .ref o0), (1, .int x1), (2, .int x2), (3, .int x3)] → W p l e rm_X12_party s m args below meth c H locs 0 0 (MQ below (QI D A r (fl [g12 q o0 a0 T0])) args s 0 0 A) (F0 m 161 ls [])) {x1 : Int32} {x2 : Int32} {x3 : Int32} {x5 : Int32} {S0 : St} (hF : F_X12_party_230 k161 x1 x2 x3 x5 S0 = some (r, T0)) {H : Heap} {locs : List Loc} (hP : va_P D vwCl (fl [g12 q o0 a0 S0]) H) (hD : va_D A (fl [g12 q o0 a0 S0])) (hS : va_S A s.heap H locs) {ls : Array Slot} (hl : lv_has ls 7 [(0, .ref o0), (1, .int x1), (2, .int x2), (3, .int x3), (5, .int x5)]) : W p l e rm_X12_party s m args below meth c H locs 0 0 (MQ below (QI D A r (fl [g12 q o0 a0 T0])) args s 0 0 A) (F0 m 230 ls []) := by
  unfold F_X12_party_230 at hF
  obtain ⟨hx, hb, hr, hml, hown, hts, hlk, hA, hK, hN, hV⟩ := id C
  refine lv_aload_n hx hb dX12_party_230 rfl (lv_at hl 0 rfl) ?_
  refine k_get (v := .ref (a0 32)) C fg_X12_74 hP 0 rfl rfl dX12_party_231 ?_
  refine lv_iload_n hx hb dX12_party_234 rfl (lv_at hl 3 rfl) ?_
  refine lv_iload hx hb dX12_party_235 (lv_at hl 4 rfl) ?_
  refine lv_aload_n hx hb dX12_party_237 rfl (lv_at hl 0 rfl) ?_
  refine k_get (v := .ref (a0 7)) C fg_X12_33 hP 0 rfl rfl dX12_party_238 ?_
  refine lv_iconst (v := (0 : Int32)) hx hb dX12_party_241 (by decide) ?_
  obtain ⟨h1, hF⟩ := op_ck hF
  refine k_ild (f := S0.2.2.1 6) C hP 2 rfl h1 dX12_party_242 ?_
  refine lv_icmp_ge (tgt := 251) hx hb dX12_party_243 (by decide) (fun c2 => ?_) (fun c2 => ?_)
  · have hF := op_t hF c2
    refine lv_iconst (v := (-1 : Int32)) hx hb dX12_party_251 (by decide) ?_
    exact b_X12_party_252 C hk161 hF hP hD hS (lv_sub hl [0, 1, 2, 3, 4] rfl)
  · have hF := op_f hF c2
    refine lv_iload hx hb dX12_party_246 (lv_at hl 4 rfl) ?_
    refine lv_goto (tgt := 252) hx hb dX12_party_248 (by decide) ?_
    exact b_X12_party_252 C hk161 hF hP hD hS (lv_sub hl [0, 1, 2, 3, 4] rfl)
set_option maxRecDepth 100000 in
set_option maxHeartbeats 4000000 in
theorem b_X12_party_224 {p : Program} {l : Launch} {e : Env} {s : State} {m : MethodId} {args : Array Value} {below : List Frame} {meth : Method} {c : Code} {D : va_G} {q : Nat → ClassId} {A : Nat → Prop} {o0 : Nat} {a0 : Nat → Nat} {r : Int32} {T0 : St} (C : cx p s m args meth c cX12_party 7 (some .int) RX12 D q A) {k161 : Int32 × Int32 × Int32 × St → Option (Int32 × St)} (hk161 : ∀ (x1 : Int32) (x2 : Int32) (x3 : Int32) (S0 : St), k161 (x1, x2, x3, S0) = some (r, T0) → ∀ (H : Heap) (locs : List Loc) (ls : Array Slot), va_P D vwCl (fl [g12 q o0 a0 S0]) H → va_D A (fl [g12 q o0 a0 S0]) → va_S A s.heap H locs → lv_has ls 7 [(0, .ref o0), (1, .int x1), (2, .int x2), (3, .int x3)] → W p l e rm_X12_party s m args below meth c H locs 0 0 (MQ below (QI D A r (fl [g12 q o0 a0 T0])) args s 0 0 A) (F0 m 161 ls [])) {k180 : Int32 × Int32 × Int32 × Int32 × Int32 × St → Option (Int32 × St)} (hk180 : ∀ (x1 : Int32) (x2 : Int32) (x3 : Int32) (x4 : Int32) (x5 : Int32) (S0 : St), k180 (x1, x2, x3, x4, x5, S0) = some (r, T0) → ∀ (H : Heap) (locs : List Loc) (ls : Array Slot), va_P D vwCl (fl [g12 q o0 a0 S0]) H → va_D A (fl [g12 q o0 a0 S0]) → va_S A s.heap H locs → lv_has ls 7 [(0, .ref o0), (1, .int x1), (2, .int x2), (3, .int x3), (4, .int x4), (5, .int x5)] → W p l e rm_X12_party s m args below meth c H locs 0 0 (MQ below (QI D A r (fl [g12 q o0 a0 T0])) args s 0 0 A) (F0 m 180 ls [])) {x1 : Int32} {x2 : Int32} {x3 : Int32} {x4 : Int32} {x5 : Int32} {S0 : St} (hF : F_X12_party_224 k161 k180 x1 x2 x3 x4 x5 S0 = some (r, T0)) {H : Heap} {locs : List Loc} (hP : va_P D vwCl (fl [g12 q o0 a0 S0]) H) (hD : va_D A (fl [g12 q o0 a0 S0])) (hS : va_S A s.heap H locs) {ls : Array Slot} (hl : lv_has ls 7 [(0, .ref o0), (1, .int x1), (2, .int x2), (3, .int x3), (4, .int x4), (5, .int x5)]) : W p l e rm_X12_party s m args below meth c H locs 0 0 (MQ below (QI D A r (fl [g12 q o0 a0 T0])) args s 0 0 A) (F0 m 224 ls []) := by
  unfold F_X12_party_224 at hF
  obtain ⟨hx, hb, hr, hml, hown, hts, hlk, hA, hK, hN, hV⟩ := id C
  refine lv_iinc (v := (x5 + 1)) (lv' := [(5, .int (x5 + 1)), (0, .ref o0), (1, .int x1), (2, .int x2), (3, .int x3), (4, .int x4)]) hx hb dX12_party_224 hl (k := 5) rfl rfl (by decide) rfl (fun ls hl => ?_)
  refine lv_goto (tgt := 180) hx hb dX12_party_227 (by decide) ?_
  exact hk180 x1 x2 x3 x4 (x5 + 1) S0 hF _ _ _ hP hD hS (lv_sub hl [1, 2, 3, 4, 5, 0] rfl)
set_option maxRecDepth 100000 in
set_option maxHeartbeats 4000000 in
theorem b_X12_party_180 {p : Program} {l : Launch} {e : Env} {s : State} {m : MethodId} {args : Array Value} {below : List Frame} {meth : Method} {c : Code} {D : va_G} {q : Nat → ClassId} {A : Nat → Prop} {o0 : Nat} {a0 : Nat → Nat} {r : Int32} {T0 : St} (C : cx p s m args meth c cX12_party 7 (some .int) RX12 D q A) {k161 : Int32 × Int32 × Int32 × St → Option (Int32 × St)} (hk161 : ∀ (x1 : Int32) (x2 : Int32) (x3 : Int32) (S0 : St), k161 (x1, x2, x3, S0) = some (r, T0) → ∀ (H : Heap) (locs : List Loc) (ls : Array Slot), va_P D vwCl (fl [g12 q o0 a0 S0]) H → va_D A (fl [g12 q o0 a0 S0]) → va_S A s.heap H locs → lv_has ls 7 [(0, .ref o0), (1, .int x1), (2, .int x2), (3, .int x3)] → W p l e rm_X12_party s m args below meth c H locs 0 0 (MQ below (QI D A r (fl [g12 q o0 a0 T0])) args s 0 0 A) (F0 m 161 ls [])) {k180 : Int32 × Int32 × Int32 × Int32 × Int32 × St → Option (Int32 × St)} (hk180 : ∀ (x1 : Int32) (x2 : Int32) (x3 : Int32) (x4 : Int32) (x5 : Int32) (S0 : St), k180 (x1, x2, x3, x4, x5, S0) = some (r, T0) → ∀ (H : Heap) (locs : List Loc) (ls : Array Slot), va_P D vwCl (fl [g12 q o0 a0 S0]) H → va_D A (fl [g12 q o0 a0 S0]) → va_S A s.heap H locs → lv_has ls 7 [(0, .ref o0), (1, .int x1), (2, .int x2), (3, .int x3), (4, .int x4), (5, .int x5)] → W p l e rm_X12_party s m args below meth c H locs 0 0 (MQ below (QI D A r (fl [g12 q o0 a0 T0])) args s 0 0 A) (F0 m 180 ls [])) {x1 : Int32} {x2 : Int32} {x3 : Int32} {x4 : Int32} {x5 : Int32} {S0 : St} (hF : F_X12_party_180 k161 k180 x1 x2 x3 x4 x5 S0 = some (r, T0)) {H : Heap} {locs : List Loc} (hP : va_P D vwCl (fl [g12 q o0 a0 S0]) H) (hD : va_D A (fl [g12 q o0 a0 S0])) (hS : va_S A s.heap H locs) {ls : Array Slot} (hl : lv_has ls 7 [(0, .ref o0), (1, .int x1), (2, .int x2), (3, .int x3), (4, .int x4), (5, .int x5)]) : W p l e rm_X12_party s m args below meth c H locs 0 0 (MQ below (QI D A r (fl [g12 q o0 a0 T0])) args s 0 0 A) (F0 m 180 ls []) := by
  unfold F_X12_party_180 at hF
  obtain ⟨hx, hb, hr, hml, hown, hts, hlk, hA, hK, hN, hV⟩ := id C
  refine lv_iload hx hb dX12_party_180 (lv_at hl 5 rfl) ?_
  refine lv_aload_n hx hb dX12_party_182 rfl (lv_at hl 0 rfl) ?_
  refine k_get (v := .ref (a0 7)) C fg_X12_33 hP 0 rfl rfl dX12_party_183 ?_
  refine lv_iconst (v := (0 : Int32)) hx hb dX12_party_186 (by decide) ?_
  obtain ⟨h1, hF⟩ := op_ck hF
  refine k_ild (f := S0.2.2.1 6) C hP 2 rfl h1 dX12_party_187 ?_
  refine lv_icmp_ge (tgt := 230) hx hb dX12_party_188 (by decide) (fun c2 => ?_) (fun c2 => ?_)
  · have hF := op_t hF c2
    exact b_X12_party_230 C hk161 hF hP hD hS (lv_sub hl [0, 1, 2, 3, 5] rfl)
  · have hF := op_f hF c2
    refine lv_iload hx hb dX12_party_191 (lv_at hl 4 rfl) ?_
    refine lv_iload hx hb dX12_party_193 (lv_at hl 5 rfl) ?_
    obtain ⟨r4, hc3, hF⟩ := ob1_s hF
    refine k_inil C (k_rS (As := [.int x4, .int x5]) (rest := []) C (c_X12_bitOf l D q _ x4 x5 hc3) kc_X12_bitOf ml_X12_275 rfl rfl (by decide) (fun k x h => by simp at h) (⟨fun i j x y h => by simp at h, fun k x h => by simp at h⟩ : va_D A []) hS rfl hl.1 rfl (Nat.le_of_ble_eq_true rfl) dX12_party_195 (by decide)) hP hD hS (fun H locs hP hD hS => ?_)
    refine lv_if_eq (tgt := 224) hx hb dX12_party_198 (by decide) (fun c5 => ?_) (fun c5 => ?_)
    · have hF := op_t hF c5
      exact b_X12_party_224 C hk161 hk180 hF hP hD hS (lv_sub hl [0, 1, 2, 3, 4, 5] rfl)
    · have hF := op_f hF c5
      refine lv_aload_n hx hb dX12_party_201 rfl (lv_at hl 0 rfl) ?_
      refine lv_iload_n hx hb dX12_party_202 rfl (lv_at hl 3 rfl) ?_
      refine lv_iload_n hx hb dX12_party_203 rfl (lv_at hl 2 rfl) ?_
      refine lv_iload hx hb dX12_party_204 (lv_at hl 5 rfl) ?_
      obtain ⟨r7, hc6, hF⟩ := ob1_s hF
      refine k_isame C (k_rV (As := [.int x3, .int x2, .int x5]) (rest := []) C (c_X12_mostBy l D q o0 a0 S0 _ x3 x2 x5 hc6) kc_X12_mostBy ml_X12_405 rfl rfl (by decide) hP hD hS (va_recv hK hP (ci := 12) (q0 := 0) rfl rfl) rfl hl.1 rfl (Nat.le_of_ble_eq_true rfl) dX12_party_206 (by decide)) hP hD hS (fun H locs hP hD hS => ?_)
      refine lv_aload_n hx hb dX12_party_209 rfl (lv_at hl 0 rfl) ?_
      refine k_get (v := .ref (a0 31)) C fg_X12_71 hP 0 rfl rfl dX12_party_210 ?_
      refine lv_sipush (v := (128 : Int32)) hx hb dX12_party_213 (by decide) ?_
      refine lv_iload_n hx hb dX12_party_216 rfl (lv_at hl 3 rfl) ?_
      refine lv_imul hx hb dX12_party_217 ?_
      refine lv_iload_n hx hb dX12_party_218 rfl (lv_at hl 2 rfl) ?_
      refine lv_iadd hx hb dX12_party_219 ?_
      obtain ⟨h8, hF⟩ := op_ck hF
      refine k_ild (f := S0.2.2.1 30) C hP 12 rfl h8 dX12_party_220 ?_
      refine lv_icmp_eq (tgt := 230) hx hb dX12_party_221 (by decide) (fun c9 => ?_) (fun c9 => ?_)
      · have hF := op_t hF c9
        exact b_X12_party_230 C hk161 hF hP hD hS (lv_sub hl [0, 1, 2, 3, 5] rfl)
      · have hF := op_f hF c9
        exact b_X12_party_224 C hk161 hk180 hF hP hD hS (lv_sub hl [0, 1, 2, 3, 4, 5] rfl)
set_option maxRecDepth 100000 in
set_option maxHeartbeats 4000000 in
theorem l_X12_party_180 {p : Program} {l : Launch} {e : Env} {s : State} {m : MethodId} {args : Array Value} {below : List Frame} {meth : Method} {c : Code} {D : va_G} {q : Nat → ClassId} {A : Nat → Prop} {o0 : Nat} {a0 : Nat → Nat} {r : Int32} {T0 : St} (C : cx p s m args meth c cX12_party 7 (some .int) RX12 D q A) {k161 : Int32 × Int32 × Int32 × St → Option (Int32 × St)} (hk161 : ∀ (x1 : Int32) (x2 : Int32) (x3 : Int32) (S0 : St), k161 (x1, x2, x3, S0) = some (r, T0) → ∀ (H : Heap) (locs : List Loc) (ls : Array Slot), va_P D vwCl (fl [g12 q o0 a0 S0]) H → va_D A (fl [g12 q o0 a0 S0]) → va_S A s.heap H locs → lv_has ls 7 [(0, .ref o0), (1, .int x1), (2, .int x2), (3, .int x3)] → W p l e rm_X12_party s m args below meth c H locs 0 0 (MQ below (QI D A r (fl [g12 q o0 a0 T0])) args s 0 0 A) (F0 m 161 ls [])) {x1 : Int32} {x2 : Int32} {x3 : Int32} {x4 : Int32} {x5 : Int32} {S0 : St} (hF : L_X12_party_180 k161 x1 x2 x3 x4 x5 S0 = some (r, T0)) : ∀ (H : Heap) (locs : List Loc) (ls : Array Slot), va_P D vwCl (fl [g12 q o0 a0 S0]) H → va_D A (fl [g12 q o0 a0 S0]) → va_S A s.heap H locs → lv_has ls 7 [(0, .ref o0), (1, .int x1), (2, .int x2), (3, .int x3), (4, .int x4), (5, .int x5)] → W p l e rm_X12_party s m args below meth c H locs 0 0 (MQ below (QI D A r (fl [g12 q o0 a0 T0])) args s 0 0 A) (F0 m 180 ls []) :=
  lp_G _ _ (fun z => ∀ (H : Heap) (locs : List Loc) (ls : Array Slot), va_P D vwCl (fl [g12 q o0 a0 z.2.2.2.2.2]) H → va_D A (fl [g12 q o0 a0 z.2.2.2.2.2]) → va_S A s.heap H locs → lv_has ls 7 [(0, .ref o0), (1, .int z.1), (2, .int z.2.1), (3, .int z.2.2.1), (4, .int z.2.2.2.1), (5, .int z.2.2.2.2.1)] → W p l e rm_X12_party s m args below meth c H locs 0 0 (MQ below (QI D A r (fl [g12 q o0 a0 T0])) args s 0 0 A) (F0 m 180 ls [])) (fun kz hkz z hz H locs ls hP hD hS hl => b_X12_party_180 C hk161 (fun x1 x2 x3 x4 x5 S0 hz => hkz (x1, x2, x3, x4, x5, S0) hz) hz hP hD hS hl) FU (x1, x2, x3, x4, x5, S0) hF
set_option maxRecDepth 100000 in
set_option maxHeartbeats 4000000 in
theorem b_X12_party_161 {p : Program} {l : Launch} {e : Env} {s : State} {m : MethodId} {args : Array Value} {below : List Frame} {meth : Method} {c : Code} {D : va_G} {q : Nat → ClassId} {A : Nat → Prop} {o0 : Nat} {a0 : Nat → Nat} {r : Int32} {T0 : St} (C : cx p s m args meth c cX12_party 7 (some .int) RX12 D q A) {k161 : Int32 × Int32 × Int32 × St → Option (Int32 × St)} (hk161 : ∀ (x1 : Int32) (x2 : Int32) (x3 : Int32) (S0 : St), k161 (x1, x2, x3, S0) = some (r, T0) → ∀ (H : Heap) (locs : List Loc) (ls : Array Slot), va_P D vwCl (fl [g12 q o0 a0 S0]) H → va_D A (fl [g12 q o0 a0 S0]) → va_S A s.heap H locs → lv_has ls 7 [(0, .ref o0), (1, .int x1), (2, .int x2), (3, .int x3)] → W p l e rm_X12_party s m args below meth c H locs 0 0 (MQ below (QI D A r (fl [g12 q o0 a0 T0])) args s 0 0 A) (F0 m 161 ls [])) {x1 : Int32} {x2 : Int32} {x3 : Int32} {S0 : St} (hF : F_X12_party_161 k161 x1 x2 x3 S0 = some (r, T0)) {H : Heap} {locs : List Loc} (hP : va_P D vwCl (fl [g12 q o0 a0 S0]) H) (hD : va_D A (fl [g12 q o0 a0 S0])) (hS : va_S A s.heap H locs) {ls : Array Slot} (hl : lv_has ls 7 [(0, .ref o0), (1, .int x1), (2, .int x2), (3, .int x3)]) : W p l e rm_X12_party s m args below meth c H locs 0 0 (MQ below (QI D A r (fl [g12 q o0 a0 T0])) args s 0 0 A) (F0 m 161 ls []) := by
  unfold F_X12_party_161 at hF
  obtain ⟨hx, hb, hr, hml, hown, hts, hlk, hA, hK, hN, hV⟩ := id C
  refine lv_iload_n hx hb dX12_party_161 rfl (lv_at hl 3 rfl) ?_
  refine lv_iload_n hx hb dX12_party_162 rfl (lv_at hl 1 rfl) ?_
  refine lv_icmp_ge (tgt := 281) hx hb dX12_party_163 (by decide) (fun c1 => ?_) (fun c1 => ?_)
  · have hF := op_t hF c1
    refine lv_aload_n hx hb dX12_party_281 rfl (lv_at hl 0 rfl) ?_
    refine k_get (v := .ref (a0 31)) C fg_X12_71 hP 0 rfl rfl dX12_party_282 ?_
    refine lv_iconst (v := (0 : Int32)) hx hb dX12_party_285 (by decide) ?_
    obtain ⟨h2, hF⟩ := op_ck hF
    refine k_ild (f := S0.2.2.1 30) C hP 12 rfl h2 dX12_party_286 ?_
    cases hF
    exact k_iret C hP hS dX12_party_287
  · have hF := op_f hF c1
    refine lv_aload_n hx hb dX12_party_166 rfl (lv_at hl 0 rfl) ?_
    refine lv_iload_n hx hb dX12_party_167 rfl (lv_at hl 3 rfl) ?_
    obtain ⟨r4, hc3, hF⟩ := ob1_s hF
    refine k_isame C (k_rV (As := [.int x3]) (rest := []) C (c_X12_canOf l D q o0 a0 S0 _ x3 hc3) kc_X12_canOf ml_X12_325 rfl rfl (by decide) hP hD hS (va_recv hK hP (ci := 12) (q0 := 0) rfl rfl) rfl hl.1 rfl (Nat.le_of_ble_eq_true rfl) dX12_party_168 (by decide)) hP hD hS (fun H locs hP hD hS => ?_)
    refine lv_iload_n hx hb dX12_party_171 rfl (lv_at hl 2 rfl) ?_
    refine lv_iconst (v := (-1 : Int32)) hx hb dX12_party_172 (by decide) ?_
    refine lv_ixor hx hb dX12_party_173 ?_
    refine lv_iand hx hb dX12_party_174 ?_
    refine lv_istore (lv' := [(4, .int (r4 &&& (x2 ^^^ (-1 : Int32)))), (0, .ref o0), (1, .int x1), (2, .int x2), (3, .int x3)]) hx hb dX12_party_175 hl (by decide) rfl (fun ls hl => ?_)
    refine lv_iconst (v := (0 : Int32)) hx hb dX12_party_177 (by decide) ?_
    refine lv_istore (lv' := [(5, .int (0 : Int32)), (4, .int (r4 &&& (x2 ^^^ (-1 : Int32)))), (0, .ref o0), (1, .int x1), (2, .int x2), (3, .int x3)]) hx hb dX12_party_178 hl (by decide) rfl (fun ls hl => ?_)
    exact l_X12_party_180 C hk161 hF _ _ _ hP hD hS (lv_sub hl [2, 3, 4, 5, 1, 0] rfl)
set_option maxRecDepth 100000 in
set_option maxHeartbeats 4000000 in
theorem l_X12_party_161 {p : Program} {l : Launch} {e : Env} {s : State} {m : MethodId} {args : Array Value} {below : List Frame} {meth : Method} {c : Code} {D : va_G} {q : Nat → ClassId} {A : Nat → Prop} {o0 : Nat} {a0 : Nat → Nat} {r : Int32} {T0 : St} (C : cx p s m args meth c cX12_party 7 (some .int) RX12 D q A) {x1 : Int32} {x2 : Int32} {x3 : Int32} {S0 : St} (hF : L_X12_party_161 x1 x2 x3 S0 = some (r, T0)) : ∀ (H : Heap) (locs : List Loc) (ls : Array Slot), va_P D vwCl (fl [g12 q o0 a0 S0]) H → va_D A (fl [g12 q o0 a0 S0]) → va_S A s.heap H locs → lv_has ls 7 [(0, .ref o0), (1, .int x1), (2, .int x2), (3, .int x3)] → W p l e rm_X12_party s m args below meth c H locs 0 0 (MQ below (QI D A r (fl [g12 q o0 a0 T0])) args s 0 0 A) (F0 m 161 ls []) :=
  lp_G _ _ (fun z => ∀ (H : Heap) (locs : List Loc) (ls : Array Slot), va_P D vwCl (fl [g12 q o0 a0 z.2.2.2]) H → va_D A (fl [g12 q o0 a0 z.2.2.2]) → va_S A s.heap H locs → lv_has ls 7 [(0, .ref o0), (1, .int z.1), (2, .int z.2.1), (3, .int z.2.2.1)] → W p l e rm_X12_party s m args below meth c H locs 0 0 (MQ below (QI D A r (fl [g12 q o0 a0 T0])) args s 0 0 A) (F0 m 161 ls [])) (fun kz hkz z hz H locs ls hP hD hS hl => b_X12_party_161 C (fun x1 x2 x3 S0 hz => hkz (x1, x2, x3, S0) hz) hz hP hD hS hl) FU (x1, x2, x3, S0) hF
set_option maxRecDepth 100000 in
set_option maxHeartbeats 4000000 in
theorem b_X12_party_119 {p : Program} {l : Launch} {e : Env} {s : State} {m : MethodId} {args : Array Value} {below : List Frame} {meth : Method} {c : Code} {D : va_G} {q : Nat → ClassId} {A : Nat → Prop} {o0 : Nat} {a0 : Nat → Nat} {r : Int32} {T0 : St} (C : cx p s m args meth c cX12_party 7 (some .int) RX12 D q A) {k44 : Int32 × Int32 × St → Option (Int32 × St)} (hk44 : ∀ (x1 : Int32) (x2 : Int32) (S0 : St), k44 (x1, x2, S0) = some (r, T0) → ∀ (H : Heap) (locs : List Loc) (ls : Array Slot), va_P D vwCl (fl [g12 q o0 a0 S0]) H → va_D A (fl [g12 q o0 a0 S0]) → va_S A s.heap H locs → lv_has ls 7 [(0, .ref o0), (1, .int x1), (2, .int x2)] → W p l e rm_X12_party s m args below meth c H locs 0 0 (MQ below (QI D A r (fl [g12 q o0 a0 T0])) args s 0 0 A) (F0 m 44 ls [])) {k57 : Int32 × Int32 × Int32 × Int32 × St → Option (Int32 × St)} (hk57 : ∀ (x1 : Int32) (x2 : Int32) (x3 : Int32) (x4 : Int32) (S0 : St), k57 (x1, x2, x3, x4, S0) = some (r, T0) → ∀ (H : Heap) (locs : List Loc) (ls : Array Slot), va_P D vwCl (fl [g12 q o0 a0 S0]) H → va_D A (fl [g12 q o0 a0 S0]) → va_S A s.heap H locs → lv_has ls 7 [(0, .ref o0), (1, .int x1), (2, .int x2), (3, .int x3), (4, .int x4)] → W p l e rm_X12_party s m args below meth c H locs 0 0 (MQ below (QI D A r (fl [g12 q o0 a0 T0])) args s 0 0 A) (F0 m 57 ls [])) {k78 : Int32 × Int32 × Int32 × Int32 × Int32 × Int32 × St → Option (Int32 × St)} (hk78 : ∀ (x1 : Int32) (x2 : Int32) (x3 : Int32) (x4 : Int32) (x5 : Int32) (x6 : Int32) (S0 : St), k78 (x1, x2, x3, x4, x5, x6, S0) = some (r, T0) → ∀ (H : Heap) (locs : List Loc) (ls : Array Slot), va_P D vwCl (fl [g12 q o0 a0 S0]) H → va_D A (fl [g12 q o0 a0 S0]) → va_S A s.heap H locs → lv_has ls 7 [(0, .ref o0), (1, .int x1), (2, .int x2), (3, .int x3), (4, .int x4), (5, .int x5), (6, .int x6)] → W p l e rm_X12_party s m args below meth c H locs 0 0 (MQ below (QI D A r (fl [g12 q o0 a0 T0])) args s 0 0 A) (F0 m 78 ls [])) {x1 : Int32} {x2 : Int32} {x3 : Int32} {x4 : Int32} {x5 : Int32} {x6 : Int32} {S0 : St} (hF : F_X12_party_119 k44 k57 k78 x1 x2 x3 x4 x5 x6 S0 = some (r, T0)) {H : Heap} {locs : List Loc} (hP : va_P D vwCl (fl [g12 q o0 a0 S0]) H) (hD : va_D A (fl [g12 q o0 a0 S0])) (hS : va_S A s.heap H locs) {ls : Array Slot} (hl : lv_has ls 7 [(0, .ref o0), (1, .int x1), (2, .int x2), (3, .int x3), (4, .int x4), (5, .int x5), (6, .int x6)]) : W p l e rm_X12_party s m args below meth c H locs 0 0 (MQ below (QI D A r (fl [g12 q o0 a0 T0])) args s 0 0 A) (F0 m 119 ls []) := by
  unfold F_X12_party_119 at hF
  obtain ⟨hx, hb, hr, hml, hown, hts, hlk, hA, hK, hN, hV⟩ := id C
  refine lv_iinc (v := (x6 + 1)) (lv' := [(6, .int (x6 + 1)), (0, .ref o0), (1, .int x1), (2, .int x2), (3, .int x3), (4, .int x4), (5, .int x5)]) hx hb dX12_party_119 hl (k := 6) rfl rfl (by decide) rfl (fun ls hl => ?_)
  refine lv_goto (tgt := 78) hx hb dX12_party_122 (by decide) ?_
  exact hk78 x1 x2 x3 x4 x5 (x6 + 1) S0 hF _ _ _ hP hD hS (lv_sub hl [1, 2, 3, 4, 5, 6, 0] rfl)
set_option maxRecDepth 100000 in
set_option maxHeartbeats 4000000 in
theorem b_X12_party_78 {p : Program} {l : Launch} {e : Env} {s : State} {m : MethodId} {args : Array Value} {below : List Frame} {meth : Method} {c : Code} {D : va_G} {q : Nat → ClassId} {A : Nat → Prop} {o0 : Nat} {a0 : Nat → Nat} {r : Int32} {T0 : St} (C : cx p s m args meth c cX12_party 7 (some .int) RX12 D q A) {k44 : Int32 × Int32 × St → Option (Int32 × St)} (hk44 : ∀ (x1 : Int32) (x2 : Int32) (S0 : St), k44 (x1, x2, S0) = some (r, T0) → ∀ (H : Heap) (locs : List Loc) (ls : Array Slot), va_P D vwCl (fl [g12 q o0 a0 S0]) H → va_D A (fl [g12 q o0 a0 S0]) → va_S A s.heap H locs → lv_has ls 7 [(0, .ref o0), (1, .int x1), (2, .int x2)] → W p l e rm_X12_party s m args below meth c H locs 0 0 (MQ below (QI D A r (fl [g12 q o0 a0 T0])) args s 0 0 A) (F0 m 44 ls [])) {k57 : Int32 × Int32 × Int32 × Int32 × St → Option (Int32 × St)} (hk57 : ∀ (x1 : Int32) (x2 : Int32) (x3 : Int32) (x4 : Int32) (S0 : St), k57 (x1, x2, x3, x4, S0) = some (r, T0) → ∀ (H : Heap) (locs : List Loc) (ls : Array Slot), va_P D vwCl (fl [g12 q o0 a0 S0]) H → va_D A (fl [g12 q o0 a0 S0]) → va_S A s.heap H locs → lv_has ls 7 [(0, .ref o0), (1, .int x1), (2, .int x2), (3, .int x3), (4, .int x4)] → W p l e rm_X12_party s m args below meth c H locs 0 0 (MQ below (QI D A r (fl [g12 q o0 a0 T0])) args s 0 0 A) (F0 m 57 ls [])) {k78 : Int32 × Int32 × Int32 × Int32 × Int32 × Int32 × St → Option (Int32 × St)} (hk78 : ∀ (x1 : Int32) (x2 : Int32) (x3 : Int32) (x4 : Int32) (x5 : Int32) (x6 : Int32) (S0 : St), k78 (x1, x2, x3, x4, x5, x6, S0) = some (r, T0) → ∀ (H : Heap) (locs : List Loc) (ls : Array Slot), va_P D vwCl (fl [g12 q o0 a0 S0]) H → va_D A (fl [g12 q o0 a0 S0]) → va_S A s.heap H locs → lv_has ls 7 [(0, .ref o0), (1, .int x1), (2, .int x2), (3, .int x3), (4, .int x4), (5, .int x5), (6, .int x6)] → W p l e rm_X12_party s m args below meth c H locs 0 0 (MQ below (QI D A r (fl [g12 q o0 a0 T0])) args s 0 0 A) (F0 m 78 ls [])) {x1 : Int32} {x2 : Int32} {x3 : Int32} {x4 : Int32} {x5 : Int32} {x6 : Int32} {S0 : St} (hF : F_X12_party_78 k44 k57 k78 x1 x2 x3 x4 x5 x6 S0 = some (r, T0)) {H : Heap} {locs : List Loc} (hP : va_P D vwCl (fl [g12 q o0 a0 S0]) H) (hD : va_D A (fl [g12 q o0 a0 S0])) (hS : va_S A s.heap H locs) {ls : Array Slot} (hl : lv_has ls 7 [(0, .ref o0), (1, .int x1), (2, .int x2), (3, .int x3), (4, .int x4), (5, .int x5), (6, .int x6)]) : W p l e rm_X12_party s m args below meth c H locs 0 0 (MQ below (QI D A r (fl [g12 q o0 a0 T0])) args s 0 0 A) (F0 m 78 ls []) := by
  unfold F_X12_party_78 at hF
  obtain ⟨hx, hb, hr, hml, hown, hts, hlk, hA, hK, hN, hV⟩ := id C
  refine lv_iload hx hb dX12_party_78 (lv_at hl 6 rfl) ?_
  refine lv_aload_n hx hb dX12_party_80 rfl (lv_at hl 0 rfl) ?_
  refine k_get (v := .ref (a0 7)) C fg_X12_33 hP 0 rfl rfl dX12_party_81 ?_
  refine lv_iconst (v := (0 : Int32)) hx hb dX12_party_84 (by decide) ?_
  obtain ⟨h1, hF⟩ := op_ck hF
  refine k_ild (f := S0.2.2.1 6) C hP 2 rfl h1 dX12_party_85 ?_
  refine lv_icmp_ge (tgt := 125) hx hb dX12_party_86 (by decide) (fun c2 => ?_) (fun c2 => ?_)
  · have hF := op_t hF c2
    refine lv_aload_n hx hb dX12_party_125 rfl (lv_at hl 0 rfl) ?_
    refine k_get (v := .ref (a0 31)) C fg_X12_71 hP 0 rfl rfl dX12_party_126 ?_
    refine lv_sipush (v := (128 : Int32)) hx hb dX12_party_129 (by decide) ?_
    refine lv_iload_n hx hb dX12_party_132 rfl (lv_at hl 2 rfl) ?_
    refine lv_imul hx hb dX12_party_133 ?_
    refine lv_iload hx hb dX12_party_134 (lv_at hl 4 rfl) ?_
    refine lv_iadd hx hb dX12_party_136 ?_
    refine lv_iload hx hb dX12_party_137 (lv_at hl 5 rfl) ?_
    obtain ⟨h3, hF⟩ := op_ck hF
    obtain ⟨U4, e5, hF⟩ := nw_s hF
    refine k_ist (f := S0.2.2.1 30) (W8 := fl [g12 q o0 a0 U4]) C hP hD hS 12 rfl h3 dX12_party_139 (by rw [e5]; rfl) (fun H locs hP hD hS => ?_)
    refine lv_iinc (v := (x4 + 1)) (lv' := [(4, .int (x4 + 1)), (0, .ref o0), (1, .int x1), (2, .int x2), (3, .int x3), (5, .int x5), (6, .int x6)]) hx hb dX12_party_140 hl (k := 4) rfl rfl (by decide) rfl (fun ls hl => ?_)
    refine lv_goto (tgt := 57) hx hb dX12_party_143 (by decide) ?_
    exact hk57 x1 x2 x3 (x4 + 1) U4 hF _ _ _ hP hD hS (lv_sub hl [1, 2, 3, 4, 0] rfl)
  · have hF := op_f hF c2
    refine lv_iload_n hx hb dX12_party_89 rfl (lv_at hl 3 rfl) ?_
    refine lv_iload hx hb dX12_party_90 (lv_at hl 4 rfl) ?_
    refine lv_iconst (v := (-1 : Int32)) hx hb dX12_party_92 (by decide) ?_
    refine lv_ixor hx hb dX12_party_93 ?_
    refine lv_iand hx hb dX12_party_94 ?_
    refine lv_iload hx hb dX12_party_95 (lv_at hl 6 rfl) ?_
    obtain ⟨r7, hc6, hF⟩ := ob1_s hF
    refine k_inil C (k_rS (As := [.int (x3 &&& (x4 ^^^ (-1 : Int32))), .int x6]) (rest := []) C (c_X12_bitOf l D q _ (x3 &&& (x4 ^^^ (-1 : Int32))) x6 hc6) kc_X12_bitOf ml_X12_275 rfl rfl (by decide) (fun k x h => by simp at h) (⟨fun i j x y h => by simp at h, fun k x h => by simp at h⟩ : va_D A []) hS rfl hl.1 rfl (Nat.le_of_ble_eq_true rfl) dX12_party_97 (by decide)) hP hD hS (fun H locs hP hD hS => ?_)
    refine lv_if_eq (tgt := 119) hx hb dX12_party_100 (by decide) (fun c8 => ?_) (fun c8 => ?_)
    · have hF := op_t hF c8
      exact b_X12_party_119 C hk44 hk57 hk78 hF hP hD hS (lv_sub hl [0, 1, 2, 3, 4, 5, 6] rfl)
    · have hF := op_f hF c8
      refine lv_iload hx hb dX12_party_103 (lv_at hl 5 rfl) ?_
      refine lv_aload_n hx hb dX12_party_105 rfl (lv_at hl 0 rfl) ?_
      refine lv_iload_n hx hb dX12_party_106 rfl (lv_at hl 2 rfl) ?_
      refine lv_iload hx hb dX12_party_107 (lv_at hl 4 rfl) ?_
      refine lv_iload hx hb dX12_party_109 (lv_at hl 6 rfl) ?_
      obtain ⟨r10, hc9, hF⟩ := ob1_s hF
      refine k_isame C (k_rV (As := [.int x2, .int x4, .int x6]) (rest := [.int x5]) C (c_X12_mostBy l D q o0 a0 S0 _ x2 x4 x6 hc9) kc_X12_mostBy ml_X12_405 rfl rfl (by decide) hP hD hS (va_recv hK hP (ci := 12) (q0 := 0) rfl rfl) rfl hl.1 rfl (Nat.le_of_ble_eq_true rfl) dX12_party_111 (by decide)) hP hD hS (fun H locs hP hD hS => ?_)
      obtain ⟨r12, hc11, hF⟩ := ob1_s hF
      refine k_inil C (k_rS (As := [.int x5, .int r10]) (rest := []) C (c_X12_greater l D q _ x5 r10 hc11) kc_X12_greater ml_X12_392 rfl rfl (by decide) (fun k x h => by simp at h) (⟨fun i j x y h => by simp at h, fun k x h => by simp at h⟩ : va_D A []) hS rfl hl.1 rfl (Nat.le_of_ble_eq_true rfl) dX12_party_114 (by decide)) hP hD hS (fun H locs hP hD hS => ?_)
      refine lv_istore (lv' := [(5, .int r12), (0, .ref o0), (1, .int x1), (2, .int x2), (3, .int x3), (4, .int x4), (6, .int x6)]) hx hb dX12_party_117 hl (by decide) rfl (fun ls hl => ?_)
      exact b_X12_party_119 C hk44 hk57 hk78 hF hP hD hS (lv_sub hl [1, 2, 3, 4, 5, 0, 6] rfl)
set_option maxRecDepth 100000 in
set_option maxHeartbeats 4000000 in
theorem l_X12_party_78 {p : Program} {l : Launch} {e : Env} {s : State} {m : MethodId} {args : Array Value} {below : List Frame} {meth : Method} {c : Code} {D : va_G} {q : Nat → ClassId} {A : Nat → Prop} {o0 : Nat} {a0 : Nat → Nat} {r : Int32} {T0 : St} (C : cx p s m args meth c cX12_party 7 (some .int) RX12 D q A) {k44 : Int32 × Int32 × St → Option (Int32 × St)} (hk44 : ∀ (x1 : Int32) (x2 : Int32) (S0 : St), k44 (x1, x2, S0) = some (r, T0) → ∀ (H : Heap) (locs : List Loc) (ls : Array Slot), va_P D vwCl (fl [g12 q o0 a0 S0]) H → va_D A (fl [g12 q o0 a0 S0]) → va_S A s.heap H locs → lv_has ls 7 [(0, .ref o0), (1, .int x1), (2, .int x2)] → W p l e rm_X12_party s m args below meth c H locs 0 0 (MQ below (QI D A r (fl [g12 q o0 a0 T0])) args s 0 0 A) (F0 m 44 ls [])) {k57 : Int32 × Int32 × Int32 × Int32 × St → Option (Int32 × St)} (hk57 : ∀ (x1 : Int32) (x2 : Int32) (x3 : Int32) (x4 : Int32) (S0 : St), k57 (x1, x2, x3, x4, S0) = some (r, T0) → ∀ (H : Heap) (locs : List Loc) (ls : Array Slot), va_P D vwCl (fl [g12 q o0 a0 S0]) H → va_D A (fl [g12 q o0 a0 S0]) → va_S A s.heap H locs → lv_has ls 7 [(0, .ref o0), (1, .int x1), (2, .int x2), (3, .int x3), (4, .int x4)] → W p l e rm_X12_party s m args below meth c H locs 0 0 (MQ below (QI D A r (fl [g12 q o0 a0 T0])) args s 0 0 A) (F0 m 57 ls [])) {x1 : Int32} {x2 : Int32} {x3 : Int32} {x4 : Int32} {x5 : Int32} {x6 : Int32} {S0 : St} (hF : L_X12_party_78 k44 k57 x1 x2 x3 x4 x5 x6 S0 = some (r, T0)) : ∀ (H : Heap) (locs : List Loc) (ls : Array Slot), va_P D vwCl (fl [g12 q o0 a0 S0]) H → va_D A (fl [g12 q o0 a0 S0]) → va_S A s.heap H locs → lv_has ls 7 [(0, .ref o0), (1, .int x1), (2, .int x2), (3, .int x3), (4, .int x4), (5, .int x5), (6, .int x6)] → W p l e rm_X12_party s m args below meth c H locs 0 0 (MQ below (QI D A r (fl [g12 q o0 a0 T0])) args s 0 0 A) (F0 m 78 ls []) :=
  lp_G _ _ (fun z => ∀ (H : Heap) (locs : List Loc) (ls : Array Slot), va_P D vwCl (fl [g12 q o0 a0 z.2.2.2.2.2.2]) H → va_D A (fl [g12 q o0 a0 z.2.2.2.2.2.2]) → va_S A s.heap H locs → lv_has ls 7 [(0, .ref o0), (1, .int z.1), (2, .int z.2.1), (3, .int z.2.2.1), (4, .int z.2.2.2.1), (5, .int z.2.2.2.2.1), (6, .int z.2.2.2.2.2.1)] → W p l e rm_X12_party s m args below meth c H locs 0 0 (MQ below (QI D A r (fl [g12 q o0 a0 T0])) args s 0 0 A) (F0 m 78 ls [])) (fun kz hkz z hz H locs ls hP hD hS hl => b_X12_party_78 C hk44 hk57 (fun x1 x2 x3 x4 x5 x6 S0 hz => hkz (x1, x2, x3, x4, x5, x6, S0) hz) hz hP hD hS hl) FU (x1, x2, x3, x4, x5, x6, S0) hF
set_option maxRecDepth 100000 in
set_option maxHeartbeats 4000000 in
theorem b_X12_party_57 {p : Program} {l : Launch} {e : Env} {s : State} {m : MethodId} {args : Array Value} {below : List Frame} {meth : Method} {c : Code} {D : va_G} {q : Nat → ClassId} {A : Nat → Prop} {o0 : Nat} {a0 : Nat → Nat} {r : Int32} {T0 : St} (C : cx p s m args meth c cX12_party 7 (some .int) RX12 D q A) {k44 : Int32 × Int32 × St → Option (Int32 × St)} (hk44 : ∀ (x1 : Int32) (x2 : Int32) (S0 : St), k44 (x1, x2, S0) = some (r, T0) → ∀ (H : Heap) (locs : List Loc) (ls : Array Slot), va_P D vwCl (fl [g12 q o0 a0 S0]) H → va_D A (fl [g12 q o0 a0 S0]) → va_S A s.heap H locs → lv_has ls 7 [(0, .ref o0), (1, .int x1), (2, .int x2)] → W p l e rm_X12_party s m args below meth c H locs 0 0 (MQ below (QI D A r (fl [g12 q o0 a0 T0])) args s 0 0 A) (F0 m 44 ls [])) {k57 : Int32 × Int32 × Int32 × Int32 × St → Option (Int32 × St)} (hk57 : ∀ (x1 : Int32) (x2 : Int32) (x3 : Int32) (x4 : Int32) (S0 : St), k57 (x1, x2, x3, x4, S0) = some (r, T0) → ∀ (H : Heap) (locs : List Loc) (ls : Array Slot), va_P D vwCl (fl [g12 q o0 a0 S0]) H → va_D A (fl [g12 q o0 a0 S0]) → va_S A s.heap H locs → lv_has ls 7 [(0, .ref o0), (1, .int x1), (2, .int x2), (3, .int x3), (4, .int x4)] → W p l e rm_X12_party s m args below meth c H locs 0 0 (MQ below (QI D A r (fl [g12 q o0 a0 T0])) args s 0 0 A) (F0 m 57 ls [])) {x1 : Int32} {x2 : Int32} {x3 : Int32} {x4 : Int32} {S0 : St} (hF : F_X12_party_57 k44 k57 x1 x2 x3 x4 S0 = some (r, T0)) {H : Heap} {locs : List Loc} (hP : va_P D vwCl (fl [g12 q o0 a0 S0]) H) (hD : va_D A (fl [g12 q o0 a0 S0])) (hS : va_S A s.heap H locs) {ls : Array Slot} (hl : lv_has ls 7 [(0, .ref o0), (1, .int x1), (2, .int x2), (3, .int x3), (4, .int x4)]) : W p l e rm_X12_party s m args below meth c H locs 0 0 (MQ below (QI D A r (fl [g12 q o0 a0 T0])) args s 0 0 A) (F0 m 57 ls []) := by
  unfold F_X12_party_57 at hF
  obtain ⟨hx, hb, hr, hml, hown, hts, hlk, hA, hK, hN, hV⟩ := id C
  refine lv_iload hx hb dX12_party_57 (lv_at hl 4 rfl) ?_
  refine lv_sipush (v := (128 : Int32)) hx hb dX12_party_59 (by decide) ?_
  refine lv_icmp_ge (tgt := 146) hx hb dX12_party_62 (by decide) (fun c1 => ?_) (fun c1 => ?_)
  · have hF := op_t hF c1
    refine lv_iinc (v := (x2 + (-1))) (lv' := [(2, .int (x2 + (-1))), (0, .ref o0), (1, .int x1), (3, .int x3), (4, .int x4)]) hx hb dX12_party_146 hl (k := 2) rfl rfl (by decide) rfl (fun ls hl => ?_)
    refine lv_goto (tgt := 44) hx hb dX12_party_149 (by decide) ?_
    exact hk44 x1 (x2 + (-1)) S0 hF _ _ _ hP hD hS (lv_sub hl [1, 2, 0] rfl)
  · have hF := op_f hF c1
    refine lv_aload_n hx hb dX12_party_65 rfl (lv_at hl 0 rfl) ?_
    refine lv_iload_n hx hb dX12_party_66 rfl (lv_at hl 2 rfl) ?_
    refine lv_iload hx hb dX12_party_67 (lv_at hl 4 rfl) ?_
    refine lv_iconst (v := (-1 : Int32)) hx hb dX12_party_69 (by decide) ?_
    obtain ⟨r3, hc2, hF⟩ := ob1_s hF
    refine k_isame C (k_rV (As := [.int x2, .int x4, .int (-1 : Int32)]) (rest := []) C (c_X12_mostBy l D q o0 a0 S0 _ x2 x4 (-1 : Int32) hc2) kc_X12_mostBy ml_X12_405 rfl rfl (by decide) hP hD hS (va_recv hK hP (ci := 12) (q0 := 0) rfl rfl) rfl hl.1 rfl (Nat.le_of_ble_eq_true rfl) dX12_party_70 (by decide)) hP hD hS (fun H locs hP hD hS => ?_)
    refine lv_istore (lv' := [(5, .int r3), (0, .ref o0), (1, .int x1), (2, .int x2), (3, .int x3), (4, .int x4)]) hx hb dX12_party_73 hl (by decide) rfl (fun ls hl => ?_)
    refine lv_iconst (v := (0 : Int32)) hx hb dX12_party_75 (by decide) ?_
    refine lv_istore (lv' := [(6, .int (0 : Int32)), (5, .int r3), (0, .ref o0), (1, .int x1), (2, .int x2), (3, .int x3), (4, .int x4)]) hx hb dX12_party_76 hl (by decide) rfl (fun ls hl => ?_)
    exact l_X12_party_78 C hk44 hk57 hF _ _ _ hP hD hS (lv_sub hl [2, 3, 4, 5, 6, 1, 0] rfl)
set_option maxRecDepth 100000 in
set_option maxHeartbeats 4000000 in
theorem l_X12_party_57 {p : Program} {l : Launch} {e : Env} {s : State} {m : MethodId} {args : Array Value} {below : List Frame} {meth : Method} {c : Code} {D : va_G} {q : Nat → ClassId} {A : Nat → Prop} {o0 : Nat} {a0 : Nat → Nat} {r : Int32} {T0 : St} (C : cx p s m args meth c cX12_party 7 (some .int) RX12 D q A) {k44 : Int32 × Int32 × St → Option (Int32 × St)} (hk44 : ∀ (x1 : Int32) (x2 : Int32) (S0 : St), k44 (x1, x2, S0) = some (r, T0) → ∀ (H : Heap) (locs : List Loc) (ls : Array Slot), va_P D vwCl (fl [g12 q o0 a0 S0]) H → va_D A (fl [g12 q o0 a0 S0]) → va_S A s.heap H locs → lv_has ls 7 [(0, .ref o0), (1, .int x1), (2, .int x2)] → W p l e rm_X12_party s m args below meth c H locs 0 0 (MQ below (QI D A r (fl [g12 q o0 a0 T0])) args s 0 0 A) (F0 m 44 ls [])) {x1 : Int32} {x2 : Int32} {x3 : Int32} {x4 : Int32} {S0 : St} (hF : L_X12_party_57 k44 x1 x2 x3 x4 S0 = some (r, T0)) : ∀ (H : Heap) (locs : List Loc) (ls : Array Slot), va_P D vwCl (fl [g12 q o0 a0 S0]) H → va_D A (fl [g12 q o0 a0 S0]) → va_S A s.heap H locs → lv_has ls 7 [(0, .ref o0), (1, .int x1), (2, .int x2), (3, .int x3), (4, .int x4)] → W p l e rm_X12_party s m args below meth c H locs 0 0 (MQ below (QI D A r (fl [g12 q o0 a0 T0])) args s 0 0 A) (F0 m 57 ls []) :=
  lp_G _ _ (fun z => ∀ (H : Heap) (locs : List Loc) (ls : Array Slot), va_P D vwCl (fl [g12 q o0 a0 z.2.2.2.2]) H → va_D A (fl [g12 q o0 a0 z.2.2.2.2]) → va_S A s.heap H locs → lv_has ls 7 [(0, .ref o0), (1, .int z.1), (2, .int z.2.1), (3, .int z.2.2.1), (4, .int z.2.2.2.1)] → W p l e rm_X12_party s m args below meth c H locs 0 0 (MQ below (QI D A r (fl [g12 q o0 a0 T0])) args s 0 0 A) (F0 m 57 ls [])) (fun kz hkz z hz H locs ls hP hD hS hl => b_X12_party_57 C hk44 (fun x1 x2 x3 x4 S0 hz => hkz (x1, x2, x3, x4, S0) hz) hz hP hD hS hl) FU (x1, x2, x3, x4, S0) hF
set_option maxRecDepth 100000 in
set_option maxHeartbeats 4000000 in
theorem b_X12_party_44 {p : Program} {l : Launch} {e : Env} {s : State} {m : MethodId} {args : Array Value} {below : List Frame} {meth : Method} {c : Code} {D : va_G} {q : Nat → ClassId} {A : Nat → Prop} {o0 : Nat} {a0 : Nat → Nat} {r : Int32} {T0 : St} (C : cx p s m args meth c cX12_party 7 (some .int) RX12 D q A) {k44 : Int32 × Int32 × St → Option (Int32 × St)} (hk44 : ∀ (x1 : Int32) (x2 : Int32) (S0 : St), k44 (x1, x2, S0) = some (r, T0) → ∀ (H : Heap) (locs : List Loc) (ls : Array Slot), va_P D vwCl (fl [g12 q o0 a0 S0]) H → va_D A (fl [g12 q o0 a0 S0]) → va_S A s.heap H locs → lv_has ls 7 [(0, .ref o0), (1, .int x1), (2, .int x2)] → W p l e rm_X12_party s m args below meth c H locs 0 0 (MQ below (QI D A r (fl [g12 q o0 a0 T0])) args s 0 0 A) (F0 m 44 ls [])) {x1 : Int32} {x2 : Int32} {S0 : St} (hF : F_X12_party_44 k44 x1 x2 S0 = some (r, T0)) {H : Heap} {locs : List Loc} (hP : va_P D vwCl (fl [g12 q o0 a0 S0]) H) (hD : va_D A (fl [g12 q o0 a0 S0])) (hS : va_S A s.heap H locs) {ls : Array Slot} (hl : lv_has ls 7 [(0, .ref o0), (1, .int x1), (2, .int x2)]) : W p l e rm_X12_party s m args below meth c H locs 0 0 (MQ below (QI D A r (fl [g12 q o0 a0 T0])) args s 0 0 A) (F0 m 44 ls []) := by
  unfold F_X12_party_44 at hF
  obtain ⟨hx, hb, hr, hml, hown, hts, hlk, hA, hK, hN, hV⟩ := id C
  refine lv_iload_n hx hb dX12_party_44 rfl (lv_at hl 2 rfl) ?_
  refine lv_if_lt (tgt := 152) hx hb dX12_party_45 (by decide) (fun c1 => ?_) (fun c1 => ?_)
  · have hF := op_t hF c1
    refine lv_aload_n hx hb dX12_party_152 rfl (lv_at hl 0 rfl) ?_
    refine lv_iload_n hx hb dX12_party_153 rfl (lv_at hl 1 rfl) ?_
    obtain ⟨U2, e3, hF⟩ := nw_s hF
    refine k_put (W8 := fl [g12 q o0 a0 U2]) C fp_X12_77 hP hD hS 0 rfl rfl rfl (Nat.le_of_ble_eq_true rfl) dX12_party_154 (by rw [e3]; rfl) (fun H locs hP hD hS => ?_)
    refine lv_iconst (v := (0 : Int32)) hx hb dX12_party_157 (by decide) ?_
    refine lv_istore_n (lv' := [(2, .int (0 : Int32)), (0, .ref o0), (1, .int x1)]) hx hb dX12_party_158 rfl hl (by decide) rfl (fun ls hl => ?_)
    refine lv_iconst (v := (0 : Int32)) hx hb dX12_party_159 (by decide) ?_
    refine lv_istore_n (lv' := [(3, .int (0 : Int32)), (2, .int (0 : Int32)), (0, .ref o0), (1, .int x1)]) hx hb dX12_party_160 rfl hl (by decide) rfl (fun ls hl => ?_)
    exact l_X12_party_161 C hF _ _ _ hP hD hS (lv_sub hl [2, 3, 1, 0] rfl)
  · have hF := op_f hF c1
    refine lv_aload_n hx hb dX12_party_48 rfl (lv_at hl 0 rfl) ?_
    refine lv_iload_n hx hb dX12_party_49 rfl (lv_at hl 2 rfl) ?_
    obtain ⟨r5, hc4, hF⟩ := ob1_s hF
    refine k_isame C (k_rV (As := [.int x2]) (rest := []) C (c_X12_canOf l D q o0 a0 S0 _ x2 hc4) kc_X12_canOf ml_X12_325 rfl rfl (by decide) hP hD hS (va_recv hK hP (ci := 12) (q0 := 0) rfl rfl) rfl hl.1 rfl (Nat.le_of_ble_eq_true rfl) dX12_party_50 (by decide)) hP hD hS (fun H locs hP hD hS => ?_)
    refine lv_istore_n (lv' := [(3, .int r5), (0, .ref o0), (1, .int x1), (2, .int x2)]) hx hb dX12_party_53 rfl hl (by decide) rfl (fun ls hl => ?_)
    refine lv_iconst (v := (0 : Int32)) hx hb dX12_party_54 (by decide) ?_
    refine lv_istore (lv' := [(4, .int (0 : Int32)), (3, .int r5), (0, .ref o0), (1, .int x1), (2, .int x2)]) hx hb dX12_party_55 hl (by decide) rfl (fun ls hl => ?_)
    exact l_X12_party_57 C hk44 hF _ _ _ hP hD hS (lv_sub hl [2, 3, 4, 1, 0] rfl)
set_option maxRecDepth 100000 in
set_option maxHeartbeats 4000000 in
theorem l_X12_party_44 {p : Program} {l : Launch} {e : Env} {s : State} {m : MethodId} {args : Array Value} {below : List Frame} {meth : Method} {c : Code} {D : va_G} {q : Nat → ClassId} {A : Nat → Prop} {o0 : Nat} {a0 : Nat → Nat} {r : Int32} {T0 : St} (C : cx p s m args meth c cX12_party 7 (some .int) RX12 D q A) {x1 : Int32} {x2 : Int32} {S0 : St} (hF : L_X12_party_44 x1 x2 S0 = some (r, T0)) : ∀ (H : Heap) (locs : List Loc) (ls : Array Slot), va_P D vwCl (fl [g12 q o0 a0 S0]) H → va_D A (fl [g12 q o0 a0 S0]) → va_S A s.heap H locs → lv_has ls 7 [(0, .ref o0), (1, .int x1), (2, .int x2)] → W p l e rm_X12_party s m args below meth c H locs 0 0 (MQ below (QI D A r (fl [g12 q o0 a0 T0])) args s 0 0 A) (F0 m 44 ls []) :=
  lp_G _ _ (fun z => ∀ (H : Heap) (locs : List Loc) (ls : Array Slot), va_P D vwCl (fl [g12 q o0 a0 z.2.2]) H → va_D A (fl [g12 q o0 a0 z.2.2]) → va_S A s.heap H locs → lv_has ls 7 [(0, .ref o0), (1, .int z.1), (2, .int z.2.1)] → W p l e rm_X12_party s m args below meth c H locs 0 0 (MQ below (QI D A r (fl [g12 q o0 a0 T0])) args s 0 0 A) (F0 m 44 ls [])) (fun kz hkz z hz H locs ls hP hD hS hl => b_X12_party_44 C (fun x1 x2 S0 hz => hkz (x1, x2, S0) hz) hz hP hD hS hl) FU (x1, x2, S0) hF
set_option maxRecDepth 100000 in
set_option maxHeartbeats 4000000 in
theorem b_X12_party_14 {p : Program} {l : Launch} {e : Env} {s : State} {m : MethodId} {args : Array Value} {below : List Frame} {meth : Method} {c : Code} {D : va_G} {q : Nat → ClassId} {A : Nat → Prop} {o0 : Nat} {a0 : Nat → Nat} {r : Int32} {T0 : St} (C : cx p s m args meth c cX12_party 7 (some .int) RX12 D q A) {k14 : Int32 × Int32 × St → Option (Int32 × St)} (hk14 : ∀ (x1 : Int32) (x2 : Int32) (S0 : St), k14 (x1, x2, S0) = some (r, T0) → ∀ (H : Heap) (locs : List Loc) (ls : Array Slot), va_P D vwCl (fl [g12 q o0 a0 S0]) H → va_D A (fl [g12 q o0 a0 S0]) → va_S A s.heap H locs → lv_has ls 7 [(0, .ref o0), (1, .int x1), (2, .int x2)] → W p l e rm_X12_party s m args below meth c H locs 0 0 (MQ below (QI D A r (fl [g12 q o0 a0 T0])) args s 0 0 A) (F0 m 14 ls [])) {x1 : Int32} {x2 : Int32} {S0 : St} (hF : F_X12_party_14 k14 x1 x2 S0 = some (r, T0)) {H : Heap} {locs : List Loc} (hP : va_P D vwCl (fl [g12 q o0 a0 S0]) H) (hD : va_D A (fl [g12 q o0 a0 S0])) (hS : va_S A s.heap H locs) {ls : Array Slot} (hl : lv_has ls 7 [(0, .ref o0), (1, .int x1), (2, .int x2)]) : W p l e rm_X12_party s m args below meth c H locs 0 0 (MQ below (QI D A r (fl [g12 q o0 a0 T0])) args s 0 0 A) (F0 m 14 ls []) := by
  unfold F_X12_party_14 at hF
  obtain ⟨hx, hb, hr, hml, hown, hts, hlk, hA, hK, hN, hV⟩ := id C
  refine lv_iload_n hx hb dX12_party_14 rfl (lv_at hl 2 rfl) ?_
  refine lv_sipush (v := (128 : Int32)) hx hb dX12_party_15 (by decide) ?_
  refine lv_icmp_ge (tgt := 40) hx hb dX12_party_18 (by decide) (fun c1 => ?_) (fun c1 => ?_)
  · have hF := op_t hF c1
    refine lv_iload_n hx hb dX12_party_40 rfl (lv_at hl 1 rfl) ?_
    refine lv_iconst (v := (1 : Int32)) hx hb dX12_party_41 (by decide) ?_
    refine lv_isub hx hb dX12_party_42 ?_
    refine lv_istore_n (lv' := [(2, .int (x1 - (1 : Int32))), (0, .ref o0), (1, .int x1)]) hx hb dX12_party_43 rfl hl (by decide) rfl (fun ls hl => ?_)
    exact l_X12_party_44 C hF _ _ _ hP hD hS (lv_sub hl [1, 2, 0] rfl)
  · have hF := op_f hF c1
    refine lv_aload_n hx hb dX12_party_21 rfl (lv_at hl 0 rfl) ?_
    refine k_get (v := .ref (a0 31)) C fg_X12_71 hP 0 rfl rfl dX12_party_22 ?_
    refine lv_sipush (v := (128 : Int32)) hx hb dX12_party_25 (by decide) ?_
    refine lv_iload_n hx hb dX12_party_28 rfl (lv_at hl 1 rfl) ?_
    refine lv_imul hx hb dX12_party_29 ?_
    refine lv_iload_n hx hb dX12_party_30 rfl (lv_at hl 2 rfl) ?_
    refine lv_iadd hx hb dX12_party_31 ?_
    refine lv_iconst (v := (0 : Int32)) hx hb dX12_party_32 (by decide) ?_
    obtain ⟨h2, hF⟩ := op_ck hF
    obtain ⟨U3, e4, hF⟩ := nw_s hF
    refine k_ist (f := S0.2.2.1 30) (W8 := fl [g12 q o0 a0 U3]) C hP hD hS 12 rfl h2 dX12_party_33 (by rw [e4]; rfl) (fun H locs hP hD hS => ?_)
    refine lv_iinc (v := (x2 + 1)) (lv' := [(2, .int (x2 + 1)), (0, .ref o0), (1, .int x1)]) hx hb dX12_party_34 hl (k := 2) rfl rfl (by decide) rfl (fun ls hl => ?_)
    refine lv_goto (tgt := 14) hx hb dX12_party_37 (by decide) ?_
    exact hk14 x1 (x2 + 1) U3 hF _ _ _ hP hD hS (lv_sub hl [1, 2, 0] rfl)
set_option maxRecDepth 100000 in
set_option maxHeartbeats 4000000 in
theorem l_X12_party_14 {p : Program} {l : Launch} {e : Env} {s : State} {m : MethodId} {args : Array Value} {below : List Frame} {meth : Method} {c : Code} {D : va_G} {q : Nat → ClassId} {A : Nat → Prop} {o0 : Nat} {a0 : Nat → Nat} {r : Int32} {T0 : St} (C : cx p s m args meth c cX12_party 7 (some .int) RX12 D q A) {x1 : Int32} {x2 : Int32} {S0 : St} (hF : L_X12_party_14 x1 x2 S0 = some (r, T0)) : ∀ (H : Heap) (locs : List Loc) (ls : Array Slot), va_P D vwCl (fl [g12 q o0 a0 S0]) H → va_D A (fl [g12 q o0 a0 S0]) → va_S A s.heap H locs → lv_has ls 7 [(0, .ref o0), (1, .int x1), (2, .int x2)] → W p l e rm_X12_party s m args below meth c H locs 0 0 (MQ below (QI D A r (fl [g12 q o0 a0 T0])) args s 0 0 A) (F0 m 14 ls []) :=
  lp_G _ _ (fun z => ∀ (H : Heap) (locs : List Loc) (ls : Array Slot), va_P D vwCl (fl [g12 q o0 a0 z.2.2]) H → va_D A (fl [g12 q o0 a0 z.2.2]) → va_S A s.heap H locs → lv_has ls 7 [(0, .ref o0), (1, .int z.1), (2, .int z.2.1)] → W p l e rm_X12_party s m args below meth c H locs 0 0 (MQ below (QI D A r (fl [g12 q o0 a0 T0])) args s 0 0 A) (F0 m 14 ls [])) (fun kz hkz z hz H locs ls hP hD hS hl => b_X12_party_14 C (fun x1 x2 S0 hz => hkz (x1, x2, S0) hz) hz hP hD hS hl) FU (x1, x2, S0) hF
set_option maxRecDepth 100000 in
set_option maxHeartbeats 4000000 in
theorem c_X12_party (l : Launch) (D : va_G) (q : Nat → ClassId) (o0 : Nat) (a0 : Nat → Nat) (S0 : St) (sz : Nat) {r : Int32} {T0 : St} (hF : F_X12_party S0 = some (r, T0)) : Met l yX12_party (Cond.code yX12_party cX12_party 7 (some .int) :: TB) rm_X12_party (PC D q [.ref o0] (fl [g12 q o0 a0 S0]) sz) ((fun A => QI D A r (fl [g12 q o0 a0 T0])) (va_A (fl [g12 q o0 a0 S0]) sz)) 0 0 (va_A (fl [g12 q o0 a0 S0]) sz) := by
  refine k_met (w0 := fl [g12 q o0 a0 S0]) (Q := fun A => QI D A r (fl [g12 q o0 a0 T0])) (by decide +kernel) (Nat.le_of_ble_eq_true rfl) ?_
  intro p e s m args below meth c A ls C hP hD hS hl
  have hl : lv_has ls 7 [(0, .ref o0)] := hl
  unfold F_X12_party at hF
  have C : cx p s m args meth c cX12_party 7 (some .int) RX12 D q A := C
  obtain ⟨hx, hb, hr, hml, hown, hts, hlk, hA, hK, hN, hV⟩ := id C
  refine lv_aload_n hx hb dX12_party_0 rfl (lv_at hl 0 rfl) ?_
  refine lv_iconst (v := (0 : Int32)) hx hb dX12_party_1 (by decide) ?_
  obtain ⟨U1, e2, hF⟩ := nw_s hF
  refine k_put (W8 := fl [g12 q o0 a0 U1]) C fp_X12_1 hP hD hS 0 rfl rfl rfl (Nat.le_of_ble_eq_true rfl) dX12_party_2 (by rw [e2]; rfl) (fun H locs hP hD hS => ?_)
  refine lv_aload_n hx hb dX12_party_5 rfl (lv_at hl 0 rfl) ?_
  refine k_get (v := .ref (a0 7)) C fg_X12_33 hP 0 rfl rfl dX12_party_6 ?_
  refine lv_iconst (v := (1 : Int32)) hx hb dX12_party_9 (by decide) ?_
  obtain ⟨h3, hF⟩ := op_ck hF
  refine k_ild (f := U1.2.2.1 6) C hP 2 rfl h3 dX12_party_10 ?_
  obtain ⟨v4, e5, hF⟩ := nw_s hF
  refine k_rni e5 ?_
  refine lv_istore_n (lv' := [(1, .int v4), (0, .ref o0)]) hx hb dX12_party_11 rfl hl (by decide) rfl (fun ls hl => ?_)
  refine lv_iconst (v := (0 : Int32)) hx hb dX12_party_12 (by decide) ?_
  refine lv_istore_n (lv' := [(2, .int (0 : Int32)), (1, .int v4), (0, .ref o0)]) hx hb dX12_party_13 rfl hl (by decide) rfl (fun ls hl => ?_)
  exact l_X12_party_14 C hF _ _ _ hP hD hS (lv_sub hl [2, 1, 0] rfl)

abbrev rm_X12_partyOf : Room := ({ frames := 1, cells := 0, slots := 0, locals := 22 } : Room)
def F_X12_partyOf (S0 : St) (x1 : Int32) : Option (Int32 × St) := nw (sI S0 0 (0 : Int32)) fun U1 => ob1 (F_X12_isIn x1 (0 : Int32) ((U1.1 32) - (1 : Int32))) fun r4 => if r4 = 0 then (some ((-1 : Int32), U1)) else (if oob x1 6 then none else some ((U1.2.2.1 31 x1.toNatClampNeg), U1))
set_option maxRecDepth 100000 in
set_option maxHeartbeats 4000000 in
theorem c_X12_partyOf (l : Launch) (D : va_G) (q : Nat → ClassId) (o0 : Nat) (a0 : Nat → Nat) (S0 : St) (sz : Nat) (x1 : Int32) {r : Int32} {T0 : St} (hF : F_X12_partyOf S0 x1 = some (r, T0)) : Met l yX12_partyOf (Cond.code yX12_partyOf cX12_partyOf 2 (some .int) :: TB) rm_X12_partyOf (PC D q [.ref o0, .int x1] (fl [g12 q o0 a0 S0]) sz) ((fun A => QI D A r (fl [g12 q o0 a0 T0])) (va_A (fl [g12 q o0 a0 S0]) sz)) 0 0 (va_A (fl [g12 q o0 a0 S0]) sz) := by
  refine k_met (w0 := fl [g12 q o0 a0 S0]) (Q := fun A => QI D A r (fl [g12 q o0 a0 T0])) (by decide +kernel) (Nat.le_of_ble_eq_true rfl) ?_
  intro p e s m args below meth c A ls C hP hD hS hl
  have hl : lv_has ls 2 [(0, .ref o0), (1, .int x1)] := hl
  unfold F_X12_partyOf at hF
  have C : cx p s m args meth c cX12_partyOf 2 (some .int) RX12 D q A := C
  obtain ⟨hx, hb, hr, hml, hown, hts, hlk, hA, hK, hN, hV⟩ := id C
  refine lv_aload_n hx hb dX12_partyOf_0 rfl (lv_at hl 0 rfl) ?_
  refine lv_iconst (v := (0 : Int32)) hx hb dX12_partyOf_1 (by decide) ?_
  obtain ⟨U1, e2, hF⟩ := nw_s hF
  refine k_put (W8 := fl [g12 q o0 a0 U1]) C fp_X12_1 hP hD hS 0 rfl rfl rfl (Nat.le_of_ble_eq_true rfl) dX12_partyOf_2 (by rw [e2]; rfl) (fun H locs hP hD hS => ?_)
  refine lv_iload_n hx hb dX12_partyOf_5 rfl (lv_at hl 1 rfl) ?_
  refine lv_iconst (v := (0 : Int32)) hx hb dX12_partyOf_6 (by decide) ?_
  refine lv_aload_n hx hb dX12_partyOf_7 rfl (lv_at hl 0 rfl) ?_
  refine k_get (v := .int (U1.1 32)) C fg_X12_77 hP 0 rfl rfl dX12_partyOf_8 ?_
  refine lv_iconst (v := (1 : Int32)) hx hb dX12_partyOf_11 (by decide) ?_
  refine lv_isub hx hb dX12_partyOf_12 ?_
  obtain ⟨r4, hc3, hF⟩ := ob1_s hF
  refine k_inil C (k_rS (As := [.int x1, .int (0 : Int32), .int ((U1.1 32) - (1 : Int32))]) (rest := []) C (c_X12_isIn l D q _ x1 (0 : Int32) ((U1.1 32) - (1 : Int32)) hc3) kc_X12_isIn ml_X12_225 rfl rfl (by decide) (fun k x h => by simp at h) (⟨fun i j x y h => by simp at h, fun k x h => by simp at h⟩ : va_D A []) hS rfl hl.1 rfl (Nat.le_of_ble_eq_true rfl) dX12_partyOf_13 (by decide)) hP hD hS (fun H locs hP hD hS => ?_)
  refine lv_if_eq (tgt := 28) hx hb dX12_partyOf_16 (by decide) (fun c5 => ?_) (fun c5 => ?_)
  · have hF := op_t hF c5
    refine lv_iconst (v := (-1 : Int32)) hx hb dX12_partyOf_28 (by decide) ?_
    cases hF
    exact k_iret C hP hS dX12_partyOf_29
  · have hF := op_f hF c5
    refine lv_aload_n hx hb dX12_partyOf_19 rfl (lv_at hl 0 rfl) ?_
    refine k_get (v := .ref (a0 32)) C fg_X12_74 hP 0 rfl rfl dX12_partyOf_20 ?_
    refine lv_iload_n hx hb dX12_partyOf_23 rfl (lv_at hl 1 rfl) ?_
    obtain ⟨h6, hF⟩ := op_ck hF
    refine k_ild (f := U1.2.2.1 31) C hP 13 rfl h6 dX12_partyOf_24 ?_
    refine lv_goto (tgt := 29) hx hb dX12_partyOf_25 (by decide) ?_
    cases hF
    exact k_iret C hP hS dX12_partyOf_29

abbrev rm_X12_agrees : Room := ({ frames := 1, cells := 0, slots := 0, locals := 21 } : Room)
def F_X12_agrees_117 (k9 : Int32 × Int32 × Int32 × St → Option (Int32 × St)) (x1 : Int32) (x2 : Int32) (x3 : Int32) (S0 : St) : Option (Int32 × St) := k9 (x1, x2, (x3 + 1), S0)
def F_X12_agrees_113 (k9 : Int32 × Int32 × Int32 × St → Option (Int32 × St)) (x1 : Int32) (x2 : Int32) (x3 : Int32) (s1 : Int32) (s2 : Int32) (s3 : Int32) (S0 : St) : Option (Int32 × St) := ob1 (F_X12_having s2 s3) fun r2 => if oob s1 6 then none else nw (sA S0 33 s1 r2) fun U4 => F_X12_agrees_117 k9 x1 x2 x3 U4
def F_X12_agrees_79 (k9 : Int32 × Int32 × Int32 × St → Option (Int32 × St)) (k20 : Int32 × Int32 × Int32 × Int32 × Int32 × St → Option (Int32 × St)) (x1 : Int32) (x2 : Int32) (x3 : Int32) (x4 : Int32) (x5 : Int32) (S0 : St) : Option (Int32 × St) := k20 (x1, x2, x3, x4, (x5 + 1), S0)
def F_X12_agrees_20 (k9 : Int32 × Int32 × Int32 × St → Option (Int32 × St)) (k20 : Int32 × Int32 × Int32 × Int32 × Int32 × St → Option (Int32 × St)) (x1 : Int32) (x2 : Int32) (x3 : Int32) (x4 : Int32) (x5 : Int32) (S0 : St) : Option (Int32 × St) := if oob (1 : Int32) 258 then none else if (S0.2.2.1 6 (1 : Int32).toNatClampNeg) ≤ x5 then (if x4 = 0 then (F_X12_agrees_117 k9 x1 x2 x3 S0) else (if oob x1 6 then none else if x4 ≤ 0 then (F_X12_agrees_113 k9 x1 x2 x3 x1 (S0.2.2.1 33 x1.toNatClampNeg) (x3 + (4 : Int32)) S0) else (F_X12_agrees_113 k9 x1 x2 x3 x1 (S0.2.2.1 33 x1.toNatClampNeg) x3 S0))) else (if x5 = x1 then (F_X12_agrees_79 k9 k20 x1 x2 x3 x4 x5 S0) else (ob1 (F_X12_isUp S0 x5) fun r8 => if r8 = 0 then (if oob x5 6 then none else if oob x5 6 then none else nw (x4 + ((((S0.2.2.1 33 x5.toNatClampNeg) >>> (x3 &&& 31)) &&& (1 : Int32)) - (((S0.2.2.1 33 x5.toNatClampNeg) >>> ((x3 + (4 : Int32)) &&& 31)) &&& (1 : Int32)))) fun v12 => F_X12_agrees_79 k9 k20 x1 x2 x3 v12 x5 S0) else (F_X12_agrees_79 k9 k20 x1 x2 x3 x4 x5 S0)))
def L_X12_agrees_20 (k9 : Int32 × Int32 × Int32 × St → Option (Int32 × St)) (x1 : Int32) (x2 : Int32) (x3 : Int32) (x4 : Int32) (x5 : Int32) (S0 : St) : Option (Int32 × St) := lp (fun kz z => F_X12_agrees_20 k9 kz z.1 z.2.1 z.2.2.1 z.2.2.2.1 z.2.2.2.2.1 z.2.2.2.2.2) FU (x1, x2, x3, x4, x5, S0)
def F_X12_agrees_9 (k9 : Int32 × Int32 × Int32 × St → Option (Int32 × St)) (x1 : Int32) (x2 : Int32) (x3 : Int32) (S0 : St) : Option (Int32 × St) := if (4 : Int32) ≤ x3 then (if oob x1 6 then none else if (S0.2.2.1 33 x1.toNatClampNeg) = x2 then (some ((1 : Int32), S0)) else (some ((0 : Int32), S0))) else (L_X12_agrees_20 k9 x1 x2 x3 (0 : Int32) (0 : Int32) S0)
def L_X12_agrees_9 (x1 : Int32) (x2 : Int32) (x3 : Int32) (S0 : St) : Option (Int32 × St) := lp (fun kz z => F_X12_agrees_9 kz z.1 z.2.1 z.2.2.1 z.2.2.2) FU (x1, x2, x3, S0)
def F_X12_agrees (S0 : St) (x1 : Int32) : Option (Int32 × St) := if oob x1 6 then none else L_X12_agrees_9 x1 (S0.2.2.1 33 x1.toNatClampNeg) (0 : Int32) S0
set_option maxRecDepth 100000 in
set_option maxHeartbeats 4000000 in
theorem b_X12_agrees_117 {p : Program} {l : Launch} {e : Env} {s : State} {m : MethodId} {args : Array Value} {below : List Frame} {meth : Method} {c : Code} {D : va_G} {q : Nat → ClassId} {A : Nat → Prop} {o0 : Nat} {a0 : Nat → Nat} {r : Int32} {T0 : St} (C : cx p s m args meth c cX12_agrees 6 (some .boolean) RX12 D q A) {k9 : Int32 × Int32 × Int32 × St → Option (Int32 × St)} (hk9 : ∀ (x1 : Int32) (x2 : Int32) (x3 : Int32) (S0 : St), k9 (x1, x2, x3, S0) = some (r, T0) → ∀ (H : Heap) (locs : List Loc) (ls : Array Slot), va_P D vwCl (fl [g12 q o0 a0 S0]) H → va_D A (fl [g12 q o0 a0 S0]) → va_S A s.heap H locs → lv_has ls 6 [(0, .ref o0), (1, .int x1), (2, .int x2), (3, .int x3)] → W p l e rm_X12_agrees s m args below meth c H locs 0 0 (MQ below (QI D A r (fl [g12 q o0 a0 T0])) args s 0 0 A) (F0 m 9 ls [])) {x1 : Int32} {x2 : Int32} {x3 : Int32} {S0 : St} (hF : F_X12_agrees_117 k9 x1 x2 x3 S0 = some (r, T0)) {H : Heap} {locs : List Loc} (hP : va_P D vwCl (fl [g12 q o0 a0 S0]) H) (hD : va_D A (fl [g12 q o0 a0 S0])) (hS : va_S A s.heap H locs) {ls : Array Slot} (hl : lv_has ls 6 [(0, .ref o0), (1, .int x1), (2, .int x2), (3, .int x3)]) : W p l e rm_X12_agrees s m args below meth c H locs 0 0 (MQ below (QI D A r (fl [g12 q o0 a0 T0])) args s 0 0 A) (F0 m 117 ls []) := by
  unfold F_X12_agrees_117 at hF
  obtain ⟨hx, hb, hr, hml, hown, hts, hlk, hA, hK, hN, hV⟩ := id C
  refine lv_iinc (v := (x3 + 1)) (lv' := [(3, .int (x3 + 1)), (0, .ref o0), (1, .int x1), (2, .int x2)]) hx hb dX12_agrees_117 hl (k := 3) rfl rfl (by decide) rfl (fun ls hl => ?_)
  refine lv_goto (tgt := 9) hx hb dX12_agrees_120 (by decide) ?_
  exact hk9 x1 x2 (x3 + 1) S0 hF _ _ _ hP hD hS (lv_sub hl [1, 2, 3, 0] rfl)
set_option maxRecDepth 100000 in
set_option maxHeartbeats 4000000 in
theorem b_X12_agrees_113 {p : Program} {l : Launch} {e : Env} {s : State} {m : MethodId} {args : Array Value} {below : List Frame} {meth : Method} {c : Code} {D : va_G} {q : Nat → ClassId} {A : Nat → Prop} {o0 : Nat} {a0 : Nat → Nat} {r : Int32} {T0 : St} (C : cx p s m args meth c cX12_agrees 6 (some .boolean) RX12 D q A) {k9 : Int32 × Int32 × Int32 × St → Option (Int32 × St)} (hk9 : ∀ (x1 : Int32) (x2 : Int32) (x3 : Int32) (S0 : St), k9 (x1, x2, x3, S0) = some (r, T0) → ∀ (H : Heap) (locs : List Loc) (ls : Array Slot), va_P D vwCl (fl [g12 q o0 a0 S0]) H → va_D A (fl [g12 q o0 a0 S0]) → va_S A s.heap H locs → lv_has ls 6 [(0, .ref o0), (1, .int x1), (2, .int x2), (3, .int x3)] → W p l e rm_X12_agrees s m args below meth c H locs 0 0 (MQ below (QI D A r (fl [g12 q o0 a0 T0])) args s 0 0 A) (F0 m 9 ls [])) {x1 : Int32} {x2 : Int32} {x3 : Int32} {s1 : Int32} {s2 : Int32} {s3 : Int32} {S0 : St} (hF : F_X12_agrees_113 k9 x1 x2 x3 s1 s2 s3 S0 = some (r, T0)) {H : Heap} {locs : List Loc} (hP : va_P D vwCl (fl [g12 q o0 a0 S0]) H) (hD : va_D A (fl [g12 q o0 a0 S0])) (hS : va_S A s.heap H locs) {ls : Array Slot} (hl : lv_has ls 6 [(0, .ref o0), (1, .int x1), (2, .int x2), (3, .int x3)]) : W p l e rm_X12_agrees s m args below meth c H locs 0 0 (MQ below (QI D A r (fl [g12 q o0 a0 T0])) args s 0 0 A) (F0 m 113 ls [.int s3, .int s2, .int s1, .ref (a0 34)]) := by
  unfold F_X12_agrees_113 at hF
  obtain ⟨hx, hb, hr, hml, hown, hts, hlk, hA, hK, hN, hV⟩ := id C
  obtain ⟨r2, hc1, hF⟩ := ob1_s hF
  refine k_inil C (k_rS (As := [.int s2, .int s3]) (rest := [.int s1, .ref (a0 34)]) C (c_X12_having l D q _ s2 s3 hc1) kc_X12_having ml_X12_300 rfl rfl (by decide) (fun k x h => by simp at h) (⟨fun i j x y h => by simp at h, fun k x h => by simp at h⟩ : va_D A []) hS rfl hl.1 rfl (Nat.le_of_ble_eq_true rfl) dX12_agrees_113 (by decide)) hP hD hS (fun H locs hP hD hS => ?_)
  obtain ⟨h3, hF⟩ := op_ck hF
  obtain ⟨U4, e5, hF⟩ := nw_s hF
  refine k_ist (f := S0.2.2.1 33) (W8 := fl [g12 q o0 a0 U4]) C hP hD hS 14 rfl h3 dX12_agrees_116 (by rw [e5]; rfl) (fun H locs hP hD hS => ?_)
  exact b_X12_agrees_117 C hk9 hF hP hD hS (lv_sub hl [0, 1, 2, 3] rfl)
set_option maxRecDepth 100000 in
set_option maxHeartbeats 4000000 in
theorem b_X12_agrees_79 {p : Program} {l : Launch} {e : Env} {s : State} {m : MethodId} {args : Array Value} {below : List Frame} {meth : Method} {c : Code} {D : va_G} {q : Nat → ClassId} {A : Nat → Prop} {o0 : Nat} {a0 : Nat → Nat} {r : Int32} {T0 : St} (C : cx p s m args meth c cX12_agrees 6 (some .boolean) RX12 D q A) {k9 : Int32 × Int32 × Int32 × St → Option (Int32 × St)} (hk9 : ∀ (x1 : Int32) (x2 : Int32) (x3 : Int32) (S0 : St), k9 (x1, x2, x3, S0) = some (r, T0) → ∀ (H : Heap) (locs : List Loc) (ls : Array Slot), va_P D vwCl (fl [g12 q o0 a0 S0]) H → va_D A (fl [g12 q o0 a0 S0]) → va_S A s.heap H locs → lv_has ls 6 [(0, .ref o0), (1, .int x1), (2, .int x2), (3, .int x3)] → W p l e rm_X12_agrees s m args below meth c H locs 0 0 (MQ below (QI D A r (fl [g12 q o0 a0 T0])) args s 0 0 A) (F0 m 9 ls [])) {k20 : Int32 × Int32 × Int32 × Int32 × Int32 × St → Option (Int32 × St)} (hk20 : ∀ (x1 : Int32) (x2 : Int32) (x3 : Int32) (x4 : Int32) (x5 : Int32) (S0 : St), k20 (x1, x2, x3, x4, x5, S0) = some (r, T0) → ∀ (H : Heap) (locs : List Loc) (ls : Array Slot), va_P D vwCl (fl [g12 q o0 a0 S0]) H → va_D A (fl [g12 q o0 a0 S0]) → va_S A s.heap H locs → lv_has ls 6 [(0, .ref o0), (1, .int x1), (2, .int x2), (3, .int x3), (4, .int x4), (5, .int x5)] → W p l e rm_X12_agrees s m args below meth c H locs 0 0 (MQ below (QI D A r (fl [g12 q o0 a0 T0])) args s 0 0 A) (F0 m 20 ls [])) {x1 : Int32} {x2 : Int32} {x3 : Int32} {x4 : Int32} {x5 : Int32} {S0 : St} (hF : F_X12_agrees_79 k9 k20 x1 x2 x3 x4 x5 S0 = some (r, T0)) {H : Heap} {locs : List Loc} (hP : va_P D vwCl (fl [g12 q o0 a0 S0]) H) (hD : va_D A (fl [g12 q o0 a0 S0])) (hS : va_S A s.heap H locs) {ls : Array Slot} (hl : lv_has ls 6 [(0, .ref o0), (1, .int x1), (2, .int x2), (3, .int x3), (4, .int x4), (5, .int x5)]) : W p l e rm_X12_agrees s m args below meth c H locs 0 0 (MQ below (QI D A r (fl [g12 q o0 a0 T0])) args s 0 0 A) (F0 m 79 ls []) := by
  unfold F_X12_agrees_79 at hF
  obtain ⟨hx, hb, hr, hml, hown, hts, hlk, hA, hK, hN, hV⟩ := id C
  refine lv_iinc (v := (x5 + 1)) (lv' := [(5, .int (x5 + 1)), (0, .ref o0), (1, .int x1), (2, .int x2), (3, .int x3), (4, .int x4)]) hx hb dX12_agrees_79 hl (k := 5) rfl rfl (by decide) rfl (fun ls hl => ?_)
  refine lv_goto (tgt := 20) hx hb dX12_agrees_82 (by decide) ?_
  exact hk20 x1 x2 x3 x4 (x5 + 1) S0 hF _ _ _ hP hD hS (lv_sub hl [1, 2, 3, 4, 5, 0] rfl)
set_option maxRecDepth 100000 in
set_option maxHeartbeats 4000000 in
theorem b_X12_agrees_20 {p : Program} {l : Launch} {e : Env} {s : State} {m : MethodId} {args : Array Value} {below : List Frame} {meth : Method} {c : Code} {D : va_G} {q : Nat → ClassId} {A : Nat → Prop} {o0 : Nat} {a0 : Nat → Nat} {r : Int32} {T0 : St} (C : cx p s m args meth c cX12_agrees 6 (some .boolean) RX12 D q A) {k9 : Int32 × Int32 × Int32 × St → Option (Int32 × St)} (hk9 : ∀ (x1 : Int32) (x2 : Int32) (x3 : Int32) (S0 : St), k9 (x1, x2, x3, S0) = some (r, T0) → ∀ (H : Heap) (locs : List Loc) (ls : Array Slot), va_P D vwCl (fl [g12 q o0 a0 S0]) H → va_D A (fl [g12 q o0 a0 S0]) → va_S A s.heap H locs → lv_has ls 6 [(0, .ref o0), (1, .int x1), (2, .int x2), (3, .int x3)] → W p l e rm_X12_agrees s m args below meth c H locs 0 0 (MQ below (QI D A r (fl [g12 q o0 a0 T0])) args s 0 0 A) (F0 m 9 ls [])) {k20 : Int32 × Int32 × Int32 × Int32 × Int32 × St → Option (Int32 × St)} (hk20 : ∀ (x1 : Int32) (x2 : Int32) (x3 : Int32) (x4 : Int32) (x5 : Int32) (S0 : St), k20 (x1, x2, x3, x4, x5, S0) = some (r, T0) → ∀ (H : Heap) (locs : List Loc) (ls : Array Slot), va_P D vwCl (fl [g12 q o0 a0 S0]) H → va_D A (fl [g12 q o0 a0 S0]) → va_S A s.heap H locs → lv_has ls 6 [(0, .ref o0), (1, .int x1), (2, .int x2), (3, .int x3), (4, .int x4), (5, .int x5)] → W p l e rm_X12_agrees s m args below meth c H locs 0 0 (MQ below (QI D A r (fl [g12 q o0 a0 T0])) args s 0 0 A) (F0 m 20 ls [])) {x1 : Int32} {x2 : Int32} {x3 : Int32} {x4 : Int32} {x5 : Int32} {S0 : St} (hF : F_X12_agrees_20 k9 k20 x1 x2 x3 x4 x5 S0 = some (r, T0)) {H : Heap} {locs : List Loc} (hP : va_P D vwCl (fl [g12 q o0 a0 S0]) H) (hD : va_D A (fl [g12 q o0 a0 S0])) (hS : va_S A s.heap H locs) {ls : Array Slot} (hl : lv_has ls 6 [(0, .ref o0), (1, .int x1), (2, .int x2), (3, .int x3), (4, .int x4), (5, .int x5)]) : W p l e rm_X12_agrees s m args below meth c H locs 0 0 (MQ below (QI D A r (fl [g12 q o0 a0 T0])) args s 0 0 A) (F0 m 20 ls []) := by
  unfold F_X12_agrees_20 at hF
  obtain ⟨hx, hb, hr, hml, hown, hts, hlk, hA, hK, hN, hV⟩ := id C
  refine lv_iload hx hb dX12_agrees_20 (lv_at hl 5 rfl) ?_
  refine lv_aload_n hx hb dX12_agrees_22 rfl (lv_at hl 0 rfl) ?_
  refine k_get (v := .ref (a0 7)) C fg_X12_33 hP 0 rfl rfl dX12_agrees_23 ?_
  refine lv_iconst (v := (1 : Int32)) hx hb dX12_agrees_26 (by decide) ?_
  obtain ⟨h1, hF⟩ := op_ck hF
  refine k_ild (f := S0.2.2.1 6) C hP 2 rfl h1 dX12_agrees_27 ?_
  refine lv_icmp_ge (tgt := 85) hx hb dX12_agrees_28 (by decide) (fun c2 => ?_) (fun c2 => ?_)
  · have hF := op_t hF c2
    refine lv_iload hx hb dX12_agrees_85 (lv_at hl 4 rfl) ?_
    refine lv_if_eq (tgt := 117) hx hb dX12_agrees_87 (by decide) (fun c3 => ?_) (fun c3 => ?_)
    · have hF := op_t hF c3
      exact b_X12_agrees_117 C hk9 hF hP hD hS (lv_sub hl [0, 1, 2, 3] rfl)
    · have hF := op_f hF c3
      refine lv_aload_n hx hb dX12_agrees_90 rfl (lv_at hl 0 rfl) ?_
      refine k_get (v := .ref (a0 34)) C fg_X12_80 hP 0 rfl rfl dX12_agrees_91 ?_
      refine lv_iload_n hx hb dX12_agrees_94 rfl (lv_at hl 1 rfl) ?_
      refine lv_aload_n hx hb dX12_agrees_95 rfl (lv_at hl 0 rfl) ?_
      refine k_get (v := .ref (a0 34)) C fg_X12_80 hP 0 rfl rfl dX12_agrees_96 ?_
      refine lv_iload_n hx hb dX12_agrees_99 rfl (lv_at hl 1 rfl) ?_
      obtain ⟨h4, hF⟩ := op_ck hF
      refine k_ild (f := S0.2.2.1 33) C hP 14 rfl h4 dX12_agrees_100 ?_
      refine lv_iload hx hb dX12_agrees_101 (lv_at hl 4 rfl) ?_
      refine lv_if_le (tgt := 110) hx hb dX12_agrees_103 (by decide) (fun c5 => ?_) (fun c5 => ?_)
      · have hF := op_t hF c5
        refine lv_iload_n hx hb dX12_agrees_110 rfl (lv_at hl 3 rfl) ?_
        refine lv_iconst (v := (4 : Int32)) hx hb dX12_agrees_111 (by decide) ?_
        refine lv_iadd hx hb dX12_agrees_112 ?_
        exact b_X12_agrees_113 C hk9 hF hP hD hS (lv_sub hl [0, 1, 2, 3] rfl)
      · have hF := op_f hF c5
        refine lv_iload_n hx hb dX12_agrees_106 rfl (lv_at hl 3 rfl) ?_
        refine lv_goto (tgt := 113) hx hb dX12_agrees_107 (by decide) ?_
        exact b_X12_agrees_113 C hk9 hF hP hD hS (lv_sub hl [0, 1, 2, 3] rfl)
  · have hF := op_f hF c2
    refine lv_iload hx hb dX12_agrees_31 (lv_at hl 5 rfl) ?_
    refine lv_iload_n hx hb dX12_agrees_33 rfl (lv_at hl 1 rfl) ?_
    refine lv_icmp_eq (tgt := 79) hx hb dX12_agrees_34 (by decide) (fun c6 => ?_) (fun c6 => ?_)
    · have hF := op_t hF c6
      exact b_X12_agrees_79 C hk9 hk20 hF hP hD hS (lv_sub hl [0, 1, 2, 3, 4, 5] rfl)
    · have hF := op_f hF c6
      refine lv_aload_n hx hb dX12_agrees_37 rfl (lv_at hl 0 rfl) ?_
      refine lv_iload hx hb dX12_agrees_38 (lv_at hl 5 rfl) ?_
      obtain ⟨r8, hc7, hF⟩ := ob1_s hF
      refine k_isame C (k_rV (As := [.int x5]) (rest := []) C (c_X12_isUp l D q o0 a0 S0 _ x5 hc7) kc_X12_isUp ml_X12_337 rfl rfl (by decide) hP hD hS (va_recv hK hP (ci := 12) (q0 := 0) rfl rfl) rfl hl.1 rfl (Nat.le_of_ble_eq_true rfl) dX12_agrees_40 (by decide)) hP hD hS (fun H locs hP hD hS => ?_)
      refine lv_if_eq (tgt := 49) hx hb dX12_agrees_43 (by decide) (fun c9 => ?_) (fun c9 => ?_)
      · have hF := op_t hF c9
        refine lv_iload hx hb dX12_agrees_49 (lv_at hl 4 rfl) ?_
        refine lv_aload_n hx hb dX12_agrees_51 rfl (lv_at hl 0 rfl) ?_
        refine k_get (v := .ref (a0 34)) C fg_X12_80 hP 0 rfl rfl dX12_agrees_52 ?_
        refine lv_iload hx hb dX12_agrees_55 (lv_at hl 5 rfl) ?_
        obtain ⟨h10, hF⟩ := op_ck hF
        refine k_ild (f := S0.2.2.1 33) C hP 14 rfl h10 dX12_agrees_57 ?_
        refine lv_iload_n hx hb dX12_agrees_58 rfl (lv_at hl 3 rfl) ?_
        refine lv_ishr hx hb dX12_agrees_59 ?_
        refine lv_iconst (v := (1 : Int32)) hx hb dX12_agrees_60 (by decide) ?_
        refine lv_iand hx hb dX12_agrees_61 ?_
        refine lv_aload_n hx hb dX12_agrees_62 rfl (lv_at hl 0 rfl) ?_
        refine k_get (v := .ref (a0 34)) C fg_X12_80 hP 0 rfl rfl dX12_agrees_63 ?_
        refine lv_iload hx hb dX12_agrees_66 (lv_at hl 5 rfl) ?_
        obtain ⟨h11, hF⟩ := op_ck hF
        refine k_ild (f := S0.2.2.1 33) C hP 14 rfl h11 dX12_agrees_68 ?_
        refine lv_iload_n hx hb dX12_agrees_69 rfl (lv_at hl 3 rfl) ?_
        refine lv_iconst (v := (4 : Int32)) hx hb dX12_agrees_70 (by decide) ?_
        refine lv_iadd hx hb dX12_agrees_71 ?_
        refine lv_ishr hx hb dX12_agrees_72 ?_
        refine lv_iconst (v := (1 : Int32)) hx hb dX12_agrees_73 (by decide) ?_
        refine lv_iand hx hb dX12_agrees_74 ?_
        refine lv_isub hx hb dX12_agrees_75 ?_
        refine lv_iadd hx hb dX12_agrees_76 ?_
        obtain ⟨v12, e13, hF⟩ := nw_s hF
        refine k_rni e13 ?_
        refine lv_istore (lv' := [(4, .int v12), (0, .ref o0), (1, .int x1), (2, .int x2), (3, .int x3), (5, .int x5)]) hx hb dX12_agrees_77 hl (by decide) rfl (fun ls hl => ?_)
        exact b_X12_agrees_79 C hk9 hk20 hF hP hD hS (lv_sub hl [1, 2, 3, 4, 0, 5] rfl)
      · have hF := op_f hF c9
        refine lv_goto (tgt := 79) hx hb dX12_agrees_46 (by decide) ?_
        exact b_X12_agrees_79 C hk9 hk20 hF hP hD hS (lv_sub hl [0, 1, 2, 3, 4, 5] rfl)
set_option maxRecDepth 100000 in
set_option maxHeartbeats 4000000 in
theorem l_X12_agrees_20 {p : Program} {l : Launch} {e : Env} {s : State} {m : MethodId} {args : Array Value} {below : List Frame} {meth : Method} {c : Code} {D : va_G} {q : Nat → ClassId} {A : Nat → Prop} {o0 : Nat} {a0 : Nat → Nat} {r : Int32} {T0 : St} (C : cx p s m args meth c cX12_agrees 6 (some .boolean) RX12 D q A) {k9 : Int32 × Int32 × Int32 × St → Option (Int32 × St)} (hk9 : ∀ (x1 : Int32) (x2 : Int32) (x3 : Int32) (S0 : St), k9 (x1, x2, x3, S0) = some (r, T0) → ∀ (H : Heap) (locs : List Loc) (ls : Array Slot), va_P D vwCl (fl [g12 q o0 a0 S0]) H → va_D A (fl [g12 q o0 a0 S0]) → va_S A s.heap H locs → lv_has ls 6 [(0, .ref o0), (1, .int x1), (2, .int x2), (3, .int x3)] → W p l e rm_X12_agrees s m args below meth c H locs 0 0 (MQ below (QI D A r (fl [g12 q o0 a0 T0])) args s 0 0 A) (F0 m 9 ls [])) {x1 : Int32} {x2 : Int32} {x3 : Int32} {x4 : Int32} {x5 : Int32} {S0 : St} (hF : L_X12_agrees_20 k9 x1 x2 x3 x4 x5 S0 = some (r, T0)) : ∀ (H : Heap) (locs : List Loc) (ls : Array Slot), va_P D vwCl (fl [g12 q o0 a0 S0]) H → va_D A (fl [g12 q o0 a0 S0]) → va_S A s.heap H locs → lv_has ls 6 [(0, .ref o0), (1, .int x1), (2, .int x2), (3, .int x3), (4, .int x4), (5, .int x5)] → W p l e rm_X12_agrees s m args below meth c H locs 0 0 (MQ below (QI D A r (fl [g12 q o0 a0 T0])) args s 0 0 A) (F0 m 20 ls []) :=
  lp_G _ _ (fun z => ∀ (H : Heap) (locs : List Loc) (ls : Array Slot), va_P D vwCl (fl [g12 q o0 a0 z.2.2.2.2.2]) H → va_D A (fl [g12 q o0 a0 z.2.2.2.2.2]) → va_S A s.heap H locs → lv_has ls 6 [(0, .ref o0), (1, .int z.1), (2, .int z.2.1), (3, .int z.2.2.1), (4, .int z.2.2.2.1), (5, .int z.2.2.2.2.1)] → W p l e rm_X12_agrees s m args below meth c H locs 0 0 (MQ below (QI D A r (fl [g12 q o0 a0 T0])) args s 0 0 A) (F0 m 20 ls [])) (fun kz hkz z hz H locs ls hP hD hS hl => b_X12_agrees_20 C hk9 (fun x1 x2 x3 x4 x5 S0 hz => hkz (x1, x2, x3, x4, x5, S0) hz) hz hP hD hS hl) FU (x1, x2, x3, x4, x5, S0) hF
set_option maxRecDepth 100000 in
set_option maxHeartbeats 4000000 in
theorem b_X12_agrees_9 {p : Program} {l : Launch} {e : Env} {s : State} {m : MethodId} {args : Array Value} {below : List Frame} {meth : Method} {c : Code} {D : va_G} {q : Nat → ClassId} {A : Nat → Prop} {o0 : Nat} {a0 : Nat → Nat} {r : Int32} {T0 : St} (C : cx p s m args meth c cX12_agrees 6 (some .boolean) RX12 D q A) {k9 : Int32 × Int32 × Int32 × St → Option (Int32 × St)} (hk9 : ∀ (x1 : Int32) (x2 : Int32) (x3 : Int32) (S0 : St), k9 (x1, x2, x3, S0) = some (r, T0) → ∀ (H : Heap) (locs : List Loc) (ls : Array Slot), va_P D vwCl (fl [g12 q o0 a0 S0]) H → va_D A (fl [g12 q o0 a0 S0]) → va_S A s.heap H locs → lv_has ls 6 [(0, .ref o0), (1, .int x1), (2, .int x2), (3, .int x3)] → W p l e rm_X12_agrees s m args below meth c H locs 0 0 (MQ below (QI D A r (fl [g12 q o0 a0 T0])) args s 0 0 A) (F0 m 9 ls [])) {x1 : Int32} {x2 : Int32} {x3 : Int32} {S0 : St} (hF : F_X12_agrees_9 k9 x1 x2 x3 S0 = some (r, T0)) {H : Heap} {locs : List Loc} (hP : va_P D vwCl (fl [g12 q o0 a0 S0]) H) (hD : va_D A (fl [g12 q o0 a0 S0])) (hS : va_S A s.heap H locs) {ls : Array Slot} (hl : lv_has ls 6 [(0, .ref o0), (1, .int x1), (2, .int x2), (3, .int x3)]) : W p l e rm_X12_agrees s m args below meth c H locs 0 0 (MQ below (QI D A r (fl [g12 q o0 a0 T0])) args s 0 0 A) (F0 m 9 ls []) := by
  unfold F_X12_agrees_9 at hF
  obtain ⟨hx, hb, hr, hml, hown, hts, hlk, hA, hK, hN, hV⟩ := id C
  refine lv_iload_n hx hb dX12_agrees_9 rfl (lv_at hl 3 rfl) ?_
  refine lv_iconst (v := (4 : Int32)) hx hb dX12_agrees_10 (by decide) ?_
  refine lv_icmp_ge (tgt := 123) hx hb dX12_agrees_11 (by decide) (fun c1 => ?_) (fun c1 => ?_)
  · have hF := op_t hF c1
    refine lv_aload_n hx hb dX12_agrees_123 rfl (lv_at hl 0 rfl) ?_
    refine k_get (v := .ref (a0 34)) C fg_X12_80 hP 0 rfl rfl dX12_agrees_124 ?_
    refine lv_iload_n hx hb dX12_agrees_127 rfl (lv_at hl 1 rfl) ?_
    obtain ⟨h2, hF⟩ := op_ck hF
    refine k_ild (f := S0.2.2.1 33) C hP 14 rfl h2 dX12_agrees_128 ?_
    refine lv_iload_n hx hb dX12_agrees_129 rfl (lv_at hl 2 rfl) ?_
    refine lv_icmp_ne (tgt := 137) hx hb dX12_agrees_130 (by decide) (fun c3 => ?_) (fun c3 => ?_)
    · have hF := op_f hF c3
      refine lv_iconst (v := (0 : Int32)) hx hb dX12_agrees_137 (by decide) ?_
      cases hF
      exact k_zret C (by decide) hP hS dX12_agrees_138
    · have hF := op_t hF c3
      refine lv_iconst (v := (1 : Int32)) hx hb dX12_agrees_133 (by decide) ?_
      refine lv_goto (tgt := 138) hx hb dX12_agrees_134 (by decide) ?_
      cases hF
      exact k_zret C (by decide) hP hS dX12_agrees_138
  · have hF := op_f hF c1
    refine lv_iconst (v := (0 : Int32)) hx hb dX12_agrees_14 (by decide) ?_
    refine lv_istore (lv' := [(4, .int (0 : Int32)), (0, .ref o0), (1, .int x1), (2, .int x2), (3, .int x3)]) hx hb dX12_agrees_15 hl (by decide) rfl (fun ls hl => ?_)
    refine lv_iconst (v := (0 : Int32)) hx hb dX12_agrees_17 (by decide) ?_
    refine lv_istore (lv' := [(5, .int (0 : Int32)), (4, .int (0 : Int32)), (0, .ref o0), (1, .int x1), (2, .int x2), (3, .int x3)]) hx hb dX12_agrees_18 hl (by decide) rfl (fun ls hl => ?_)
    exact l_X12_agrees_20 C hk9 hF _ _ _ hP hD hS (lv_sub hl [2, 3, 4, 5, 1, 0] rfl)
set_option maxRecDepth 100000 in
set_option maxHeartbeats 4000000 in
theorem l_X12_agrees_9 {p : Program} {l : Launch} {e : Env} {s : State} {m : MethodId} {args : Array Value} {below : List Frame} {meth : Method} {c : Code} {D : va_G} {q : Nat → ClassId} {A : Nat → Prop} {o0 : Nat} {a0 : Nat → Nat} {r : Int32} {T0 : St} (C : cx p s m args meth c cX12_agrees 6 (some .boolean) RX12 D q A) {x1 : Int32} {x2 : Int32} {x3 : Int32} {S0 : St} (hF : L_X12_agrees_9 x1 x2 x3 S0 = some (r, T0)) : ∀ (H : Heap) (locs : List Loc) (ls : Array Slot), va_P D vwCl (fl [g12 q o0 a0 S0]) H → va_D A (fl [g12 q o0 a0 S0]) → va_S A s.heap H locs → lv_has ls 6 [(0, .ref o0), (1, .int x1), (2, .int x2), (3, .int x3)] → W p l e rm_X12_agrees s m args below meth c H locs 0 0 (MQ below (QI D A r (fl [g12 q o0 a0 T0])) args s 0 0 A) (F0 m 9 ls []) :=
  lp_G _ _ (fun z => ∀ (H : Heap) (locs : List Loc) (ls : Array Slot), va_P D vwCl (fl [g12 q o0 a0 z.2.2.2]) H → va_D A (fl [g12 q o0 a0 z.2.2.2]) → va_S A s.heap H locs → lv_has ls 6 [(0, .ref o0), (1, .int z.1), (2, .int z.2.1), (3, .int z.2.2.1)] → W p l e rm_X12_agrees s m args below meth c H locs 0 0 (MQ below (QI D A r (fl [g12 q o0 a0 T0])) args s 0 0 A) (F0 m 9 ls [])) (fun kz hkz z hz H locs ls hP hD hS hl => b_X12_agrees_9 C (fun x1 x2 x3 S0 hz => hkz (x1, x2, x3, S0) hz) hz hP hD hS hl) FU (x1, x2, x3, S0) hF
set_option maxRecDepth 100000 in
set_option maxHeartbeats 4000000 in
theorem c_X12_agrees (l : Launch) (D : va_G) (q : Nat → ClassId) (o0 : Nat) (a0 : Nat → Nat) (S0 : St) (sz : Nat) (x1 : Int32) {r : Int32} {T0 : St} (hF : F_X12_agrees S0 x1 = some (r, T0)) : Met l yX12_agrees (Cond.code yX12_agrees cX12_agrees 6 (some .boolean) :: TB) rm_X12_agrees (PC D q [.ref o0, .int x1] (fl [g12 q o0 a0 S0]) sz) ((fun A => QI D A r (fl [g12 q o0 a0 T0])) (va_A (fl [g12 q o0 a0 S0]) sz)) 0 0 (va_A (fl [g12 q o0 a0 S0]) sz) := by
  refine k_met (w0 := fl [g12 q o0 a0 S0]) (Q := fun A => QI D A r (fl [g12 q o0 a0 T0])) (by decide +kernel) (Nat.le_of_ble_eq_true rfl) ?_
  intro p e s m args below meth c A ls C hP hD hS hl
  have hl : lv_has ls 6 [(0, .ref o0), (1, .int x1)] := hl
  unfold F_X12_agrees at hF
  have C : cx p s m args meth c cX12_agrees 6 (some .boolean) RX12 D q A := C
  obtain ⟨hx, hb, hr, hml, hown, hts, hlk, hA, hK, hN, hV⟩ := id C
  refine lv_aload_n hx hb dX12_agrees_0 rfl (lv_at hl 0 rfl) ?_
  refine k_get (v := .ref (a0 34)) C fg_X12_80 hP 0 rfl rfl dX12_agrees_1 ?_
  refine lv_iload_n hx hb dX12_agrees_4 rfl (lv_at hl 1 rfl) ?_
  obtain ⟨h1, hF⟩ := op_ck hF
  refine k_ild (f := S0.2.2.1 33) C hP 14 rfl h1 dX12_agrees_5 ?_
  refine lv_istore_n (lv' := [(2, .int (S0.2.2.1 33 x1.toNatClampNeg)), (0, .ref o0), (1, .int x1)]) hx hb dX12_agrees_6 rfl hl (by decide) rfl (fun ls hl => ?_)
  refine lv_iconst (v := (0 : Int32)) hx hb dX12_agrees_7 (by decide) ?_
  refine lv_istore_n (lv' := [(3, .int (0 : Int32)), (2, .int (S0.2.2.1 33 x1.toNatClampNeg)), (0, .ref o0), (1, .int x1)]) hx hb dX12_agrees_8 rfl hl (by decide) rfl (fun ls hl => ?_)
  exact l_X12_agrees_9 C hF _ _ _ hP hD hS (lv_sub hl [2, 3, 1, 0] rfl)

abbrev rm_X12_tea : Room := ({ frames := 2, cells := 0, slots := 0, locals := 46 } : Room)
def F_X12_tea_105 (k48 : Int32 × Int32 × St → Option (Int32 × St)) (k62 : Int32 × Int32 × Int32 × St → Option (Int32 × St)) (x1 : Int32) (x2 : Int32) (x3 : Int32) (S0 : St) : Option (Int32 × St) := k62 (x1, x2, (x3 + 1), S0)
def F_X12_tea_104 (k48 : Int32 × Int32 × St → Option (Int32 × St)) (k62 : Int32 × Int32 × Int32 × St → Option (Int32 × St)) (x2 : Int32) (x3 : Int32) (s0 : Int32) (S0 : St) : Option (Int32 × St) := F_X12_tea_105 k48 k62 s0 x2 x3 S0
def F_X12_tea_99 (k48 : Int32 × Int32 × St → Option (Int32 × St)) (k62 : Int32 × Int32 × Int32 × St → Option (Int32 × St)) (x2 : Int32) (x3 : Int32) (S0 : St) : Option (Int32 × St) := F_X12_tea_104 k48 k62 x2 x3 (1 : Int32) S0
def F_X12_tea_62 (k48 : Int32 × Int32 × St → Option (Int32 × St)) (k62 : Int32 × Int32 × Int32 × St → Option (Int32 × St)) (x1 : Int32) (x2 : Int32) (x3 : Int32) (S0 : St) : Option (Int32 × St) := if oob (1 : Int32) 258 then none else if (S0.2.2.1 6 (1 : Int32).toNatClampNeg) ≤ x3 then (k48 (x1, (x2 + 1), S0)) else (ob1 (F_X12_isUp S0 x3) fun r4 => if r4 = 0 then (ob2 (F_X12_agrees S0 x3) fun r7 U8 => if x1 = 0 then (if r7 = 0 then (F_X12_tea_99 k48 k62 x2 x3 U8) else (F_X12_tea_104 k48 k62 x2 x3 (0 : Int32) U8)) else (F_X12_tea_99 k48 k62 x2 x3 U8)) else (F_X12_tea_105 k48 k62 x1 x2 x3 S0))
def L_X12_tea_62 (k48 : Int32 × Int32 × St → Option (Int32 × St)) (x1 : Int32) (x2 : Int32) (x3 : Int32) (S0 : St) : Option (Int32 × St) := lp (fun kz z => F_X12_tea_62 k48 kz z.1 z.2.1 z.2.2.1 z.2.2.2) FU (x1, x2, x3, S0)
def F_X12_tea_48 (k48 : Int32 × Int32 × St → Option (Int32 × St)) (x1 : Int32) (x2 : Int32) (S0 : St) : Option (Int32 × St) := if x1 = 0 then (some (x2, S0)) else (if (10 : Int32) ≤ x2 then (some (x2, S0)) else (L_X12_tea_62 k48 (0 : Int32) x2 (0 : Int32) S0))
def L_X12_tea_48 (x1 : Int32) (x2 : Int32) (S0 : St) : Option (Int32 × St) := lp (fun kz z => F_X12_tea_48 kz z.1 z.2.1 z.2.2) FU (x1, x2, S0)
def F_X12_tea_17 (k17 : Int32 × St → Option (Int32 × St)) (x1 : Int32) (S0 : St) : Option (Int32 × St) := if (6 : Int32) ≤ x1 then (L_X12_tea_48 (1 : Int32) (0 : Int32) S0) else (if oob ((59 : Int32) + x1) 258 then none else if oob x1 6 then none else nw (sA S0 33 x1 (S0.2.2.1 6 ((59 : Int32) + x1).toNatClampNeg)) fun U4 => k17 ((x1 + 1), U4))
def L_X12_tea_17 (x1 : Int32) (S0 : St) : Option (Int32 × St) := lp (fun kz z => F_X12_tea_17 kz z.1 z.2) FU (x1, S0)
def F_X12_tea (S0 : St) : Option (Int32 × St) := nw (sI S0 0 (0 : Int32)) fun U1 => if oob (1 : Int32) 258 then none else nw (sI U1 34 (U1.2.2.1 6 (1 : Int32).toNatClampNeg)) fun U4 => L_X12_tea_17 (0 : Int32) U4
set_option maxRecDepth 100000 in
set_option maxHeartbeats 4000000 in
theorem b_X12_tea_105 {p : Program} {l : Launch} {e : Env} {s : State} {m : MethodId} {args : Array Value} {below : List Frame} {meth : Method} {c : Code} {D : va_G} {q : Nat → ClassId} {A : Nat → Prop} {o0 : Nat} {a0 : Nat → Nat} {r : Int32} {T0 : St} (C : cx p s m args meth c cX12_tea 5 (some .int) RX12 D q A) {k48 : Int32 × Int32 × St → Option (Int32 × St)} (hk48 : ∀ (x1 : Int32) (x2 : Int32) (S0 : St), k48 (x1, x2, S0) = some (r, T0) → ∀ (H : Heap) (locs : List Loc) (ls : Array Slot), va_P D vwCl (fl [g12 q o0 a0 S0]) H → va_D A (fl [g12 q o0 a0 S0]) → va_S A s.heap H locs → lv_has ls 5 [(0, .ref o0), (1, .int x1), (2, .int x2)] → W p l e rm_X12_tea s m args below meth c H locs 0 0 (MQ below (QI D A r (fl [g12 q o0 a0 T0])) args s 0 0 A) (F0 m 48 ls [])) {k62 : Int32 × Int32 × Int32 × St → Option (Int32 × St)} (hk62 : ∀ (x1 : Int32) (x2 : Int32) (x3 : Int32) (S0 : St), k62 (x1, x2, x3, S0) = some (r, T0) → ∀ (H : Heap) (locs : List Loc) (ls : Array Slot), va_P D vwCl (fl [g12 q o0 a0 S0]) H → va_D A (fl [g12 q o0 a0 S0]) → va_S A s.heap H locs → lv_has ls 5 [(0, .ref o0), (1, .int x1), (2, .int x2), (3, .int x3)] → W p l e rm_X12_tea s m args below meth c H locs 0 0 (MQ below (QI D A r (fl [g12 q o0 a0 T0])) args s 0 0 A) (F0 m 62 ls [])) {x1 : Int32} {x2 : Int32} {x3 : Int32} {S0 : St} (hF : F_X12_tea_105 k48 k62 x1 x2 x3 S0 = some (r, T0)) {H : Heap} {locs : List Loc} (hP : va_P D vwCl (fl [g12 q o0 a0 S0]) H) (hD : va_D A (fl [g12 q o0 a0 S0])) (hS : va_S A s.heap H locs) {ls : Array Slot} (hl : lv_has ls 5 [(0, .ref o0), (1, .int x1), (2, .int x2), (3, .int x3)]) : W p l e rm_X12_tea s m args below meth c H locs 0 0 (MQ below (QI D A r (fl [g12 q o0 a0 T0])) args s 0 0 A) (F0 m 105 ls []) := by
  unfold F_X12_tea_105 at hF
  obtain ⟨hx, hb, hr, hml, hown, hts, hlk, hA, hK, hN, hV⟩ := id C
  refine lv_iinc (v := (x3 + 1)) (lv' := [(3, .int (x3 + 1)), (0, .ref o0), (1, .int x1), (2, .int x2)]) hx hb dX12_tea_105 hl (k := 3) rfl rfl (by decide) rfl (fun ls hl => ?_)
  refine lv_goto (tgt := 62) hx hb dX12_tea_108 (by decide) ?_
  exact hk62 x1 x2 (x3 + 1) S0 hF _ _ _ hP hD hS (lv_sub hl [1, 2, 3, 0] rfl)
set_option maxRecDepth 100000 in
set_option maxHeartbeats 4000000 in
theorem b_X12_tea_104 {p : Program} {l : Launch} {e : Env} {s : State} {m : MethodId} {args : Array Value} {below : List Frame} {meth : Method} {c : Code} {D : va_G} {q : Nat → ClassId} {A : Nat → Prop} {o0 : Nat} {a0 : Nat → Nat} {r : Int32} {T0 : St} (C : cx p s m args meth c cX12_tea 5 (some .int) RX12 D q A) {k48 : Int32 × Int32 × St → Option (Int32 × St)} (hk48 : ∀ (x1 : Int32) (x2 : Int32) (S0 : St), k48 (x1, x2, S0) = some (r, T0) → ∀ (H : Heap) (locs : List Loc) (ls : Array Slot), va_P D vwCl (fl [g12 q o0 a0 S0]) H → va_D A (fl [g12 q o0 a0 S0]) → va_S A s.heap H locs → lv_has ls 5 [(0, .ref o0), (1, .int x1), (2, .int x2)] → W p l e rm_X12_tea s m args below meth c H locs 0 0 (MQ below (QI D A r (fl [g12 q o0 a0 T0])) args s 0 0 A) (F0 m 48 ls [])) {k62 : Int32 × Int32 × Int32 × St → Option (Int32 × St)} (hk62 : ∀ (x1 : Int32) (x2 : Int32) (x3 : Int32) (S0 : St), k62 (x1, x2, x3, S0) = some (r, T0) → ∀ (H : Heap) (locs : List Loc) (ls : Array Slot), va_P D vwCl (fl [g12 q o0 a0 S0]) H → va_D A (fl [g12 q o0 a0 S0]) → va_S A s.heap H locs → lv_has ls 5 [(0, .ref o0), (1, .int x1), (2, .int x2), (3, .int x3)] → W p l e rm_X12_tea s m args below meth c H locs 0 0 (MQ below (QI D A r (fl [g12 q o0 a0 T0])) args s 0 0 A) (F0 m 62 ls [])) {x2 : Int32} {x3 : Int32} {s0 : Int32} {S0 : St} (hF : F_X12_tea_104 k48 k62 x2 x3 s0 S0 = some (r, T0)) {H : Heap} {locs : List Loc} (hP : va_P D vwCl (fl [g12 q o0 a0 S0]) H) (hD : va_D A (fl [g12 q o0 a0 S0])) (hS : va_S A s.heap H locs) {ls : Array Slot} (hl : lv_has ls 5 [(0, .ref o0), (2, .int x2), (3, .int x3)]) : W p l e rm_X12_tea s m args below meth c H locs 0 0 (MQ below (QI D A r (fl [g12 q o0 a0 T0])) args s 0 0 A) (F0 m 104 ls [.int s0]) := by
  unfold F_X12_tea_104 at hF
  obtain ⟨hx, hb, hr, hml, hown, hts, hlk, hA, hK, hN, hV⟩ := id C
  refine lv_istore_n (lv' := [(1, .int s0), (0, .ref o0), (2, .int x2), (3, .int x3)]) hx hb dX12_tea_104 rfl hl (by decide) rfl (fun ls hl => ?_)
  exact b_X12_tea_105 C hk48 hk62 hF hP hD hS (lv_sub hl [1, 0, 2, 3] rfl)
set_option maxRecDepth 100000 in
set_option maxHeartbeats 4000000 in
theorem b_X12_tea_99 {p : Program} {l : Launch} {e : Env} {s : State} {m : MethodId} {args : Array Value} {below : List Frame} {meth : Method} {c : Code} {D : va_G} {q : Nat → ClassId} {A : Nat → Prop} {o0 : Nat} {a0 : Nat → Nat} {r : Int32} {T0 : St} (C : cx p s m args meth c cX12_tea 5 (some .int) RX12 D q A) {k48 : Int32 × Int32 × St → Option (Int32 × St)} (hk48 : ∀ (x1 : Int32) (x2 : Int32) (S0 : St), k48 (x1, x2, S0) = some (r, T0) → ∀ (H : Heap) (locs : List Loc) (ls : Array Slot), va_P D vwCl (fl [g12 q o0 a0 S0]) H → va_D A (fl [g12 q o0 a0 S0]) → va_S A s.heap H locs → lv_has ls 5 [(0, .ref o0), (1, .int x1), (2, .int x2)] → W p l e rm_X12_tea s m args below meth c H locs 0 0 (MQ below (QI D A r (fl [g12 q o0 a0 T0])) args s 0 0 A) (F0 m 48 ls [])) {k62 : Int32 × Int32 × Int32 × St → Option (Int32 × St)} (hk62 : ∀ (x1 : Int32) (x2 : Int32) (x3 : Int32) (S0 : St), k62 (x1, x2, x3, S0) = some (r, T0) → ∀ (H : Heap) (locs : List Loc) (ls : Array Slot), va_P D vwCl (fl [g12 q o0 a0 S0]) H → va_D A (fl [g12 q o0 a0 S0]) → va_S A s.heap H locs → lv_has ls 5 [(0, .ref o0), (1, .int x1), (2, .int x2), (3, .int x3)] → W p l e rm_X12_tea s m args below meth c H locs 0 0 (MQ below (QI D A r (fl [g12 q o0 a0 T0])) args s 0 0 A) (F0 m 62 ls [])) {x2 : Int32} {x3 : Int32} {S0 : St} (hF : F_X12_tea_99 k48 k62 x2 x3 S0 = some (r, T0)) {H : Heap} {locs : List Loc} (hP : va_P D vwCl (fl [g12 q o0 a0 S0]) H) (hD : va_D A (fl [g12 q o0 a0 S0])) (hS : va_S A s.heap H locs) {ls : Array Slot} (hl : lv_has ls 5 [(0, .ref o0), (2, .int x2), (3, .int x3)]) : W p l e rm_X12_tea s m args below meth c H locs 0 0 (MQ below (QI D A r (fl [g12 q o0 a0 T0])) args s 0 0 A) (F0 m 99 ls []) := by
  unfold F_X12_tea_99 at hF
  obtain ⟨hx, hb, hr, hml, hown, hts, hlk, hA, hK, hN, hV⟩ := id C
  refine lv_iconst (v := (1 : Int32)) hx hb dX12_tea_99 (by decide) ?_
  refine lv_goto (tgt := 104) hx hb dX12_tea_100 (by decide) ?_
  exact b_X12_tea_104 C hk48 hk62 hF hP hD hS (lv_sub hl [0, 1, 2] rfl)
set_option maxRecDepth 100000 in
set_option maxHeartbeats 4000000 in
theorem b_X12_tea_62 {p : Program} {l : Launch} {e : Env} {s : State} {m : MethodId} {args : Array Value} {below : List Frame} {meth : Method} {c : Code} {D : va_G} {q : Nat → ClassId} {A : Nat → Prop} {o0 : Nat} {a0 : Nat → Nat} {r : Int32} {T0 : St} (C : cx p s m args meth c cX12_tea 5 (some .int) RX12 D q A) {k48 : Int32 × Int32 × St → Option (Int32 × St)} (hk48 : ∀ (x1 : Int32) (x2 : Int32) (S0 : St), k48 (x1, x2, S0) = some (r, T0) → ∀ (H : Heap) (locs : List Loc) (ls : Array Slot), va_P D vwCl (fl [g12 q o0 a0 S0]) H → va_D A (fl [g12 q o0 a0 S0]) → va_S A s.heap H locs → lv_has ls 5 [(0, .ref o0), (1, .int x1), (2, .int x2)] → W p l e rm_X12_tea s m args below meth c H locs 0 0 (MQ below (QI D A r (fl [g12 q o0 a0 T0])) args s 0 0 A) (F0 m 48 ls [])) {k62 : Int32 × Int32 × Int32 × St → Option (Int32 × St)} (hk62 : ∀ (x1 : Int32) (x2 : Int32) (x3 : Int32) (S0 : St), k62 (x1, x2, x3, S0) = some (r, T0) → ∀ (H : Heap) (locs : List Loc) (ls : Array Slot), va_P D vwCl (fl [g12 q o0 a0 S0]) H → va_D A (fl [g12 q o0 a0 S0]) → va_S A s.heap H locs → lv_has ls 5 [(0, .ref o0), (1, .int x1), (2, .int x2), (3, .int x3)] → W p l e rm_X12_tea s m args below meth c H locs 0 0 (MQ below (QI D A r (fl [g12 q o0 a0 T0])) args s 0 0 A) (F0 m 62 ls [])) {x1 : Int32} {x2 : Int32} {x3 : Int32} {S0 : St} (hF : F_X12_tea_62 k48 k62 x1 x2 x3 S0 = some (r, T0)) {H : Heap} {locs : List Loc} (hP : va_P D vwCl (fl [g12 q o0 a0 S0]) H) (hD : va_D A (fl [g12 q o0 a0 S0])) (hS : va_S A s.heap H locs) {ls : Array Slot} (hl : lv_has ls 5 [(0, .ref o0), (1, .int x1), (2, .int x2), (3, .int x3)]) : W p l e rm_X12_tea s m args below meth c H locs 0 0 (MQ below (QI D A r (fl [g12 q o0 a0 T0])) args s 0 0 A) (F0 m 62 ls []) := by
  unfold F_X12_tea_62 at hF
  obtain ⟨hx, hb, hr, hml, hown, hts, hlk, hA, hK, hN, hV⟩ := id C
  refine lv_iload_n hx hb dX12_tea_62 rfl (lv_at hl 3 rfl) ?_
  refine lv_aload_n hx hb dX12_tea_63 rfl (lv_at hl 0 rfl) ?_
  refine k_get (v := .ref (a0 7)) C fg_X12_33 hP 0 rfl rfl dX12_tea_64 ?_
  refine lv_iconst (v := (1 : Int32)) hx hb dX12_tea_67 (by decide) ?_
  obtain ⟨h1, hF⟩ := op_ck hF
  refine k_ild (f := S0.2.2.1 6) C hP 2 rfl h1 dX12_tea_68 ?_
  refine lv_icmp_ge (tgt := 111) hx hb dX12_tea_69 (by decide) (fun c2 => ?_) (fun c2 => ?_)
  · have hF := op_t hF c2
    refine lv_iinc (v := (x2 + 1)) (lv' := [(2, .int (x2 + 1)), (0, .ref o0), (1, .int x1), (3, .int x3)]) hx hb dX12_tea_111 hl (k := 2) rfl rfl (by decide) rfl (fun ls hl => ?_)
    refine lv_goto (tgt := 48) hx hb dX12_tea_114 (by decide) ?_
    exact hk48 x1 (x2 + 1) S0 hF _ _ _ hP hD hS (lv_sub hl [1, 2, 0] rfl)
  · have hF := op_f hF c2
    refine lv_aload_n hx hb dX12_tea_72 rfl (lv_at hl 0 rfl) ?_
    refine lv_iload_n hx hb dX12_tea_73 rfl (lv_at hl 3 rfl) ?_
    obtain ⟨r4, hc3, hF⟩ := ob1_s hF
    refine k_isame C (k_rV (As := [.int x3]) (rest := []) C (c_X12_isUp l D q o0 a0 S0 _ x3 hc3) kc_X12_isUp ml_X12_337 rfl rfl (by decide) hP hD hS (va_recv hK hP (ci := 12) (q0 := 0) rfl rfl) rfl hl.1 rfl (Nat.le_of_ble_eq_true rfl) dX12_tea_74 (by decide)) hP hD hS (fun H locs hP hD hS => ?_)
    refine lv_if_eq (tgt := 83) hx hb dX12_tea_77 (by decide) (fun c5 => ?_) (fun c5 => ?_)
    · have hF := op_t hF c5
      refine lv_aload_n hx hb dX12_tea_83 rfl (lv_at hl 0 rfl) ?_
      refine lv_iload_n hx hb dX12_tea_84 rfl (lv_at hl 3 rfl) ?_
      obtain ⟨r7, U8, hc6, hF⟩ := ob2_s hF
      refine k_iall C (k_rV (As := [.int x3]) (rest := []) C (c_X12_agrees l D q o0 a0 S0 _ x3 hc6) kc_X12_agrees ml_X12_408 rfl rfl (by decide) hP hD hS (va_recv hK hP (ci := 12) (q0 := 0) rfl rfl) rfl hl.1 rfl (Nat.le_of_ble_eq_true rfl) dX12_tea_85 (by decide)) hP hD hS (by simp only [List.map_cons, List.map_nil, gad12]) (fun H locs hP hD hS => ?_)
      refine lv_istore (lv' := [(4, .int r7), (0, .ref o0), (1, .int x1), (2, .int x2), (3, .int x3)]) hx hb dX12_tea_88 hl (by decide) rfl (fun ls hl => ?_)
      refine lv_iload_n hx hb dX12_tea_90 rfl (lv_at hl 2 rfl) ?_
      refine lv_if_ne (tgt := 99) hx hb dX12_tea_91 (by decide) (fun c9 => ?_) (fun c9 => ?_)
      · have hF := op_f hF c9
        exact b_X12_tea_99 C hk48 hk62 hF hP hD hS (lv_sub hl [1, 3, 4] rfl)
      · have hF := op_t hF c9
        refine lv_iload hx hb dX12_tea_94 (lv_at hl 0 rfl) ?_
        refine lv_if_ne (tgt := 103) hx hb dX12_tea_96 (by decide) (fun c10 => ?_) (fun c10 => ?_)
        · have hF := op_f hF c10
          refine lv_iconst (v := (0 : Int32)) hx hb dX12_tea_103 (by decide) ?_
          exact b_X12_tea_104 C hk48 hk62 hF hP hD hS (lv_sub hl [1, 3, 4] rfl)
        · have hF := op_t hF c10
          exact b_X12_tea_99 C hk48 hk62 hF hP hD hS (lv_sub hl [1, 3, 4] rfl)
    · have hF := op_f hF c5
      refine lv_goto (tgt := 105) hx hb dX12_tea_80 (by decide) ?_
      exact b_X12_tea_105 C hk48 hk62 hF hP hD hS (lv_sub hl [0, 1, 2, 3] rfl)
set_option maxRecDepth 100000 in
set_option maxHeartbeats 4000000 in
theorem l_X12_tea_62 {p : Program} {l : Launch} {e : Env} {s : State} {m : MethodId} {args : Array Value} {below : List Frame} {meth : Method} {c : Code} {D : va_G} {q : Nat → ClassId} {A : Nat → Prop} {o0 : Nat} {a0 : Nat → Nat} {r : Int32} {T0 : St} (C : cx p s m args meth c cX12_tea 5 (some .int) RX12 D q A) {k48 : Int32 × Int32 × St → Option (Int32 × St)} (hk48 : ∀ (x1 : Int32) (x2 : Int32) (S0 : St), k48 (x1, x2, S0) = some (r, T0) → ∀ (H : Heap) (locs : List Loc) (ls : Array Slot), va_P D vwCl (fl [g12 q o0 a0 S0]) H → va_D A (fl [g12 q o0 a0 S0]) → va_S A s.heap H locs → lv_has ls 5 [(0, .ref o0), (1, .int x1), (2, .int x2)] → W p l e rm_X12_tea s m args below meth c H locs 0 0 (MQ below (QI D A r (fl [g12 q o0 a0 T0])) args s 0 0 A) (F0 m 48 ls [])) {x1 : Int32} {x2 : Int32} {x3 : Int32} {S0 : St} (hF : L_X12_tea_62 k48 x1 x2 x3 S0 = some (r, T0)) : ∀ (H : Heap) (locs : List Loc) (ls : Array Slot), va_P D vwCl (fl [g12 q o0 a0 S0]) H → va_D A (fl [g12 q o0 a0 S0]) → va_S A s.heap H locs → lv_has ls 5 [(0, .ref o0), (1, .int x1), (2, .int x2), (3, .int x3)] → W p l e rm_X12_tea s m args below meth c H locs 0 0 (MQ below (QI D A r (fl [g12 q o0 a0 T0])) args s 0 0 A) (F0 m 62 ls []) :=
  lp_G _ _ (fun z => ∀ (H : Heap) (locs : List Loc) (ls : Array Slot), va_P D vwCl (fl [g12 q o0 a0 z.2.2.2]) H → va_D A (fl [g12 q o0 a0 z.2.2.2]) → va_S A s.heap H locs → lv_has ls 5 [(0, .ref o0), (1, .int z.1), (2, .int z.2.1), (3, .int z.2.2.1)] → W p l e rm_X12_tea s m args below meth c H locs 0 0 (MQ below (QI D A r (fl [g12 q o0 a0 T0])) args s 0 0 A) (F0 m 62 ls [])) (fun kz hkz z hz H locs ls hP hD hS hl => b_X12_tea_62 C hk48 (fun x1 x2 x3 S0 hz => hkz (x1, x2, x3, S0) hz) hz hP hD hS hl) FU (x1, x2, x3, S0) hF
set_option maxRecDepth 100000 in
set_option maxHeartbeats 4000000 in
theorem b_X12_tea_48 {p : Program} {l : Launch} {e : Env} {s : State} {m : MethodId} {args : Array Value} {below : List Frame} {meth : Method} {c : Code} {D : va_G} {q : Nat → ClassId} {A : Nat → Prop} {o0 : Nat} {a0 : Nat → Nat} {r : Int32} {T0 : St} (C : cx p s m args meth c cX12_tea 5 (some .int) RX12 D q A) {k48 : Int32 × Int32 × St → Option (Int32 × St)} (hk48 : ∀ (x1 : Int32) (x2 : Int32) (S0 : St), k48 (x1, x2, S0) = some (r, T0) → ∀ (H : Heap) (locs : List Loc) (ls : Array Slot), va_P D vwCl (fl [g12 q o0 a0 S0]) H → va_D A (fl [g12 q o0 a0 S0]) → va_S A s.heap H locs → lv_has ls 5 [(0, .ref o0), (1, .int x1), (2, .int x2)] → W p l e rm_X12_tea s m args below meth c H locs 0 0 (MQ below (QI D A r (fl [g12 q o0 a0 T0])) args s 0 0 A) (F0 m 48 ls [])) {x1 : Int32} {x2 : Int32} {S0 : St} (hF : F_X12_tea_48 k48 x1 x2 S0 = some (r, T0)) {H : Heap} {locs : List Loc} (hP : va_P D vwCl (fl [g12 q o0 a0 S0]) H) (hD : va_D A (fl [g12 q o0 a0 S0])) (hS : va_S A s.heap H locs) {ls : Array Slot} (hl : lv_has ls 5 [(0, .ref o0), (1, .int x1), (2, .int x2)]) : W p l e rm_X12_tea s m args below meth c H locs 0 0 (MQ below (QI D A r (fl [g12 q o0 a0 T0])) args s 0 0 A) (F0 m 48 ls []) := by
  unfold F_X12_tea_48 at hF
  obtain ⟨hx, hb, hr, hml, hown, hts, hlk, hA, hK, hN, hV⟩ := id C
  refine lv_iload_n hx hb dX12_tea_48 rfl (lv_at hl 1 rfl) ?_
  refine lv_if_eq (tgt := 117) hx hb dX12_tea_49 (by decide) (fun c1 => ?_) (fun c1 => ?_)
  · have hF := op_t hF c1
    refine lv_iload_n hx hb dX12_tea_117 rfl (lv_at hl 2 rfl) ?_
    cases hF
    exact k_iret C hP hS dX12_tea_118
  · have hF := op_f hF c1
    refine lv_iload_n hx hb dX12_tea_52 rfl (lv_at hl 2 rfl) ?_
    refine lv_bipush (v := (10 : Int32)) hx hb dX12_tea_53 (by decide) ?_
    refine lv_icmp_ge (tgt := 117) hx hb dX12_tea_55 (by decide) (fun c2 => ?_) (fun c2 => ?_)
    · have hF := op_t hF c2
      refine lv_iload_n hx hb dX12_tea_117 rfl (lv_at hl 2 rfl) ?_
      cases hF
      exact k_iret C hP hS dX12_tea_118
    · have hF := op_f hF c2
      refine lv_iconst (v := (0 : Int32)) hx hb dX12_tea_58 (by decide) ?_
      refine lv_istore_n (lv' := [(1, .int (0 : Int32)), (0, .ref o0), (2, .int x2)]) hx hb dX12_tea_59 rfl hl (by decide) rfl (fun ls hl => ?_)
      refine lv_iconst (v := (0 : Int32)) hx hb dX12_tea_60 (by decide) ?_
      refine lv_istore_n (lv' := [(3, .int (0 : Int32)), (1, .int (0 : Int32)), (0, .ref o0), (2, .int x2)]) hx hb dX12_tea_61 rfl hl (by decide) rfl (fun ls hl => ?_)
      exact l_X12_tea_62 C hk48 hF _ _ _ hP hD hS (lv_sub hl [2, 1, 3, 0] rfl)
set_option maxRecDepth 100000 in
set_option maxHeartbeats 4000000 in
theorem l_X12_tea_48 {p : Program} {l : Launch} {e : Env} {s : State} {m : MethodId} {args : Array Value} {below : List Frame} {meth : Method} {c : Code} {D : va_G} {q : Nat → ClassId} {A : Nat → Prop} {o0 : Nat} {a0 : Nat → Nat} {r : Int32} {T0 : St} (C : cx p s m args meth c cX12_tea 5 (some .int) RX12 D q A) {x1 : Int32} {x2 : Int32} {S0 : St} (hF : L_X12_tea_48 x1 x2 S0 = some (r, T0)) : ∀ (H : Heap) (locs : List Loc) (ls : Array Slot), va_P D vwCl (fl [g12 q o0 a0 S0]) H → va_D A (fl [g12 q o0 a0 S0]) → va_S A s.heap H locs → lv_has ls 5 [(0, .ref o0), (1, .int x1), (2, .int x2)] → W p l e rm_X12_tea s m args below meth c H locs 0 0 (MQ below (QI D A r (fl [g12 q o0 a0 T0])) args s 0 0 A) (F0 m 48 ls []) :=
  lp_G _ _ (fun z => ∀ (H : Heap) (locs : List Loc) (ls : Array Slot), va_P D vwCl (fl [g12 q o0 a0 z.2.2]) H → va_D A (fl [g12 q o0 a0 z.2.2]) → va_S A s.heap H locs → lv_has ls 5 [(0, .ref o0), (1, .int z.1), (2, .int z.2.1)] → W p l e rm_X12_tea s m args below meth c H locs 0 0 (MQ below (QI D A r (fl [g12 q o0 a0 T0])) args s 0 0 A) (F0 m 48 ls [])) (fun kz hkz z hz H locs ls hP hD hS hl => b_X12_tea_48 C (fun x1 x2 S0 hz => hkz (x1, x2, S0) hz) hz hP hD hS hl) FU (x1, x2, S0) hF
set_option maxRecDepth 100000 in
set_option maxHeartbeats 4000000 in
theorem b_X12_tea_17 {p : Program} {l : Launch} {e : Env} {s : State} {m : MethodId} {args : Array Value} {below : List Frame} {meth : Method} {c : Code} {D : va_G} {q : Nat → ClassId} {A : Nat → Prop} {o0 : Nat} {a0 : Nat → Nat} {r : Int32} {T0 : St} (C : cx p s m args meth c cX12_tea 5 (some .int) RX12 D q A) {k17 : Int32 × St → Option (Int32 × St)} (hk17 : ∀ (x1 : Int32) (S0 : St), k17 (x1, S0) = some (r, T0) → ∀ (H : Heap) (locs : List Loc) (ls : Array Slot), va_P D vwCl (fl [g12 q o0 a0 S0]) H → va_D A (fl [g12 q o0 a0 S0]) → va_S A s.heap H locs → lv_has ls 5 [(0, .ref o0), (1, .int x1)] → W p l e rm_X12_tea s m args below meth c H locs 0 0 (MQ below (QI D A r (fl [g12 q o0 a0 T0])) args s 0 0 A) (F0 m 17 ls [])) {x1 : Int32} {S0 : St} (hF : F_X12_tea_17 k17 x1 S0 = some (r, T0)) {H : Heap} {locs : List Loc} (hP : va_P D vwCl (fl [g12 q o0 a0 S0]) H) (hD : va_D A (fl [g12 q o0 a0 S0])) (hS : va_S A s.heap H locs) {ls : Array Slot} (hl : lv_has ls 5 [(0, .ref o0), (1, .int x1)]) : W p l e rm_X12_tea s m args below meth c H locs 0 0 (MQ below (QI D A r (fl [g12 q o0 a0 T0])) args s 0 0 A) (F0 m 17 ls []) := by
  unfold F_X12_tea_17 at hF
  obtain ⟨hx, hb, hr, hml, hown, hts, hlk, hA, hK, hN, hV⟩ := id C
  refine lv_iload_n hx hb dX12_tea_17 rfl (lv_at hl 1 rfl) ?_
  refine lv_bipush (v := (6 : Int32)) hx hb dX12_tea_18 (by decide) ?_
  refine lv_icmp_ge (tgt := 44) hx hb dX12_tea_20 (by decide) (fun c1 => ?_) (fun c1 => ?_)
  · have hF := op_t hF c1
    refine lv_iconst (v := (1 : Int32)) hx hb dX12_tea_44 (by decide) ?_
    refine lv_istore_n (lv' := [(1, .int (1 : Int32)), (0, .ref o0)]) hx hb dX12_tea_45 rfl hl (by decide) rfl (fun ls hl => ?_)
    refine lv_iconst (v := (0 : Int32)) hx hb dX12_tea_46 (by decide) ?_
    refine lv_istore_n (lv' := [(2, .int (0 : Int32)), (1, .int (1 : Int32)), (0, .ref o0)]) hx hb dX12_tea_47 rfl hl (by decide) rfl (fun ls hl => ?_)
    exact l_X12_tea_48 C hF _ _ _ hP hD hS (lv_sub hl [2, 1, 0] rfl)
  · have hF := op_f hF c1
    refine lv_aload_n hx hb dX12_tea_23 rfl (lv_at hl 0 rfl) ?_
    refine k_get (v := .ref (a0 34)) C fg_X12_80 hP 0 rfl rfl dX12_tea_24 ?_
    refine lv_iload_n hx hb dX12_tea_27 rfl (lv_at hl 1 rfl) ?_
    refine lv_aload_n hx hb dX12_tea_28 rfl (lv_at hl 0 rfl) ?_
    refine k_get (v := .ref (a0 7)) C fg_X12_33 hP 0 rfl rfl dX12_tea_29 ?_
    refine lv_bipush (v := (59 : Int32)) hx hb dX12_tea_32 (by decide) ?_
    refine lv_iload_n hx hb dX12_tea_34 rfl (lv_at hl 1 rfl) ?_
    refine lv_iadd hx hb dX12_tea_35 ?_
    obtain ⟨h2, hF⟩ := op_ck hF
    refine k_ild (f := S0.2.2.1 6) C hP 2 rfl h2 dX12_tea_36 ?_
    obtain ⟨h3, hF⟩ := op_ck hF
    obtain ⟨U4, e5, hF⟩ := nw_s hF
    refine k_ist (f := S0.2.2.1 33) (W8 := fl [g12 q o0 a0 U4]) C hP hD hS 14 rfl h3 dX12_tea_37 (by rw [e5]; rfl) (fun H locs hP hD hS => ?_)
    refine lv_iinc (v := (x1 + 1)) (lv' := [(1, .int (x1 + 1)), (0, .ref o0)]) hx hb dX12_tea_38 hl (k := 1) rfl rfl (by decide) rfl (fun ls hl => ?_)
    refine lv_goto (tgt := 17) hx hb dX12_tea_41 (by decide) ?_
    exact hk17 (x1 + 1) U4 hF _ _ _ hP hD hS (lv_sub hl [1, 0] rfl)
set_option maxRecDepth 100000 in
set_option maxHeartbeats 4000000 in
theorem l_X12_tea_17 {p : Program} {l : Launch} {e : Env} {s : State} {m : MethodId} {args : Array Value} {below : List Frame} {meth : Method} {c : Code} {D : va_G} {q : Nat → ClassId} {A : Nat → Prop} {o0 : Nat} {a0 : Nat → Nat} {r : Int32} {T0 : St} (C : cx p s m args meth c cX12_tea 5 (some .int) RX12 D q A) {x1 : Int32} {S0 : St} (hF : L_X12_tea_17 x1 S0 = some (r, T0)) : ∀ (H : Heap) (locs : List Loc) (ls : Array Slot), va_P D vwCl (fl [g12 q o0 a0 S0]) H → va_D A (fl [g12 q o0 a0 S0]) → va_S A s.heap H locs → lv_has ls 5 [(0, .ref o0), (1, .int x1)] → W p l e rm_X12_tea s m args below meth c H locs 0 0 (MQ below (QI D A r (fl [g12 q o0 a0 T0])) args s 0 0 A) (F0 m 17 ls []) :=
  lp_G _ _ (fun z => ∀ (H : Heap) (locs : List Loc) (ls : Array Slot), va_P D vwCl (fl [g12 q o0 a0 z.2]) H → va_D A (fl [g12 q o0 a0 z.2]) → va_S A s.heap H locs → lv_has ls 5 [(0, .ref o0), (1, .int z.1)] → W p l e rm_X12_tea s m args below meth c H locs 0 0 (MQ below (QI D A r (fl [g12 q o0 a0 T0])) args s 0 0 A) (F0 m 17 ls [])) (fun kz hkz z hz H locs ls hP hD hS hl => b_X12_tea_17 C (fun x1 S0 hz => hkz (x1, S0) hz) hz hP hD hS hl) FU (x1, S0) hF
set_option maxRecDepth 100000 in
set_option maxHeartbeats 4000000 in
theorem c_X12_tea (l : Launch) (D : va_G) (q : Nat → ClassId) (o0 : Nat) (a0 : Nat → Nat) (S0 : St) (sz : Nat) {r : Int32} {T0 : St} (hF : F_X12_tea S0 = some (r, T0)) : Met l yX12_tea (Cond.code yX12_tea cX12_tea 5 (some .int) :: TB) rm_X12_tea (PC D q [.ref o0] (fl [g12 q o0 a0 S0]) sz) ((fun A => QI D A r (fl [g12 q o0 a0 T0])) (va_A (fl [g12 q o0 a0 S0]) sz)) 0 0 (va_A (fl [g12 q o0 a0 S0]) sz) := by
  refine k_met (w0 := fl [g12 q o0 a0 S0]) (Q := fun A => QI D A r (fl [g12 q o0 a0 T0])) (by decide +kernel) (Nat.le_of_ble_eq_true rfl) ?_
  intro p e s m args below meth c A ls C hP hD hS hl
  have hl : lv_has ls 5 [(0, .ref o0)] := hl
  unfold F_X12_tea at hF
  have C : cx p s m args meth c cX12_tea 5 (some .int) RX12 D q A := C
  obtain ⟨hx, hb, hr, hml, hown, hts, hlk, hA, hK, hN, hV⟩ := id C
  refine lv_aload_n hx hb dX12_tea_0 rfl (lv_at hl 0 rfl) ?_
  refine lv_iconst (v := (0 : Int32)) hx hb dX12_tea_1 (by decide) ?_
  obtain ⟨U1, e2, hF⟩ := nw_s hF
  refine k_put (W8 := fl [g12 q o0 a0 U1]) C fp_X12_1 hP hD hS 0 rfl rfl rfl (Nat.le_of_ble_eq_true rfl) dX12_tea_2 (by rw [e2]; rfl) (fun H locs hP hD hS => ?_)
  refine lv_aload_n hx hb dX12_tea_5 rfl (lv_at hl 0 rfl) ?_
  refine lv_aload_n hx hb dX12_tea_6 rfl (lv_at hl 0 rfl) ?_
  refine k_get (v := .ref (a0 7)) C fg_X12_33 hP 0 rfl rfl dX12_tea_7 ?_
  refine lv_iconst (v := (1 : Int32)) hx hb dX12_tea_10 (by decide) ?_
  obtain ⟨h3, hF⟩ := op_ck hF
  refine k_ild (f := U1.2.2.1 6) C hP 2 rfl h3 dX12_tea_11 ?_
  obtain ⟨U4, e5, hF⟩ := nw_s hF
  refine k_put (W8 := fl [g12 q o0 a0 U4]) C fp_X12_83 hP hD hS 0 rfl rfl rfl (Nat.le_of_ble_eq_true rfl) dX12_tea_12 (by rw [e5]; rfl) (fun H locs hP hD hS => ?_)
  refine lv_iconst (v := (0 : Int32)) hx hb dX12_tea_15 (by decide) ?_
  refine lv_istore_n (lv' := [(1, .int (0 : Int32)), (0, .ref o0)]) hx hb dX12_tea_16 rfl hl (by decide) rfl (fun ls hl => ?_)
  exact l_X12_tea_17 C hF _ _ _ hP hD hS (lv_sub hl [1, 0] rfl)

abbrev rm_X12_teaOf : Room := ({ frames := 1, cells := 0, slots := 0, locals := 22 } : Room)
def F_X12_teaOf (S0 : St) (x1 : Int32) : Option (Int32 × St) := nw (sI S0 0 (0 : Int32)) fun U1 => ob1 (F_X12_isIn x1 (0 : Int32) ((U1.1 34) - (1 : Int32))) fun r4 => if r4 = 0 then (some ((-1 : Int32), U1)) else (if oob x1 6 then none else some ((U1.2.2.1 33 x1.toNatClampNeg), U1))
set_option maxRecDepth 100000 in
set_option maxHeartbeats 4000000 in
theorem c_X12_teaOf (l : Launch) (D : va_G) (q : Nat → ClassId) (o0 : Nat) (a0 : Nat → Nat) (S0 : St) (sz : Nat) (x1 : Int32) {r : Int32} {T0 : St} (hF : F_X12_teaOf S0 x1 = some (r, T0)) : Met l yX12_teaOf (Cond.code yX12_teaOf cX12_teaOf 2 (some .int) :: TB) rm_X12_teaOf (PC D q [.ref o0, .int x1] (fl [g12 q o0 a0 S0]) sz) ((fun A => QI D A r (fl [g12 q o0 a0 T0])) (va_A (fl [g12 q o0 a0 S0]) sz)) 0 0 (va_A (fl [g12 q o0 a0 S0]) sz) := by
  refine k_met (w0 := fl [g12 q o0 a0 S0]) (Q := fun A => QI D A r (fl [g12 q o0 a0 T0])) (by decide +kernel) (Nat.le_of_ble_eq_true rfl) ?_
  intro p e s m args below meth c A ls C hP hD hS hl
  have hl : lv_has ls 2 [(0, .ref o0), (1, .int x1)] := hl
  unfold F_X12_teaOf at hF
  have C : cx p s m args meth c cX12_teaOf 2 (some .int) RX12 D q A := C
  obtain ⟨hx, hb, hr, hml, hown, hts, hlk, hA, hK, hN, hV⟩ := id C
  refine lv_aload_n hx hb dX12_teaOf_0 rfl (lv_at hl 0 rfl) ?_
  refine lv_iconst (v := (0 : Int32)) hx hb dX12_teaOf_1 (by decide) ?_
  obtain ⟨U1, e2, hF⟩ := nw_s hF
  refine k_put (W8 := fl [g12 q o0 a0 U1]) C fp_X12_1 hP hD hS 0 rfl rfl rfl (Nat.le_of_ble_eq_true rfl) dX12_teaOf_2 (by rw [e2]; rfl) (fun H locs hP hD hS => ?_)
  refine lv_iload_n hx hb dX12_teaOf_5 rfl (lv_at hl 1 rfl) ?_
  refine lv_iconst (v := (0 : Int32)) hx hb dX12_teaOf_6 (by decide) ?_
  refine lv_aload_n hx hb dX12_teaOf_7 rfl (lv_at hl 0 rfl) ?_
  refine k_get (v := .int (U1.1 34)) C fg_X12_83 hP 0 rfl rfl dX12_teaOf_8 ?_
  refine lv_iconst (v := (1 : Int32)) hx hb dX12_teaOf_11 (by decide) ?_
  refine lv_isub hx hb dX12_teaOf_12 ?_
  obtain ⟨r4, hc3, hF⟩ := ob1_s hF
  refine k_inil C (k_rS (As := [.int x1, .int (0 : Int32), .int ((U1.1 34) - (1 : Int32))]) (rest := []) C (c_X12_isIn l D q _ x1 (0 : Int32) ((U1.1 34) - (1 : Int32)) hc3) kc_X12_isIn ml_X12_225 rfl rfl (by decide) (fun k x h => by simp at h) (⟨fun i j x y h => by simp at h, fun k x h => by simp at h⟩ : va_D A []) hS rfl hl.1 rfl (Nat.le_of_ble_eq_true rfl) dX12_teaOf_13 (by decide)) hP hD hS (fun H locs hP hD hS => ?_)
  refine lv_if_eq (tgt := 28) hx hb dX12_teaOf_16 (by decide) (fun c5 => ?_) (fun c5 => ?_)
  · have hF := op_t hF c5
    refine lv_iconst (v := (-1 : Int32)) hx hb dX12_teaOf_28 (by decide) ?_
    cases hF
    exact k_iret C hP hS dX12_teaOf_29
  · have hF := op_f hF c5
    refine lv_aload_n hx hb dX12_teaOf_19 rfl (lv_at hl 0 rfl) ?_
    refine k_get (v := .ref (a0 34)) C fg_X12_80 hP 0 rfl rfl dX12_teaOf_20 ?_
    refine lv_iload_n hx hb dX12_teaOf_23 rfl (lv_at hl 1 rfl) ?_
    obtain ⟨h6, hF⟩ := op_ck hF
    refine k_ild (f := U1.2.2.1 33) C hP 14 rfl h6 dX12_teaOf_24 ?_
    refine lv_goto (tgt := 29) hx hb dX12_teaOf_25 (by decide) ?_
    cases hF
    exact k_iret C hP hS dX12_teaOf_29

abbrev rm_X12_when : Room := ({ frames := 2, cells := 0, slots := 0, locals := 43 } : Room)
def F_X12_when_56 (x3 : Int32) (S0 : St) : Option (Int32 × St) := some (x3, S0)
def F_X12_when (S0 : St) (x1 : Int32) (x2 : Int32) : Option (Int32 × St) := nw (sI S0 0 (0 : Int32)) fun U1 => ob1 (F_X12_isTurret U1 x1) fun r4 => if r4 = 0 then (some ((-1 : Int32), U1)) else (ob1 (F_X12_isView U1 x2) fun r7 => if r7 = 0 then (some ((-1 : Int32), U1)) else (if oob ((45 : Int32) + x1) 258 then none else nw ((x2 - (U1.2.2.1 6 ((45 : Int32) + x1).toNatClampNeg)) &&& (7 : Int32)) fun v10 => if v10 = 0 then (F_X12_when_56 v10 U1) else (if oob (23 : Int32) 258 then none else ob1 (F_X12_bitOf (U1.2.2.1 6 (23 : Int32).toNatClampNeg) x1) fun r15 => if r15 = 0 then (some ((-1 : Int32), U1)) else (F_X12_when_56 v10 U1))))
set_option maxRecDepth 100000 in
set_option maxHeartbeats 4000000 in
theorem b_X12_when_56 {p : Program} {l : Launch} {e : Env} {s : State} {m : MethodId} {args : Array Value} {below : List Frame} {meth : Method} {c : Code} {D : va_G} {q : Nat → ClassId} {A : Nat → Prop} {o0 : Nat} {a0 : Nat → Nat} {r : Int32} {T0 : St} (C : cx p s m args meth c cX12_when 4 (some .int) RX12 D q A) {x3 : Int32} {S0 : St} (hF : F_X12_when_56 x3 S0 = some (r, T0)) {H : Heap} {locs : List Loc} (hP : va_P D vwCl (fl [g12 q o0 a0 S0]) H) (hD : va_D A (fl [g12 q o0 a0 S0])) (hS : va_S A s.heap H locs) {ls : Array Slot} (hl : lv_has ls 4 [(3, .int x3)]) : W p l e rm_X12_when s m args below meth c H locs 0 0 (MQ below (QI D A r (fl [g12 q o0 a0 T0])) args s 0 0 A) (F0 m 56 ls []) := by
  unfold F_X12_when_56 at hF
  obtain ⟨hx, hb, hr, hml, hown, hts, hlk, hA, hK, hN, hV⟩ := id C
  refine lv_iload_n hx hb dX12_when_56 rfl (lv_at hl 0 rfl) ?_
  refine lv_goto (tgt := 61) hx hb dX12_when_57 (by decide) ?_
  cases hF
  exact k_iret C hP hS dX12_when_61
set_option maxRecDepth 100000 in
set_option maxHeartbeats 4000000 in
theorem c_X12_when (l : Launch) (D : va_G) (q : Nat → ClassId) (o0 : Nat) (a0 : Nat → Nat) (S0 : St) (sz : Nat) (x1 : Int32) (x2 : Int32) {r : Int32} {T0 : St} (hF : F_X12_when S0 x1 x2 = some (r, T0)) : Met l yX12_when (Cond.code yX12_when cX12_when 4 (some .int) :: TB) rm_X12_when (PC D q [.ref o0, .int x1, .int x2] (fl [g12 q o0 a0 S0]) sz) ((fun A => QI D A r (fl [g12 q o0 a0 T0])) (va_A (fl [g12 q o0 a0 S0]) sz)) 0 0 (va_A (fl [g12 q o0 a0 S0]) sz) := by
  refine k_met (w0 := fl [g12 q o0 a0 S0]) (Q := fun A => QI D A r (fl [g12 q o0 a0 T0])) (by decide +kernel) (Nat.le_of_ble_eq_true rfl) ?_
  intro p e s m args below meth c A ls C hP hD hS hl
  have hl : lv_has ls 4 [(0, .ref o0), (1, .int x1), (2, .int x2)] := hl
  unfold F_X12_when at hF
  have C : cx p s m args meth c cX12_when 4 (some .int) RX12 D q A := C
  obtain ⟨hx, hb, hr, hml, hown, hts, hlk, hA, hK, hN, hV⟩ := id C
  refine lv_aload_n hx hb dX12_when_0 rfl (lv_at hl 0 rfl) ?_
  refine lv_iconst (v := (0 : Int32)) hx hb dX12_when_1 (by decide) ?_
  obtain ⟨U1, e2, hF⟩ := nw_s hF
  refine k_put (W8 := fl [g12 q o0 a0 U1]) C fp_X12_1 hP hD hS 0 rfl rfl rfl (Nat.le_of_ble_eq_true rfl) dX12_when_2 (by rw [e2]; rfl) (fun H locs hP hD hS => ?_)
  refine lv_aload_n hx hb dX12_when_5 rfl (lv_at hl 0 rfl) ?_
  refine lv_iload_n hx hb dX12_when_6 rfl (lv_at hl 1 rfl) ?_
  obtain ⟨r4, hc3, hF⟩ := ob1_s hF
  refine k_isame C (k_rV (As := [.int x1]) (rest := []) C (c_X12_isTurret l D q o0 a0 U1 _ x1 hc3) kc_X12_isTurret ml_X12_331 rfl rfl (by decide) hP hD hS (va_recv hK hP (ci := 12) (q0 := 0) rfl rfl) rfl hl.1 rfl (Nat.le_of_ble_eq_true rfl) dX12_when_7 (by decide)) hP hD hS (fun H locs hP hD hS => ?_)
  refine lv_if_eq (tgt := 21) hx hb dX12_when_10 (by decide) (fun c5 => ?_) (fun c5 => ?_)
  · have hF := op_t hF c5
    refine lv_iconst (v := (-1 : Int32)) hx hb dX12_when_21 (by decide) ?_
    cases hF
    exact k_iret C hP hS dX12_when_22
  · have hF := op_f hF c5
    refine lv_aload_n hx hb dX12_when_13 rfl (lv_at hl 0 rfl) ?_
    refine lv_iload_n hx hb dX12_when_14 rfl (lv_at hl 2 rfl) ?_
    obtain ⟨r7, hc6, hF⟩ := ob1_s hF
    refine k_isame C (k_rV (As := [.int x2]) (rest := []) C (c_X12_isView l D q o0 a0 U1 _ x2 hc6) kc_X12_isView ml_X12_362 rfl rfl (by decide) hP hD hS (va_recv hK hP (ci := 12) (q0 := 0) rfl rfl) rfl hl.1 rfl (Nat.le_of_ble_eq_true rfl) dX12_when_15 (by decide)) hP hD hS (fun H locs hP hD hS => ?_)
    refine lv_if_ne (tgt := 23) hx hb dX12_when_18 (by decide) (fun c8 => ?_) (fun c8 => ?_)
    · have hF := op_f hF c8
      refine lv_iload_n hx hb dX12_when_23 rfl (lv_at hl 2 rfl) ?_
      refine lv_aload_n hx hb dX12_when_24 rfl (lv_at hl 0 rfl) ?_
      refine k_get (v := .ref (a0 7)) C fg_X12_33 hP 0 rfl rfl dX12_when_25 ?_
      refine lv_bipush (v := (45 : Int32)) hx hb dX12_when_28 (by decide) ?_
      refine lv_iload_n hx hb dX12_when_30 rfl (lv_at hl 1 rfl) ?_
      refine lv_iadd hx hb dX12_when_31 ?_
      obtain ⟨h9, hF⟩ := op_ck hF
      refine k_ild (f := U1.2.2.1 6) C hP 2 rfl h9 dX12_when_32 ?_
      refine lv_isub hx hb dX12_when_33 ?_
      refine lv_bipush (v := (7 : Int32)) hx hb dX12_when_34 (by decide) ?_
      refine lv_iand hx hb dX12_when_36 ?_
      obtain ⟨v10, e11, hF⟩ := nw_s hF
      refine k_rni e11 ?_
      refine lv_istore_n (lv' := [(3, .int v10), (0, .ref o0), (1, .int x1), (2, .int x2)]) hx hb dX12_when_37 rfl hl (by decide) rfl (fun ls hl => ?_)
      refine lv_iload_n hx hb dX12_when_38 rfl (lv_at hl 0 rfl) ?_
      refine lv_if_eq (tgt := 56) hx hb dX12_when_39 (by decide) (fun c12 => ?_) (fun c12 => ?_)
      · have hF := op_t hF c12
        exact b_X12_when_56 C hF hP hD hS (lv_sub hl [0] rfl)
      · have hF := op_f hF c12
        refine lv_aload_n hx hb dX12_when_42 rfl (lv_at hl 1 rfl) ?_
        refine k_get (v := .ref (a0 7)) C fg_X12_33 hP 0 rfl rfl dX12_when_43 ?_
        refine lv_bipush (v := (23 : Int32)) hx hb dX12_when_46 (by decide) ?_
        obtain ⟨h13, hF⟩ := op_ck hF
        refine k_ild (f := U1.2.2.1 6) C hP 2 rfl h13 dX12_when_48 ?_
        refine lv_iload_n hx hb dX12_when_49 rfl (lv_at hl 2 rfl) ?_
        obtain ⟨r15, hc14, hF⟩ := ob1_s hF
        refine k_inil C (k_rS (As := [.int (U1.2.2.1 6 (23 : Int32).toNatClampNeg), .int x1]) (rest := []) C (c_X12_bitOf l D q _ (U1.2.2.1 6 (23 : Int32).toNatClampNeg) x1 hc14) kc_X12_bitOf ml_X12_275 rfl rfl (by decide) (fun k x h => by simp at h) (⟨fun i j x y h => by simp at h, fun k x h => by simp at h⟩ : va_D A []) hS rfl hl.1 rfl (Nat.le_of_ble_eq_true rfl) dX12_when_50 (by decide)) hP hD hS (fun H locs hP hD hS => ?_)
        refine lv_if_eq (tgt := 60) hx hb dX12_when_53 (by decide) (fun c16 => ?_) (fun c16 => ?_)
        · have hF := op_t hF c16
          refine lv_iconst (v := (-1 : Int32)) hx hb dX12_when_60 (by decide) ?_
          cases hF
          exact k_iret C hP hS dX12_when_61
        · have hF := op_f hF c16
          exact b_X12_when_56 C hF hP hD hS (lv_sub hl [0] rfl)
    · have hF := op_t hF c8
      refine lv_iconst (v := (-1 : Int32)) hx hb dX12_when_21 (by decide) ?_
      cases hF
      exact k_iret C hP hS dX12_when_22

abbrev rm_X12_lays : Room := ({ frames := 0, cells := 0, slots := 0, locals := 0 } : Room)
def F_X12_lays (S0 : St) (x1 : Int32) : Option (St) := if oob (S0.1 36) 64 then none else nw (sA S0 35 (S0.1 36) (vp_nar .byte x1.toInt8.toInt32)) fun U2 => nw (sI U2 36 ((U2.1 36) + (1 : Int32))) fun U4 => some (U4)
set_option maxRecDepth 100000 in
set_option maxHeartbeats 4000000 in
theorem c_X12_lays (l : Launch) (D : va_G) (q : Nat → ClassId) (o0 : Nat) (a0 : Nat → Nat) (S0 : St) (sz : Nat) (x1 : Int32) {T0 : St} (hF : F_X12_lays S0 x1 = some (T0)) : Met l yX12_lays (Cond.code yX12_lays cX12_lays 2 none :: TB) rm_X12_lays (PC D q [.ref o0, .int x1] (fl [g12 q o0 a0 S0]) sz) ((fun A => QV D A (fl [g12 q o0 a0 T0])) (va_A (fl [g12 q o0 a0 S0]) sz)) 0 0 (va_A (fl [g12 q o0 a0 S0]) sz) := by
  refine k_met (w0 := fl [g12 q o0 a0 S0]) (Q := fun A => QV D A (fl [g12 q o0 a0 T0])) (by decide +kernel) (Nat.le_of_ble_eq_true rfl) ?_
  intro p e s m args below meth c A ls C hP hD hS hl
  have hl : lv_has ls 2 [(0, .ref o0), (1, .int x1)] := hl
  unfold F_X12_lays at hF
  have C : cx p s m args meth c cX12_lays 2 none RX12 D q A := C
  obtain ⟨hx, hb, hr, hml, hown, hts, hlk, hA, hK, hN, hV⟩ := id C
  refine lv_aload_n hx hb dX12_lays_0 rfl (lv_at hl 0 rfl) ?_
  refine k_get (v := .ref (a0 36)) C fg_X12_86 hP 0 rfl rfl dX12_lays_1 ?_
  refine lv_aload_n hx hb dX12_lays_4 rfl (lv_at hl 0 rfl) ?_
  refine k_get (v := .int (S0.1 36)) C fg_X12_411 hP 0 rfl rfl dX12_lays_5 ?_
  refine lv_iload_n hx hb dX12_lays_8 rfl (lv_at hl 1 rfl) ?_
  refine lv_i2b (v := x1.toInt8.toInt32) hx hb dX12_lays_9 rfl ?_
  obtain ⟨h1, hF⟩ := op_ck hF
  obtain ⟨U2, e3, hF⟩ := nw_s hF
  refine k_bst (f := S0.2.2.1 35) (W8 := fl [g12 q o0 a0 U2]) C hP hD hS 15 rfl h1 dX12_lays_10 (by rw [e3]; rfl) (fun H locs hP hD hS => ?_)
  refine lv_aload_n hx hb dX12_lays_11 rfl (lv_at hl 0 rfl) ?_
  refine lv_dup hx hb dX12_lays_12 rfl ?_
  refine k_get (v := .int (U2.1 36)) C fg_X12_411 hP 0 rfl rfl dX12_lays_13 ?_
  refine lv_iconst (v := (1 : Int32)) hx hb dX12_lays_16 (by decide) ?_
  refine lv_iadd hx hb dX12_lays_17 ?_
  obtain ⟨U4, e5, hF⟩ := nw_s hF
  refine k_put (W8 := fl [g12 q o0 a0 U4]) C fp_X12_411 hP hD hS 0 rfl rfl rfl (Nat.le_of_ble_eq_true rfl) dX12_lays_18 (by rw [e5]; rfl) (fun H locs hP hD hS => ?_)
  cases hF
  exact k_vret C hP hS dX12_lays_21

abbrev rm_X12_spells : Room := ({ frames := 1, cells := 0, slots := 0, locals := 21 } : Room)
def F_X12_spells_31 (k3 : Int64 × Int32 × St → Option (St)) (x1 : Int64) (x3 : Int32) (S0 : St) : Option (St) := k3 (x1, (x3 + (-8)), S0)
def F_X12_spells_3 (k3 : Int64 × Int32 × St → Option (St)) (x1 : Int64) (x3 : Int32) (S0 : St) : Option (St) := if x3 < 0 then (some (S0)) else (if (lg_cmp ((x1 >>> (x3.toInt64 &&& 63)) &&& (255 : Int64)) (0 : Int64)) = 0 then (F_X12_spells_31 k3 x1 x3 S0) else (ob1 (F_X12_lays S0 (((x1 >>> (x3.toInt64 &&& 63)) &&& (255 : Int64)).toInt32)) fun U4 => F_X12_spells_31 k3 x1 x3 U4))
def L_X12_spells_3 (x1 : Int64) (x3 : Int32) (S0 : St) : Option (St) := lp (fun kz z => F_X12_spells_3 kz z.1 z.2.1 z.2.2) FU (x1, x3, S0)
def F_X12_spells (S0 : St) (x1 : Int64) : Option (St) := L_X12_spells_3 x1 (56 : Int32) S0
set_option maxRecDepth 100000 in
set_option maxHeartbeats 4000000 in
theorem b_X12_spells_31 {p : Program} {l : Launch} {e : Env} {s : State} {m : MethodId} {args : Array Value} {below : List Frame} {meth : Method} {c : Code} {D : va_G} {q : Nat → ClassId} {A : Nat → Prop} {o0 : Nat} {a0 : Nat → Nat} {T0 : St} (C : cx p s m args meth c cX12_spells 4 none RX12 D q A) {k3 : Int64 × Int32 × St → Option (St)} (hk3 : ∀ (x1 : Int64) (x3 : Int32) (S0 : St), k3 (x1, x3, S0) = some (T0) → ∀ (H : Heap) (locs : List Loc) (ls : Array Slot), va_P D vwCl (fl [g12 q o0 a0 S0]) H → va_D A (fl [g12 q o0 a0 S0]) → va_S A s.heap H locs → lv_has ls 4 [(0, .ref o0), (1, .long x1), (3, .int x3)] → W p l e rm_X12_spells s m args below meth c H locs 0 0 (MQ below (QV D A (fl [g12 q o0 a0 T0])) args s 0 0 A) (F0 m 3 ls [])) {x1 : Int64} {x3 : Int32} {S0 : St} (hF : F_X12_spells_31 k3 x1 x3 S0 = some (T0)) {H : Heap} {locs : List Loc} (hP : va_P D vwCl (fl [g12 q o0 a0 S0]) H) (hD : va_D A (fl [g12 q o0 a0 S0])) (hS : va_S A s.heap H locs) {ls : Array Slot} (hl : lv_has ls 4 [(0, .ref o0), (1, .long x1), (3, .int x3)]) : W p l e rm_X12_spells s m args below meth c H locs 0 0 (MQ below (QV D A (fl [g12 q o0 a0 T0])) args s 0 0 A) (F0 m 31 ls []) := by
  unfold F_X12_spells_31 at hF
  obtain ⟨hx, hb, hr, hml, hown, hts, hlk, hA, hK, hN, hV⟩ := id C
  refine lv_iinc (v := (x3 + (-8))) (lv' := [(3, .int (x3 + (-8))), (0, .ref o0), (1, .long x1)]) hx hb dX12_spells_31 hl (k := 2) rfl rfl (by decide) rfl (fun ls hl => ?_)
  refine lv_goto (tgt := 3) hx hb dX12_spells_34 (by decide) ?_
  exact hk3 x1 (x3 + (-8)) S0 hF _ _ _ hP hD hS (lv_sub hl [1, 2, 0] rfl)
set_option maxRecDepth 100000 in
set_option maxHeartbeats 4000000 in
theorem b_X12_spells_3 {p : Program} {l : Launch} {e : Env} {s : State} {m : MethodId} {args : Array Value} {below : List Frame} {meth : Method} {c : Code} {D : va_G} {q : Nat → ClassId} {A : Nat → Prop} {o0 : Nat} {a0 : Nat → Nat} {T0 : St} (C : cx p s m args meth c cX12_spells 4 none RX12 D q A) {k3 : Int64 × Int32 × St → Option (St)} (hk3 : ∀ (x1 : Int64) (x3 : Int32) (S0 : St), k3 (x1, x3, S0) = some (T0) → ∀ (H : Heap) (locs : List Loc) (ls : Array Slot), va_P D vwCl (fl [g12 q o0 a0 S0]) H → va_D A (fl [g12 q o0 a0 S0]) → va_S A s.heap H locs → lv_has ls 4 [(0, .ref o0), (1, .long x1), (3, .int x3)] → W p l e rm_X12_spells s m args below meth c H locs 0 0 (MQ below (QV D A (fl [g12 q o0 a0 T0])) args s 0 0 A) (F0 m 3 ls [])) {x1 : Int64} {x3 : Int32} {S0 : St} (hF : F_X12_spells_3 k3 x1 x3 S0 = some (T0)) {H : Heap} {locs : List Loc} (hP : va_P D vwCl (fl [g12 q o0 a0 S0]) H) (hD : va_D A (fl [g12 q o0 a0 S0])) (hS : va_S A s.heap H locs) {ls : Array Slot} (hl : lv_has ls 4 [(0, .ref o0), (1, .long x1), (3, .int x3)]) : W p l e rm_X12_spells s m args below meth c H locs 0 0 (MQ below (QV D A (fl [g12 q o0 a0 T0])) args s 0 0 A) (F0 m 3 ls []) := by
  unfold F_X12_spells_3 at hF
  obtain ⟨hx, hb, hr, hml, hown, hts, hlk, hA, hK, hN, hV⟩ := id C
  refine lv_iload_n hx hb dX12_spells_3 rfl (lv_at hl 2 rfl) ?_
  refine lv_if_lt (tgt := 37) hx hb dX12_spells_4 (by decide) (fun c1 => ?_) (fun c1 => ?_)
  · have hF := op_t hF c1
    cases hF
    exact k_vret C hP hS dX12_spells_37
  · have hF := op_f hF c1
    refine lv_lload_n hx hb dX12_spells_7 rfl (lv_at hl 1 rfl) ?_
    refine lv_iload_n hx hb dX12_spells_8 rfl (lv_at hl 2 rfl) ?_
    refine lv_lshr (v := (x1 >>> (x3.toInt64 &&& 63))) hx hb dX12_spells_9 rfl ?_
    refine lv_ldc2 (v := (255 : Int64)) hx hb hown (hts _ kL_X12_414) dX12_spells_10 ?_
    refine lv_land hx hb dX12_spells_13 ?_
    refine lv_lconst (v := (0 : Int64)) hx hb dX12_spells_14 (by decide) ?_
    refine W.lcmp hx hb dX12_spells_15 ?_
    refine lv_if_eq (tgt := 31) hx hb dX12_spells_16 (by decide) (fun c2 => ?_) (fun c2 => ?_)
    · have hF := op_t hF c2
      exact b_X12_spells_31 C hk3 hF hP hD hS (lv_sub hl [0, 1, 2] rfl)
    · have hF := op_f hF c2
      refine lv_aload_n hx hb dX12_spells_19 rfl (lv_at hl 0 rfl) ?_
      refine lv_lload_n hx hb dX12_spells_20 rfl (lv_at hl 1 rfl) ?_
      refine lv_iload_n hx hb dX12_spells_21 rfl (lv_at hl 2 rfl) ?_
      refine lv_lshr (v := (x1 >>> (x3.toInt64 &&& 63))) hx hb dX12_spells_22 rfl ?_
      refine lv_ldc2 (v := (255 : Int64)) hx hb hown (hts _ kL_X12_414) dX12_spells_23 ?_
      refine lv_land hx hb dX12_spells_26 ?_
      refine lv_l2i (v := ((x1 >>> (x3.toInt64 &&& 63)) &&& (255 : Int64)).toInt32) hx hb dX12_spells_27 rfl ?_
      obtain ⟨U4, hc3, hF⟩ := ob1_s hF
      refine k_vall C (k_rV (As := [.int ((x1 >>> (x3.toInt64 &&& 63)) &&& (255 : Int64)).toInt32]) (rest := []) C (c_X12_lays l D q o0 a0 S0 _ (((x1 >>> (x3.toInt64 &&& 63)) &&& (255 : Int64)).toInt32) hc3) kc_X12_lays ml_X12_416 rfl rfl (by decide) hP hD hS (va_recv hK hP (ci := 12) (q0 := 0) rfl rfl) rfl hl.1 rfl (Nat.le_of_ble_eq_true rfl) dX12_spells_28 (by decide)) hP hD hS (by simp only [List.map_cons, List.map_nil, gad12]) (fun H locs hP hD hS => ?_)
      exact b_X12_spells_31 C hk3 hF hP hD hS (lv_sub hl [0, 1, 2] rfl)
set_option maxRecDepth 100000 in
set_option maxHeartbeats 4000000 in
theorem l_X12_spells_3 {p : Program} {l : Launch} {e : Env} {s : State} {m : MethodId} {args : Array Value} {below : List Frame} {meth : Method} {c : Code} {D : va_G} {q : Nat → ClassId} {A : Nat → Prop} {o0 : Nat} {a0 : Nat → Nat} {T0 : St} (C : cx p s m args meth c cX12_spells 4 none RX12 D q A) {x1 : Int64} {x3 : Int32} {S0 : St} (hF : L_X12_spells_3 x1 x3 S0 = some (T0)) : ∀ (H : Heap) (locs : List Loc) (ls : Array Slot), va_P D vwCl (fl [g12 q o0 a0 S0]) H → va_D A (fl [g12 q o0 a0 S0]) → va_S A s.heap H locs → lv_has ls 4 [(0, .ref o0), (1, .long x1), (3, .int x3)] → W p l e rm_X12_spells s m args below meth c H locs 0 0 (MQ below (QV D A (fl [g12 q o0 a0 T0])) args s 0 0 A) (F0 m 3 ls []) :=
  lp_G _ _ (fun z => ∀ (H : Heap) (locs : List Loc) (ls : Array Slot), va_P D vwCl (fl [g12 q o0 a0 z.2.2]) H → va_D A (fl [g12 q o0 a0 z.2.2]) → va_S A s.heap H locs → lv_has ls 4 [(0, .ref o0), (1, .long z.1), (3, .int z.2.1)] → W p l e rm_X12_spells s m args below meth c H locs 0 0 (MQ below (QV D A (fl [g12 q o0 a0 T0])) args s 0 0 A) (F0 m 3 ls [])) (fun kz hkz z hz H locs ls hP hD hS hl => b_X12_spells_3 C (fun x1 x3 S0 hz => hkz (x1, x3, S0) hz) hz hP hD hS hl) FU (x1, x3, S0) hF
set_option maxRecDepth 100000 in
set_option maxHeartbeats 4000000 in
theorem c_X12_spells (l : Launch) (D : va_G) (q : Nat → ClassId) (o0 : Nat) (a0 : Nat → Nat) (S0 : St) (sz : Nat) (x1 : Int64) {T0 : St} (hF : F_X12_spells S0 x1 = some (T0)) : Met l yX12_spells (Cond.code yX12_spells cX12_spells 4 none :: TB) rm_X12_spells (PC D q [.ref o0, .long x1] (fl [g12 q o0 a0 S0]) sz) ((fun A => QV D A (fl [g12 q o0 a0 T0])) (va_A (fl [g12 q o0 a0 S0]) sz)) 0 0 (va_A (fl [g12 q o0 a0 S0]) sz) := by
  refine k_met (w0 := fl [g12 q o0 a0 S0]) (Q := fun A => QV D A (fl [g12 q o0 a0 T0])) (by decide +kernel) (Nat.le_of_ble_eq_true rfl) ?_
  intro p e s m args below meth c A ls C hP hD hS hl
  have hl : lv_has ls 4 [(0, .ref o0), (1, .long x1)] := hl
  unfold F_X12_spells at hF
  have C : cx p s m args meth c cX12_spells 4 none RX12 D q A := C
  obtain ⟨hx, hb, hr, hml, hown, hts, hlk, hA, hK, hN, hV⟩ := id C
  refine lv_bipush (v := (56 : Int32)) hx hb dX12_spells_0 (by decide) ?_
  refine lv_istore_n (lv' := [(3, .int (56 : Int32)), (0, .ref o0), (1, .long x1)]) hx hb dX12_spells_2 rfl hl (by decide) rfl (fun ls hl => ?_)
  exact l_X12_spells_3 C hF _ _ _ hP hD hS (lv_sub hl [1, 2, 0] rfl)
