abbrev rm_X12_isName : Room := ({ frames := 0, cells := 0, slots := 0, locals := 0 } : Room)
def F_X12_isName_45 (k16 : Int32 × Int32 × St → Option (Int32)) (x2 : Int32) (s0 : Int32) (S0 : St) : Option (Int32) := k16 (s0, (x2 + 1), S0)
def F_X12_isName_44 (k16 : Int32 × Int32 × St → Option (Int32)) (x2 : Int32) (S0 : St) : Option (Int32) := F_X12_isName_45 k16 x2 (0 : Int32) S0
def F_X12_isName_16 (k16 : Int32 × Int32 × St → Option (Int32)) (x1 : Int32) (x2 : Int32) (S0 : St) : Option (Int32) := if (36 : Int32) ≤ x2 then (if nb x1 then none else some (x1)) else (if x1 = 0 then (F_X12_isName_44 k16 x2 S0) else (if oob x2 36 then none else if (lg_cmp (S0.2.1 17) (S0.2.2.2 10 x2.toNatClampNeg)) = 0 then (F_X12_isName_44 k16 x2 S0) else (F_X12_isName_45 k16 x2 (1 : Int32) S0)))
def L_X12_isName_16 (x1 : Int32) (x2 : Int32) (S0 : St) : Option (Int32) := lp (fun kz z => F_X12_isName_16 kz z.1 z.2.1 z.2.2) FU (x1, x2, S0)
def F_X12_isName_13 (s0 : Int32) (S0 : St) : Option (Int32) := L_X12_isName_16 s0 (0 : Int32) S0
def F_X12_isName (S0 : St) : Option (Int32) := if (S0.1 11) = (1 : Int32) then (F_X12_isName_13 (1 : Int32) S0) else (F_X12_isName_13 (0 : Int32) S0)
set_option maxRecDepth 100000 in
set_option maxHeartbeats 4000000 in
theorem b_X12_isName_45 {p : Program} {l : Launch} {e : Env} {s : State} {m : MethodId} {args : Array Value} {below : List Frame} {meth : Method} {c : Code} {D : va_G} {q : Nat → ClassId} {A : Nat → Prop} {o0 : Nat} {a0 : Nat → Nat} {r : Int32} (C : cx p s m args meth c cX12_isName 3 (some .boolean) RX12 D q A) {k16 : Int32 × Int32 × St → Option (Int32)} (hk16 : ∀ (x1 : Int32) (x2 : Int32) (S0 : St), k16 (x1, x2, S0) = some (r) → ∀ (H : Heap) (locs : List Loc) (ls : Array Slot), va_P D vwCl (fl [g12 q o0 a0 S0]) H → va_D A (fl [g12 q o0 a0 S0]) → va_S A s.heap H locs → lv_has ls 3 [(0, .ref o0), (1, .int x1), (2, .int x2)] → W p l e rm_X12_isName s m args below meth c H locs 0 0 (MQ below (QI D A r (fl [g12 q o0 a0 S0])) args s 0 0 A) (F0 m 16 ls [])) {x2 : Int32} {s0 : Int32} {S0 : St} (hF : F_X12_isName_45 k16 x2 s0 S0 = some (r)) {H : Heap} {locs : List Loc} (hP : va_P D vwCl (fl [g12 q o0 a0 S0]) H) (hD : va_D A (fl [g12 q o0 a0 S0])) (hS : va_S A s.heap H locs) {ls : Array Slot} (hl : lv_has ls 3 [(0, .ref o0), (2, .int x2)]) : W p l e rm_X12_isName s m args below meth c H locs 0 0 (MQ below (QI D A r (fl [g12 q o0 a0 S0])) args s 0 0 A) (F0 m 45 ls [.int s0]) := by
  unfold F_X12_isName_45 at hF
  obtain ⟨hx, hb, hr, hml, hown, hts, hlk, hA, hK, hN, hV⟩ := id C
  refine lv_istore_n (lv' := [(1, .int s0), (0, .ref o0), (2, .int x2)]) hx hb dX12_isName_45 rfl hl (by decide) rfl (fun ls hl => ?_)
  refine lv_iinc (v := (x2 + 1)) (lv' := [(2, .int (x2 + 1)), (1, .int s0), (0, .ref o0)]) hx hb dX12_isName_46 hl (k := 2) rfl rfl (by decide) rfl (fun ls hl => ?_)
  refine lv_goto (tgt := 16) hx hb dX12_isName_49 (by decide) ?_
  exact hk16 s0 (x2 + 1) S0 hF _ _ _ hP hD hS (lv_sub hl [2, 1, 0] rfl)
set_option maxRecDepth 100000 in
set_option maxHeartbeats 4000000 in
theorem b_X12_isName_44 {p : Program} {l : Launch} {e : Env} {s : State} {m : MethodId} {args : Array Value} {below : List Frame} {meth : Method} {c : Code} {D : va_G} {q : Nat → ClassId} {A : Nat → Prop} {o0 : Nat} {a0 : Nat → Nat} {r : Int32} (C : cx p s m args meth c cX12_isName 3 (some .boolean) RX12 D q A) {k16 : Int32 × Int32 × St → Option (Int32)} (hk16 : ∀ (x1 : Int32) (x2 : Int32) (S0 : St), k16 (x1, x2, S0) = some (r) → ∀ (H : Heap) (locs : List Loc) (ls : Array Slot), va_P D vwCl (fl [g12 q o0 a0 S0]) H → va_D A (fl [g12 q o0 a0 S0]) → va_S A s.heap H locs → lv_has ls 3 [(0, .ref o0), (1, .int x1), (2, .int x2)] → W p l e rm_X12_isName s m args below meth c H locs 0 0 (MQ below (QI D A r (fl [g12 q o0 a0 S0])) args s 0 0 A) (F0 m 16 ls [])) {x2 : Int32} {S0 : St} (hF : F_X12_isName_44 k16 x2 S0 = some (r)) {H : Heap} {locs : List Loc} (hP : va_P D vwCl (fl [g12 q o0 a0 S0]) H) (hD : va_D A (fl [g12 q o0 a0 S0])) (hS : va_S A s.heap H locs) {ls : Array Slot} (hl : lv_has ls 3 [(0, .ref o0), (2, .int x2)]) : W p l e rm_X12_isName s m args below meth c H locs 0 0 (MQ below (QI D A r (fl [g12 q o0 a0 S0])) args s 0 0 A) (F0 m 44 ls []) := by
  unfold F_X12_isName_44 at hF
  obtain ⟨hx, hb, hr, hml, hown, hts, hlk, hA, hK, hN, hV⟩ := id C
  refine lv_iconst (v := (0 : Int32)) hx hb dX12_isName_44 (by decide) ?_
  exact b_X12_isName_45 C hk16 hF hP hD hS (lv_sub hl [0, 1] rfl)
set_option maxRecDepth 100000 in
set_option maxHeartbeats 4000000 in
theorem b_X12_isName_16 {p : Program} {l : Launch} {e : Env} {s : State} {m : MethodId} {args : Array Value} {below : List Frame} {meth : Method} {c : Code} {D : va_G} {q : Nat → ClassId} {A : Nat → Prop} {o0 : Nat} {a0 : Nat → Nat} {r : Int32} (C : cx p s m args meth c cX12_isName 3 (some .boolean) RX12 D q A) {k16 : Int32 × Int32 × St → Option (Int32)} (hk16 : ∀ (x1 : Int32) (x2 : Int32) (S0 : St), k16 (x1, x2, S0) = some (r) → ∀ (H : Heap) (locs : List Loc) (ls : Array Slot), va_P D vwCl (fl [g12 q o0 a0 S0]) H → va_D A (fl [g12 q o0 a0 S0]) → va_S A s.heap H locs → lv_has ls 3 [(0, .ref o0), (1, .int x1), (2, .int x2)] → W p l e rm_X12_isName s m args below meth c H locs 0 0 (MQ below (QI D A r (fl [g12 q o0 a0 S0])) args s 0 0 A) (F0 m 16 ls [])) {x1 : Int32} {x2 : Int32} {S0 : St} (hF : F_X12_isName_16 k16 x1 x2 S0 = some (r)) {H : Heap} {locs : List Loc} (hP : va_P D vwCl (fl [g12 q o0 a0 S0]) H) (hD : va_D A (fl [g12 q o0 a0 S0])) (hS : va_S A s.heap H locs) {ls : Array Slot} (hl : lv_has ls 3 [(0, .ref o0), (1, .int x1), (2, .int x2)]) : W p l e rm_X12_isName s m args below meth c H locs 0 0 (MQ below (QI D A r (fl [g12 q o0 a0 S0])) args s 0 0 A) (F0 m 16 ls []) := by
  unfold F_X12_isName_16 at hF
  obtain ⟨hx, hb, hr, hml, hown, hts, hlk, hA, hK, hN, hV⟩ := id C
  refine lv_iload_n hx hb dX12_isName_16 rfl (lv_at hl 2 rfl) ?_
  refine lv_bipush (v := (36 : Int32)) hx hb dX12_isName_17 (by decide) ?_
  refine lv_icmp_ge (tgt := 52) hx hb dX12_isName_19 (by decide) (fun c1 => ?_) (fun c1 => ?_)
  · have hF := op_t hF c1
    refine lv_iload_n hx hb dX12_isName_52 rfl (lv_at hl 1 rfl) ?_
    obtain ⟨h2, hF⟩ := op_ck hF
    cases hF
    exact k_zret C h2 hP hS dX12_isName_53
  · have hF := op_f hF c1
    refine lv_iload_n hx hb dX12_isName_22 rfl (lv_at hl 1 rfl) ?_
    refine lv_if_eq (tgt := 44) hx hb dX12_isName_23 (by decide) (fun c3 => ?_) (fun c3 => ?_)
    · have hF := op_t hF c3
      exact b_X12_isName_44 C hk16 hF hP hD hS (lv_sub hl [0, 2] rfl)
    · have hF := op_f hF c3
      refine lv_aload_n hx hb dX12_isName_26 rfl (lv_at hl 0 rfl) ?_
      refine k_get (v := .long (S0.2.1 17)) C fg_X12_206 hP 0 rfl rfl dX12_isName_27 ?_
      refine lv_aload_n hx hb dX12_isName_30 rfl (lv_at hl 0 rfl) ?_
      refine k_get (v := .ref (a0 11)) C fg_X12_47 hP 0 rfl rfl dX12_isName_31 ?_
      refine lv_iload_n hx hb dX12_isName_34 rfl (lv_at hl 2 rfl) ?_
      obtain ⟨h4, hF⟩ := op_ck hF
      refine k_lld (f := S0.2.2.2 10) C hP 6 rfl h4 dX12_isName_35 ?_
      refine W.lcmp hx hb dX12_isName_36 ?_
      refine lv_if_eq (tgt := 44) hx hb dX12_isName_37 (by decide) (fun c5 => ?_) (fun c5 => ?_)
      · have hF := op_t hF c5
        exact b_X12_isName_44 C hk16 hF hP hD hS (lv_sub hl [0, 2] rfl)
      · have hF := op_f hF c5
        refine lv_iconst (v := (1 : Int32)) hx hb dX12_isName_40 (by decide) ?_
        refine lv_goto (tgt := 45) hx hb dX12_isName_41 (by decide) ?_
        exact b_X12_isName_45 C hk16 hF hP hD hS (lv_sub hl [0, 2] rfl)
set_option maxRecDepth 100000 in
set_option maxHeartbeats 4000000 in
theorem l_X12_isName_16 {p : Program} {l : Launch} {e : Env} {s : State} {m : MethodId} {args : Array Value} {below : List Frame} {meth : Method} {c : Code} {D : va_G} {q : Nat → ClassId} {A : Nat → Prop} {o0 : Nat} {a0 : Nat → Nat} {r : Int32} (C : cx p s m args meth c cX12_isName 3 (some .boolean) RX12 D q A) {x1 : Int32} {x2 : Int32} {S0 : St} (hF : L_X12_isName_16 x1 x2 S0 = some (r)) : ∀ (H : Heap) (locs : List Loc) (ls : Array Slot), va_P D vwCl (fl [g12 q o0 a0 S0]) H → va_D A (fl [g12 q o0 a0 S0]) → va_S A s.heap H locs → lv_has ls 3 [(0, .ref o0), (1, .int x1), (2, .int x2)] → W p l e rm_X12_isName s m args below meth c H locs 0 0 (MQ below (QI D A r (fl [g12 q o0 a0 S0])) args s 0 0 A) (F0 m 16 ls []) :=
  lp_G _ _ (fun z => ∀ (H : Heap) (locs : List Loc) (ls : Array Slot), va_P D vwCl (fl [g12 q o0 a0 z.2.2]) H → va_D A (fl [g12 q o0 a0 z.2.2]) → va_S A s.heap H locs → lv_has ls 3 [(0, .ref o0), (1, .int z.1), (2, .int z.2.1)] → W p l e rm_X12_isName s m args below meth c H locs 0 0 (MQ below (QI D A r (fl [g12 q o0 a0 z.2.2])) args s 0 0 A) (F0 m 16 ls [])) (fun kz hkz z hz H locs ls hP hD hS hl => b_X12_isName_16 C (fun x1 x2 S0 hz => hkz (x1, x2, S0) hz) hz hP hD hS hl) FU (x1, x2, S0) hF
set_option maxRecDepth 100000 in
set_option maxHeartbeats 4000000 in
theorem b_X12_isName_13 {p : Program} {l : Launch} {e : Env} {s : State} {m : MethodId} {args : Array Value} {below : List Frame} {meth : Method} {c : Code} {D : va_G} {q : Nat → ClassId} {A : Nat → Prop} {o0 : Nat} {a0 : Nat → Nat} {r : Int32} (C : cx p s m args meth c cX12_isName 3 (some .boolean) RX12 D q A) {s0 : Int32} {S0 : St} (hF : F_X12_isName_13 s0 S0 = some (r)) {H : Heap} {locs : List Loc} (hP : va_P D vwCl (fl [g12 q o0 a0 S0]) H) (hD : va_D A (fl [g12 q o0 a0 S0])) (hS : va_S A s.heap H locs) {ls : Array Slot} (hl : lv_has ls 3 [(0, .ref o0)]) : W p l e rm_X12_isName s m args below meth c H locs 0 0 (MQ below (QI D A r (fl [g12 q o0 a0 S0])) args s 0 0 A) (F0 m 13 ls [.int s0]) := by
  unfold F_X12_isName_13 at hF
  obtain ⟨hx, hb, hr, hml, hown, hts, hlk, hA, hK, hN, hV⟩ := id C
  refine lv_istore_n (lv' := [(1, .int s0), (0, .ref o0)]) hx hb dX12_isName_13 rfl hl (by decide) rfl (fun ls hl => ?_)
  refine lv_iconst (v := (0 : Int32)) hx hb dX12_isName_14 (by decide) ?_
  refine lv_istore_n (lv' := [(2, .int (0 : Int32)), (1, .int s0), (0, .ref o0)]) hx hb dX12_isName_15 rfl hl (by decide) rfl (fun ls hl => ?_)
  exact l_X12_isName_16 C hF _ _ _ hP hD hS (lv_sub hl [2, 1, 0] rfl)
set_option maxRecDepth 100000 in
set_option maxHeartbeats 4000000 in
theorem c_X12_isName (l : Launch) (D : va_G) (q : Nat → ClassId) (o0 : Nat) (a0 : Nat → Nat) (S0 : St) (sz : Nat) {r : Int32} (hF : F_X12_isName S0 = some (r)) : Met l yX12_isName (Cond.code yX12_isName cX12_isName 3 (some .boolean) :: TB) rm_X12_isName (PC D q [.ref o0] (fl [g12 q o0 a0 S0]) sz) ((fun A => QI D A r (fl [g12 q o0 a0 S0])) (va_A (fl [g12 q o0 a0 S0]) sz)) 0 0 (va_A (fl [g12 q o0 a0 S0]) sz) := by
  refine k_met (w0 := fl [g12 q o0 a0 S0]) (Q := fun A => QI D A r (fl [g12 q o0 a0 S0])) (by decide +kernel) (Nat.le_of_ble_eq_true rfl) ?_
  intro p e s m args below meth c A ls C hP hD hS hl
  have hl : lv_has ls 3 [(0, .ref o0)] := hl
  unfold F_X12_isName at hF
  have C : cx p s m args meth c cX12_isName 3 (some .boolean) RX12 D q A := C
  obtain ⟨hx, hb, hr, hml, hown, hts, hlk, hA, hK, hN, hV⟩ := id C
  refine lv_aload_n hx hb dX12_isName_0 rfl (lv_at hl 0 rfl) ?_
  refine k_get (v := .int (S0.1 11)) C fg_X12_193 hP 0 rfl rfl dX12_isName_1 ?_
  refine lv_iconst (v := (1 : Int32)) hx hb dX12_isName_4 (by decide) ?_
  refine lv_icmp_ne (tgt := 12) hx hb dX12_isName_5 (by decide) (fun c1 => ?_) (fun c1 => ?_)
  · have hF := op_f hF c1
    refine lv_iconst (v := (0 : Int32)) hx hb dX12_isName_12 (by decide) ?_
    exact b_X12_isName_13 C hF hP hD hS (lv_sub hl [0] rfl)
  · have hF := op_t hF c1
    refine lv_iconst (v := (1 : Int32)) hx hb dX12_isName_8 (by decide) ?_
    refine lv_goto (tgt := 13) hx hb dX12_isName_9 (by decide) ?_
    exact b_X12_isName_13 C hF hP hD hS (lv_sub hl [0] rfl)

abbrev rm_X12_takes : Room := ({ frames := 2, cells := 0, slots := 0, locals := 43 } : Room)
def F_X12_takes (S0 : St) (x1 : Int32) (x2 : Int32) : Option (Int32 × St) := if (S0.1 11) = (2 : Int32) then (ob1 (F_X12_isIn (S0.1 14) x1 x2) fun r3 => if r3 = 0 then (ob2 (F_X12_bad S0 (2 : Int32)) fun r10 U11 => if nb r10 then none else some (r10, U11)) else (nw (sI S0 18 (S0.1 14)) fun U5 => ob1 (F_X12_next U5) fun U8 => some ((1 : Int32), U8))) else (ob2 (F_X12_bad S0 (1 : Int32)) fun r14 U15 => if nb r14 then none else some (r14, U15))
set_option maxRecDepth 100000 in
set_option maxHeartbeats 4000000 in
theorem c_X12_takes (l : Launch) (D : va_G) (q : Nat → ClassId) (o0 : Nat) (a0 : Nat → Nat) (S0 : St) (sz : Nat) (x1 : Int32) (x2 : Int32) {r : Int32} {T0 : St} (hF : F_X12_takes S0 x1 x2 = some (r, T0)) : Met l yX12_takes (Cond.code yX12_takes cX12_takes 3 (some .boolean) :: TB) rm_X12_takes (PC D q [.ref o0, .int x1, .int x2] (fl [g12 q o0 a0 S0]) sz) ((fun A => QI D A r (fl [g12 q o0 a0 T0])) (va_A (fl [g12 q o0 a0 S0]) sz)) 0 0 (va_A (fl [g12 q o0 a0 S0]) sz) := by
  refine k_met (w0 := fl [g12 q o0 a0 S0]) (Q := fun A => QI D A r (fl [g12 q o0 a0 T0])) (by decide +kernel) (Nat.le_of_ble_eq_true rfl) ?_
  intro p e s m args below meth c A ls C hP hD hS hl
  have hl : lv_has ls 3 [(0, .ref o0), (1, .int x1), (2, .int x2)] := hl
  unfold F_X12_takes at hF
  have C : cx p s m args meth c cX12_takes 3 (some .boolean) RX12 D q A := C
  obtain ⟨hx, hb, hr, hml, hown, hts, hlk, hA, hK, hN, hV⟩ := id C
  refine lv_aload_n hx hb dX12_takes_0 rfl (lv_at hl 0 rfl) ?_
  refine k_get (v := .int (S0.1 11)) C fg_X12_193 hP 0 rfl rfl dX12_takes_1 ?_
  refine lv_iconst (v := (2 : Int32)) hx hb dX12_takes_4 (by decide) ?_
  refine lv_icmp_eq (tgt := 14) hx hb dX12_takes_5 (by decide) (fun c1 => ?_) (fun c1 => ?_)
  · have hF := op_t hF c1
    refine lv_aload_n hx hb dX12_takes_14 rfl (lv_at hl 0 rfl) ?_
    refine k_get (v := .int (S0.1 14)) C fg_X12_203 hP 0 rfl rfl dX12_takes_15 ?_
    refine lv_iload_n hx hb dX12_takes_18 rfl (lv_at hl 1 rfl) ?_
    refine lv_iload_n hx hb dX12_takes_19 rfl (lv_at hl 2 rfl) ?_
    obtain ⟨r3, hc2, hF⟩ := ob1_s hF
    refine k_inil C (k_rS (As := [.int (S0.1 14), .int x1, .int x2]) (rest := []) C (c_X12_isIn l D q _ (S0.1 14) x1 x2 hc2) kc_X12_isIn ml_X12_225 rfl rfl (by decide) (fun k x h => by simp at h) (⟨fun i j x y h => by simp at h, fun k x h => by simp at h⟩ : va_D A []) hS rfl hl.1 rfl (Nat.le_of_ble_eq_true rfl) dX12_takes_20 (by decide)) hP hD hS (fun H locs hP hD hS => ?_)
    refine lv_if_ne (tgt := 32) hx hb dX12_takes_23 (by decide) (fun c4 => ?_) (fun c4 => ?_)
    · have hF := op_f hF c4
      refine lv_aload_n hx hb dX12_takes_32 rfl (lv_at hl 0 rfl) ?_
      refine lv_aload_n hx hb dX12_takes_33 rfl (lv_at hl 0 rfl) ?_
      refine k_get (v := .int (S0.1 14)) C fg_X12_203 hP 0 rfl rfl dX12_takes_34 ?_
      obtain ⟨U5, e6, hF⟩ := nw_s hF
      refine k_put (W8 := fl [g12 q o0 a0 U5]) C fp_X12_229 hP hD hS 0 rfl rfl rfl (Nat.le_of_ble_eq_true rfl) dX12_takes_37 (by rw [e6]; rfl) (fun H locs hP hD hS => ?_)
      refine lv_aload_n hx hb dX12_takes_40 rfl (lv_at hl 0 rfl) ?_
      obtain ⟨U8, hc7, hF⟩ := ob1_s hF
      refine k_vall C (k_rV (As := []) (rest := []) C (c_X12_next l D q o0 a0 U5 _ hc7) kc_X12_next ml_X12_222 rfl rfl (by decide) hP hD hS (va_recv hK hP (ci := 12) (q0 := 0) rfl rfl) rfl hl.1 rfl (Nat.le_of_ble_eq_true rfl) dX12_takes_41 (by decide)) hP hD hS (by simp only [List.map_cons, List.map_nil, gad12]) (fun H locs hP hD hS => ?_)
      refine lv_iconst (v := (1 : Int32)) hx hb dX12_takes_44 (by decide) ?_
      cases hF
      exact k_zret C (by decide) hP hS dX12_takes_45
    · have hF := op_t hF c4
      refine lv_aload_n hx hb dX12_takes_26 rfl (lv_at hl 0 rfl) ?_
      refine lv_iconst (v := (2 : Int32)) hx hb dX12_takes_27 (by decide) ?_
      obtain ⟨r10, U11, hc9, hF⟩ := ob2_s hF
      refine k_iall C (k_rV (As := [.int (2 : Int32)]) (rest := []) C (c_X12_bad l D q o0 a0 S0 _ (2 : Int32) hc9) kc_X12_bad ml_X12_219 rfl rfl (by decide) hP hD hS (va_recv hK hP (ci := 12) (q0 := 0) rfl rfl) rfl hl.1 rfl (Nat.le_of_ble_eq_true rfl) dX12_takes_28 (by decide)) hP hD hS (by simp only [List.map_cons, List.map_nil, gad12]) (fun H locs hP hD hS => ?_)
      obtain ⟨h12, hF⟩ := op_ck hF
      cases hF
      exact k_zret C h12 hP hS dX12_takes_31
  · have hF := op_f hF c1
    refine lv_aload_n hx hb dX12_takes_8 rfl (lv_at hl 0 rfl) ?_
    refine lv_iconst (v := (1 : Int32)) hx hb dX12_takes_9 (by decide) ?_
    obtain ⟨r14, U15, hc13, hF⟩ := ob2_s hF
    refine k_iall C (k_rV (As := [.int (1 : Int32)]) (rest := []) C (c_X12_bad l D q o0 a0 S0 _ (1 : Int32) hc13) kc_X12_bad ml_X12_219 rfl rfl (by decide) hP hD hS (va_recv hK hP (ci := 12) (q0 := 0) rfl rfl) rfl hl.1 rfl (Nat.le_of_ble_eq_true rfl) dX12_takes_10 (by decide)) hP hD hS (by simp only [List.map_cons, List.map_nil, gad12]) (fun H locs hP hD hS => ?_)
    obtain ⟨h16, hF⟩ := op_ck hF
    cases hF
    exact k_zret C h16 hP hS dX12_takes_13

abbrev rm_X12_puts : Room := ({ frames := 3, cells := 0, slots := 0, locals := 65 } : Room)
def F_X12_puts (S0 : St) (x1 : Int32) (x2 : Int32) (x3 : Int32) : Option (Int32 × St) := ob2 (F_X12_takes S0 x2 x3) fun r2 U3 => if r2 = 0 then (some ((0 : Int32), U3)) else (if oob x1 42 then none else nw (sA U3 7 x1 (U3.1 18)) fun U6 => some ((1 : Int32), U6))
set_option maxRecDepth 100000 in
set_option maxHeartbeats 4000000 in
theorem c_X12_puts (l : Launch) (D : va_G) (q : Nat → ClassId) (o0 : Nat) (a0 : Nat → Nat) (S0 : St) (sz : Nat) (x1 : Int32) (x2 : Int32) (x3 : Int32) {r : Int32} {T0 : St} (hF : F_X12_puts S0 x1 x2 x3 = some (r, T0)) : Met l yX12_puts (Cond.code yX12_puts cX12_puts 4 (some .boolean) :: TB) rm_X12_puts (PC D q [.ref o0, .int x1, .int x2, .int x3] (fl [g12 q o0 a0 S0]) sz) ((fun A => QI D A r (fl [g12 q o0 a0 T0])) (va_A (fl [g12 q o0 a0 S0]) sz)) 0 0 (va_A (fl [g12 q o0 a0 S0]) sz) := by
  refine k_met (w0 := fl [g12 q o0 a0 S0]) (Q := fun A => QI D A r (fl [g12 q o0 a0 T0])) (by decide +kernel) (Nat.le_of_ble_eq_true rfl) ?_
  intro p e s m args below meth c A ls C hP hD hS hl
  have hl : lv_has ls 4 [(0, .ref o0), (1, .int x1), (2, .int x2), (3, .int x3)] := hl
  unfold F_X12_puts at hF
  have C : cx p s m args meth c cX12_puts 4 (some .boolean) RX12 D q A := C
  obtain ⟨hx, hb, hr, hml, hown, hts, hlk, hA, hK, hN, hV⟩ := id C
  refine lv_aload_n hx hb dX12_puts_0 rfl (lv_at hl 0 rfl) ?_
  refine lv_iload_n hx hb dX12_puts_1 rfl (lv_at hl 2 rfl) ?_
  refine lv_iload_n hx hb dX12_puts_2 rfl (lv_at hl 3 rfl) ?_
  obtain ⟨r2, U3, hc1, hF⟩ := ob2_s hF
  refine k_iall C (k_rV (As := [.int x2, .int x3]) (rest := []) C (c_X12_takes l D q o0 a0 S0 _ x2 x3 hc1) kc_X12_takes ml_X12_232 rfl rfl (by decide) hP hD hS (va_recv hK hP (ci := 12) (q0 := 0) rfl rfl) rfl hl.1 rfl (Nat.le_of_ble_eq_true rfl) dX12_puts_3 (by decide)) hP hD hS (by simp only [List.map_cons, List.map_nil, gad12]) (fun H locs hP hD hS => ?_)
  refine lv_if_ne (tgt := 11) hx hb dX12_puts_6 (by decide) (fun c4 => ?_) (fun c4 => ?_)
  · have hF := op_f hF c4
    refine lv_aload_n hx hb dX12_puts_11 rfl (lv_at hl 0 rfl) ?_
    refine k_get (v := .ref (a0 8)) C fg_X12_37 hP 0 rfl rfl dX12_puts_12 ?_
    refine lv_iload_n hx hb dX12_puts_15 rfl (lv_at hl 1 rfl) ?_
    refine lv_aload_n hx hb dX12_puts_16 rfl (lv_at hl 0 rfl) ?_
    refine k_get (v := .int (U3.1 18)) C fg_X12_229 hP 0 rfl rfl dX12_puts_17 ?_
    obtain ⟨h5, hF⟩ := op_ck hF
    obtain ⟨U6, e7, hF⟩ := nw_s hF
    refine k_ist (f := U3.2.2.1 7) (W8 := fl [g12 q o0 a0 U6]) C hP hD hS 3 rfl h5 dX12_puts_20 (by rw [e7]; rfl) (fun H locs hP hD hS => ?_)
    refine lv_iconst (v := (1 : Int32)) hx hb dX12_puts_21 (by decide) ?_
    cases hF
    exact k_zret C (by decide) hP hS dX12_puts_22
  · have hF := op_t hF c4
    refine lv_iconst (v := (0 : Int32)) hx hb dX12_puts_9 (by decide) ?_
    cases hF
    exact k_zret C (by decide) hP hS dX12_puts_10

abbrev rm_X12_isOneOf : Room := ({ frames := 1, cells := 0, slots := 0, locals := 21 } : Room)
def F_X12_isOneOf_69 (S0 : St) : Option (Int32 × St) := some ((1 : Int32), S0)
def F_X12_isOneOf_45 (k7 : Int32 × Int32 × Int32 × St → Option (Int32 × St)) (x1 : Int32) (x2 : Int32) (x3 : Int32) (s1 : Int32) (S0 : St) : Option (Int32 × St) := nw (sI S0 18 s1) fun U1 => k7 (x1, x2, (x3 + 1), U1)
def F_X12_isOneOf_41 (k7 : Int32 × Int32 × Int32 × St → Option (Int32 × St)) (x1 : Int32) (x2 : Int32) (x3 : Int32) (S0 : St) : Option (Int32 × St) := F_X12_isOneOf_45 k7 x1 x2 x3 (S0.1 18) S0
def F_X12_isOneOf_7 (k7 : Int32 × Int32 × Int32 × St → Option (Int32 × St)) (x1 : Int32) (x2 : Int32) (x3 : Int32) (S0 : St) : Option (Int32 × St) := if x2 ≤ x3 then (if 0 ≤ (S0.1 18) then (F_X12_isOneOf_69 S0) else (ob2 (F_X12_bad S0 (1 : Int32)) fun r4 U5 => if r4 = 0 then (some ((0 : Int32), U5)) else (F_X12_isOneOf_69 U5))) else (if (S0.1 11) = (1 : Int32) then (if oob (x1 + x3) 36 then none else if (lg_cmp (S0.2.1 17) (S0.2.2.2 10 (x1 + x3).toNatClampNeg)) = 0 then (F_X12_isOneOf_45 k7 x1 x2 x3 x3 S0) else (F_X12_isOneOf_41 k7 x1 x2 x3 S0)) else (F_X12_isOneOf_41 k7 x1 x2 x3 S0))
def L_X12_isOneOf_7 (x1 : Int32) (x2 : Int32) (x3 : Int32) (S0 : St) : Option (Int32 × St) := lp (fun kz z => F_X12_isOneOf_7 kz z.1 z.2.1 z.2.2.1 z.2.2.2) FU (x1, x2, x3, S0)
def F_X12_isOneOf (S0 : St) (x1 : Int32) (x2 : Int32) : Option (Int32 × St) := nw (sI S0 18 (-1 : Int32)) fun U1 => L_X12_isOneOf_7 x1 x2 (0 : Int32) U1
set_option maxRecDepth 100000 in
set_option maxHeartbeats 4000000 in
theorem b_X12_isOneOf_69 {p : Program} {l : Launch} {e : Env} {s : State} {m : MethodId} {args : Array Value} {below : List Frame} {meth : Method} {c : Code} {D : va_G} {q : Nat → ClassId} {A : Nat → Prop} {o0 : Nat} {a0 : Nat → Nat} {r : Int32} {T0 : St} (C : cx p s m args meth c cX12_isOneOf 4 (some .boolean) RX12 D q A) {S0 : St} (hF : F_X12_isOneOf_69 S0 = some (r, T0)) {H : Heap} {locs : List Loc} (hP : va_P D vwCl (fl [g12 q o0 a0 S0]) H) (hD : va_D A (fl [g12 q o0 a0 S0])) (hS : va_S A s.heap H locs) {ls : Array Slot} (hl : lv_has ls 4 []) : W p l e rm_X12_isOneOf s m args below meth c H locs 0 0 (MQ below (QI D A r (fl [g12 q o0 a0 T0])) args s 0 0 A) (F0 m 69 ls []) := by
  unfold F_X12_isOneOf_69 at hF
  obtain ⟨hx, hb, hr, hml, hown, hts, hlk, hA, hK, hN, hV⟩ := id C
  refine lv_iconst (v := (1 : Int32)) hx hb dX12_isOneOf_69 (by decide) ?_
  refine lv_goto (tgt := 74) hx hb dX12_isOneOf_70 (by decide) ?_
  cases hF
  exact k_zret C (by decide) hP hS dX12_isOneOf_74
set_option maxRecDepth 100000 in
set_option maxHeartbeats 4000000 in
theorem b_X12_isOneOf_45 {p : Program} {l : Launch} {e : Env} {s : State} {m : MethodId} {args : Array Value} {below : List Frame} {meth : Method} {c : Code} {D : va_G} {q : Nat → ClassId} {A : Nat → Prop} {o0 : Nat} {a0 : Nat → Nat} {r : Int32} {T0 : St} (C : cx p s m args meth c cX12_isOneOf 4 (some .boolean) RX12 D q A) {k7 : Int32 × Int32 × Int32 × St → Option (Int32 × St)} (hk7 : ∀ (x1 : Int32) (x2 : Int32) (x3 : Int32) (S0 : St), k7 (x1, x2, x3, S0) = some (r, T0) → ∀ (H : Heap) (locs : List Loc) (ls : Array Slot), va_P D vwCl (fl [g12 q o0 a0 S0]) H → va_D A (fl [g12 q o0 a0 S0]) → va_S A s.heap H locs → lv_has ls 4 [(0, .ref o0), (1, .int x1), (2, .int x2), (3, .int x3)] → W p l e rm_X12_isOneOf s m args below meth c H locs 0 0 (MQ below (QI D A r (fl [g12 q o0 a0 T0])) args s 0 0 A) (F0 m 7 ls [])) {x1 : Int32} {x2 : Int32} {x3 : Int32} {s1 : Int32} {S0 : St} (hF : F_X12_isOneOf_45 k7 x1 x2 x3 s1 S0 = some (r, T0)) {H : Heap} {locs : List Loc} (hP : va_P D vwCl (fl [g12 q o0 a0 S0]) H) (hD : va_D A (fl [g12 q o0 a0 S0])) (hS : va_S A s.heap H locs) {ls : Array Slot} (hl : lv_has ls 4 [(0, .ref o0), (1, .int x1), (2, .int x2), (3, .int x3)]) : W p l e rm_X12_isOneOf s m args below meth c H locs 0 0 (MQ below (QI D A r (fl [g12 q o0 a0 T0])) args s 0 0 A) (F0 m 45 ls [.int s1, .ref o0]) := by
  unfold F_X12_isOneOf_45 at hF
  obtain ⟨hx, hb, hr, hml, hown, hts, hlk, hA, hK, hN, hV⟩ := id C
  obtain ⟨U1, e2, hF⟩ := nw_s hF
  refine k_put (W8 := fl [g12 q o0 a0 U1]) C fp_X12_229 hP hD hS 0 rfl rfl rfl (Nat.le_of_ble_eq_true rfl) dX12_isOneOf_45 (by rw [e2]; rfl) (fun H locs hP hD hS => ?_)
  refine lv_iinc (v := (x3 + 1)) (lv' := [(3, .int (x3 + 1)), (0, .ref o0), (1, .int x1), (2, .int x2)]) hx hb dX12_isOneOf_48 hl (k := 3) rfl rfl (by decide) rfl (fun ls hl => ?_)
  refine lv_goto (tgt := 7) hx hb dX12_isOneOf_51 (by decide) ?_
  exact hk7 x1 x2 (x3 + 1) U1 hF _ _ _ hP hD hS (lv_sub hl [1, 2, 3, 0] rfl)
set_option maxRecDepth 100000 in
set_option maxHeartbeats 4000000 in
theorem b_X12_isOneOf_41 {p : Program} {l : Launch} {e : Env} {s : State} {m : MethodId} {args : Array Value} {below : List Frame} {meth : Method} {c : Code} {D : va_G} {q : Nat → ClassId} {A : Nat → Prop} {o0 : Nat} {a0 : Nat → Nat} {r : Int32} {T0 : St} (C : cx p s m args meth c cX12_isOneOf 4 (some .boolean) RX12 D q A) {k7 : Int32 × Int32 × Int32 × St → Option (Int32 × St)} (hk7 : ∀ (x1 : Int32) (x2 : Int32) (x3 : Int32) (S0 : St), k7 (x1, x2, x3, S0) = some (r, T0) → ∀ (H : Heap) (locs : List Loc) (ls : Array Slot), va_P D vwCl (fl [g12 q o0 a0 S0]) H → va_D A (fl [g12 q o0 a0 S0]) → va_S A s.heap H locs → lv_has ls 4 [(0, .ref o0), (1, .int x1), (2, .int x2), (3, .int x3)] → W p l e rm_X12_isOneOf s m args below meth c H locs 0 0 (MQ below (QI D A r (fl [g12 q o0 a0 T0])) args s 0 0 A) (F0 m 7 ls [])) {x1 : Int32} {x2 : Int32} {x3 : Int32} {S0 : St} (hF : F_X12_isOneOf_41 k7 x1 x2 x3 S0 = some (r, T0)) {H : Heap} {locs : List Loc} (hP : va_P D vwCl (fl [g12 q o0 a0 S0]) H) (hD : va_D A (fl [g12 q o0 a0 S0])) (hS : va_S A s.heap H locs) {ls : Array Slot} (hl : lv_has ls 4 [(0, .ref o0), (1, .int x1), (2, .int x2), (3, .int x3)]) : W p l e rm_X12_isOneOf s m args below meth c H locs 0 0 (MQ below (QI D A r (fl [g12 q o0 a0 T0])) args s 0 0 A) (F0 m 41 ls [.ref o0]) := by
  unfold F_X12_isOneOf_41 at hF
  obtain ⟨hx, hb, hr, hml, hown, hts, hlk, hA, hK, hN, hV⟩ := id C
  refine lv_aload_n hx hb dX12_isOneOf_41 rfl (lv_at hl 0 rfl) ?_
  refine k_get (v := .int (S0.1 18)) C fg_X12_229 hP 0 rfl rfl dX12_isOneOf_42 ?_
  exact b_X12_isOneOf_45 C hk7 hF hP hD hS (lv_sub hl [0, 1, 2, 3] rfl)
set_option maxRecDepth 100000 in
set_option maxHeartbeats 4000000 in
theorem b_X12_isOneOf_7 {p : Program} {l : Launch} {e : Env} {s : State} {m : MethodId} {args : Array Value} {below : List Frame} {meth : Method} {c : Code} {D : va_G} {q : Nat → ClassId} {A : Nat → Prop} {o0 : Nat} {a0 : Nat → Nat} {r : Int32} {T0 : St} (C : cx p s m args meth c cX12_isOneOf 4 (some .boolean) RX12 D q A) {k7 : Int32 × Int32 × Int32 × St → Option (Int32 × St)} (hk7 : ∀ (x1 : Int32) (x2 : Int32) (x3 : Int32) (S0 : St), k7 (x1, x2, x3, S0) = some (r, T0) → ∀ (H : Heap) (locs : List Loc) (ls : Array Slot), va_P D vwCl (fl [g12 q o0 a0 S0]) H → va_D A (fl [g12 q o0 a0 S0]) → va_S A s.heap H locs → lv_has ls 4 [(0, .ref o0), (1, .int x1), (2, .int x2), (3, .int x3)] → W p l e rm_X12_isOneOf s m args below meth c H locs 0 0 (MQ below (QI D A r (fl [g12 q o0 a0 T0])) args s 0 0 A) (F0 m 7 ls [])) {x1 : Int32} {x2 : Int32} {x3 : Int32} {S0 : St} (hF : F_X12_isOneOf_7 k7 x1 x2 x3 S0 = some (r, T0)) {H : Heap} {locs : List Loc} (hP : va_P D vwCl (fl [g12 q o0 a0 S0]) H) (hD : va_D A (fl [g12 q o0 a0 S0])) (hS : va_S A s.heap H locs) {ls : Array Slot} (hl : lv_has ls 4 [(0, .ref o0), (1, .int x1), (2, .int x2), (3, .int x3)]) : W p l e rm_X12_isOneOf s m args below meth c H locs 0 0 (MQ below (QI D A r (fl [g12 q o0 a0 T0])) args s 0 0 A) (F0 m 7 ls []) := by
  unfold F_X12_isOneOf_7 at hF
  obtain ⟨hx, hb, hr, hml, hown, hts, hlk, hA, hK, hN, hV⟩ := id C
  refine lv_iload_n hx hb dX12_isOneOf_7 rfl (lv_at hl 3 rfl) ?_
  refine lv_iload_n hx hb dX12_isOneOf_8 rfl (lv_at hl 2 rfl) ?_
  refine lv_icmp_ge (tgt := 54) hx hb dX12_isOneOf_9 (by decide) (fun c1 => ?_) (fun c1 => ?_)
  · have hF := op_t hF c1
    refine lv_aload_n hx hb dX12_isOneOf_54 rfl (lv_at hl 0 rfl) ?_
    refine k_get (v := .int (S0.1 18)) C fg_X12_229 hP 0 rfl rfl dX12_isOneOf_55 ?_
    refine lv_if_ge (tgt := 69) hx hb dX12_isOneOf_58 (by decide) (fun c2 => ?_) (fun c2 => ?_)
    · have hF := op_t hF c2
      exact b_X12_isOneOf_69 C hF hP hD hS (lv_sub hl [] rfl)
    · have hF := op_f hF c2
      refine lv_aload_n hx hb dX12_isOneOf_61 rfl (lv_at hl 0 rfl) ?_
      refine lv_iconst (v := (1 : Int32)) hx hb dX12_isOneOf_62 (by decide) ?_
      obtain ⟨r4, U5, hc3, hF⟩ := ob2_s hF
      refine k_iall C (k_rV (As := [.int (1 : Int32)]) (rest := []) C (c_X12_bad l D q o0 a0 S0 _ (1 : Int32) hc3) kc_X12_bad ml_X12_219 rfl rfl (by decide) hP hD hS (va_recv hK hP (ci := 12) (q0 := 0) rfl rfl) rfl hl.1 rfl (Nat.le_of_ble_eq_true rfl) dX12_isOneOf_63 (by decide)) hP hD hS (by simp only [List.map_cons, List.map_nil, gad12]) (fun H locs hP hD hS => ?_)
      refine lv_if_eq (tgt := 73) hx hb dX12_isOneOf_66 (by decide) (fun c6 => ?_) (fun c6 => ?_)
      · have hF := op_t hF c6
        refine lv_iconst (v := (0 : Int32)) hx hb dX12_isOneOf_73 (by decide) ?_
        cases hF
        exact k_zret C (by decide) hP hS dX12_isOneOf_74
      · have hF := op_f hF c6
        exact b_X12_isOneOf_69 C hF hP hD hS (lv_sub hl [] rfl)
  · have hF := op_f hF c1
    refine lv_aload_n hx hb dX12_isOneOf_12 rfl (lv_at hl 0 rfl) ?_
    refine lv_aload_n hx hb dX12_isOneOf_13 rfl (lv_at hl 0 rfl) ?_
    refine k_get (v := .int (S0.1 11)) C fg_X12_193 hP 0 rfl rfl dX12_isOneOf_14 ?_
    refine lv_iconst (v := (1 : Int32)) hx hb dX12_isOneOf_17 (by decide) ?_
    refine lv_icmp_ne (tgt := 41) hx hb dX12_isOneOf_18 (by decide) (fun c7 => ?_) (fun c7 => ?_)
    · have hF := op_f hF c7
      exact b_X12_isOneOf_41 C hk7 hF hP hD hS (lv_sub hl [0, 1, 2, 3] rfl)
    · have hF := op_t hF c7
      refine lv_aload_n hx hb dX12_isOneOf_21 rfl (lv_at hl 0 rfl) ?_
      refine k_get (v := .long (S0.2.1 17)) C fg_X12_206 hP 0 rfl rfl dX12_isOneOf_22 ?_
      refine lv_aload_n hx hb dX12_isOneOf_25 rfl (lv_at hl 0 rfl) ?_
      refine k_get (v := .ref (a0 11)) C fg_X12_47 hP 0 rfl rfl dX12_isOneOf_26 ?_
      refine lv_iload_n hx hb dX12_isOneOf_29 rfl (lv_at hl 1 rfl) ?_
      refine lv_iload_n hx hb dX12_isOneOf_30 rfl (lv_at hl 3 rfl) ?_
      refine lv_iadd hx hb dX12_isOneOf_31 ?_
      obtain ⟨h8, hF⟩ := op_ck hF
      refine k_lld (f := S0.2.2.2 10) C hP 6 rfl h8 dX12_isOneOf_32 ?_
      refine W.lcmp hx hb dX12_isOneOf_33 ?_
      refine lv_if_ne (tgt := 41) hx hb dX12_isOneOf_34 (by decide) (fun c9 => ?_) (fun c9 => ?_)
      · have hF := op_f hF c9
        exact b_X12_isOneOf_41 C hk7 hF hP hD hS (lv_sub hl [0, 1, 2, 3] rfl)
      · have hF := op_t hF c9
        refine lv_iload_n hx hb dX12_isOneOf_37 rfl (lv_at hl 3 rfl) ?_
        refine lv_goto (tgt := 45) hx hb dX12_isOneOf_38 (by decide) ?_
        exact b_X12_isOneOf_45 C hk7 hF hP hD hS (lv_sub hl [0, 1, 2, 3] rfl)
set_option maxRecDepth 100000 in
set_option maxHeartbeats 4000000 in
theorem l_X12_isOneOf_7 {p : Program} {l : Launch} {e : Env} {s : State} {m : MethodId} {args : Array Value} {below : List Frame} {meth : Method} {c : Code} {D : va_G} {q : Nat → ClassId} {A : Nat → Prop} {o0 : Nat} {a0 : Nat → Nat} {r : Int32} {T0 : St} (C : cx p s m args meth c cX12_isOneOf 4 (some .boolean) RX12 D q A) {x1 : Int32} {x2 : Int32} {x3 : Int32} {S0 : St} (hF : L_X12_isOneOf_7 x1 x2 x3 S0 = some (r, T0)) : ∀ (H : Heap) (locs : List Loc) (ls : Array Slot), va_P D vwCl (fl [g12 q o0 a0 S0]) H → va_D A (fl [g12 q o0 a0 S0]) → va_S A s.heap H locs → lv_has ls 4 [(0, .ref o0), (1, .int x1), (2, .int x2), (3, .int x3)] → W p l e rm_X12_isOneOf s m args below meth c H locs 0 0 (MQ below (QI D A r (fl [g12 q o0 a0 T0])) args s 0 0 A) (F0 m 7 ls []) :=
  lp_G _ _ (fun z => ∀ (H : Heap) (locs : List Loc) (ls : Array Slot), va_P D vwCl (fl [g12 q o0 a0 z.2.2.2]) H → va_D A (fl [g12 q o0 a0 z.2.2.2]) → va_S A s.heap H locs → lv_has ls 4 [(0, .ref o0), (1, .int z.1), (2, .int z.2.1), (3, .int z.2.2.1)] → W p l e rm_X12_isOneOf s m args below meth c H locs 0 0 (MQ below (QI D A r (fl [g12 q o0 a0 T0])) args s 0 0 A) (F0 m 7 ls [])) (fun kz hkz z hz H locs ls hP hD hS hl => b_X12_isOneOf_7 C (fun x1 x2 x3 S0 hz => hkz (x1, x2, x3, S0) hz) hz hP hD hS hl) FU (x1, x2, x3, S0) hF
set_option maxRecDepth 100000 in
set_option maxHeartbeats 4000000 in
theorem c_X12_isOneOf (l : Launch) (D : va_G) (q : Nat → ClassId) (o0 : Nat) (a0 : Nat → Nat) (S0 : St) (sz : Nat) (x1 : Int32) (x2 : Int32) {r : Int32} {T0 : St} (hF : F_X12_isOneOf S0 x1 x2 = some (r, T0)) : Met l yX12_isOneOf (Cond.code yX12_isOneOf cX12_isOneOf 4 (some .boolean) :: TB) rm_X12_isOneOf (PC D q [.ref o0, .int x1, .int x2] (fl [g12 q o0 a0 S0]) sz) ((fun A => QI D A r (fl [g12 q o0 a0 T0])) (va_A (fl [g12 q o0 a0 S0]) sz)) 0 0 (va_A (fl [g12 q o0 a0 S0]) sz) := by
  refine k_met (w0 := fl [g12 q o0 a0 S0]) (Q := fun A => QI D A r (fl [g12 q o0 a0 T0])) (by decide +kernel) (Nat.le_of_ble_eq_true rfl) ?_
  intro p e s m args below meth c A ls C hP hD hS hl
  have hl : lv_has ls 4 [(0, .ref o0), (1, .int x1), (2, .int x2)] := hl
  unfold F_X12_isOneOf at hF
  have C : cx p s m args meth c cX12_isOneOf 4 (some .boolean) RX12 D q A := C
  obtain ⟨hx, hb, hr, hml, hown, hts, hlk, hA, hK, hN, hV⟩ := id C
  refine lv_aload_n hx hb dX12_isOneOf_0 rfl (lv_at hl 0 rfl) ?_
  refine lv_iconst (v := (-1 : Int32)) hx hb dX12_isOneOf_1 (by decide) ?_
  obtain ⟨U1, e2, hF⟩ := nw_s hF
  refine k_put (W8 := fl [g12 q o0 a0 U1]) C fp_X12_229 hP hD hS 0 rfl rfl rfl (Nat.le_of_ble_eq_true rfl) dX12_isOneOf_2 (by rw [e2]; rfl) (fun H locs hP hD hS => ?_)
  refine lv_iconst (v := (0 : Int32)) hx hb dX12_isOneOf_5 (by decide) ?_
  refine lv_istore_n (lv' := [(3, .int (0 : Int32)), (0, .ref o0), (1, .int x1), (2, .int x2)]) hx hb dX12_isOneOf_6 rfl hl (by decide) rfl (fun ls hl => ?_)
  exact l_X12_isOneOf_7 C hF _ _ _ hP hD hS (lv_sub hl [1, 2, 3, 0] rfl)

abbrev rm_X12_takesOneOf : Room := ({ frames := 2, cells := 0, slots := 0, locals := 44 } : Room)
def F_X12_takesOneOf (S0 : St) (x1 : Int32) (x2 : Int32) : Option (Int32 × St) := ob2 (F_X12_isOneOf S0 x1 x2) fun r2 U3 => if r2 = 0 then (some ((0 : Int32), U3)) else (ob1 (F_X12_next U3) fun U6 => some ((1 : Int32), U6))
set_option maxRecDepth 100000 in
set_option maxHeartbeats 4000000 in
theorem c_X12_takesOneOf (l : Launch) (D : va_G) (q : Nat → ClassId) (o0 : Nat) (a0 : Nat → Nat) (S0 : St) (sz : Nat) (x1 : Int32) (x2 : Int32) {r : Int32} {T0 : St} (hF : F_X12_takesOneOf S0 x1 x2 = some (r, T0)) : Met l yX12_takesOneOf (Cond.code yX12_takesOneOf cX12_takesOneOf 3 (some .boolean) :: TB) rm_X12_takesOneOf (PC D q [.ref o0, .int x1, .int x2] (fl [g12 q o0 a0 S0]) sz) ((fun A => QI D A r (fl [g12 q o0 a0 T0])) (va_A (fl [g12 q o0 a0 S0]) sz)) 0 0 (va_A (fl [g12 q o0 a0 S0]) sz) := by
  refine k_met (w0 := fl [g12 q o0 a0 S0]) (Q := fun A => QI D A r (fl [g12 q o0 a0 T0])) (by decide +kernel) (Nat.le_of_ble_eq_true rfl) ?_
  intro p e s m args below meth c A ls C hP hD hS hl
  have hl : lv_has ls 3 [(0, .ref o0), (1, .int x1), (2, .int x2)] := hl
  unfold F_X12_takesOneOf at hF
  have C : cx p s m args meth c cX12_takesOneOf 3 (some .boolean) RX12 D q A := C
  obtain ⟨hx, hb, hr, hml, hown, hts, hlk, hA, hK, hN, hV⟩ := id C
  refine lv_aload_n hx hb dX12_takesOneOf_0 rfl (lv_at hl 0 rfl) ?_
  refine lv_iload_n hx hb dX12_takesOneOf_1 rfl (lv_at hl 1 rfl) ?_
  refine lv_iload_n hx hb dX12_takesOneOf_2 rfl (lv_at hl 2 rfl) ?_
  obtain ⟨r2, U3, hc1, hF⟩ := ob2_s hF
  refine k_iall C (k_rV (As := [.int x1, .int x2]) (rest := []) C (c_X12_isOneOf l D q o0 a0 S0 _ x1 x2 hc1) kc_X12_isOneOf ml_X12_236 rfl rfl (by decide) hP hD hS (va_recv hK hP (ci := 12) (q0 := 0) rfl rfl) rfl hl.1 rfl (Nat.le_of_ble_eq_true rfl) dX12_takesOneOf_3 (by decide)) hP hD hS (by simp only [List.map_cons, List.map_nil, gad12]) (fun H locs hP hD hS => ?_)
  refine lv_if_ne (tgt := 11) hx hb dX12_takesOneOf_6 (by decide) (fun c4 => ?_) (fun c4 => ?_)
  · have hF := op_f hF c4
    refine lv_aload_n hx hb dX12_takesOneOf_11 rfl (lv_at hl 0 rfl) ?_
    obtain ⟨U6, hc5, hF⟩ := ob1_s hF
    refine k_vall C (k_rV (As := []) (rest := []) C (c_X12_next l D q o0 a0 U3 _ hc5) kc_X12_next ml_X12_222 rfl rfl (by decide) hP hD hS (va_recv hK hP (ci := 12) (q0 := 0) rfl rfl) rfl hl.1 rfl (Nat.le_of_ble_eq_true rfl) dX12_takesOneOf_12 (by decide)) hP hD hS (by simp only [List.map_cons, List.map_nil, gad12]) (fun H locs hP hD hS => ?_)
    refine lv_iconst (v := (1 : Int32)) hx hb dX12_takesOneOf_15 (by decide) ?_
    cases hF
    exact k_zret C (by decide) hP hS dX12_takesOneOf_16
  · have hF := op_t hF c4
    refine lv_iconst (v := (0 : Int32)) hx hb dX12_takesOneOf_9 (by decide) ?_
    cases hF
    exact k_zret C (by decide) hP hS dX12_takesOneOf_10

abbrev rm_X12_seek : Room := ({ frames := 0, cells := 0, slots := 0, locals := 0 } : Room)
def F_X12_seek_2 (k2 : Int32 × Int32 × Int32 × St → Option (Int32)) (x1 : Int32) (x2 : Int32) (x3 : Int32) (S0 : St) : Option (Int32) := if x2 ≤ x3 then (some ((-1 : Int32))) else (if oob (x1 + x3) 26 then none else if (lg_cmp (S0.2.2.2 9 (x1 + x3).toNatClampNeg) (S0.2.1 17)) = 0 then (some (x3)) else (k2 (x1, x2, (x3 + 1), S0)))
def L_X12_seek_2 (x1 : Int32) (x2 : Int32) (x3 : Int32) (S0 : St) : Option (Int32) := lp (fun kz z => F_X12_seek_2 kz z.1 z.2.1 z.2.2.1 z.2.2.2) FU (x1, x2, x3, S0)
def F_X12_seek (S0 : St) (x1 : Int32) (x2 : Int32) : Option (Int32) := L_X12_seek_2 x1 x2 (0 : Int32) S0
set_option maxRecDepth 100000 in
set_option maxHeartbeats 4000000 in
theorem b_X12_seek_2 {p : Program} {l : Launch} {e : Env} {s : State} {m : MethodId} {args : Array Value} {below : List Frame} {meth : Method} {c : Code} {D : va_G} {q : Nat → ClassId} {A : Nat → Prop} {o0 : Nat} {a0 : Nat → Nat} {r : Int32} (C : cx p s m args meth c cX12_seek 4 (some .int) RX12 D q A) {k2 : Int32 × Int32 × Int32 × St → Option (Int32)} (hk2 : ∀ (x1 : Int32) (x2 : Int32) (x3 : Int32) (S0 : St), k2 (x1, x2, x3, S0) = some (r) → ∀ (H : Heap) (locs : List Loc) (ls : Array Slot), va_P D vwCl (fl [g12 q o0 a0 S0]) H → va_D A (fl [g12 q o0 a0 S0]) → va_S A s.heap H locs → lv_has ls 4 [(0, .ref o0), (1, .int x1), (2, .int x2), (3, .int x3)] → W p l e rm_X12_seek s m args below meth c H locs 0 0 (MQ below (QI D A r (fl [g12 q o0 a0 S0])) args s 0 0 A) (F0 m 2 ls [])) {x1 : Int32} {x2 : Int32} {x3 : Int32} {S0 : St} (hF : F_X12_seek_2 k2 x1 x2 x3 S0 = some (r)) {H : Heap} {locs : List Loc} (hP : va_P D vwCl (fl [g12 q o0 a0 S0]) H) (hD : va_D A (fl [g12 q o0 a0 S0])) (hS : va_S A s.heap H locs) {ls : Array Slot} (hl : lv_has ls 4 [(0, .ref o0), (1, .int x1), (2, .int x2), (3, .int x3)]) : W p l e rm_X12_seek s m args below meth c H locs 0 0 (MQ below (QI D A r (fl [g12 q o0 a0 S0])) args s 0 0 A) (F0 m 2 ls []) := by
  unfold F_X12_seek_2 at hF
  obtain ⟨hx, hb, hr, hml, hown, hts, hlk, hA, hK, hN, hV⟩ := id C
  refine lv_iload_n hx hb dX12_seek_2 rfl (lv_at hl 3 rfl) ?_
  refine lv_iload_n hx hb dX12_seek_3 rfl (lv_at hl 2 rfl) ?_
  refine lv_icmp_ge (tgt := 31) hx hb dX12_seek_4 (by decide) (fun c1 => ?_) (fun c1 => ?_)
  · have hF := op_t hF c1
    refine lv_iconst (v := (-1 : Int32)) hx hb dX12_seek_31 (by decide) ?_
    cases hF
    exact k_iret C hP hS dX12_seek_32
  · have hF := op_f hF c1
    refine lv_aload_n hx hb dX12_seek_7 rfl (lv_at hl 0 rfl) ?_
    refine k_get (v := .ref (a0 10)) C fg_X12_43 hP 0 rfl rfl dX12_seek_8 ?_
    refine lv_iload_n hx hb dX12_seek_11 rfl (lv_at hl 1 rfl) ?_
    refine lv_iload_n hx hb dX12_seek_12 rfl (lv_at hl 3 rfl) ?_
    refine lv_iadd hx hb dX12_seek_13 ?_
    obtain ⟨h2, hF⟩ := op_ck hF
    refine k_lld (f := S0.2.2.2 9) C hP 5 rfl h2 dX12_seek_14 ?_
    refine lv_aload_n hx hb dX12_seek_15 rfl (lv_at hl 0 rfl) ?_
    refine k_get (v := .long (S0.2.1 17)) C fg_X12_206 hP 0 rfl rfl dX12_seek_16 ?_
    refine W.lcmp hx hb dX12_seek_19 ?_
    refine lv_if_ne (tgt := 25) hx hb dX12_seek_20 (by decide) (fun c3 => ?_) (fun c3 => ?_)
    · have hF := op_f hF c3
      refine lv_iinc (v := (x3 + 1)) (lv' := [(3, .int (x3 + 1)), (0, .ref o0), (1, .int x1), (2, .int x2)]) hx hb dX12_seek_25 hl (k := 3) rfl rfl (by decide) rfl (fun ls hl => ?_)
      refine lv_goto (tgt := 2) hx hb dX12_seek_28 (by decide) ?_
      exact hk2 x1 x2 (x3 + 1) S0 hF _ _ _ hP hD hS (lv_sub hl [1, 2, 3, 0] rfl)
    · have hF := op_t hF c3
      refine lv_iload_n hx hb dX12_seek_23 rfl (lv_at hl 3 rfl) ?_
      cases hF
      exact k_iret C hP hS dX12_seek_24
set_option maxRecDepth 100000 in
set_option maxHeartbeats 4000000 in
theorem l_X12_seek_2 {p : Program} {l : Launch} {e : Env} {s : State} {m : MethodId} {args : Array Value} {below : List Frame} {meth : Method} {c : Code} {D : va_G} {q : Nat → ClassId} {A : Nat → Prop} {o0 : Nat} {a0 : Nat → Nat} {r : Int32} (C : cx p s m args meth c cX12_seek 4 (some .int) RX12 D q A) {x1 : Int32} {x2 : Int32} {x3 : Int32} {S0 : St} (hF : L_X12_seek_2 x1 x2 x3 S0 = some (r)) : ∀ (H : Heap) (locs : List Loc) (ls : Array Slot), va_P D vwCl (fl [g12 q o0 a0 S0]) H → va_D A (fl [g12 q o0 a0 S0]) → va_S A s.heap H locs → lv_has ls 4 [(0, .ref o0), (1, .int x1), (2, .int x2), (3, .int x3)] → W p l e rm_X12_seek s m args below meth c H locs 0 0 (MQ below (QI D A r (fl [g12 q o0 a0 S0])) args s 0 0 A) (F0 m 2 ls []) :=
  lp_G _ _ (fun z => ∀ (H : Heap) (locs : List Loc) (ls : Array Slot), va_P D vwCl (fl [g12 q o0 a0 z.2.2.2]) H → va_D A (fl [g12 q o0 a0 z.2.2.2]) → va_S A s.heap H locs → lv_has ls 4 [(0, .ref o0), (1, .int z.1), (2, .int z.2.1), (3, .int z.2.2.1)] → W p l e rm_X12_seek s m args below meth c H locs 0 0 (MQ below (QI D A r (fl [g12 q o0 a0 z.2.2.2])) args s 0 0 A) (F0 m 2 ls [])) (fun kz hkz z hz H locs ls hP hD hS hl => b_X12_seek_2 C (fun x1 x2 x3 S0 hz => hkz (x1, x2, x3, S0) hz) hz hP hD hS hl) FU (x1, x2, x3, S0) hF
set_option maxRecDepth 100000 in
set_option maxHeartbeats 4000000 in
theorem c_X12_seek (l : Launch) (D : va_G) (q : Nat → ClassId) (o0 : Nat) (a0 : Nat → Nat) (S0 : St) (sz : Nat) (x1 : Int32) (x2 : Int32) {r : Int32} (hF : F_X12_seek S0 x1 x2 = some (r)) : Met l yX12_seek (Cond.code yX12_seek cX12_seek 4 (some .int) :: TB) rm_X12_seek (PC D q [.ref o0, .int x1, .int x2] (fl [g12 q o0 a0 S0]) sz) ((fun A => QI D A r (fl [g12 q o0 a0 S0])) (va_A (fl [g12 q o0 a0 S0]) sz)) 0 0 (va_A (fl [g12 q o0 a0 S0]) sz) := by
  refine k_met (w0 := fl [g12 q o0 a0 S0]) (Q := fun A => QI D A r (fl [g12 q o0 a0 S0])) (by decide +kernel) (Nat.le_of_ble_eq_true rfl) ?_
  intro p e s m args below meth c A ls C hP hD hS hl
  have hl : lv_has ls 4 [(0, .ref o0), (1, .int x1), (2, .int x2)] := hl
  unfold F_X12_seek at hF
  have C : cx p s m args meth c cX12_seek 4 (some .int) RX12 D q A := C
  obtain ⟨hx, hb, hr, hml, hown, hts, hlk, hA, hK, hN, hV⟩ := id C
  refine lv_iconst (v := (0 : Int32)) hx hb dX12_seek_0 (by decide) ?_
  refine lv_istore_n (lv' := [(3, .int (0 : Int32)), (0, .ref o0), (1, .int x1), (2, .int x2)]) hx hb dX12_seek_1 rfl hl (by decide) rfl (fun ls hl => ?_)
  exact l_X12_seek_2 C hF _ _ _ hP hD hS (lv_sub hl [1, 2, 3, 0] rfl)

abbrev rm_X12_fresh : Room := ({ frames := 2, cells := 0, slots := 0, locals := 43 } : Room)
def F_X12_fresh_43 (S0 : St) : Option (Int32 × St) := ob2 (F_X12_bad S0 (3 : Int32)) fun r2 U3 => if nb r2 then none else some (r2, U3)
def F_X12_fresh (S0 : St) (x1 : Int32) : Option (Int32 × St) := ob1 (F_X12_isName S0) fun r2 => if r2 = 0 then (ob2 (F_X12_bad S0 (1 : Int32)) fun r18 U19 => if nb r18 then none else some (r18, U19)) else (if oob (0 : Int32) 42 then none else ob1 (F_X12_seek S0 (13 : Int32) (S0.2.2.1 7 (0 : Int32).toNatClampNeg)) fun r6 => if 0 ≤ r6 then (F_X12_fresh_43 S0) else (if oob (1 : Int32) 42 then none else ob1 (F_X12_seek S0 (20 : Int32) (S0.2.2.1 7 (1 : Int32).toNatClampNeg)) fun r10 => if r10 < 0 then (if oob x1 26 then none else nw (sJ S0 9 x1 (S0.2.1 17)) fun U13 => ob1 (F_X12_next U13) fun U16 => some ((1 : Int32), U16)) else (F_X12_fresh_43 S0)))
set_option maxRecDepth 100000 in
set_option maxHeartbeats 4000000 in
theorem b_X12_fresh_43 {p : Program} {l : Launch} {e : Env} {s : State} {m : MethodId} {args : Array Value} {below : List Frame} {meth : Method} {c : Code} {D : va_G} {q : Nat → ClassId} {A : Nat → Prop} {o0 : Nat} {a0 : Nat → Nat} {r : Int32} {T0 : St} (C : cx p s m args meth c cX12_fresh 2 (some .boolean) RX12 D q A) {S0 : St} (hF : F_X12_fresh_43 S0 = some (r, T0)) {H : Heap} {locs : List Loc} (hP : va_P D vwCl (fl [g12 q o0 a0 S0]) H) (hD : va_D A (fl [g12 q o0 a0 S0])) (hS : va_S A s.heap H locs) {ls : Array Slot} (hl : lv_has ls 2 [(0, .ref o0)]) : W p l e rm_X12_fresh s m args below meth c H locs 0 0 (MQ below (QI D A r (fl [g12 q o0 a0 T0])) args s 0 0 A) (F0 m 43 ls []) := by
  unfold F_X12_fresh_43 at hF
  obtain ⟨hx, hb, hr, hml, hown, hts, hlk, hA, hK, hN, hV⟩ := id C
  refine lv_aload_n hx hb dX12_fresh_43 rfl (lv_at hl 0 rfl) ?_
  refine lv_iconst (v := (3 : Int32)) hx hb dX12_fresh_44 (by decide) ?_
  obtain ⟨r2, U3, hc1, hF⟩ := ob2_s hF
  refine k_iall C (k_rV (As := [.int (3 : Int32)]) (rest := []) C (c_X12_bad l D q o0 a0 S0 _ (3 : Int32) hc1) kc_X12_bad ml_X12_219 rfl rfl (by decide) hP hD hS (va_recv hK hP (ci := 12) (q0 := 0) rfl rfl) rfl hl.1 rfl (Nat.le_of_ble_eq_true rfl) dX12_fresh_45 (by decide)) hP hD hS (by simp only [List.map_cons, List.map_nil, gad12]) (fun H locs hP hD hS => ?_)
  obtain ⟨h4, hF⟩ := op_ck hF
  cases hF
  exact k_zret C h4 hP hS dX12_fresh_48
set_option maxRecDepth 100000 in
set_option maxHeartbeats 4000000 in
theorem c_X12_fresh (l : Launch) (D : va_G) (q : Nat → ClassId) (o0 : Nat) (a0 : Nat → Nat) (S0 : St) (sz : Nat) (x1 : Int32) {r : Int32} {T0 : St} (hF : F_X12_fresh S0 x1 = some (r, T0)) : Met l yX12_fresh (Cond.code yX12_fresh cX12_fresh 2 (some .boolean) :: TB) rm_X12_fresh (PC D q [.ref o0, .int x1] (fl [g12 q o0 a0 S0]) sz) ((fun A => QI D A r (fl [g12 q o0 a0 T0])) (va_A (fl [g12 q o0 a0 S0]) sz)) 0 0 (va_A (fl [g12 q o0 a0 S0]) sz) := by
  refine k_met (w0 := fl [g12 q o0 a0 S0]) (Q := fun A => QI D A r (fl [g12 q o0 a0 T0])) (by decide +kernel) (Nat.le_of_ble_eq_true rfl) ?_
  intro p e s m args below meth c A ls C hP hD hS hl
  have hl : lv_has ls 2 [(0, .ref o0), (1, .int x1)] := hl
  unfold F_X12_fresh at hF
  have C : cx p s m args meth c cX12_fresh 2 (some .boolean) RX12 D q A := C
  obtain ⟨hx, hb, hr, hml, hown, hts, hlk, hA, hK, hN, hV⟩ := id C
  refine lv_aload_n hx hb dX12_fresh_0 rfl (lv_at hl 0 rfl) ?_
  obtain ⟨r2, hc1, hF⟩ := ob1_s hF
  refine k_isame C (k_rV (As := []) (rest := []) C (c_X12_isName l D q o0 a0 S0 _ hc1) kc_X12_isName ml_X12_239 rfl rfl (by decide) hP hD hS (va_recv hK hP (ci := 12) (q0 := 0) rfl rfl) rfl hl.1 rfl (Nat.le_of_ble_eq_true rfl) dX12_fresh_1 (by decide)) hP hD hS (fun H locs hP hD hS => ?_)
  refine lv_if_ne (tgt := 13) hx hb dX12_fresh_4 (by decide) (fun c3 => ?_) (fun c3 => ?_)
  · have hF := op_f hF c3
    refine lv_aload_n hx hb dX12_fresh_13 rfl (lv_at hl 0 rfl) ?_
    refine lv_bipush (v := (13 : Int32)) hx hb dX12_fresh_14 (by decide) ?_
    refine lv_aload_n hx hb dX12_fresh_16 rfl (lv_at hl 0 rfl) ?_
    refine k_get (v := .ref (a0 8)) C fg_X12_37 hP 0 rfl rfl dX12_fresh_17 ?_
    refine lv_iconst (v := (0 : Int32)) hx hb dX12_fresh_20 (by decide) ?_
    obtain ⟨h4, hF⟩ := op_ck hF
    refine k_ild (f := S0.2.2.1 7) C hP 3 rfl h4 dX12_fresh_21 ?_
    obtain ⟨r6, hc5, hF⟩ := ob1_s hF
    refine k_isame C (k_rV (As := [.int (13 : Int32), .int (S0.2.2.1 7 (0 : Int32).toNatClampNeg)]) (rest := []) C (c_X12_seek l D q o0 a0 S0 _ (13 : Int32) (S0.2.2.1 7 (0 : Int32).toNatClampNeg) hc5) kc_X12_seek ml_X12_243 rfl rfl (by decide) hP hD hS (va_recv hK hP (ci := 12) (q0 := 0) rfl rfl) rfl hl.1 rfl (Nat.le_of_ble_eq_true rfl) dX12_fresh_22 (by decide)) hP hD hS (fun H locs hP hD hS => ?_)
    refine lv_if_ge (tgt := 43) hx hb dX12_fresh_25 (by decide) (fun c7 => ?_) (fun c7 => ?_)
    · have hF := op_t hF c7
      exact b_X12_fresh_43 C hF hP hD hS (lv_sub hl [0] rfl)
    · have hF := op_f hF c7
      refine lv_aload_n hx hb dX12_fresh_28 rfl (lv_at hl 0 rfl) ?_
      refine lv_bipush (v := (20 : Int32)) hx hb dX12_fresh_29 (by decide) ?_
      refine lv_aload_n hx hb dX12_fresh_31 rfl (lv_at hl 0 rfl) ?_
      refine k_get (v := .ref (a0 8)) C fg_X12_37 hP 0 rfl rfl dX12_fresh_32 ?_
      refine lv_iconst (v := (1 : Int32)) hx hb dX12_fresh_35 (by decide) ?_
      obtain ⟨h8, hF⟩ := op_ck hF
      refine k_ild (f := S0.2.2.1 7) C hP 3 rfl h8 dX12_fresh_36 ?_
      obtain ⟨r10, hc9, hF⟩ := ob1_s hF
      refine k_isame C (k_rV (As := [.int (20 : Int32), .int (S0.2.2.1 7 (1 : Int32).toNatClampNeg)]) (rest := []) C (c_X12_seek l D q o0 a0 S0 _ (20 : Int32) (S0.2.2.1 7 (1 : Int32).toNatClampNeg) hc9) kc_X12_seek ml_X12_243 rfl rfl (by decide) hP hD hS (va_recv hK hP (ci := 12) (q0 := 0) rfl rfl) rfl hl.1 rfl (Nat.le_of_ble_eq_true rfl) dX12_fresh_37 (by decide)) hP hD hS (fun H locs hP hD hS => ?_)
      refine lv_if_lt (tgt := 49) hx hb dX12_fresh_40 (by decide) (fun c11 => ?_) (fun c11 => ?_)
      · have hF := op_t hF c11
        refine lv_aload_n hx hb dX12_fresh_49 rfl (lv_at hl 0 rfl) ?_
        refine k_get (v := .ref (a0 10)) C fg_X12_43 hP 0 rfl rfl dX12_fresh_50 ?_
        refine lv_iload_n hx hb dX12_fresh_53 rfl (lv_at hl 1 rfl) ?_
        refine lv_aload_n hx hb dX12_fresh_54 rfl (lv_at hl 0 rfl) ?_
        refine k_get (v := .long (S0.2.1 17)) C fg_X12_206 hP 0 rfl rfl dX12_fresh_55 ?_
        obtain ⟨h12, hF⟩ := op_ck hF
        obtain ⟨U13, e14, hF⟩ := nw_s hF
        refine k_lst (f := S0.2.2.2 9) (W8 := fl [g12 q o0 a0 U13]) C hP hD hS 5 rfl h12 dX12_fresh_58 (by rw [e14]; rfl) (fun H locs hP hD hS => ?_)
        refine lv_aload_n hx hb dX12_fresh_59 rfl (lv_at hl 0 rfl) ?_
        obtain ⟨U16, hc15, hF⟩ := ob1_s hF
        refine k_vall C (k_rV (As := []) (rest := []) C (c_X12_next l D q o0 a0 U13 _ hc15) kc_X12_next ml_X12_222 rfl rfl (by decide) hP hD hS (va_recv hK hP (ci := 12) (q0 := 0) rfl rfl) rfl hl.1 rfl (Nat.le_of_ble_eq_true rfl) dX12_fresh_60 (by decide)) hP hD hS (by simp only [List.map_cons, List.map_nil, gad12]) (fun H locs hP hD hS => ?_)
        refine lv_iconst (v := (1 : Int32)) hx hb dX12_fresh_63 (by decide) ?_
        cases hF
        exact k_zret C (by decide) hP hS dX12_fresh_64
      · have hF := op_f hF c11
        exact b_X12_fresh_43 C hF hP hD hS (lv_sub hl [0] rfl)
  · have hF := op_t hF c3
    refine lv_aload_n hx hb dX12_fresh_7 rfl (lv_at hl 0 rfl) ?_
    refine lv_iconst (v := (1 : Int32)) hx hb dX12_fresh_8 (by decide) ?_
    obtain ⟨r18, U19, hc17, hF⟩ := ob2_s hF
    refine k_iall C (k_rV (As := [.int (1 : Int32)]) (rest := []) C (c_X12_bad l D q o0 a0 S0 _ (1 : Int32) hc17) kc_X12_bad ml_X12_219 rfl rfl (by decide) hP hD hS (va_recv hK hP (ci := 12) (q0 := 0) rfl rfl) rfl hl.1 rfl (Nat.le_of_ble_eq_true rfl) dX12_fresh_9 (by decide)) hP hD hS (by simp only [List.map_cons, List.map_nil, gad12]) (fun H locs hP hD hS => ?_)
    obtain ⟨h20, hF⟩ := op_ck hF
    cases hF
    exact k_zret C h20 hP hS dX12_fresh_12

abbrev rm_X12_looksAt : Room := ({ frames := 1, cells := 0, slots := 0, locals := 23 } : Room)
def F_X12_looksAt_38 (S0 : St) : Option (Int32 × St) := some ((1 : Int32), S0)
def F_X12_looksAt (S0 : St) (x1 : Int32) (x2 : Int32) : Option (Int32 × St) := ob1 (F_X12_isName S0) fun r2 => if r2 = 0 then (ob2 (F_X12_bad S0 (1 : Int32)) fun r14 U15 => if nb r14 then none else some (r14, U15)) else (ob1 (F_X12_seek S0 x1 x2) fun r5 => nw (sI S0 18 r5) fun U6 => if 0 ≤ (U6.1 18) then (F_X12_looksAt_38 U6) else (ob2 (F_X12_bad U6 (3 : Int32)) fun r10 U11 => if r10 = 0 then (some ((0 : Int32), U11)) else (F_X12_looksAt_38 U11)))
set_option maxRecDepth 100000 in
set_option maxHeartbeats 4000000 in
theorem b_X12_looksAt_38 {p : Program} {l : Launch} {e : Env} {s : State} {m : MethodId} {args : Array Value} {below : List Frame} {meth : Method} {c : Code} {D : va_G} {q : Nat → ClassId} {A : Nat → Prop} {o0 : Nat} {a0 : Nat → Nat} {r : Int32} {T0 : St} (C : cx p s m args meth c cX12_looksAt 3 (some .boolean) RX12 D q A) {S0 : St} (hF : F_X12_looksAt_38 S0 = some (r, T0)) {H : Heap} {locs : List Loc} (hP : va_P D vwCl (fl [g12 q o0 a0 S0]) H) (hD : va_D A (fl [g12 q o0 a0 S0])) (hS : va_S A s.heap H locs) {ls : Array Slot} (hl : lv_has ls 3 []) : W p l e rm_X12_looksAt s m args below meth c H locs 0 0 (MQ below (QI D A r (fl [g12 q o0 a0 T0])) args s 0 0 A) (F0 m 38 ls []) := by
  unfold F_X12_looksAt_38 at hF
  obtain ⟨hx, hb, hr, hml, hown, hts, hlk, hA, hK, hN, hV⟩ := id C
  refine lv_iconst (v := (1 : Int32)) hx hb dX12_looksAt_38 (by decide) ?_
  refine lv_goto (tgt := 43) hx hb dX12_looksAt_39 (by decide) ?_
  cases hF
  exact k_zret C (by decide) hP hS dX12_looksAt_43
set_option maxRecDepth 100000 in
set_option maxHeartbeats 4000000 in
theorem c_X12_looksAt (l : Launch) (D : va_G) (q : Nat → ClassId) (o0 : Nat) (a0 : Nat → Nat) (S0 : St) (sz : Nat) (x1 : Int32) (x2 : Int32) {r : Int32} {T0 : St} (hF : F_X12_looksAt S0 x1 x2 = some (r, T0)) : Met l yX12_looksAt (Cond.code yX12_looksAt cX12_looksAt 3 (some .boolean) :: TB) rm_X12_looksAt (PC D q [.ref o0, .int x1, .int x2] (fl [g12 q o0 a0 S0]) sz) ((fun A => QI D A r (fl [g12 q o0 a0 T0])) (va_A (fl [g12 q o0 a0 S0]) sz)) 0 0 (va_A (fl [g12 q o0 a0 S0]) sz) := by
  refine k_met (w0 := fl [g12 q o0 a0 S0]) (Q := fun A => QI D A r (fl [g12 q o0 a0 T0])) (by decide +kernel) (Nat.le_of_ble_eq_true rfl) ?_
  intro p e s m args below meth c A ls C hP hD hS hl
  have hl : lv_has ls 3 [(0, .ref o0), (1, .int x1), (2, .int x2)] := hl
  unfold F_X12_looksAt at hF
  have C : cx p s m args meth c cX12_looksAt 3 (some .boolean) RX12 D q A := C
  obtain ⟨hx, hb, hr, hml, hown, hts, hlk, hA, hK, hN, hV⟩ := id C
  refine lv_aload_n hx hb dX12_looksAt_0 rfl (lv_at hl 0 rfl) ?_
  obtain ⟨r2, hc1, hF⟩ := ob1_s hF
  refine k_isame C (k_rV (As := []) (rest := []) C (c_X12_isName l D q o0 a0 S0 _ hc1) kc_X12_isName ml_X12_239 rfl rfl (by decide) hP hD hS (va_recv hK hP (ci := 12) (q0 := 0) rfl rfl) rfl hl.1 rfl (Nat.le_of_ble_eq_true rfl) dX12_looksAt_1 (by decide)) hP hD hS (fun H locs hP hD hS => ?_)
  refine lv_if_ne (tgt := 13) hx hb dX12_looksAt_4 (by decide) (fun c3 => ?_) (fun c3 => ?_)
  · have hF := op_f hF c3
    refine lv_aload_n hx hb dX12_looksAt_13 rfl (lv_at hl 0 rfl) ?_
    refine lv_aload_n hx hb dX12_looksAt_14 rfl (lv_at hl 0 rfl) ?_
    refine lv_iload_n hx hb dX12_looksAt_15 rfl (lv_at hl 1 rfl) ?_
    refine lv_iload_n hx hb dX12_looksAt_16 rfl (lv_at hl 2 rfl) ?_
    obtain ⟨r5, hc4, hF⟩ := ob1_s hF
    refine k_isame C (k_rV (As := [.int x1, .int x2]) (rest := [.ref o0]) C (c_X12_seek l D q o0 a0 S0 _ x1 x2 hc4) kc_X12_seek ml_X12_243 rfl rfl (by decide) hP hD hS (va_recv hK hP (ci := 12) (q0 := 0) rfl rfl) rfl hl.1 rfl (Nat.le_of_ble_eq_true rfl) dX12_looksAt_17 (by decide)) hP hD hS (fun H locs hP hD hS => ?_)
    obtain ⟨U6, e7, hF⟩ := nw_s hF
    refine k_put (W8 := fl [g12 q o0 a0 U6]) C fp_X12_229 hP hD hS 0 rfl rfl rfl (Nat.le_of_ble_eq_true rfl) dX12_looksAt_20 (by rw [e7]; rfl) (fun H locs hP hD hS => ?_)
    refine lv_aload_n hx hb dX12_looksAt_23 rfl (lv_at hl 0 rfl) ?_
    refine k_get (v := .int (U6.1 18)) C fg_X12_229 hP 0 rfl rfl dX12_looksAt_24 ?_
    refine lv_if_ge (tgt := 38) hx hb dX12_looksAt_27 (by decide) (fun c8 => ?_) (fun c8 => ?_)
    · have hF := op_t hF c8
      exact b_X12_looksAt_38 C hF hP hD hS (lv_sub hl [] rfl)
    · have hF := op_f hF c8
      refine lv_aload_n hx hb dX12_looksAt_30 rfl (lv_at hl 0 rfl) ?_
      refine lv_iconst (v := (3 : Int32)) hx hb dX12_looksAt_31 (by decide) ?_
      obtain ⟨r10, U11, hc9, hF⟩ := ob2_s hF
      refine k_iall C (k_rV (As := [.int (3 : Int32)]) (rest := []) C (c_X12_bad l D q o0 a0 U6 _ (3 : Int32) hc9) kc_X12_bad ml_X12_219 rfl rfl (by decide) hP hD hS (va_recv hK hP (ci := 12) (q0 := 0) rfl rfl) rfl hl.1 rfl (Nat.le_of_ble_eq_true rfl) dX12_looksAt_32 (by decide)) hP hD hS (by simp only [List.map_cons, List.map_nil, gad12]) (fun H locs hP hD hS => ?_)
      refine lv_if_eq (tgt := 42) hx hb dX12_looksAt_35 (by decide) (fun c12 => ?_) (fun c12 => ?_)
      · have hF := op_t hF c12
        refine lv_iconst (v := (0 : Int32)) hx hb dX12_looksAt_42 (by decide) ?_
        cases hF
        exact k_zret C (by decide) hP hS dX12_looksAt_43
      · have hF := op_f hF c12
        exact b_X12_looksAt_38 C hF hP hD hS (lv_sub hl [] rfl)
  · have hF := op_t hF c3
    refine lv_aload_n hx hb dX12_looksAt_7 rfl (lv_at hl 0 rfl) ?_
    refine lv_iconst (v := (1 : Int32)) hx hb dX12_looksAt_8 (by decide) ?_
    obtain ⟨r14, U15, hc13, hF⟩ := ob2_s hF
    refine k_iall C (k_rV (As := [.int (1 : Int32)]) (rest := []) C (c_X12_bad l D q o0 a0 S0 _ (1 : Int32) hc13) kc_X12_bad ml_X12_219 rfl rfl (by decide) hP hD hS (va_recv hK hP (ci := 12) (q0 := 0) rfl rfl) rfl hl.1 rfl (Nat.le_of_ble_eq_true rfl) dX12_looksAt_9 (by decide)) hP hD hS (by simp only [List.map_cons, List.map_nil, gad12]) (fun H locs hP hD hS => ?_)
    obtain ⟨h16, hF⟩ := op_ck hF
    cases hF
    exact k_zret C h16 hP hS dX12_looksAt_12

abbrev rm_X12_takesName : Room := ({ frames := 2, cells := 0, slots := 0, locals := 45 } : Room)
def F_X12_takesName (S0 : St) (x1 : Int32) (x2 : Int32) : Option (Int32 × St) := ob2 (F_X12_looksAt S0 x1 x2) fun r2 U3 => if r2 = 0 then (some ((0 : Int32), U3)) else (ob1 (F_X12_next U3) fun U6 => some ((1 : Int32), U6))
set_option maxRecDepth 100000 in
set_option maxHeartbeats 4000000 in
theorem c_X12_takesName (l : Launch) (D : va_G) (q : Nat → ClassId) (o0 : Nat) (a0 : Nat → Nat) (S0 : St) (sz : Nat) (x1 : Int32) (x2 : Int32) {r : Int32} {T0 : St} (hF : F_X12_takesName S0 x1 x2 = some (r, T0)) : Met l yX12_takesName (Cond.code yX12_takesName cX12_takesName 3 (some .boolean) :: TB) rm_X12_takesName (PC D q [.ref o0, .int x1, .int x2] (fl [g12 q o0 a0 S0]) sz) ((fun A => QI D A r (fl [g12 q o0 a0 T0])) (va_A (fl [g12 q o0 a0 S0]) sz)) 0 0 (va_A (fl [g12 q o0 a0 S0]) sz) := by
  refine k_met (w0 := fl [g12 q o0 a0 S0]) (Q := fun A => QI D A r (fl [g12 q o0 a0 T0])) (by decide +kernel) (Nat.le_of_ble_eq_true rfl) ?_
  intro p e s m args below meth c A ls C hP hD hS hl
  have hl : lv_has ls 3 [(0, .ref o0), (1, .int x1), (2, .int x2)] := hl
  unfold F_X12_takesName at hF
  have C : cx p s m args meth c cX12_takesName 3 (some .boolean) RX12 D q A := C
  obtain ⟨hx, hb, hr, hml, hown, hts, hlk, hA, hK, hN, hV⟩ := id C
  refine lv_aload_n hx hb dX12_takesName_0 rfl (lv_at hl 0 rfl) ?_
  refine lv_iload_n hx hb dX12_takesName_1 rfl (lv_at hl 1 rfl) ?_
  refine lv_iload_n hx hb dX12_takesName_2 rfl (lv_at hl 2 rfl) ?_
  obtain ⟨r2, U3, hc1, hF⟩ := ob2_s hF
  refine k_iall C (k_rV (As := [.int x1, .int x2]) (rest := []) C (c_X12_looksAt l D q o0 a0 S0 _ x1 x2 hc1) kc_X12_looksAt ml_X12_247 rfl rfl (by decide) hP hD hS (va_recv hK hP (ci := 12) (q0 := 0) rfl rfl) rfl hl.1 rfl (Nat.le_of_ble_eq_true rfl) dX12_takesName_3 (by decide)) hP hD hS (by simp only [List.map_cons, List.map_nil, gad12]) (fun H locs hP hD hS => ?_)
  refine lv_if_ne (tgt := 11) hx hb dX12_takesName_6 (by decide) (fun c4 => ?_) (fun c4 => ?_)
  · have hF := op_f hF c4
    refine lv_aload_n hx hb dX12_takesName_11 rfl (lv_at hl 0 rfl) ?_
    obtain ⟨U6, hc5, hF⟩ := ob1_s hF
    refine k_vall C (k_rV (As := []) (rest := []) C (c_X12_next l D q o0 a0 U3 _ hc5) kc_X12_next ml_X12_222 rfl rfl (by decide) hP hD hS (va_recv hK hP (ci := 12) (q0 := 0) rfl rfl) rfl hl.1 rfl (Nat.le_of_ble_eq_true rfl) dX12_takesName_12 (by decide)) hP hD hS (by simp only [List.map_cons, List.map_nil, gad12]) (fun H locs hP hD hS => ?_)
    refine lv_iconst (v := (1 : Int32)) hx hb dX12_takesName_15 (by decide) ?_
    cases hF
    exact k_zret C (by decide) hP hS dX12_takesName_16
  · have hF := op_t hF c4
    refine lv_iconst (v := (0 : Int32)) hx hb dX12_takesName_9 (by decide) ?_
    cases hF
    exact k_zret C (by decide) hP hS dX12_takesName_10

abbrev rm_X12_readTurret : Room := ({ frames := 4, cells := 0, slots := 0, locals := 88 } : Room)
def F_X12_readTurret_125 (S0 : St) : Option (Int32 × St) := if oob (0 : Int32) 42 then none else if oob (0 : Int32) 42 then none else nw (sA S0 7 (0 : Int32) ((S0.2.2.1 7 (0 : Int32).toNatClampNeg) + (1 : Int32))) fun U3 => some ((1 : Int32), U3)
def F_X12_readTurret (S0 : St) : Option (Int32 × St) := if oob (0 : Int32) 42 then none else nw (S0.2.2.1 7 (0 : Int32).toNatClampNeg) fun v2 => if v2 = (7 : Int32) then (ob2 (F_X12_bad S0 (4 : Int32)) fun r39 U40 => if nb r39 then none else some (r39, U40)) else (ob1 (F_X12_next S0) fun U6 => ob2 (F_X12_fresh U6 ((13 : Int32) + v2)) fun r8 U9 => if r8 = 0 then (some ((0 : Int32), U9)) else (ob2 (F_X12_takesOneOf U9 (1 : Int32) (4 : Int32)) fun r12 U13 => if r12 = 0 then (some ((0 : Int32), U13)) else (if oob ((2 : Int32) + v2) 42 then none else nw (sA U13 7 ((2 : Int32) + v2) (U13.1 18)) fun U16 => ob2 (F_X12_takesOneOf U16 (5 : Int32) (8 : Int32)) fun r19 U20 => if r19 = 0 then (some ((0 : Int32), U20)) else (if oob ((9 : Int32) + v2) 42 then none else nw (sA U20 7 ((9 : Int32) + v2) (U20.1 18)) fun U23 => ob2 (F_X12_puts U23 ((16 : Int32) + v2) (1 : Int32) (60 : Int32)) fun r26 U27 => if r26 = 0 then (some ((0 : Int32), U27)) else (ob1 (F_X12_isWord U27 (1986096741 : Int64)) fun r30 => if r30 = 0 then (F_X12_readTurret_125 U27) else (if oob (23 : Int32) 42 then none else if oob (23 : Int32) 42 then none else nw (sA U27 7 (23 : Int32) ((U27.2.2.1 7 (23 : Int32).toNatClampNeg) ||| ((1 : Int32) <<< (v2 &&& 31)))) fun U34 => ob1 (F_X12_next U34) fun U37 => F_X12_readTurret_125 U37))))))
set_option maxRecDepth 100000 in
set_option maxHeartbeats 4000000 in
theorem b_X12_readTurret_125 {p : Program} {l : Launch} {e : Env} {s : State} {m : MethodId} {args : Array Value} {below : List Frame} {meth : Method} {c : Code} {D : va_G} {q : Nat → ClassId} {A : Nat → Prop} {o0 : Nat} {a0 : Nat → Nat} {r : Int32} {T0 : St} (C : cx p s m args meth c cX12_readTurret 2 (some .boolean) RX12 D q A) {S0 : St} (hF : F_X12_readTurret_125 S0 = some (r, T0)) {H : Heap} {locs : List Loc} (hP : va_P D vwCl (fl [g12 q o0 a0 S0]) H) (hD : va_D A (fl [g12 q o0 a0 S0])) (hS : va_S A s.heap H locs) {ls : Array Slot} (hl : lv_has ls 2 [(0, .ref o0)]) : W p l e rm_X12_readTurret s m args below meth c H locs 0 0 (MQ below (QI D A r (fl [g12 q o0 a0 T0])) args s 0 0 A) (F0 m 125 ls []) := by
  unfold F_X12_readTurret_125 at hF
  obtain ⟨hx, hb, hr, hml, hown, hts, hlk, hA, hK, hN, hV⟩ := id C
  refine lv_aload_n hx hb dX12_readTurret_125 rfl (lv_at hl 0 rfl) ?_
  refine k_get (v := .ref (a0 8)) C fg_X12_37 hP 0 rfl rfl dX12_readTurret_126 ?_
  refine lv_iconst (v := (0 : Int32)) hx hb dX12_readTurret_129 (by decide) ?_
  refine lv_dup2_11 hx hb dX12_readTurret_130 rfl rfl ?_
  obtain ⟨h1, hF⟩ := op_ck hF
  refine k_ild (f := S0.2.2.1 7) C hP 3 rfl h1 dX12_readTurret_131 ?_
  refine lv_iconst (v := (1 : Int32)) hx hb dX12_readTurret_132 (by decide) ?_
  refine lv_iadd hx hb dX12_readTurret_133 ?_
  obtain ⟨h2, hF⟩ := op_ck hF
  obtain ⟨U3, e4, hF⟩ := nw_s hF
  refine k_ist (f := S0.2.2.1 7) (W8 := fl [g12 q o0 a0 U3]) C hP hD hS 3 rfl h2 dX12_readTurret_134 (by rw [e4]; rfl) (fun H locs hP hD hS => ?_)
  refine lv_iconst (v := (1 : Int32)) hx hb dX12_readTurret_135 (by decide) ?_
  cases hF
  exact k_zret C (by decide) hP hS dX12_readTurret_136
set_option maxRecDepth 100000 in
set_option maxHeartbeats 4000000 in
theorem c_X12_readTurret (l : Launch) (D : va_G) (q : Nat → ClassId) (o0 : Nat) (a0 : Nat → Nat) (S0 : St) (sz : Nat) {r : Int32} {T0 : St} (hF : F_X12_readTurret S0 = some (r, T0)) : Met l yX12_readTurret (Cond.code yX12_readTurret cX12_readTurret 2 (some .boolean) :: TB) rm_X12_readTurret (PC D q [.ref o0] (fl [g12 q o0 a0 S0]) sz) ((fun A => QI D A r (fl [g12 q o0 a0 T0])) (va_A (fl [g12 q o0 a0 S0]) sz)) 0 0 (va_A (fl [g12 q o0 a0 S0]) sz) := by
  refine k_met (w0 := fl [g12 q o0 a0 S0]) (Q := fun A => QI D A r (fl [g12 q o0 a0 T0])) (by decide +kernel) (Nat.le_of_ble_eq_true rfl) ?_
  intro p e s m args below meth c A ls C hP hD hS hl
  have hl : lv_has ls 2 [(0, .ref o0)] := hl
  unfold F_X12_readTurret at hF
  have C : cx p s m args meth c cX12_readTurret 2 (some .boolean) RX12 D q A := C
  obtain ⟨hx, hb, hr, hml, hown, hts, hlk, hA, hK, hN, hV⟩ := id C
  refine lv_aload_n hx hb dX12_readTurret_0 rfl (lv_at hl 0 rfl) ?_
  refine k_get (v := .ref (a0 8)) C fg_X12_37 hP 0 rfl rfl dX12_readTurret_1 ?_
  refine lv_iconst (v := (0 : Int32)) hx hb dX12_readTurret_4 (by decide) ?_
  obtain ⟨h1, hF⟩ := op_ck hF
  refine k_ild (f := S0.2.2.1 7) C hP 3 rfl h1 dX12_readTurret_5 ?_
  obtain ⟨v2, e3, hF⟩ := nw_s hF
  refine k_rni e3 ?_
  refine lv_istore_n (lv' := [(1, .int v2), (0, .ref o0)]) hx hb dX12_readTurret_6 rfl hl (by decide) rfl (fun ls hl => ?_)
  refine lv_iload_n hx hb dX12_readTurret_7 rfl (lv_at hl 0 rfl) ?_
  refine lv_bipush (v := (7 : Int32)) hx hb dX12_readTurret_8 (by decide) ?_
  refine lv_icmp_ne (tgt := 19) hx hb dX12_readTurret_10 (by decide) (fun c4 => ?_) (fun c4 => ?_)
  · have hF := op_f hF c4
    refine lv_aload_n hx hb dX12_readTurret_19 rfl (lv_at hl 1 rfl) ?_
    obtain ⟨U6, hc5, hF⟩ := ob1_s hF
    refine k_vall C (k_rV (As := []) (rest := []) C (c_X12_next l D q o0 a0 S0 _ hc5) kc_X12_next ml_X12_222 rfl rfl (by decide) hP hD hS (va_recv hK hP (ci := 12) (q0 := 0) rfl rfl) rfl hl.1 rfl (Nat.le_of_ble_eq_true rfl) dX12_readTurret_20 (by decide)) hP hD hS (by simp only [List.map_cons, List.map_nil, gad12]) (fun H locs hP hD hS => ?_)
    refine lv_aload_n hx hb dX12_readTurret_23 rfl (lv_at hl 1 rfl) ?_
    refine lv_bipush (v := (13 : Int32)) hx hb dX12_readTurret_24 (by decide) ?_
    refine lv_iload_n hx hb dX12_readTurret_26 rfl (lv_at hl 0 rfl) ?_
    refine lv_iadd hx hb dX12_readTurret_27 ?_
    obtain ⟨r8, U9, hc7, hF⟩ := ob2_s hF
    refine k_iall C (k_rV (As := [.int ((13 : Int32) + v2)]) (rest := []) C (c_X12_fresh l D q o0 a0 U6 _ ((13 : Int32) + v2) hc7) kc_X12_fresh ml_X12_263 rfl rfl (by decide) hP hD hS (va_recv hK hP (ci := 12) (q0 := 0) rfl rfl) rfl hl.1 rfl (Nat.le_of_ble_eq_true rfl) dX12_readTurret_28 (by decide)) hP hD hS (by simp only [List.map_cons, List.map_nil, gad12]) (fun H locs hP hD hS => ?_)
    refine lv_if_eq (tgt := 43) hx hb dX12_readTurret_31 (by decide) (fun c10 => ?_) (fun c10 => ?_)
    · have hF := op_t hF c10
      refine lv_iconst (v := (0 : Int32)) hx hb dX12_readTurret_43 (by decide) ?_
      cases hF
      exact k_zret C (by decide) hP hS dX12_readTurret_44
    · have hF := op_f hF c10
      refine lv_aload_n hx hb dX12_readTurret_34 rfl (lv_at hl 1 rfl) ?_
      refine lv_iconst (v := (1 : Int32)) hx hb dX12_readTurret_35 (by decide) ?_
      refine lv_iconst (v := (4 : Int32)) hx hb dX12_readTurret_36 (by decide) ?_
      obtain ⟨r12, U13, hc11, hF⟩ := ob2_s hF
      refine k_iall C (k_rV (As := [.int (1 : Int32), .int (4 : Int32)]) (rest := []) C (c_X12_takesOneOf l D q o0 a0 U9 _ (1 : Int32) (4 : Int32) hc11) kc_X12_takesOneOf ml_X12_266 rfl rfl (by decide) hP hD hS (va_recv hK hP (ci := 12) (q0 := 0) rfl rfl) rfl hl.1 rfl (Nat.le_of_ble_eq_true rfl) dX12_readTurret_37 (by decide)) hP hD hS (by simp only [List.map_cons, List.map_nil, gad12]) (fun H locs hP hD hS => ?_)
      refine lv_if_ne (tgt := 45) hx hb dX12_readTurret_40 (by decide) (fun c14 => ?_) (fun c14 => ?_)
      · have hF := op_f hF c14
        refine lv_aload_n hx hb dX12_readTurret_45 rfl (lv_at hl 1 rfl) ?_
        refine k_get (v := .ref (a0 8)) C fg_X12_37 hP 0 rfl rfl dX12_readTurret_46 ?_
        refine lv_iconst (v := (2 : Int32)) hx hb dX12_readTurret_49 (by decide) ?_
        refine lv_iload_n hx hb dX12_readTurret_50 rfl (lv_at hl 0 rfl) ?_
        refine lv_iadd hx hb dX12_readTurret_51 ?_
        refine lv_aload_n hx hb dX12_readTurret_52 rfl (lv_at hl 1 rfl) ?_
        refine k_get (v := .int (U13.1 18)) C fg_X12_229 hP 0 rfl rfl dX12_readTurret_53 ?_
        obtain ⟨h15, hF⟩ := op_ck hF
        obtain ⟨U16, e17, hF⟩ := nw_s hF
        refine k_ist (f := U13.2.2.1 7) (W8 := fl [g12 q o0 a0 U16]) C hP hD hS 3 rfl h15 dX12_readTurret_56 (by rw [e17]; rfl) (fun H locs hP hD hS => ?_)
        refine lv_aload_n hx hb dX12_readTurret_57 rfl (lv_at hl 1 rfl) ?_
        refine lv_iconst (v := (5 : Int32)) hx hb dX12_readTurret_58 (by decide) ?_
        refine lv_bipush (v := (8 : Int32)) hx hb dX12_readTurret_59 (by decide) ?_
        obtain ⟨r19, U20, hc18, hF⟩ := ob2_s hF
        refine k_iall C (k_rV (As := [.int (5 : Int32), .int (8 : Int32)]) (rest := []) C (c_X12_takesOneOf l D q o0 a0 U16 _ (5 : Int32) (8 : Int32) hc18) kc_X12_takesOneOf ml_X12_266 rfl rfl (by decide) hP hD hS (va_recv hK hP (ci := 12) (q0 := 0) rfl rfl) rfl hl.1 rfl (Nat.le_of_ble_eq_true rfl) dX12_readTurret_61 (by decide)) hP hD hS (by simp only [List.map_cons, List.map_nil, gad12]) (fun H locs hP hD hS => ?_)
        refine lv_if_ne (tgt := 69) hx hb dX12_readTurret_64 (by decide) (fun c21 => ?_) (fun c21 => ?_)
        · have hF := op_f hF c21
          refine lv_aload_n hx hb dX12_readTurret_69 rfl (lv_at hl 1 rfl) ?_
          refine k_get (v := .ref (a0 8)) C fg_X12_37 hP 0 rfl rfl dX12_readTurret_70 ?_
          refine lv_bipush (v := (9 : Int32)) hx hb dX12_readTurret_73 (by decide) ?_
          refine lv_iload_n hx hb dX12_readTurret_75 rfl (lv_at hl 0 rfl) ?_
          refine lv_iadd hx hb dX12_readTurret_76 ?_
          refine lv_aload_n hx hb dX12_readTurret_77 rfl (lv_at hl 1 rfl) ?_
          refine k_get (v := .int (U20.1 18)) C fg_X12_229 hP 0 rfl rfl dX12_readTurret_78 ?_
          obtain ⟨h22, hF⟩ := op_ck hF
          obtain ⟨U23, e24, hF⟩ := nw_s hF
          refine k_ist (f := U20.2.2.1 7) (W8 := fl [g12 q o0 a0 U23]) C hP hD hS 3 rfl h22 dX12_readTurret_81 (by rw [e24]; rfl) (fun H locs hP hD hS => ?_)
          refine lv_aload_n hx hb dX12_readTurret_82 rfl (lv_at hl 1 rfl) ?_
          refine lv_bipush (v := (16 : Int32)) hx hb dX12_readTurret_83 (by decide) ?_
          refine lv_iload_n hx hb dX12_readTurret_85 rfl (lv_at hl 0 rfl) ?_
          refine lv_iadd hx hb dX12_readTurret_86 ?_
          refine lv_iconst (v := (1 : Int32)) hx hb dX12_readTurret_87 (by decide) ?_
          refine lv_bipush (v := (60 : Int32)) hx hb dX12_readTurret_88 (by decide) ?_
          obtain ⟨r26, U27, hc25, hF⟩ := ob2_s hF
          refine k_iall C (k_rV (As := [.int ((16 : Int32) + v2), .int (1 : Int32), .int (60 : Int32)]) (rest := []) C (c_X12_puts l D q o0 a0 U23 _ ((16 : Int32) + v2) (1 : Int32) (60 : Int32) hc25) kc_X12_puts ml_X12_269 rfl rfl (by decide) hP hD hS (va_recv hK hP (ci := 12) (q0 := 0) rfl rfl) rfl hl.1 rfl (Nat.le_of_ble_eq_true rfl) dX12_readTurret_90 (by decide)) hP hD hS (by simp only [List.map_cons, List.map_nil, gad12]) (fun H locs hP hD hS => ?_)
          refine lv_if_ne (tgt := 98) hx hb dX12_readTurret_93 (by decide) (fun c28 => ?_) (fun c28 => ?_)
          · have hF := op_f hF c28
            refine lv_aload_n hx hb dX12_readTurret_98 rfl (lv_at hl 1 rfl) ?_
            refine lv_ldc2 (v := (1986096741 : Int64)) hx hb hown (hts _ kL_X12_134) dX12_readTurret_99 ?_
            obtain ⟨r30, hc29, hF⟩ := ob1_s hF
            refine k_isame C (k_rV (As := [.long (1986096741 : Int64)]) (rest := []) C (c_X12_isWord l D q o0 a0 U27 _ (1986096741 : Int64) hc29) kc_X12_isWord ml_X12_250 rfl rfl (by decide) hP hD hS (va_recv hK hP (ci := 12) (q0 := 0) rfl rfl) rfl hl.1 rfl (Nat.le_of_ble_eq_true rfl) dX12_readTurret_102 (by decide)) hP hD hS (fun H locs hP hD hS => ?_)
            refine lv_if_eq (tgt := 125) hx hb dX12_readTurret_105 (by decide) (fun c31 => ?_) (fun c31 => ?_)
            · have hF := op_t hF c31
              exact b_X12_readTurret_125 C hF hP hD hS (lv_sub hl [1] rfl)
            · have hF := op_f hF c31
              refine lv_aload_n hx hb dX12_readTurret_108 rfl (lv_at hl 1 rfl) ?_
              refine k_get (v := .ref (a0 8)) C fg_X12_37 hP 0 rfl rfl dX12_readTurret_109 ?_
              refine lv_bipush (v := (23 : Int32)) hx hb dX12_readTurret_112 (by decide) ?_
              refine lv_dup2_11 hx hb dX12_readTurret_114 rfl rfl ?_
              obtain ⟨h32, hF⟩ := op_ck hF
              refine k_ild (f := U27.2.2.1 7) C hP 3 rfl h32 dX12_readTurret_115 ?_
              refine lv_iconst (v := (1 : Int32)) hx hb dX12_readTurret_116 (by decide) ?_
              refine lv_iload_n hx hb dX12_readTurret_117 rfl (lv_at hl 0 rfl) ?_
              refine lv_ishl hx hb dX12_readTurret_118 ?_
              refine lv_ior hx hb dX12_readTurret_119 ?_
              obtain ⟨h33, hF⟩ := op_ck hF
              obtain ⟨U34, e35, hF⟩ := nw_s hF
              refine k_ist (f := U27.2.2.1 7) (W8 := fl [g12 q o0 a0 U34]) C hP hD hS 3 rfl h33 dX12_readTurret_120 (by rw [e35]; rfl) (fun H locs hP hD hS => ?_)
              refine lv_aload_n hx hb dX12_readTurret_121 rfl (lv_at hl 1 rfl) ?_
              obtain ⟨U37, hc36, hF⟩ := ob1_s hF
              refine k_vall C (k_rV (As := []) (rest := []) C (c_X12_next l D q o0 a0 U34 _ hc36) kc_X12_next ml_X12_222 rfl rfl (by decide) hP hD hS (va_recv hK hP (ci := 12) (q0 := 0) rfl rfl) rfl hl.1 rfl (Nat.le_of_ble_eq_true rfl) dX12_readTurret_122 (by decide)) hP hD hS (by simp only [List.map_cons, List.map_nil, gad12]) (fun H locs hP hD hS => ?_)
              exact b_X12_readTurret_125 C hF hP hD hS (lv_sub hl [1] rfl)
          · have hF := op_t hF c28
            refine lv_iconst (v := (0 : Int32)) hx hb dX12_readTurret_96 (by decide) ?_
            cases hF
            exact k_zret C (by decide) hP hS dX12_readTurret_97
        · have hF := op_t hF c21
          refine lv_iconst (v := (0 : Int32)) hx hb dX12_readTurret_67 (by decide) ?_
          cases hF
          exact k_zret C (by decide) hP hS dX12_readTurret_68
      · have hF := op_t hF c14
        refine lv_iconst (v := (0 : Int32)) hx hb dX12_readTurret_43 (by decide) ?_
        cases hF
        exact k_zret C (by decide) hP hS dX12_readTurret_44
  · have hF := op_t hF c4
    refine lv_aload_n hx hb dX12_readTurret_13 rfl (lv_at hl 1 rfl) ?_
    refine lv_iconst (v := (4 : Int32)) hx hb dX12_readTurret_14 (by decide) ?_
    obtain ⟨r39, U40, hc38, hF⟩ := ob2_s hF
    refine k_iall C (k_rV (As := [.int (4 : Int32)]) (rest := []) C (c_X12_bad l D q o0 a0 S0 _ (4 : Int32) hc38) kc_X12_bad ml_X12_219 rfl rfl (by decide) hP hD hS (va_recv hK hP (ci := 12) (q0 := 0) rfl rfl) rfl hl.1 rfl (Nat.le_of_ble_eq_true rfl) dX12_readTurret_15 (by decide)) hP hD hS (by simp only [List.map_cons, List.map_nil, gad12]) (fun H locs hP hD hS => ?_)
    obtain ⟨h41, hF⟩ := op_ck hF
    cases hF
    exact k_zret C h41 hP hS dX12_readTurret_18

abbrev rm_X12_readPerson : Room := ({ frames := 4, cells := 0, slots := 0, locals := 88 } : Room)
def F_X12_readPerson (S0 : St) : Option (Int32 × St) := if oob (1 : Int32) 42 then none else nw (S0.2.2.1 7 (1 : Int32).toNatClampNeg) fun v2 => if v2 = (6 : Int32) then (ob2 (F_X12_bad S0 (4 : Int32)) fun r20 U21 => if nb r20 then none else some (r20, U21)) else (ob1 (F_X12_next S0) fun U6 => ob2 (F_X12_fresh U6 ((20 : Int32) + v2)) fun r8 U9 => if r8 = 0 then (some ((0 : Int32), U9)) else (ob2 (F_X12_puts U9 ((24 : Int32) + v2) (0 : Int32) (60 : Int32)) fun r12 U13 => if r12 = 0 then (some ((0 : Int32), U13)) else (if oob (1 : Int32) 42 then none else if oob (1 : Int32) 42 then none else nw (sA U13 7 (1 : Int32) ((U13.2.2.1 7 (1 : Int32).toNatClampNeg) + (1 : Int32))) fun U17 => some ((1 : Int32), U17))))
set_option maxRecDepth 100000 in
set_option maxHeartbeats 4000000 in
theorem c_X12_readPerson (l : Launch) (D : va_G) (q : Nat → ClassId) (o0 : Nat) (a0 : Nat → Nat) (S0 : St) (sz : Nat) {r : Int32} {T0 : St} (hF : F_X12_readPerson S0 = some (r, T0)) : Met l yX12_readPerson (Cond.code yX12_readPerson cX12_readPerson 2 (some .boolean) :: TB) rm_X12_readPerson (PC D q [.ref o0] (fl [g12 q o0 a0 S0]) sz) ((fun A => QI D A r (fl [g12 q o0 a0 T0])) (va_A (fl [g12 q o0 a0 S0]) sz)) 0 0 (va_A (fl [g12 q o0 a0 S0]) sz) := by
  refine k_met (w0 := fl [g12 q o0 a0 S0]) (Q := fun A => QI D A r (fl [g12 q o0 a0 T0])) (by decide +kernel) (Nat.le_of_ble_eq_true rfl) ?_
  intro p e s m args below meth c A ls C hP hD hS hl
  have hl : lv_has ls 2 [(0, .ref o0)] := hl
  unfold F_X12_readPerson at hF
  have C : cx p s m args meth c cX12_readPerson 2 (some .boolean) RX12 D q A := C
  obtain ⟨hx, hb, hr, hml, hown, hts, hlk, hA, hK, hN, hV⟩ := id C
  refine lv_aload_n hx hb dX12_readPerson_0 rfl (lv_at hl 0 rfl) ?_
  refine k_get (v := .ref (a0 8)) C fg_X12_37 hP 0 rfl rfl dX12_readPerson_1 ?_
  refine lv_iconst (v := (1 : Int32)) hx hb dX12_readPerson_4 (by decide) ?_
  obtain ⟨h1, hF⟩ := op_ck hF
  refine k_ild (f := S0.2.2.1 7) C hP 3 rfl h1 dX12_readPerson_5 ?_
  obtain ⟨v2, e3, hF⟩ := nw_s hF
  refine k_rni e3 ?_
  refine lv_istore_n (lv' := [(1, .int v2), (0, .ref o0)]) hx hb dX12_readPerson_6 rfl hl (by decide) rfl (fun ls hl => ?_)
  refine lv_iload_n hx hb dX12_readPerson_7 rfl (lv_at hl 0 rfl) ?_
  refine lv_bipush (v := (6 : Int32)) hx hb dX12_readPerson_8 (by decide) ?_
  refine lv_icmp_ne (tgt := 19) hx hb dX12_readPerson_10 (by decide) (fun c4 => ?_) (fun c4 => ?_)
  · have hF := op_f hF c4
    refine lv_aload_n hx hb dX12_readPerson_19 rfl (lv_at hl 1 rfl) ?_
    obtain ⟨U6, hc5, hF⟩ := ob1_s hF
    refine k_vall C (k_rV (As := []) (rest := []) C (c_X12_next l D q o0 a0 S0 _ hc5) kc_X12_next ml_X12_222 rfl rfl (by decide) hP hD hS (va_recv hK hP (ci := 12) (q0 := 0) rfl rfl) rfl hl.1 rfl (Nat.le_of_ble_eq_true rfl) dX12_readPerson_20 (by decide)) hP hD hS (by simp only [List.map_cons, List.map_nil, gad12]) (fun H locs hP hD hS => ?_)
    refine lv_aload_n hx hb dX12_readPerson_23 rfl (lv_at hl 1 rfl) ?_
    refine lv_bipush (v := (20 : Int32)) hx hb dX12_readPerson_24 (by decide) ?_
    refine lv_iload_n hx hb dX12_readPerson_26 rfl (lv_at hl 0 rfl) ?_
    refine lv_iadd hx hb dX12_readPerson_27 ?_
    obtain ⟨r8, U9, hc7, hF⟩ := ob2_s hF
    refine k_iall C (k_rV (As := [.int ((20 : Int32) + v2)]) (rest := []) C (c_X12_fresh l D q o0 a0 U6 _ ((20 : Int32) + v2) hc7) kc_X12_fresh ml_X12_263 rfl rfl (by decide) hP hD hS (va_recv hK hP (ci := 12) (q0 := 0) rfl rfl) rfl hl.1 rfl (Nat.le_of_ble_eq_true rfl) dX12_readPerson_28 (by decide)) hP hD hS (by simp only [List.map_cons, List.map_nil, gad12]) (fun H locs hP hD hS => ?_)
    refine lv_if_eq (tgt := 48) hx hb dX12_readPerson_31 (by decide) (fun c10 => ?_) (fun c10 => ?_)
    · have hF := op_t hF c10
      refine lv_iconst (v := (0 : Int32)) hx hb dX12_readPerson_48 (by decide) ?_
      cases hF
      exact k_zret C (by decide) hP hS dX12_readPerson_49
    · have hF := op_f hF c10
      refine lv_aload_n hx hb dX12_readPerson_34 rfl (lv_at hl 1 rfl) ?_
      refine lv_bipush (v := (24 : Int32)) hx hb dX12_readPerson_35 (by decide) ?_
      refine lv_iload_n hx hb dX12_readPerson_37 rfl (lv_at hl 0 rfl) ?_
      refine lv_iadd hx hb dX12_readPerson_38 ?_
      refine lv_iconst (v := (0 : Int32)) hx hb dX12_readPerson_39 (by decide) ?_
      refine lv_bipush (v := (60 : Int32)) hx hb dX12_readPerson_40 (by decide) ?_
      obtain ⟨r12, U13, hc11, hF⟩ := ob2_s hF
      refine k_iall C (k_rV (As := [.int ((24 : Int32) + v2), .int (0 : Int32), .int (60 : Int32)]) (rest := []) C (c_X12_puts l D q o0 a0 U9 _ ((24 : Int32) + v2) (0 : Int32) (60 : Int32) hc11) kc_X12_puts ml_X12_269 rfl rfl (by decide) hP hD hS (va_recv hK hP (ci := 12) (q0 := 0) rfl rfl) rfl hl.1 rfl (Nat.le_of_ble_eq_true rfl) dX12_readPerson_42 (by decide)) hP hD hS (by simp only [List.map_cons, List.map_nil, gad12]) (fun H locs hP hD hS => ?_)
      refine lv_if_ne (tgt := 50) hx hb dX12_readPerson_45 (by decide) (fun c14 => ?_) (fun c14 => ?_)
      · have hF := op_f hF c14
        refine lv_aload_n hx hb dX12_readPerson_50 rfl (lv_at hl 1 rfl) ?_
        refine k_get (v := .ref (a0 8)) C fg_X12_37 hP 0 rfl rfl dX12_readPerson_51 ?_
        refine lv_iconst (v := (1 : Int32)) hx hb dX12_readPerson_54 (by decide) ?_
        refine lv_dup2_11 hx hb dX12_readPerson_55 rfl rfl ?_
        obtain ⟨h15, hF⟩ := op_ck hF
        refine k_ild (f := U13.2.2.1 7) C hP 3 rfl h15 dX12_readPerson_56 ?_
        refine lv_iconst (v := (1 : Int32)) hx hb dX12_readPerson_57 (by decide) ?_
        refine lv_iadd hx hb dX12_readPerson_58 ?_
        obtain ⟨h16, hF⟩ := op_ck hF
        obtain ⟨U17, e18, hF⟩ := nw_s hF
        refine k_ist (f := U13.2.2.1 7) (W8 := fl [g12 q o0 a0 U17]) C hP hD hS 3 rfl h16 dX12_readPerson_59 (by rw [e18]; rfl) (fun H locs hP hD hS => ?_)
        refine lv_iconst (v := (1 : Int32)) hx hb dX12_readPerson_60 (by decide) ?_
        cases hF
        exact k_zret C (by decide) hP hS dX12_readPerson_61
      · have hF := op_t hF c14
        refine lv_iconst (v := (0 : Int32)) hx hb dX12_readPerson_48 (by decide) ?_
        cases hF
        exact k_zret C (by decide) hP hS dX12_readPerson_49
  · have hF := op_t hF c4
    refine lv_aload_n hx hb dX12_readPerson_13 rfl (lv_at hl 1 rfl) ?_
    refine lv_iconst (v := (4 : Int32)) hx hb dX12_readPerson_14 (by decide) ?_
    obtain ⟨r20, U21, hc19, hF⟩ := ob2_s hF
    refine k_iall C (k_rV (As := [.int (4 : Int32)]) (rest := []) C (c_X12_bad l D q o0 a0 S0 _ (4 : Int32) hc19) kc_X12_bad ml_X12_219 rfl rfl (by decide) hP hD hS (va_recv hK hP (ci := 12) (q0 := 0) rfl rfl) rfl hl.1 rfl (Nat.le_of_ble_eq_true rfl) dX12_readPerson_15 (by decide)) hP hD hS (by simp only [List.map_cons, List.map_nil, gad12]) (fun H locs hP hD hS => ?_)
    obtain ⟨h22, hF⟩ := op_ck hF
    cases hF
    exact k_zret C h22 hP hS dX12_readPerson_18

abbrev rm_X12_readMind : Room := ({ frames := 3, cells := 0, slots := 0, locals := 67 } : Room)
def F_X12_readMind_76 (S0 : St) : Option (Int32 × St) := ob2 (F_X12_bad S0 (3 : Int32)) fun r2 U3 => if nb r2 then none else some (r2, U3)
def F_X12_readMind (S0 : St) (x1 : Int32) : Option (Int32 × St) := ob1 (F_X12_next S0) fun U2 => if oob (1 : Int32) 42 then none else ob2 (F_X12_takesName U2 (20 : Int32) (U2.2.2.1 7 (1 : Int32).toNatClampNeg)) fun r5 U6 => if r5 = 0 then (some ((0 : Int32), U6)) else (ob2 (F_X12_isOneOf U6 (5 : Int32) (8 : Int32)) fun r9 U10 => if r9 = 0 then (some ((0 : Int32), U10)) else (if oob (x1 + (U6.1 18)) 42 then none else ob1 (F_X12_bitOf (U10.2.2.1 7 (x1 + (U6.1 18)).toNatClampNeg) (U10.1 18)) fun r14 => if r14 = 0 then (if oob (x1 + (U6.1 18)) 42 then none else ob1 (F_X12_bitOf (U10.2.2.1 7 (x1 + (U6.1 18)).toNatClampNeg) ((U10.1 18) ^^^ (4 : Int32))) fun r18 => if r18 = 0 then (if oob (x1 + (U6.1 18)) 42 then none else if oob (x1 + (U6.1 18)) 42 then none else nw (sA U10 7 (x1 + (U6.1 18)) ((U10.2.2.1 7 (x1 + (U6.1 18)).toNatClampNeg) ||| ((1 : Int32) <<< ((U10.1 18) &&& 31)))) fun U22 => ob1 (F_X12_next U22) fun U25 => some ((1 : Int32), U25)) else (F_X12_readMind_76 U10)) else (F_X12_readMind_76 U10)))
set_option maxRecDepth 100000 in
set_option maxHeartbeats 4000000 in
theorem b_X12_readMind_76 {p : Program} {l : Launch} {e : Env} {s : State} {m : MethodId} {args : Array Value} {below : List Frame} {meth : Method} {c : Code} {D : va_G} {q : Nat → ClassId} {A : Nat → Prop} {o0 : Nat} {a0 : Nat → Nat} {r : Int32} {T0 : St} (C : cx p s m args meth c cX12_readMind 3 (some .boolean) RX12 D q A) {S0 : St} (hF : F_X12_readMind_76 S0 = some (r, T0)) {H : Heap} {locs : List Loc} (hP : va_P D vwCl (fl [g12 q o0 a0 S0]) H) (hD : va_D A (fl [g12 q o0 a0 S0])) (hS : va_S A s.heap H locs) {ls : Array Slot} (hl : lv_has ls 3 [(0, .ref o0)]) : W p l e rm_X12_readMind s m args below meth c H locs 0 0 (MQ below (QI D A r (fl [g12 q o0 a0 T0])) args s 0 0 A) (F0 m 76 ls []) := by
  unfold F_X12_readMind_76 at hF
  obtain ⟨hx, hb, hr, hml, hown, hts, hlk, hA, hK, hN, hV⟩ := id C
  refine lv_aload_n hx hb dX12_readMind_76 rfl (lv_at hl 0 rfl) ?_
  refine lv_iconst (v := (3 : Int32)) hx hb dX12_readMind_77 (by decide) ?_
  obtain ⟨r2, U3, hc1, hF⟩ := ob2_s hF
  refine k_iall C (k_rV (As := [.int (3 : Int32)]) (rest := []) C (c_X12_bad l D q o0 a0 S0 _ (3 : Int32) hc1) kc_X12_bad ml_X12_219 rfl rfl (by decide) hP hD hS (va_recv hK hP (ci := 12) (q0 := 0) rfl rfl) rfl hl.1 rfl (Nat.le_of_ble_eq_true rfl) dX12_readMind_78 (by decide)) hP hD hS (by simp only [List.map_cons, List.map_nil, gad12]) (fun H locs hP hD hS => ?_)
  obtain ⟨h4, hF⟩ := op_ck hF
  cases hF
  exact k_zret C h4 hP hS dX12_readMind_81
set_option maxRecDepth 100000 in
set_option maxHeartbeats 4000000 in
theorem c_X12_readMind (l : Launch) (D : va_G) (q : Nat → ClassId) (o0 : Nat) (a0 : Nat → Nat) (S0 : St) (sz : Nat) (x1 : Int32) {r : Int32} {T0 : St} (hF : F_X12_readMind S0 x1 = some (r, T0)) : Met l yX12_readMind (Cond.code yX12_readMind cX12_readMind 3 (some .boolean) :: TB) rm_X12_readMind (PC D q [.ref o0, .int x1] (fl [g12 q o0 a0 S0]) sz) ((fun A => QI D A r (fl [g12 q o0 a0 T0])) (va_A (fl [g12 q o0 a0 S0]) sz)) 0 0 (va_A (fl [g12 q o0 a0 S0]) sz) := by
  refine k_met (w0 := fl [g12 q o0 a0 S0]) (Q := fun A => QI D A r (fl [g12 q o0 a0 T0])) (by decide +kernel) (Nat.le_of_ble_eq_true rfl) ?_
  intro p e s m args below meth c A ls C hP hD hS hl
  have hl : lv_has ls 3 [(0, .ref o0), (1, .int x1)] := hl
  unfold F_X12_readMind at hF
  have C : cx p s m args meth c cX12_readMind 3 (some .boolean) RX12 D q A := C
  obtain ⟨hx, hb, hr, hml, hown, hts, hlk, hA, hK, hN, hV⟩ := id C
  refine lv_aload_n hx hb dX12_readMind_0 rfl (lv_at hl 0 rfl) ?_
  obtain ⟨U2, hc1, hF⟩ := ob1_s hF
  refine k_vall C (k_rV (As := []) (rest := []) C (c_X12_next l D q o0 a0 S0 _ hc1) kc_X12_next ml_X12_222 rfl rfl (by decide) hP hD hS (va_recv hK hP (ci := 12) (q0 := 0) rfl rfl) rfl hl.1 rfl (Nat.le_of_ble_eq_true rfl) dX12_readMind_1 (by decide)) hP hD hS (by simp only [List.map_cons, List.map_nil, gad12]) (fun H locs hP hD hS => ?_)
  refine lv_aload_n hx hb dX12_readMind_4 rfl (lv_at hl 0 rfl) ?_
  refine lv_bipush (v := (20 : Int32)) hx hb dX12_readMind_5 (by decide) ?_
  refine lv_aload_n hx hb dX12_readMind_7 rfl (lv_at hl 0 rfl) ?_
  refine k_get (v := .ref (a0 8)) C fg_X12_37 hP 0 rfl rfl dX12_readMind_8 ?_
  refine lv_iconst (v := (1 : Int32)) hx hb dX12_readMind_11 (by decide) ?_
  obtain ⟨h3, hF⟩ := op_ck hF
  refine k_ild (f := U2.2.2.1 7) C hP 3 rfl h3 dX12_readMind_12 ?_
  obtain ⟨r5, U6, hc4, hF⟩ := ob2_s hF
  refine k_iall C (k_rV (As := [.int (20 : Int32), .int (U2.2.2.1 7 (1 : Int32).toNatClampNeg)]) (rest := []) C (c_X12_takesName l D q o0 a0 U2 _ (20 : Int32) (U2.2.2.1 7 (1 : Int32).toNatClampNeg) hc4) kc_X12_takesName ml_X12_272 rfl rfl (by decide) hP hD hS (va_recv hK hP (ci := 12) (q0 := 0) rfl rfl) rfl hl.1 rfl (Nat.le_of_ble_eq_true rfl) dX12_readMind_13 (by decide)) hP hD hS (by simp only [List.map_cons, List.map_nil, gad12]) (fun H locs hP hD hS => ?_)
  refine lv_if_ne (tgt := 21) hx hb dX12_readMind_16 (by decide) (fun c7 => ?_) (fun c7 => ?_)
  · have hF := op_f hF c7
    refine lv_aload_n hx hb dX12_readMind_21 rfl (lv_at hl 0 rfl) ?_
    refine k_get (v := .int (U6.1 18)) C fg_X12_229 hP 0 rfl rfl dX12_readMind_22 ?_
    refine lv_istore_n (lv' := [(2, .int (U6.1 18)), (0, .ref o0), (1, .int x1)]) hx hb dX12_readMind_25 rfl hl (by decide) rfl (fun ls hl => ?_)
    refine lv_aload_n hx hb dX12_readMind_26 rfl (lv_at hl 1 rfl) ?_
    refine lv_iconst (v := (5 : Int32)) hx hb dX12_readMind_27 (by decide) ?_
    refine lv_bipush (v := (8 : Int32)) hx hb dX12_readMind_28 (by decide) ?_
    obtain ⟨r9, U10, hc8, hF⟩ := ob2_s hF
    refine k_iall C (k_rV (As := [.int (5 : Int32), .int (8 : Int32)]) (rest := []) C (c_X12_isOneOf l D q o0 a0 U6 _ (5 : Int32) (8 : Int32) hc8) kc_X12_isOneOf ml_X12_236 rfl rfl (by decide) hP hD hS (va_recv hK hP (ci := 12) (q0 := 0) rfl rfl) rfl hl.1 rfl (Nat.le_of_ble_eq_true rfl) dX12_readMind_30 (by decide)) hP hD hS (by simp only [List.map_cons, List.map_nil, gad12]) (fun H locs hP hD hS => ?_)
    refine lv_if_ne (tgt := 38) hx hb dX12_readMind_33 (by decide) (fun c11 => ?_) (fun c11 => ?_)
    · have hF := op_f hF c11
      refine lv_aload_n hx hb dX12_readMind_38 rfl (lv_at hl 1 rfl) ?_
      refine k_get (v := .ref (a0 8)) C fg_X12_37 hP 0 rfl rfl dX12_readMind_39 ?_
      refine lv_iload_n hx hb dX12_readMind_42 rfl (lv_at hl 2 rfl) ?_
      refine lv_iload_n hx hb dX12_readMind_43 rfl (lv_at hl 0 rfl) ?_
      refine lv_iadd hx hb dX12_readMind_44 ?_
      obtain ⟨h12, hF⟩ := op_ck hF
      refine k_ild (f := U10.2.2.1 7) C hP 3 rfl h12 dX12_readMind_45 ?_
      refine lv_aload_n hx hb dX12_readMind_46 rfl (lv_at hl 1 rfl) ?_
      refine k_get (v := .int (U10.1 18)) C fg_X12_229 hP 0 rfl rfl dX12_readMind_47 ?_
      obtain ⟨r14, hc13, hF⟩ := ob1_s hF
      refine k_inil C (k_rS (As := [.int (U10.2.2.1 7 (x1 + (U6.1 18)).toNatClampNeg), .int (U10.1 18)]) (rest := []) C (c_X12_bitOf l D q _ (U10.2.2.1 7 (x1 + (U6.1 18)).toNatClampNeg) (U10.1 18) hc13) kc_X12_bitOf ml_X12_275 rfl rfl (by decide) (fun k x h => by simp at h) (⟨fun i j x y h => by simp at h, fun k x h => by simp at h⟩ : va_D A []) hS rfl hl.1 rfl (Nat.le_of_ble_eq_true rfl) dX12_readMind_50 (by decide)) hP hD hS (fun H locs hP hD hS => ?_)
      refine lv_if_ne (tgt := 76) hx hb dX12_readMind_53 (by decide) (fun c15 => ?_) (fun c15 => ?_)
      · have hF := op_f hF c15
        exact b_X12_readMind_76 C hF hP hD hS (lv_sub hl [1] rfl)
      · have hF := op_t hF c15
        refine lv_aload_n hx hb dX12_readMind_56 rfl (lv_at hl 1 rfl) ?_
        refine k_get (v := .ref (a0 8)) C fg_X12_37 hP 0 rfl rfl dX12_readMind_57 ?_
        refine lv_iload_n hx hb dX12_readMind_60 rfl (lv_at hl 2 rfl) ?_
        refine lv_iload_n hx hb dX12_readMind_61 rfl (lv_at hl 0 rfl) ?_
        refine lv_iadd hx hb dX12_readMind_62 ?_
        obtain ⟨h16, hF⟩ := op_ck hF
        refine k_ild (f := U10.2.2.1 7) C hP 3 rfl h16 dX12_readMind_63 ?_
        refine lv_aload_n hx hb dX12_readMind_64 rfl (lv_at hl 1 rfl) ?_
        refine k_get (v := .int (U10.1 18)) C fg_X12_229 hP 0 rfl rfl dX12_readMind_65 ?_
        refine lv_iconst (v := (4 : Int32)) hx hb dX12_readMind_68 (by decide) ?_
        refine lv_ixor hx hb dX12_readMind_69 ?_
        obtain ⟨r18, hc17, hF⟩ := ob1_s hF
        refine k_inil C (k_rS (As := [.int (U10.2.2.1 7 (x1 + (U6.1 18)).toNatClampNeg), .int ((U10.1 18) ^^^ (4 : Int32))]) (rest := []) C (c_X12_bitOf l D q _ (U10.2.2.1 7 (x1 + (U6.1 18)).toNatClampNeg) ((U10.1 18) ^^^ (4 : Int32)) hc17) kc_X12_bitOf ml_X12_275 rfl rfl (by decide) (fun k x h => by simp at h) (⟨fun i j x y h => by simp at h, fun k x h => by simp at h⟩ : va_D A []) hS rfl hl.1 rfl (Nat.le_of_ble_eq_true rfl) dX12_readMind_70 (by decide)) hP hD hS (fun H locs hP hD hS => ?_)
        refine lv_if_eq (tgt := 82) hx hb dX12_readMind_73 (by decide) (fun c19 => ?_) (fun c19 => ?_)
        · have hF := op_t hF c19
          refine lv_aload_n hx hb dX12_readMind_82 rfl (lv_at hl 1 rfl) ?_
          refine k_get (v := .ref (a0 8)) C fg_X12_37 hP 0 rfl rfl dX12_readMind_83 ?_
          refine lv_iload_n hx hb dX12_readMind_86 rfl (lv_at hl 2 rfl) ?_
          refine lv_iload_n hx hb dX12_readMind_87 rfl (lv_at hl 0 rfl) ?_
          refine lv_iadd hx hb dX12_readMind_88 ?_
          refine lv_dup2_11 hx hb dX12_readMind_89 rfl rfl ?_
          obtain ⟨h20, hF⟩ := op_ck hF
          refine k_ild (f := U10.2.2.1 7) C hP 3 rfl h20 dX12_readMind_90 ?_
          refine lv_iconst (v := (1 : Int32)) hx hb dX12_readMind_91 (by decide) ?_
          refine lv_aload_n hx hb dX12_readMind_92 rfl (lv_at hl 1 rfl) ?_
          refine k_get (v := .int (U10.1 18)) C fg_X12_229 hP 0 rfl rfl dX12_readMind_93 ?_
          refine lv_ishl hx hb dX12_readMind_96 ?_
          refine lv_ior hx hb dX12_readMind_97 ?_
          obtain ⟨h21, hF⟩ := op_ck hF
          obtain ⟨U22, e23, hF⟩ := nw_s hF
          refine k_ist (f := U10.2.2.1 7) (W8 := fl [g12 q o0 a0 U22]) C hP hD hS 3 rfl h21 dX12_readMind_98 (by rw [e23]; rfl) (fun H locs hP hD hS => ?_)
          refine lv_aload_n hx hb dX12_readMind_99 rfl (lv_at hl 1 rfl) ?_
          obtain ⟨U25, hc24, hF⟩ := ob1_s hF
          refine k_vall C (k_rV (As := []) (rest := []) C (c_X12_next l D q o0 a0 U22 _ hc24) kc_X12_next ml_X12_222 rfl rfl (by decide) hP hD hS (va_recv hK hP (ci := 12) (q0 := 0) rfl rfl) rfl hl.1 rfl (Nat.le_of_ble_eq_true rfl) dX12_readMind_100 (by decide)) hP hD hS (by simp only [List.map_cons, List.map_nil, gad12]) (fun H locs hP hD hS => ?_)
          refine lv_iconst (v := (1 : Int32)) hx hb dX12_readMind_103 (by decide) ?_
          cases hF
          exact k_zret C (by decide) hP hS dX12_readMind_104
        · have hF := op_f hF c19
          exact b_X12_readMind_76 C hF hP hD hS (lv_sub hl [1] rfl)
    · have hF := op_t hF c11
      refine lv_iconst (v := (0 : Int32)) hx hb dX12_readMind_36 (by decide) ?_
      cases hF
      exact k_zret C (by decide) hP hS dX12_readMind_37
  · have hF := op_t hF c7
    refine lv_iconst (v := (0 : Int32)) hx hb dX12_readMind_19 (by decide) ?_
    cases hF
    exact k_zret C (by decide) hP hS dX12_readMind_20

abbrev rm_X12_line : Room := ({ frames := 5, cells := 0, slots := 0, locals := 109 } : Room)
def F_X12_line (S0 : St) : Option (Int32 × St) := ob1 (F_X12_isWord S0 (128047780095348 : Int64)) fun r2 => if r2 = 0 then (ob1 (F_X12_isWord S0 (123581014175598 : Int64)) fun r5 => if r5 = 0 then (ob1 (F_X12_isWord S0 (127991794264947 : Int64)) fun r8 => if r8 = 0 then (ob1 (F_X12_isWord S0 (512735736947 : Int64)) fun r11 => if r11 = 0 then (ob2 (F_X12_bad S0 (1 : Int32)) fun r14 U15 => if nb r14 then none else some (r14, U15)) else (ob2 (F_X12_readMind S0 (36 : Int32)) fun r18 U19 => if nb r18 then none else some (r18, U19))) else (ob2 (F_X12_readMind S0 (30 : Int32)) fun r22 U23 => if nb r22 then none else some (r22, U23))) else (ob2 (F_X12_readPerson S0) fun r26 U27 => if nb r26 then none else some (r26, U27))) else (ob2 (F_X12_readTurret S0) fun r30 U31 => if nb r30 then none else some (r30, U31))
set_option maxRecDepth 100000 in
set_option maxHeartbeats 4000000 in
theorem c_X12_line (l : Launch) (D : va_G) (q : Nat → ClassId) (o0 : Nat) (a0 : Nat → Nat) (S0 : St) (sz : Nat) {r : Int32} {T0 : St} (hF : F_X12_line S0 = some (r, T0)) : Met l yX12_line (Cond.code yX12_line cX12_line 1 (some .boolean) :: TB) rm_X12_line (PC D q [.ref o0] (fl [g12 q o0 a0 S0]) sz) ((fun A => QI D A r (fl [g12 q o0 a0 T0])) (va_A (fl [g12 q o0 a0 S0]) sz)) 0 0 (va_A (fl [g12 q o0 a0 S0]) sz) := by
  refine k_met (w0 := fl [g12 q o0 a0 S0]) (Q := fun A => QI D A r (fl [g12 q o0 a0 T0])) (by decide +kernel) (Nat.le_of_ble_eq_true rfl) ?_
  intro p e s m args below meth c A ls C hP hD hS hl
  have hl : lv_has ls 1 [(0, .ref o0)] := hl
  unfold F_X12_line at hF
  have C : cx p s m args meth c cX12_line 1 (some .boolean) RX12 D q A := C
  obtain ⟨hx, hb, hr, hml, hown, hts, hlk, hA, hK, hN, hV⟩ := id C
  refine lv_aload_n hx hb dX12_line_0 rfl (lv_at hl 0 rfl) ?_
  refine lv_ldc2 (v := (128047780095348 : Int64)) hx hb hown (hts _ kL_X12_108) dX12_line_1 ?_
  obtain ⟨r2, hc1, hF⟩ := ob1_s hF
  refine k_isame C (k_rV (As := [.long (128047780095348 : Int64)]) (rest := []) C (c_X12_isWord l D q o0 a0 S0 _ (128047780095348 : Int64) hc1) kc_X12_isWord ml_X12_250 rfl rfl (by decide) hP hD hS (va_recv hK hP (ci := 12) (q0 := 0) rfl rfl) rfl hl.1 rfl (Nat.le_of_ble_eq_true rfl) dX12_line_4 (by decide)) hP hD hS (fun H locs hP hD hS => ?_)
  refine lv_if_eq (tgt := 15) hx hb dX12_line_7 (by decide) (fun c3 => ?_) (fun c3 => ?_)
  · have hF := op_t hF c3
    refine lv_aload_n hx hb dX12_line_15 rfl (lv_at hl 0 rfl) ?_
    refine lv_ldc2 (v := (123581014175598 : Int64)) hx hb hown (hts _ kL_X12_136) dX12_line_16 ?_
    obtain ⟨r5, hc4, hF⟩ := ob1_s hF
    refine k_isame C (k_rV (As := [.long (123581014175598 : Int64)]) (rest := []) C (c_X12_isWord l D q o0 a0 S0 _ (123581014175598 : Int64) hc4) kc_X12_isWord ml_X12_250 rfl rfl (by decide) hP hD hS (va_recv hK hP (ci := 12) (q0 := 0) rfl rfl) rfl hl.1 rfl (Nat.le_of_ble_eq_true rfl) dX12_line_19 (by decide)) hP hD hS (fun H locs hP hD hS => ?_)
    refine lv_if_eq (tgt := 30) hx hb dX12_line_22 (by decide) (fun c6 => ?_) (fun c6 => ?_)
    · have hF := op_t hF c6
      refine lv_aload_n hx hb dX12_line_30 rfl (lv_at hl 0 rfl) ?_
      refine lv_ldc2 (v := (127991794264947 : Int64)) hx hb hown (hts _ kL_X12_138) dX12_line_31 ?_
      obtain ⟨r8, hc7, hF⟩ := ob1_s hF
      refine k_isame C (k_rV (As := [.long (127991794264947 : Int64)]) (rest := []) C (c_X12_isWord l D q o0 a0 S0 _ (127991794264947 : Int64) hc7) kc_X12_isWord ml_X12_250 rfl rfl (by decide) hP hD hS (va_recv hK hP (ci := 12) (q0 := 0) rfl rfl) rfl hl.1 rfl (Nat.le_of_ble_eq_true rfl) dX12_line_34 (by decide)) hP hD hS (fun H locs hP hD hS => ?_)
      refine lv_if_eq (tgt := 47) hx hb dX12_line_37 (by decide) (fun c9 => ?_) (fun c9 => ?_)
      · have hF := op_t hF c9
        refine lv_aload_n hx hb dX12_line_47 rfl (lv_at hl 0 rfl) ?_
        refine lv_ldc2 (v := (512735736947 : Int64)) hx hb hown (hts _ kL_X12_140) dX12_line_48 ?_
        obtain ⟨r11, hc10, hF⟩ := ob1_s hF
        refine k_isame C (k_rV (As := [.long (512735736947 : Int64)]) (rest := []) C (c_X12_isWord l D q o0 a0 S0 _ (512735736947 : Int64) hc10) kc_X12_isWord ml_X12_250 rfl rfl (by decide) hP hD hS (va_recv hK hP (ci := 12) (q0 := 0) rfl rfl) rfl hl.1 rfl (Nat.le_of_ble_eq_true rfl) dX12_line_51 (by decide)) hP hD hS (fun H locs hP hD hS => ?_)
        refine lv_if_eq (tgt := 66) hx hb dX12_line_54 (by decide) (fun c12 => ?_) (fun c12 => ?_)
        · have hF := op_t hF c12
          refine lv_aload_n hx hb dX12_line_66 rfl (lv_at hl 0 rfl) ?_
          refine lv_iconst (v := (1 : Int32)) hx hb dX12_line_67 (by decide) ?_
          obtain ⟨r14, U15, hc13, hF⟩ := ob2_s hF
          refine k_iall C (k_rV (As := [.int (1 : Int32)]) (rest := []) C (c_X12_bad l D q o0 a0 S0 _ (1 : Int32) hc13) kc_X12_bad ml_X12_219 rfl rfl (by decide) hP hD hS (va_recv hK hP (ci := 12) (q0 := 0) rfl rfl) rfl hl.1 rfl (Nat.le_of_ble_eq_true rfl) dX12_line_68 (by decide)) hP hD hS (by simp only [List.map_cons, List.map_nil, gad12]) (fun H locs hP hD hS => ?_)
          obtain ⟨h16, hF⟩ := op_ck hF
          cases hF
          exact k_zret C h16 hP hS dX12_line_71
        · have hF := op_f hF c12
          refine lv_aload_n hx hb dX12_line_57 rfl (lv_at hl 0 rfl) ?_
          refine lv_bipush (v := (36 : Int32)) hx hb dX12_line_58 (by decide) ?_
          obtain ⟨r18, U19, hc17, hF⟩ := ob2_s hF
          refine k_iall C (k_rV (As := [.int (36 : Int32)]) (rest := []) C (c_X12_readMind l D q o0 a0 S0 _ (36 : Int32) hc17) kc_X12_readMind ml_X12_260 rfl rfl (by decide) hP hD hS (va_recv hK hP (ci := 12) (q0 := 0) rfl rfl) rfl hl.1 rfl (Nat.le_of_ble_eq_true rfl) dX12_line_60 (by decide)) hP hD hS (by simp only [List.map_cons, List.map_nil, gad12]) (fun H locs hP hD hS => ?_)
          refine lv_goto (tgt := 71) hx hb dX12_line_63 (by decide) ?_
          obtain ⟨h20, hF⟩ := op_ck hF
          cases hF
          exact k_zret C h20 hP hS dX12_line_71
      · have hF := op_f hF c9
        refine lv_aload_n hx hb dX12_line_40 rfl (lv_at hl 0 rfl) ?_
        refine lv_bipush (v := (30 : Int32)) hx hb dX12_line_41 (by decide) ?_
        obtain ⟨r22, U23, hc21, hF⟩ := ob2_s hF
        refine k_iall C (k_rV (As := [.int (30 : Int32)]) (rest := []) C (c_X12_readMind l D q o0 a0 S0 _ (30 : Int32) hc21) kc_X12_readMind ml_X12_260 rfl rfl (by decide) hP hD hS (va_recv hK hP (ci := 12) (q0 := 0) rfl rfl) rfl hl.1 rfl (Nat.le_of_ble_eq_true rfl) dX12_line_43 (by decide)) hP hD hS (by simp only [List.map_cons, List.map_nil, gad12]) (fun H locs hP hD hS => ?_)
        obtain ⟨h24, hF⟩ := op_ck hF
        cases hF
        exact k_zret C h24 hP hS dX12_line_46
    · have hF := op_f hF c6
      refine lv_aload_n hx hb dX12_line_25 rfl (lv_at hl 0 rfl) ?_
      obtain ⟨r26, U27, hc25, hF⟩ := ob2_s hF
      refine k_iall C (k_rV (As := []) (rest := []) C (c_X12_readPerson l D q o0 a0 S0 _ hc25) kc_X12_readPerson ml_X12_257 rfl rfl (by decide) hP hD hS (va_recv hK hP (ci := 12) (q0 := 0) rfl rfl) rfl hl.1 rfl (Nat.le_of_ble_eq_true rfl) dX12_line_26 (by decide)) hP hD hS (by simp only [List.map_cons, List.map_nil, gad12]) (fun H locs hP hD hS => ?_)
      obtain ⟨h28, hF⟩ := op_ck hF
      cases hF
      exact k_zret C h28 hP hS dX12_line_29
  · have hF := op_f hF c3
    refine lv_aload_n hx hb dX12_line_10 rfl (lv_at hl 0 rfl) ?_
    obtain ⟨r30, U31, hc29, hF⟩ := ob2_s hF
    refine k_iall C (k_rV (As := []) (rest := []) C (c_X12_readTurret l D q o0 a0 S0 _ hc29) kc_X12_readTurret ml_X12_254 rfl rfl (by decide) hP hD hS (va_recv hK hP (ci := 12) (q0 := 0) rfl rfl) rfl hl.1 rfl (Nat.le_of_ble_eq_true rfl) dX12_line_11 (by decide)) hP hD hS (by simp only [List.map_cons, List.map_nil, gad12]) (fun H locs hP hD hS => ?_)
    obtain ⟨h32, hF⟩ := op_ck hF
    cases hF
    exact k_zret C h32 hP hS dX12_line_14

abbrev rm_X12_suburb : Room := ({ frames := 6, cells := 0, slots := 0, locals := 129 } : Room)
def F_X12_suburb_191 (k191 : Int32 × St → Option (Int32 × St)) (x1 : Int32) (S0 : St) : Option (Int32 × St) := if (6 : Int32) ≤ x1 then (nw (sI S0 22 (0 : Int32)) fun U2 => some ((U2.1 19), U2)) else (if oob ((30 : Int32) + x1) 258 then none else if oob ((59 : Int32) + x1) 258 then none else nw (sA S0 6 ((59 : Int32) + x1) (S0.2.2.1 6 ((30 : Int32) + x1).toNatClampNeg)) fun U6 => k191 ((x1 + 1), U6))
def L_X12_suburb_191 (x1 : Int32) (S0 : St) : Option (Int32 × St) := lp (fun kz z => F_X12_suburb_191 kz z.1 z.2) FU (x1, S0)
def F_X12_suburb_141 (k141 : Int32 × St → Option (Int32 × St)) (x1 : Int32) (S0 : St) : Option (Int32 × St) := if (7 : Int32) ≤ x1 then (L_X12_suburb_191 (0 : Int32) S0) else (if oob ((9 : Int32) + x1) 258 then none else if oob ((45 : Int32) + x1) 258 then none else nw (sA S0 6 ((45 : Int32) + x1) (S0.2.2.1 6 ((9 : Int32) + x1).toNatClampNeg)) fun U4 => if oob ((16 : Int32) + x1) 258 then none else if oob ((52 : Int32) + x1) 258 then none else nw (sA U4 6 ((52 : Int32) + x1) (U4.2.2.1 6 ((16 : Int32) + x1).toNatClampNeg)) fun U8 => k141 ((x1 + 1), U8))
def L_X12_suburb_141 (x1 : Int32) (S0 : St) : Option (Int32 × St) := lp (fun kz z => F_X12_suburb_141 kz z.1 z.2) FU (x1, S0)
def F_X12_suburb_112 (k112 : Int32 × St → Option (Int32 × St)) (x1 : Int32) (S0 : St) : Option (Int32 × St) := if (13 : Int32) ≤ x1 then (L_X12_suburb_141 (0 : Int32) S0) else (if oob ((13 : Int32) + x1) 26 then none else if oob x1 26 then none else nw (sJ S0 9 x1 (S0.2.2.2 9 ((13 : Int32) + x1).toNatClampNeg)) fun U4 => k112 ((x1 + 1), U4))
def L_X12_suburb_112 (x1 : Int32) (S0 : St) : Option (Int32 × St) := lp (fun kz z => F_X12_suburb_112 kz z.1 z.2) FU (x1, S0)
def F_X12_suburb_103 (k75 : Int32 × St → Option (Int32 × St)) (x1 : Int32) (s1 : Int32) (s2 : Int32) (S0 : St) : Option (Int32 × St) := if oob s1 258 then none else nw (sA S0 6 s1 s2) fun U2 => k75 ((x1 + 1), U2)
def F_X12_suburb_75 (k75 : Int32 × St → Option (Int32 × St)) (x1 : Int32) (S0 : St) : Option (Int32 × St) := if (258 : Int32) ≤ x1 then (L_X12_suburb_112 (0 : Int32) S0) else (if (42 : Int32) ≤ x1 then (F_X12_suburb_103 k75 x1 x1 (0 : Int32) S0) else (if oob x1 42 then none else F_X12_suburb_103 k75 x1 x1 (S0.2.2.1 7 x1.toNatClampNeg) S0))
def L_X12_suburb_75 (x1 : Int32) (S0 : St) : Option (Int32 × St) := lp (fun kz z => F_X12_suburb_75 kz z.1 z.2) FU (x1, S0)
def F_X12_suburb_30 (k30 : St → Option (Int32 × St)) (S0 : St) : Option (Int32 × St) := if (S0.1 11) = 0 then (L_X12_suburb_75 (0 : Int32) S0) else (ob2 (F_X12_line S0) fun r3 U4 => if r3 = 0 then (some (((-1 : Int32) - (U4.1 16)), U4)) else (ob2 (F_X12_sign U4 (59 : Int32)) fun r7 U8 => if r7 = 0 then (some (((-1 : Int32) - (U8.1 16)), U8)) else (nw (sI U8 19 ((U8.1 19) + (1 : Int32))) fun U10 => k30 U10)))
def L_X12_suburb_30 (S0 : St) : Option (Int32 × St) := lp (fun kz z => F_X12_suburb_30 kz z) FU S0
def F_X12_suburb (S0 : St) : Option (Int32 × St) := nw (sI S0 0 (0 : Int32)) fun U1 => ob1 (F_X12_taken U1 (900 : Int32)) fun U4 => nw (sI U4 15 (0 : Int32)) fun U5 => nw (sI U5 19 (0 : Int32)) fun U7 => ob1 (F_X12_clears U7) fun U10 => ob1 (F_X12_next U10) fun U12 => L_X12_suburb_30 U12
set_option maxRecDepth 100000 in
set_option maxHeartbeats 4000000 in
theorem b_X12_suburb_191 {p : Program} {l : Launch} {e : Env} {s : State} {m : MethodId} {args : Array Value} {below : List Frame} {meth : Method} {c : Code} {D : va_G} {q : Nat → ClassId} {A : Nat → Prop} {o0 : Nat} {a0 : Nat → Nat} {r : Int32} {T0 : St} (C : cx p s m args meth c cX12_suburb 2 (some .int) RX12 D q A) {k191 : Int32 × St → Option (Int32 × St)} (hk191 : ∀ (x1 : Int32) (S0 : St), k191 (x1, S0) = some (r, T0) → ∀ (H : Heap) (locs : List Loc) (ls : Array Slot), va_P D vwCl (fl [g12 q o0 a0 S0]) H → va_D A (fl [g12 q o0 a0 S0]) → va_S A s.heap H locs → lv_has ls 2 [(0, .ref o0), (1, .int x1)] → W p l e rm_X12_suburb s m args below meth c H locs 0 0 (MQ below (QI D A r (fl [g12 q o0 a0 T0])) args s 0 0 A) (F0 m 191 ls [])) {x1 : Int32} {S0 : St} (hF : F_X12_suburb_191 k191 x1 S0 = some (r, T0)) {H : Heap} {locs : List Loc} (hP : va_P D vwCl (fl [g12 q o0 a0 S0]) H) (hD : va_D A (fl [g12 q o0 a0 S0])) (hS : va_S A s.heap H locs) {ls : Array Slot} (hl : lv_has ls 2 [(0, .ref o0), (1, .int x1)]) : W p l e rm_X12_suburb s m args below meth c H locs 0 0 (MQ below (QI D A r (fl [g12 q o0 a0 T0])) args s 0 0 A) (F0 m 191 ls []) := by
  unfold F_X12_suburb_191 at hF
  obtain ⟨hx, hb, hr, hml, hown, hts, hlk, hA, hK, hN, hV⟩ := id C
  refine lv_iload_n hx hb dX12_suburb_191 rfl (lv_at hl 1 rfl) ?_
  refine lv_bipush (v := (6 : Int32)) hx hb dX12_suburb_192 (by decide) ?_
  refine lv_icmp_ge (tgt := 221) hx hb dX12_suburb_194 (by decide) (fun c1 => ?_) (fun c1 => ?_)
  · have hF := op_t hF c1
    refine lv_aload_n hx hb dX12_suburb_221 rfl (lv_at hl 0 rfl) ?_
    refine lv_iconst (v := (0 : Int32)) hx hb dX12_suburb_222 (by decide) ?_
    obtain ⟨U2, e3, hF⟩ := nw_s hF
    refine k_put (W8 := fl [g12 q o0 a0 U2]) C fp_X12_290 hP hD hS 0 rfl rfl rfl (Nat.le_of_ble_eq_true rfl) dX12_suburb_223 (by rw [e3]; rfl) (fun H locs hP hD hS => ?_)
    refine lv_aload_n hx hb dX12_suburb_226 rfl (lv_at hl 0 rfl) ?_
    refine k_get (v := .int (U2.1 19)) C fg_X12_281 hP 0 rfl rfl dX12_suburb_227 ?_
    cases hF
    exact k_iret C hP hS dX12_suburb_230
  · have hF := op_f hF c1
    refine lv_aload_n hx hb dX12_suburb_197 rfl (lv_at hl 0 rfl) ?_
    refine k_get (v := .ref (a0 7)) C fg_X12_33 hP 0 rfl rfl dX12_suburb_198 ?_
    refine lv_bipush (v := (59 : Int32)) hx hb dX12_suburb_201 (by decide) ?_
    refine lv_iload_n hx hb dX12_suburb_203 rfl (lv_at hl 1 rfl) ?_
    refine lv_iadd hx hb dX12_suburb_204 ?_
    refine lv_aload_n hx hb dX12_suburb_205 rfl (lv_at hl 0 rfl) ?_
    refine k_get (v := .ref (a0 7)) C fg_X12_33 hP 0 rfl rfl dX12_suburb_206 ?_
    refine lv_bipush (v := (30 : Int32)) hx hb dX12_suburb_209 (by decide) ?_
    refine lv_iload_n hx hb dX12_suburb_211 rfl (lv_at hl 1 rfl) ?_
    refine lv_iadd hx hb dX12_suburb_212 ?_
    obtain ⟨h4, hF⟩ := op_ck hF
    refine k_ild (f := S0.2.2.1 6) C hP 2 rfl h4 dX12_suburb_213 ?_
    obtain ⟨h5, hF⟩ := op_ck hF
    obtain ⟨U6, e7, hF⟩ := nw_s hF
    refine k_ist (f := S0.2.2.1 6) (W8 := fl [g12 q o0 a0 U6]) C hP hD hS 2 rfl h5 dX12_suburb_214 (by rw [e7]; rfl) (fun H locs hP hD hS => ?_)
    refine lv_iinc (v := (x1 + 1)) (lv' := [(1, .int (x1 + 1)), (0, .ref o0)]) hx hb dX12_suburb_215 hl (k := 1) rfl rfl (by decide) rfl (fun ls hl => ?_)
    refine lv_goto (tgt := 191) hx hb dX12_suburb_218 (by decide) ?_
    exact hk191 (x1 + 1) U6 hF _ _ _ hP hD hS (lv_sub hl [1, 0] rfl)
set_option maxRecDepth 100000 in
set_option maxHeartbeats 4000000 in
theorem l_X12_suburb_191 {p : Program} {l : Launch} {e : Env} {s : State} {m : MethodId} {args : Array Value} {below : List Frame} {meth : Method} {c : Code} {D : va_G} {q : Nat → ClassId} {A : Nat → Prop} {o0 : Nat} {a0 : Nat → Nat} {r : Int32} {T0 : St} (C : cx p s m args meth c cX12_suburb 2 (some .int) RX12 D q A) {x1 : Int32} {S0 : St} (hF : L_X12_suburb_191 x1 S0 = some (r, T0)) : ∀ (H : Heap) (locs : List Loc) (ls : Array Slot), va_P D vwCl (fl [g12 q o0 a0 S0]) H → va_D A (fl [g12 q o0 a0 S0]) → va_S A s.heap H locs → lv_has ls 2 [(0, .ref o0), (1, .int x1)] → W p l e rm_X12_suburb s m args below meth c H locs 0 0 (MQ below (QI D A r (fl [g12 q o0 a0 T0])) args s 0 0 A) (F0 m 191 ls []) :=
  lp_G _ _ (fun z => ∀ (H : Heap) (locs : List Loc) (ls : Array Slot), va_P D vwCl (fl [g12 q o0 a0 z.2]) H → va_D A (fl [g12 q o0 a0 z.2]) → va_S A s.heap H locs → lv_has ls 2 [(0, .ref o0), (1, .int z.1)] → W p l e rm_X12_suburb s m args below meth c H locs 0 0 (MQ below (QI D A r (fl [g12 q o0 a0 T0])) args s 0 0 A) (F0 m 191 ls [])) (fun kz hkz z hz H locs ls hP hD hS hl => b_X12_suburb_191 C (fun x1 S0 hz => hkz (x1, S0) hz) hz hP hD hS hl) FU (x1, S0) hF
set_option maxRecDepth 100000 in
set_option maxHeartbeats 4000000 in
theorem b_X12_suburb_141 {p : Program} {l : Launch} {e : Env} {s : State} {m : MethodId} {args : Array Value} {below : List Frame} {meth : Method} {c : Code} {D : va_G} {q : Nat → ClassId} {A : Nat → Prop} {o0 : Nat} {a0 : Nat → Nat} {r : Int32} {T0 : St} (C : cx p s m args meth c cX12_suburb 2 (some .int) RX12 D q A) {k141 : Int32 × St → Option (Int32 × St)} (hk141 : ∀ (x1 : Int32) (S0 : St), k141 (x1, S0) = some (r, T0) → ∀ (H : Heap) (locs : List Loc) (ls : Array Slot), va_P D vwCl (fl [g12 q o0 a0 S0]) H → va_D A (fl [g12 q o0 a0 S0]) → va_S A s.heap H locs → lv_has ls 2 [(0, .ref o0), (1, .int x1)] → W p l e rm_X12_suburb s m args below meth c H locs 0 0 (MQ below (QI D A r (fl [g12 q o0 a0 T0])) args s 0 0 A) (F0 m 141 ls [])) {x1 : Int32} {S0 : St} (hF : F_X12_suburb_141 k141 x1 S0 = some (r, T0)) {H : Heap} {locs : List Loc} (hP : va_P D vwCl (fl [g12 q o0 a0 S0]) H) (hD : va_D A (fl [g12 q o0 a0 S0])) (hS : va_S A s.heap H locs) {ls : Array Slot} (hl : lv_has ls 2 [(0, .ref o0), (1, .int x1)]) : W p l e rm_X12_suburb s m args below meth c H locs 0 0 (MQ below (QI D A r (fl [g12 q o0 a0 T0])) args s 0 0 A) (F0 m 141 ls []) := by
  unfold F_X12_suburb_141 at hF
  obtain ⟨hx, hb, hr, hml, hown, hts, hlk, hA, hK, hN, hV⟩ := id C
  refine lv_iload_n hx hb dX12_suburb_141 rfl (lv_at hl 1 rfl) ?_
  refine lv_bipush (v := (7 : Int32)) hx hb dX12_suburb_142 (by decide) ?_
  refine lv_icmp_ge (tgt := 189) hx hb dX12_suburb_144 (by decide) (fun c1 => ?_) (fun c1 => ?_)
  · have hF := op_t hF c1
    refine lv_iconst (v := (0 : Int32)) hx hb dX12_suburb_189 (by decide) ?_
    refine lv_istore_n (lv' := [(1, .int (0 : Int32)), (0, .ref o0)]) hx hb dX12_suburb_190 rfl hl (by decide) rfl (fun ls hl => ?_)
    exact l_X12_suburb_191 C hF _ _ _ hP hD hS (lv_sub hl [1, 0] rfl)
  · have hF := op_f hF c1
    refine lv_aload_n hx hb dX12_suburb_147 rfl (lv_at hl 0 rfl) ?_
    refine k_get (v := .ref (a0 7)) C fg_X12_33 hP 0 rfl rfl dX12_suburb_148 ?_
    refine lv_bipush (v := (45 : Int32)) hx hb dX12_suburb_151 (by decide) ?_
    refine lv_iload_n hx hb dX12_suburb_153 rfl (lv_at hl 1 rfl) ?_
    refine lv_iadd hx hb dX12_suburb_154 ?_
    refine lv_aload_n hx hb dX12_suburb_155 rfl (lv_at hl 0 rfl) ?_
    refine k_get (v := .ref (a0 7)) C fg_X12_33 hP 0 rfl rfl dX12_suburb_156 ?_
    refine lv_bipush (v := (9 : Int32)) hx hb dX12_suburb_159 (by decide) ?_
    refine lv_iload_n hx hb dX12_suburb_161 rfl (lv_at hl 1 rfl) ?_
    refine lv_iadd hx hb dX12_suburb_162 ?_
    obtain ⟨h2, hF⟩ := op_ck hF
    refine k_ild (f := S0.2.2.1 6) C hP 2 rfl h2 dX12_suburb_163 ?_
    obtain ⟨h3, hF⟩ := op_ck hF
    obtain ⟨U4, e5, hF⟩ := nw_s hF
    refine k_ist (f := S0.2.2.1 6) (W8 := fl [g12 q o0 a0 U4]) C hP hD hS 2 rfl h3 dX12_suburb_164 (by rw [e5]; rfl) (fun H locs hP hD hS => ?_)
    refine lv_aload_n hx hb dX12_suburb_165 rfl (lv_at hl 0 rfl) ?_
    refine k_get (v := .ref (a0 7)) C fg_X12_33 hP 0 rfl rfl dX12_suburb_166 ?_
    refine lv_bipush (v := (52 : Int32)) hx hb dX12_suburb_169 (by decide) ?_
    refine lv_iload_n hx hb dX12_suburb_171 rfl (lv_at hl 1 rfl) ?_
    refine lv_iadd hx hb dX12_suburb_172 ?_
    refine lv_aload_n hx hb dX12_suburb_173 rfl (lv_at hl 0 rfl) ?_
    refine k_get (v := .ref (a0 7)) C fg_X12_33 hP 0 rfl rfl dX12_suburb_174 ?_
    refine lv_bipush (v := (16 : Int32)) hx hb dX12_suburb_177 (by decide) ?_
    refine lv_iload_n hx hb dX12_suburb_179 rfl (lv_at hl 1 rfl) ?_
    refine lv_iadd hx hb dX12_suburb_180 ?_
    obtain ⟨h6, hF⟩ := op_ck hF
    refine k_ild (f := U4.2.2.1 6) C hP 2 rfl h6 dX12_suburb_181 ?_
    obtain ⟨h7, hF⟩ := op_ck hF
    obtain ⟨U8, e9, hF⟩ := nw_s hF
    refine k_ist (f := U4.2.2.1 6) (W8 := fl [g12 q o0 a0 U8]) C hP hD hS 2 rfl h7 dX12_suburb_182 (by rw [e9]; rfl) (fun H locs hP hD hS => ?_)
    refine lv_iinc (v := (x1 + 1)) (lv' := [(1, .int (x1 + 1)), (0, .ref o0)]) hx hb dX12_suburb_183 hl (k := 1) rfl rfl (by decide) rfl (fun ls hl => ?_)
    refine lv_goto (tgt := 141) hx hb dX12_suburb_186 (by decide) ?_
    exact hk141 (x1 + 1) U8 hF _ _ _ hP hD hS (lv_sub hl [1, 0] rfl)
set_option maxRecDepth 100000 in
set_option maxHeartbeats 4000000 in
theorem l_X12_suburb_141 {p : Program} {l : Launch} {e : Env} {s : State} {m : MethodId} {args : Array Value} {below : List Frame} {meth : Method} {c : Code} {D : va_G} {q : Nat → ClassId} {A : Nat → Prop} {o0 : Nat} {a0 : Nat → Nat} {r : Int32} {T0 : St} (C : cx p s m args meth c cX12_suburb 2 (some .int) RX12 D q A) {x1 : Int32} {S0 : St} (hF : L_X12_suburb_141 x1 S0 = some (r, T0)) : ∀ (H : Heap) (locs : List Loc) (ls : Array Slot), va_P D vwCl (fl [g12 q o0 a0 S0]) H → va_D A (fl [g12 q o0 a0 S0]) → va_S A s.heap H locs → lv_has ls 2 [(0, .ref o0), (1, .int x1)] → W p l e rm_X12_suburb s m args below meth c H locs 0 0 (MQ below (QI D A r (fl [g12 q o0 a0 T0])) args s 0 0 A) (F0 m 141 ls []) :=
  lp_G _ _ (fun z => ∀ (H : Heap) (locs : List Loc) (ls : Array Slot), va_P D vwCl (fl [g12 q o0 a0 z.2]) H → va_D A (fl [g12 q o0 a0 z.2]) → va_S A s.heap H locs → lv_has ls 2 [(0, .ref o0), (1, .int z.1)] → W p l e rm_X12_suburb s m args below meth c H locs 0 0 (MQ below (QI D A r (fl [g12 q o0 a0 T0])) args s 0 0 A) (F0 m 141 ls [])) (fun kz hkz z hz H locs ls hP hD hS hl => b_X12_suburb_141 C (fun x1 S0 hz => hkz (x1, S0) hz) hz hP hD hS hl) FU (x1, S0) hF
set_option maxRecDepth 100000 in
set_option maxHeartbeats 4000000 in
theorem b_X12_suburb_112 {p : Program} {l : Launch} {e : Env} {s : State} {m : MethodId} {args : Array Value} {below : List Frame} {meth : Method} {c : Code} {D : va_G} {q : Nat → ClassId} {A : Nat → Prop} {o0 : Nat} {a0 : Nat → Nat} {r : Int32} {T0 : St} (C : cx p s m args meth c cX12_suburb 2 (some .int) RX12 D q A) {k112 : Int32 × St → Option (Int32 × St)} (hk112 : ∀ (x1 : Int32) (S0 : St), k112 (x1, S0) = some (r, T0) → ∀ (H : Heap) (locs : List Loc) (ls : Array Slot), va_P D vwCl (fl [g12 q o0 a0 S0]) H → va_D A (fl [g12 q o0 a0 S0]) → va_S A s.heap H locs → lv_has ls 2 [(0, .ref o0), (1, .int x1)] → W p l e rm_X12_suburb s m args below meth c H locs 0 0 (MQ below (QI D A r (fl [g12 q o0 a0 T0])) args s 0 0 A) (F0 m 112 ls [])) {x1 : Int32} {S0 : St} (hF : F_X12_suburb_112 k112 x1 S0 = some (r, T0)) {H : Heap} {locs : List Loc} (hP : va_P D vwCl (fl [g12 q o0 a0 S0]) H) (hD : va_D A (fl [g12 q o0 a0 S0])) (hS : va_S A s.heap H locs) {ls : Array Slot} (hl : lv_has ls 2 [(0, .ref o0), (1, .int x1)]) : W p l e rm_X12_suburb s m args below meth c H locs 0 0 (MQ below (QI D A r (fl [g12 q o0 a0 T0])) args s 0 0 A) (F0 m 112 ls []) := by
  unfold F_X12_suburb_112 at hF
  obtain ⟨hx, hb, hr, hml, hown, hts, hlk, hA, hK, hN, hV⟩ := id C
  refine lv_iload_n hx hb dX12_suburb_112 rfl (lv_at hl 1 rfl) ?_
  refine lv_bipush (v := (13 : Int32)) hx hb dX12_suburb_113 (by decide) ?_
  refine lv_icmp_ge (tgt := 139) hx hb dX12_suburb_115 (by decide) (fun c1 => ?_) (fun c1 => ?_)
  · have hF := op_t hF c1
    refine lv_iconst (v := (0 : Int32)) hx hb dX12_suburb_139 (by decide) ?_
    refine lv_istore_n (lv' := [(1, .int (0 : Int32)), (0, .ref o0)]) hx hb dX12_suburb_140 rfl hl (by decide) rfl (fun ls hl => ?_)
    exact l_X12_suburb_141 C hF _ _ _ hP hD hS (lv_sub hl [1, 0] rfl)
  · have hF := op_f hF c1
    refine lv_aload_n hx hb dX12_suburb_118 rfl (lv_at hl 0 rfl) ?_
    refine k_get (v := .ref (a0 10)) C fg_X12_43 hP 0 rfl rfl dX12_suburb_119 ?_
    refine lv_iload_n hx hb dX12_suburb_122 rfl (lv_at hl 1 rfl) ?_
    refine lv_aload_n hx hb dX12_suburb_123 rfl (lv_at hl 0 rfl) ?_
    refine k_get (v := .ref (a0 10)) C fg_X12_43 hP 0 rfl rfl dX12_suburb_124 ?_
    refine lv_bipush (v := (13 : Int32)) hx hb dX12_suburb_127 (by decide) ?_
    refine lv_iload_n hx hb dX12_suburb_129 rfl (lv_at hl 1 rfl) ?_
    refine lv_iadd hx hb dX12_suburb_130 ?_
    obtain ⟨h2, hF⟩ := op_ck hF
    refine k_lld (f := S0.2.2.2 9) C hP 5 rfl h2 dX12_suburb_131 ?_
    obtain ⟨h3, hF⟩ := op_ck hF
    obtain ⟨U4, e5, hF⟩ := nw_s hF
    refine k_lst (f := S0.2.2.2 9) (W8 := fl [g12 q o0 a0 U4]) C hP hD hS 5 rfl h3 dX12_suburb_132 (by rw [e5]; rfl) (fun H locs hP hD hS => ?_)
    refine lv_iinc (v := (x1 + 1)) (lv' := [(1, .int (x1 + 1)), (0, .ref o0)]) hx hb dX12_suburb_133 hl (k := 1) rfl rfl (by decide) rfl (fun ls hl => ?_)
    refine lv_goto (tgt := 112) hx hb dX12_suburb_136 (by decide) ?_
    exact hk112 (x1 + 1) U4 hF _ _ _ hP hD hS (lv_sub hl [1, 0] rfl)
set_option maxRecDepth 100000 in
set_option maxHeartbeats 4000000 in
theorem l_X12_suburb_112 {p : Program} {l : Launch} {e : Env} {s : State} {m : MethodId} {args : Array Value} {below : List Frame} {meth : Method} {c : Code} {D : va_G} {q : Nat → ClassId} {A : Nat → Prop} {o0 : Nat} {a0 : Nat → Nat} {r : Int32} {T0 : St} (C : cx p s m args meth c cX12_suburb 2 (some .int) RX12 D q A) {x1 : Int32} {S0 : St} (hF : L_X12_suburb_112 x1 S0 = some (r, T0)) : ∀ (H : Heap) (locs : List Loc) (ls : Array Slot), va_P D vwCl (fl [g12 q o0 a0 S0]) H → va_D A (fl [g12 q o0 a0 S0]) → va_S A s.heap H locs → lv_has ls 2 [(0, .ref o0), (1, .int x1)] → W p l e rm_X12_suburb s m args below meth c H locs 0 0 (MQ below (QI D A r (fl [g12 q o0 a0 T0])) args s 0 0 A) (F0 m 112 ls []) :=
  lp_G _ _ (fun z => ∀ (H : Heap) (locs : List Loc) (ls : Array Slot), va_P D vwCl (fl [g12 q o0 a0 z.2]) H → va_D A (fl [g12 q o0 a0 z.2]) → va_S A s.heap H locs → lv_has ls 2 [(0, .ref o0), (1, .int z.1)] → W p l e rm_X12_suburb s m args below meth c H locs 0 0 (MQ below (QI D A r (fl [g12 q o0 a0 T0])) args s 0 0 A) (F0 m 112 ls [])) (fun kz hkz z hz H locs ls hP hD hS hl => b_X12_suburb_112 C (fun x1 S0 hz => hkz (x1, S0) hz) hz hP hD hS hl) FU (x1, S0) hF
set_option maxRecDepth 100000 in
set_option maxHeartbeats 4000000 in
theorem b_X12_suburb_103 {p : Program} {l : Launch} {e : Env} {s : State} {m : MethodId} {args : Array Value} {below : List Frame} {meth : Method} {c : Code} {D : va_G} {q : Nat → ClassId} {A : Nat → Prop} {o0 : Nat} {a0 : Nat → Nat} {r : Int32} {T0 : St} (C : cx p s m args meth c cX12_suburb 2 (some .int) RX12 D q A) {k75 : Int32 × St → Option (Int32 × St)} (hk75 : ∀ (x1 : Int32) (S0 : St), k75 (x1, S0) = some (r, T0) → ∀ (H : Heap) (locs : List Loc) (ls : Array Slot), va_P D vwCl (fl [g12 q o0 a0 S0]) H → va_D A (fl [g12 q o0 a0 S0]) → va_S A s.heap H locs → lv_has ls 2 [(0, .ref o0), (1, .int x1)] → W p l e rm_X12_suburb s m args below meth c H locs 0 0 (MQ below (QI D A r (fl [g12 q o0 a0 T0])) args s 0 0 A) (F0 m 75 ls [])) {x1 : Int32} {s1 : Int32} {s2 : Int32} {S0 : St} (hF : F_X12_suburb_103 k75 x1 s1 s2 S0 = some (r, T0)) {H : Heap} {locs : List Loc} (hP : va_P D vwCl (fl [g12 q o0 a0 S0]) H) (hD : va_D A (fl [g12 q o0 a0 S0])) (hS : va_S A s.heap H locs) {ls : Array Slot} (hl : lv_has ls 2 [(0, .ref o0), (1, .int x1)]) : W p l e rm_X12_suburb s m args below meth c H locs 0 0 (MQ below (QI D A r (fl [g12 q o0 a0 T0])) args s 0 0 A) (F0 m 103 ls [.int s2, .int s1, .ref (a0 7)]) := by
  unfold F_X12_suburb_103 at hF
  obtain ⟨hx, hb, hr, hml, hown, hts, hlk, hA, hK, hN, hV⟩ := id C
  obtain ⟨h1, hF⟩ := op_ck hF
  obtain ⟨U2, e3, hF⟩ := nw_s hF
  refine k_ist (f := S0.2.2.1 6) (W8 := fl [g12 q o0 a0 U2]) C hP hD hS 2 rfl h1 dX12_suburb_103 (by rw [e3]; rfl) (fun H locs hP hD hS => ?_)
  refine lv_iinc (v := (x1 + 1)) (lv' := [(1, .int (x1 + 1)), (0, .ref o0)]) hx hb dX12_suburb_104 hl (k := 1) rfl rfl (by decide) rfl (fun ls hl => ?_)
  refine lv_goto (tgt := 75) hx hb dX12_suburb_107 (by decide) ?_
  exact hk75 (x1 + 1) U2 hF _ _ _ hP hD hS (lv_sub hl [1, 0] rfl)
set_option maxRecDepth 100000 in
set_option maxHeartbeats 4000000 in
theorem b_X12_suburb_75 {p : Program} {l : Launch} {e : Env} {s : State} {m : MethodId} {args : Array Value} {below : List Frame} {meth : Method} {c : Code} {D : va_G} {q : Nat → ClassId} {A : Nat → Prop} {o0 : Nat} {a0 : Nat → Nat} {r : Int32} {T0 : St} (C : cx p s m args meth c cX12_suburb 2 (some .int) RX12 D q A) {k75 : Int32 × St → Option (Int32 × St)} (hk75 : ∀ (x1 : Int32) (S0 : St), k75 (x1, S0) = some (r, T0) → ∀ (H : Heap) (locs : List Loc) (ls : Array Slot), va_P D vwCl (fl [g12 q o0 a0 S0]) H → va_D A (fl [g12 q o0 a0 S0]) → va_S A s.heap H locs → lv_has ls 2 [(0, .ref o0), (1, .int x1)] → W p l e rm_X12_suburb s m args below meth c H locs 0 0 (MQ below (QI D A r (fl [g12 q o0 a0 T0])) args s 0 0 A) (F0 m 75 ls [])) {x1 : Int32} {S0 : St} (hF : F_X12_suburb_75 k75 x1 S0 = some (r, T0)) {H : Heap} {locs : List Loc} (hP : va_P D vwCl (fl [g12 q o0 a0 S0]) H) (hD : va_D A (fl [g12 q o0 a0 S0])) (hS : va_S A s.heap H locs) {ls : Array Slot} (hl : lv_has ls 2 [(0, .ref o0), (1, .int x1)]) : W p l e rm_X12_suburb s m args below meth c H locs 0 0 (MQ below (QI D A r (fl [g12 q o0 a0 T0])) args s 0 0 A) (F0 m 75 ls []) := by
  unfold F_X12_suburb_75 at hF
  obtain ⟨hx, hb, hr, hml, hown, hts, hlk, hA, hK, hN, hV⟩ := id C
  refine lv_iload_n hx hb dX12_suburb_75 rfl (lv_at hl 1 rfl) ?_
  refine lv_sipush (v := (258 : Int32)) hx hb dX12_suburb_76 (by decide) ?_
  refine lv_icmp_ge (tgt := 110) hx hb dX12_suburb_79 (by decide) (fun c1 => ?_) (fun c1 => ?_)
  · have hF := op_t hF c1
    refine lv_iconst (v := (0 : Int32)) hx hb dX12_suburb_110 (by decide) ?_
    refine lv_istore_n (lv' := [(1, .int (0 : Int32)), (0, .ref o0)]) hx hb dX12_suburb_111 rfl hl (by decide) rfl (fun ls hl => ?_)
    exact l_X12_suburb_112 C hF _ _ _ hP hD hS (lv_sub hl [1, 0] rfl)
  · have hF := op_f hF c1
    refine lv_aload_n hx hb dX12_suburb_82 rfl (lv_at hl 0 rfl) ?_
    refine k_get (v := .ref (a0 7)) C fg_X12_33 hP 0 rfl rfl dX12_suburb_83 ?_
    refine lv_iload_n hx hb dX12_suburb_86 rfl (lv_at hl 1 rfl) ?_
    refine lv_iload_n hx hb dX12_suburb_87 rfl (lv_at hl 1 rfl) ?_
    refine lv_bipush (v := (42 : Int32)) hx hb dX12_suburb_88 (by decide) ?_
    refine lv_icmp_ge (tgt := 102) hx hb dX12_suburb_90 (by decide) (fun c2 => ?_) (fun c2 => ?_)
    · have hF := op_t hF c2
      refine lv_iconst (v := (0 : Int32)) hx hb dX12_suburb_102 (by decide) ?_
      exact b_X12_suburb_103 C hk75 hF hP hD hS (lv_sub hl [0, 1] rfl)
    · have hF := op_f hF c2
      refine lv_aload_n hx hb dX12_suburb_93 rfl (lv_at hl 0 rfl) ?_
      refine k_get (v := .ref (a0 8)) C fg_X12_37 hP 0 rfl rfl dX12_suburb_94 ?_
      refine lv_iload_n hx hb dX12_suburb_97 rfl (lv_at hl 1 rfl) ?_
      obtain ⟨h3, hF⟩ := op_ck hF
      refine k_ild (f := S0.2.2.1 7) C hP 3 rfl h3 dX12_suburb_98 ?_
      refine lv_goto (tgt := 103) hx hb dX12_suburb_99 (by decide) ?_
      exact b_X12_suburb_103 C hk75 hF hP hD hS (lv_sub hl [0, 1] rfl)
set_option maxRecDepth 100000 in
set_option maxHeartbeats 4000000 in
theorem l_X12_suburb_75 {p : Program} {l : Launch} {e : Env} {s : State} {m : MethodId} {args : Array Value} {below : List Frame} {meth : Method} {c : Code} {D : va_G} {q : Nat → ClassId} {A : Nat → Prop} {o0 : Nat} {a0 : Nat → Nat} {r : Int32} {T0 : St} (C : cx p s m args meth c cX12_suburb 2 (some .int) RX12 D q A) {x1 : Int32} {S0 : St} (hF : L_X12_suburb_75 x1 S0 = some (r, T0)) : ∀ (H : Heap) (locs : List Loc) (ls : Array Slot), va_P D vwCl (fl [g12 q o0 a0 S0]) H → va_D A (fl [g12 q o0 a0 S0]) → va_S A s.heap H locs → lv_has ls 2 [(0, .ref o0), (1, .int x1)] → W p l e rm_X12_suburb s m args below meth c H locs 0 0 (MQ below (QI D A r (fl [g12 q o0 a0 T0])) args s 0 0 A) (F0 m 75 ls []) :=
  lp_G _ _ (fun z => ∀ (H : Heap) (locs : List Loc) (ls : Array Slot), va_P D vwCl (fl [g12 q o0 a0 z.2]) H → va_D A (fl [g12 q o0 a0 z.2]) → va_S A s.heap H locs → lv_has ls 2 [(0, .ref o0), (1, .int z.1)] → W p l e rm_X12_suburb s m args below meth c H locs 0 0 (MQ below (QI D A r (fl [g12 q o0 a0 T0])) args s 0 0 A) (F0 m 75 ls [])) (fun kz hkz z hz H locs ls hP hD hS hl => b_X12_suburb_75 C (fun x1 S0 hz => hkz (x1, S0) hz) hz hP hD hS hl) FU (x1, S0) hF
set_option maxRecDepth 100000 in
set_option maxHeartbeats 4000000 in
theorem b_X12_suburb_30 {p : Program} {l : Launch} {e : Env} {s : State} {m : MethodId} {args : Array Value} {below : List Frame} {meth : Method} {c : Code} {D : va_G} {q : Nat → ClassId} {A : Nat → Prop} {o0 : Nat} {a0 : Nat → Nat} {r : Int32} {T0 : St} (C : cx p s m args meth c cX12_suburb 2 (some .int) RX12 D q A) {k30 : St → Option (Int32 × St)} (hk30 : ∀ (S0 : St), k30 S0 = some (r, T0) → ∀ (H : Heap) (locs : List Loc) (ls : Array Slot), va_P D vwCl (fl [g12 q o0 a0 S0]) H → va_D A (fl [g12 q o0 a0 S0]) → va_S A s.heap H locs → lv_has ls 2 [(0, .ref o0)] → W p l e rm_X12_suburb s m args below meth c H locs 0 0 (MQ below (QI D A r (fl [g12 q o0 a0 T0])) args s 0 0 A) (F0 m 30 ls [])) {S0 : St} (hF : F_X12_suburb_30 k30 S0 = some (r, T0)) {H : Heap} {locs : List Loc} (hP : va_P D vwCl (fl [g12 q o0 a0 S0]) H) (hD : va_D A (fl [g12 q o0 a0 S0])) (hS : va_S A s.heap H locs) {ls : Array Slot} (hl : lv_has ls 2 [(0, .ref o0)]) : W p l e rm_X12_suburb s m args below meth c H locs 0 0 (MQ below (QI D A r (fl [g12 q o0 a0 T0])) args s 0 0 A) (F0 m 30 ls []) := by
  unfold F_X12_suburb_30 at hF
  obtain ⟨hx, hb, hr, hml, hown, hts, hlk, hA, hK, hN, hV⟩ := id C
  refine lv_aload_n hx hb dX12_suburb_30 rfl (lv_at hl 0 rfl) ?_
  refine k_get (v := .int (S0.1 11)) C fg_X12_193 hP 0 rfl rfl dX12_suburb_31 ?_
  refine lv_if_eq (tgt := 73) hx hb dX12_suburb_34 (by decide) (fun c1 => ?_) (fun c1 => ?_)
  · have hF := op_t hF c1
    refine lv_iconst (v := (0 : Int32)) hx hb dX12_suburb_73 (by decide) ?_
    refine lv_istore_n (lv' := [(1, .int (0 : Int32)), (0, .ref o0)]) hx hb dX12_suburb_74 rfl hl (by decide) rfl (fun ls hl => ?_)
    exact l_X12_suburb_75 C hF _ _ _ hP hD hS (lv_sub hl [1, 0] rfl)
  · have hF := op_f hF c1
    refine lv_aload_n hx hb dX12_suburb_37 rfl (lv_at hl 0 rfl) ?_
    obtain ⟨r3, U4, hc2, hF⟩ := ob2_s hF
    refine k_iall C (k_rV (As := []) (rest := []) C (c_X12_line l D q o0 a0 S0 _ hc2) kc_X12_line ml_X12_284 rfl rfl (by decide) hP hD hS (va_recv hK hP (ci := 12) (q0 := 0) rfl rfl) rfl hl.1 rfl (Nat.le_of_ble_eq_true rfl) dX12_suburb_38 (by decide)) hP hD hS (by simp only [List.map_cons, List.map_nil, gad12]) (fun H locs hP hD hS => ?_)
    refine lv_if_eq (tgt := 53) hx hb dX12_suburb_41 (by decide) (fun c5 => ?_) (fun c5 => ?_)
    · have hF := op_t hF c5
      refine lv_iconst (v := (-1 : Int32)) hx hb dX12_suburb_53 (by decide) ?_
      refine lv_aload_n hx hb dX12_suburb_54 rfl (lv_at hl 0 rfl) ?_
      refine k_get (v := .int (U4.1 16)) C fg_X12_213 hP 0 rfl rfl dX12_suburb_55 ?_
      refine lv_isub hx hb dX12_suburb_58 ?_
      generalize ((-1 : Int32) - (U4.1 16)) = rr at hF ⊢
      cases hF
      exact k_iret C hP hS dX12_suburb_59
    · have hF := op_f hF c5
      refine lv_aload_n hx hb dX12_suburb_44 rfl (lv_at hl 0 rfl) ?_
      refine lv_bipush (v := (59 : Int32)) hx hb dX12_suburb_45 (by decide) ?_
      obtain ⟨r7, U8, hc6, hF⟩ := ob2_s hF
      refine k_iall C (k_rV (As := [.int (59 : Int32)]) (rest := []) C (c_X12_sign l D q o0 a0 U4 _ (59 : Int32) hc6) kc_X12_sign ml_X12_287 rfl rfl (by decide) hP hD hS (va_recv hK hP (ci := 12) (q0 := 0) rfl rfl) rfl hl.1 rfl (Nat.le_of_ble_eq_true rfl) dX12_suburb_47 (by decide)) hP hD hS (by simp only [List.map_cons, List.map_nil, gad12]) (fun H locs hP hD hS => ?_)
      refine lv_if_ne (tgt := 60) hx hb dX12_suburb_50 (by decide) (fun c9 => ?_) (fun c9 => ?_)
      · have hF := op_f hF c9
        refine lv_aload_n hx hb dX12_suburb_60 rfl (lv_at hl 0 rfl) ?_
        refine lv_dup hx hb dX12_suburb_61 rfl ?_
        refine k_get (v := .int (U8.1 19)) C fg_X12_281 hP 0 rfl rfl dX12_suburb_62 ?_
        refine lv_iconst (v := (1 : Int32)) hx hb dX12_suburb_65 (by decide) ?_
        refine lv_iadd hx hb dX12_suburb_66 ?_
        obtain ⟨U10, e11, hF⟩ := nw_s hF
        refine k_put (W8 := fl [g12 q o0 a0 U10]) C fp_X12_281 hP hD hS 0 rfl rfl rfl (Nat.le_of_ble_eq_true rfl) dX12_suburb_67 (by rw [e11]; rfl) (fun H locs hP hD hS => ?_)
        refine lv_goto (tgt := 30) hx hb dX12_suburb_70 (by decide) ?_
        exact hk30 U10 hF _ _ _ hP hD hS (lv_sub hl [0] rfl)
      · have hF := op_t hF c9
        refine lv_iconst (v := (-1 : Int32)) hx hb dX12_suburb_53 (by decide) ?_
        refine lv_aload_n hx hb dX12_suburb_54 rfl (lv_at hl 0 rfl) ?_
        refine k_get (v := .int (U8.1 16)) C fg_X12_213 hP 0 rfl rfl dX12_suburb_55 ?_
        refine lv_isub hx hb dX12_suburb_58 ?_
        generalize ((-1 : Int32) - (U8.1 16)) = rr at hF ⊢
        cases hF
        exact k_iret C hP hS dX12_suburb_59
set_option maxRecDepth 100000 in
set_option maxHeartbeats 4000000 in
theorem l_X12_suburb_30 {p : Program} {l : Launch} {e : Env} {s : State} {m : MethodId} {args : Array Value} {below : List Frame} {meth : Method} {c : Code} {D : va_G} {q : Nat → ClassId} {A : Nat → Prop} {o0 : Nat} {a0 : Nat → Nat} {r : Int32} {T0 : St} (C : cx p s m args meth c cX12_suburb 2 (some .int) RX12 D q A) {S0 : St} (hF : L_X12_suburb_30 S0 = some (r, T0)) : ∀ (H : Heap) (locs : List Loc) (ls : Array Slot), va_P D vwCl (fl [g12 q o0 a0 S0]) H → va_D A (fl [g12 q o0 a0 S0]) → va_S A s.heap H locs → lv_has ls 2 [(0, .ref o0)] → W p l e rm_X12_suburb s m args below meth c H locs 0 0 (MQ below (QI D A r (fl [g12 q o0 a0 T0])) args s 0 0 A) (F0 m 30 ls []) :=
  lp_G _ _ (fun z => ∀ (H : Heap) (locs : List Loc) (ls : Array Slot), va_P D vwCl (fl [g12 q o0 a0 z]) H → va_D A (fl [g12 q o0 a0 z]) → va_S A s.heap H locs → lv_has ls 2 [(0, .ref o0)] → W p l e rm_X12_suburb s m args below meth c H locs 0 0 (MQ below (QI D A r (fl [g12 q o0 a0 T0])) args s 0 0 A) (F0 m 30 ls [])) (fun kz hkz z hz H locs ls hP hD hS hl => b_X12_suburb_30 C (fun S0 hz => hkz S0 hz) hz hP hD hS hl) FU S0 hF
set_option maxRecDepth 100000 in
set_option maxHeartbeats 4000000 in
theorem c_X12_suburb (l : Launch) (D : va_G) (q : Nat → ClassId) (o0 : Nat) (a0 : Nat → Nat) (S0 : St) (sz : Nat) {r : Int32} {T0 : St} (hF : F_X12_suburb S0 = some (r, T0)) : Met l yX12_suburb (Cond.code yX12_suburb cX12_suburb 2 (some .int) :: TB) rm_X12_suburb (PC D q [.ref o0] (fl [g12 q o0 a0 S0]) sz) ((fun A => QI D A r (fl [g12 q o0 a0 T0])) (va_A (fl [g12 q o0 a0 S0]) sz)) 0 0 (va_A (fl [g12 q o0 a0 S0]) sz) := by
  refine k_met (w0 := fl [g12 q o0 a0 S0]) (Q := fun A => QI D A r (fl [g12 q o0 a0 T0])) (by decide +kernel) (Nat.le_of_ble_eq_true rfl) ?_
  intro p e s m args below meth c A ls C hP hD hS hl
  have hl : lv_has ls 2 [(0, .ref o0)] := hl
  unfold F_X12_suburb at hF
  have C : cx p s m args meth c cX12_suburb 2 (some .int) RX12 D q A := C
  obtain ⟨hx, hb, hr, hml, hown, hts, hlk, hA, hK, hN, hV⟩ := id C
  refine lv_aload_n hx hb dX12_suburb_0 rfl (lv_at hl 0 rfl) ?_
  refine lv_iconst (v := (0 : Int32)) hx hb dX12_suburb_1 (by decide) ?_
  obtain ⟨U1, e2, hF⟩ := nw_s hF
  refine k_put (W8 := fl [g12 q o0 a0 U1]) C fp_X12_1 hP hD hS 0 rfl rfl rfl (Nat.le_of_ble_eq_true rfl) dX12_suburb_2 (by rw [e2]; rfl) (fun H locs hP hD hS => ?_)
  refine lv_aload_n hx hb dX12_suburb_5 rfl (lv_at hl 0 rfl) ?_
  refine lv_sipush (v := (900 : Int32)) hx hb dX12_suburb_6 (by decide) ?_
  obtain ⟨U4, hc3, hF⟩ := ob1_s hF
  refine k_vall C (k_rV (As := [.int (900 : Int32)]) (rest := []) C (c_X12_taken l D q o0 a0 U1 _ (900 : Int32) hc3) kc_X12_taken ml_X12_278 rfl rfl (by decide) hP hD hS (va_recv hK hP (ci := 12) (q0 := 0) rfl rfl) rfl hl.1 rfl (Nat.le_of_ble_eq_true rfl) dX12_suburb_9 (by decide)) hP hD hS (by simp only [List.map_cons, List.map_nil, gad12]) (fun H locs hP hD hS => ?_)
  refine lv_aload_n hx hb dX12_suburb_12 rfl (lv_at hl 0 rfl) ?_
  refine lv_iconst (v := (0 : Int32)) hx hb dX12_suburb_13 (by decide) ?_
  obtain ⟨U5, e6, hF⟩ := nw_s hF
  refine k_put (W8 := fl [g12 q o0 a0 U5]) C fp_X12_210 hP hD hS 0 rfl rfl rfl (Nat.le_of_ble_eq_true rfl) dX12_suburb_14 (by rw [e6]; rfl) (fun H locs hP hD hS => ?_)
  refine lv_aload_n hx hb dX12_suburb_17 rfl (lv_at hl 0 rfl) ?_
  refine lv_iconst (v := (0 : Int32)) hx hb dX12_suburb_18 (by decide) ?_
  obtain ⟨U7, e8, hF⟩ := nw_s hF
  refine k_put (W8 := fl [g12 q o0 a0 U7]) C fp_X12_281 hP hD hS 0 rfl rfl rfl (Nat.le_of_ble_eq_true rfl) dX12_suburb_19 (by rw [e8]; rfl) (fun H locs hP hD hS => ?_)
  refine lv_aload_n hx hb dX12_suburb_22 rfl (lv_at hl 0 rfl) ?_
  obtain ⟨U10, hc9, hF⟩ := ob1_s hF
  refine k_vall C (k_rV (As := []) (rest := []) C (c_X12_clears l D q o0 a0 U7 _ hc9) kc_X12_clears ml_X12_180 rfl rfl (by decide) hP hD hS (va_recv hK hP (ci := 12) (q0 := 0) rfl rfl) rfl hl.1 rfl (Nat.le_of_ble_eq_true rfl) dX12_suburb_23 (by decide)) hP hD hS (by simp only [List.map_cons, List.map_nil, gad12]) (fun H locs hP hD hS => ?_)
  refine lv_aload_n hx hb dX12_suburb_26 rfl (lv_at hl 0 rfl) ?_
  obtain ⟨U12, hc11, hF⟩ := ob1_s hF
  refine k_vall C (k_rV (As := []) (rest := []) C (c_X12_next l D q o0 a0 U10 _ hc11) kc_X12_next ml_X12_222 rfl rfl (by decide) hP hD hS (va_recv hK hP (ci := 12) (q0 := 0) rfl rfl) rfl hl.1 rfl (Nat.le_of_ble_eq_true rfl) dX12_suburb_27 (by decide)) hP hD hS (by simp only [List.map_cons, List.map_nil, gad12]) (fun H locs hP hD hS => ?_)
  exact l_X12_suburb_30 C hF _ _ _ hP hD hS (lv_sub hl [0] rfl)

abbrev rm_X12_fault : Room := ({ frames := 0, cells := 0, slots := 0, locals := 0 } : Room)
def F_X12_fault (S0 : St) : Option (Int32 × St) := nw (sI S0 0 (0 : Int32)) fun U1 => some ((U1.1 15), U1)
set_option maxRecDepth 100000 in
set_option maxHeartbeats 4000000 in
theorem c_X12_fault (l : Launch) (D : va_G) (q : Nat → ClassId) (o0 : Nat) (a0 : Nat → Nat) (S0 : St) (sz : Nat) {r : Int32} {T0 : St} (hF : F_X12_fault S0 = some (r, T0)) : Met l yX12_fault (Cond.code yX12_fault cX12_fault 1 (some .int) :: TB) rm_X12_fault (PC D q [.ref o0] (fl [g12 q o0 a0 S0]) sz) ((fun A => QI D A r (fl [g12 q o0 a0 T0])) (va_A (fl [g12 q o0 a0 S0]) sz)) 0 0 (va_A (fl [g12 q o0 a0 S0]) sz) := by
  refine k_met (w0 := fl [g12 q o0 a0 S0]) (Q := fun A => QI D A r (fl [g12 q o0 a0 T0])) (by decide +kernel) (Nat.le_of_ble_eq_true rfl) ?_
  intro p e s m args below meth c A ls C hP hD hS hl
  have hl : lv_has ls 1 [(0, .ref o0)] := hl
  unfold F_X12_fault at hF
  have C : cx p s m args meth c cX12_fault 1 (some .int) RX12 D q A := C
  obtain ⟨hx, hb, hr, hml, hown, hts, hlk, hA, hK, hN, hV⟩ := id C
  refine lv_aload_n hx hb dX12_fault_0 rfl (lv_at hl 0 rfl) ?_
  refine lv_iconst (v := (0 : Int32)) hx hb dX12_fault_1 (by decide) ?_
  obtain ⟨U1, e2, hF⟩ := nw_s hF
  refine k_put (W8 := fl [g12 q o0 a0 U1]) C fp_X12_1 hP hD hS 0 rfl rfl rfl (Nat.le_of_ble_eq_true rfl) dX12_fault_2 (by rw [e2]; rfl) (fun H locs hP hD hS => ?_)
  refine lv_aload_n hx hb dX12_fault_5 rfl (lv_at hl 0 rfl) ?_
  refine k_get (v := .int (U1.1 15)) C fg_X12_210 hP 0 rfl rfl dX12_fault_6 ?_
  cases hF
  exact k_iret C hP hS dX12_fault_9

abbrev rm_X12_isTurret : Room := ({ frames := 1, cells := 0, slots := 0, locals := 22 } : Room)
def F_X12_isTurret (S0 : St) (x1 : Int32) : Option (Int32) := if oob (0 : Int32) 258 then none else ob1 (F_X12_isIn x1 (0 : Int32) ((S0.2.2.1 6 (0 : Int32).toNatClampNeg) - (1 : Int32))) fun r3 => if nb r3 then none else some (r3)
set_option maxRecDepth 100000 in
set_option maxHeartbeats 4000000 in
theorem c_X12_isTurret (l : Launch) (D : va_G) (q : Nat → ClassId) (o0 : Nat) (a0 : Nat → Nat) (S0 : St) (sz : Nat) (x1 : Int32) {r : Int32} (hF : F_X12_isTurret S0 x1 = some (r)) : Met l yX12_isTurret (Cond.code yX12_isTurret cX12_isTurret 2 (some .boolean) :: TB) rm_X12_isTurret (PC D q [.ref o0, .int x1] (fl [g12 q o0 a0 S0]) sz) ((fun A => QI D A r (fl [g12 q o0 a0 S0])) (va_A (fl [g12 q o0 a0 S0]) sz)) 0 0 (va_A (fl [g12 q o0 a0 S0]) sz) := by
  refine k_met (w0 := fl [g12 q o0 a0 S0]) (Q := fun A => QI D A r (fl [g12 q o0 a0 S0])) (by decide +kernel) (Nat.le_of_ble_eq_true rfl) ?_
  intro p e s m args below meth c A ls C hP hD hS hl
  have hl : lv_has ls 2 [(0, .ref o0), (1, .int x1)] := hl
  unfold F_X12_isTurret at hF
  have C : cx p s m args meth c cX12_isTurret 2 (some .boolean) RX12 D q A := C
  obtain ⟨hx, hb, hr, hml, hown, hts, hlk, hA, hK, hN, hV⟩ := id C
  refine lv_iload_n hx hb dX12_isTurret_0 rfl (lv_at hl 1 rfl) ?_
  refine lv_iconst (v := (0 : Int32)) hx hb dX12_isTurret_1 (by decide) ?_
  refine lv_aload_n hx hb dX12_isTurret_2 rfl (lv_at hl 0 rfl) ?_
  refine k_get (v := .ref (a0 7)) C fg_X12_33 hP 0 rfl rfl dX12_isTurret_3 ?_
  refine lv_iconst (v := (0 : Int32)) hx hb dX12_isTurret_6 (by decide) ?_
  obtain ⟨h1, hF⟩ := op_ck hF
  refine k_ild (f := S0.2.2.1 6) C hP 2 rfl h1 dX12_isTurret_7 ?_
  refine lv_iconst (v := (1 : Int32)) hx hb dX12_isTurret_8 (by decide) ?_
  refine lv_isub hx hb dX12_isTurret_9 ?_
  obtain ⟨r3, hc2, hF⟩ := ob1_s hF
  refine k_inil C (k_rS (As := [.int x1, .int (0 : Int32), .int ((S0.2.2.1 6 (0 : Int32).toNatClampNeg) - (1 : Int32))]) (rest := []) C (c_X12_isIn l D q _ x1 (0 : Int32) ((S0.2.2.1 6 (0 : Int32).toNatClampNeg) - (1 : Int32)) hc2) kc_X12_isIn ml_X12_225 rfl rfl (by decide) (fun k x h => by simp at h) (⟨fun i j x y h => by simp at h, fun k x h => by simp at h⟩ : va_D A []) hS rfl hl.1 rfl (Nat.le_of_ble_eq_true rfl) dX12_isTurret_10 (by decide)) hP hD hS (fun H locs hP hD hS => ?_)
  obtain ⟨h4, hF⟩ := op_ck hF
  cases hF
  exact k_zret C h4 hP hS dX12_isTurret_13

abbrev rm_X12_isPerson : Room := ({ frames := 1, cells := 0, slots := 0, locals := 22 } : Room)
def F_X12_isPerson (S0 : St) (x1 : Int32) : Option (Int32) := if oob (1 : Int32) 258 then none else ob1 (F_X12_isIn x1 (0 : Int32) ((S0.2.2.1 6 (1 : Int32).toNatClampNeg) - (1 : Int32))) fun r3 => if nb r3 then none else some (r3)
set_option maxRecDepth 100000 in
set_option maxHeartbeats 4000000 in
theorem c_X12_isPerson (l : Launch) (D : va_G) (q : Nat → ClassId) (o0 : Nat) (a0 : Nat → Nat) (S0 : St) (sz : Nat) (x1 : Int32) {r : Int32} (hF : F_X12_isPerson S0 x1 = some (r)) : Met l yX12_isPerson (Cond.code yX12_isPerson cX12_isPerson 2 (some .boolean) :: TB) rm_X12_isPerson (PC D q [.ref o0, .int x1] (fl [g12 q o0 a0 S0]) sz) ((fun A => QI D A r (fl [g12 q o0 a0 S0])) (va_A (fl [g12 q o0 a0 S0]) sz)) 0 0 (va_A (fl [g12 q o0 a0 S0]) sz) := by
  refine k_met (w0 := fl [g12 q o0 a0 S0]) (Q := fun A => QI D A r (fl [g12 q o0 a0 S0])) (by decide +kernel) (Nat.le_of_ble_eq_true rfl) ?_
  intro p e s m args below meth c A ls C hP hD hS hl
  have hl : lv_has ls 2 [(0, .ref o0), (1, .int x1)] := hl
  unfold F_X12_isPerson at hF
  have C : cx p s m args meth c cX12_isPerson 2 (some .boolean) RX12 D q A := C
  obtain ⟨hx, hb, hr, hml, hown, hts, hlk, hA, hK, hN, hV⟩ := id C
  refine lv_iload_n hx hb dX12_isPerson_0 rfl (lv_at hl 1 rfl) ?_
  refine lv_iconst (v := (0 : Int32)) hx hb dX12_isPerson_1 (by decide) ?_
  refine lv_aload_n hx hb dX12_isPerson_2 rfl (lv_at hl 0 rfl) ?_
  refine k_get (v := .ref (a0 7)) C fg_X12_33 hP 0 rfl rfl dX12_isPerson_3 ?_
  refine lv_iconst (v := (1 : Int32)) hx hb dX12_isPerson_6 (by decide) ?_
  obtain ⟨h1, hF⟩ := op_ck hF
  refine k_ild (f := S0.2.2.1 6) C hP 2 rfl h1 dX12_isPerson_7 ?_
  refine lv_iconst (v := (1 : Int32)) hx hb dX12_isPerson_8 (by decide) ?_
  refine lv_isub hx hb dX12_isPerson_9 ?_
  obtain ⟨r3, hc2, hF⟩ := ob1_s hF
  refine k_inil C (k_rS (As := [.int x1, .int (0 : Int32), .int ((S0.2.2.1 6 (1 : Int32).toNatClampNeg) - (1 : Int32))]) (rest := []) C (c_X12_isIn l D q _ x1 (0 : Int32) ((S0.2.2.1 6 (1 : Int32).toNatClampNeg) - (1 : Int32)) hc2) kc_X12_isIn ml_X12_225 rfl rfl (by decide) (fun k x h => by simp at h) (⟨fun i j x y h => by simp at h, fun k x h => by simp at h⟩ : va_D A []) hS rfl hl.1 rfl (Nat.le_of_ble_eq_true rfl) dX12_isPerson_10 (by decide)) hP hD hS (fun H locs hP hD hS => ?_)
  obtain ⟨h4, hF⟩ := op_ck hF
  cases hF
  exact k_zret C h4 hP hS dX12_isPerson_13

abbrev rm_X12_isView : Room := ({ frames := 1, cells := 0, slots := 0, locals := 22 } : Room)
def F_X12_isView (S0 : St) (x1 : Int32) : Option (Int32) := ob1 (F_X12_isIn x1 (0 : Int32) (7 : Int32)) fun r2 => if nb r2 then none else some (r2)
set_option maxRecDepth 100000 in
set_option maxHeartbeats 4000000 in
theorem c_X12_isView (l : Launch) (D : va_G) (q : Nat → ClassId) (o0 : Nat) (a0 : Nat → Nat) (S0 : St) (sz : Nat) (x1 : Int32) {r : Int32} (hF : F_X12_isView S0 x1 = some (r)) : Met l yX12_isView (Cond.code yX12_isView cX12_isView 2 (some .boolean) :: TB) rm_X12_isView (PC D q [.ref o0, .int x1] (fl [g12 q o0 a0 S0]) sz) ((fun A => QI D A r (fl [g12 q o0 a0 S0])) (va_A (fl [g12 q o0 a0 S0]) sz)) 0 0 (va_A (fl [g12 q o0 a0 S0]) sz) := by
  refine k_met (w0 := fl [g12 q o0 a0 S0]) (Q := fun A => QI D A r (fl [g12 q o0 a0 S0])) (by decide +kernel) (Nat.le_of_ble_eq_true rfl) ?_
  intro p e s m args below meth c A ls C hP hD hS hl
  have hl : lv_has ls 2 [(0, .ref o0), (1, .int x1)] := hl
  unfold F_X12_isView at hF
  have C : cx p s m args meth c cX12_isView 2 (some .boolean) RX12 D q A := C
  obtain ⟨hx, hb, hr, hml, hown, hts, hlk, hA, hK, hN, hV⟩ := id C
  refine lv_iload_n hx hb dX12_isView_0 rfl (lv_at hl 1 rfl) ?_
  refine lv_iconst (v := (0 : Int32)) hx hb dX12_isView_1 (by decide) ?_
  refine lv_bipush (v := (7 : Int32)) hx hb dX12_isView_2 (by decide) ?_
  obtain ⟨r2, hc1, hF⟩ := ob1_s hF
  refine k_inil C (k_rS (As := [.int x1, .int (0 : Int32), .int (7 : Int32)]) (rest := []) C (c_X12_isIn l D q _ x1 (0 : Int32) (7 : Int32) hc1) kc_X12_isIn ml_X12_225 rfl rfl (by decide) (fun k x h => by simp at h) (⟨fun i j x y h => by simp at h, fun k x h => by simp at h⟩ : va_D A []) hS rfl hl.1 rfl (Nat.le_of_ble_eq_true rfl) dX12_isView_4 (by decide)) hP hD hS (fun H locs hP hD hS => ?_)
  obtain ⟨h3, hF⟩ := op_ck hF
  cases hF
  exact k_zret C h3 hP hS dX12_isView_7

abbrev rm_X12_isUp : Room := ({ frames := 0, cells := 0, slots := 0, locals := 0 } : Room)
def F_X12_isUp (S0 : St) (x1 : Int32) : Option (Int32) := if oob ((65 : Int32) + x1) 258 then none else if (S0.2.2.1 6 ((65 : Int32) + x1).toNatClampNeg) ≤ 0 then (some ((0 : Int32))) else (some ((1 : Int32)))
set_option maxRecDepth 100000 in
set_option maxHeartbeats 4000000 in
theorem c_X12_isUp (l : Launch) (D : va_G) (q : Nat → ClassId) (o0 : Nat) (a0 : Nat → Nat) (S0 : St) (sz : Nat) (x1 : Int32) {r : Int32} (hF : F_X12_isUp S0 x1 = some (r)) : Met l yX12_isUp (Cond.code yX12_isUp cX12_isUp 2 (some .boolean) :: TB) rm_X12_isUp (PC D q [.ref o0, .int x1] (fl [g12 q o0 a0 S0]) sz) ((fun A => QI D A r (fl [g12 q o0 a0 S0])) (va_A (fl [g12 q o0 a0 S0]) sz)) 0 0 (va_A (fl [g12 q o0 a0 S0]) sz) := by
  refine k_met (w0 := fl [g12 q o0 a0 S0]) (Q := fun A => QI D A r (fl [g12 q o0 a0 S0])) (by decide +kernel) (Nat.le_of_ble_eq_true rfl) ?_
  intro p e s m args below meth c A ls C hP hD hS hl
  have hl : lv_has ls 2 [(0, .ref o0), (1, .int x1)] := hl
  unfold F_X12_isUp at hF
  have C : cx p s m args meth c cX12_isUp 2 (some .boolean) RX12 D q A := C
  obtain ⟨hx, hb, hr, hml, hown, hts, hlk, hA, hK, hN, hV⟩ := id C
  refine lv_aload_n hx hb dX12_isUp_0 rfl (lv_at hl 0 rfl) ?_
  refine k_get (v := .ref (a0 7)) C fg_X12_33 hP 0 rfl rfl dX12_isUp_1 ?_
  refine lv_bipush (v := (65 : Int32)) hx hb dX12_isUp_4 (by decide) ?_
  refine lv_iload_n hx hb dX12_isUp_6 rfl (lv_at hl 1 rfl) ?_
  refine lv_iadd hx hb dX12_isUp_7 ?_
  obtain ⟨h1, hF⟩ := op_ck hF
  refine k_ild (f := S0.2.2.1 6) C hP 2 rfl h1 dX12_isUp_8 ?_
  refine lv_if_le (tgt := 16) hx hb dX12_isUp_9 (by decide) (fun c2 => ?_) (fun c2 => ?_)
  · have hF := op_t hF c2
    refine lv_iconst (v := (0 : Int32)) hx hb dX12_isUp_16 (by decide) ?_
    cases hF
    exact k_zret C (by decide) hP hS dX12_isUp_17
  · have hF := op_f hF c2
    refine lv_iconst (v := (1 : Int32)) hx hb dX12_isUp_12 (by decide) ?_
    refine lv_goto (tgt := 17) hx hb dX12_isUp_13 (by decide) ?_
    cases hF
    exact k_zret C (by decide) hP hS dX12_isUp_17

abbrev rm_X12_isWalled : Room := ({ frames := 1, cells := 0, slots := 0, locals := 21 } : Room)
def F_X12_isWalled (S0 : St) (x1 : Int32) : Option (Int32) := if oob (44 : Int32) 258 then none else ob1 (F_X12_bitOf (S0.2.2.1 6 (44 : Int32).toNatClampNeg) x1) fun r3 => if nb r3 then none else some (r3)
set_option maxRecDepth 100000 in
set_option maxHeartbeats 4000000 in
theorem c_X12_isWalled (l : Launch) (D : va_G) (q : Nat → ClassId) (o0 : Nat) (a0 : Nat → Nat) (S0 : St) (sz : Nat) (x1 : Int32) {r : Int32} (hF : F_X12_isWalled S0 x1 = some (r)) : Met l yX12_isWalled (Cond.code yX12_isWalled cX12_isWalled 2 (some .boolean) :: TB) rm_X12_isWalled (PC D q [.ref o0, .int x1] (fl [g12 q o0 a0 S0]) sz) ((fun A => QI D A r (fl [g12 q o0 a0 S0])) (va_A (fl [g12 q o0 a0 S0]) sz)) 0 0 (va_A (fl [g12 q o0 a0 S0]) sz) := by
  refine k_met (w0 := fl [g12 q o0 a0 S0]) (Q := fun A => QI D A r (fl [g12 q o0 a0 S0])) (by decide +kernel) (Nat.le_of_ble_eq_true rfl) ?_
  intro p e s m args below meth c A ls C hP hD hS hl
  have hl : lv_has ls 2 [(0, .ref o0), (1, .int x1)] := hl
  unfold F_X12_isWalled at hF
  have C : cx p s m args meth c cX12_isWalled 2 (some .boolean) RX12 D q A := C
  obtain ⟨hx, hb, hr, hml, hown, hts, hlk, hA, hK, hN, hV⟩ := id C
  refine lv_aload_n hx hb dX12_isWalled_0 rfl (lv_at hl 0 rfl) ?_
  refine k_get (v := .ref (a0 7)) C fg_X12_33 hP 0 rfl rfl dX12_isWalled_1 ?_
  refine lv_bipush (v := (44 : Int32)) hx hb dX12_isWalled_4 (by decide) ?_
  obtain ⟨h1, hF⟩ := op_ck hF
  refine k_ild (f := S0.2.2.1 6) C hP 2 rfl h1 dX12_isWalled_6 ?_
  refine lv_iload_n hx hb dX12_isWalled_7 rfl (lv_at hl 1 rfl) ?_
  obtain ⟨r3, hc2, hF⟩ := ob1_s hF
  refine k_inil C (k_rS (As := [.int (S0.2.2.1 6 (44 : Int32).toNatClampNeg), .int x1]) (rest := []) C (c_X12_bitOf l D q _ (S0.2.2.1 6 (44 : Int32).toNatClampNeg) x1 hc2) kc_X12_bitOf ml_X12_275 rfl rfl (by decide) (fun k x h => by simp at h) (⟨fun i j x y h => by simp at h, fun k x h => by simp at h⟩ : va_D A []) hS rfl hl.1 rfl (Nat.le_of_ble_eq_true rfl) dX12_isWalled_8 (by decide)) hP hD hS (fun H locs hP hD hS => ?_)
  obtain ⟨h4, hF⟩ := op_ck hF
  cases hF
  exact k_zret C h4 hP hS dX12_isWalled_11

abbrev rm_X12_manyOf : Room := ({ frames := 0, cells := 0, slots := 0, locals := 0 } : Room)
def F_X12_manyOf (S0 : St) (x1 : Int32) : Option (Int32) := if oob ((2 : Int32) + x1) 258 then none else if (S0.2.2.1 6 ((2 : Int32) + x1).toNatClampNeg) = 0 then (some ((1 : Int32))) else (if oob ((2 : Int32) + x1) 258 then none else if (S0.2.2.1 6 ((2 : Int32) + x1).toNatClampNeg) = (1 : Int32) then (some ((3 : Int32))) else (some ((8 : Int32))))
set_option maxRecDepth 100000 in
set_option maxHeartbeats 4000000 in
theorem c_X12_manyOf (l : Launch) (D : va_G) (q : Nat → ClassId) (o0 : Nat) (a0 : Nat → Nat) (S0 : St) (sz : Nat) (x1 : Int32) {r : Int32} (hF : F_X12_manyOf S0 x1 = some (r)) : Met l yX12_manyOf (Cond.code yX12_manyOf cX12_manyOf 2 (some .int) :: TB) rm_X12_manyOf (PC D q [.ref o0, .int x1] (fl [g12 q o0 a0 S0]) sz) ((fun A => QI D A r (fl [g12 q o0 a0 S0])) (va_A (fl [g12 q o0 a0 S0]) sz)) 0 0 (va_A (fl [g12 q o0 a0 S0]) sz) := by
  refine k_met (w0 := fl [g12 q o0 a0 S0]) (Q := fun A => QI D A r (fl [g12 q o0 a0 S0])) (by decide +kernel) (Nat.le_of_ble_eq_true rfl) ?_
  intro p e s m args below meth c A ls C hP hD hS hl
  have hl : lv_has ls 2 [(0, .ref o0), (1, .int x1)] := hl
  unfold F_X12_manyOf at hF
  have C : cx p s m args meth c cX12_manyOf 2 (some .int) RX12 D q A := C
  obtain ⟨hx, hb, hr, hml, hown, hts, hlk, hA, hK, hN, hV⟩ := id C
  refine lv_aload_n hx hb dX12_manyOf_0 rfl (lv_at hl 0 rfl) ?_
  refine k_get (v := .ref (a0 7)) C fg_X12_33 hP 0 rfl rfl dX12_manyOf_1 ?_
  refine lv_iconst (v := (2 : Int32)) hx hb dX12_manyOf_4 (by decide) ?_
  refine lv_iload_n hx hb dX12_manyOf_5 rfl (lv_at hl 1 rfl) ?_
  refine lv_iadd hx hb dX12_manyOf_6 ?_
  obtain ⟨h1, hF⟩ := op_ck hF
  refine k_ild (f := S0.2.2.1 6) C hP 2 rfl h1 dX12_manyOf_7 ?_
  refine lv_if_ne (tgt := 15) hx hb dX12_manyOf_8 (by decide) (fun c2 => ?_) (fun c2 => ?_)
  · have hF := op_f hF c2
    refine lv_aload_n hx hb dX12_manyOf_15 rfl (lv_at hl 0 rfl) ?_
    refine k_get (v := .ref (a0 7)) C fg_X12_33 hP 0 rfl rfl dX12_manyOf_16 ?_
    refine lv_iconst (v := (2 : Int32)) hx hb dX12_manyOf_19 (by decide) ?_
    refine lv_iload_n hx hb dX12_manyOf_20 rfl (lv_at hl 1 rfl) ?_
    refine lv_iadd hx hb dX12_manyOf_21 ?_
    obtain ⟨h3, hF⟩ := op_ck hF
    refine k_ild (f := S0.2.2.1 6) C hP 2 rfl h3 dX12_manyOf_22 ?_
    refine lv_iconst (v := (1 : Int32)) hx hb dX12_manyOf_23 (by decide) ?_
    refine lv_icmp_ne (tgt := 31) hx hb dX12_manyOf_24 (by decide) (fun c4 => ?_) (fun c4 => ?_)
    · have hF := op_f hF c4
      refine lv_bipush (v := (8 : Int32)) hx hb dX12_manyOf_31 (by decide) ?_
      cases hF
      exact k_iret C hP hS dX12_manyOf_33
    · have hF := op_t hF c4
      refine lv_iconst (v := (3 : Int32)) hx hb dX12_manyOf_27 (by decide) ?_
      refine lv_goto (tgt := 33) hx hb dX12_manyOf_28 (by decide) ?_
      cases hF
      exact k_iret C hP hS dX12_manyOf_33
  · have hF := op_t hF c2
    refine lv_iconst (v := (1 : Int32)) hx hb dX12_manyOf_11 (by decide) ?_
    refine lv_goto (tgt := 33) hx hb dX12_manyOf_12 (by decide) ?_
    cases hF
    exact k_iret C hP hS dX12_manyOf_33

abbrev rm_X12_lookOf : Room := ({ frames := 0, cells := 0, slots := 0, locals := 0 } : Room)
def F_X12_lookOf_51 (x1 : Int32) (s0 : Int32) (S0 : St) : Option (Int32) := if oob ((45 : Int32) + x1) 258 then none else some ((((S0.2.2.1 6 ((45 : Int32) + x1).toNatClampNeg) + s0) &&& (7 : Int32)))
def F_X12_lookOf (S0 : St) (x1 : Int32) (x2 : Int32) : Option (Int32) := if oob ((2 : Int32) + x1) 258 then none else if (S0.2.2.1 6 ((2 : Int32) + x1).toNatClampNeg) = (3 : Int32) then (F_X12_lookOf_51 x1 (-x2) S0) else (if oob ((2 : Int32) + x1) 258 then none else if (S0.2.2.1 6 ((2 : Int32) + x1).toNatClampNeg) = (2 : Int32) then (F_X12_lookOf_51 x1 x2 S0) else (if x2 = 0 then (F_X12_lookOf_51 x1 (0 : Int32) S0) else (if x2 = (1 : Int32) then (F_X12_lookOf_51 x1 (-1 : Int32) S0) else (F_X12_lookOf_51 x1 (1 : Int32) S0))))
set_option maxRecDepth 100000 in
set_option maxHeartbeats 4000000 in
theorem b_X12_lookOf_51 {p : Program} {l : Launch} {e : Env} {s : State} {m : MethodId} {args : Array Value} {below : List Frame} {meth : Method} {c : Code} {D : va_G} {q : Nat → ClassId} {A : Nat → Prop} {o0 : Nat} {a0 : Nat → Nat} {r : Int32} (C : cx p s m args meth c cX12_lookOf 4 (some .int) RX12 D q A) {x1 : Int32} {s0 : Int32} {S0 : St} (hF : F_X12_lookOf_51 x1 s0 S0 = some (r)) {H : Heap} {locs : List Loc} (hP : va_P D vwCl (fl [g12 q o0 a0 S0]) H) (hD : va_D A (fl [g12 q o0 a0 S0])) (hS : va_S A s.heap H locs) {ls : Array Slot} (hl : lv_has ls 4 [(0, .ref o0), (1, .int x1)]) : W p l e rm_X12_lookOf s m args below meth c H locs 0 0 (MQ below (QI D A r (fl [g12 q o0 a0 S0])) args s 0 0 A) (F0 m 51 ls [.int s0]) := by
  unfold F_X12_lookOf_51 at hF
  obtain ⟨hx, hb, hr, hml, hown, hts, hlk, hA, hK, hN, hV⟩ := id C
  refine lv_istore_n (lv' := [(3, .int s0), (0, .ref o0), (1, .int x1)]) hx hb dX12_lookOf_51 rfl hl (by decide) rfl (fun ls hl => ?_)
  refine lv_aload_n hx hb dX12_lookOf_52 rfl (lv_at hl 1 rfl) ?_
  refine k_get (v := .ref (a0 7)) C fg_X12_33 hP 0 rfl rfl dX12_lookOf_53 ?_
  refine lv_bipush (v := (45 : Int32)) hx hb dX12_lookOf_56 (by decide) ?_
  refine lv_iload_n hx hb dX12_lookOf_58 rfl (lv_at hl 2 rfl) ?_
  refine lv_iadd hx hb dX12_lookOf_59 ?_
  obtain ⟨h1, hF⟩ := op_ck hF
  refine k_ild (f := S0.2.2.1 6) C hP 2 rfl h1 dX12_lookOf_60 ?_
  refine lv_iload_n hx hb dX12_lookOf_61 rfl (lv_at hl 0 rfl) ?_
  refine lv_iadd hx hb dX12_lookOf_62 ?_
  refine lv_bipush (v := (7 : Int32)) hx hb dX12_lookOf_63 (by decide) ?_
  refine lv_iand hx hb dX12_lookOf_65 ?_
  cases hF
  exact k_iret C hP hS dX12_lookOf_66
set_option maxRecDepth 100000 in
set_option maxHeartbeats 4000000 in
theorem c_X12_lookOf (l : Launch) (D : va_G) (q : Nat → ClassId) (o0 : Nat) (a0 : Nat → Nat) (S0 : St) (sz : Nat) (x1 : Int32) (x2 : Int32) {r : Int32} (hF : F_X12_lookOf S0 x1 x2 = some (r)) : Met l yX12_lookOf (Cond.code yX12_lookOf cX12_lookOf 4 (some .int) :: TB) rm_X12_lookOf (PC D q [.ref o0, .int x1, .int x2] (fl [g12 q o0 a0 S0]) sz) ((fun A => QI D A r (fl [g12 q o0 a0 S0])) (va_A (fl [g12 q o0 a0 S0]) sz)) 0 0 (va_A (fl [g12 q o0 a0 S0]) sz) := by
  refine k_met (w0 := fl [g12 q o0 a0 S0]) (Q := fun A => QI D A r (fl [g12 q o0 a0 S0])) (by decide +kernel) (Nat.le_of_ble_eq_true rfl) ?_
  intro p e s m args below meth c A ls C hP hD hS hl
  have hl : lv_has ls 4 [(0, .ref o0), (1, .int x1), (2, .int x2)] := hl
  unfold F_X12_lookOf at hF
  have C : cx p s m args meth c cX12_lookOf 4 (some .int) RX12 D q A := C
  obtain ⟨hx, hb, hr, hml, hown, hts, hlk, hA, hK, hN, hV⟩ := id C
  refine lv_aload_n hx hb dX12_lookOf_0 rfl (lv_at hl 0 rfl) ?_
  refine k_get (v := .ref (a0 7)) C fg_X12_33 hP 0 rfl rfl dX12_lookOf_1 ?_
  refine lv_iconst (v := (2 : Int32)) hx hb dX12_lookOf_4 (by decide) ?_
  refine lv_iload_n hx hb dX12_lookOf_5 rfl (lv_at hl 1 rfl) ?_
  refine lv_iadd hx hb dX12_lookOf_6 ?_
  obtain ⟨h1, hF⟩ := op_ck hF
  refine k_ild (f := S0.2.2.1 6) C hP 2 rfl h1 dX12_lookOf_7 ?_
  refine lv_iconst (v := (3 : Int32)) hx hb dX12_lookOf_8 (by decide) ?_
  refine lv_icmp_ne (tgt := 17) hx hb dX12_lookOf_9 (by decide) (fun c2 => ?_) (fun c2 => ?_)
  · have hF := op_f hF c2
    refine lv_aload_n hx hb dX12_lookOf_17 rfl (lv_at hl 0 rfl) ?_
    refine k_get (v := .ref (a0 7)) C fg_X12_33 hP 0 rfl rfl dX12_lookOf_18 ?_
    refine lv_iconst (v := (2 : Int32)) hx hb dX12_lookOf_21 (by decide) ?_
    refine lv_iload_n hx hb dX12_lookOf_22 rfl (lv_at hl 1 rfl) ?_
    refine lv_iadd hx hb dX12_lookOf_23 ?_
    obtain ⟨h3, hF⟩ := op_ck hF
    refine k_ild (f := S0.2.2.1 6) C hP 2 rfl h3 dX12_lookOf_24 ?_
    refine lv_iconst (v := (2 : Int32)) hx hb dX12_lookOf_25 (by decide) ?_
    refine lv_icmp_ne (tgt := 33) hx hb dX12_lookOf_26 (by decide) (fun c4 => ?_) (fun c4 => ?_)
    · have hF := op_f hF c4
      refine lv_iload_n hx hb dX12_lookOf_33 rfl (lv_at hl 2 rfl) ?_
      refine lv_if_ne (tgt := 41) hx hb dX12_lookOf_34 (by decide) (fun c5 => ?_) (fun c5 => ?_)
      · have hF := op_f hF c5
        refine lv_iload_n hx hb dX12_lookOf_41 rfl (lv_at hl 2 rfl) ?_
        refine lv_iconst (v := (1 : Int32)) hx hb dX12_lookOf_42 (by decide) ?_
        refine lv_icmp_ne (tgt := 50) hx hb dX12_lookOf_43 (by decide) (fun c6 => ?_) (fun c6 => ?_)
        · have hF := op_f hF c6
          refine lv_iconst (v := (1 : Int32)) hx hb dX12_lookOf_50 (by decide) ?_
          exact b_X12_lookOf_51 C hF hP hD hS (lv_sub hl [0, 1] rfl)
        · have hF := op_t hF c6
          refine lv_iconst (v := (-1 : Int32)) hx hb dX12_lookOf_46 (by decide) ?_
          refine lv_goto (tgt := 51) hx hb dX12_lookOf_47 (by decide) ?_
          exact b_X12_lookOf_51 C hF hP hD hS (lv_sub hl [0, 1] rfl)
      · have hF := op_t hF c5
        refine lv_iconst (v := (0 : Int32)) hx hb dX12_lookOf_37 (by decide) ?_
        refine lv_goto (tgt := 51) hx hb dX12_lookOf_38 (by decide) ?_
        exact b_X12_lookOf_51 C hF hP hD hS (lv_sub hl [0, 1] rfl)
    · have hF := op_t hF c4
      refine lv_iload_n hx hb dX12_lookOf_29 rfl (lv_at hl 2 rfl) ?_
      refine lv_goto (tgt := 51) hx hb dX12_lookOf_30 (by decide) ?_
      exact b_X12_lookOf_51 C hF hP hD hS (lv_sub hl [0, 1] rfl)
  · have hF := op_t hF c2
    refine lv_iload_n hx hb dX12_lookOf_12 rfl (lv_at hl 2 rfl) ?_
    refine lv_ineg hx hb dX12_lookOf_13 ?_
    refine lv_goto (tgt := 51) hx hb dX12_lookOf_14 (by decide) ?_
    exact b_X12_lookOf_51 C hF hP hD hS (lv_sub hl [0, 1] rfl)

abbrev rm_X12_looksOf : Room := ({ frames := 1, cells := 0, slots := 0, locals := 23 } : Room)
def F_X12_looksOf_4 (k4 : Int32 × Int32 × Int32 × St → Option (Int32)) (x1 : Int32) (x2 : Int32) (x3 : Int32) (S0 : St) : Option (Int32) := ob1 (F_X12_manyOf S0 x1) fun r2 => if r2 ≤ x3 then (some (x2)) else (ob1 (F_X12_lookOf S0 x1 x3) fun r5 => nw (x2 ||| ((1 : Int32) <<< (r5 &&& 31))) fun v6 => k4 (x1, v6, (x3 + 1), S0))
def L_X12_looksOf_4 (x1 : Int32) (x2 : Int32) (x3 : Int32) (S0 : St) : Option (Int32) := lp (fun kz z => F_X12_looksOf_4 kz z.1 z.2.1 z.2.2.1 z.2.2.2) FU (x1, x2, x3, S0)
def F_X12_looksOf (S0 : St) (x1 : Int32) : Option (Int32) := L_X12_looksOf_4 x1 (0 : Int32) (0 : Int32) S0
set_option maxRecDepth 100000 in
set_option maxHeartbeats 4000000 in
theorem b_X12_looksOf_4 {p : Program} {l : Launch} {e : Env} {s : State} {m : MethodId} {args : Array Value} {below : List Frame} {meth : Method} {c : Code} {D : va_G} {q : Nat → ClassId} {A : Nat → Prop} {o0 : Nat} {a0 : Nat → Nat} {r : Int32} (C : cx p s m args meth c cX12_looksOf 4 (some .int) RX12 D q A) {k4 : Int32 × Int32 × Int32 × St → Option (Int32)} (hk4 : ∀ (x1 : Int32) (x2 : Int32) (x3 : Int32) (S0 : St), k4 (x1, x2, x3, S0) = some (r) → ∀ (H : Heap) (locs : List Loc) (ls : Array Slot), va_P D vwCl (fl [g12 q o0 a0 S0]) H → va_D A (fl [g12 q o0 a0 S0]) → va_S A s.heap H locs → lv_has ls 4 [(0, .ref o0), (1, .int x1), (2, .int x2), (3, .int x3)] → W p l e rm_X12_looksOf s m args below meth c H locs 0 0 (MQ below (QI D A r (fl [g12 q o0 a0 S0])) args s 0 0 A) (F0 m 4 ls [])) {x1 : Int32} {x2 : Int32} {x3 : Int32} {S0 : St} (hF : F_X12_looksOf_4 k4 x1 x2 x3 S0 = some (r)) {H : Heap} {locs : List Loc} (hP : va_P D vwCl (fl [g12 q o0 a0 S0]) H) (hD : va_D A (fl [g12 q o0 a0 S0])) (hS : va_S A s.heap H locs) {ls : Array Slot} (hl : lv_has ls 4 [(0, .ref o0), (1, .int x1), (2, .int x2), (3, .int x3)]) : W p l e rm_X12_looksOf s m args below meth c H locs 0 0 (MQ below (QI D A r (fl [g12 q o0 a0 S0])) args s 0 0 A) (F0 m 4 ls []) := by
  unfold F_X12_looksOf_4 at hF
  obtain ⟨hx, hb, hr, hml, hown, hts, hlk, hA, hK, hN, hV⟩ := id C
  refine lv_iload_n hx hb dX12_looksOf_4 rfl (lv_at hl 3 rfl) ?_
  refine lv_aload_n hx hb dX12_looksOf_5 rfl (lv_at hl 0 rfl) ?_
  refine lv_iload_n hx hb dX12_looksOf_6 rfl (lv_at hl 1 rfl) ?_
  obtain ⟨r2, hc1, hF⟩ := ob1_s hF
  refine k_isame C (k_rV (As := [.int x1]) (rest := [.int x3]) C (c_X12_manyOf l D q o0 a0 S0 _ x1 hc1) kc_X12_manyOf ml_X12_293 rfl rfl (by decide) hP hD hS (va_recv hK hP (ci := 12) (q0 := 0) rfl rfl) rfl hl.1 rfl (Nat.le_of_ble_eq_true rfl) dX12_looksOf_7 (by decide)) hP hD hS (fun H locs hP hD hS => ?_)
  refine lv_icmp_ge (tgt := 30) hx hb dX12_looksOf_10 (by decide) (fun c3 => ?_) (fun c3 => ?_)
  · have hF := op_t hF c3
    refine lv_iload_n hx hb dX12_looksOf_30 rfl (lv_at hl 2 rfl) ?_
    cases hF
    exact k_iret C hP hS dX12_looksOf_31
  · have hF := op_f hF c3
    refine lv_iload_n hx hb dX12_looksOf_13 rfl (lv_at hl 2 rfl) ?_
    refine lv_iconst (v := (1 : Int32)) hx hb dX12_looksOf_14 (by decide) ?_
    refine lv_aload_n hx hb dX12_looksOf_15 rfl (lv_at hl 0 rfl) ?_
    refine lv_iload_n hx hb dX12_looksOf_16 rfl (lv_at hl 1 rfl) ?_
    refine lv_iload_n hx hb dX12_looksOf_17 rfl (lv_at hl 3 rfl) ?_
    obtain ⟨r5, hc4, hF⟩ := ob1_s hF
    refine k_isame C (k_rV (As := [.int x1, .int x3]) (rest := [.int (1 : Int32), .int x2]) C (c_X12_lookOf l D q o0 a0 S0 _ x1 x3 hc4) kc_X12_lookOf ml_X12_297 rfl rfl (by decide) hP hD hS (va_recv hK hP (ci := 12) (q0 := 0) rfl rfl) rfl hl.1 rfl (Nat.le_of_ble_eq_true rfl) dX12_looksOf_18 (by decide)) hP hD hS (fun H locs hP hD hS => ?_)
    refine lv_ishl hx hb dX12_looksOf_21 ?_
    refine lv_ior hx hb dX12_looksOf_22 ?_
    obtain ⟨v6, e7, hF⟩ := nw_s hF
    refine k_rni e7 ?_
    refine lv_istore_n (lv' := [(2, .int v6), (0, .ref o0), (1, .int x1), (3, .int x3)]) hx hb dX12_looksOf_23 rfl hl (by decide) rfl (fun ls hl => ?_)
    refine lv_iinc (v := (x3 + 1)) (lv' := [(3, .int (x3 + 1)), (2, .int v6), (0, .ref o0), (1, .int x1)]) hx hb dX12_looksOf_24 hl (k := 3) rfl rfl (by decide) rfl (fun ls hl => ?_)
    refine lv_goto (tgt := 4) hx hb dX12_looksOf_27 (by decide) ?_
    exact hk4 x1 v6 (x3 + 1) S0 hF _ _ _ hP hD hS (lv_sub hl [2, 3, 1, 0] rfl)
set_option maxRecDepth 100000 in
set_option maxHeartbeats 4000000 in
theorem l_X12_looksOf_4 {p : Program} {l : Launch} {e : Env} {s : State} {m : MethodId} {args : Array Value} {below : List Frame} {meth : Method} {c : Code} {D : va_G} {q : Nat → ClassId} {A : Nat → Prop} {o0 : Nat} {a0 : Nat → Nat} {r : Int32} (C : cx p s m args meth c cX12_looksOf 4 (some .int) RX12 D q A) {x1 : Int32} {x2 : Int32} {x3 : Int32} {S0 : St} (hF : L_X12_looksOf_4 x1 x2 x3 S0 = some (r)) : ∀ (H : Heap) (locs : List Loc) (ls : Array Slot), va_P D vwCl (fl [g12 q o0 a0 S0]) H → va_D A (fl [g12 q o0 a0 S0]) → va_S A s.heap H locs → lv_has ls 4 [(0, .ref o0), (1, .int x1), (2, .int x2), (3, .int x3)] → W p l e rm_X12_looksOf s m args below meth c H locs 0 0 (MQ below (QI D A r (fl [g12 q o0 a0 S0])) args s 0 0 A) (F0 m 4 ls []) :=
  lp_G _ _ (fun z => ∀ (H : Heap) (locs : List Loc) (ls : Array Slot), va_P D vwCl (fl [g12 q o0 a0 z.2.2.2]) H → va_D A (fl [g12 q o0 a0 z.2.2.2]) → va_S A s.heap H locs → lv_has ls 4 [(0, .ref o0), (1, .int z.1), (2, .int z.2.1), (3, .int z.2.2.1)] → W p l e rm_X12_looksOf s m args below meth c H locs 0 0 (MQ below (QI D A r (fl [g12 q o0 a0 z.2.2.2])) args s 0 0 A) (F0 m 4 ls [])) (fun kz hkz z hz H locs ls hP hD hS hl => b_X12_looksOf_4 C (fun x1 x2 x3 S0 hz => hkz (x1, x2, x3, S0) hz) hz hP hD hS hl) FU (x1, x2, x3, S0) hF
set_option maxRecDepth 100000 in
set_option maxHeartbeats 4000000 in
theorem c_X12_looksOf (l : Launch) (D : va_G) (q : Nat → ClassId) (o0 : Nat) (a0 : Nat → Nat) (S0 : St) (sz : Nat) (x1 : Int32) {r : Int32} (hF : F_X12_looksOf S0 x1 = some (r)) : Met l yX12_looksOf (Cond.code yX12_looksOf cX12_looksOf 4 (some .int) :: TB) rm_X12_looksOf (PC D q [.ref o0, .int x1] (fl [g12 q o0 a0 S0]) sz) ((fun A => QI D A r (fl [g12 q o0 a0 S0])) (va_A (fl [g12 q o0 a0 S0]) sz)) 0 0 (va_A (fl [g12 q o0 a0 S0]) sz) := by
  refine k_met (w0 := fl [g12 q o0 a0 S0]) (Q := fun A => QI D A r (fl [g12 q o0 a0 S0])) (by decide +kernel) (Nat.le_of_ble_eq_true rfl) ?_
  intro p e s m args below meth c A ls C hP hD hS hl
  have hl : lv_has ls 4 [(0, .ref o0), (1, .int x1)] := hl
  unfold F_X12_looksOf at hF
  have C : cx p s m args meth c cX12_looksOf 4 (some .int) RX12 D q A := C
  obtain ⟨hx, hb, hr, hml, hown, hts, hlk, hA, hK, hN, hV⟩ := id C
  refine lv_iconst (v := (0 : Int32)) hx hb dX12_looksOf_0 (by decide) ?_
  refine lv_istore_n (lv' := [(2, .int (0 : Int32)), (0, .ref o0), (1, .int x1)]) hx hb dX12_looksOf_1 rfl hl (by decide) rfl (fun ls hl => ?_)
  refine lv_iconst (v := (0 : Int32)) hx hb dX12_looksOf_2 (by decide) ?_
  refine lv_istore_n (lv' := [(3, .int (0 : Int32)), (2, .int (0 : Int32)), (0, .ref o0), (1, .int x1)]) hx hb dX12_looksOf_3 rfl hl (by decide) rfl (fun ls hl => ?_)
  exact l_X12_looksOf_4 C hF _ _ _ hP hD hS (lv_sub hl [2, 3, 1, 0] rfl)

abbrev rm_X12_having : Room := ({ frames := 0, cells := 0, slots := 0, locals := 0 } : Room)
def F_X12_having (x0 : Int32) (x1 : Int32) : Option (Int32) := some (((x0 &&& (((1 : Int32) <<< ((x1 ^^^ (4 : Int32)) &&& 31)) ^^^ (-1 : Int32))) ||| ((1 : Int32) <<< (x1 &&& 31))))
set_option maxRecDepth 100000 in
set_option maxHeartbeats 4000000 in
theorem c_X12_having (l : Launch) (D : va_G) (q : Nat → ClassId) (sz : Nat) (x0 : Int32) (x1 : Int32) {r : Int32} (hF : F_X12_having x0 x1 = some (r)) : Met l yX12_having (Cond.code yX12_having cX12_having 2 (some .int) :: TB) rm_X12_having (PC D q [.int x0, .int x1] ([]) sz) ((fun A => QI D A r ([])) (va_A ([]) sz)) 0 0 (va_A ([]) sz) := by
  refine k_met (w0 := []) (Q := fun A => QI D A r ([])) (by decide +kernel) (Nat.le_of_ble_eq_true rfl) ?_
  intro p e s m args below meth c A ls C hP hD hS hl
  have hl : lv_has ls 2 [(0, .int x0), (1, .int x1)] := hl
  unfold F_X12_having at hF
  have C : cx p s m args meth c cX12_having 2 (some .int) RX12 D q A := C
  obtain ⟨hx, hb, hr, hml, hown, hts, hlk, hA, hK, hN, hV⟩ := id C
  refine lv_iload_n hx hb dX12_having_0 rfl (lv_at hl 0 rfl) ?_
  refine lv_iconst (v := (1 : Int32)) hx hb dX12_having_1 (by decide) ?_
  refine lv_iload_n hx hb dX12_having_2 rfl (lv_at hl 1 rfl) ?_
  refine lv_iconst (v := (4 : Int32)) hx hb dX12_having_3 (by decide) ?_
  refine lv_ixor hx hb dX12_having_4 ?_
  refine lv_ishl hx hb dX12_having_5 ?_
  refine lv_iconst (v := (-1 : Int32)) hx hb dX12_having_6 (by decide) ?_
  refine lv_ixor hx hb dX12_having_7 ?_
  refine lv_iand hx hb dX12_having_8 ?_
  refine lv_iconst (v := (1 : Int32)) hx hb dX12_having_9 (by decide) ?_
  refine lv_iload_n hx hb dX12_having_10 rfl (lv_at hl 1 rfl) ?_
  refine lv_ishl hx hb dX12_having_11 ?_
  refine lv_ior hx hb dX12_having_12 ?_
  cases hF
  exact k_iret C hP hS dX12_having_13

abbrev rm_X12_behindOf : Room := ({ frames := 1, cells := 0, slots := 0, locals := 23 } : Room)
def F_X12_behindOf_5 (k5 : Int32 × Int32 × Int32 × St → Option (Int32)) (x2 : Int32) (x3 : Int32) (x4 : Int32) (S0 : St) : Option (Int32) := ob1 (F_X12_manyOf S0 x2) fun r2 => if r2 ≤ x4 then (some (x3)) else (ob1 (F_X12_lookOf S0 x2 x4) fun r5 => ob1 (F_X12_having x3 r5) fun r7 => k5 (x2, r7, (x4 + 1), S0))
def L_X12_behindOf_5 (x2 : Int32) (x3 : Int32) (x4 : Int32) (S0 : St) : Option (Int32) := lp (fun kz z => F_X12_behindOf_5 kz z.1 z.2.1 z.2.2.1 z.2.2.2) FU (x2, x3, x4, S0)
def F_X12_behindOf (S0 : St) (x1 : Int32) (x2 : Int32) : Option (Int32) := L_X12_behindOf_5 x2 x1 (0 : Int32) S0
set_option maxRecDepth 100000 in
set_option maxHeartbeats 4000000 in
theorem b_X12_behindOf_5 {p : Program} {l : Launch} {e : Env} {s : State} {m : MethodId} {args : Array Value} {below : List Frame} {meth : Method} {c : Code} {D : va_G} {q : Nat → ClassId} {A : Nat → Prop} {o0 : Nat} {a0 : Nat → Nat} {r : Int32} (C : cx p s m args meth c cX12_behindOf 5 (some .int) RX12 D q A) {k5 : Int32 × Int32 × Int32 × St → Option (Int32)} (hk5 : ∀ (x2 : Int32) (x3 : Int32) (x4 : Int32) (S0 : St), k5 (x2, x3, x4, S0) = some (r) → ∀ (H : Heap) (locs : List Loc) (ls : Array Slot), va_P D vwCl (fl [g12 q o0 a0 S0]) H → va_D A (fl [g12 q o0 a0 S0]) → va_S A s.heap H locs → lv_has ls 5 [(0, .ref o0), (2, .int x2), (3, .int x3), (4, .int x4)] → W p l e rm_X12_behindOf s m args below meth c H locs 0 0 (MQ below (QI D A r (fl [g12 q o0 a0 S0])) args s 0 0 A) (F0 m 5 ls [])) {x2 : Int32} {x3 : Int32} {x4 : Int32} {S0 : St} (hF : F_X12_behindOf_5 k5 x2 x3 x4 S0 = some (r)) {H : Heap} {locs : List Loc} (hP : va_P D vwCl (fl [g12 q o0 a0 S0]) H) (hD : va_D A (fl [g12 q o0 a0 S0])) (hS : va_S A s.heap H locs) {ls : Array Slot} (hl : lv_has ls 5 [(0, .ref o0), (2, .int x2), (3, .int x3), (4, .int x4)]) : W p l e rm_X12_behindOf s m args below meth c H locs 0 0 (MQ below (QI D A r (fl [g12 q o0 a0 S0])) args s 0 0 A) (F0 m 5 ls []) := by
  unfold F_X12_behindOf_5 at hF
  obtain ⟨hx, hb, hr, hml, hown, hts, hlk, hA, hK, hN, hV⟩ := id C
  refine lv_iload hx hb dX12_behindOf_5 (lv_at hl 3 rfl) ?_
  refine lv_aload_n hx hb dX12_behindOf_7 rfl (lv_at hl 0 rfl) ?_
  refine lv_iload_n hx hb dX12_behindOf_8 rfl (lv_at hl 1 rfl) ?_
  obtain ⟨r2, hc1, hF⟩ := ob1_s hF
  refine k_isame C (k_rV (As := [.int x2]) (rest := [.int x4]) C (c_X12_manyOf l D q o0 a0 S0 _ x2 hc1) kc_X12_manyOf ml_X12_293 rfl rfl (by decide) hP hD hS (va_recv hK hP (ci := 12) (q0 := 0) rfl rfl) rfl hl.1 rfl (Nat.le_of_ble_eq_true rfl) dX12_behindOf_9 (by decide)) hP hD hS (fun H locs hP hD hS => ?_)
  refine lv_icmp_ge (tgt := 33) hx hb dX12_behindOf_12 (by decide) (fun c3 => ?_) (fun c3 => ?_)
  · have hF := op_t hF c3
    refine lv_iload_n hx hb dX12_behindOf_33 rfl (lv_at hl 2 rfl) ?_
    cases hF
    exact k_iret C hP hS dX12_behindOf_34
  · have hF := op_f hF c3
    refine lv_iload_n hx hb dX12_behindOf_15 rfl (lv_at hl 2 rfl) ?_
    refine lv_aload_n hx hb dX12_behindOf_16 rfl (lv_at hl 0 rfl) ?_
    refine lv_iload_n hx hb dX12_behindOf_17 rfl (lv_at hl 1 rfl) ?_
    refine lv_iload hx hb dX12_behindOf_18 (lv_at hl 3 rfl) ?_
    obtain ⟨r5, hc4, hF⟩ := ob1_s hF
    refine k_isame C (k_rV (As := [.int x2, .int x4]) (rest := [.int x3]) C (c_X12_lookOf l D q o0 a0 S0 _ x2 x4 hc4) kc_X12_lookOf ml_X12_297 rfl rfl (by decide) hP hD hS (va_recv hK hP (ci := 12) (q0 := 0) rfl rfl) rfl hl.1 rfl (Nat.le_of_ble_eq_true rfl) dX12_behindOf_20 (by decide)) hP hD hS (fun H locs hP hD hS => ?_)
    obtain ⟨r7, hc6, hF⟩ := ob1_s hF
    refine k_inil C (k_rS (As := [.int x3, .int r5]) (rest := []) C (c_X12_having l D q _ x3 r5 hc6) kc_X12_having ml_X12_300 rfl rfl (by decide) (fun k x h => by simp at h) (⟨fun i j x y h => by simp at h, fun k x h => by simp at h⟩ : va_D A []) hS rfl hl.1 rfl (Nat.le_of_ble_eq_true rfl) dX12_behindOf_23 (by decide)) hP hD hS (fun H locs hP hD hS => ?_)
    refine lv_istore_n (lv' := [(3, .int r7), (0, .ref o0), (2, .int x2), (4, .int x4)]) hx hb dX12_behindOf_26 rfl hl (by decide) rfl (fun ls hl => ?_)
    refine lv_iinc (v := (x4 + 1)) (lv' := [(4, .int (x4 + 1)), (3, .int r7), (0, .ref o0), (2, .int x2)]) hx hb dX12_behindOf_27 hl (k := 3) rfl rfl (by decide) rfl (fun ls hl => ?_)
    refine lv_goto (tgt := 5) hx hb dX12_behindOf_30 (by decide) ?_
    exact hk5 x2 r7 (x4 + 1) S0 hF _ _ _ hP hD hS (lv_sub hl [2, 3, 1, 0] rfl)
set_option maxRecDepth 100000 in
set_option maxHeartbeats 4000000 in
theorem l_X12_behindOf_5 {p : Program} {l : Launch} {e : Env} {s : State} {m : MethodId} {args : Array Value} {below : List Frame} {meth : Method} {c : Code} {D : va_G} {q : Nat → ClassId} {A : Nat → Prop} {o0 : Nat} {a0 : Nat → Nat} {r : Int32} (C : cx p s m args meth c cX12_behindOf 5 (some .int) RX12 D q A) {x2 : Int32} {x3 : Int32} {x4 : Int32} {S0 : St} (hF : L_X12_behindOf_5 x2 x3 x4 S0 = some (r)) : ∀ (H : Heap) (locs : List Loc) (ls : Array Slot), va_P D vwCl (fl [g12 q o0 a0 S0]) H → va_D A (fl [g12 q o0 a0 S0]) → va_S A s.heap H locs → lv_has ls 5 [(0, .ref o0), (2, .int x2), (3, .int x3), (4, .int x4)] → W p l e rm_X12_behindOf s m args below meth c H locs 0 0 (MQ below (QI D A r (fl [g12 q o0 a0 S0])) args s 0 0 A) (F0 m 5 ls []) :=
  lp_G _ _ (fun z => ∀ (H : Heap) (locs : List Loc) (ls : Array Slot), va_P D vwCl (fl [g12 q o0 a0 z.2.2.2]) H → va_D A (fl [g12 q o0 a0 z.2.2.2]) → va_S A s.heap H locs → lv_has ls 5 [(0, .ref o0), (2, .int z.1), (3, .int z.2.1), (4, .int z.2.2.1)] → W p l e rm_X12_behindOf s m args below meth c H locs 0 0 (MQ below (QI D A r (fl [g12 q o0 a0 z.2.2.2])) args s 0 0 A) (F0 m 5 ls [])) (fun kz hkz z hz H locs ls hP hD hS hl => b_X12_behindOf_5 C (fun x2 x3 x4 S0 hz => hkz (x2, x3, x4, S0) hz) hz hP hD hS hl) FU (x2, x3, x4, S0) hF
set_option maxRecDepth 100000 in
set_option maxHeartbeats 4000000 in
theorem c_X12_behindOf (l : Launch) (D : va_G) (q : Nat → ClassId) (o0 : Nat) (a0 : Nat → Nat) (S0 : St) (sz : Nat) (x1 : Int32) (x2 : Int32) {r : Int32} (hF : F_X12_behindOf S0 x1 x2 = some (r)) : Met l yX12_behindOf (Cond.code yX12_behindOf cX12_behindOf 5 (some .int) :: TB) rm_X12_behindOf (PC D q [.ref o0, .int x1, .int x2] (fl [g12 q o0 a0 S0]) sz) ((fun A => QI D A r (fl [g12 q o0 a0 S0])) (va_A (fl [g12 q o0 a0 S0]) sz)) 0 0 (va_A (fl [g12 q o0 a0 S0]) sz) := by
  refine k_met (w0 := fl [g12 q o0 a0 S0]) (Q := fun A => QI D A r (fl [g12 q o0 a0 S0])) (by decide +kernel) (Nat.le_of_ble_eq_true rfl) ?_
  intro p e s m args below meth c A ls C hP hD hS hl
  have hl : lv_has ls 5 [(0, .ref o0), (1, .int x1), (2, .int x2)] := hl
  unfold F_X12_behindOf at hF
  have C : cx p s m args meth c cX12_behindOf 5 (some .int) RX12 D q A := C
  obtain ⟨hx, hb, hr, hml, hown, hts, hlk, hA, hK, hN, hV⟩ := id C
  refine lv_iload_n hx hb dX12_behindOf_0 rfl (lv_at hl 1 rfl) ?_
  refine lv_istore_n (lv' := [(3, .int x1), (0, .ref o0), (1, .int x1), (2, .int x2)]) hx hb dX12_behindOf_1 rfl hl (by decide) rfl (fun ls hl => ?_)
  refine lv_iconst (v := (0 : Int32)) hx hb dX12_behindOf_2 (by decide) ?_
  refine lv_istore (lv' := [(4, .int (0 : Int32)), (3, .int x1), (0, .ref o0), (1, .int x1), (2, .int x2)]) hx hb dX12_behindOf_3 hl (by decide) rfl (fun ls hl => ?_)
  exact l_X12_behindOf_5 C hF _ _ _ hP hD hS (lv_sub hl [2, 4, 1, 0] rfl)

abbrev rm_X12_whoIsUp : Room := ({ frames := 0, cells := 0, slots := 0, locals := 0 } : Room)
def F_X12_whoIsUp_2 (k2 : Int32 × Int32 × St → Option (Int32)) (x1 : Int32) (x2 : Int32) (S0 : St) : Option (Int32) := if oob (1 : Int32) 258 then none else if (S0.2.2.1 6 (1 : Int32).toNatClampNeg) ≤ x2 then (some ((-1 : Int32))) else (if oob ((65 : Int32) + x2) 258 then none else if (S0.2.2.1 6 ((65 : Int32) + x2).toNatClampNeg) = (x1 + (1 : Int32)) then (some (x2)) else (k2 (x1, (x2 + 1), S0)))
def L_X12_whoIsUp_2 (x1 : Int32) (x2 : Int32) (S0 : St) : Option (Int32) := lp (fun kz z => F_X12_whoIsUp_2 kz z.1 z.2.1 z.2.2) FU (x1, x2, S0)
def F_X12_whoIsUp (S0 : St) (x1 : Int32) : Option (Int32) := L_X12_whoIsUp_2 x1 (0 : Int32) S0
set_option maxRecDepth 100000 in
set_option maxHeartbeats 4000000 in
theorem b_X12_whoIsUp_2 {p : Program} {l : Launch} {e : Env} {s : State} {m : MethodId} {args : Array Value} {below : List Frame} {meth : Method} {c : Code} {D : va_G} {q : Nat → ClassId} {A : Nat → Prop} {o0 : Nat} {a0 : Nat → Nat} {r : Int32} (C : cx p s m args meth c cX12_whoIsUp 3 (some .int) RX12 D q A) {k2 : Int32 × Int32 × St → Option (Int32)} (hk2 : ∀ (x1 : Int32) (x2 : Int32) (S0 : St), k2 (x1, x2, S0) = some (r) → ∀ (H : Heap) (locs : List Loc) (ls : Array Slot), va_P D vwCl (fl [g12 q o0 a0 S0]) H → va_D A (fl [g12 q o0 a0 S0]) → va_S A s.heap H locs → lv_has ls 3 [(0, .ref o0), (1, .int x1), (2, .int x2)] → W p l e rm_X12_whoIsUp s m args below meth c H locs 0 0 (MQ below (QI D A r (fl [g12 q o0 a0 S0])) args s 0 0 A) (F0 m 2 ls [])) {x1 : Int32} {x2 : Int32} {S0 : St} (hF : F_X12_whoIsUp_2 k2 x1 x2 S0 = some (r)) {H : Heap} {locs : List Loc} (hP : va_P D vwCl (fl [g12 q o0 a0 S0]) H) (hD : va_D A (fl [g12 q o0 a0 S0])) (hS : va_S A s.heap H locs) {ls : Array Slot} (hl : lv_has ls 3 [(0, .ref o0), (1, .int x1), (2, .int x2)]) : W p l e rm_X12_whoIsUp s m args below meth c H locs 0 0 (MQ below (QI D A r (fl [g12 q o0 a0 S0])) args s 0 0 A) (F0 m 2 ls []) := by
  unfold F_X12_whoIsUp_2 at hF
  obtain ⟨hx, hb, hr, hml, hown, hts, hlk, hA, hK, hN, hV⟩ := id C
  refine lv_iload_n hx hb dX12_whoIsUp_2 rfl (lv_at hl 2 rfl) ?_
  refine lv_aload_n hx hb dX12_whoIsUp_3 rfl (lv_at hl 0 rfl) ?_
  refine k_get (v := .ref (a0 7)) C fg_X12_33 hP 0 rfl rfl dX12_whoIsUp_4 ?_
  refine lv_iconst (v := (1 : Int32)) hx hb dX12_whoIsUp_7 (by decide) ?_
  obtain ⟨h1, hF⟩ := op_ck hF
  refine k_ild (f := S0.2.2.1 6) C hP 2 rfl h1 dX12_whoIsUp_8 ?_
  refine lv_icmp_ge (tgt := 35) hx hb dX12_whoIsUp_9 (by decide) (fun c2 => ?_) (fun c2 => ?_)
  · have hF := op_t hF c2
    refine lv_iconst (v := (-1 : Int32)) hx hb dX12_whoIsUp_35 (by decide) ?_
    cases hF
    exact k_iret C hP hS dX12_whoIsUp_36
  · have hF := op_f hF c2
    refine lv_aload_n hx hb dX12_whoIsUp_12 rfl (lv_at hl 0 rfl) ?_
    refine k_get (v := .ref (a0 7)) C fg_X12_33 hP 0 rfl rfl dX12_whoIsUp_13 ?_
    refine lv_bipush (v := (65 : Int32)) hx hb dX12_whoIsUp_16 (by decide) ?_
    refine lv_iload_n hx hb dX12_whoIsUp_18 rfl (lv_at hl 2 rfl) ?_
    refine lv_iadd hx hb dX12_whoIsUp_19 ?_
    obtain ⟨h3, hF⟩ := op_ck hF
    refine k_ild (f := S0.2.2.1 6) C hP 2 rfl h3 dX12_whoIsUp_20 ?_
    refine lv_iload_n hx hb dX12_whoIsUp_21 rfl (lv_at hl 1 rfl) ?_
    refine lv_iconst (v := (1 : Int32)) hx hb dX12_whoIsUp_22 (by decide) ?_
    refine lv_iadd hx hb dX12_whoIsUp_23 ?_
    refine lv_icmp_ne (tgt := 29) hx hb dX12_whoIsUp_24 (by decide) (fun c4 => ?_) (fun c4 => ?_)
    · have hF := op_f hF c4
      refine lv_iinc (v := (x2 + 1)) (lv' := [(2, .int (x2 + 1)), (0, .ref o0), (1, .int x1)]) hx hb dX12_whoIsUp_29 hl (k := 2) rfl rfl (by decide) rfl (fun ls hl => ?_)
      refine lv_goto (tgt := 2) hx hb dX12_whoIsUp_32 (by decide) ?_
      exact hk2 x1 (x2 + 1) S0 hF _ _ _ hP hD hS (lv_sub hl [1, 2, 0] rfl)
    · have hF := op_t hF c4
      refine lv_iload_n hx hb dX12_whoIsUp_27 rfl (lv_at hl 2 rfl) ?_
      cases hF
      exact k_iret C hP hS dX12_whoIsUp_28
set_option maxRecDepth 100000 in
set_option maxHeartbeats 4000000 in
theorem l_X12_whoIsUp_2 {p : Program} {l : Launch} {e : Env} {s : State} {m : MethodId} {args : Array Value} {below : List Frame} {meth : Method} {c : Code} {D : va_G} {q : Nat → ClassId} {A : Nat → Prop} {o0 : Nat} {a0 : Nat → Nat} {r : Int32} (C : cx p s m args meth c cX12_whoIsUp 3 (some .int) RX12 D q A) {x1 : Int32} {x2 : Int32} {S0 : St} (hF : L_X12_whoIsUp_2 x1 x2 S0 = some (r)) : ∀ (H : Heap) (locs : List Loc) (ls : Array Slot), va_P D vwCl (fl [g12 q o0 a0 S0]) H → va_D A (fl [g12 q o0 a0 S0]) → va_S A s.heap H locs → lv_has ls 3 [(0, .ref o0), (1, .int x1), (2, .int x2)] → W p l e rm_X12_whoIsUp s m args below meth c H locs 0 0 (MQ below (QI D A r (fl [g12 q o0 a0 S0])) args s 0 0 A) (F0 m 2 ls []) :=
  lp_G _ _ (fun z => ∀ (H : Heap) (locs : List Loc) (ls : Array Slot), va_P D vwCl (fl [g12 q o0 a0 z.2.2]) H → va_D A (fl [g12 q o0 a0 z.2.2]) → va_S A s.heap H locs → lv_has ls 3 [(0, .ref o0), (1, .int z.1), (2, .int z.2.1)] → W p l e rm_X12_whoIsUp s m args below meth c H locs 0 0 (MQ below (QI D A r (fl [g12 q o0 a0 z.2.2])) args s 0 0 A) (F0 m 2 ls [])) (fun kz hkz z hz H locs ls hP hD hS hl => b_X12_whoIsUp_2 C (fun x1 x2 S0 hz => hkz (x1, x2, S0) hz) hz hP hD hS hl) FU (x1, x2, S0) hF
set_option maxRecDepth 100000 in
set_option maxHeartbeats 4000000 in
theorem c_X12_whoIsUp (l : Launch) (D : va_G) (q : Nat → ClassId) (o0 : Nat) (a0 : Nat → Nat) (S0 : St) (sz : Nat) (x1 : Int32) {r : Int32} (hF : F_X12_whoIsUp S0 x1 = some (r)) : Met l yX12_whoIsUp (Cond.code yX12_whoIsUp cX12_whoIsUp 3 (some .int) :: TB) rm_X12_whoIsUp (PC D q [.ref o0, .int x1] (fl [g12 q o0 a0 S0]) sz) ((fun A => QI D A r (fl [g12 q o0 a0 S0])) (va_A (fl [g12 q o0 a0 S0]) sz)) 0 0 (va_A (fl [g12 q o0 a0 S0]) sz) := by
  refine k_met (w0 := fl [g12 q o0 a0 S0]) (Q := fun A => QI D A r (fl [g12 q o0 a0 S0])) (by decide +kernel) (Nat.le_of_ble_eq_true rfl) ?_
  intro p e s m args below meth c A ls C hP hD hS hl
  have hl : lv_has ls 3 [(0, .ref o0), (1, .int x1)] := hl
  unfold F_X12_whoIsUp at hF
  have C : cx p s m args meth c cX12_whoIsUp 3 (some .int) RX12 D q A := C
  obtain ⟨hx, hb, hr, hml, hown, hts, hlk, hA, hK, hN, hV⟩ := id C
  refine lv_iconst (v := (0 : Int32)) hx hb dX12_whoIsUp_0 (by decide) ?_
  refine lv_istore_n (lv' := [(2, .int (0 : Int32)), (0, .ref o0), (1, .int x1)]) hx hb dX12_whoIsUp_1 rfl hl (by decide) rfl (fun ls hl => ?_)
  exact l_X12_whoIsUp_2 C hF _ _ _ hP hD hS (lv_sub hl [1, 2, 0] rfl)

abbrev rm_X12_canClimb : Room := ({ frames := 2, cells := 0, slots := 0, locals := 42 } : Room)
def F_X12_canClimb_46 (S0 : St) : Option (Int32) := some ((1 : Int32))
def F_X12_canClimb (S0 : St) (x1 : Int32) (x2 : Int32) : Option (Int32) := ob1 (F_X12_isWalled S0 x2) fun r2 => if r2 = 0 then (if oob ((52 : Int32) + x2) 258 then none else if oob ((24 : Int32) + x1) 258 then none else if (S0.2.2.1 6 ((24 : Int32) + x1).toNatClampNeg) < (S0.2.2.1 6 ((52 : Int32) + x2).toNatClampNeg) then (some ((0 : Int32))) else (ob1 (F_X12_whoIsUp S0 x2) fun r8 => if r8 < 0 then (F_X12_canClimb_46 S0) else (ob1 (F_X12_whoIsUp S0 x2) fun r11 => if r11 = x1 then (F_X12_canClimb_46 S0) else (some ((0 : Int32)))))) else (some ((0 : Int32)))
set_option maxRecDepth 100000 in
set_option maxHeartbeats 4000000 in
theorem b_X12_canClimb_46 {p : Program} {l : Launch} {e : Env} {s : State} {m : MethodId} {args : Array Value} {below : List Frame} {meth : Method} {c : Code} {D : va_G} {q : Nat → ClassId} {A : Nat → Prop} {o0 : Nat} {a0 : Nat → Nat} {r : Int32} (C : cx p s m args meth c cX12_canClimb 3 (some .boolean) RX12 D q A) {S0 : St} (hF : F_X12_canClimb_46 S0 = some (r)) {H : Heap} {locs : List Loc} (hP : va_P D vwCl (fl [g12 q o0 a0 S0]) H) (hD : va_D A (fl [g12 q o0 a0 S0])) (hS : va_S A s.heap H locs) {ls : Array Slot} (hl : lv_has ls 3 []) : W p l e rm_X12_canClimb s m args below meth c H locs 0 0 (MQ below (QI D A r (fl [g12 q o0 a0 S0])) args s 0 0 A) (F0 m 46 ls []) := by
  unfold F_X12_canClimb_46 at hF
  obtain ⟨hx, hb, hr, hml, hown, hts, hlk, hA, hK, hN, hV⟩ := id C
  refine lv_iconst (v := (1 : Int32)) hx hb dX12_canClimb_46 (by decide) ?_
  refine lv_goto (tgt := 51) hx hb dX12_canClimb_47 (by decide) ?_
  cases hF
  exact k_zret C (by decide) hP hS dX12_canClimb_51
set_option maxRecDepth 100000 in
set_option maxHeartbeats 4000000 in
theorem c_X12_canClimb (l : Launch) (D : va_G) (q : Nat → ClassId) (o0 : Nat) (a0 : Nat → Nat) (S0 : St) (sz : Nat) (x1 : Int32) (x2 : Int32) {r : Int32} (hF : F_X12_canClimb S0 x1 x2 = some (r)) : Met l yX12_canClimb (Cond.code yX12_canClimb cX12_canClimb 3 (some .boolean) :: TB) rm_X12_canClimb (PC D q [.ref o0, .int x1, .int x2] (fl [g12 q o0 a0 S0]) sz) ((fun A => QI D A r (fl [g12 q o0 a0 S0])) (va_A (fl [g12 q o0 a0 S0]) sz)) 0 0 (va_A (fl [g12 q o0 a0 S0]) sz) := by
  refine k_met (w0 := fl [g12 q o0 a0 S0]) (Q := fun A => QI D A r (fl [g12 q o0 a0 S0])) (by decide +kernel) (Nat.le_of_ble_eq_true rfl) ?_
  intro p e s m args below meth c A ls C hP hD hS hl
  have hl : lv_has ls 3 [(0, .ref o0), (1, .int x1), (2, .int x2)] := hl
  unfold F_X12_canClimb at hF
  have C : cx p s m args meth c cX12_canClimb 3 (some .boolean) RX12 D q A := C
  obtain ⟨hx, hb, hr, hml, hown, hts, hlk, hA, hK, hN, hV⟩ := id C
  refine lv_aload_n hx hb dX12_canClimb_0 rfl (lv_at hl 0 rfl) ?_
  refine lv_iload_n hx hb dX12_canClimb_1 rfl (lv_at hl 2 rfl) ?_
  obtain ⟨r2, hc1, hF⟩ := ob1_s hF
  refine k_isame C (k_rV (As := [.int x2]) (rest := []) C (c_X12_isWalled l D q o0 a0 S0 _ x2 hc1) kc_X12_isWalled ml_X12_303 rfl rfl (by decide) hP hD hS (va_recv hK hP (ci := 12) (q0 := 0) rfl rfl) rfl hl.1 rfl (Nat.le_of_ble_eq_true rfl) dX12_canClimb_2 (by decide)) hP hD hS (fun H locs hP hD hS => ?_)
  refine lv_if_ne (tgt := 50) hx hb dX12_canClimb_5 (by decide) (fun c3 => ?_) (fun c3 => ?_)
  · have hF := op_f hF c3
    refine lv_iconst (v := (0 : Int32)) hx hb dX12_canClimb_50 (by decide) ?_
    cases hF
    exact k_zret C (by decide) hP hS dX12_canClimb_51
  · have hF := op_t hF c3
    refine lv_aload_n hx hb dX12_canClimb_8 rfl (lv_at hl 0 rfl) ?_
    refine k_get (v := .ref (a0 7)) C fg_X12_33 hP 0 rfl rfl dX12_canClimb_9 ?_
    refine lv_bipush (v := (52 : Int32)) hx hb dX12_canClimb_12 (by decide) ?_
    refine lv_iload_n hx hb dX12_canClimb_14 rfl (lv_at hl 2 rfl) ?_
    refine lv_iadd hx hb dX12_canClimb_15 ?_
    obtain ⟨h4, hF⟩ := op_ck hF
    refine k_ild (f := S0.2.2.1 6) C hP 2 rfl h4 dX12_canClimb_16 ?_
    refine lv_aload_n hx hb dX12_canClimb_17 rfl (lv_at hl 0 rfl) ?_
    refine k_get (v := .ref (a0 7)) C fg_X12_33 hP 0 rfl rfl dX12_canClimb_18 ?_
    refine lv_bipush (v := (24 : Int32)) hx hb dX12_canClimb_21 (by decide) ?_
    refine lv_iload_n hx hb dX12_canClimb_23 rfl (lv_at hl 1 rfl) ?_
    refine lv_iadd hx hb dX12_canClimb_24 ?_
    obtain ⟨h5, hF⟩ := op_ck hF
    refine k_ild (f := S0.2.2.1 6) C hP 2 rfl h5 dX12_canClimb_25 ?_
    refine lv_icmp_gt (tgt := 50) hx hb dX12_canClimb_26 (by decide) (fun c6 => ?_) (fun c6 => ?_)
    · have hF := op_t hF c6
      refine lv_iconst (v := (0 : Int32)) hx hb dX12_canClimb_50 (by decide) ?_
      cases hF
      exact k_zret C (by decide) hP hS dX12_canClimb_51
    · have hF := op_f hF c6
      refine lv_aload_n hx hb dX12_canClimb_29 rfl (lv_at hl 0 rfl) ?_
      refine lv_iload_n hx hb dX12_canClimb_30 rfl (lv_at hl 2 rfl) ?_
      obtain ⟨r8, hc7, hF⟩ := ob1_s hF
      refine k_isame C (k_rV (As := [.int x2]) (rest := []) C (c_X12_whoIsUp l D q o0 a0 S0 _ x2 hc7) kc_X12_whoIsUp ml_X12_306 rfl rfl (by decide) hP hD hS (va_recv hK hP (ci := 12) (q0 := 0) rfl rfl) rfl hl.1 rfl (Nat.le_of_ble_eq_true rfl) dX12_canClimb_31 (by decide)) hP hD hS (fun H locs hP hD hS => ?_)
      refine lv_if_lt (tgt := 46) hx hb dX12_canClimb_34 (by decide) (fun c9 => ?_) (fun c9 => ?_)
      · have hF := op_t hF c9
        exact b_X12_canClimb_46 C hF hP hD hS (lv_sub hl [] rfl)
      · have hF := op_f hF c9
        refine lv_aload_n hx hb dX12_canClimb_37 rfl (lv_at hl 0 rfl) ?_
        refine lv_iload_n hx hb dX12_canClimb_38 rfl (lv_at hl 2 rfl) ?_
        obtain ⟨r11, hc10, hF⟩ := ob1_s hF
        refine k_isame C (k_rV (As := [.int x2]) (rest := []) C (c_X12_whoIsUp l D q o0 a0 S0 _ x2 hc10) kc_X12_whoIsUp ml_X12_306 rfl rfl (by decide) hP hD hS (va_recv hK hP (ci := 12) (q0 := 0) rfl rfl) rfl hl.1 rfl (Nat.le_of_ble_eq_true rfl) dX12_canClimb_39 (by decide)) hP hD hS (fun H locs hP hD hS => ?_)
        refine lv_iload_n hx hb dX12_canClimb_42 rfl (lv_at hl 1 rfl) ?_
        refine lv_icmp_ne (tgt := 50) hx hb dX12_canClimb_43 (by decide) (fun c12 => ?_) (fun c12 => ?_)
        · have hF := op_f hF c12
          refine lv_iconst (v := (0 : Int32)) hx hb dX12_canClimb_50 (by decide) ?_
          cases hF
          exact k_zret C (by decide) hP hS dX12_canClimb_51
        · have hF := op_t hF c12
          exact b_X12_canClimb_46 C hF hP hD hS (lv_sub hl [] rfl)

abbrev rm_X12_canOf : Room := ({ frames := 3, cells := 0, slots := 0, locals := 64 } : Room)
def F_X12_canOf_31 (k4 : Int32 × Int32 × Int32 × St → Option (Int32)) (x1 : Int32) (x3 : Int32) (s0 : Int32) (s1 : Int32) (S0 : St) : Option (Int32) := k4 (x1, (s0 ||| s1), (x3 + 1), S0)
def F_X12_canOf_4 (k4 : Int32 × Int32 × Int32 × St → Option (Int32)) (x1 : Int32) (x2 : Int32) (x3 : Int32) (S0 : St) : Option (Int32) := if oob (0 : Int32) 258 then none else if (S0.2.2.1 6 (0 : Int32).toNatClampNeg) ≤ x3 then (some (x2)) else (ob1 (F_X12_canClimb S0 x1 x3) fun r4 => if r4 = 0 then (F_X12_canOf_31 k4 x1 x3 x2 (0 : Int32) S0) else (F_X12_canOf_31 k4 x1 x3 x2 ((1 : Int32) <<< (x3 &&& 31)) S0))
def L_X12_canOf_4 (x1 : Int32) (x2 : Int32) (x3 : Int32) (S0 : St) : Option (Int32) := lp (fun kz z => F_X12_canOf_4 kz z.1 z.2.1 z.2.2.1 z.2.2.2) FU (x1, x2, x3, S0)
def F_X12_canOf (S0 : St) (x1 : Int32) : Option (Int32) := L_X12_canOf_4 x1 (0 : Int32) (0 : Int32) S0
set_option maxRecDepth 100000 in
set_option maxHeartbeats 4000000 in
theorem b_X12_canOf_31 {p : Program} {l : Launch} {e : Env} {s : State} {m : MethodId} {args : Array Value} {below : List Frame} {meth : Method} {c : Code} {D : va_G} {q : Nat → ClassId} {A : Nat → Prop} {o0 : Nat} {a0 : Nat → Nat} {r : Int32} (C : cx p s m args meth c cX12_canOf 4 (some .int) RX12 D q A) {k4 : Int32 × Int32 × Int32 × St → Option (Int32)} (hk4 : ∀ (x1 : Int32) (x2 : Int32) (x3 : Int32) (S0 : St), k4 (x1, x2, x3, S0) = some (r) → ∀ (H : Heap) (locs : List Loc) (ls : Array Slot), va_P D vwCl (fl [g12 q o0 a0 S0]) H → va_D A (fl [g12 q o0 a0 S0]) → va_S A s.heap H locs → lv_has ls 4 [(0, .ref o0), (1, .int x1), (2, .int x2), (3, .int x3)] → W p l e rm_X12_canOf s m args below meth c H locs 0 0 (MQ below (QI D A r (fl [g12 q o0 a0 S0])) args s 0 0 A) (F0 m 4 ls [])) {x1 : Int32} {x3 : Int32} {s0 : Int32} {s1 : Int32} {S0 : St} (hF : F_X12_canOf_31 k4 x1 x3 s0 s1 S0 = some (r)) {H : Heap} {locs : List Loc} (hP : va_P D vwCl (fl [g12 q o0 a0 S0]) H) (hD : va_D A (fl [g12 q o0 a0 S0])) (hS : va_S A s.heap H locs) {ls : Array Slot} (hl : lv_has ls 4 [(0, .ref o0), (1, .int x1), (3, .int x3)]) : W p l e rm_X12_canOf s m args below meth c H locs 0 0 (MQ below (QI D A r (fl [g12 q o0 a0 S0])) args s 0 0 A) (F0 m 31 ls [.int s1, .int s0]) := by
  unfold F_X12_canOf_31 at hF
  obtain ⟨hx, hb, hr, hml, hown, hts, hlk, hA, hK, hN, hV⟩ := id C
  refine lv_ior hx hb dX12_canOf_31 ?_
  refine lv_istore_n (lv' := [(2, .int (s0 ||| s1)), (0, .ref o0), (1, .int x1), (3, .int x3)]) hx hb dX12_canOf_32 rfl hl (by decide) rfl (fun ls hl => ?_)
  refine lv_iinc (v := (x3 + 1)) (lv' := [(3, .int (x3 + 1)), (2, .int (s0 ||| s1)), (0, .ref o0), (1, .int x1)]) hx hb dX12_canOf_33 hl (k := 3) rfl rfl (by decide) rfl (fun ls hl => ?_)
  refine lv_goto (tgt := 4) hx hb dX12_canOf_36 (by decide) ?_
  exact hk4 x1 (s0 ||| s1) (x3 + 1) S0 hF _ _ _ hP hD hS (lv_sub hl [2, 3, 1, 0] rfl)
set_option maxRecDepth 100000 in
set_option maxHeartbeats 4000000 in
theorem b_X12_canOf_4 {p : Program} {l : Launch} {e : Env} {s : State} {m : MethodId} {args : Array Value} {below : List Frame} {meth : Method} {c : Code} {D : va_G} {q : Nat → ClassId} {A : Nat → Prop} {o0 : Nat} {a0 : Nat → Nat} {r : Int32} (C : cx p s m args meth c cX12_canOf 4 (some .int) RX12 D q A) {k4 : Int32 × Int32 × Int32 × St → Option (Int32)} (hk4 : ∀ (x1 : Int32) (x2 : Int32) (x3 : Int32) (S0 : St), k4 (x1, x2, x3, S0) = some (r) → ∀ (H : Heap) (locs : List Loc) (ls : Array Slot), va_P D vwCl (fl [g12 q o0 a0 S0]) H → va_D A (fl [g12 q o0 a0 S0]) → va_S A s.heap H locs → lv_has ls 4 [(0, .ref o0), (1, .int x1), (2, .int x2), (3, .int x3)] → W p l e rm_X12_canOf s m args below meth c H locs 0 0 (MQ below (QI D A r (fl [g12 q o0 a0 S0])) args s 0 0 A) (F0 m 4 ls [])) {x1 : Int32} {x2 : Int32} {x3 : Int32} {S0 : St} (hF : F_X12_canOf_4 k4 x1 x2 x3 S0 = some (r)) {H : Heap} {locs : List Loc} (hP : va_P D vwCl (fl [g12 q o0 a0 S0]) H) (hD : va_D A (fl [g12 q o0 a0 S0])) (hS : va_S A s.heap H locs) {ls : Array Slot} (hl : lv_has ls 4 [(0, .ref o0), (1, .int x1), (2, .int x2), (3, .int x3)]) : W p l e rm_X12_canOf s m args below meth c H locs 0 0 (MQ below (QI D A r (fl [g12 q o0 a0 S0])) args s 0 0 A) (F0 m 4 ls []) := by
  unfold F_X12_canOf_4 at hF
  obtain ⟨hx, hb, hr, hml, hown, hts, hlk, hA, hK, hN, hV⟩ := id C
  refine lv_iload_n hx hb dX12_canOf_4 rfl (lv_at hl 3 rfl) ?_
  refine lv_aload_n hx hb dX12_canOf_5 rfl (lv_at hl 0 rfl) ?_
  refine k_get (v := .ref (a0 7)) C fg_X12_33 hP 0 rfl rfl dX12_canOf_6 ?_
  refine lv_iconst (v := (0 : Int32)) hx hb dX12_canOf_9 (by decide) ?_
  obtain ⟨h1, hF⟩ := op_ck hF
  refine k_ild (f := S0.2.2.1 6) C hP 2 rfl h1 dX12_canOf_10 ?_
  refine lv_icmp_ge (tgt := 39) hx hb dX12_canOf_11 (by decide) (fun c2 => ?_) (fun c2 => ?_)
  · have hF := op_t hF c2
    refine lv_iload_n hx hb dX12_canOf_39 rfl (lv_at hl 2 rfl) ?_
    cases hF
    exact k_iret C hP hS dX12_canOf_40
  · have hF := op_f hF c2
    refine lv_iload_n hx hb dX12_canOf_14 rfl (lv_at hl 2 rfl) ?_
    refine lv_aload_n hx hb dX12_canOf_15 rfl (lv_at hl 0 rfl) ?_
    refine lv_iload_n hx hb dX12_canOf_16 rfl (lv_at hl 1 rfl) ?_
    refine lv_iload_n hx hb dX12_canOf_17 rfl (lv_at hl 3 rfl) ?_
    obtain ⟨r4, hc3, hF⟩ := ob1_s hF
    refine k_isame C (k_rV (As := [.int x1, .int x3]) (rest := [.int x2]) C (c_X12_canClimb l D q o0 a0 S0 _ x1 x3 hc3) kc_X12_canClimb ml_X12_309 rfl rfl (by decide) hP hD hS (va_recv hK hP (ci := 12) (q0 := 0) rfl rfl) rfl hl.1 rfl (Nat.le_of_ble_eq_true rfl) dX12_canOf_18 (by decide)) hP hD hS (fun H locs hP hD hS => ?_)
    refine lv_if_eq (tgt := 30) hx hb dX12_canOf_21 (by decide) (fun c5 => ?_) (fun c5 => ?_)
    · have hF := op_t hF c5
      refine lv_iconst (v := (0 : Int32)) hx hb dX12_canOf_30 (by decide) ?_
      exact b_X12_canOf_31 C hk4 hF hP hD hS (lv_sub hl [0, 1, 3] rfl)
    · have hF := op_f hF c5
      refine lv_iconst (v := (1 : Int32)) hx hb dX12_canOf_24 (by decide) ?_
      refine lv_iload_n hx hb dX12_canOf_25 rfl (lv_at hl 3 rfl) ?_
      refine lv_ishl hx hb dX12_canOf_26 ?_
      refine lv_goto (tgt := 31) hx hb dX12_canOf_27 (by decide) ?_
      exact b_X12_canOf_31 C hk4 hF hP hD hS (lv_sub hl [0, 1, 3] rfl)
set_option maxRecDepth 100000 in
set_option maxHeartbeats 4000000 in
theorem l_X12_canOf_4 {p : Program} {l : Launch} {e : Env} {s : State} {m : MethodId} {args : Array Value} {below : List Frame} {meth : Method} {c : Code} {D : va_G} {q : Nat → ClassId} {A : Nat → Prop} {o0 : Nat} {a0 : Nat → Nat} {r : Int32} (C : cx p s m args meth c cX12_canOf 4 (some .int) RX12 D q A) {x1 : Int32} {x2 : Int32} {x3 : Int32} {S0 : St} (hF : L_X12_canOf_4 x1 x2 x3 S0 = some (r)) : ∀ (H : Heap) (locs : List Loc) (ls : Array Slot), va_P D vwCl (fl [g12 q o0 a0 S0]) H → va_D A (fl [g12 q o0 a0 S0]) → va_S A s.heap H locs → lv_has ls 4 [(0, .ref o0), (1, .int x1), (2, .int x2), (3, .int x3)] → W p l e rm_X12_canOf s m args below meth c H locs 0 0 (MQ below (QI D A r (fl [g12 q o0 a0 S0])) args s 0 0 A) (F0 m 4 ls []) :=
  lp_G _ _ (fun z => ∀ (H : Heap) (locs : List Loc) (ls : Array Slot), va_P D vwCl (fl [g12 q o0 a0 z.2.2.2]) H → va_D A (fl [g12 q o0 a0 z.2.2.2]) → va_S A s.heap H locs → lv_has ls 4 [(0, .ref o0), (1, .int z.1), (2, .int z.2.1), (3, .int z.2.2.1)] → W p l e rm_X12_canOf s m args below meth c H locs 0 0 (MQ below (QI D A r (fl [g12 q o0 a0 z.2.2.2])) args s 0 0 A) (F0 m 4 ls [])) (fun kz hkz z hz H locs ls hP hD hS hl => b_X12_canOf_4 C (fun x1 x2 x3 S0 hz => hkz (x1, x2, x3, S0) hz) hz hP hD hS hl) FU (x1, x2, x3, S0) hF
set_option maxRecDepth 100000 in
set_option maxHeartbeats 4000000 in
theorem c_X12_canOf (l : Launch) (D : va_G) (q : Nat → ClassId) (o0 : Nat) (a0 : Nat → Nat) (S0 : St) (sz : Nat) (x1 : Int32) {r : Int32} (hF : F_X12_canOf S0 x1 = some (r)) : Met l yX12_canOf (Cond.code yX12_canOf cX12_canOf 4 (some .int) :: TB) rm_X12_canOf (PC D q [.ref o0, .int x1] (fl [g12 q o0 a0 S0]) sz) ((fun A => QI D A r (fl [g12 q o0 a0 S0])) (va_A (fl [g12 q o0 a0 S0]) sz)) 0 0 (va_A (fl [g12 q o0 a0 S0]) sz) := by
  refine k_met (w0 := fl [g12 q o0 a0 S0]) (Q := fun A => QI D A r (fl [g12 q o0 a0 S0])) (by decide +kernel) (Nat.le_of_ble_eq_true rfl) ?_
  intro p e s m args below meth c A ls C hP hD hS hl
  have hl : lv_has ls 4 [(0, .ref o0), (1, .int x1)] := hl
  unfold F_X12_canOf at hF
  have C : cx p s m args meth c cX12_canOf 4 (some .int) RX12 D q A := C
  obtain ⟨hx, hb, hr, hml, hown, hts, hlk, hA, hK, hN, hV⟩ := id C
  refine lv_iconst (v := (0 : Int32)) hx hb dX12_canOf_0 (by decide) ?_
  refine lv_istore_n (lv' := [(2, .int (0 : Int32)), (0, .ref o0), (1, .int x1)]) hx hb dX12_canOf_1 rfl hl (by decide) rfl (fun ls hl => ?_)
  refine lv_iconst (v := (0 : Int32)) hx hb dX12_canOf_2 (by decide) ?_
  refine lv_istore_n (lv' := [(3, .int (0 : Int32)), (2, .int (0 : Int32)), (0, .ref o0), (1, .int x1)]) hx hb dX12_canOf_3 rfl hl (by decide) rfl (fun ls hl => ?_)
  exact l_X12_canOf_4 C hF _ _ _ hP hD hS (lv_sub hl [2, 3, 1, 0] rfl)

abbrev rm_X12_opposite : Room := ({ frames := 0, cells := 0, slots := 0, locals := 0 } : Room)
def F_X12_opposite (x0 : Int32) : Option (Int32) := some ((((x0 <<< ((4 : Int32) &&& 31)) &&& (255 : Int32)) ||| (x0 >>> ((4 : Int32) &&& 31))))
set_option maxRecDepth 100000 in
set_option maxHeartbeats 4000000 in
theorem c_X12_opposite (l : Launch) (D : va_G) (q : Nat → ClassId) (sz : Nat) (x0 : Int32) {r : Int32} (hF : F_X12_opposite x0 = some (r)) : Met l yX12_opposite (Cond.code yX12_opposite cX12_opposite 1 (some .int) :: TB) rm_X12_opposite (PC D q [.int x0] ([]) sz) ((fun A => QI D A r ([])) (va_A ([]) sz)) 0 0 (va_A ([]) sz) := by
  refine k_met (w0 := []) (Q := fun A => QI D A r ([])) (by decide +kernel) (Nat.le_of_ble_eq_true rfl) ?_
  intro p e s m args below meth c A ls C hP hD hS hl
  have hl : lv_has ls 1 [(0, .int x0)] := hl
  unfold F_X12_opposite at hF
  have C : cx p s m args meth c cX12_opposite 1 (some .int) RX12 D q A := C
  obtain ⟨hx, hb, hr, hml, hown, hts, hlk, hA, hK, hN, hV⟩ := id C
  refine lv_iload_n hx hb dX12_opposite_0 rfl (lv_at hl 0 rfl) ?_
  refine lv_iconst (v := (4 : Int32)) hx hb dX12_opposite_1 (by decide) ?_
  refine lv_ishl hx hb dX12_opposite_2 ?_
  refine lv_sipush (v := (255 : Int32)) hx hb dX12_opposite_3 (by decide) ?_
  refine lv_iand hx hb dX12_opposite_6 ?_
  refine lv_iload_n hx hb dX12_opposite_7 rfl (lv_at hl 0 rfl) ?_
  refine lv_iconst (v := (4 : Int32)) hx hb dX12_opposite_8 (by decide) ?_
  refine lv_ishr hx hb dX12_opposite_9 ?_
  refine lv_ior hx hb dX12_opposite_10 ?_
  cases hF
  exact k_iret C hP hS dX12_opposite_11

abbrev rm_X12_friendsOf : Room := ({ frames := 1, cells := 0, slots := 0, locals := 20 } : Room)
def F_X12_friendsOf_74 (k4 : Int32 × Int32 × Int32 × St → Option (Int32)) (x1 : Int32) (x3 : Int32) (s0 : Int32) (s1 : Int32) (S0 : St) : Option (Int32) := k4 (x1, (s0 ||| s1), (x3 + 1), S0)
def F_X12_friendsOf_73 (k4 : Int32 × Int32 × Int32 × St → Option (Int32)) (x1 : Int32) (x3 : Int32) (s0 : Int32) (S0 : St) : Option (Int32) := F_X12_friendsOf_74 k4 x1 x3 s0 (0 : Int32) S0
def F_X12_friendsOf_4 (k4 : Int32 × Int32 × Int32 × St → Option (Int32)) (x1 : Int32) (x2 : Int32) (x3 : Int32) (S0 : St) : Option (Int32) := if oob (1 : Int32) 258 then none else if (S0.2.2.1 6 (1 : Int32).toNatClampNeg) ≤ x3 then (some (x2)) else (if x3 = x1 then (F_X12_friendsOf_73 k4 x1 x3 x2 S0) else (if oob ((59 : Int32) + x3) 258 then none else if oob ((59 : Int32) + x1) 258 then none else ob1 (F_X12_opposite (S0.2.2.1 6 ((59 : Int32) + x1).toNatClampNeg)) fun r7 => if ((S0.2.2.1 6 ((59 : Int32) + x3).toNatClampNeg) &&& r7) = 0 then (if oob ((59 : Int32) + x3) 258 then none else if oob ((59 : Int32) + x1) 258 then none else if ((S0.2.2.1 6 ((59 : Int32) + x3).toNatClampNeg) &&& (S0.2.2.1 6 ((59 : Int32) + x1).toNatClampNeg)) = 0 then (F_X12_friendsOf_73 k4 x1 x3 x2 S0) else (F_X12_friendsOf_74 k4 x1 x3 x2 ((1 : Int32) <<< (x3 &&& 31)) S0)) else (F_X12_friendsOf_73 k4 x1 x3 x2 S0)))
def L_X12_friendsOf_4 (x1 : Int32) (x2 : Int32) (x3 : Int32) (S0 : St) : Option (Int32) := lp (fun kz z => F_X12_friendsOf_4 kz z.1 z.2.1 z.2.2.1 z.2.2.2) FU (x1, x2, x3, S0)
def F_X12_friendsOf (S0 : St) (x1 : Int32) : Option (Int32) := L_X12_friendsOf_4 x1 (0 : Int32) (0 : Int32) S0
set_option maxRecDepth 100000 in
set_option maxHeartbeats 4000000 in
theorem b_X12_friendsOf_74 {p : Program} {l : Launch} {e : Env} {s : State} {m : MethodId} {args : Array Value} {below : List Frame} {meth : Method} {c : Code} {D : va_G} {q : Nat → ClassId} {A : Nat → Prop} {o0 : Nat} {a0 : Nat → Nat} {r : Int32} (C : cx p s m args meth c cX12_friendsOf 4 (some .int) RX12 D q A) {k4 : Int32 × Int32 × Int32 × St → Option (Int32)} (hk4 : ∀ (x1 : Int32) (x2 : Int32) (x3 : Int32) (S0 : St), k4 (x1, x2, x3, S0) = some (r) → ∀ (H : Heap) (locs : List Loc) (ls : Array Slot), va_P D vwCl (fl [g12 q o0 a0 S0]) H → va_D A (fl [g12 q o0 a0 S0]) → va_S A s.heap H locs → lv_has ls 4 [(0, .ref o0), (1, .int x1), (2, .int x2), (3, .int x3)] → W p l e rm_X12_friendsOf s m args below meth c H locs 0 0 (MQ below (QI D A r (fl [g12 q o0 a0 S0])) args s 0 0 A) (F0 m 4 ls [])) {x1 : Int32} {x3 : Int32} {s0 : Int32} {s1 : Int32} {S0 : St} (hF : F_X12_friendsOf_74 k4 x1 x3 s0 s1 S0 = some (r)) {H : Heap} {locs : List Loc} (hP : va_P D vwCl (fl [g12 q o0 a0 S0]) H) (hD : va_D A (fl [g12 q o0 a0 S0])) (hS : va_S A s.heap H locs) {ls : Array Slot} (hl : lv_has ls 4 [(0, .ref o0), (1, .int x1), (3, .int x3)]) : W p l e rm_X12_friendsOf s m args below meth c H locs 0 0 (MQ below (QI D A r (fl [g12 q o0 a0 S0])) args s 0 0 A) (F0 m 74 ls [.int s1, .int s0]) := by
  unfold F_X12_friendsOf_74 at hF
  obtain ⟨hx, hb, hr, hml, hown, hts, hlk, hA, hK, hN, hV⟩ := id C
  refine lv_ior hx hb dX12_friendsOf_74 ?_
  refine lv_istore_n (lv' := [(2, .int (s0 ||| s1)), (0, .ref o0), (1, .int x1), (3, .int x3)]) hx hb dX12_friendsOf_75 rfl hl (by decide) rfl (fun ls hl => ?_)
  refine lv_iinc (v := (x3 + 1)) (lv' := [(3, .int (x3 + 1)), (2, .int (s0 ||| s1)), (0, .ref o0), (1, .int x1)]) hx hb dX12_friendsOf_76 hl (k := 3) rfl rfl (by decide) rfl (fun ls hl => ?_)
  refine lv_goto (tgt := 4) hx hb dX12_friendsOf_79 (by decide) ?_
  exact hk4 x1 (s0 ||| s1) (x3 + 1) S0 hF _ _ _ hP hD hS (lv_sub hl [2, 3, 1, 0] rfl)
set_option maxRecDepth 100000 in
set_option maxHeartbeats 4000000 in
theorem b_X12_friendsOf_73 {p : Program} {l : Launch} {e : Env} {s : State} {m : MethodId} {args : Array Value} {below : List Frame} {meth : Method} {c : Code} {D : va_G} {q : Nat → ClassId} {A : Nat → Prop} {o0 : Nat} {a0 : Nat → Nat} {r : Int32} (C : cx p s m args meth c cX12_friendsOf 4 (some .int) RX12 D q A) {k4 : Int32 × Int32 × Int32 × St → Option (Int32)} (hk4 : ∀ (x1 : Int32) (x2 : Int32) (x3 : Int32) (S0 : St), k4 (x1, x2, x3, S0) = some (r) → ∀ (H : Heap) (locs : List Loc) (ls : Array Slot), va_P D vwCl (fl [g12 q o0 a0 S0]) H → va_D A (fl [g12 q o0 a0 S0]) → va_S A s.heap H locs → lv_has ls 4 [(0, .ref o0), (1, .int x1), (2, .int x2), (3, .int x3)] → W p l e rm_X12_friendsOf s m args below meth c H locs 0 0 (MQ below (QI D A r (fl [g12 q o0 a0 S0])) args s 0 0 A) (F0 m 4 ls [])) {x1 : Int32} {x3 : Int32} {s0 : Int32} {S0 : St} (hF : F_X12_friendsOf_73 k4 x1 x3 s0 S0 = some (r)) {H : Heap} {locs : List Loc} (hP : va_P D vwCl (fl [g12 q o0 a0 S0]) H) (hD : va_D A (fl [g12 q o0 a0 S0])) (hS : va_S A s.heap H locs) {ls : Array Slot} (hl : lv_has ls 4 [(0, .ref o0), (1, .int x1), (3, .int x3)]) : W p l e rm_X12_friendsOf s m args below meth c H locs 0 0 (MQ below (QI D A r (fl [g12 q o0 a0 S0])) args s 0 0 A) (F0 m 73 ls [.int s0]) := by
  unfold F_X12_friendsOf_73 at hF
  obtain ⟨hx, hb, hr, hml, hown, hts, hlk, hA, hK, hN, hV⟩ := id C
  refine lv_iconst (v := (0 : Int32)) hx hb dX12_friendsOf_73 (by decide) ?_
  exact b_X12_friendsOf_74 C hk4 hF hP hD hS (lv_sub hl [0, 1, 2] rfl)
set_option maxRecDepth 100000 in
set_option maxHeartbeats 4000000 in
theorem b_X12_friendsOf_4 {p : Program} {l : Launch} {e : Env} {s : State} {m : MethodId} {args : Array Value} {below : List Frame} {meth : Method} {c : Code} {D : va_G} {q : Nat → ClassId} {A : Nat → Prop} {o0 : Nat} {a0 : Nat → Nat} {r : Int32} (C : cx p s m args meth c cX12_friendsOf 4 (some .int) RX12 D q A) {k4 : Int32 × Int32 × Int32 × St → Option (Int32)} (hk4 : ∀ (x1 : Int32) (x2 : Int32) (x3 : Int32) (S0 : St), k4 (x1, x2, x3, S0) = some (r) → ∀ (H : Heap) (locs : List Loc) (ls : Array Slot), va_P D vwCl (fl [g12 q o0 a0 S0]) H → va_D A (fl [g12 q o0 a0 S0]) → va_S A s.heap H locs → lv_has ls 4 [(0, .ref o0), (1, .int x1), (2, .int x2), (3, .int x3)] → W p l e rm_X12_friendsOf s m args below meth c H locs 0 0 (MQ below (QI D A r (fl [g12 q o0 a0 S0])) args s 0 0 A) (F0 m 4 ls [])) {x1 : Int32} {x2 : Int32} {x3 : Int32} {S0 : St} (hF : F_X12_friendsOf_4 k4 x1 x2 x3 S0 = some (r)) {H : Heap} {locs : List Loc} (hP : va_P D vwCl (fl [g12 q o0 a0 S0]) H) (hD : va_D A (fl [g12 q o0 a0 S0])) (hS : va_S A s.heap H locs) {ls : Array Slot} (hl : lv_has ls 4 [(0, .ref o0), (1, .int x1), (2, .int x2), (3, .int x3)]) : W p l e rm_X12_friendsOf s m args below meth c H locs 0 0 (MQ below (QI D A r (fl [g12 q o0 a0 S0])) args s 0 0 A) (F0 m 4 ls []) := by
  unfold F_X12_friendsOf_4 at hF
  obtain ⟨hx, hb, hr, hml, hown, hts, hlk, hA, hK, hN, hV⟩ := id C
  refine lv_iload_n hx hb dX12_friendsOf_4 rfl (lv_at hl 3 rfl) ?_
  refine lv_aload_n hx hb dX12_friendsOf_5 rfl (lv_at hl 0 rfl) ?_
  refine k_get (v := .ref (a0 7)) C fg_X12_33 hP 0 rfl rfl dX12_friendsOf_6 ?_
  refine lv_iconst (v := (1 : Int32)) hx hb dX12_friendsOf_9 (by decide) ?_
  obtain ⟨h1, hF⟩ := op_ck hF
  refine k_ild (f := S0.2.2.1 6) C hP 2 rfl h1 dX12_friendsOf_10 ?_
  refine lv_icmp_ge (tgt := 82) hx hb dX12_friendsOf_11 (by decide) (fun c2 => ?_) (fun c2 => ?_)
  · have hF := op_t hF c2
    refine lv_iload_n hx hb dX12_friendsOf_82 rfl (lv_at hl 2 rfl) ?_
    cases hF
    exact k_iret C hP hS dX12_friendsOf_83
  · have hF := op_f hF c2
    refine lv_iload_n hx hb dX12_friendsOf_14 rfl (lv_at hl 2 rfl) ?_
    refine lv_iload_n hx hb dX12_friendsOf_15 rfl (lv_at hl 3 rfl) ?_
    refine lv_iload_n hx hb dX12_friendsOf_16 rfl (lv_at hl 1 rfl) ?_
    refine lv_icmp_eq (tgt := 73) hx hb dX12_friendsOf_17 (by decide) (fun c3 => ?_) (fun c3 => ?_)
    · have hF := op_t hF c3
      exact b_X12_friendsOf_73 C hk4 hF hP hD hS (lv_sub hl [0, 1, 3] rfl)
    · have hF := op_f hF c3
      refine lv_aload_n hx hb dX12_friendsOf_20 rfl (lv_at hl 0 rfl) ?_
      refine k_get (v := .ref (a0 7)) C fg_X12_33 hP 0 rfl rfl dX12_friendsOf_21 ?_
      refine lv_bipush (v := (59 : Int32)) hx hb dX12_friendsOf_24 (by decide) ?_
      refine lv_iload_n hx hb dX12_friendsOf_26 rfl (lv_at hl 3 rfl) ?_
      refine lv_iadd hx hb dX12_friendsOf_27 ?_
      obtain ⟨h4, hF⟩ := op_ck hF
      refine k_ild (f := S0.2.2.1 6) C hP 2 rfl h4 dX12_friendsOf_28 ?_
      refine lv_aload_n hx hb dX12_friendsOf_29 rfl (lv_at hl 0 rfl) ?_
      refine k_get (v := .ref (a0 7)) C fg_X12_33 hP 0 rfl rfl dX12_friendsOf_30 ?_
      refine lv_bipush (v := (59 : Int32)) hx hb dX12_friendsOf_33 (by decide) ?_
      refine lv_iload_n hx hb dX12_friendsOf_35 rfl (lv_at hl 1 rfl) ?_
      refine lv_iadd hx hb dX12_friendsOf_36 ?_
      obtain ⟨h5, hF⟩ := op_ck hF
      refine k_ild (f := S0.2.2.1 6) C hP 2 rfl h5 dX12_friendsOf_37 ?_
      obtain ⟨r7, hc6, hF⟩ := ob1_s hF
      refine k_inil C (k_rS (As := [.int (S0.2.2.1 6 ((59 : Int32) + x1).toNatClampNeg)]) (rest := [.int (S0.2.2.1 6 ((59 : Int32) + x3).toNatClampNeg), .int x2]) C (c_X12_opposite l D q _ (S0.2.2.1 6 ((59 : Int32) + x1).toNatClampNeg) hc6) kc_X12_opposite ml_X12_312 rfl rfl (by decide) (fun k x h => by simp at h) (⟨fun i j x y h => by simp at h, fun k x h => by simp at h⟩ : va_D A []) hS rfl hl.1 rfl (Nat.le_of_ble_eq_true rfl) dX12_friendsOf_38 (by decide)) hP hD hS (fun H locs hP hD hS => ?_)
      refine lv_iand hx hb dX12_friendsOf_41 ?_
      refine lv_if_ne (tgt := 73) hx hb dX12_friendsOf_42 (by decide) (fun c8 => ?_) (fun c8 => ?_)
      · have hF := op_f hF c8
        exact b_X12_friendsOf_73 C hk4 hF hP hD hS (lv_sub hl [0, 1, 3] rfl)
      · have hF := op_t hF c8
        refine lv_aload_n hx hb dX12_friendsOf_45 rfl (lv_at hl 0 rfl) ?_
        refine k_get (v := .ref (a0 7)) C fg_X12_33 hP 0 rfl rfl dX12_friendsOf_46 ?_
        refine lv_bipush (v := (59 : Int32)) hx hb dX12_friendsOf_49 (by decide) ?_
        refine lv_iload_n hx hb dX12_friendsOf_51 rfl (lv_at hl 3 rfl) ?_
        refine lv_iadd hx hb dX12_friendsOf_52 ?_
        obtain ⟨h9, hF⟩ := op_ck hF
        refine k_ild (f := S0.2.2.1 6) C hP 2 rfl h9 dX12_friendsOf_53 ?_
        refine lv_aload_n hx hb dX12_friendsOf_54 rfl (lv_at hl 0 rfl) ?_
        refine k_get (v := .ref (a0 7)) C fg_X12_33 hP 0 rfl rfl dX12_friendsOf_55 ?_
        refine lv_bipush (v := (59 : Int32)) hx hb dX12_friendsOf_58 (by decide) ?_
        refine lv_iload_n hx hb dX12_friendsOf_60 rfl (lv_at hl 1 rfl) ?_
        refine lv_iadd hx hb dX12_friendsOf_61 ?_
        obtain ⟨h10, hF⟩ := op_ck hF
        refine k_ild (f := S0.2.2.1 6) C hP 2 rfl h10 dX12_friendsOf_62 ?_
        refine lv_iand hx hb dX12_friendsOf_63 ?_
        refine lv_if_eq (tgt := 73) hx hb dX12_friendsOf_64 (by decide) (fun c11 => ?_) (fun c11 => ?_)
        · have hF := op_t hF c11
          exact b_X12_friendsOf_73 C hk4 hF hP hD hS (lv_sub hl [0, 1, 3] rfl)
        · have hF := op_f hF c11
          refine lv_iconst (v := (1 : Int32)) hx hb dX12_friendsOf_67 (by decide) ?_
          refine lv_iload_n hx hb dX12_friendsOf_68 rfl (lv_at hl 3 rfl) ?_
          refine lv_ishl hx hb dX12_friendsOf_69 ?_
          refine lv_goto (tgt := 74) hx hb dX12_friendsOf_70 (by decide) ?_
          exact b_X12_friendsOf_74 C hk4 hF hP hD hS (lv_sub hl [0, 1, 3] rfl)
set_option maxRecDepth 100000 in
set_option maxHeartbeats 4000000 in
theorem l_X12_friendsOf_4 {p : Program} {l : Launch} {e : Env} {s : State} {m : MethodId} {args : Array Value} {below : List Frame} {meth : Method} {c : Code} {D : va_G} {q : Nat → ClassId} {A : Nat → Prop} {o0 : Nat} {a0 : Nat → Nat} {r : Int32} (C : cx p s m args meth c cX12_friendsOf 4 (some .int) RX12 D q A) {x1 : Int32} {x2 : Int32} {x3 : Int32} {S0 : St} (hF : L_X12_friendsOf_4 x1 x2 x3 S0 = some (r)) : ∀ (H : Heap) (locs : List Loc) (ls : Array Slot), va_P D vwCl (fl [g12 q o0 a0 S0]) H → va_D A (fl [g12 q o0 a0 S0]) → va_S A s.heap H locs → lv_has ls 4 [(0, .ref o0), (1, .int x1), (2, .int x2), (3, .int x3)] → W p l e rm_X12_friendsOf s m args below meth c H locs 0 0 (MQ below (QI D A r (fl [g12 q o0 a0 S0])) args s 0 0 A) (F0 m 4 ls []) :=
  lp_G _ _ (fun z => ∀ (H : Heap) (locs : List Loc) (ls : Array Slot), va_P D vwCl (fl [g12 q o0 a0 z.2.2.2]) H → va_D A (fl [g12 q o0 a0 z.2.2.2]) → va_S A s.heap H locs → lv_has ls 4 [(0, .ref o0), (1, .int z.1), (2, .int z.2.1), (3, .int z.2.2.1)] → W p l e rm_X12_friendsOf s m args below meth c H locs 0 0 (MQ below (QI D A r (fl [g12 q o0 a0 z.2.2.2])) args s 0 0 A) (F0 m 4 ls [])) (fun kz hkz z hz H locs ls hP hD hS hl => b_X12_friendsOf_4 C (fun x1 x2 x3 S0 hz => hkz (x1, x2, x3, S0) hz) hz hP hD hS hl) FU (x1, x2, x3, S0) hF
set_option maxRecDepth 100000 in
set_option maxHeartbeats 4000000 in
theorem c_X12_friendsOf (l : Launch) (D : va_G) (q : Nat → ClassId) (o0 : Nat) (a0 : Nat → Nat) (S0 : St) (sz : Nat) (x1 : Int32) {r : Int32} (hF : F_X12_friendsOf S0 x1 = some (r)) : Met l yX12_friendsOf (Cond.code yX12_friendsOf cX12_friendsOf 4 (some .int) :: TB) rm_X12_friendsOf (PC D q [.ref o0, .int x1] (fl [g12 q o0 a0 S0]) sz) ((fun A => QI D A r (fl [g12 q o0 a0 S0])) (va_A (fl [g12 q o0 a0 S0]) sz)) 0 0 (va_A (fl [g12 q o0 a0 S0]) sz) := by
  refine k_met (w0 := fl [g12 q o0 a0 S0]) (Q := fun A => QI D A r (fl [g12 q o0 a0 S0])) (by decide +kernel) (Nat.le_of_ble_eq_true rfl) ?_
  intro p e s m args below meth c A ls C hP hD hS hl
  have hl : lv_has ls 4 [(0, .ref o0), (1, .int x1)] := hl
  unfold F_X12_friendsOf at hF
  have C : cx p s m args meth c cX12_friendsOf 4 (some .int) RX12 D q A := C
  obtain ⟨hx, hb, hr, hml, hown, hts, hlk, hA, hK, hN, hV⟩ := id C
  refine lv_iconst (v := (0 : Int32)) hx hb dX12_friendsOf_0 (by decide) ?_
  refine lv_istore_n (lv' := [(2, .int (0 : Int32)), (0, .ref o0), (1, .int x1)]) hx hb dX12_friendsOf_1 rfl hl (by decide) rfl (fun ls hl => ?_)
  refine lv_iconst (v := (0 : Int32)) hx hb dX12_friendsOf_2 (by decide) ?_
  refine lv_istore_n (lv' := [(3, .int (0 : Int32)), (2, .int (0 : Int32)), (0, .ref o0), (1, .int x1)]) hx hb dX12_friendsOf_3 rfl hl (by decide) rfl (fun ls hl => ?_)
  exact l_X12_friendsOf_4 C hF _ _ _ hP hD hS (lv_sub hl [2, 3, 1, 0] rfl)

abbrev rm_X12_isPleased : Room := ({ frames := 0, cells := 0, slots := 0, locals := 0 } : Room)
def F_X12_isPleased (S0 : St) (x1 : Int32) (x2 : Int32) : Option (Int32) := if oob ((36 : Int32) + x1) 258 then none else if ((S0.2.2.1 6 ((36 : Int32) + x1).toNatClampNeg) &&& (x2 ^^^ (-1 : Int32))) = 0 then (some ((1 : Int32))) else (some ((0 : Int32)))
set_option maxRecDepth 100000 in
set_option maxHeartbeats 4000000 in
theorem c_X12_isPleased (l : Launch) (D : va_G) (q : Nat → ClassId) (o0 : Nat) (a0 : Nat → Nat) (S0 : St) (sz : Nat) (x1 : Int32) (x2 : Int32) {r : Int32} (hF : F_X12_isPleased S0 x1 x2 = some (r)) : Met l yX12_isPleased (Cond.code yX12_isPleased cX12_isPleased 3 (some .boolean) :: TB) rm_X12_isPleased (PC D q [.ref o0, .int x1, .int x2] (fl [g12 q o0 a0 S0]) sz) ((fun A => QI D A r (fl [g12 q o0 a0 S0])) (va_A (fl [g12 q o0 a0 S0]) sz)) 0 0 (va_A (fl [g12 q o0 a0 S0]) sz) := by
  refine k_met (w0 := fl [g12 q o0 a0 S0]) (Q := fun A => QI D A r (fl [g12 q o0 a0 S0])) (by decide +kernel) (Nat.le_of_ble_eq_true rfl) ?_
  intro p e s m args below meth c A ls C hP hD hS hl
  have hl : lv_has ls 3 [(0, .ref o0), (1, .int x1), (2, .int x2)] := hl
  unfold F_X12_isPleased at hF
  have C : cx p s m args meth c cX12_isPleased 3 (some .boolean) RX12 D q A := C
  obtain ⟨hx, hb, hr, hml, hown, hts, hlk, hA, hK, hN, hV⟩ := id C
  refine lv_aload_n hx hb dX12_isPleased_0 rfl (lv_at hl 0 rfl) ?_
  refine k_get (v := .ref (a0 7)) C fg_X12_33 hP 0 rfl rfl dX12_isPleased_1 ?_
  refine lv_bipush (v := (36 : Int32)) hx hb dX12_isPleased_4 (by decide) ?_
  refine lv_iload_n hx hb dX12_isPleased_6 rfl (lv_at hl 1 rfl) ?_
  refine lv_iadd hx hb dX12_isPleased_7 ?_
  obtain ⟨h1, hF⟩ := op_ck hF
  refine k_ild (f := S0.2.2.1 6) C hP 2 rfl h1 dX12_isPleased_8 ?_
  refine lv_iload_n hx hb dX12_isPleased_9 rfl (lv_at hl 2 rfl) ?_
  refine lv_iconst (v := (-1 : Int32)) hx hb dX12_isPleased_10 (by decide) ?_
  refine lv_ixor hx hb dX12_isPleased_11 ?_
  refine lv_iand hx hb dX12_isPleased_12 ?_
  refine lv_if_ne (tgt := 20) hx hb dX12_isPleased_13 (by decide) (fun c2 => ?_) (fun c2 => ?_)
  · have hF := op_f hF c2
    refine lv_iconst (v := (0 : Int32)) hx hb dX12_isPleased_20 (by decide) ?_
    cases hF
    exact k_zret C (by decide) hP hS dX12_isPleased_21
  · have hF := op_t hF c2
    refine lv_iconst (v := (1 : Int32)) hx hb dX12_isPleased_16 (by decide) ?_
    refine lv_goto (tgt := 21) hx hb dX12_isPleased_17 (by decide) ?_
    cases hF
    exact k_zret C (by decide) hP hS dX12_isPleased_21

abbrev rm_X12_pleased : Room := ({ frames := 1, cells := 0, slots := 0, locals := 22 } : Room)
def F_X12_pleased_39 (k4 : Int32 × Int32 × St → Option (Int32)) (x2 : Int32) (s0 : Int32) (s1 : Int32) (S0 : St) : Option (Int32) := k4 ((s0 ||| s1), (x2 + 1), S0)
def F_X12_pleased_4 (k4 : Int32 × Int32 × St → Option (Int32)) (x1 : Int32) (x2 : Int32) (S0 : St) : Option (Int32) := if oob (1 : Int32) 258 then none else if (S0.2.2.1 6 (1 : Int32).toNatClampNeg) ≤ x2 then (some (x1)) else (if oob ((59 : Int32) + x2) 258 then none else ob1 (F_X12_isPleased S0 x2 (S0.2.2.1 6 ((59 : Int32) + x2).toNatClampNeg)) fun r5 => if r5 = 0 then (F_X12_pleased_39 k4 x2 x1 (0 : Int32) S0) else (F_X12_pleased_39 k4 x2 x1 ((1 : Int32) <<< (x2 &&& 31)) S0))
def L_X12_pleased_4 (x1 : Int32) (x2 : Int32) (S0 : St) : Option (Int32) := lp (fun kz z => F_X12_pleased_4 kz z.1 z.2.1 z.2.2) FU (x1, x2, S0)
def F_X12_pleased (S0 : St) : Option (Int32) := L_X12_pleased_4 (0 : Int32) (0 : Int32) S0
set_option maxRecDepth 100000 in
set_option maxHeartbeats 4000000 in
theorem b_X12_pleased_39 {p : Program} {l : Launch} {e : Env} {s : State} {m : MethodId} {args : Array Value} {below : List Frame} {meth : Method} {c : Code} {D : va_G} {q : Nat → ClassId} {A : Nat → Prop} {o0 : Nat} {a0 : Nat → Nat} {r : Int32} (C : cx p s m args meth c cX12_pleased 3 (some .int) RX12 D q A) {k4 : Int32 × Int32 × St → Option (Int32)} (hk4 : ∀ (x1 : Int32) (x2 : Int32) (S0 : St), k4 (x1, x2, S0) = some (r) → ∀ (H : Heap) (locs : List Loc) (ls : Array Slot), va_P D vwCl (fl [g12 q o0 a0 S0]) H → va_D A (fl [g12 q o0 a0 S0]) → va_S A s.heap H locs → lv_has ls 3 [(0, .ref o0), (1, .int x1), (2, .int x2)] → W p l e rm_X12_pleased s m args below meth c H locs 0 0 (MQ below (QI D A r (fl [g12 q o0 a0 S0])) args s 0 0 A) (F0 m 4 ls [])) {x2 : Int32} {s0 : Int32} {s1 : Int32} {S0 : St} (hF : F_X12_pleased_39 k4 x2 s0 s1 S0 = some (r)) {H : Heap} {locs : List Loc} (hP : va_P D vwCl (fl [g12 q o0 a0 S0]) H) (hD : va_D A (fl [g12 q o0 a0 S0])) (hS : va_S A s.heap H locs) {ls : Array Slot} (hl : lv_has ls 3 [(0, .ref o0), (2, .int x2)]) : W p l e rm_X12_pleased s m args below meth c H locs 0 0 (MQ below (QI D A r (fl [g12 q o0 a0 S0])) args s 0 0 A) (F0 m 39 ls [.int s1, .int s0]) := by
  unfold F_X12_pleased_39 at hF
  obtain ⟨hx, hb, hr, hml, hown, hts, hlk, hA, hK, hN, hV⟩ := id C
  refine lv_ior hx hb dX12_pleased_39 ?_
  refine lv_istore_n (lv' := [(1, .int (s0 ||| s1)), (0, .ref o0), (2, .int x2)]) hx hb dX12_pleased_40 rfl hl (by decide) rfl (fun ls hl => ?_)
  refine lv_iinc (v := (x2 + 1)) (lv' := [(2, .int (x2 + 1)), (1, .int (s0 ||| s1)), (0, .ref o0)]) hx hb dX12_pleased_41 hl (k := 2) rfl rfl (by decide) rfl (fun ls hl => ?_)
  refine lv_goto (tgt := 4) hx hb dX12_pleased_44 (by decide) ?_
  exact hk4 (s0 ||| s1) (x2 + 1) S0 hF _ _ _ hP hD hS (lv_sub hl [2, 1, 0] rfl)
set_option maxRecDepth 100000 in
set_option maxHeartbeats 4000000 in
theorem b_X12_pleased_4 {p : Program} {l : Launch} {e : Env} {s : State} {m : MethodId} {args : Array Value} {below : List Frame} {meth : Method} {c : Code} {D : va_G} {q : Nat → ClassId} {A : Nat → Prop} {o0 : Nat} {a0 : Nat → Nat} {r : Int32} (C : cx p s m args meth c cX12_pleased 3 (some .int) RX12 D q A) {k4 : Int32 × Int32 × St → Option (Int32)} (hk4 : ∀ (x1 : Int32) (x2 : Int32) (S0 : St), k4 (x1, x2, S0) = some (r) → ∀ (H : Heap) (locs : List Loc) (ls : Array Slot), va_P D vwCl (fl [g12 q o0 a0 S0]) H → va_D A (fl [g12 q o0 a0 S0]) → va_S A s.heap H locs → lv_has ls 3 [(0, .ref o0), (1, .int x1), (2, .int x2)] → W p l e rm_X12_pleased s m args below meth c H locs 0 0 (MQ below (QI D A r (fl [g12 q o0 a0 S0])) args s 0 0 A) (F0 m 4 ls [])) {x1 : Int32} {x2 : Int32} {S0 : St} (hF : F_X12_pleased_4 k4 x1 x2 S0 = some (r)) {H : Heap} {locs : List Loc} (hP : va_P D vwCl (fl [g12 q o0 a0 S0]) H) (hD : va_D A (fl [g12 q o0 a0 S0])) (hS : va_S A s.heap H locs) {ls : Array Slot} (hl : lv_has ls 3 [(0, .ref o0), (1, .int x1), (2, .int x2)]) : W p l e rm_X12_pleased s m args below meth c H locs 0 0 (MQ below (QI D A r (fl [g12 q o0 a0 S0])) args s 0 0 A) (F0 m 4 ls []) := by
  unfold F_X12_pleased_4 at hF
  obtain ⟨hx, hb, hr, hml, hown, hts, hlk, hA, hK, hN, hV⟩ := id C
  refine lv_iload_n hx hb dX12_pleased_4 rfl (lv_at hl 2 rfl) ?_
  refine lv_aload_n hx hb dX12_pleased_5 rfl (lv_at hl 0 rfl) ?_
  refine k_get (v := .ref (a0 7)) C fg_X12_33 hP 0 rfl rfl dX12_pleased_6 ?_
  refine lv_iconst (v := (1 : Int32)) hx hb dX12_pleased_9 (by decide) ?_
  obtain ⟨h1, hF⟩ := op_ck hF
  refine k_ild (f := S0.2.2.1 6) C hP 2 rfl h1 dX12_pleased_10 ?_
  refine lv_icmp_ge (tgt := 47) hx hb dX12_pleased_11 (by decide) (fun c2 => ?_) (fun c2 => ?_)
  · have hF := op_t hF c2
    refine lv_iload_n hx hb dX12_pleased_47 rfl (lv_at hl 1 rfl) ?_
    cases hF
    exact k_iret C hP hS dX12_pleased_48
  · have hF := op_f hF c2
    refine lv_iload_n hx hb dX12_pleased_14 rfl (lv_at hl 1 rfl) ?_
    refine lv_aload_n hx hb dX12_pleased_15 rfl (lv_at hl 0 rfl) ?_
    refine lv_iload_n hx hb dX12_pleased_16 rfl (lv_at hl 2 rfl) ?_
    refine lv_aload_n hx hb dX12_pleased_17 rfl (lv_at hl 0 rfl) ?_
    refine k_get (v := .ref (a0 7)) C fg_X12_33 hP 0 rfl rfl dX12_pleased_18 ?_
    refine lv_bipush (v := (59 : Int32)) hx hb dX12_pleased_21 (by decide) ?_
    refine lv_iload_n hx hb dX12_pleased_23 rfl (lv_at hl 2 rfl) ?_
    refine lv_iadd hx hb dX12_pleased_24 ?_
    obtain ⟨h3, hF⟩ := op_ck hF
    refine k_ild (f := S0.2.2.1 6) C hP 2 rfl h3 dX12_pleased_25 ?_
    obtain ⟨r5, hc4, hF⟩ := ob1_s hF
    refine k_isame C (k_rV (As := [.int x2, .int (S0.2.2.1 6 ((59 : Int32) + x2).toNatClampNeg)]) (rest := [.int x1]) C (c_X12_isPleased l D q o0 a0 S0 _ x2 (S0.2.2.1 6 ((59 : Int32) + x2).toNatClampNeg) hc4) kc_X12_isPleased ml_X12_315 rfl rfl (by decide) hP hD hS (va_recv hK hP (ci := 12) (q0 := 0) rfl rfl) rfl hl.1 rfl (Nat.le_of_ble_eq_true rfl) dX12_pleased_26 (by decide)) hP hD hS (fun H locs hP hD hS => ?_)
    refine lv_if_eq (tgt := 38) hx hb dX12_pleased_29 (by decide) (fun c6 => ?_) (fun c6 => ?_)
    · have hF := op_t hF c6
      refine lv_iconst (v := (0 : Int32)) hx hb dX12_pleased_38 (by decide) ?_
      exact b_X12_pleased_39 C hk4 hF hP hD hS (lv_sub hl [0, 2] rfl)
    · have hF := op_f hF c6
      refine lv_iconst (v := (1 : Int32)) hx hb dX12_pleased_32 (by decide) ?_
      refine lv_iload_n hx hb dX12_pleased_33 rfl (lv_at hl 2 rfl) ?_
      refine lv_ishl hx hb dX12_pleased_34 ?_
      refine lv_goto (tgt := 39) hx hb dX12_pleased_35 (by decide) ?_
      exact b_X12_pleased_39 C hk4 hF hP hD hS (lv_sub hl [0, 2] rfl)
set_option maxRecDepth 100000 in
set_option maxHeartbeats 4000000 in
theorem l_X12_pleased_4 {p : Program} {l : Launch} {e : Env} {s : State} {m : MethodId} {args : Array Value} {below : List Frame} {meth : Method} {c : Code} {D : va_G} {q : Nat → ClassId} {A : Nat → Prop} {o0 : Nat} {a0 : Nat → Nat} {r : Int32} (C : cx p s m args meth c cX12_pleased 3 (some .int) RX12 D q A) {x1 : Int32} {x2 : Int32} {S0 : St} (hF : L_X12_pleased_4 x1 x2 S0 = some (r)) : ∀ (H : Heap) (locs : List Loc) (ls : Array Slot), va_P D vwCl (fl [g12 q o0 a0 S0]) H → va_D A (fl [g12 q o0 a0 S0]) → va_S A s.heap H locs → lv_has ls 3 [(0, .ref o0), (1, .int x1), (2, .int x2)] → W p l e rm_X12_pleased s m args below meth c H locs 0 0 (MQ below (QI D A r (fl [g12 q o0 a0 S0])) args s 0 0 A) (F0 m 4 ls []) :=
  lp_G _ _ (fun z => ∀ (H : Heap) (locs : List Loc) (ls : Array Slot), va_P D vwCl (fl [g12 q o0 a0 z.2.2]) H → va_D A (fl [g12 q o0 a0 z.2.2]) → va_S A s.heap H locs → lv_has ls 3 [(0, .ref o0), (1, .int z.1), (2, .int z.2.1)] → W p l e rm_X12_pleased s m args below meth c H locs 0 0 (MQ below (QI D A r (fl [g12 q o0 a0 z.2.2])) args s 0 0 A) (F0 m 4 ls [])) (fun kz hkz z hz H locs ls hP hD hS hl => b_X12_pleased_4 C (fun x1 x2 S0 hz => hkz (x1, x2, S0) hz) hz hP hD hS hl) FU (x1, x2, S0) hF
set_option maxRecDepth 100000 in
set_option maxHeartbeats 4000000 in
theorem c_X12_pleased (l : Launch) (D : va_G) (q : Nat → ClassId) (o0 : Nat) (a0 : Nat → Nat) (S0 : St) (sz : Nat) {r : Int32} (hF : F_X12_pleased S0 = some (r)) : Met l yX12_pleased (Cond.code yX12_pleased cX12_pleased 3 (some .int) :: TB) rm_X12_pleased (PC D q [.ref o0] (fl [g12 q o0 a0 S0]) sz) ((fun A => QI D A r (fl [g12 q o0 a0 S0])) (va_A (fl [g12 q o0 a0 S0]) sz)) 0 0 (va_A (fl [g12 q o0 a0 S0]) sz) := by
  refine k_met (w0 := fl [g12 q o0 a0 S0]) (Q := fun A => QI D A r (fl [g12 q o0 a0 S0])) (by decide +kernel) (Nat.le_of_ble_eq_true rfl) ?_
  intro p e s m args below meth c A ls C hP hD hS hl
  have hl : lv_has ls 3 [(0, .ref o0)] := hl
  unfold F_X12_pleased at hF
  have C : cx p s m args meth c cX12_pleased 3 (some .int) RX12 D q A := C
  obtain ⟨hx, hb, hr, hml, hown, hts, hlk, hA, hK, hN, hV⟩ := id C
  refine lv_iconst (v := (0 : Int32)) hx hb dX12_pleased_0 (by decide) ?_
  refine lv_istore_n (lv' := [(1, .int (0 : Int32)), (0, .ref o0)]) hx hb dX12_pleased_1 rfl hl (by decide) rfl (fun ls hl => ?_)
  refine lv_iconst (v := (0 : Int32)) hx hb dX12_pleased_2 (by decide) ?_
  refine lv_istore_n (lv' := [(2, .int (0 : Int32)), (1, .int (0 : Int32)), (0, .ref o0)]) hx hb dX12_pleased_3 rfl hl (by decide) rfl (fun ls hl => ?_)
  exact l_X12_pleased_4 C hF _ _ _ hP hD hS (lv_sub hl [2, 1, 0] rfl)
