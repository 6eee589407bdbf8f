abbrev rm_X5_isRunSign : Room := ({ frames := 0, cells := 0, slots := 0, locals := 0 } : Room)
def F_X5_isRunSign_24 : Option (Int32) := some ((1 : Int32))
def F_X5_isRunSign_12 (x0 : Int32) : Option (Int32) := if x0 < (48 : Int32) then (some ((0 : Int32))) else (if (57 : Int32) < x0 then (some ((0 : Int32))) else (F_X5_isRunSign_24 ))
def F_X5_isRunSign (x0 : Int32) : Option (Int32) := if x0 < (97 : Int32) then (F_X5_isRunSign_12 x0) else (if x0 ≤ (122 : Int32) then (F_X5_isRunSign_24 ) else (F_X5_isRunSign_12 x0))
set_option maxRecDepth 100000 in
set_option maxHeartbeats 4000000 in
theorem b_X5_isRunSign_24 {p : Program} {l : Launch} {e : Env} {s : State} {m : MethodId} {args : Array Value} {below : List Frame} {meth : Method} {c : Code} {D : va_G} {q : Nat → ClassId} {A : Nat → Prop} {r : Int32} (C : cx p s m args meth c cX5_isRunSign 1 (some .boolean) RX5 D q A) (hF : F_X5_isRunSign_24 = some (r)) {H : Heap} {locs : List Loc} (hP : va_P D vwCl ([]) H) (hD : va_D A ([])) (hS : va_S A s.heap H locs) {ls : Array Slot} (hl : lv_has ls 1 []) : W p l e rm_X5_isRunSign s m args below meth c H locs 0 0 (MQ below (QI D A r ([])) args s 0 0 A) (F0 m 24 ls []) := by
  unfold F_X5_isRunSign_24 at hF
  obtain ⟨hx, hb, hr, hml, hown, hts, hlk, hA, hK, hN, hV⟩ := id C
  refine lv_iconst (v := (1 : Int32)) hx hb dX5_isRunSign_24 (by decide) ?_
  refine lv_goto (tgt := 29) hx hb dX5_isRunSign_25 (by decide) ?_
  cases hF
  exact k_zret C (by decide) hP hS dX5_isRunSign_29
set_option maxRecDepth 100000 in
set_option maxHeartbeats 4000000 in
theorem b_X5_isRunSign_12 {p : Program} {l : Launch} {e : Env} {s : State} {m : MethodId} {args : Array Value} {below : List Frame} {meth : Method} {c : Code} {D : va_G} {q : Nat → ClassId} {A : Nat → Prop} {r : Int32} (C : cx p s m args meth c cX5_isRunSign 1 (some .boolean) RX5 D q A) {x0 : Int32} (hF : F_X5_isRunSign_12 x0 = some (r)) {H : Heap} {locs : List Loc} (hP : va_P D vwCl ([]) H) (hD : va_D A ([])) (hS : va_S A s.heap H locs) {ls : Array Slot} (hl : lv_has ls 1 [(0, .int x0)]) : W p l e rm_X5_isRunSign s m args below meth c H locs 0 0 (MQ below (QI D A r ([])) args s 0 0 A) (F0 m 12 ls []) := by
  unfold F_X5_isRunSign_12 at hF
  obtain ⟨hx, hb, hr, hml, hown, hts, hlk, hA, hK, hN, hV⟩ := id C
  refine lv_iload_n hx hb dX5_isRunSign_12 rfl (lv_at hl 0 rfl) ?_
  refine lv_bipush (v := (48 : Int32)) hx hb dX5_isRunSign_13 (by decide) ?_
  refine lv_icmp_lt (tgt := 28) hx hb dX5_isRunSign_15 (by decide) (fun c1 => ?_) (fun c1 => ?_)
  · have hF := op_t hF c1
    refine lv_iconst (v := (0 : Int32)) hx hb dX5_isRunSign_28 (by decide) ?_
    cases hF
    exact k_zret C (by decide) hP hS dX5_isRunSign_29
  · have hF := op_f hF c1
    refine lv_iload_n hx hb dX5_isRunSign_18 rfl (lv_at hl 0 rfl) ?_
    refine lv_bipush (v := (57 : Int32)) hx hb dX5_isRunSign_19 (by decide) ?_
    refine lv_icmp_gt (tgt := 28) hx hb dX5_isRunSign_21 (by decide) (fun c2 => ?_) (fun c2 => ?_)
    · have hF := op_t hF c2
      refine lv_iconst (v := (0 : Int32)) hx hb dX5_isRunSign_28 (by decide) ?_
      cases hF
      exact k_zret C (by decide) hP hS dX5_isRunSign_29
    · have hF := op_f hF c2
      exact b_X5_isRunSign_24 C hF hP hD hS (lv_sub hl [] rfl)
set_option maxRecDepth 100000 in
set_option maxHeartbeats 4000000 in
theorem c_X5_isRunSign (l : Launch) (D : va_G) (q : Nat → ClassId) (sz : Nat) (x0 : Int32) {r : Int32} (hF : F_X5_isRunSign x0 = some (r)) : Met l yX5_isRunSign (Cond.code yX5_isRunSign cX5_isRunSign 1 (some .boolean) :: TB) rm_X5_isRunSign (PC D q [.int x0] ([]) sz) ((fun A => QI D A r ([])) (va_A ([]) sz)) 0 0 (va_A ([]) sz) := by
  refine k_met (w0 := []) (Q := fun A => QI D A r ([])) (by decide +kernel) (Nat.le_of_ble_eq_true rfl) ?_
  intro p e s m args below meth c A ls C hP hD hS hl
  have hl : lv_has ls 1 [(0, .int x0)] := hl
  unfold F_X5_isRunSign at hF
  have C : cx p s m args meth c cX5_isRunSign 1 (some .boolean) RX5 D q A := C
  obtain ⟨hx, hb, hr, hml, hown, hts, hlk, hA, hK, hN, hV⟩ := id C
  refine lv_iload_n hx hb dX5_isRunSign_0 rfl (lv_at hl 0 rfl) ?_
  refine lv_bipush (v := (97 : Int32)) hx hb dX5_isRunSign_1 (by decide) ?_
  refine lv_icmp_lt (tgt := 12) hx hb dX5_isRunSign_3 (by decide) (fun c1 => ?_) (fun c1 => ?_)
  · have hF := op_t hF c1
    exact b_X5_isRunSign_12 C hF hP hD hS (lv_sub hl [0] rfl)
  · have hF := op_f hF c1
    refine lv_iload_n hx hb dX5_isRunSign_6 rfl (lv_at hl 0 rfl) ?_
    refine lv_bipush (v := (122 : Int32)) hx hb dX5_isRunSign_7 (by decide) ?_
    refine lv_icmp_le (tgt := 24) hx hb dX5_isRunSign_9 (by decide) (fun c2 => ?_) (fun c2 => ?_)
    · have hF := op_t hF c2
      exact b_X5_isRunSign_24 C hF hP hD hS (lv_sub hl [] rfl)
    · have hF := op_f hF c2
      exact b_X5_isRunSign_12 C hF hP hD hS (lv_sub hl [0] rfl)

abbrev rm_X5_wordSort : Room := ({ frames := 0, cells := 0, slots := 0, locals := 0 } : Room)
def F_X5_wordSort_2 (k2 : Int64 × Int32 × St → Option (Int32)) (x1 : Int64) (x3 : Int32) (S0 : St) : Option (Int32) := if (36 : Int32) ≤ x3 then (some ((36 : Int32))) else (if oob x3 36 then none else if (lg_cmp (S0.2.2.2 1 x3.toNatClampNeg) x1) = 0 then (some (x3)) else (k2 (x1, (x3 + 1), S0)))
def L_X5_wordSort_2 (x1 : Int64) (x3 : Int32) (S0 : St) : Option (Int32) := lp (fun kz z => F_X5_wordSort_2 kz z.1 z.2.1 z.2.2) FU (x1, x3, S0)
def F_X5_wordSort (S0 : St) (x1 : Int64) : Option (Int32) := L_X5_wordSort_2 x1 (0 : Int32) S0
set_option maxRecDepth 100000 in
set_option maxHeartbeats 4000000 in
theorem b_X5_wordSort_2 {p : Program} {l : Launch} {e : Env} {s : State} {m : MethodId} {args : Array Value} {below : List Frame} {meth : Method} {c : Code} {D : va_G} {q : Nat → ClassId} {A : Nat → Prop} {tp : Nat} {o0 : Nat} {a0 : Nat → Nat} {r : Int32} (C : cx p s m args meth c cX5_wordSort 4 (some .int) RX5 D q A) {k2 : Int64 × Int32 × St → Option (Int32)} (hk2 : ∀ (x1 : Int64) (x3 : Int32) (S0 : St), k2 (x1, x3, S0) = some (r) → ∀ (H : Heap) (locs : List Loc) (ls : Array Slot), va_P D vwCl (fl [g5 q o0 a0 tp S0]) H → va_D A (fl [g5 q o0 a0 tp S0]) → va_S A s.heap H locs → lv_has ls 4 [(0, .ref o0), (1, .long x1), (3, .int x3)] → W p l e rm_X5_wordSort s m args below meth c H locs 0 0 (MQ below (QI D A r (fl [g5 q o0 a0 tp S0])) args s 0 0 A) (F0 m 2 ls [])) {x1 : Int64} {x3 : Int32} {S0 : St} (hF : F_X5_wordSort_2 k2 x1 x3 S0 = some (r)) {H : Heap} {locs : List Loc} (hP : va_P D vwCl (fl [g5 q o0 a0 tp S0]) H) (hD : va_D A (fl [g5 q o0 a0 tp S0])) (hS : va_S A s.heap H locs) {ls : Array Slot} (hl : lv_has ls 4 [(0, .ref o0), (1, .long x1), (3, .int x3)]) : W p l e rm_X5_wordSort s m args below meth c H locs 0 0 (MQ below (QI D A r (fl [g5 q o0 a0 tp S0])) args s 0 0 A) (F0 m 2 ls []) := by
  unfold F_X5_wordSort_2 at hF
  obtain ⟨hx, hb, hr, hml, hown, hts, hlk, hA, hK, hN, hV⟩ := id C
  refine lv_iload_n hx hb dX5_wordSort_2 rfl (lv_at hl 2 rfl) ?_
  refine lv_bipush (v := (36 : Int32)) hx hb dX5_wordSort_3 (by decide) ?_
  refine lv_icmp_ge (tgt := 27) hx hb dX5_wordSort_5 (by decide) (fun c1 => ?_) (fun c1 => ?_)
  · have hF := op_t hF c1
    refine lv_bipush (v := (36 : Int32)) hx hb dX5_wordSort_27 (by decide) ?_
    cases hF
    exact k_iret C hP hS dX5_wordSort_29
  · have hF := op_f hF c1
    refine lv_aload_n hx hb dX5_wordSort_8 rfl (lv_at hl 0 rfl) ?_
    refine k_get (v := .ref (a0 2)) C fg_X5_20 hP 0 rfl rfl dX5_wordSort_9 ?_
    refine lv_iload_n hx hb dX5_wordSort_12 rfl (lv_at hl 2 rfl) ?_
    obtain ⟨h2, hF⟩ := op_ck hF
    refine k_lld (f := S0.2.2.2 1) C hP 1 rfl h2 dX5_wordSort_13 ?_
    refine lv_lload_n hx hb dX5_wordSort_14 rfl (lv_at hl 1 rfl) ?_
    refine W.lcmp hx hb dX5_wordSort_15 ?_
    refine lv_if_ne (tgt := 21) hx hb dX5_wordSort_16 (by decide) (fun c3 => ?_) (fun c3 => ?_)
    · have hF := op_f hF c3
      refine lv_iinc (v := (x3 + 1)) (lv' := [(3, .int (x3 + 1)), (0, .ref o0), (1, .long x1)]) hx hb dX5_wordSort_21 hl (k := 2) rfl rfl (by decide) rfl (fun ls hl => ?_)
      refine lv_goto (tgt := 2) hx hb dX5_wordSort_24 (by decide) ?_
      exact hk2 x1 (x3 + 1) S0 hF _ _ _ hP hD hS (lv_sub hl [1, 2, 0] rfl)
    · have hF := op_t hF c3
      refine lv_iload_n hx hb dX5_wordSort_19 rfl (lv_at hl 2 rfl) ?_
      cases hF
      exact k_iret C hP hS dX5_wordSort_20
set_option maxRecDepth 100000 in
set_option maxHeartbeats 4000000 in
theorem l_X5_wordSort_2 {p : Program} {l : Launch} {e : Env} {s : State} {m : MethodId} {args : Array Value} {below : List Frame} {meth : Method} {c : Code} {D : va_G} {q : Nat → ClassId} {A : Nat → Prop} {tp : Nat} {o0 : Nat} {a0 : Nat → Nat} {r : Int32} (C : cx p s m args meth c cX5_wordSort 4 (some .int) RX5 D q A) {x1 : Int64} {x3 : Int32} {S0 : St} (hF : L_X5_wordSort_2 x1 x3 S0 = some (r)) : ∀ (H : Heap) (locs : List Loc) (ls : Array Slot), va_P D vwCl (fl [g5 q o0 a0 tp S0]) H → va_D A (fl [g5 q o0 a0 tp S0]) → va_S A s.heap H locs → lv_has ls 4 [(0, .ref o0), (1, .long x1), (3, .int x3)] → W p l e rm_X5_wordSort s m args below meth c H locs 0 0 (MQ below (QI D A r (fl [g5 q o0 a0 tp S0])) args s 0 0 A) (F0 m 2 ls []) :=
  lp_G _ _ (fun z => ∀ (H : Heap) (locs : List Loc) (ls : Array Slot), va_P D vwCl (fl [g5 q o0 a0 tp z.2.2]) H → va_D A (fl [g5 q o0 a0 tp z.2.2]) → va_S A s.heap H locs → lv_has ls 4 [(0, .ref o0), (1, .long z.1), (3, .int z.2.1)] → W p l e rm_X5_wordSort s m args below meth c H locs 0 0 (MQ below (QI D A r (fl [g5 q o0 a0 tp z.2.2])) args s 0 0 A) (F0 m 2 ls [])) (fun kz hkz z hz H locs ls hP hD hS hl => b_X5_wordSort_2 C (fun x1 x3 S0 hz => hkz (x1, x3, S0) hz) hz hP hD hS hl) FU (x1, x3, S0) hF
set_option maxRecDepth 100000 in
set_option maxHeartbeats 4000000 in
theorem c_X5_wordSort (l : Launch) (D : va_G) (q : Nat → ClassId) (tp : Nat) (o0 : Nat) (a0 : Nat → Nat) (S0 : St) (sz : Nat) (x1 : Int64) {r : Int32} (hF : F_X5_wordSort S0 x1 = some (r)) : Met l yX5_wordSort (Cond.code yX5_wordSort cX5_wordSort 4 (some .int) :: TB) rm_X5_wordSort (PC D q [.ref o0, .long x1] (fl [g5 q o0 a0 tp S0]) sz) ((fun A => QI D A r (fl [g5 q o0 a0 tp S0])) (va_A (fl [g5 q o0 a0 tp S0]) sz)) 0 0 (va_A (fl [g5 q o0 a0 tp S0]) sz) := by
  refine k_met (w0 := fl [g5 q o0 a0 tp S0]) (Q := fun A => QI D A r (fl [g5 q o0 a0 tp S0])) (by decide +kernel) (Nat.le_of_ble_eq_true rfl) ?_
  intro p e s m args below meth c A ls C hP hD hS hl
  have hl : lv_has ls 4 [(0, .ref o0), (1, .long x1)] := hl
  unfold F_X5_wordSort at hF
  have C : cx p s m args meth c cX5_wordSort 4 (some .int) RX5 D q A := C
  obtain ⟨hx, hb, hr, hml, hown, hts, hlk, hA, hK, hN, hV⟩ := id C
  refine lv_iconst (v := (0 : Int32)) hx hb dX5_wordSort_0 (by decide) ?_
  refine lv_istore_n (lv' := [(3, .int (0 : Int32)), (0, .ref o0), (1, .long x1)]) hx hb dX5_wordSort_1 rfl hl (by decide) rfl (fun ls hl => ?_)
  exact l_X5_wordSort_2 C hF _ _ _ hP hD hS (lv_sub hl [1, 2, 0] rfl)

abbrev rm_X5_addToken : Room := ({ frames := 0, cells := 0, slots := 0, locals := 0 } : Room)
def F_X5_addToken (S0 : St) (x1 : Int32) (x2 : Int32) (x3 : Int64) : Option (St) := if (901 : Int32) ≤ (S0.1 5) then (some (S0)) else (if oob (S0.1 5) 901 then none else nw (sA S0 2 (S0.1 5) x1) fun U3 => if oob (U3.1 5) 901 then none else nw (sA U3 3 (U3.1 5) x2) fun U6 => if oob (U6.1 5) 901 then none else nw (sJ U6 4 (U6.1 5) x3) fun U9 => nw (sI U9 5 ((U9.1 5) + (1 : Int32))) fun U11 => some (U11))
set_option maxRecDepth 100000 in
set_option maxHeartbeats 4000000 in
theorem c_X5_addToken (l : Launch) (D : va_G) (q : Nat → ClassId) (tp : Nat) (o0 : Nat) (a0 : Nat → Nat) (S0 : St) (sz : Nat) (x1 : Int32) (x2 : Int32) (x3 : Int64) {T0 : St} (hF : F_X5_addToken S0 x1 x2 x3 = some (T0)) : Met l yX5_addToken (Cond.code yX5_addToken cX5_addToken 5 none :: TB) rm_X5_addToken (PC D q [.ref o0, .int x1, .int x2, .long x3] (fl [g5 q o0 a0 tp S0]) sz) ((fun A => QV D A (fl [g5 q o0 a0 tp T0])) (va_A (fl [g5 q o0 a0 tp S0]) sz)) 0 0 (va_A (fl [g5 q o0 a0 tp S0]) sz) := by
  refine k_met (w0 := fl [g5 q o0 a0 tp S0]) (Q := fun A => QV D A (fl [g5 q o0 a0 tp T0])) (by decide +kernel) (Nat.le_of_ble_eq_true rfl) ?_
  intro p e s m args below meth c A ls C hP hD hS hl
  have hl : lv_has ls 5 [(0, .ref o0), (1, .int x1), (2, .int x2), (3, .long x3)] := hl
  unfold F_X5_addToken at hF
  have C : cx p s m args meth c cX5_addToken 5 none RX5 D q A := C
  obtain ⟨hx, hb, hr, hml, hown, hts, hlk, hA, hK, hN, hV⟩ := id C
  refine lv_aload_n hx hb dX5_addToken_0 rfl (lv_at hl 0 rfl) ?_
  refine k_get (v := .int (S0.1 5)) C fg_X5_65 hP 0 rfl rfl dX5_addToken_1 ?_
  refine lv_aload_n hx hb dX5_addToken_4 rfl (lv_at hl 0 rfl) ?_
  refine k_get (v := .ref (a0 3)) C fg_X5_24 hP 0 rfl rfl dX5_addToken_5 ?_
  refine k_len (v := (901 : Int32)) C hP 2 1 rfl rfl (by decide) dX5_addToken_8 ?_
  refine lv_icmp_ge (tgt := 52) hx hb dX5_addToken_9 (by decide) (fun c1 => ?_) (fun c1 => ?_)
  · have hF := op_t hF c1
    cases hF
    exact k_vret C hP hS dX5_addToken_52
  · have hF := op_f hF c1
    refine lv_aload_n hx hb dX5_addToken_12 rfl (lv_at hl 0 rfl) ?_
    refine k_get (v := .ref (a0 3)) C fg_X5_24 hP 0 rfl rfl dX5_addToken_13 ?_
    refine lv_aload_n hx hb dX5_addToken_16 rfl (lv_at hl 0 rfl) ?_
    refine k_get (v := .int (S0.1 5)) C fg_X5_65 hP 0 rfl rfl dX5_addToken_17 ?_
    refine lv_iload_n hx hb dX5_addToken_20 rfl (lv_at hl 1 rfl) ?_
    obtain ⟨h2, hF⟩ := op_ck hF
    obtain ⟨U3, e4, hF⟩ := nw_s hF
    refine k_ist (f := S0.2.2.1 2) (W8 := fl [g5 q o0 a0 tp U3]) C hP hD hS 2 rfl h2 dX5_addToken_21 (by rw [e4]; rfl) (fun H locs hP hD hS => ?_)
    refine lv_aload_n hx hb dX5_addToken_22 rfl (lv_at hl 0 rfl) ?_
    refine k_get (v := .ref (a0 4)) C fg_X5_28 hP 0 rfl rfl dX5_addToken_23 ?_
    refine lv_aload_n hx hb dX5_addToken_26 rfl (lv_at hl 0 rfl) ?_
    refine k_get (v := .int (U3.1 5)) C fg_X5_65 hP 0 rfl rfl dX5_addToken_27 ?_
    refine lv_iload_n hx hb dX5_addToken_30 rfl (lv_at hl 2 rfl) ?_
    obtain ⟨h5, hF⟩ := op_ck hF
    obtain ⟨U6, e7, hF⟩ := nw_s hF
    refine k_ist (f := U3.2.2.1 3) (W8 := fl [g5 q o0 a0 tp U6]) C hP hD hS 3 rfl h5 dX5_addToken_31 (by rw [e7]; rfl) (fun H locs hP hD hS => ?_)
    refine lv_aload_n hx hb dX5_addToken_32 rfl (lv_at hl 0 rfl) ?_
    refine k_get (v := .ref (a0 5)) C fg_X5_31 hP 0 rfl rfl dX5_addToken_33 ?_
    refine lv_aload_n hx hb dX5_addToken_36 rfl (lv_at hl 0 rfl) ?_
    refine k_get (v := .int (U6.1 5)) C fg_X5_65 hP 0 rfl rfl dX5_addToken_37 ?_
    refine lv_lload_n hx hb dX5_addToken_40 rfl (lv_at hl 3 rfl) ?_
    obtain ⟨h8, hF⟩ := op_ck hF
    obtain ⟨U9, e10, hF⟩ := nw_s hF
    refine k_lst (f := U6.2.2.2 4) (W8 := fl [g5 q o0 a0 tp U9]) C hP hD hS 4 rfl h8 dX5_addToken_41 (by rw [e10]; rfl) (fun H locs hP hD hS => ?_)
    refine lv_aload_n hx hb dX5_addToken_42 rfl (lv_at hl 0 rfl) ?_
    refine lv_dup hx hb dX5_addToken_43 rfl ?_
    refine k_get (v := .int (U9.1 5)) C fg_X5_65 hP 0 rfl rfl dX5_addToken_44 ?_
    refine lv_iconst (v := (1 : Int32)) hx hb dX5_addToken_47 (by decide) ?_
    refine lv_iadd hx hb dX5_addToken_48 ?_
    obtain ⟨U11, e12, hF⟩ := nw_s hF
    refine k_put (W8 := fl [g5 q o0 a0 tp U11]) C fp_X5_65 hP hD hS 0 rfl rfl rfl (Nat.le_of_ble_eq_true rfl) dX5_addToken_49 (by rw [e12]; rfl) (fun H locs hP hD hS => ?_)
    cases hF
    exact k_vret C hP hS dX5_addToken_52

abbrev rm_X5_splitRun : Room := ({ frames := 1, cells := 0, slots := 0, locals := 24 } : Room)
def F_X5_splitRun_154 (x1 : Int32) (x7 : Int32) (S0 : St) (S1 : St) : Option (Int32 × St) := ob1 (F_X5_addToken S0 x1 (39 : Int32) (0 : Int64)) fun U2 => some (x7, U2)
def F_X5_splitRun_132 (x1 : Int32) (x2 : Int32) (x5 : Int64) (x7 : Int32) (x8 : Int32) (S0 : St) (S1 : St) : Option (Int32 × St) := if x2 = 0 then (if (3 : Int32) < x8 then (F_X5_splitRun_154 x1 x7 S0 S1) else (ob1 (F_X5_addToken S0 x1 (37 : Int32) x5) fun U4 => some (x7, U4))) else (F_X5_splitRun_154 x1 x7 S0 S1)
def F_X5_splitRun_99 (x1 : Int32) (x2 : Int32) (x3 : Int64) (x5 : Int64) (x7 : Int32) (S0 : St) (S1 : St) : Option (Int32 × St) := if x2 = (x7 - x1) then (if (7 : Int32) < (x7 - x1) then (F_X5_splitRun_132 x1 x2 x5 x7 (x7 - x1) S0 S1) else (ob1 (F_X5_wordSort S0 x3) fun r4 => ob1 (F_X5_addToken S0 x1 r4 x3) fun U6 => some (x7, U6))) else (F_X5_splitRun_132 x1 x2 x5 x7 (x7 - x1) S0 S1)
def F_X5_splitRun_63 (k10 : Int32 × Int32 × Int64 × Int64 × Int32 × St × St → Option (Int32 × St)) (x1 : Int32) (x3 : Int64) (x5 : Int64) (x7 : Int32) (x8 : Int32) (s0 : Int32) (s1 : Int32) (S0 : St) (S1 : St) : Option (Int32 × St) := nw ((x3 * (32 : Int64)) + (x8 - (96 : Int32)).toInt64) fun v1 => nw ((x5 * (10 : Int64)) + (x8 - (48 : Int32)).toInt64) fun v3 => k10 (x1, (s0 + s1), v1, v3, (x7 + 1), S0, S1)
def F_X5_splitRun_10 (k10 : Int32 × Int32 × Int64 × Int64 × Int32 × St × St → Option (Int32 × St)) (x1 : Int32) (x2 : Int32) (x3 : Int64) (x5 : Int64) (x7 : Int32) (S0 : St) (S1 : St) : Option (Int32 × St) := if (S1.1 1) ≤ x7 then (F_X5_splitRun_99 x1 x2 x3 x5 x7 S0 S1) else (if oob x7 940 then none else ob1 (F_X5_isRunSign (S1.2.2.1 0 x7.toNatClampNeg)) fun r4 => if r4 = 0 then (F_X5_splitRun_99 x1 x2 x3 x5 x7 S0 S1) else (if oob x7 940 then none else if (S1.2.2.1 0 x7.toNatClampNeg) < (97 : Int32) then (F_X5_splitRun_63 k10 x1 x3 x5 x7 (S1.2.2.1 0 x7.toNatClampNeg) x2 (0 : Int32) S0 S1) else (F_X5_splitRun_63 k10 x1 x3 x5 x7 (S1.2.2.1 0 x7.toNatClampNeg) x2 (1 : Int32) S0 S1)))
def L_X5_splitRun_10 (x1 : Int32) (x2 : Int32) (x3 : Int64) (x5 : Int64) (x7 : Int32) (S0 : St) (S1 : St) : Option (Int32 × St) := lp (fun kz z => F_X5_splitRun_10 kz z.1 z.2.1 z.2.2.1 z.2.2.2.1 z.2.2.2.2.1 z.2.2.2.2.2.1 z.2.2.2.2.2.2) FU (x1, x2, x3, x5, x7, S0, S1)
def F_X5_splitRun (S0 : St) (S1 : St) (x1 : Int32) : Option (Int32 × St) := L_X5_splitRun_10 x1 (0 : Int32) (0 : Int64) (0 : Int64) x1 S0 S1
set_option maxRecDepth 100000 in
set_option maxHeartbeats 4000000 in
theorem b_X5_splitRun_154 {p : Program} {l : Launch} {e : Env} {s : State} {m : MethodId} {args : Array Value} {below : List Frame} {meth : Method} {c : Code} {D : va_G} {q : Nat → ClassId} {A : Nat → Prop} {tp : Nat} {o0 : Nat} {a0 : Nat → Nat} {a1 : Nat → Nat} {r : Int32} {T0 : St} (C : cx p s m args meth c cX5_splitRun 9 (some .int) RX5 D q A) {x1 : Int32} {x7 : Int32} {S0 : St} {S1 : St} (hF : F_X5_splitRun_154 x1 x7 S0 S1 = some (r, T0)) {H : Heap} {locs : List Loc} (hP : va_P D vwCl (fl [g5 q o0 a0 tp S0, g9 q tp a1 940 S1]) H) (hD : va_D A (fl [g5 q o0 a0 tp S0, g9 q tp a1 940 S1])) (hS : va_S A s.heap H locs) {ls : Array Slot} (hl : lv_has ls 9 [(0, .ref o0), (1, .int x1), (7, .int x7)]) : W p l e rm_X5_splitRun s m args below meth c H locs 0 0 (MQ below (QI D A r (fl [g5 q o0 a0 tp T0, g9 q tp a1 940 S1])) args s 0 0 A) (F0 m 154 ls []) := by
  unfold F_X5_splitRun_154 at hF
  obtain ⟨hx, hb, hr, hml, hown, hts, hlk, hA, hK, hN, hV⟩ := id C
  refine lv_aload_n hx hb dX5_splitRun_154 rfl (lv_at hl 0 rfl) ?_
  refine lv_iload_n hx hb dX5_splitRun_155 rfl (lv_at hl 1 rfl) ?_
  refine lv_bipush (v := (39 : Int32)) hx hb dX5_splitRun_156 (by decide) ?_
  refine lv_lconst (v := (0 : Int64)) hx hb dX5_splitRun_158 (by decide) ?_
  obtain ⟨U2, hc1, hF⟩ := ob1_s hF
  refine k_vgrp (gs8 := [g5 q o0 a0 tp U2, g9 q tp a1 940 S1]) C (k_rV (As := [.int x1, .int (39 : Int32), .long (0 : Int64)]) (rest := []) C (c_X5_addToken l D q tp o0 a0 S0 _ x1 (39 : Int32) (0 : Int64) hc1) kc_X5_addToken ml_X5_72 rfl rfl (by decide) (flP hP [0] rfl) (flD hD [0] (by decide) rfl) hS (va_recv hK hP (ci := 5) (q0 := 0) rfl rfl) rfl hl.1 rfl (Nat.le_of_ble_eq_true rfl) dX5_splitRun_159 (by decide)) hP hD hS [0] [1] [g9 q tp a1 940 S1] 2 (by decide) rfl rfl rfl rfl rfl rfl (by simp only [List.map_cons, List.map_nil, gad5, gad9]) (fun H locs hP hD hS => ?_)
  refine lv_iload hx hb dX5_splitRun_162 (lv_at hl 2 rfl) ?_
  cases hF
  exact k_iret C hP hS dX5_splitRun_164
set_option maxRecDepth 100000 in
set_option maxHeartbeats 4000000 in
theorem b_X5_splitRun_132 {p : Program} {l : Launch} {e : Env} {s : State} {m : MethodId} {args : Array Value} {below : List Frame} {meth : Method} {c : Code} {D : va_G} {q : Nat → ClassId} {A : Nat → Prop} {tp : Nat} {o0 : Nat} {a0 : Nat → Nat} {a1 : Nat → Nat} {r : Int32} {T0 : St} (C : cx p s m args meth c cX5_splitRun 9 (some .int) RX5 D q A) {x1 : Int32} {x2 : Int32} {x5 : Int64} {x7 : Int32} {x8 : Int32} {S0 : St} {S1 : St} (hF : F_X5_splitRun_132 x1 x2 x5 x7 x8 S0 S1 = some (r, T0)) {H : Heap} {locs : List Loc} (hP : va_P D vwCl (fl [g5 q o0 a0 tp S0, g9 q tp a1 940 S1]) H) (hD : va_D A (fl [g5 q o0 a0 tp S0, g9 q tp a1 940 S1])) (hS : va_S A s.heap H locs) {ls : Array Slot} (hl : lv_has ls 9 [(0, .ref o0), (1, .int x1), (2, .int x2), (5, .long x5), (7, .int x7), (8, .int x8)]) : W p l e rm_X5_splitRun s m args below meth c H locs 0 0 (MQ below (QI D A r (fl [g5 q o0 a0 tp T0, g9 q tp a1 940 S1])) args s 0 0 A) (F0 m 132 ls []) := by
  unfold F_X5_splitRun_132 at hF
  obtain ⟨hx, hb, hr, hml, hown, hts, hlk, hA, hK, hN, hV⟩ := id C
  refine lv_iload_n hx hb dX5_splitRun_132 rfl (lv_at hl 2 rfl) ?_
  refine lv_if_ne (tgt := 154) hx hb dX5_splitRun_133 (by decide) (fun c1 => ?_) (fun c1 => ?_)
  · have hF := op_f hF c1
    exact b_X5_splitRun_154 C hF hP hD hS (lv_sub hl [0, 1, 4] rfl)
  · have hF := op_t hF c1
    refine lv_iload hx hb dX5_splitRun_136 (lv_at hl 5 rfl) ?_
    refine lv_iconst (v := (3 : Int32)) hx hb dX5_splitRun_138 (by decide) ?_
    refine lv_icmp_gt (tgt := 154) hx hb dX5_splitRun_139 (by decide) (fun c2 => ?_) (fun c2 => ?_)
    · have hF := op_t hF c2
      exact b_X5_splitRun_154 C hF hP hD hS (lv_sub hl [0, 1, 4] rfl)
    · have hF := op_f hF c2
      refine lv_aload_n hx hb dX5_splitRun_142 rfl (lv_at hl 0 rfl) ?_
      refine lv_iload_n hx hb dX5_splitRun_143 rfl (lv_at hl 1 rfl) ?_
      refine lv_bipush (v := (37 : Int32)) hx hb dX5_splitRun_144 (by decide) ?_
      refine lv_lload hx hb dX5_splitRun_146 (lv_at hl 3 rfl) ?_
      obtain ⟨U4, hc3, hF⟩ := ob1_s hF
      refine k_vgrp (gs8 := [g5 q o0 a0 tp U4, g9 q tp a1 940 S1]) C (k_rV (As := [.int x1, .int (37 : Int32), .long x5]) (rest := []) C (c_X5_addToken l D q tp o0 a0 S0 _ x1 (37 : Int32) x5 hc3) kc_X5_addToken ml_X5_72 rfl rfl (by decide) (flP hP [0] rfl) (flD hD [0] (by decide) rfl) hS (va_recv hK hP (ci := 5) (q0 := 0) rfl rfl) rfl hl.1 rfl (Nat.le_of_ble_eq_true rfl) dX5_splitRun_148 (by decide)) hP hD hS [0] [1] [g9 q tp a1 940 S1] 2 (by decide) rfl rfl rfl rfl rfl rfl (by simp only [List.map_cons, List.map_nil, gad5, gad9]) (fun H locs hP hD hS => ?_)
      refine lv_goto (tgt := 162) hx hb dX5_splitRun_151 (by decide) ?_
      refine lv_iload hx hb dX5_splitRun_162 (lv_at hl 4 rfl) ?_
      cases hF
      exact k_iret C hP hS dX5_splitRun_164
set_option maxRecDepth 100000 in
set_option maxHeartbeats 4000000 in
theorem b_X5_splitRun_99 {p : Program} {l : Launch} {e : Env} {s : State} {m : MethodId} {args : Array Value} {below : List Frame} {meth : Method} {c : Code} {D : va_G} {q : Nat → ClassId} {A : Nat → Prop} {tp : Nat} {o0 : Nat} {a0 : Nat → Nat} {a1 : Nat → Nat} {r : Int32} {T0 : St} (C : cx p s m args meth c cX5_splitRun 9 (some .int) RX5 D q A) {x1 : Int32} {x2 : Int32} {x3 : Int64} {x5 : Int64} {x7 : Int32} {S0 : St} {S1 : St} (hF : F_X5_splitRun_99 x1 x2 x3 x5 x7 S0 S1 = some (r, T0)) {H : Heap} {locs : List Loc} (hP : va_P D vwCl (fl [g5 q o0 a0 tp S0, g9 q tp a1 940 S1]) H) (hD : va_D A (fl [g5 q o0 a0 tp S0, g9 q tp a1 940 S1])) (hS : va_S A s.heap H locs) {ls : Array Slot} (hl : lv_has ls 9 [(0, .ref o0), (1, .int x1), (2, .int x2), (3, .long x3), (5, .long x5), (7, .int x7)]) : W p l e rm_X5_splitRun s m args below meth c H locs 0 0 (MQ below (QI D A r (fl [g5 q o0 a0 tp T0, g9 q tp a1 940 S1])) args s 0 0 A) (F0 m 99 ls []) := by
  unfold F_X5_splitRun_99 at hF
  obtain ⟨hx, hb, hr, hml, hown, hts, hlk, hA, hK, hN, hV⟩ := id C
  refine lv_iload hx hb dX5_splitRun_99 (lv_at hl 5 rfl) ?_
  refine lv_iload_n hx hb dX5_splitRun_101 rfl (lv_at hl 1 rfl) ?_
  refine lv_isub hx hb dX5_splitRun_102 ?_
  refine lv_istore (lv' := [(8, .int (x7 - x1)), (0, .ref o0), (1, .int x1), (2, .int x2), (3, .long x3), (5, .long x5), (7, .int x7)]) hx hb dX5_splitRun_103 hl (by decide) rfl (fun ls hl => ?_)
  refine lv_iload_n hx hb dX5_splitRun_105 rfl (lv_at hl 3 rfl) ?_
  refine lv_iload hx hb dX5_splitRun_106 (lv_at hl 0 rfl) ?_
  refine lv_icmp_ne (tgt := 132) hx hb dX5_splitRun_108 (by decide) (fun c1 => ?_) (fun c1 => ?_)
  · have hF := op_f hF c1
    exact b_X5_splitRun_132 C hF hP hD hS (lv_sub hl [1, 2, 3, 5, 6, 0] rfl)
  · have hF := op_t hF c1
    refine lv_iload hx hb dX5_splitRun_111 (lv_at hl 0 rfl) ?_
    refine lv_bipush (v := (7 : Int32)) hx hb dX5_splitRun_113 (by decide) ?_
    refine lv_icmp_gt (tgt := 132) hx hb dX5_splitRun_115 (by decide) (fun c2 => ?_) (fun c2 => ?_)
    · have hF := op_t hF c2
      exact b_X5_splitRun_132 C hF hP hD hS (lv_sub hl [1, 2, 3, 5, 6, 0] rfl)
    · have hF := op_f hF c2
      refine lv_aload_n hx hb dX5_splitRun_118 rfl (lv_at hl 1 rfl) ?_
      refine lv_iload_n hx hb dX5_splitRun_119 rfl (lv_at hl 2 rfl) ?_
      refine lv_aload_n hx hb dX5_splitRun_120 rfl (lv_at hl 1 rfl) ?_
      refine lv_lload_n hx hb dX5_splitRun_121 rfl (lv_at hl 4 rfl) ?_
      obtain ⟨r4, hc3, hF⟩ := ob1_s hF
      refine k_iro C (k_rV (As := [.long x3]) (rest := [.int x1, .ref o0]) C (c_X5_wordSort l D q tp o0 a0 S0 _ x3 hc3) kc_X5_wordSort ml_X5_104 rfl rfl (by decide) (flP hP [0] rfl) (flD hD [0] (by decide) rfl) hS (va_recv hK hP (ci := 5) (q0 := 0) rfl rfl) rfl hl.1 rfl (Nat.le_of_ble_eq_true rfl) dX5_splitRun_122 (by decide)) hP hD hS [0] [1] [g9 q tp a1 940 S1] 2 (by decide) rfl rfl rfl rfl (fun H locs hP hD hS => ?_)
      refine lv_lload_n hx hb dX5_splitRun_125 rfl (lv_at hl 4 rfl) ?_
      obtain ⟨U6, hc5, hF⟩ := ob1_s hF
      refine k_vgrp (gs8 := [g5 q o0 a0 tp U6, g9 q tp a1 940 S1]) C (k_rV (As := [.int x1, .int r4, .long x3]) (rest := []) C (c_X5_addToken l D q tp o0 a0 S0 _ x1 r4 x3 hc5) kc_X5_addToken ml_X5_72 rfl rfl (by decide) (flP hP [0] rfl) (flD hD [0] (by decide) rfl) hS (va_recv hK hP (ci := 5) (q0 := 0) rfl rfl) rfl hl.1 rfl (Nat.le_of_ble_eq_true rfl) dX5_splitRun_126 (by decide)) hP hD hS [0] [1] [g9 q tp a1 940 S1] 2 (by decide) rfl rfl rfl rfl rfl rfl (by simp only [List.map_cons, List.map_nil, gad5, gad9]) (fun H locs hP hD hS => ?_)
      refine lv_goto (tgt := 162) hx hb dX5_splitRun_129 (by decide) ?_
      refine lv_iload hx hb dX5_splitRun_162 (lv_at hl 6 rfl) ?_
      cases hF
      exact k_iret C hP hS dX5_splitRun_164
set_option maxRecDepth 100000 in
set_option maxHeartbeats 4000000 in
theorem b_X5_splitRun_63 {p : Program} {l : Launch} {e : Env} {s : State} {m : MethodId} {args : Array Value} {below : List Frame} {meth : Method} {c : Code} {D : va_G} {q : Nat → ClassId} {A : Nat → Prop} {tp : Nat} {o0 : Nat} {a0 : Nat → Nat} {a1 : Nat → Nat} {r : Int32} {T0 : St} (C : cx p s m args meth c cX5_splitRun 9 (some .int) RX5 D q A) {k10 : Int32 × Int32 × Int64 × Int64 × Int32 × St × St → Option (Int32 × St)} (hk10 : ∀ (x1 : Int32) (x2 : Int32) (x3 : Int64) (x5 : Int64) (x7 : Int32) (S0 : St) (S1 : St), k10 (x1, x2, x3, x5, x7, S0, S1) = some (r, T0) → ∀ (H : Heap) (locs : List Loc) (ls : Array Slot), va_P D vwCl (fl [g5 q o0 a0 tp S0, g9 q tp a1 940 S1]) H → va_D A (fl [g5 q o0 a0 tp S0, g9 q tp a1 940 S1]) → va_S A s.heap H locs → lv_has ls 9 [(0, .ref o0), (1, .int x1), (2, .int x2), (3, .long x3), (5, .long x5), (7, .int x7)] → W p l e rm_X5_splitRun s m args below meth c H locs 0 0 (MQ below (QI D A r (fl [g5 q o0 a0 tp T0, g9 q tp a1 940 S1])) args s 0 0 A) (F0 m 10 ls [])) {x1 : Int32} {x3 : Int64} {x5 : Int64} {x7 : Int32} {x8 : Int32} {s0 : Int32} {s1 : Int32} {S0 : St} {S1 : St} (hF : F_X5_splitRun_63 k10 x1 x3 x5 x7 x8 s0 s1 S0 S1 = some (r, T0)) {H : Heap} {locs : List Loc} (hP : va_P D vwCl (fl [g5 q o0 a0 tp S0, g9 q tp a1 940 S1]) H) (hD : va_D A (fl [g5 q o0 a0 tp S0, g9 q tp a1 940 S1])) (hS : va_S A s.heap H locs) {ls : Array Slot} (hl : lv_has ls 9 [(0, .ref o0), (1, .int x1), (3, .long x3), (5, .long x5), (7, .int x7), (8, .int x8)]) : W p l e rm_X5_splitRun s m args below meth c H locs 0 0 (MQ below (QI D A r (fl [g5 q o0 a0 tp T0, g9 q tp a1 940 S1])) args s 0 0 A) (F0 m 63 ls [.int s1, .int s0]) := by
  unfold F_X5_splitRun_63 at hF
  obtain ⟨hx, hb, hr, hml, hown, hts, hlk, hA, hK, hN, hV⟩ := id C
  refine lv_iadd hx hb dX5_splitRun_63 ?_
  refine lv_istore_n (lv' := [(2, .int (s0 + s1)), (0, .ref o0), (1, .int x1), (3, .long x3), (5, .long x5), (7, .int x7), (8, .int x8)]) hx hb dX5_splitRun_64 rfl hl (by decide) rfl (fun ls hl => ?_)
  refine lv_lload_n hx hb dX5_splitRun_65 rfl (lv_at hl 3 rfl) ?_
  refine lv_ldc2 (v := (32 : Int64)) hx hb hown (hts _ kL_X5_54) dX5_splitRun_66 ?_
  refine lv_lmul hx hb dX5_splitRun_69 ?_
  refine lv_iload hx hb dX5_splitRun_70 (lv_at hl 6 rfl) ?_
  refine lv_bipush (v := (96 : Int32)) hx hb dX5_splitRun_72 (by decide) ?_
  refine lv_isub hx hb dX5_splitRun_74 ?_
  refine lv_i2l (v := (x8 - (96 : Int32)).toInt64) hx hb dX5_splitRun_75 rfl ?_
  refine lv_ladd hx hb dX5_splitRun_76 ?_
  obtain ⟨v1, e2, hF⟩ := nw_s hF
  refine k_rnl e2 ?_
  refine lv_lstore_n (lv' := [(3, .long v1), (2, .int (s0 + s1)), (0, .ref o0), (1, .int x1), (5, .long x5), (7, .int x7), (8, .int x8)]) hx hb dX5_splitRun_77 rfl hl (by decide) rfl (fun ls hl => ?_)
  refine lv_lload hx hb dX5_splitRun_78 (lv_at hl 4 rfl) ?_
  refine lv_ldc2 (v := (10 : Int64)) hx hb hown (hts _ kL_X5_102) dX5_splitRun_80 ?_
  refine lv_lmul hx hb dX5_splitRun_83 ?_
  refine lv_iload hx hb dX5_splitRun_84 (lv_at hl 6 rfl) ?_
  refine lv_bipush (v := (48 : Int32)) hx hb dX5_splitRun_86 (by decide) ?_
  refine lv_isub hx hb dX5_splitRun_88 ?_
  refine lv_i2l (v := (x8 - (48 : Int32)).toInt64) hx hb dX5_splitRun_89 rfl ?_
  refine lv_ladd hx hb dX5_splitRun_90 ?_
  obtain ⟨v3, e4, hF⟩ := nw_s hF
  refine k_rnl e4 ?_
  refine lv_lstore (lv' := [(5, .long v3), (3, .long v1), (2, .int (s0 + s1)), (0, .ref o0), (1, .int x1), (7, .int x7), (8, .int x8)]) hx hb dX5_splitRun_91 hl (by decide) rfl (fun ls hl => ?_)
  refine lv_iinc (v := (x7 + 1)) (lv' := [(7, .int (x7 + 1)), (5, .long v3), (3, .long v1), (2, .int (s0 + s1)), (0, .ref o0), (1, .int x1), (8, .int x8)]) hx hb dX5_splitRun_93 hl (k := 5) rfl rfl (by decide) rfl (fun ls hl => ?_)
  refine lv_goto (tgt := 10) hx hb dX5_splitRun_96 (by decide) ?_
  exact hk10 x1 (s0 + s1) v1 v3 (x7 + 1) S0 S1 hF _ _ _ hP hD hS (lv_sub hl [4, 5, 3, 2, 1, 0] rfl)
set_option maxRecDepth 100000 in
set_option maxHeartbeats 4000000 in
theorem b_X5_splitRun_10 {p : Program} {l : Launch} {e : Env} {s : State} {m : MethodId} {args : Array Value} {below : List Frame} {meth : Method} {c : Code} {D : va_G} {q : Nat → ClassId} {A : Nat → Prop} {tp : Nat} {o0 : Nat} {a0 : Nat → Nat} {a1 : Nat → Nat} {r : Int32} {T0 : St} (C : cx p s m args meth c cX5_splitRun 9 (some .int) RX5 D q A) {k10 : Int32 × Int32 × Int64 × Int64 × Int32 × St × St → Option (Int32 × St)} (hk10 : ∀ (x1 : Int32) (x2 : Int32) (x3 : Int64) (x5 : Int64) (x7 : Int32) (S0 : St) (S1 : St), k10 (x1, x2, x3, x5, x7, S0, S1) = some (r, T0) → ∀ (H : Heap) (locs : List Loc) (ls : Array Slot), va_P D vwCl (fl [g5 q o0 a0 tp S0, g9 q tp a1 940 S1]) H → va_D A (fl [g5 q o0 a0 tp S0, g9 q tp a1 940 S1]) → va_S A s.heap H locs → lv_has ls 9 [(0, .ref o0), (1, .int x1), (2, .int x2), (3, .long x3), (5, .long x5), (7, .int x7)] → W p l e rm_X5_splitRun s m args below meth c H locs 0 0 (MQ below (QI D A r (fl [g5 q o0 a0 tp T0, g9 q tp a1 940 S1])) args s 0 0 A) (F0 m 10 ls [])) {x1 : Int32} {x2 : Int32} {x3 : Int64} {x5 : Int64} {x7 : Int32} {S0 : St} {S1 : St} (hF : F_X5_splitRun_10 k10 x1 x2 x3 x5 x7 S0 S1 = some (r, T0)) {H : Heap} {locs : List Loc} (hP : va_P D vwCl (fl [g5 q o0 a0 tp S0, g9 q tp a1 940 S1]) H) (hD : va_D A (fl [g5 q o0 a0 tp S0, g9 q tp a1 940 S1])) (hS : va_S A s.heap H locs) {ls : Array Slot} (hl : lv_has ls 9 [(0, .ref o0), (1, .int x1), (2, .int x2), (3, .long x3), (5, .long x5), (7, .int x7)]) : W p l e rm_X5_splitRun s m args below meth c H locs 0 0 (MQ below (QI D A r (fl [g5 q o0 a0 tp T0, g9 q tp a1 940 S1])) args s 0 0 A) (F0 m 10 ls []) := by
  unfold F_X5_splitRun_10 at hF
  obtain ⟨hx, hb, hr, hml, hown, hts, hlk, hA, hK, hN, hV⟩ := id C
  refine lv_iload hx hb dX5_splitRun_10 (lv_at hl 5 rfl) ?_
  refine lv_aload_n hx hb dX5_splitRun_12 rfl (lv_at hl 0 rfl) ?_
  refine k_get (v := .ref tp) C fg_X5_14 hP 0 rfl rfl dX5_splitRun_13 ?_
  refine k_get (v := .int (S1.1 1)) C fg_X5_56 hP 5 rfl rfl dX5_splitRun_16 ?_
  refine lv_icmp_ge (tgt := 99) hx hb dX5_splitRun_19 (by decide) (fun c1 => ?_) (fun c1 => ?_)
  · have hF := op_t hF c1
    exact b_X5_splitRun_99 C hF hP hD hS (lv_sub hl [0, 1, 2, 3, 4, 5] rfl)
  · have hF := op_f hF c1
    refine lv_aload_n hx hb dX5_splitRun_22 rfl (lv_at hl 0 rfl) ?_
    refine k_get (v := .ref tp) C fg_X5_14 hP 0 rfl rfl dX5_splitRun_23 ?_
    refine k_get (v := .ref (a1 1)) C fg_X5_89 hP 5 rfl rfl dX5_splitRun_26 ?_
    refine lv_iload hx hb dX5_splitRun_29 (lv_at hl 5 rfl) ?_
    obtain ⟨h2, hF⟩ := op_ck hF
    refine k_ild (f := S1.2.2.1 0) C hP 6 rfl h2 dX5_splitRun_31 ?_
    obtain ⟨r4, hc3, hF⟩ := ob1_s hF
    refine k_inil C (k_rS (As := [.int (S1.2.2.1 0 x7.toNatClampNeg)]) (rest := []) C (c_X5_isRunSign l D q _ (S1.2.2.1 0 x7.toNatClampNeg) hc3) kc_X5_isRunSign ml_X5_92 rfl rfl (by decide) (fun k x h => by simp at h) (⟨fun i j x y h => by simp at h, fun k x h => by simp at h⟩ : va_D A []) hS rfl hl.1 rfl (Nat.le_of_ble_eq_true rfl) dX5_splitRun_32 (by decide)) hP hD hS (fun H locs hP hD hS => ?_)
    refine lv_if_eq (tgt := 99) hx hb dX5_splitRun_35 (by decide) (fun c5 => ?_) (fun c5 => ?_)
    · have hF := op_t hF c5
      exact b_X5_splitRun_99 C hF hP hD hS (lv_sub hl [0, 1, 2, 3, 4, 5] rfl)
    · have hF := op_f hF c5
      refine lv_aload_n hx hb dX5_splitRun_38 rfl (lv_at hl 0 rfl) ?_
      refine k_get (v := .ref tp) C fg_X5_14 hP 0 rfl rfl dX5_splitRun_39 ?_
      refine k_get (v := .ref (a1 1)) C fg_X5_89 hP 5 rfl rfl dX5_splitRun_42 ?_
      refine lv_iload hx hb dX5_splitRun_45 (lv_at hl 5 rfl) ?_
      obtain ⟨h6, hF⟩ := op_ck hF
      refine k_ild (f := S1.2.2.1 0) C hP 6 rfl h6 dX5_splitRun_47 ?_
      refine lv_istore (lv' := [(8, .int (S1.2.2.1 0 x7.toNatClampNeg)), (0, .ref o0), (1, .int x1), (2, .int x2), (3, .long x3), (5, .long x5), (7, .int x7)]) hx hb dX5_splitRun_48 hl (by decide) rfl (fun ls hl => ?_)
      refine lv_iload_n hx hb dX5_splitRun_50 rfl (lv_at hl 3 rfl) ?_
      refine lv_iload hx hb dX5_splitRun_51 (lv_at hl 0 rfl) ?_
      refine lv_bipush (v := (97 : Int32)) hx hb dX5_splitRun_53 (by decide) ?_
      refine lv_icmp_lt (tgt := 62) hx hb dX5_splitRun_55 (by decide) (fun c7 => ?_) (fun c7 => ?_)
      · have hF := op_t hF c7
        refine lv_iconst (v := (0 : Int32)) hx hb dX5_splitRun_62 (by decide) ?_
        exact b_X5_splitRun_63 C hk10 hF hP hD hS (lv_sub hl [1, 2, 4, 5, 6, 0] rfl)
      · have hF := op_f hF c7
        refine lv_iconst (v := (1 : Int32)) hx hb dX5_splitRun_58 (by decide) ?_
        refine lv_goto (tgt := 63) hx hb dX5_splitRun_59 (by decide) ?_
        exact b_X5_splitRun_63 C hk10 hF hP hD hS (lv_sub hl [1, 2, 4, 5, 6, 0] rfl)
set_option maxRecDepth 100000 in
set_option maxHeartbeats 4000000 in
theorem l_X5_splitRun_10 {p : Program} {l : Launch} {e : Env} {s : State} {m : MethodId} {args : Array Value} {below : List Frame} {meth : Method} {c : Code} {D : va_G} {q : Nat → ClassId} {A : Nat → Prop} {tp : Nat} {o0 : Nat} {a0 : Nat → Nat} {a1 : Nat → Nat} {r : Int32} {T0 : St} (C : cx p s m args meth c cX5_splitRun 9 (some .int) RX5 D q A) {x1 : Int32} {x2 : Int32} {x3 : Int64} {x5 : Int64} {x7 : Int32} {S0 : St} {S1 : St} (hF : L_X5_splitRun_10 x1 x2 x3 x5 x7 S0 S1 = some (r, T0)) : ∀ (H : Heap) (locs : List Loc) (ls : Array Slot), va_P D vwCl (fl [g5 q o0 a0 tp S0, g9 q tp a1 940 S1]) H → va_D A (fl [g5 q o0 a0 tp S0, g9 q tp a1 940 S1]) → va_S A s.heap H locs → lv_has ls 9 [(0, .ref o0), (1, .int x1), (2, .int x2), (3, .long x3), (5, .long x5), (7, .int x7)] → W p l e rm_X5_splitRun s m args below meth c H locs 0 0 (MQ below (QI D A r (fl [g5 q o0 a0 tp T0, g9 q tp a1 940 S1])) args s 0 0 A) (F0 m 10 ls []) :=
  lp_G _ _ (fun z => ∀ (H : Heap) (locs : List Loc) (ls : Array Slot), va_P D vwCl (fl [g5 q o0 a0 tp z.2.2.2.2.2.1, g9 q tp a1 940 z.2.2.2.2.2.2]) H → va_D A (fl [g5 q o0 a0 tp z.2.2.2.2.2.1, g9 q tp a1 940 z.2.2.2.2.2.2]) → va_S A s.heap H locs → lv_has ls 9 [(0, .ref o0), (1, .int z.1), (2, .int z.2.1), (3, .long z.2.2.1), (5, .long z.2.2.2.1), (7, .int z.2.2.2.2.1)] → W p l e rm_X5_splitRun s m args below meth c H locs 0 0 (MQ below (QI D A r (fl [g5 q o0 a0 tp T0, g9 q tp a1 940 z.2.2.2.2.2.2])) args s 0 0 A) (F0 m 10 ls [])) (fun kz hkz z hz H locs ls hP hD hS hl => b_X5_splitRun_10 C (fun x1 x2 x3 x5 x7 S0 S1 hz => hkz (x1, x2, x3, x5, x7, S0, S1) hz) hz hP hD hS hl) FU (x1, x2, x3, x5, x7, S0, S1) hF
set_option maxRecDepth 100000 in
set_option maxHeartbeats 4000000 in
theorem c_X5_splitRun (l : Launch) (D : va_G) (q : Nat → ClassId) (tp : Nat) (o0 : Nat) (a0 : Nat → Nat) (S0 : St) (a1 : Nat → Nat) (S1 : St) (sz : Nat) (x1 : Int32) {r : Int32} {T0 : St} (hF : F_X5_splitRun S0 S1 x1 = some (r, T0)) : Met l yX5_splitRun (Cond.code yX5_splitRun cX5_splitRun 9 (some .int) :: TB) rm_X5_splitRun (PC D q [.ref o0, .int x1] (fl [g5 q o0 a0 tp S0, g9 q tp a1 940 S1]) sz) ((fun A => QI D A r (fl [g5 q o0 a0 tp T0, g9 q tp a1 940 S1])) (va_A (fl [g5 q o0 a0 tp S0, g9 q tp a1 940 S1]) sz)) 0 0 (va_A (fl [g5 q o0 a0 tp S0, g9 q tp a1 940 S1]) sz) := by
  refine k_met (w0 := fl [g5 q o0 a0 tp S0, g9 q tp a1 940 S1]) (Q := fun A => QI D A r (fl [g5 q o0 a0 tp T0, g9 q tp a1 940 S1])) (by decide +kernel) (Nat.le_of_ble_eq_true rfl) ?_
  intro p e s m args below meth c A ls C hP hD hS hl
  have hl : lv_has ls 9 [(0, .ref o0), (1, .int x1)] := hl
  unfold F_X5_splitRun at hF
  have C : cx p s m args meth c cX5_splitRun 9 (some .int) RX5 D q A := C
  obtain ⟨hx, hb, hr, hml, hown, hts, hlk, hA, hK, hN, hV⟩ := id C
  refine lv_iconst (v := (0 : Int32)) hx hb dX5_splitRun_0 (by decide) ?_
  refine lv_istore_n (lv' := [(2, .int (0 : Int32)), (0, .ref o0), (1, .int x1)]) hx hb dX5_splitRun_1 rfl hl (by decide) rfl (fun ls hl => ?_)
  refine lv_lconst (v := (0 : Int64)) hx hb dX5_splitRun_2 (by decide) ?_
  refine lv_lstore_n (lv' := [(3, .long (0 : Int64)), (2, .int (0 : Int32)), (0, .ref o0), (1, .int x1)]) hx hb dX5_splitRun_3 rfl hl (by decide) rfl (fun ls hl => ?_)
  refine lv_lconst (v := (0 : Int64)) hx hb dX5_splitRun_4 (by decide) ?_
  refine lv_lstore (lv' := [(5, .long (0 : Int64)), (3, .long (0 : Int64)), (2, .int (0 : Int32)), (0, .ref o0), (1, .int x1)]) hx hb dX5_splitRun_5 hl (by decide) rfl (fun ls hl => ?_)
  refine lv_iload_n hx hb dX5_splitRun_7 rfl (lv_at hl 4 rfl) ?_
  refine lv_istore (lv' := [(7, .int x1), (5, .long (0 : Int64)), (3, .long (0 : Int64)), (2, .int (0 : Int32)), (0, .ref o0), (1, .int x1)]) hx hb dX5_splitRun_8 hl (by decide) rfl (fun ls hl => ?_)
  exact l_X5_splitRun_10 C hF _ _ _ hP hD hS (lv_sub hl [4, 5, 3, 2, 1, 0] rfl)

abbrev rm_X5_isMarkSign : Room := ({ frames := 0, cells := 0, slots := 0, locals := 0 } : Room)
def F_X5_isMarkSign_36 : Option (Int32) := some ((1 : Int32))
def F_X5_isMarkSign (x0 : Int32) : Option (Int32) := if x0 = (59 : Int32) then (F_X5_isMarkSign_36 ) else (if x0 = (60 : Int32) then (F_X5_isMarkSign_36 ) else (if x0 = (61 : Int32) then (F_X5_isMarkSign_36 ) else (if x0 = (62 : Int32) then (F_X5_isMarkSign_36 ) else (if x0 = (40 : Int32) then (F_X5_isMarkSign_36 ) else (if x0 = (41 : Int32) then (F_X5_isMarkSign_36 ) else (some ((0 : Int32))))))))
set_option maxRecDepth 100000 in
set_option maxHeartbeats 4000000 in
theorem b_X5_isMarkSign_36 {p : Program} {l : Launch} {e : Env} {s : State} {m : MethodId} {args : Array Value} {below : List Frame} {meth : Method} {c : Code} {D : va_G} {q : Nat → ClassId} {A : Nat → Prop} {r : Int32} (C : cx p s m args meth c cX5_isMarkSign 1 (some .boolean) RX5 D q A) (hF : F_X5_isMarkSign_36 = some (r)) {H : Heap} {locs : List Loc} (hP : va_P D vwCl ([]) H) (hD : va_D A ([])) (hS : va_S A s.heap H locs) {ls : Array Slot} (hl : lv_has ls 1 []) : W p l e rm_X5_isMarkSign s m args below meth c H locs 0 0 (MQ below (QI D A r ([])) args s 0 0 A) (F0 m 36 ls []) := by
  unfold F_X5_isMarkSign_36 at hF
  obtain ⟨hx, hb, hr, hml, hown, hts, hlk, hA, hK, hN, hV⟩ := id C
  refine lv_iconst (v := (1 : Int32)) hx hb dX5_isMarkSign_36 (by decide) ?_
  refine lv_goto (tgt := 41) hx hb dX5_isMarkSign_37 (by decide) ?_
  cases hF
  exact k_zret C (by decide) hP hS dX5_isMarkSign_41
set_option maxRecDepth 100000 in
set_option maxHeartbeats 4000000 in
theorem c_X5_isMarkSign (l : Launch) (D : va_G) (q : Nat → ClassId) (sz : Nat) (x0 : Int32) {r : Int32} (hF : F_X5_isMarkSign x0 = some (r)) : Met l yX5_isMarkSign (Cond.code yX5_isMarkSign cX5_isMarkSign 1 (some .boolean) :: TB) rm_X5_isMarkSign (PC D q [.int x0] ([]) sz) ((fun A => QI D A r ([])) (va_A ([]) sz)) 0 0 (va_A ([]) sz) := by
  refine k_met (w0 := []) (Q := fun A => QI D A r ([])) (by decide +kernel) (Nat.le_of_ble_eq_true rfl) ?_
  intro p e s m args below meth c A ls C hP hD hS hl
  have hl : lv_has ls 1 [(0, .int x0)] := hl
  unfold F_X5_isMarkSign at hF
  have C : cx p s m args meth c cX5_isMarkSign 1 (some .boolean) RX5 D q A := C
  obtain ⟨hx, hb, hr, hml, hown, hts, hlk, hA, hK, hN, hV⟩ := id C
  refine lv_iload_n hx hb dX5_isMarkSign_0 rfl (lv_at hl 0 rfl) ?_
  refine lv_bipush (v := (59 : Int32)) hx hb dX5_isMarkSign_1 (by decide) ?_
  refine lv_icmp_eq (tgt := 36) hx hb dX5_isMarkSign_3 (by decide) (fun c1 => ?_) (fun c1 => ?_)
  · have hF := op_t hF c1
    exact b_X5_isMarkSign_36 C hF hP hD hS (lv_sub hl [] rfl)
  · have hF := op_f hF c1
    refine lv_iload_n hx hb dX5_isMarkSign_6 rfl (lv_at hl 0 rfl) ?_
    refine lv_bipush (v := (60 : Int32)) hx hb dX5_isMarkSign_7 (by decide) ?_
    refine lv_icmp_eq (tgt := 36) hx hb dX5_isMarkSign_9 (by decide) (fun c2 => ?_) (fun c2 => ?_)
    · have hF := op_t hF c2
      exact b_X5_isMarkSign_36 C hF hP hD hS (lv_sub hl [] rfl)
    · have hF := op_f hF c2
      refine lv_iload_n hx hb dX5_isMarkSign_12 rfl (lv_at hl 0 rfl) ?_
      refine lv_bipush (v := (61 : Int32)) hx hb dX5_isMarkSign_13 (by decide) ?_
      refine lv_icmp_eq (tgt := 36) hx hb dX5_isMarkSign_15 (by decide) (fun c3 => ?_) (fun c3 => ?_)
      · have hF := op_t hF c3
        exact b_X5_isMarkSign_36 C hF hP hD hS (lv_sub hl [] rfl)
      · have hF := op_f hF c3
        refine lv_iload_n hx hb dX5_isMarkSign_18 rfl (lv_at hl 0 rfl) ?_
        refine lv_bipush (v := (62 : Int32)) hx hb dX5_isMarkSign_19 (by decide) ?_
        refine lv_icmp_eq (tgt := 36) hx hb dX5_isMarkSign_21 (by decide) (fun c4 => ?_) (fun c4 => ?_)
        · have hF := op_t hF c4
          exact b_X5_isMarkSign_36 C hF hP hD hS (lv_sub hl [] rfl)
        · have hF := op_f hF c4
          refine lv_iload_n hx hb dX5_isMarkSign_24 rfl (lv_at hl 0 rfl) ?_
          refine lv_bipush (v := (40 : Int32)) hx hb dX5_isMarkSign_25 (by decide) ?_
          refine lv_icmp_eq (tgt := 36) hx hb dX5_isMarkSign_27 (by decide) (fun c5 => ?_) (fun c5 => ?_)
          · have hF := op_t hF c5
            exact b_X5_isMarkSign_36 C hF hP hD hS (lv_sub hl [] rfl)
          · have hF := op_f hF c5
            refine lv_iload_n hx hb dX5_isMarkSign_30 rfl (lv_at hl 0 rfl) ?_
            refine lv_bipush (v := (41 : Int32)) hx hb dX5_isMarkSign_31 (by decide) ?_
            refine lv_icmp_ne (tgt := 40) hx hb dX5_isMarkSign_33 (by decide) (fun c6 => ?_) (fun c6 => ?_)
            · have hF := op_f hF c6
              refine lv_iconst (v := (0 : Int32)) hx hb dX5_isMarkSign_40 (by decide) ?_
              cases hF
              exact k_zret C (by decide) hP hS dX5_isMarkSign_41
            · have hF := op_t hF c6
              exact b_X5_isMarkSign_36 C hF hP hD hS (lv_sub hl [] rfl)

abbrev rm_X5_splitAt : Room := ({ frames := 2, cells := 0, slots := 0, locals := 52 } : Room)
def F_X5_splitAt_51 (x1 : Int32) (x2 : Int32) (s1 : Int32) (s2 : Int32) (S0 : St) (S1 : St) : Option (Int32 × St) := ob1 (F_X5_addToken S0 s1 s2 x2.toInt64) fun U2 => some ((x1 + (1 : Int32)), U2)
def F_X5_splitAt (S0 : St) (S1 : St) (x1 : Int32) : Option (Int32 × St) := if oob x1 940 then none else ob1 (F_X5_isRunSign (S1.2.2.1 0 x1.toNatClampNeg)) fun r3 => if r3 = 0 then (if (S1.2.2.1 0 x1.toNatClampNeg) = (32 : Int32) then (some ((x1 + (1 : Int32)), S0)) else (if (S1.2.2.1 0 x1.toNatClampNeg) = (10 : Int32) then (some ((x1 + (1 : Int32)), S0)) else (ob1 (F_X5_isMarkSign (S1.2.2.1 0 x1.toNatClampNeg)) fun r8 => if r8 = 0 then (F_X5_splitAt_51 x1 (S1.2.2.1 0 x1.toNatClampNeg) x1 (39 : Int32) S0 S1) else (F_X5_splitAt_51 x1 (S1.2.2.1 0 x1.toNatClampNeg) x1 (38 : Int32) S0 S1)))) else (ob2 (F_X5_splitRun S0 S1 x1) fun r11 U12 => some (r11, U12))
set_option maxRecDepth 100000 in
set_option maxHeartbeats 4000000 in
theorem b_X5_splitAt_51 {p : Program} {l : Launch} {e : Env} {s : State} {m : MethodId} {args : Array Value} {below : List Frame} {meth : Method} {c : Code} {D : va_G} {q : Nat → ClassId} {A : Nat → Prop} {tp : Nat} {o0 : Nat} {a0 : Nat → Nat} {a1 : Nat → Nat} {r : Int32} {T0 : St} (C : cx p s m args meth c cX5_splitAt 3 (some .int) RX5 D q A) {x1 : Int32} {x2 : Int32} {s1 : Int32} {s2 : Int32} {S0 : St} {S1 : St} (hF : F_X5_splitAt_51 x1 x2 s1 s2 S0 S1 = some (r, T0)) {H : Heap} {locs : List Loc} (hP : va_P D vwCl (fl [g5 q o0 a0 tp S0, g9 q tp a1 940 S1]) H) (hD : va_D A (fl [g5 q o0 a0 tp S0, g9 q tp a1 940 S1])) (hS : va_S A s.heap H locs) {ls : Array Slot} (hl : lv_has ls 3 [(1, .int x1), (2, .int x2)]) : W p l e rm_X5_splitAt s m args below meth c H locs 0 0 (MQ below (QI D A r (fl [g5 q o0 a0 tp T0, g9 q tp a1 940 S1])) args s 0 0 A) (F0 m 51 ls [.int s2, .int s1, .ref o0]) := by
  unfold F_X5_splitAt_51 at hF
  obtain ⟨hx, hb, hr, hml, hown, hts, hlk, hA, hK, hN, hV⟩ := id C
  refine lv_iload_n hx hb dX5_splitAt_51 rfl (lv_at hl 1 rfl) ?_
  refine lv_i2l (v := x2.toInt64) hx hb dX5_splitAt_52 rfl ?_
  obtain ⟨U2, hc1, hF⟩ := ob1_s hF
  refine k_vgrp (gs8 := [g5 q o0 a0 tp U2, g9 q tp a1 940 S1]) C (k_rV (As := [.int s1, .int s2, .long x2.toInt64]) (rest := []) C (c_X5_addToken l D q tp o0 a0 S0 _ s1 s2 x2.toInt64 hc1) kc_X5_addToken ml_X5_72 rfl rfl (by decide) (flP hP [0] rfl) (flD hD [0] (by decide) rfl) hS (va_recv hK hP (ci := 5) (q0 := 0) rfl rfl) rfl hl.1 rfl (Nat.le_of_ble_eq_true rfl) dX5_splitAt_53 (by decide)) hP hD hS [0] [1] [g9 q tp a1 940 S1] 2 (by decide) rfl rfl rfl rfl rfl rfl (by simp only [List.map_cons, List.map_nil, gad5, gad9]) (fun H locs hP hD hS => ?_)
  refine lv_iload_n hx hb dX5_splitAt_56 rfl (lv_at hl 0 rfl) ?_
  refine lv_iconst (v := (1 : Int32)) hx hb dX5_splitAt_57 (by decide) ?_
  refine lv_iadd hx hb dX5_splitAt_58 ?_
  cases hF
  exact k_iret C hP hS dX5_splitAt_59
set_option maxRecDepth 100000 in
set_option maxHeartbeats 4000000 in
theorem c_X5_splitAt (l : Launch) (D : va_G) (q : Nat → ClassId) (tp : Nat) (o0 : Nat) (a0 : Nat → Nat) (S0 : St) (a1 : Nat → Nat) (S1 : St) (sz : Nat) (x1 : Int32) {r : Int32} {T0 : St} (hF : F_X5_splitAt S0 S1 x1 = some (r, T0)) : Met l yX5_splitAt (Cond.code yX5_splitAt cX5_splitAt 3 (some .int) :: TB) rm_X5_splitAt (PC D q [.ref o0, .int x1] (fl [g5 q o0 a0 tp S0, g9 q tp a1 940 S1]) sz) ((fun A => QI D A r (fl [g5 q o0 a0 tp T0, g9 q tp a1 940 S1])) (va_A (fl [g5 q o0 a0 tp S0, g9 q tp a1 940 S1]) sz)) 0 0 (va_A (fl [g5 q o0 a0 tp S0, g9 q tp a1 940 S1]) sz) := by
  refine k_met (w0 := fl [g5 q o0 a0 tp S0, g9 q tp a1 940 S1]) (Q := fun A => QI D A r (fl [g5 q o0 a0 tp T0, g9 q tp a1 940 S1])) (by decide +kernel) (Nat.le_of_ble_eq_true rfl) ?_
  intro p e s m args below meth c A ls C hP hD hS hl
  have hl : lv_has ls 3 [(0, .ref o0), (1, .int x1)] := hl
  unfold F_X5_splitAt at hF
  have C : cx p s m args meth c cX5_splitAt 3 (some .int) RX5 D q A := C
  obtain ⟨hx, hb, hr, hml, hown, hts, hlk, hA, hK, hN, hV⟩ := id C
  refine lv_aload_n hx hb dX5_splitAt_0 rfl (lv_at hl 0 rfl) ?_
  refine k_get (v := .ref tp) C fg_X5_14 hP 0 rfl rfl dX5_splitAt_1 ?_
  refine k_get (v := .ref (a1 1)) C fg_X5_89 hP 5 rfl rfl dX5_splitAt_4 ?_
  refine lv_iload_n hx hb dX5_splitAt_7 rfl (lv_at hl 1 rfl) ?_
  obtain ⟨h1, hF⟩ := op_ck hF
  refine k_ild (f := S1.2.2.1 0) C hP 6 rfl h1 dX5_splitAt_8 ?_
  refine lv_istore_n (lv' := [(2, .int (S1.2.2.1 0 x1.toNatClampNeg)), (0, .ref o0), (1, .int x1)]) hx hb dX5_splitAt_9 rfl hl (by decide) rfl (fun ls hl => ?_)
  refine lv_iload_n hx hb dX5_splitAt_10 rfl (lv_at hl 0 rfl) ?_
  obtain ⟨r3, hc2, hF⟩ := ob1_s hF
  refine k_inil C (k_rS (As := [.int (S1.2.2.1 0 x1.toNatClampNeg)]) (rest := []) C (c_X5_isRunSign l D q _ (S1.2.2.1 0 x1.toNatClampNeg) hc2) kc_X5_isRunSign ml_X5_92 rfl rfl (by decide) (fun k x h => by simp at h) (⟨fun i j x y h => by simp at h, fun k x h => by simp at h⟩ : va_D A []) hS rfl hl.1 rfl (Nat.le_of_ble_eq_true rfl) dX5_splitAt_11 (by decide)) hP hD hS (fun H locs hP hD hS => ?_)
  refine lv_if_eq (tgt := 23) hx hb dX5_splitAt_14 (by decide) (fun c4 => ?_) (fun c4 => ?_)
  · have hF := op_t hF c4
    refine lv_iload_n hx hb dX5_splitAt_23 rfl (lv_at hl 0 rfl) ?_
    refine lv_bipush (v := (32 : Int32)) hx hb dX5_splitAt_24 (by decide) ?_
    refine lv_icmp_eq (tgt := 56) hx hb dX5_splitAt_26 (by decide) (fun c5 => ?_) (fun c5 => ?_)
    · have hF := op_t hF c5
      refine lv_iload_n hx hb dX5_splitAt_56 rfl (lv_at hl 2 rfl) ?_
      refine lv_iconst (v := (1 : Int32)) hx hb dX5_splitAt_57 (by decide) ?_
      refine lv_iadd hx hb dX5_splitAt_58 ?_
      cases hF
      exact k_iret C hP hS dX5_splitAt_59
    · have hF := op_f hF c5
      refine lv_iload_n hx hb dX5_splitAt_29 rfl (lv_at hl 0 rfl) ?_
      refine lv_bipush (v := (10 : Int32)) hx hb dX5_splitAt_30 (by decide) ?_
      refine lv_icmp_eq (tgt := 56) hx hb dX5_splitAt_32 (by decide) (fun c6 => ?_) (fun c6 => ?_)
      · have hF := op_t hF c6
        refine lv_iload_n hx hb dX5_splitAt_56 rfl (lv_at hl 2 rfl) ?_
        refine lv_iconst (v := (1 : Int32)) hx hb dX5_splitAt_57 (by decide) ?_
        refine lv_iadd hx hb dX5_splitAt_58 ?_
        cases hF
        exact k_iret C hP hS dX5_splitAt_59
      · have hF := op_f hF c6
        refine lv_aload_n hx hb dX5_splitAt_35 rfl (lv_at hl 1 rfl) ?_
        refine lv_iload_n hx hb dX5_splitAt_36 rfl (lv_at hl 2 rfl) ?_
        refine lv_iload_n hx hb dX5_splitAt_37 rfl (lv_at hl 0 rfl) ?_
        obtain ⟨r8, hc7, hF⟩ := ob1_s hF
        refine k_inil C (k_rS (As := [.int (S1.2.2.1 0 x1.toNatClampNeg)]) (rest := [.int x1, .ref o0]) C (c_X5_isMarkSign l D q _ (S1.2.2.1 0 x1.toNatClampNeg) hc7) kc_X5_isMarkSign ml_X5_99 rfl rfl (by decide) (fun k x h => by simp at h) (⟨fun i j x y h => by simp at h, fun k x h => by simp at h⟩ : va_D A []) hS rfl hl.1 rfl (Nat.le_of_ble_eq_true rfl) dX5_splitAt_38 (by decide)) hP hD hS (fun H locs hP hD hS => ?_)
        refine lv_if_eq (tgt := 49) hx hb dX5_splitAt_41 (by decide) (fun c9 => ?_) (fun c9 => ?_)
        · have hF := op_t hF c9
          refine lv_bipush (v := (39 : Int32)) hx hb dX5_splitAt_49 (by decide) ?_
          exact b_X5_splitAt_51 C hF hP hD hS (lv_sub hl [2, 0] rfl)
        · have hF := op_f hF c9
          refine lv_bipush (v := (38 : Int32)) hx hb dX5_splitAt_44 (by decide) ?_
          refine lv_goto (tgt := 51) hx hb dX5_splitAt_46 (by decide) ?_
          exact b_X5_splitAt_51 C hF hP hD hS (lv_sub hl [2, 0] rfl)
  · have hF := op_f hF c4
    refine lv_aload_n hx hb dX5_splitAt_17 rfl (lv_at hl 1 rfl) ?_
    refine lv_iload_n hx hb dX5_splitAt_18 rfl (lv_at hl 2 rfl) ?_
    obtain ⟨r11, U12, hc10, hF⟩ := ob2_s hF
    refine k_iall C (k_rV (As := [.int x1]) (rest := []) C (c_X5_splitRun l D q tp o0 a0 S0 a1 S1 _ x1 hc10) kc_X5_splitRun ml_X5_96 rfl rfl (by decide) hP hD hS (va_recv hK hP (ci := 5) (q0 := 0) rfl rfl) rfl hl.1 rfl (Nat.le_of_ble_eq_true rfl) dX5_splitAt_19 (by decide)) hP hD hS (by simp only [List.map_cons, List.map_nil, gad5, gad9]) (fun H locs hP hD hS => ?_)
    cases hF
    exact k_iret C hP hS dX5_splitAt_22

abbrev rm_X5_begin : Room := ({ frames := 3, cells := 0, slots := 0, locals := 74 } : Room)
def F_X5_begin_72 (s1 : Int32) (S0 : St) (S1 : St) : Option (St) := if nb s1 then none else nw (sI S0 7 s1) fun U2 => nw (sI U2 6 (0 : Int32)) fun U4 => nw (sI U4 8 (0 : Int32)) fun U6 => nw (sI U6 9 (0 : Int32)) fun U8 => some (U8)
def F_X5_begin_41 (k22 : Int32 × Int32 × Int32 × Int32 × St × St → Option (St)) (x1 : Int32) (x2 : Int32) (x3 : Int32) (x4 : Int32) (S0 : St) (S1 : St) : Option (St) := k22 (x1, x2, x3, (x4 + 1), S0, S1)
def F_X5_begin_22 (k22 : Int32 × Int32 × Int32 × Int32 × St × St → Option (St)) (x1 : Int32) (x2 : Int32) (x3 : Int32) (x4 : Int32) (S0 : St) (S1 : St) : Option (St) := if x2 ≤ x4 then (ob1 (F_X5_addToken S0 x2 (40 : Int32) (0 : Int64)) fun U3 => if (S1.1 1) ≤ x1 then (F_X5_begin_72 (0 : Int32) U3 S1) else (F_X5_begin_72 (1 : Int32) U3 S1)) else (if x4 < x3 then (F_X5_begin_41 k22 x1 x2 x3 x4 S0 S1) else (ob2 (F_X5_splitAt S0 S1 x4) fun r7 U8 => F_X5_begin_41 k22 x1 x2 r7 x4 U8 S1))
def L_X5_begin_22 (x1 : Int32) (x2 : Int32) (x3 : Int32) (x4 : Int32) (S0 : St) (S1 : St) : Option (St) := lp (fun kz z => F_X5_begin_22 kz z.1 z.2.1 z.2.2.1 z.2.2.2.1 z.2.2.2.2.1 z.2.2.2.2.2) FU (x1, x2, x3, x4, S0, S1)
def F_X5_begin (S0 : St) (S1 : St) (x1 : Int32) : Option (St) := nw (if x1 < (S1.1 1) then x1 else (S1.1 1)) fun v1 => nw (sI S0 5 (0 : Int32)) fun U3 => L_X5_begin_22 x1 v1 (0 : Int32) (0 : Int32) U3 S1
set_option maxRecDepth 100000 in
set_option maxHeartbeats 4000000 in
theorem b_X5_begin_72 {p : Program} {l : Launch} {e : Env} {s : State} {m : MethodId} {args : Array Value} {below : List Frame} {meth : Method} {c : Code} {D : va_G} {q : Nat → ClassId} {A : Nat → Prop} {tp : Nat} {o0 : Nat} {a0 : Nat → Nat} {a1 : Nat → Nat} {T0 : St} (C : cx p s m args meth c cX5_begin 5 none RX5 D q A) {s1 : Int32} {S0 : St} {S1 : St} (hF : F_X5_begin_72 s1 S0 S1 = some (T0)) {H : Heap} {locs : List Loc} (hP : va_P D vwCl (fl [g5 q o0 a0 tp S0, g9 q tp a1 940 S1]) H) (hD : va_D A (fl [g5 q o0 a0 tp S0, g9 q tp a1 940 S1])) (hS : va_S A s.heap H locs) {ls : Array Slot} (hl : lv_has ls 5 [(0, .ref o0)]) : W p l e rm_X5_begin s m args below meth c H locs 0 0 (MQ below (QV D A (fl [g5 q o0 a0 tp T0, g9 q tp a1 940 S1])) args s 0 0 A) (F0 m 72 ls [.int s1, .ref o0]) := by
  unfold F_X5_begin_72 at hF
  obtain ⟨hx, hb, hr, hml, hown, hts, hlk, hA, hK, hN, hV⟩ := id C
  obtain ⟨h1, hF⟩ := op_ck hF
  obtain ⟨U2, e3, hF⟩ := nw_s hF
  refine k_put (W8 := fl [g5 q o0 a0 tp U2, g9 q tp a1 940 S1]) C fp_X5_76 hP hD hS 0 rfl (nb_nar h1) (nb_fit h1) (Nat.le_of_ble_eq_true rfl) dX5_begin_72 (by rw [e3]; rfl) (fun H locs hP hD hS => ?_)
  refine lv_aload_n hx hb dX5_begin_75 rfl (lv_at hl 0 rfl) ?_
  refine lv_iconst (v := (0 : Int32)) hx hb dX5_begin_76 (by decide) ?_
  obtain ⟨U4, e5, hF⟩ := nw_s hF
  refine k_put (W8 := fl [g5 q o0 a0 tp U4, g9 q tp a1 940 S1]) C fp_X5_80 hP hD hS 0 rfl rfl rfl (Nat.le_of_ble_eq_true rfl) dX5_begin_77 (by rw [e5]; rfl) (fun H locs hP hD hS => ?_)
  refine lv_aload_n hx hb dX5_begin_80 rfl (lv_at hl 0 rfl) ?_
  refine lv_iconst (v := (0 : Int32)) hx hb dX5_begin_81 (by decide) ?_
  obtain ⟨U6, e7, hF⟩ := nw_s hF
  refine k_put (W8 := fl [g5 q o0 a0 tp U6, g9 q tp a1 940 S1]) C fp_X5_83 hP hD hS 0 rfl rfl rfl (Nat.le_of_ble_eq_true rfl) dX5_begin_82 (by rw [e7]; rfl) (fun H locs hP hD hS => ?_)
  refine lv_aload_n hx hb dX5_begin_85 rfl (lv_at hl 0 rfl) ?_
  refine lv_iconst (v := (0 : Int32)) hx hb dX5_begin_86 (by decide) ?_
  obtain ⟨U8, e9, hF⟩ := nw_s hF
  refine k_put (W8 := fl [g5 q o0 a0 tp U8, g9 q tp a1 940 S1]) C fp_X5_86 hP hD hS 0 rfl rfl rfl (Nat.le_of_ble_eq_true rfl) dX5_begin_87 (by rw [e9]; rfl) (fun H locs hP hD hS => ?_)
  cases hF
  exact k_vret C hP hS dX5_begin_90
set_option maxRecDepth 100000 in
set_option maxHeartbeats 4000000 in
theorem b_X5_begin_41 {p : Program} {l : Launch} {e : Env} {s : State} {m : MethodId} {args : Array Value} {below : List Frame} {meth : Method} {c : Code} {D : va_G} {q : Nat → ClassId} {A : Nat → Prop} {tp : Nat} {o0 : Nat} {a0 : Nat → Nat} {a1 : Nat → Nat} {T0 : St} (C : cx p s m args meth c cX5_begin 5 none RX5 D q A) {k22 : Int32 × Int32 × Int32 × Int32 × St × St → Option (St)} (hk22 : ∀ (x1 : Int32) (x2 : Int32) (x3 : Int32) (x4 : Int32) (S0 : St) (S1 : St), k22 (x1, x2, x3, x4, S0, S1) = some (T0) → ∀ (H : Heap) (locs : List Loc) (ls : Array Slot), va_P D vwCl (fl [g5 q o0 a0 tp S0, g9 q tp a1 940 S1]) H → va_D A (fl [g5 q o0 a0 tp S0, g9 q tp a1 940 S1]) → va_S A s.heap H locs → lv_has ls 5 [(0, .ref o0), (1, .int x1), (2, .int x2), (3, .int x3), (4, .int x4)] → W p l e rm_X5_begin s m args below meth c H locs 0 0 (MQ below (QV D A (fl [g5 q o0 a0 tp T0, g9 q tp a1 940 S1])) args s 0 0 A) (F0 m 22 ls [])) {x1 : Int32} {x2 : Int32} {x3 : Int32} {x4 : Int32} {S0 : St} {S1 : St} (hF : F_X5_begin_41 k22 x1 x2 x3 x4 S0 S1 = some (T0)) {H : Heap} {locs : List Loc} (hP : va_P D vwCl (fl [g5 q o0 a0 tp S0, g9 q tp a1 940 S1]) H) (hD : va_D A (fl [g5 q o0 a0 tp S0, g9 q tp a1 940 S1])) (hS : va_S A s.heap H locs) {ls : Array Slot} (hl : lv_has ls 5 [(0, .ref o0), (1, .int x1), (2, .int x2), (3, .int x3), (4, .int x4)]) : W p l e rm_X5_begin s m args below meth c H locs 0 0 (MQ below (QV D A (fl [g5 q o0 a0 tp T0, g9 q tp a1 940 S1])) args s 0 0 A) (F0 m 41 ls []) := by
  unfold F_X5_begin_41 at hF
  obtain ⟨hx, hb, hr, hml, hown, hts, hlk, hA, hK, hN, hV⟩ := id C
  refine lv_iinc (v := (x4 + 1)) (lv' := [(4, .int (x4 + 1)), (0, .ref o0), (1, .int x1), (2, .int x2), (3, .int x3)]) hx hb dX5_begin_41 hl (k := 4) rfl rfl (by decide) rfl (fun ls hl => ?_)
  refine lv_goto (tgt := 22) hx hb dX5_begin_44 (by decide) ?_
  exact hk22 x1 x2 x3 (x4 + 1) S0 S1 hF _ _ _ hP hD hS (lv_sub hl [1, 2, 3, 4, 0] rfl)
set_option maxRecDepth 100000 in
set_option maxHeartbeats 4000000 in
theorem b_X5_begin_22 {p : Program} {l : Launch} {e : Env} {s : State} {m : MethodId} {args : Array Value} {below : List Frame} {meth : Method} {c : Code} {D : va_G} {q : Nat → ClassId} {A : Nat → Prop} {tp : Nat} {o0 : Nat} {a0 : Nat → Nat} {a1 : Nat → Nat} {T0 : St} (C : cx p s m args meth c cX5_begin 5 none RX5 D q A) {k22 : Int32 × Int32 × Int32 × Int32 × St × St → Option (St)} (hk22 : ∀ (x1 : Int32) (x2 : Int32) (x3 : Int32) (x4 : Int32) (S0 : St) (S1 : St), k22 (x1, x2, x3, x4, S0, S1) = some (T0) → ∀ (H : Heap) (locs : List Loc) (ls : Array Slot), va_P D vwCl (fl [g5 q o0 a0 tp S0, g9 q tp a1 940 S1]) H → va_D A (fl [g5 q o0 a0 tp S0, g9 q tp a1 940 S1]) → va_S A s.heap H locs → lv_has ls 5 [(0, .ref o0), (1, .int x1), (2, .int x2), (3, .int x3), (4, .int x4)] → W p l e rm_X5_begin s m args below meth c H locs 0 0 (MQ below (QV D A (fl [g5 q o0 a0 tp T0, g9 q tp a1 940 S1])) args s 0 0 A) (F0 m 22 ls [])) {x1 : Int32} {x2 : Int32} {x3 : Int32} {x4 : Int32} {S0 : St} {S1 : St} (hF : F_X5_begin_22 k22 x1 x2 x3 x4 S0 S1 = some (T0)) {H : Heap} {locs : List Loc} (hP : va_P D vwCl (fl [g5 q o0 a0 tp S0, g9 q tp a1 940 S1]) H) (hD : va_D A (fl [g5 q o0 a0 tp S0, g9 q tp a1 940 S1])) (hS : va_S A s.heap H locs) {ls : Array Slot} (hl : lv_has ls 5 [(0, .ref o0), (1, .int x1), (2, .int x2), (3, .int x3), (4, .int x4)]) : W p l e rm_X5_begin s m args below meth c H locs 0 0 (MQ below (QV D A (fl [g5 q o0 a0 tp T0, g9 q tp a1 940 S1])) args s 0 0 A) (F0 m 22 ls []) := by
  unfold F_X5_begin_22 at hF
  obtain ⟨hx, hb, hr, hml, hown, hts, hlk, hA, hK, hN, hV⟩ := id C
  refine lv_iload hx hb dX5_begin_22 (lv_at hl 4 rfl) ?_
  refine lv_iload_n hx hb dX5_begin_24 rfl (lv_at hl 2 rfl) ?_
  refine lv_icmp_ge (tgt := 47) hx hb dX5_begin_25 (by decide) (fun c1 => ?_) (fun c1 => ?_)
  · have hF := op_t hF c1
    refine lv_aload_n hx hb dX5_begin_47 rfl (lv_at hl 0 rfl) ?_
    refine lv_iload_n hx hb dX5_begin_48 rfl (lv_at hl 2 rfl) ?_
    refine lv_bipush (v := (40 : Int32)) hx hb dX5_begin_49 (by decide) ?_
    refine lv_lconst (v := (0 : Int64)) hx hb dX5_begin_51 (by decide) ?_
    obtain ⟨U3, hc2, hF⟩ := ob1_s hF
    refine k_vgrp (gs8 := [g5 q o0 a0 tp U3, g9 q tp a1 940 S1]) C (k_rV (As := [.int x2, .int (40 : Int32), .long (0 : Int64)]) (rest := []) C (c_X5_addToken l D q tp o0 a0 S0 _ x2 (40 : Int32) (0 : Int64) hc2) kc_X5_addToken ml_X5_72 rfl rfl (by decide) (flP hP [0] rfl) (flD hD [0] (by decide) rfl) hS (va_recv hK hP (ci := 5) (q0 := 0) rfl rfl) rfl hl.1 rfl (Nat.le_of_ble_eq_true rfl) dX5_begin_52 (by decide)) hP hD hS [0] [1] [g9 q tp a1 940 S1] 2 (by decide) rfl rfl rfl rfl rfl rfl (by simp only [List.map_cons, List.map_nil, gad5, gad9]) (fun H locs hP hD hS => ?_)
    refine lv_aload_n hx hb dX5_begin_55 rfl (lv_at hl 0 rfl) ?_
    refine lv_aload_n hx hb dX5_begin_56 rfl (lv_at hl 0 rfl) ?_
    refine k_get (v := .ref tp) C fg_X5_14 hP 0 rfl rfl dX5_begin_57 ?_
    refine k_get (v := .int (S1.1 1)) C fg_X5_56 hP 5 rfl rfl dX5_begin_60 ?_
    refine lv_iload_n hx hb dX5_begin_63 rfl (lv_at hl 1 rfl) ?_
    refine lv_icmp_le (tgt := 71) hx hb dX5_begin_64 (by decide) (fun c4 => ?_) (fun c4 => ?_)
    · have hF := op_t hF c4
      refine lv_iconst (v := (0 : Int32)) hx hb dX5_begin_71 (by decide) ?_
      exact b_X5_begin_72 C hF hP hD hS (lv_sub hl [0] rfl)
    · have hF := op_f hF c4
      refine lv_iconst (v := (1 : Int32)) hx hb dX5_begin_67 (by decide) ?_
      refine lv_goto (tgt := 72) hx hb dX5_begin_68 (by decide) ?_
      exact b_X5_begin_72 C hF hP hD hS (lv_sub hl [0] rfl)
  · have hF := op_f hF c1
    refine lv_iload hx hb dX5_begin_28 (lv_at hl 4 rfl) ?_
    refine lv_iload_n hx hb dX5_begin_30 rfl (lv_at hl 3 rfl) ?_
    refine lv_icmp_lt (tgt := 41) hx hb dX5_begin_31 (by decide) (fun c5 => ?_) (fun c5 => ?_)
    · have hF := op_t hF c5
      exact b_X5_begin_41 C hk22 hF hP hD hS (lv_sub hl [0, 1, 2, 3, 4] rfl)
    · have hF := op_f hF c5
      refine lv_aload_n hx hb dX5_begin_34 rfl (lv_at hl 0 rfl) ?_
      refine lv_iload hx hb dX5_begin_35 (lv_at hl 4 rfl) ?_
      obtain ⟨r7, U8, hc6, hF⟩ := ob2_s hF
      refine k_iall C (k_rV (As := [.int x4]) (rest := []) C (c_X5_splitAt l D q tp o0 a0 S0 a1 S1 _ x4 hc6) kc_X5_splitAt ml_X5_68 rfl rfl (by decide) hP hD hS (va_recv hK hP (ci := 5) (q0 := 0) rfl rfl) rfl hl.1 rfl (Nat.le_of_ble_eq_true rfl) dX5_begin_37 (by decide)) hP hD hS (by simp only [List.map_cons, List.map_nil, gad5, gad9]) (fun H locs hP hD hS => ?_)
      refine lv_istore_n (lv' := [(3, .int r7), (0, .ref o0), (1, .int x1), (2, .int x2), (4, .int x4)]) hx hb dX5_begin_40 rfl hl (by decide) rfl (fun ls hl => ?_)
      exact b_X5_begin_41 C hk22 hF hP hD hS (lv_sub hl [1, 2, 3, 0, 4] rfl)
set_option maxRecDepth 100000 in
set_option maxHeartbeats 4000000 in
theorem l_X5_begin_22 {p : Program} {l : Launch} {e : Env} {s : State} {m : MethodId} {args : Array Value} {below : List Frame} {meth : Method} {c : Code} {D : va_G} {q : Nat → ClassId} {A : Nat → Prop} {tp : Nat} {o0 : Nat} {a0 : Nat → Nat} {a1 : Nat → Nat} {T0 : St} (C : cx p s m args meth c cX5_begin 5 none RX5 D q A) {x1 : Int32} {x2 : Int32} {x3 : Int32} {x4 : Int32} {S0 : St} {S1 : St} (hF : L_X5_begin_22 x1 x2 x3 x4 S0 S1 = some (T0)) : ∀ (H : Heap) (locs : List Loc) (ls : Array Slot), va_P D vwCl (fl [g5 q o0 a0 tp S0, g9 q tp a1 940 S1]) H → va_D A (fl [g5 q o0 a0 tp S0, g9 q tp a1 940 S1]) → va_S A s.heap H locs → lv_has ls 5 [(0, .ref o0), (1, .int x1), (2, .int x2), (3, .int x3), (4, .int x4)] → W p l e rm_X5_begin s m args below meth c H locs 0 0 (MQ below (QV D A (fl [g5 q o0 a0 tp T0, g9 q tp a1 940 S1])) args s 0 0 A) (F0 m 22 ls []) :=
  lp_G _ _ (fun z => ∀ (H : Heap) (locs : List Loc) (ls : Array Slot), va_P D vwCl (fl [g5 q o0 a0 tp z.2.2.2.2.1, g9 q tp a1 940 z.2.2.2.2.2]) H → va_D A (fl [g5 q o0 a0 tp z.2.2.2.2.1, g9 q tp a1 940 z.2.2.2.2.2]) → va_S A s.heap H locs → lv_has ls 5 [(0, .ref o0), (1, .int z.1), (2, .int z.2.1), (3, .int z.2.2.1), (4, .int z.2.2.2.1)] → W p l e rm_X5_begin s m args below meth c H locs 0 0 (MQ below (QV D A (fl [g5 q o0 a0 tp T0, g9 q tp a1 940 z.2.2.2.2.2])) args s 0 0 A) (F0 m 22 ls [])) (fun kz hkz z hz H locs ls hP hD hS hl => b_X5_begin_22 C (fun x1 x2 x3 x4 S0 S1 hz => hkz (x1, x2, x3, x4, S0, S1) hz) hz hP hD hS hl) FU (x1, x2, x3, x4, S0, S1) hF
set_option maxRecDepth 100000 in
set_option maxHeartbeats 4000000 in
theorem c_X5_begin (l : Launch) (D : va_G) (q : Nat → ClassId) (tp : Nat) (o0 : Nat) (a0 : Nat → Nat) (S0 : St) (a1 : Nat → Nat) (S1 : St) (sz : Nat) (x1 : Int32) {T0 : St} (hF : F_X5_begin S0 S1 x1 = some (T0)) : Met l yX5_begin (Cond.code yX5_begin cX5_begin 5 none :: TB) rm_X5_begin (PC D q [.ref o0, .int x1] (fl [g5 q o0 a0 tp S0, g9 q tp a1 940 S1]) sz) ((fun A => QV D A (fl [g5 q o0 a0 tp T0, g9 q tp a1 940 S1])) (va_A (fl [g5 q o0 a0 tp S0, g9 q tp a1 940 S1]) sz)) 0 0 (va_A (fl [g5 q o0 a0 tp S0, g9 q tp a1 940 S1]) sz) := by
  refine k_met (w0 := fl [g5 q o0 a0 tp S0, g9 q tp a1 940 S1]) (Q := fun A => QV D A (fl [g5 q o0 a0 tp T0, g9 q tp a1 940 S1])) (by decide +kernel) (Nat.le_of_ble_eq_true rfl) ?_
  intro p e s m args below meth c A ls C hP hD hS hl
  have hl : lv_has ls 5 [(0, .ref o0), (1, .int x1)] := hl
  unfold F_X5_begin at hF
  have C : cx p s m args meth c cX5_begin 5 none RX5 D q A := C
  obtain ⟨hx, hb, hr, hml, hown, hts, hlk, hA, hK, hN, hV⟩ := id C
  refine lv_aload_n hx hb dX5_begin_0 rfl (lv_at hl 0 rfl) ?_
  refine k_get (v := .ref tp) C fg_X5_14 hP 0 rfl rfl dX5_begin_1 ?_
  refine k_get (v := .int (S1.1 1)) C fg_X5_56 hP 5 rfl rfl dX5_begin_4 ?_
  refine lv_iload_n hx hb dX5_begin_7 rfl (lv_at hl 1 rfl) ?_
  refine k_min C ml_X5_59 kmath_min hl.1 ⟨Nat.le_of_ble_eq_true rfl, Nat.le_of_ble_eq_true rfl⟩ (by decide) dX5_begin_8 ?_
  obtain ⟨v1, e2, hF⟩ := nw_s hF
  refine k_rni e2 ?_
  refine lv_istore_n (lv' := [(2, .int v1), (0, .ref o0), (1, .int x1)]) hx hb dX5_begin_11 rfl hl (by decide) rfl (fun ls hl => ?_)
  refine lv_aload_n hx hb dX5_begin_12 rfl (lv_at hl 1 rfl) ?_
  refine lv_iconst (v := (0 : Int32)) hx hb dX5_begin_13 (by decide) ?_
  obtain ⟨U3, e4, hF⟩ := nw_s hF
  refine k_put (W8 := fl [g5 q o0 a0 tp U3, g9 q tp a1 940 S1]) C fp_X5_65 hP hD hS 0 rfl rfl rfl (Nat.le_of_ble_eq_true rfl) dX5_begin_14 (by rw [e4]; rfl) (fun H locs hP hD hS => ?_)
  refine lv_iconst (v := (0 : Int32)) hx hb dX5_begin_17 (by decide) ?_
  refine lv_istore_n (lv' := [(3, .int (0 : Int32)), (2, .int v1), (0, .ref o0), (1, .int x1)]) hx hb dX5_begin_18 rfl hl (by decide) rfl (fun ls hl => ?_)
  refine lv_iconst (v := (0 : Int32)) hx hb dX5_begin_19 (by decide) ?_
  refine lv_istore (lv' := [(4, .int (0 : Int32)), (3, .int (0 : Int32)), (2, .int v1), (0, .ref o0), (1, .int x1)]) hx hb dX5_begin_20 hl (by decide) rfl (fun ls hl => ?_)
  exact l_X5_begin_22 C hF _ _ _ hP hD hS (lv_sub hl [3, 4, 2, 1, 0] rfl)

abbrev rm_X5_goesOn : Room := ({ frames := 0, cells := 0, slots := 0, locals := 0 } : Room)
def F_X5_goesOn (S0 : St) : Option (Int32) := if (S0.1 8) = 0 then (if oob (S0.1 6) 901 then none else if (S0.2.2.1 3 (S0.1 6).toNatClampNeg) = (40 : Int32) then (some ((0 : Int32))) else (some ((1 : Int32)))) else (some ((0 : Int32)))
set_option maxRecDepth 100000 in
set_option maxHeartbeats 4000000 in
theorem c_X5_goesOn (l : Launch) (D : va_G) (q : Nat → ClassId) (tp : Nat) (o0 : Nat) (a0 : Nat → Nat) (S0 : St) (sz : Nat) {r : Int32} (hF : F_X5_goesOn S0 = some (r)) : Met l yX5_goesOn (Cond.code yX5_goesOn cX5_goesOn 1 (some .boolean) :: TB) rm_X5_goesOn (PC D q [.ref o0] (fl [g5 q o0 a0 tp S0]) sz) ((fun A => QI D A r (fl [g5 q o0 a0 tp S0])) (va_A (fl [g5 q o0 a0 tp S0]) sz)) 0 0 (va_A (fl [g5 q o0 a0 tp S0]) sz) := by
  refine k_met (w0 := fl [g5 q o0 a0 tp S0]) (Q := fun A => QI D A r (fl [g5 q o0 a0 tp S0])) (by decide +kernel) (Nat.le_of_ble_eq_true rfl) ?_
  intro p e s m args below meth c A ls C hP hD hS hl
  have hl : lv_has ls 1 [(0, .ref o0)] := hl
  unfold F_X5_goesOn at hF
  have C : cx p s m args meth c cX5_goesOn 1 (some .boolean) RX5 D q A := C
  obtain ⟨hx, hb, hr, hml, hown, hts, hlk, hA, hK, hN, hV⟩ := id C
  refine lv_aload_n hx hb dX5_goesOn_0 rfl (lv_at hl 0 rfl) ?_
  refine k_get (v := .int (S0.1 8)) C fg_X5_83 hP 0 rfl rfl dX5_goesOn_1 ?_
  refine lv_if_ne (tgt := 25) hx hb dX5_goesOn_4 (by decide) (fun c1 => ?_) (fun c1 => ?_)
  · have hF := op_f hF c1
    refine lv_iconst (v := (0 : Int32)) hx hb dX5_goesOn_25 (by decide) ?_
    cases hF
    exact k_zret C (by decide) hP hS dX5_goesOn_26
  · have hF := op_t hF c1
    refine lv_aload_n hx hb dX5_goesOn_7 rfl (lv_at hl 0 rfl) ?_
    refine k_get (v := .ref (a0 4)) C fg_X5_28 hP 0 rfl rfl dX5_goesOn_8 ?_
    refine lv_aload_n hx hb dX5_goesOn_11 rfl (lv_at hl 0 rfl) ?_
    refine k_get (v := .int (S0.1 6)) C fg_X5_80 hP 0 rfl rfl dX5_goesOn_12 ?_
    obtain ⟨h2, hF⟩ := op_ck hF
    refine k_ild (f := S0.2.2.1 3) C hP 3 rfl h2 dX5_goesOn_15 ?_
    refine lv_bipush (v := (40 : Int32)) hx hb dX5_goesOn_16 (by decide) ?_
    refine lv_icmp_eq (tgt := 25) hx hb dX5_goesOn_18 (by decide) (fun c3 => ?_) (fun c3 => ?_)
    · have hF := op_t hF c3
      refine lv_iconst (v := (0 : Int32)) hx hb dX5_goesOn_25 (by decide) ?_
      cases hF
      exact k_zret C (by decide) hP hS dX5_goesOn_26
    · have hF := op_f hF c3
      refine lv_iconst (v := (1 : Int32)) hx hb dX5_goesOn_21 (by decide) ?_
      refine lv_goto (tgt := 26) hx hb dX5_goesOn_22 (by decide) ?_
      cases hF
      exact k_zret C (by decide) hP hS dX5_goesOn_26

abbrev rm_X5_isWordFrom : Room := ({ frames := 0, cells := 0, slots := 0, locals := 0 } : Room)
def F_X5_isWordFrom (S0 : St) (x1 : Int32) (x2 : Int32) : Option (Int32) := if (S0.1 8) = 0 then (if oob (S0.1 6) 901 then none else if (S0.2.2.1 3 (S0.1 6).toNatClampNeg) < x1 then (some ((0 : Int32))) else (if oob (S0.1 6) 901 then none else if (x1 + x2) ≤ (S0.2.2.1 3 (S0.1 6).toNatClampNeg) then (some ((0 : Int32))) else (some ((1 : Int32))))) else (some ((0 : Int32)))
set_option maxRecDepth 100000 in
set_option maxHeartbeats 4000000 in
theorem c_X5_isWordFrom (l : Launch) (D : va_G) (q : Nat → ClassId) (tp : Nat) (o0 : Nat) (a0 : Nat → Nat) (S0 : St) (sz : Nat) (x1 : Int32) (x2 : Int32) {r : Int32} (hF : F_X5_isWordFrom S0 x1 x2 = some (r)) : Met l yX5_isWordFrom (Cond.code yX5_isWordFrom cX5_isWordFrom 3 (some .boolean) :: TB) rm_X5_isWordFrom (PC D q [.ref o0, .int x1, .int x2] (fl [g5 q o0 a0 tp S0]) sz) ((fun A => QI D A r (fl [g5 q o0 a0 tp S0])) (va_A (fl [g5 q o0 a0 tp S0]) sz)) 0 0 (va_A (fl [g5 q o0 a0 tp S0]) sz) := by
  refine k_met (w0 := fl [g5 q o0 a0 tp S0]) (Q := fun A => QI D A r (fl [g5 q o0 a0 tp S0])) (by decide +kernel) (Nat.le_of_ble_eq_true rfl) ?_
  intro p e s m args below meth c A ls C hP hD hS hl
  have hl : lv_has ls 3 [(0, .ref o0), (1, .int x1), (2, .int x2)] := hl
  unfold F_X5_isWordFrom at hF
  have C : cx p s m args meth c cX5_isWordFrom 3 (some .boolean) RX5 D q A := C
  obtain ⟨hx, hb, hr, hml, hown, hts, hlk, hA, hK, hN, hV⟩ := id C
  refine lv_aload_n hx hb dX5_isWordFrom_0 rfl (lv_at hl 0 rfl) ?_
  refine k_get (v := .int (S0.1 8)) C fg_X5_83 hP 0 rfl rfl dX5_isWordFrom_1 ?_
  refine lv_if_ne (tgt := 39) hx hb dX5_isWordFrom_4 (by decide) (fun c1 => ?_) (fun c1 => ?_)
  · have hF := op_f hF c1
    refine lv_iconst (v := (0 : Int32)) hx hb dX5_isWordFrom_39 (by decide) ?_
    cases hF
    exact k_zret C (by decide) hP hS dX5_isWordFrom_40
  · have hF := op_t hF c1
    refine lv_aload_n hx hb dX5_isWordFrom_7 rfl (lv_at hl 0 rfl) ?_
    refine k_get (v := .ref (a0 4)) C fg_X5_28 hP 0 rfl rfl dX5_isWordFrom_8 ?_
    refine lv_aload_n hx hb dX5_isWordFrom_11 rfl (lv_at hl 0 rfl) ?_
    refine k_get (v := .int (S0.1 6)) C fg_X5_80 hP 0 rfl rfl dX5_isWordFrom_12 ?_
    obtain ⟨h2, hF⟩ := op_ck hF
    refine k_ild (f := S0.2.2.1 3) C hP 3 rfl h2 dX5_isWordFrom_15 ?_
    refine lv_iload_n hx hb dX5_isWordFrom_16 rfl (lv_at hl 1 rfl) ?_
    refine lv_icmp_lt (tgt := 39) hx hb dX5_isWordFrom_17 (by decide) (fun c3 => ?_) (fun c3 => ?_)
    · have hF := op_t hF c3
      refine lv_iconst (v := (0 : Int32)) hx hb dX5_isWordFrom_39 (by decide) ?_
      cases hF
      exact k_zret C (by decide) hP hS dX5_isWordFrom_40
    · have hF := op_f hF c3
      refine lv_aload_n hx hb dX5_isWordFrom_20 rfl (lv_at hl 0 rfl) ?_
      refine k_get (v := .ref (a0 4)) C fg_X5_28 hP 0 rfl rfl dX5_isWordFrom_21 ?_
      refine lv_aload_n hx hb dX5_isWordFrom_24 rfl (lv_at hl 0 rfl) ?_
      refine k_get (v := .int (S0.1 6)) C fg_X5_80 hP 0 rfl rfl dX5_isWordFrom_25 ?_
      obtain ⟨h4, hF⟩ := op_ck hF
      refine k_ild (f := S0.2.2.1 3) C hP 3 rfl h4 dX5_isWordFrom_28 ?_
      refine lv_iload_n hx hb dX5_isWordFrom_29 rfl (lv_at hl 1 rfl) ?_
      refine lv_iload_n hx hb dX5_isWordFrom_30 rfl (lv_at hl 2 rfl) ?_
      refine lv_iadd hx hb dX5_isWordFrom_31 ?_
      refine lv_icmp_ge (tgt := 39) hx hb dX5_isWordFrom_32 (by decide) (fun c5 => ?_) (fun c5 => ?_)
      · have hF := op_t hF c5
        refine lv_iconst (v := (0 : Int32)) hx hb dX5_isWordFrom_39 (by decide) ?_
        cases hF
        exact k_zret C (by decide) hP hS dX5_isWordFrom_40
      · have hF := op_f hF c5
        refine lv_iconst (v := (1 : Int32)) hx hb dX5_isWordFrom_35 (by decide) ?_
        refine lv_goto (tgt := 40) hx hb dX5_isWordFrom_36 (by decide) ?_
        cases hF
        exact k_zret C (by decide) hP hS dX5_isWordFrom_40

abbrev rm_X5_isName : Room := ({ frames := 0, cells := 0, slots := 0, locals := 0 } : Room)
def F_X5_isName (S0 : St) : Option (Int32) := if (S0.1 8) = 0 then (if oob (S0.1 6) 901 then none else if (S0.2.2.1 3 (S0.1 6).toNatClampNeg) = (36 : Int32) then (some ((1 : Int32))) else (some ((0 : Int32)))) else (some ((0 : Int32)))
set_option maxRecDepth 100000 in
set_option maxHeartbeats 4000000 in
theorem c_X5_isName (l : Launch) (D : va_G) (q : Nat → ClassId) (tp : Nat) (o0 : Nat) (a0 : Nat → Nat) (S0 : St) (sz : Nat) {r : Int32} (hF : F_X5_isName S0 = some (r)) : Met l yX5_isName (Cond.code yX5_isName cX5_isName 1 (some .boolean) :: TB) rm_X5_isName (PC D q [.ref o0] (fl [g5 q o0 a0 tp S0]) sz) ((fun A => QI D A r (fl [g5 q o0 a0 tp S0])) (va_A (fl [g5 q o0 a0 tp S0]) sz)) 0 0 (va_A (fl [g5 q o0 a0 tp S0]) sz) := by
  refine k_met (w0 := fl [g5 q o0 a0 tp S0]) (Q := fun A => QI D A r (fl [g5 q o0 a0 tp S0])) (by decide +kernel) (Nat.le_of_ble_eq_true rfl) ?_
  intro p e s m args below meth c A ls C hP hD hS hl
  have hl : lv_has ls 1 [(0, .ref o0)] := hl
  unfold F_X5_isName at hF
  have C : cx p s m args meth c cX5_isName 1 (some .boolean) RX5 D q A := C
  obtain ⟨hx, hb, hr, hml, hown, hts, hlk, hA, hK, hN, hV⟩ := id C
  refine lv_aload_n hx hb dX5_isName_0 rfl (lv_at hl 0 rfl) ?_
  refine k_get (v := .int (S0.1 8)) C fg_X5_83 hP 0 rfl rfl dX5_isName_1 ?_
  refine lv_if_ne (tgt := 25) hx hb dX5_isName_4 (by decide) (fun c1 => ?_) (fun c1 => ?_)
  · have hF := op_f hF c1
    refine lv_iconst (v := (0 : Int32)) hx hb dX5_isName_25 (by decide) ?_
    cases hF
    exact k_zret C (by decide) hP hS dX5_isName_26
  · have hF := op_t hF c1
    refine lv_aload_n hx hb dX5_isName_7 rfl (lv_at hl 0 rfl) ?_
    refine k_get (v := .ref (a0 4)) C fg_X5_28 hP 0 rfl rfl dX5_isName_8 ?_
    refine lv_aload_n hx hb dX5_isName_11 rfl (lv_at hl 0 rfl) ?_
    refine k_get (v := .int (S0.1 6)) C fg_X5_80 hP 0 rfl rfl dX5_isName_12 ?_
    obtain ⟨h2, hF⟩ := op_ck hF
    refine k_ild (f := S0.2.2.1 3) C hP 3 rfl h2 dX5_isName_15 ?_
    refine lv_bipush (v := (36 : Int32)) hx hb dX5_isName_16 (by decide) ?_
    refine lv_icmp_ne (tgt := 25) hx hb dX5_isName_18 (by decide) (fun c3 => ?_) (fun c3 => ?_)
    · have hF := op_f hF c3
      refine lv_iconst (v := (0 : Int32)) hx hb dX5_isName_25 (by decide) ?_
      cases hF
      exact k_zret C (by decide) hP hS dX5_isName_26
    · have hF := op_t hF c3
      refine lv_iconst (v := (1 : Int32)) hx hb dX5_isName_21 (by decide) ?_
      refine lv_goto (tgt := 26) hx hb dX5_isName_22 (by decide) ?_
      cases hF
      exact k_zret C (by decide) hP hS dX5_isName_26

abbrev rm_X8_personNamed : Room := ({ frames := 0, cells := 0, slots := 0, locals := 0 } : Room)
def F_X8_personNamed_2 (k2 : Int64 × Int32 × St → Option (Int32)) (x1 : Int64) (x3 : Int32) (S0 : St) : Option (Int32) := if (S0.1 7) ≤ x3 then (some ((-1 : Int32))) else (if oob x3 6 then none else if (lg_cmp (S0.2.2.2 8 x3.toNatClampNeg) x1) = 0 then (some (x3)) else (k2 (x1, (x3 + 1), S0)))
def L_X8_personNamed_2 (x1 : Int64) (x3 : Int32) (S0 : St) : Option (Int32) := lp (fun kz z => F_X8_personNamed_2 kz z.1 z.2.1 z.2.2) FU (x1, x3, S0)
def F_X8_personNamed (S0 : St) (x1 : Int64) : Option (Int32) := L_X8_personNamed_2 x1 (0 : Int32) S0
set_option maxRecDepth 100000 in
set_option maxHeartbeats 4000000 in
theorem b_X8_personNamed_2 {p : Program} {l : Launch} {e : Env} {s : State} {m : MethodId} {args : Array Value} {below : List Frame} {meth : Method} {c : Code} {D : va_G} {q : Nat → ClassId} {A : Nat → Prop} {o0 : Nat} {a0 : Nat → Nat} {r : Int32} (C : cx p s m args meth c cX8_personNamed 4 (some .int) RX8 D q A) {k2 : Int64 × Int32 × St → Option (Int32)} (hk2 : ∀ (x1 : Int64) (x3 : Int32) (S0 : St), k2 (x1, x3, S0) = some (r) → ∀ (H : Heap) (locs : List Loc) (ls : Array Slot), va_P D vwCl (fl [g8 q o0 a0 S0]) H → va_D A (fl [g8 q o0 a0 S0]) → va_S A s.heap H locs → lv_has ls 4 [(0, .ref o0), (1, .long x1), (3, .int x3)] → W p l e rm_X8_personNamed s m args below meth c H locs 0 0 (MQ below (QI D A r (fl [g8 q o0 a0 S0])) args s 0 0 A) (F0 m 2 ls [])) {x1 : Int64} {x3 : Int32} {S0 : St} (hF : F_X8_personNamed_2 k2 x1 x3 S0 = some (r)) {H : Heap} {locs : List Loc} (hP : va_P D vwCl (fl [g8 q o0 a0 S0]) H) (hD : va_D A (fl [g8 q o0 a0 S0])) (hS : va_S A s.heap H locs) {ls : Array Slot} (hl : lv_has ls 4 [(0, .ref o0), (1, .long x1), (3, .int x3)]) : W p l e rm_X8_personNamed s m args below meth c H locs 0 0 (MQ below (QI D A r (fl [g8 q o0 a0 S0])) args s 0 0 A) (F0 m 2 ls []) := by
  unfold F_X8_personNamed_2 at hF
  obtain ⟨hx, hb, hr, hml, hown, hts, hlk, hA, hK, hN, hV⟩ := id C
  refine lv_iload_n hx hb dX8_personNamed_2 rfl (lv_at hl 2 rfl) ?_
  refine lv_aload_n hx hb dX8_personNamed_3 rfl (lv_at hl 0 rfl) ?_
  refine k_get (v := .int (S0.1 7)) C fg_X8_59 hP 0 rfl rfl dX8_personNamed_4 ?_
  refine lv_icmp_ge (tgt := 29) hx hb dX8_personNamed_7 (by decide) (fun c1 => ?_) (fun c1 => ?_)
  · have hF := op_t hF c1
    refine lv_iconst (v := (-1 : Int32)) hx hb dX8_personNamed_29 (by decide) ?_
    cases hF
    exact k_iret C hP hS dX8_personNamed_30
  · have hF := op_f hF c1
    refine lv_aload_n hx hb dX8_personNamed_10 rfl (lv_at hl 0 rfl) ?_
    refine k_get (v := .ref (a0 9)) C fg_X8_25 hP 0 rfl rfl dX8_personNamed_11 ?_
    refine lv_iload_n hx hb dX8_personNamed_14 rfl (lv_at hl 2 rfl) ?_
    obtain ⟨h2, hF⟩ := op_ck hF
    refine k_lld (f := S0.2.2.2 8) C hP 5 rfl h2 dX8_personNamed_15 ?_
    refine lv_lload_n hx hb dX8_personNamed_16 rfl (lv_at hl 1 rfl) ?_
    refine W.lcmp hx hb dX8_personNamed_17 ?_
    refine lv_if_ne (tgt := 23) hx hb dX8_personNamed_18 (by decide) (fun c3 => ?_) (fun c3 => ?_)
    · have hF := op_f hF c3
      refine lv_iinc (v := (x3 + 1)) (lv' := [(3, .int (x3 + 1)), (0, .ref o0), (1, .long x1)]) hx hb dX8_personNamed_23 hl (k := 2) rfl rfl (by decide) rfl (fun ls hl => ?_)
      refine lv_goto (tgt := 2) hx hb dX8_personNamed_26 (by decide) ?_
      exact hk2 x1 (x3 + 1) S0 hF _ _ _ hP hD hS (lv_sub hl [1, 2, 0] rfl)
    · have hF := op_t hF c3
      refine lv_iload_n hx hb dX8_personNamed_21 rfl (lv_at hl 2 rfl) ?_
      cases hF
      exact k_iret C hP hS dX8_personNamed_22
set_option maxRecDepth 100000 in
set_option maxHeartbeats 4000000 in
theorem l_X8_personNamed_2 {p : Program} {l : Launch} {e : Env} {s : State} {m : MethodId} {args : Array Value} {below : List Frame} {meth : Method} {c : Code} {D : va_G} {q : Nat → ClassId} {A : Nat → Prop} {o0 : Nat} {a0 : Nat → Nat} {r : Int32} (C : cx p s m args meth c cX8_personNamed 4 (some .int) RX8 D q A) {x1 : Int64} {x3 : Int32} {S0 : St} (hF : L_X8_personNamed_2 x1 x3 S0 = some (r)) : ∀ (H : Heap) (locs : List Loc) (ls : Array Slot), va_P D vwCl (fl [g8 q o0 a0 S0]) H → va_D A (fl [g8 q o0 a0 S0]) → va_S A s.heap H locs → lv_has ls 4 [(0, .ref o0), (1, .long x1), (3, .int x3)] → W p l e rm_X8_personNamed s m args below meth c H locs 0 0 (MQ below (QI D A r (fl [g8 q o0 a0 S0])) args s 0 0 A) (F0 m 2 ls []) :=
  lp_G _ _ (fun z => ∀ (H : Heap) (locs : List Loc) (ls : Array Slot), va_P D vwCl (fl [g8 q o0 a0 z.2.2]) H → va_D A (fl [g8 q o0 a0 z.2.2]) → va_S A s.heap H locs → lv_has ls 4 [(0, .ref o0), (1, .long z.1), (3, .int z.2.1)] → W p l e rm_X8_personNamed s m args below meth c H locs 0 0 (MQ below (QI D A r (fl [g8 q o0 a0 z.2.2])) args s 0 0 A) (F0 m 2 ls [])) (fun kz hkz z hz H locs ls hP hD hS hl => b_X8_personNamed_2 C (fun x1 x3 S0 hz => hkz (x1, x3, S0) hz) hz hP hD hS hl) FU (x1, x3, S0) hF
set_option maxRecDepth 100000 in
set_option maxHeartbeats 4000000 in
theorem c_X8_personNamed (l : Launch) (D : va_G) (q : Nat → ClassId) (o0 : Nat) (a0 : Nat → Nat) (S0 : St) (sz : Nat) (x1 : Int64) {r : Int32} (hF : F_X8_personNamed S0 x1 = some (r)) : Met l yX8_personNamed (Cond.code yX8_personNamed cX8_personNamed 4 (some .int) :: TB) rm_X8_personNamed (PC D q [.ref o0, .long x1] (fl [g8 q o0 a0 S0]) sz) ((fun A => QI D A r (fl [g8 q o0 a0 S0])) (va_A (fl [g8 q o0 a0 S0]) sz)) 0 0 (va_A (fl [g8 q o0 a0 S0]) sz) := by
  refine k_met (w0 := fl [g8 q o0 a0 S0]) (Q := fun A => QI D A r (fl [g8 q o0 a0 S0])) (by decide +kernel) (Nat.le_of_ble_eq_true rfl) ?_
  intro p e s m args below meth c A ls C hP hD hS hl
  have hl : lv_has ls 4 [(0, .ref o0), (1, .long x1)] := hl
  unfold F_X8_personNamed at hF
  have C : cx p s m args meth c cX8_personNamed 4 (some .int) RX8 D q A := C
  obtain ⟨hx, hb, hr, hml, hown, hts, hlk, hA, hK, hN, hV⟩ := id C
  refine lv_iconst (v := (0 : Int32)) hx hb dX8_personNamed_0 (by decide) ?_
  refine lv_istore_n (lv' := [(3, .int (0 : Int32)), (0, .ref o0), (1, .long x1)]) hx hb dX8_personNamed_1 rfl hl (by decide) rfl (fun ls hl => ?_)
  exact l_X8_personNamed_2 C hF _ _ _ hP hD hS (lv_sub hl [1, 2, 0] rfl)

abbrev rm_X5_fail : Room := ({ frames := 0, cells := 0, slots := 0, locals := 0 } : Room)
def F_X5_fail (S0 : St) (x1 : Int32) : Option (St) := if (S0.1 8) = 0 then (nw (sI S0 8 x1) fun U2 => if oob (U2.1 6) 901 then none else nw (sI U2 9 (U2.2.2.1 2 (U2.1 6).toNatClampNeg)) fun U5 => some (U5)) else (some (S0))
set_option maxRecDepth 100000 in
set_option maxHeartbeats 4000000 in
theorem c_X5_fail (l : Launch) (D : va_G) (q : Nat → ClassId) (tp : Nat) (o0 : Nat) (a0 : Nat → Nat) (S0 : St) (sz : Nat) (x1 : Int32) {T0 : St} (hF : F_X5_fail S0 x1 = some (T0)) : Met l yX5_fail (Cond.code yX5_fail cX5_fail 2 none :: TB) rm_X5_fail (PC D q [.ref o0, .int x1] (fl [g5 q o0 a0 tp S0]) sz) ((fun A => QV D A (fl [g5 q o0 a0 tp T0])) (va_A (fl [g5 q o0 a0 tp S0]) sz)) 0 0 (va_A (fl [g5 q o0 a0 tp S0]) sz) := by
  refine k_met (w0 := fl [g5 q o0 a0 tp S0]) (Q := fun A => QV D A (fl [g5 q o0 a0 tp T0])) (by decide +kernel) (Nat.le_of_ble_eq_true rfl) ?_
  intro p e s m args below meth c A ls C hP hD hS hl
  have hl : lv_has ls 2 [(0, .ref o0), (1, .int x1)] := hl
  unfold F_X5_fail at hF
  have C : cx p s m args meth c cX5_fail 2 none RX5 D q A := C
  obtain ⟨hx, hb, hr, hml, hown, hts, hlk, hA, hK, hN, hV⟩ := id C
  refine lv_aload_n hx hb dX5_fail_0 rfl (lv_at hl 0 rfl) ?_
  refine k_get (v := .int (S0.1 8)) C fg_X5_83 hP 0 rfl rfl dX5_fail_1 ?_
  refine lv_if_ne (tgt := 25) hx hb dX5_fail_4 (by decide) (fun c1 => ?_) (fun c1 => ?_)
  · have hF := op_f hF c1
    cases hF
    exact k_vret C hP hS dX5_fail_25
  · have hF := op_t hF c1
    refine lv_aload_n hx hb dX5_fail_7 rfl (lv_at hl 0 rfl) ?_
    refine lv_iload_n hx hb dX5_fail_8 rfl (lv_at hl 1 rfl) ?_
    obtain ⟨U2, e3, hF⟩ := nw_s hF
    refine k_put (W8 := fl [g5 q o0 a0 tp U2]) C fp_X5_83 hP hD hS 0 rfl rfl rfl (Nat.le_of_ble_eq_true rfl) dX5_fail_9 (by rw [e3]; rfl) (fun H locs hP hD hS => ?_)
    refine lv_aload_n hx hb dX5_fail_12 rfl (lv_at hl 0 rfl) ?_
    refine lv_aload_n hx hb dX5_fail_13 rfl (lv_at hl 0 rfl) ?_
    refine k_get (v := .ref (a0 3)) C fg_X5_24 hP 0 rfl rfl dX5_fail_14 ?_
    refine lv_aload_n hx hb dX5_fail_17 rfl (lv_at hl 0 rfl) ?_
    refine k_get (v := .int (U2.1 6)) C fg_X5_80 hP 0 rfl rfl dX5_fail_18 ?_
    obtain ⟨h4, hF⟩ := op_ck hF
    refine k_ild (f := U2.2.2.1 2) C hP 2 rfl h4 dX5_fail_21 ?_
    obtain ⟨U5, e6, hF⟩ := nw_s hF
    refine k_put (W8 := fl [g5 q o0 a0 tp U5]) C fp_X5_86 hP hD hS 0 rfl rfl rfl (Nat.le_of_ble_eq_true rfl) dX5_fail_22 (by rw [e6]; rfl) (fun H locs hP hD hS => ?_)
    cases hF
    exact k_vret C hP hS dX5_fail_25

abbrev rm_X5_seePerson : Room := ({ frames := 1, cells := 0, slots := 0, locals := 23 } : Room)
def F_X5_seePerson_43 (x2 : Int32) (s1 : Int32) (S0 : St) (S1 : St) : Option (Int32 × St) := ob1 (F_X5_fail S0 s1) fun U2 => some (x2, U2)
def F_X5_seePerson_24 (s0 : Int32) (S0 : St) (S1 : St) : Option (Int32 × St) := if s0 = (-1 : Int32) then (ob1 (F_X5_isName S0) fun r3 => if r3 = 0 then (F_X5_seePerson_43 s0 (1 : Int32) S0 S1) else (F_X5_seePerson_43 s0 (3 : Int32) S0 S1)) else (some (s0, S0))
def F_X5_seePerson (S0 : St) (S1 : St) : Option (Int32 × St) := ob1 (F_X5_isName S0) fun r2 => if r2 = 0 then (F_X5_seePerson_24 (-1 : Int32) S0 S1) else (if oob (S0.1 6) 901 then none else ob1 (F_X8_personNamed S1 (S0.2.2.2 4 (S0.1 6).toNatClampNeg)) fun r6 => F_X5_seePerson_24 r6 S0 S1)
set_option maxRecDepth 100000 in
set_option maxHeartbeats 4000000 in
theorem b_X5_seePerson_43 {p : Program} {l : Launch} {e : Env} {s : State} {m : MethodId} {args : Array Value} {below : List Frame} {meth : Method} {c : Code} {D : va_G} {q : Nat → ClassId} {A : Nat → Prop} {tp : Nat} {o0 : Nat} {a0 : Nat → Nat} {o1 : Nat} {a1 : Nat → Nat} {r : Int32} {T0 : St} (C : cx p s m args meth c cX5_seePerson 3 (some .int) RX5 D q A) {x2 : Int32} {s1 : Int32} {S0 : St} {S1 : St} (hF : F_X5_seePerson_43 x2 s1 S0 S1 = some (r, T0)) {H : Heap} {locs : List Loc} (hP : va_P D vwCl (fl [g5 q o0 a0 tp S0, g8 q o1 a1 S1]) H) (hD : va_D A (fl [g5 q o0 a0 tp S0, g8 q o1 a1 S1])) (hS : va_S A s.heap H locs) {ls : Array Slot} (hl : lv_has ls 3 [(2, .int x2)]) : W p l e rm_X5_seePerson s m args below meth c H locs 0 0 (MQ below (QI D A r (fl [g5 q o0 a0 tp T0, g8 q o1 a1 S1])) args s 0 0 A) (F0 m 43 ls [.int s1, .ref o0]) := by
  unfold F_X5_seePerson_43 at hF
  obtain ⟨hx, hb, hr, hml, hown, hts, hlk, hA, hK, hN, hV⟩ := id C
  obtain ⟨U2, hc1, hF⟩ := ob1_s hF
  refine k_vgrp (gs8 := [g5 q o0 a0 tp U2, g8 q o1 a1 S1]) C (k_rV (As := [.int s1]) (rest := []) C (c_X5_fail l D q tp o0 a0 S0 _ s1 hc1) kc_X5_fail ml_X5_108 rfl rfl (by decide) (flP hP [0] rfl) (flD hD [0] (by decide) rfl) hS (va_recv hK hP (ci := 5) (q0 := 0) rfl rfl) rfl hl.1 rfl (Nat.le_of_ble_eq_true rfl) dX5_seePerson_43 (by decide)) hP hD hS [0] [1] [g8 q o1 a1 S1] 2 (by decide) rfl rfl rfl rfl rfl rfl (by simp only [List.map_cons, List.map_nil, gad5, gad8]) (fun H locs hP hD hS => ?_)
  refine lv_iload_n hx hb dX5_seePerson_46 rfl (lv_at hl 0 rfl) ?_
  cases hF
  exact k_iret C hP hS dX5_seePerson_47
set_option maxRecDepth 100000 in
set_option maxHeartbeats 4000000 in
theorem b_X5_seePerson_24 {p : Program} {l : Launch} {e : Env} {s : State} {m : MethodId} {args : Array Value} {below : List Frame} {meth : Method} {c : Code} {D : va_G} {q : Nat → ClassId} {A : Nat → Prop} {tp : Nat} {o0 : Nat} {a0 : Nat → Nat} {o1 : Nat} {a1 : Nat → Nat} {r : Int32} {T0 : St} (C : cx p s m args meth c cX5_seePerson 3 (some .int) RX5 D q A) {s0 : Int32} {S0 : St} {S1 : St} (hF : F_X5_seePerson_24 s0 S0 S1 = some (r, T0)) {H : Heap} {locs : List Loc} (hP : va_P D vwCl (fl [g5 q o0 a0 tp S0, g8 q o1 a1 S1]) H) (hD : va_D A (fl [g5 q o0 a0 tp S0, g8 q o1 a1 S1])) (hS : va_S A s.heap H locs) {ls : Array Slot} (hl : lv_has ls 3 [(0, .ref o0)]) : W p l e rm_X5_seePerson s m args below meth c H locs 0 0 (MQ below (QI D A r (fl [g5 q o0 a0 tp T0, g8 q o1 a1 S1])) args s 0 0 A) (F0 m 24 ls [.int s0]) := by
  unfold F_X5_seePerson_24 at hF
  obtain ⟨hx, hb, hr, hml, hown, hts, hlk, hA, hK, hN, hV⟩ := id C
  refine lv_istore_n (lv' := [(2, .int s0), (0, .ref o0)]) hx hb dX5_seePerson_24 rfl hl (by decide) rfl (fun ls hl => ?_)
  refine lv_iload_n hx hb dX5_seePerson_25 rfl (lv_at hl 0 rfl) ?_
  refine lv_iconst (v := (-1 : Int32)) hx hb dX5_seePerson_26 (by decide) ?_
  refine lv_icmp_ne (tgt := 46) hx hb dX5_seePerson_27 (by decide) (fun c1 => ?_) (fun c1 => ?_)
  · have hF := op_f hF c1
    refine lv_iload_n hx hb dX5_seePerson_46 rfl (lv_at hl 0 rfl) ?_
    cases hF
    exact k_iret C hP hS dX5_seePerson_47
  · have hF := op_t hF c1
    refine lv_aload_n hx hb dX5_seePerson_30 rfl (lv_at hl 1 rfl) ?_
    refine lv_aload_n hx hb dX5_seePerson_31 rfl (lv_at hl 1 rfl) ?_
    obtain ⟨r3, hc2, hF⟩ := ob1_s hF
    refine k_iro C (k_rV (As := []) (rest := [.ref o0]) C (c_X5_isName l D q tp o0 a0 S0 _ hc2) kc_X5_isName ml_X5_128 rfl rfl (by decide) (flP hP [0] rfl) (flD hD [0] (by decide) rfl) hS (va_recv hK hP (ci := 5) (q0 := 0) rfl rfl) rfl hl.1 rfl (Nat.le_of_ble_eq_true rfl) dX5_seePerson_32 (by decide)) hP hD hS [0] [1] [g8 q o1 a1 S1] 2 (by decide) rfl rfl rfl rfl (fun H locs hP hD hS => ?_)
    refine lv_if_eq (tgt := 42) hx hb dX5_seePerson_35 (by decide) (fun c4 => ?_) (fun c4 => ?_)
    · have hF := op_t hF c4
      refine lv_iconst (v := (1 : Int32)) hx hb dX5_seePerson_42 (by decide) ?_
      exact b_X5_seePerson_43 C hF hP hD hS (lv_sub hl [0] rfl)
    · have hF := op_f hF c4
      refine lv_iconst (v := (3 : Int32)) hx hb dX5_seePerson_38 (by decide) ?_
      refine lv_goto (tgt := 43) hx hb dX5_seePerson_39 (by decide) ?_
      exact b_X5_seePerson_43 C hF hP hD hS (lv_sub hl [0] rfl)
set_option maxRecDepth 100000 in
set_option maxHeartbeats 4000000 in
theorem c_X5_seePerson (l : Launch) (D : va_G) (q : Nat → ClassId) (tp : Nat) (o0 : Nat) (a0 : Nat → Nat) (S0 : St) (o1 : Nat) (a1 : Nat → Nat) (S1 : St) (sz : Nat) {r : Int32} {T0 : St} (hF : F_X5_seePerson S0 S1 = some (r, T0)) : Met l yX5_seePerson (Cond.code yX5_seePerson cX5_seePerson 3 (some .int) :: TB) rm_X5_seePerson (PC D q [.ref o0, .ref o1] (fl [g5 q o0 a0 tp S0, g8 q o1 a1 S1]) sz) ((fun A => QI D A r (fl [g5 q o0 a0 tp T0, g8 q o1 a1 S1])) (va_A (fl [g5 q o0 a0 tp S0, g8 q o1 a1 S1]) sz)) 0 0 (va_A (fl [g5 q o0 a0 tp S0, g8 q o1 a1 S1]) sz) := by
  refine k_met (w0 := fl [g5 q o0 a0 tp S0, g8 q o1 a1 S1]) (Q := fun A => QI D A r (fl [g5 q o0 a0 tp T0, g8 q o1 a1 S1])) (by decide +kernel) (Nat.le_of_ble_eq_true rfl) ?_
  intro p e s m args below meth c A ls C hP hD hS hl
  have hl : lv_has ls 3 [(0, .ref o0), (1, .ref o1)] := hl
  unfold F_X5_seePerson at hF
  have C : cx p s m args meth c cX5_seePerson 3 (some .int) RX5 D q A := C
  obtain ⟨hx, hb, hr, hml, hown, hts, hlk, hA, hK, hN, hV⟩ := id C
  refine lv_aload_n hx hb dX5_seePerson_0 rfl (lv_at hl 0 rfl) ?_
  obtain ⟨r2, hc1, hF⟩ := ob1_s hF
  refine k_iro C (k_rV (As := []) (rest := []) C (c_X5_isName l D q tp o0 a0 S0 _ hc1) kc_X5_isName ml_X5_128 rfl rfl (by decide) (flP hP [0] rfl) (flD hD [0] (by decide) rfl) hS (va_recv hK hP (ci := 5) (q0 := 0) rfl rfl) rfl hl.1 rfl (Nat.le_of_ble_eq_true rfl) dX5_seePerson_1 (by decide)) hP hD hS [0] [1] [g8 q o1 a1 S1] 2 (by decide) rfl rfl rfl rfl (fun H locs hP hD hS => ?_)
  refine lv_if_eq (tgt := 23) hx hb dX5_seePerson_4 (by decide) (fun c3 => ?_) (fun c3 => ?_)
  · have hF := op_t hF c3
    refine lv_iconst (v := (-1 : Int32)) hx hb dX5_seePerson_23 (by decide) ?_
    exact b_X5_seePerson_24 C hF hP hD hS (lv_sub hl [0] rfl)
  · have hF := op_f hF c3
    refine lv_aload_n hx hb dX5_seePerson_7 rfl (lv_at hl 1 rfl) ?_
    refine lv_aload_n hx hb dX5_seePerson_8 rfl (lv_at hl 0 rfl) ?_
    refine k_get (v := .ref (a0 5)) C fg_X5_31 hP 0 rfl rfl dX5_seePerson_9 ?_
    refine lv_aload_n hx hb dX5_seePerson_12 rfl (lv_at hl 0 rfl) ?_
    refine k_get (v := .int (S0.1 6)) C fg_X5_80 hP 0 rfl rfl dX5_seePerson_13 ?_
    obtain ⟨h4, hF⟩ := op_ck hF
    refine k_lld (f := S0.2.2.2 4) C hP 4 rfl h4 dX5_seePerson_16 ?_
    obtain ⟨r6, hc5, hF⟩ := ob1_s hF
    refine k_iro C (k_rV (As := [.long (S0.2.2.2 4 (S0.1 6).toNatClampNeg)]) (rest := []) C (c_X8_personNamed l D q o1 a1 S1 _ (S0.2.2.2 4 (S0.1 6).toNatClampNeg) hc5) kc_X8_personNamed ml_X5_137 rfl rfl (by decide) (flP hP [1] rfl) (flD hD [1] (by decide) rfl) hS (va_recv hK hP (ci := 8) (q0 := 5) rfl rfl) rfl hl.1 rfl (Nat.le_of_ble_eq_true rfl) dX5_seePerson_17 (by decide)) hP hD hS [1] [0] [g5 q o0 a0 tp S0] 2 (by decide) rfl rfl rfl rfl (fun H locs hP hD hS => ?_)
    refine lv_goto (tgt := 24) hx hb dX5_seePerson_20 (by decide) ?_
    exact b_X5_seePerson_24 C hF hP hD hS (lv_sub hl [0] rfl)

abbrev rm_X5_next : Room := ({ frames := 0, cells := 0, slots := 0, locals := 0 } : Room)
def F_X5_next (S0 : St) : Option (St) := if oob (S0.1 6) 901 then none else if (S0.2.2.1 3 (S0.1 6).toNatClampNeg) = (40 : Int32) then (some (S0)) else (nw (sI S0 6 ((S0.1 6) + (1 : Int32))) fun U3 => some (U3))
set_option maxRecDepth 100000 in
set_option maxHeartbeats 4000000 in
theorem c_X5_next (l : Launch) (D : va_G) (q : Nat → ClassId) (tp : Nat) (o0 : Nat) (a0 : Nat → Nat) (S0 : St) (sz : Nat) {T0 : St} (hF : F_X5_next S0 = some (T0)) : Met l yX5_next (Cond.code yX5_next cX5_next 1 none :: TB) rm_X5_next (PC D q [.ref o0] (fl [g5 q o0 a0 tp S0]) sz) ((fun A => QV D A (fl [g5 q o0 a0 tp T0])) (va_A (fl [g5 q o0 a0 tp S0]) sz)) 0 0 (va_A (fl [g5 q o0 a0 tp S0]) sz) := by
  refine k_met (w0 := fl [g5 q o0 a0 tp S0]) (Q := fun A => QV D A (fl [g5 q o0 a0 tp T0])) (by decide +kernel) (Nat.le_of_ble_eq_true rfl) ?_
  intro p e s m args below meth c A ls C hP hD hS hl
  have hl : lv_has ls 1 [(0, .ref o0)] := hl
  unfold F_X5_next at hF
  have C : cx p s m args meth c cX5_next 1 none RX5 D q A := C
  obtain ⟨hx, hb, hr, hml, hown, hts, hlk, hA, hK, hN, hV⟩ := id C
  refine lv_aload_n hx hb dX5_next_0 rfl (lv_at hl 0 rfl) ?_
  refine k_get (v := .ref (a0 4)) C fg_X5_28 hP 0 rfl rfl dX5_next_1 ?_
  refine lv_aload_n hx hb dX5_next_4 rfl (lv_at hl 0 rfl) ?_
  refine k_get (v := .int (S0.1 6)) C fg_X5_80 hP 0 rfl rfl dX5_next_5 ?_
  obtain ⟨h1, hF⟩ := op_ck hF
  refine k_ild (f := S0.2.2.1 3) C hP 3 rfl h1 dX5_next_8 ?_
  refine lv_bipush (v := (40 : Int32)) hx hb dX5_next_9 (by decide) ?_
  refine lv_icmp_eq (tgt := 24) hx hb dX5_next_11 (by decide) (fun c2 => ?_) (fun c2 => ?_)
  · have hF := op_t hF c2
    cases hF
    exact k_vret C hP hS dX5_next_24
  · have hF := op_f hF c2
    refine lv_aload_n hx hb dX5_next_14 rfl (lv_at hl 0 rfl) ?_
    refine lv_dup hx hb dX5_next_15 rfl ?_
    refine k_get (v := .int (S0.1 6)) C fg_X5_80 hP 0 rfl rfl dX5_next_16 ?_
    refine lv_iconst (v := (1 : Int32)) hx hb dX5_next_19 (by decide) ?_
    refine lv_iadd hx hb dX5_next_20 ?_
    obtain ⟨U3, e4, hF⟩ := nw_s hF
    refine k_put (W8 := fl [g5 q o0 a0 tp U3]) C fp_X5_80 hP hD hS 0 rfl rfl rfl (Nat.le_of_ble_eq_true rfl) dX5_next_21 (by rw [e4]; rfl) (fun H locs hP hD hS => ?_)
    cases hF
    exact k_vret C hP hS dX5_next_24

abbrev rm_X5_needWordFrom : Room := ({ frames := 1, cells := 0, slots := 0, locals := 22 } : Room)
def F_X5_needWordFrom (S0 : St) (x1 : Int32) (x2 : Int32) : Option (Int32 × St) := ob1 (F_X5_isWordFrom S0 x1 x2) fun r2 => if r2 = 0 then (ob1 (F_X5_fail S0 (1 : Int32)) fun U10 => some ((-1 : Int32), U10)) else (if oob (S0.1 6) 901 then none else nw ((S0.2.2.1 3 (S0.1 6).toNatClampNeg) - x1) fun v5 => ob1 (F_X5_next S0) fun U8 => some (v5, U8))
set_option maxRecDepth 100000 in
set_option maxHeartbeats 4000000 in
theorem c_X5_needWordFrom (l : Launch) (D : va_G) (q : Nat → ClassId) (tp : Nat) (o0 : Nat) (a0 : Nat → Nat) (S0 : St) (sz : Nat) (x1 : Int32) (x2 : Int32) {r : Int32} {T0 : St} (hF : F_X5_needWordFrom S0 x1 x2 = some (r, T0)) : Met l yX5_needWordFrom (Cond.code yX5_needWordFrom cX5_needWordFrom 4 (some .int) :: TB) rm_X5_needWordFrom (PC D q [.ref o0, .int x1, .int x2] (fl [g5 q o0 a0 tp S0]) sz) ((fun A => QI D A r (fl [g5 q o0 a0 tp T0])) (va_A (fl [g5 q o0 a0 tp S0]) sz)) 0 0 (va_A (fl [g5 q o0 a0 tp S0]) sz) := by
  refine k_met (w0 := fl [g5 q o0 a0 tp S0]) (Q := fun A => QI D A r (fl [g5 q o0 a0 tp T0])) (by decide +kernel) (Nat.le_of_ble_eq_true rfl) ?_
  intro p e s m args below meth c A ls C hP hD hS hl
  have hl : lv_has ls 4 [(0, .ref o0), (1, .int x1), (2, .int x2)] := hl
  unfold F_X5_needWordFrom at hF
  have C : cx p s m args meth c cX5_needWordFrom 4 (some .int) RX5 D q A := C
  obtain ⟨hx, hb, hr, hml, hown, hts, hlk, hA, hK, hN, hV⟩ := id C
  refine lv_aload_n hx hb dX5_needWordFrom_0 rfl (lv_at hl 0 rfl) ?_
  refine lv_iload_n hx hb dX5_needWordFrom_1 rfl (lv_at hl 1 rfl) ?_
  refine lv_iload_n hx hb dX5_needWordFrom_2 rfl (lv_at hl 2 rfl) ?_
  obtain ⟨r2, hc1, hF⟩ := ob1_s hF
  refine k_isame C (k_rV (As := [.int x1, .int x2]) (rest := []) C (c_X5_isWordFrom l D q tp o0 a0 S0 _ x1 x2 hc1) kc_X5_isWordFrom ml_X5_124 rfl rfl (by decide) hP hD hS (va_recv hK hP (ci := 5) (q0 := 0) rfl rfl) rfl hl.1 rfl (Nat.le_of_ble_eq_true rfl) dX5_needWordFrom_3 (by decide)) hP hD hS (fun H locs hP hD hS => ?_)
  refine lv_if_ne (tgt := 16) hx hb dX5_needWordFrom_6 (by decide) (fun c3 => ?_) (fun c3 => ?_)
  · have hF := op_f hF c3
    refine lv_aload_n hx hb dX5_needWordFrom_16 rfl (lv_at hl 0 rfl) ?_
    refine k_get (v := .ref (a0 4)) C fg_X5_28 hP 0 rfl rfl dX5_needWordFrom_17 ?_
    refine lv_aload_n hx hb dX5_needWordFrom_20 rfl (lv_at hl 0 rfl) ?_
    refine k_get (v := .int (S0.1 6)) C fg_X5_80 hP 0 rfl rfl dX5_needWordFrom_21 ?_
    obtain ⟨h4, hF⟩ := op_ck hF
    refine k_ild (f := S0.2.2.1 3) C hP 3 rfl h4 dX5_needWordFrom_24 ?_
    refine lv_iload_n hx hb dX5_needWordFrom_25 rfl (lv_at hl 1 rfl) ?_
    refine lv_isub hx hb dX5_needWordFrom_26 ?_
    obtain ⟨v5, e6, hF⟩ := nw_s hF
    refine k_rni e6 ?_
    refine lv_istore_n (lv' := [(3, .int v5), (0, .ref o0), (1, .int x1), (2, .int x2)]) hx hb dX5_needWordFrom_27 rfl hl (by decide) rfl (fun ls hl => ?_)
    refine lv_aload_n hx hb dX5_needWordFrom_28 rfl (lv_at hl 1 rfl) ?_
    obtain ⟨U8, hc7, hF⟩ := ob1_s hF
    refine k_vall C (k_rV (As := []) (rest := []) C (c_X5_next l D q tp o0 a0 S0 _ hc7) kc_X5_next ml_X5_114 rfl rfl (by decide) hP hD hS (va_recv hK hP (ci := 5) (q0 := 0) rfl rfl) rfl hl.1 rfl (Nat.le_of_ble_eq_true rfl) dX5_needWordFrom_29 (by decide)) hP hD hS (by simp only [List.map_cons, List.map_nil, gad5]) (fun H locs hP hD hS => ?_)
    refine lv_iload_n hx hb dX5_needWordFrom_32 rfl (lv_at hl 0 rfl) ?_
    cases hF
    exact k_iret C hP hS dX5_needWordFrom_33
  · have hF := op_t hF c3
    refine lv_aload_n hx hb dX5_needWordFrom_9 rfl (lv_at hl 0 rfl) ?_
    refine lv_iconst (v := (1 : Int32)) hx hb dX5_needWordFrom_10 (by decide) ?_
    obtain ⟨U10, hc9, hF⟩ := ob1_s hF
    refine k_vall C (k_rV (As := [.int (1 : Int32)]) (rest := []) C (c_X5_fail l D q tp o0 a0 S0 _ (1 : Int32) hc9) kc_X5_fail ml_X5_108 rfl rfl (by decide) hP hD hS (va_recv hK hP (ci := 5) (q0 := 0) rfl rfl) rfl hl.1 rfl (Nat.le_of_ble_eq_true rfl) dX5_needWordFrom_11 (by decide)) hP hD hS (by simp only [List.map_cons, List.map_nil, gad5]) (fun H locs hP hD hS => ?_)
    refine lv_iconst (v := (-1 : Int32)) hx hb dX5_needWordFrom_14 (by decide) ?_
    cases hF
    exact k_iret C hP hS dX5_needWordFrom_15

abbrev rm_X8_turretNamed : Room := ({ frames := 0, cells := 0, slots := 0, locals := 0 } : Room)
def F_X8_turretNamed_2 (k2 : Int64 × Int32 × St → Option (Int32)) (x1 : Int64) (x3 : Int32) (S0 : St) : Option (Int32) := if (S0.1 0) ≤ x3 then (some ((-1 : Int32))) else (if oob x3 7 then none else if (lg_cmp (S0.2.2.2 1 x3.toNatClampNeg) x1) = 0 then (some (x3)) else (k2 (x1, (x3 + 1), S0)))
def L_X8_turretNamed_2 (x1 : Int64) (x3 : Int32) (S0 : St) : Option (Int32) := lp (fun kz z => F_X8_turretNamed_2 kz z.1 z.2.1 z.2.2) FU (x1, x3, S0)
def F_X8_turretNamed (S0 : St) (x1 : Int64) : Option (Int32) := L_X8_turretNamed_2 x1 (0 : Int32) S0
set_option maxRecDepth 100000 in
set_option maxHeartbeats 4000000 in
theorem b_X8_turretNamed_2 {p : Program} {l : Launch} {e : Env} {s : State} {m : MethodId} {args : Array Value} {below : List Frame} {meth : Method} {c : Code} {D : va_G} {q : Nat → ClassId} {A : Nat → Prop} {o0 : Nat} {a0 : Nat → Nat} {r : Int32} (C : cx p s m args meth c cX8_turretNamed 4 (some .int) RX8 D q A) {k2 : Int64 × Int32 × St → Option (Int32)} (hk2 : ∀ (x1 : Int64) (x3 : Int32) (S0 : St), k2 (x1, x3, S0) = some (r) → ∀ (H : Heap) (locs : List Loc) (ls : Array Slot), va_P D vwCl (fl [g8 q o0 a0 S0]) H → va_D A (fl [g8 q o0 a0 S0]) → va_S A s.heap H locs → lv_has ls 4 [(0, .ref o0), (1, .long x1), (3, .int x3)] → W p l e rm_X8_turretNamed s m args below meth c H locs 0 0 (MQ below (QI D A r (fl [g8 q o0 a0 S0])) args s 0 0 A) (F0 m 2 ls [])) {x1 : Int64} {x3 : Int32} {S0 : St} (hF : F_X8_turretNamed_2 k2 x1 x3 S0 = some (r)) {H : Heap} {locs : List Loc} (hP : va_P D vwCl (fl [g8 q o0 a0 S0]) H) (hD : va_D A (fl [g8 q o0 a0 S0])) (hS : va_S A s.heap H locs) {ls : Array Slot} (hl : lv_has ls 4 [(0, .ref o0), (1, .long x1), (3, .int x3)]) : W p l e rm_X8_turretNamed s m args below meth c H locs 0 0 (MQ below (QI D A r (fl [g8 q o0 a0 S0])) args s 0 0 A) (F0 m 2 ls []) := by
  unfold F_X8_turretNamed_2 at hF
  obtain ⟨hx, hb, hr, hml, hown, hts, hlk, hA, hK, hN, hV⟩ := id C
  refine lv_iload_n hx hb dX8_turretNamed_2 rfl (lv_at hl 2 rfl) ?_
  refine lv_aload_n hx hb dX8_turretNamed_3 rfl (lv_at hl 0 rfl) ?_
  refine k_get (v := .int (S0.1 0)) C fg_X8_43 hP 0 rfl rfl dX8_turretNamed_4 ?_
  refine lv_icmp_ge (tgt := 29) hx hb dX8_turretNamed_7 (by decide) (fun c1 => ?_) (fun c1 => ?_)
  · have hF := op_t hF c1
    refine lv_iconst (v := (-1 : Int32)) hx hb dX8_turretNamed_29 (by decide) ?_
    cases hF
    exact k_iret C hP hS dX8_turretNamed_30
  · have hF := op_f hF c1
    refine lv_aload_n hx hb dX8_turretNamed_10 rfl (lv_at hl 0 rfl) ?_
    refine k_get (v := .ref (a0 2)) C fg_X8_9 hP 0 rfl rfl dX8_turretNamed_11 ?_
    refine lv_iload_n hx hb dX8_turretNamed_14 rfl (lv_at hl 2 rfl) ?_
    obtain ⟨h2, hF⟩ := op_ck hF
    refine k_lld (f := S0.2.2.2 1) C hP 1 rfl h2 dX8_turretNamed_15 ?_
    refine lv_lload_n hx hb dX8_turretNamed_16 rfl (lv_at hl 1 rfl) ?_
    refine W.lcmp hx hb dX8_turretNamed_17 ?_
    refine lv_if_ne (tgt := 23) hx hb dX8_turretNamed_18 (by decide) (fun c3 => ?_) (fun c3 => ?_)
    · have hF := op_f hF c3
      refine lv_iinc (v := (x3 + 1)) (lv' := [(3, .int (x3 + 1)), (0, .ref o0), (1, .long x1)]) hx hb dX8_turretNamed_23 hl (k := 2) rfl rfl (by decide) rfl (fun ls hl => ?_)
      refine lv_goto (tgt := 2) hx hb dX8_turretNamed_26 (by decide) ?_
      exact hk2 x1 (x3 + 1) S0 hF _ _ _ hP hD hS (lv_sub hl [1, 2, 0] rfl)
    · have hF := op_t hF c3
      refine lv_iload_n hx hb dX8_turretNamed_21 rfl (lv_at hl 2 rfl) ?_
      cases hF
      exact k_iret C hP hS dX8_turretNamed_22
set_option maxRecDepth 100000 in
set_option maxHeartbeats 4000000 in
theorem l_X8_turretNamed_2 {p : Program} {l : Launch} {e : Env} {s : State} {m : MethodId} {args : Array Value} {below : List Frame} {meth : Method} {c : Code} {D : va_G} {q : Nat → ClassId} {A : Nat → Prop} {o0 : Nat} {a0 : Nat → Nat} {r : Int32} (C : cx p s m args meth c cX8_turretNamed 4 (some .int) RX8 D q A) {x1 : Int64} {x3 : Int32} {S0 : St} (hF : L_X8_turretNamed_2 x1 x3 S0 = some (r)) : ∀ (H : Heap) (locs : List Loc) (ls : Array Slot), va_P D vwCl (fl [g8 q o0 a0 S0]) H → va_D A (fl [g8 q o0 a0 S0]) → va_S A s.heap H locs → lv_has ls 4 [(0, .ref o0), (1, .long x1), (3, .int x3)] → W p l e rm_X8_turretNamed s m args below meth c H locs 0 0 (MQ below (QI D A r (fl [g8 q o0 a0 S0])) args s 0 0 A) (F0 m 2 ls []) :=
  lp_G _ _ (fun z => ∀ (H : Heap) (locs : List Loc) (ls : Array Slot), va_P D vwCl (fl [g8 q o0 a0 z.2.2]) H → va_D A (fl [g8 q o0 a0 z.2.2]) → va_S A s.heap H locs → lv_has ls 4 [(0, .ref o0), (1, .long z.1), (3, .int z.2.1)] → W p l e rm_X8_turretNamed s m args below meth c H locs 0 0 (MQ below (QI D A r (fl [g8 q o0 a0 z.2.2])) args s 0 0 A) (F0 m 2 ls [])) (fun kz hkz z hz H locs ls hP hD hS hl => b_X8_turretNamed_2 C (fun x1 x3 S0 hz => hkz (x1, x3, S0) hz) hz hP hD hS hl) FU (x1, x3, S0) hF
set_option maxRecDepth 100000 in
set_option maxHeartbeats 4000000 in
theorem c_X8_turretNamed (l : Launch) (D : va_G) (q : Nat → ClassId) (o0 : Nat) (a0 : Nat → Nat) (S0 : St) (sz : Nat) (x1 : Int64) {r : Int32} (hF : F_X8_turretNamed S0 x1 = some (r)) : Met l yX8_turretNamed (Cond.code yX8_turretNamed cX8_turretNamed 4 (some .int) :: TB) rm_X8_turretNamed (PC D q [.ref o0, .long x1] (fl [g8 q o0 a0 S0]) sz) ((fun A => QI D A r (fl [g8 q o0 a0 S0])) (va_A (fl [g8 q o0 a0 S0]) sz)) 0 0 (va_A (fl [g8 q o0 a0 S0]) sz) := by
  refine k_met (w0 := fl [g8 q o0 a0 S0]) (Q := fun A => QI D A r (fl [g8 q o0 a0 S0])) (by decide +kernel) (Nat.le_of_ble_eq_true rfl) ?_
  intro p e s m args below meth c A ls C hP hD hS hl
  have hl : lv_has ls 4 [(0, .ref o0), (1, .long x1)] := hl
  unfold F_X8_turretNamed at hF
  have C : cx p s m args meth c cX8_turretNamed 4 (some .int) RX8 D q A := C
  obtain ⟨hx, hb, hr, hml, hown, hts, hlk, hA, hK, hN, hV⟩ := id C
  refine lv_iconst (v := (0 : Int32)) hx hb dX8_turretNamed_0 (by decide) ?_
  refine lv_istore_n (lv' := [(3, .int (0 : Int32)), (0, .ref o0), (1, .long x1)]) hx hb dX8_turretNamed_1 rfl hl (by decide) rfl (fun ls hl => ?_)
  exact l_X8_turretNamed_2 C hF _ _ _ hP hD hS (lv_sub hl [1, 2, 0] rfl)

abbrev rm_X5_needTurret : Room := ({ frames := 1, cells := 0, slots := 0, locals := 23 } : Room)
def F_X5_needTurret_43 (x2 : Int32) (s1 : Int32) (S0 : St) (S1 : St) : Option (Int32 × St) := ob1 (F_X5_fail S0 s1) fun U2 => some (x2, U2)
def F_X5_needTurret_24 (s0 : Int32) (S0 : St) (S1 : St) : Option (Int32 × St) := if s0 = (-1 : Int32) then (ob1 (F_X5_isName S0) fun r5 => if r5 = 0 then (F_X5_needTurret_43 s0 (1 : Int32) S0 S1) else (F_X5_needTurret_43 s0 (3 : Int32) S0 S1)) else (ob1 (F_X5_next S0) fun U3 => some (s0, U3))
def F_X5_needTurret (S0 : St) (S1 : St) : Option (Int32 × St) := ob1 (F_X5_isName S0) fun r2 => if r2 = 0 then (F_X5_needTurret_24 (-1 : Int32) S0 S1) else (if oob (S0.1 6) 901 then none else ob1 (F_X8_turretNamed S1 (S0.2.2.2 4 (S0.1 6).toNatClampNeg)) fun r6 => F_X5_needTurret_24 r6 S0 S1)
set_option maxRecDepth 100000 in
set_option maxHeartbeats 4000000 in
theorem b_X5_needTurret_43 {p : Program} {l : Launch} {e : Env} {s : State} {m : MethodId} {args : Array Value} {below : List Frame} {meth : Method} {c : Code} {D : va_G} {q : Nat → ClassId} {A : Nat → Prop} {tp : Nat} {o0 : Nat} {a0 : Nat → Nat} {o1 : Nat} {a1 : Nat → Nat} {r : Int32} {T0 : St} (C : cx p s m args meth c cX5_needTurret 3 (some .int) RX5 D q A) {x2 : Int32} {s1 : Int32} {S0 : St} {S1 : St} (hF : F_X5_needTurret_43 x2 s1 S0 S1 = some (r, T0)) {H : Heap} {locs : List Loc} (hP : va_P D vwCl (fl [g5 q o0 a0 tp S0, g8 q o1 a1 S1]) H) (hD : va_D A (fl [g5 q o0 a0 tp S0, g8 q o1 a1 S1])) (hS : va_S A s.heap H locs) {ls : Array Slot} (hl : lv_has ls 3 [(2, .int x2)]) : W p l e rm_X5_needTurret s m args below meth c H locs 0 0 (MQ below (QI D A r (fl [g5 q o0 a0 tp T0, g8 q o1 a1 S1])) args s 0 0 A) (F0 m 43 ls [.int s1, .ref o0]) := by
  unfold F_X5_needTurret_43 at hF
  obtain ⟨hx, hb, hr, hml, hown, hts, hlk, hA, hK, hN, hV⟩ := id C
  obtain ⟨U2, hc1, hF⟩ := ob1_s hF
  refine k_vgrp (gs8 := [g5 q o0 a0 tp U2, g8 q o1 a1 S1]) C (k_rV (As := [.int s1]) (rest := []) C (c_X5_fail l D q tp o0 a0 S0 _ s1 hc1) kc_X5_fail ml_X5_108 rfl rfl (by decide) (flP hP [0] rfl) (flD hD [0] (by decide) rfl) hS (va_recv hK hP (ci := 5) (q0 := 0) rfl rfl) rfl hl.1 rfl (Nat.le_of_ble_eq_true rfl) dX5_needTurret_43 (by decide)) hP hD hS [0] [1] [g8 q o1 a1 S1] 2 (by decide) rfl rfl rfl rfl rfl rfl (by simp only [List.map_cons, List.map_nil, gad5, gad8]) (fun H locs hP hD hS => ?_)
  refine lv_goto (tgt := 53) hx hb dX5_needTurret_46 (by decide) ?_
  refine lv_iload_n hx hb dX5_needTurret_53 rfl (lv_at hl 0 rfl) ?_
  cases hF
  exact k_iret C hP hS dX5_needTurret_54
set_option maxRecDepth 100000 in
set_option maxHeartbeats 4000000 in
theorem b_X5_needTurret_24 {p : Program} {l : Launch} {e : Env} {s : State} {m : MethodId} {args : Array Value} {below : List Frame} {meth : Method} {c : Code} {D : va_G} {q : Nat → ClassId} {A : Nat → Prop} {tp : Nat} {o0 : Nat} {a0 : Nat → Nat} {o1 : Nat} {a1 : Nat → Nat} {r : Int32} {T0 : St} (C : cx p s m args meth c cX5_needTurret 3 (some .int) RX5 D q A) {s0 : Int32} {S0 : St} {S1 : St} (hF : F_X5_needTurret_24 s0 S0 S1 = some (r, T0)) {H : Heap} {locs : List Loc} (hP : va_P D vwCl (fl [g5 q o0 a0 tp S0, g8 q o1 a1 S1]) H) (hD : va_D A (fl [g5 q o0 a0 tp S0, g8 q o1 a1 S1])) (hS : va_S A s.heap H locs) {ls : Array Slot} (hl : lv_has ls 3 [(0, .ref o0)]) : W p l e rm_X5_needTurret s m args below meth c H locs 0 0 (MQ below (QI D A r (fl [g5 q o0 a0 tp T0, g8 q o1 a1 S1])) args s 0 0 A) (F0 m 24 ls [.int s0]) := by
  unfold F_X5_needTurret_24 at hF
  obtain ⟨hx, hb, hr, hml, hown, hts, hlk, hA, hK, hN, hV⟩ := id C
  refine lv_istore_n (lv' := [(2, .int s0), (0, .ref o0)]) hx hb dX5_needTurret_24 rfl hl (by decide) rfl (fun ls hl => ?_)
  refine lv_iload_n hx hb dX5_needTurret_25 rfl (lv_at hl 0 rfl) ?_
  refine lv_iconst (v := (-1 : Int32)) hx hb dX5_needTurret_26 (by decide) ?_
  refine lv_icmp_ne (tgt := 49) hx hb dX5_needTurret_27 (by decide) (fun c1 => ?_) (fun c1 => ?_)
  · have hF := op_f hF c1
    refine lv_aload_n hx hb dX5_needTurret_49 rfl (lv_at hl 1 rfl) ?_
    obtain ⟨U3, hc2, hF⟩ := ob1_s hF
    refine k_vgrp (gs8 := [g5 q o0 a0 tp U3, g8 q o1 a1 S1]) C (k_rV (As := []) (rest := []) C (c_X5_next l D q tp o0 a0 S0 _ hc2) kc_X5_next ml_X5_114 rfl rfl (by decide) (flP hP [0] rfl) (flD hD [0] (by decide) rfl) hS (va_recv hK hP (ci := 5) (q0 := 0) rfl rfl) rfl hl.1 rfl (Nat.le_of_ble_eq_true rfl) dX5_needTurret_50 (by decide)) hP hD hS [0] [1] [g8 q o1 a1 S1] 2 (by decide) rfl rfl rfl rfl rfl rfl (by simp only [List.map_cons, List.map_nil, gad5, gad8]) (fun H locs hP hD hS => ?_)
    refine lv_iload_n hx hb dX5_needTurret_53 rfl (lv_at hl 0 rfl) ?_
    cases hF
    exact k_iret C hP hS dX5_needTurret_54
  · have hF := op_t hF c1
    refine lv_aload_n hx hb dX5_needTurret_30 rfl (lv_at hl 1 rfl) ?_
    refine lv_aload_n hx hb dX5_needTurret_31 rfl (lv_at hl 1 rfl) ?_
    obtain ⟨r5, hc4, hF⟩ := ob1_s hF
    refine k_iro C (k_rV (As := []) (rest := [.ref o0]) C (c_X5_isName l D q tp o0 a0 S0 _ hc4) kc_X5_isName ml_X5_128 rfl rfl (by decide) (flP hP [0] rfl) (flD hD [0] (by decide) rfl) hS (va_recv hK hP (ci := 5) (q0 := 0) rfl rfl) rfl hl.1 rfl (Nat.le_of_ble_eq_true rfl) dX5_needTurret_32 (by decide)) hP hD hS [0] [1] [g8 q o1 a1 S1] 2 (by decide) rfl rfl rfl rfl (fun H locs hP hD hS => ?_)
    refine lv_if_eq (tgt := 42) hx hb dX5_needTurret_35 (by decide) (fun c6 => ?_) (fun c6 => ?_)
    · have hF := op_t hF c6
      refine lv_iconst (v := (1 : Int32)) hx hb dX5_needTurret_42 (by decide) ?_
      exact b_X5_needTurret_43 C hF hP hD hS (lv_sub hl [0] rfl)
    · have hF := op_f hF c6
      refine lv_iconst (v := (3 : Int32)) hx hb dX5_needTurret_38 (by decide) ?_
      refine lv_goto (tgt := 43) hx hb dX5_needTurret_39 (by decide) ?_
      exact b_X5_needTurret_43 C hF hP hD hS (lv_sub hl [0] rfl)
set_option maxRecDepth 100000 in
set_option maxHeartbeats 4000000 in
theorem c_X5_needTurret (l : Launch) (D : va_G) (q : Nat → ClassId) (tp : Nat) (o0 : Nat) (a0 : Nat → Nat) (S0 : St) (o1 : Nat) (a1 : Nat → Nat) (S1 : St) (sz : Nat) {r : Int32} {T0 : St} (hF : F_X5_needTurret S0 S1 = some (r, T0)) : Met l yX5_needTurret (Cond.code yX5_needTurret cX5_needTurret 3 (some .int) :: TB) rm_X5_needTurret (PC D q [.ref o0, .ref o1] (fl [g5 q o0 a0 tp S0, g8 q o1 a1 S1]) sz) ((fun A => QI D A r (fl [g5 q o0 a0 tp T0, g8 q o1 a1 S1])) (va_A (fl [g5 q o0 a0 tp S0, g8 q o1 a1 S1]) sz)) 0 0 (va_A (fl [g5 q o0 a0 tp S0, g8 q o1 a1 S1]) sz) := by
  refine k_met (w0 := fl [g5 q o0 a0 tp S0, g8 q o1 a1 S1]) (Q := fun A => QI D A r (fl [g5 q o0 a0 tp T0, g8 q o1 a1 S1])) (by decide +kernel) (Nat.le_of_ble_eq_true rfl) ?_
  intro p e s m args below meth c A ls C hP hD hS hl
  have hl : lv_has ls 3 [(0, .ref o0), (1, .ref o1)] := hl
  unfold F_X5_needTurret at hF
  have C : cx p s m args meth c cX5_needTurret 3 (some .int) RX5 D q A := C
  obtain ⟨hx, hb, hr, hml, hown, hts, hlk, hA, hK, hN, hV⟩ := id C
  refine lv_aload_n hx hb dX5_needTurret_0 rfl (lv_at hl 0 rfl) ?_
  obtain ⟨r2, hc1, hF⟩ := ob1_s hF
  refine k_iro C (k_rV (As := []) (rest := []) C (c_X5_isName l D q tp o0 a0 S0 _ hc1) kc_X5_isName ml_X5_128 rfl rfl (by decide) (flP hP [0] rfl) (flD hD [0] (by decide) rfl) hS (va_recv hK hP (ci := 5) (q0 := 0) rfl rfl) rfl hl.1 rfl (Nat.le_of_ble_eq_true rfl) dX5_needTurret_1 (by decide)) hP hD hS [0] [1] [g8 q o1 a1 S1] 2 (by decide) rfl rfl rfl rfl (fun H locs hP hD hS => ?_)
  refine lv_if_eq (tgt := 23) hx hb dX5_needTurret_4 (by decide) (fun c3 => ?_) (fun c3 => ?_)
  · have hF := op_t hF c3
    refine lv_iconst (v := (-1 : Int32)) hx hb dX5_needTurret_23 (by decide) ?_
    exact b_X5_needTurret_24 C hF hP hD hS (lv_sub hl [0] rfl)
  · have hF := op_f hF c3
    refine lv_aload_n hx hb dX5_needTurret_7 rfl (lv_at hl 1 rfl) ?_
    refine lv_aload_n hx hb dX5_needTurret_8 rfl (lv_at hl 0 rfl) ?_
    refine k_get (v := .ref (a0 5)) C fg_X5_31 hP 0 rfl rfl dX5_needTurret_9 ?_
    refine lv_aload_n hx hb dX5_needTurret_12 rfl (lv_at hl 0 rfl) ?_
    refine k_get (v := .int (S0.1 6)) C fg_X5_80 hP 0 rfl rfl dX5_needTurret_13 ?_
    obtain ⟨h4, hF⟩ := op_ck hF
    refine k_lld (f := S0.2.2.2 4) C hP 4 rfl h4 dX5_needTurret_16 ?_
    obtain ⟨r6, hc5, hF⟩ := ob1_s hF
    refine k_iro C (k_rV (As := [.long (S0.2.2.2 4 (S0.1 6).toNatClampNeg)]) (rest := []) C (c_X8_turretNamed l D q o1 a1 S1 _ (S0.2.2.2 4 (S0.1 6).toNatClampNeg) hc5) kc_X8_turretNamed ml_X5_132 rfl rfl (by decide) (flP hP [1] rfl) (flD hD [1] (by decide) rfl) hS (va_recv hK hP (ci := 8) (q0 := 5) rfl rfl) rfl hl.1 rfl (Nat.le_of_ble_eq_true rfl) dX5_needTurret_17 (by decide)) hP hD hS [1] [0] [g5 q o0 a0 tp S0] 2 (by decide) rfl rfl rfl rfl (fun H locs hP hD hS => ?_)
    refine lv_goto (tgt := 24) hx hb dX5_needTurret_20 (by decide) ?_
    exact b_X5_needTurret_24 C hF hP hD hS (lv_sub hl [0] rfl)

abbrev rm_X5_needNumber : Room := ({ frames := 1, cells := 0, slots := 0, locals := 21 } : Room)
def F_X5_needNumber_49 (S0 : St) : Option (Int32 × St) := ob1 (F_X5_fail S0 (2 : Int32)) fun U2 => some ((-1 : Int32), U2)
def F_X5_needNumber_21 (S0 : St) : Option (Int32 × St) := ob1 (F_X5_fail S0 (1 : Int32)) fun U2 => some ((-1 : Int32), U2)
def F_X5_needNumber (S0 : St) (x1 : Int32) (x2 : Int32) : Option (Int32 × St) := if (S0.1 8) = 0 then (if oob (S0.1 6) 901 then none else if (S0.2.2.1 3 (S0.1 6).toNatClampNeg) = (37 : Int32) then (if oob (S0.1 6) 901 then none else nw ((S0.2.2.2 4 (S0.1 6).toNatClampNeg).toInt32) fun v5 => if v5 < x1 then (F_X5_needNumber_49 S0) else (if v5 ≤ x2 then (ob1 (F_X5_next S0) fun U10 => some (v5, U10)) else (F_X5_needNumber_49 S0))) else (F_X5_needNumber_21 S0)) else (F_X5_needNumber_21 S0)
set_option maxRecDepth 100000 in
set_option maxHeartbeats 4000000 in
theorem b_X5_needNumber_49 {p : Program} {l : Launch} {e : Env} {s : State} {m : MethodId} {args : Array Value} {below : List Frame} {meth : Method} {c : Code} {D : va_G} {q : Nat → ClassId} {A : Nat → Prop} {tp : Nat} {o0 : Nat} {a0 : Nat → Nat} {r : Int32} {T0 : St} (C : cx p s m args meth c cX5_needNumber 4 (some .int) RX5 D q A) {S0 : St} (hF : F_X5_needNumber_49 S0 = some (r, T0)) {H : Heap} {locs : List Loc} (hP : va_P D vwCl (fl [g5 q o0 a0 tp S0]) H) (hD : va_D A (fl [g5 q o0 a0 tp S0])) (hS : va_S A s.heap H locs) {ls : Array Slot} (hl : lv_has ls 4 [(0, .ref o0)]) : W p l e rm_X5_needNumber s m args below meth c H locs 0 0 (MQ below (QI D A r (fl [g5 q o0 a0 tp T0])) args s 0 0 A) (F0 m 49 ls []) := by
  unfold F_X5_needNumber_49 at hF
  obtain ⟨hx, hb, hr, hml, hown, hts, hlk, hA, hK, hN, hV⟩ := id C
  refine lv_aload_n hx hb dX5_needNumber_49 rfl (lv_at hl 0 rfl) ?_
  refine lv_iconst (v := (2 : Int32)) hx hb dX5_needNumber_50 (by decide) ?_
  obtain ⟨U2, hc1, hF⟩ := ob1_s hF
  refine k_vall C (k_rV (As := [.int (2 : Int32)]) (rest := []) C (c_X5_fail l D q tp o0 a0 S0 _ (2 : Int32) hc1) kc_X5_fail ml_X5_108 rfl rfl (by decide) hP hD hS (va_recv hK hP (ci := 5) (q0 := 0) rfl rfl) rfl hl.1 rfl (Nat.le_of_ble_eq_true rfl) dX5_needNumber_51 (by decide)) hP hD hS (by simp only [List.map_cons, List.map_nil, gad5]) (fun H locs hP hD hS => ?_)
  refine lv_iconst (v := (-1 : Int32)) hx hb dX5_needNumber_54 (by decide) ?_
  cases hF
  exact k_iret C hP hS dX5_needNumber_55
set_option maxRecDepth 100000 in
set_option maxHeartbeats 4000000 in
theorem b_X5_needNumber_21 {p : Program} {l : Launch} {e : Env} {s : State} {m : MethodId} {args : Array Value} {below : List Frame} {meth : Method} {c : Code} {D : va_G} {q : Nat → ClassId} {A : Nat → Prop} {tp : Nat} {o0 : Nat} {a0 : Nat → Nat} {r : Int32} {T0 : St} (C : cx p s m args meth c cX5_needNumber 4 (some .int) RX5 D q A) {S0 : St} (hF : F_X5_needNumber_21 S0 = some (r, T0)) {H : Heap} {locs : List Loc} (hP : va_P D vwCl (fl [g5 q o0 a0 tp S0]) H) (hD : va_D A (fl [g5 q o0 a0 tp S0])) (hS : va_S A s.heap H locs) {ls : Array Slot} (hl : lv_has ls 4 [(0, .ref o0)]) : W p l e rm_X5_needNumber s m args below meth c H locs 0 0 (MQ below (QI D A r (fl [g5 q o0 a0 tp T0])) args s 0 0 A) (F0 m 21 ls []) := by
  unfold F_X5_needNumber_21 at hF
  obtain ⟨hx, hb, hr, hml, hown, hts, hlk, hA, hK, hN, hV⟩ := id C
  refine lv_aload_n hx hb dX5_needNumber_21 rfl (lv_at hl 0 rfl) ?_
  refine lv_iconst (v := (1 : Int32)) hx hb dX5_needNumber_22 (by decide) ?_
  obtain ⟨U2, hc1, hF⟩ := ob1_s hF
  refine k_vall C (k_rV (As := [.int (1 : Int32)]) (rest := []) C (c_X5_fail l D q tp o0 a0 S0 _ (1 : Int32) hc1) kc_X5_fail ml_X5_108 rfl rfl (by decide) hP hD hS (va_recv hK hP (ci := 5) (q0 := 0) rfl rfl) rfl hl.1 rfl (Nat.le_of_ble_eq_true rfl) dX5_needNumber_23 (by decide)) hP hD hS (by simp only [List.map_cons, List.map_nil, gad5]) (fun H locs hP hD hS => ?_)
  refine lv_iconst (v := (-1 : Int32)) hx hb dX5_needNumber_26 (by decide) ?_
  cases hF
  exact k_iret C hP hS dX5_needNumber_27
set_option maxRecDepth 100000 in
set_option maxHeartbeats 4000000 in
theorem c_X5_needNumber (l : Launch) (D : va_G) (q : Nat → ClassId) (tp : Nat) (o0 : Nat) (a0 : Nat → Nat) (S0 : St) (sz : Nat) (x1 : Int32) (x2 : Int32) {r : Int32} {T0 : St} (hF : F_X5_needNumber S0 x1 x2 = some (r, T0)) : Met l yX5_needNumber (Cond.code yX5_needNumber cX5_needNumber 4 (some .int) :: TB) rm_X5_needNumber (PC D q [.ref o0, .int x1, .int x2] (fl [g5 q o0 a0 tp S0]) sz) ((fun A => QI D A r (fl [g5 q o0 a0 tp T0])) (va_A (fl [g5 q o0 a0 tp S0]) sz)) 0 0 (va_A (fl [g5 q o0 a0 tp S0]) sz) := by
  refine k_met (w0 := fl [g5 q o0 a0 tp S0]) (Q := fun A => QI D A r (fl [g5 q o0 a0 tp T0])) (by decide +kernel) (Nat.le_of_ble_eq_true rfl) ?_
  intro p e s m args below meth c A ls C hP hD hS hl
  have hl : lv_has ls 4 [(0, .ref o0), (1, .int x1), (2, .int x2)] := hl
  unfold F_X5_needNumber at hF
  have C : cx p s m args meth c cX5_needNumber 4 (some .int) RX5 D q A := C
  obtain ⟨hx, hb, hr, hml, hown, hts, hlk, hA, hK, hN, hV⟩ := id C
  refine lv_aload_n hx hb dX5_needNumber_0 rfl (lv_at hl 0 rfl) ?_
  refine k_get (v := .int (S0.1 8)) C fg_X5_83 hP 0 rfl rfl dX5_needNumber_1 ?_
  refine lv_if_ne (tgt := 21) hx hb dX5_needNumber_4 (by decide) (fun c1 => ?_) (fun c1 => ?_)
  · have hF := op_f hF c1
    exact b_X5_needNumber_21 C hF hP hD hS (lv_sub hl [0] rfl)
  · have hF := op_t hF c1
    refine lv_aload_n hx hb dX5_needNumber_7 rfl (lv_at hl 0 rfl) ?_
    refine k_get (v := .ref (a0 4)) C fg_X5_28 hP 0 rfl rfl dX5_needNumber_8 ?_
    refine lv_aload_n hx hb dX5_needNumber_11 rfl (lv_at hl 0 rfl) ?_
    refine k_get (v := .int (S0.1 6)) C fg_X5_80 hP 0 rfl rfl dX5_needNumber_12 ?_
    obtain ⟨h2, hF⟩ := op_ck hF
    refine k_ild (f := S0.2.2.1 3) C hP 3 rfl h2 dX5_needNumber_15 ?_
    refine lv_bipush (v := (37 : Int32)) hx hb dX5_needNumber_16 (by decide) ?_
    refine lv_icmp_eq (tgt := 28) hx hb dX5_needNumber_18 (by decide) (fun c3 => ?_) (fun c3 => ?_)
    · have hF := op_t hF c3
      refine lv_aload_n hx hb dX5_needNumber_28 rfl (lv_at hl 0 rfl) ?_
      refine k_get (v := .ref (a0 5)) C fg_X5_31 hP 0 rfl rfl dX5_needNumber_29 ?_
      refine lv_aload_n hx hb dX5_needNumber_32 rfl (lv_at hl 0 rfl) ?_
      refine k_get (v := .int (S0.1 6)) C fg_X5_80 hP 0 rfl rfl dX5_needNumber_33 ?_
      obtain ⟨h4, hF⟩ := op_ck hF
      refine k_lld (f := S0.2.2.2 4) C hP 4 rfl h4 dX5_needNumber_36 ?_
      refine lv_l2i (v := (S0.2.2.2 4 (S0.1 6).toNatClampNeg).toInt32) hx hb dX5_needNumber_37 rfl ?_
      obtain ⟨v5, e6, hF⟩ := nw_s hF
      refine k_rni e6 ?_
      refine lv_istore_n (lv' := [(3, .int v5), (0, .ref o0), (1, .int x1), (2, .int x2)]) hx hb dX5_needNumber_38 rfl hl (by decide) rfl (fun ls hl => ?_)
      refine lv_iload_n hx hb dX5_needNumber_39 rfl (lv_at hl 0 rfl) ?_
      refine lv_iload_n hx hb dX5_needNumber_40 rfl (lv_at hl 2 rfl) ?_
      refine lv_icmp_lt (tgt := 49) hx hb dX5_needNumber_41 (by decide) (fun c7 => ?_) (fun c7 => ?_)
      · have hF := op_t hF c7
        exact b_X5_needNumber_49 C hF hP hD hS (lv_sub hl [1] rfl)
      · have hF := op_f hF c7
        refine lv_iload_n hx hb dX5_needNumber_44 rfl (lv_at hl 0 rfl) ?_
        refine lv_iload_n hx hb dX5_needNumber_45 rfl (lv_at hl 3 rfl) ?_
        refine lv_icmp_le (tgt := 56) hx hb dX5_needNumber_46 (by decide) (fun c8 => ?_) (fun c8 => ?_)
        · have hF := op_t hF c8
          refine lv_aload_n hx hb dX5_needNumber_56 rfl (lv_at hl 1 rfl) ?_
          obtain ⟨U10, hc9, hF⟩ := ob1_s hF
          refine k_vall C (k_rV (As := []) (rest := []) C (c_X5_next l D q tp o0 a0 S0 _ hc9) kc_X5_next ml_X5_114 rfl rfl (by decide) hP hD hS (va_recv hK hP (ci := 5) (q0 := 0) rfl rfl) rfl hl.1 rfl (Nat.le_of_ble_eq_true rfl) dX5_needNumber_57 (by decide)) hP hD hS (by simp only [List.map_cons, List.map_nil, gad5]) (fun H locs hP hD hS => ?_)
          refine lv_iload_n hx hb dX5_needNumber_60 rfl (lv_at hl 0 rfl) ?_
          cases hF
          exact k_iret C hP hS dX5_needNumber_61
        · have hF := op_f hF c8
          exact b_X5_needNumber_49 C hF hP hD hS (lv_sub hl [1] rfl)
    · have hF := op_f hF c3
      exact b_X5_needNumber_21 C hF hP hD hS (lv_sub hl [0] rfl)

abbrev rm_X0_readPlain : Room := ({ frames := 2, cells := 0, slots := 0, locals := 45 } : Room)
def F_X0_readPlain_43 (x3 : Int32) (s0 : Int32) (S0 : St) (S1 : St) (S2 : St) : Option (St × St) := if s0 = 0 then (ob2 (F_X5_needNumber S1 (1 : Int32) (60 : Int32)) fun r3 U4 => if oob x3 40 then none else nw (sA S0 1 x3 r3) fun U6 => some (U6, U4)) else (ob2 (F_X5_needTurret S1 S2) fun r9 U10 => if oob x3 40 then none else nw (sA S0 1 x3 r9) fun U12 => some (U12, U10))
def F_X0_readPlain_38 (x3 : Int32) (S0 : St) (S1 : St) (S2 : St) : Option (St × St) := F_X0_readPlain_43 x3 (1 : Int32) S0 S1 S2
def F_X0_readPlain (S0 : St) (S1 : St) (S2 : St) (x3 : Int32) : Option (St × St) := ob2 (F_X5_needWordFrom S1 (20 : Int32) (4 : Int32)) fun r2 U3 => if oob x3 40 then none else nw (sA S0 0 x3 ((20 : Int32) + r2)) fun U5 => if oob x3 40 then none else if (U5.2.2.1 0 x3.toNatClampNeg) = (21 : Int32) then (F_X0_readPlain_38 x3 U5 U3 S2) else (if oob x3 40 then none else if (U5.2.2.1 0 x3.toNatClampNeg) = (22 : Int32) then (F_X0_readPlain_38 x3 U5 U3 S2) else (F_X0_readPlain_43 x3 (0 : Int32) U5 U3 S2))
set_option maxRecDepth 100000 in
set_option maxHeartbeats 4000000 in
theorem b_X0_readPlain_43 {p : Program} {l : Launch} {e : Env} {s : State} {m : MethodId} {args : Array Value} {below : List Frame} {meth : Method} {c : Code} {D : va_G} {q : Nat → ClassId} {A : Nat → Prop} {tp : Nat} {o0 : Nat} {a0 : Nat → Nat} {o1 : Nat} {a1 : Nat → Nat} {o2 : Nat} {a2 : Nat → Nat} {T0 : St} {T1 : St} (C : cx p s m args meth c cX0_readPlain 5 none RX0 D q A) {x3 : Int32} {s0 : Int32} {S0 : St} {S1 : St} {S2 : St} (hF : F_X0_readPlain_43 x3 s0 S0 S1 S2 = some (T0, T1)) {H : Heap} {locs : List Loc} (hP : va_P D vwCl (fl [g0 q o0 a0 S0, g5 q o1 a1 tp S1, g8 q o2 a2 S2]) H) (hD : va_D A (fl [g0 q o0 a0 S0, g5 q o1 a1 tp S1, g8 q o2 a2 S2])) (hS : va_S A s.heap H locs) {ls : Array Slot} (hl : lv_has ls 5 [(0, .ref o0), (1, .ref o1), (2, .ref o2), (3, .int x3)]) : W p l e rm_X0_readPlain s m args below meth c H locs 0 0 (MQ below (QV D A (fl [g0 q o0 a0 T0, g5 q o1 a1 tp T1, g8 q o2 a2 S2])) args s 0 0 A) (F0 m 43 ls [.int s0]) := by
  unfold F_X0_readPlain_43 at hF
  obtain ⟨hx, hb, hr, hml, hown, hts, hlk, hA, hK, hN, hV⟩ := id C
  refine lv_istore (lv' := [(4, .int s0), (0, .ref o0), (1, .ref o1), (2, .ref o2), (3, .int x3)]) hx hb dX0_readPlain_43 hl (by decide) rfl (fun ls hl => ?_)
  refine lv_aload_n hx hb dX0_readPlain_45 rfl (lv_at hl 1 rfl) ?_
  refine k_get (v := .ref (a0 2)) C fg_X0_15 hP 0 rfl rfl dX0_readPlain_46 ?_
  refine lv_iload_n hx hb dX0_readPlain_49 rfl (lv_at hl 4 rfl) ?_
  refine lv_iload hx hb dX0_readPlain_50 (lv_at hl 0 rfl) ?_
  refine lv_if_eq (tgt := 63) hx hb dX0_readPlain_52 (by decide) (fun c1 => ?_) (fun c1 => ?_)
  · have hF := op_t hF c1
    refine lv_aload_n hx hb dX0_readPlain_63 rfl (lv_at hl 2 rfl) ?_
    refine lv_iconst (v := (1 : Int32)) hx hb dX0_readPlain_64 (by decide) ?_
    refine lv_bipush (v := (60 : Int32)) hx hb dX0_readPlain_65 (by decide) ?_
    obtain ⟨r3, U4, hc2, hF⟩ := ob2_s hF
    refine k_igrp (gs8 := [g0 q o0 a0 S0, g5 q o1 a1 tp U4, g8 q o2 a2 S2]) C (k_rV (As := [.int (1 : Int32), .int (60 : Int32)]) (rest := [.int x3, .ref (a0 2)]) C (c_X5_needNumber l D q tp o1 a1 S1 _ (1 : Int32) (60 : Int32) hc2) kc_X5_needNumber ml_X0_80 rfl rfl (by decide) (flP hP [1] rfl) (flD hD [1] (by decide) rfl) hS (va_recv hK hP (ci := 5) (q0 := 5) rfl rfl) rfl hl.1 rfl (Nat.le_of_ble_eq_true rfl) dX0_readPlain_67 (by decide)) hP hD hS [1] [0, 2] [g0 q o0 a0 S0, g8 q o2 a2 S2] 3 (by decide) rfl rfl rfl rfl rfl rfl (by simp only [List.map_cons, List.map_nil, gad0, gad5, gad8]) (fun H locs hP hD hS => ?_)
    obtain ⟨h5, hF⟩ := op_ck hF
    obtain ⟨U6, e7, hF⟩ := nw_s hF
    refine k_ist (f := S0.2.2.1 1) (W8 := fl [g0 q o0 a0 U6, g5 q o1 a1 tp U4, g8 q o2 a2 S2]) C hP hD hS 2 rfl h5 dX0_readPlain_70 (by rw [e7]; rfl) (fun H locs hP hD hS => ?_)
    cases hF
    exact k_vret C hP hS dX0_readPlain_71
  · have hF := op_f hF c1
    refine lv_aload_n hx hb dX0_readPlain_55 rfl (lv_at hl 2 rfl) ?_
    refine lv_aload_n hx hb dX0_readPlain_56 rfl (lv_at hl 3 rfl) ?_
    obtain ⟨r9, U10, hc8, hF⟩ := ob2_s hF
    refine k_igrp (gs8 := [g0 q o0 a0 S0, g5 q o1 a1 tp U10, g8 q o2 a2 S2]) C (k_rV (As := [.ref o2]) (rest := [.int x3, .ref (a0 2)]) C (c_X5_needTurret l D q tp o1 a1 S1 o2 a2 S2 _ hc8) kc_X5_needTurret ml_X0_77 rfl rfl (by decide) (flP hP [1, 2] rfl) (flD hD [1, 2] (by decide) rfl) hS (va_recv hK hP (ci := 5) (q0 := 5) rfl rfl) rfl hl.1 rfl (Nat.le_of_ble_eq_true rfl) dX0_readPlain_57 (by decide)) hP hD hS [1, 2] [0] [g0 q o0 a0 S0] 3 (by decide) rfl rfl rfl rfl rfl rfl (by simp only [List.map_cons, List.map_nil, gad0, gad5, gad8]) (fun H locs hP hD hS => ?_)
    refine lv_goto (tgt := 70) hx hb dX0_readPlain_60 (by decide) ?_
    obtain ⟨h11, hF⟩ := op_ck hF
    obtain ⟨U12, e13, hF⟩ := nw_s hF
    refine k_ist (f := S0.2.2.1 1) (W8 := fl [g0 q o0 a0 U12, g5 q o1 a1 tp U10, g8 q o2 a2 S2]) C hP hD hS 2 rfl h11 dX0_readPlain_70 (by rw [e13]; rfl) (fun H locs hP hD hS => ?_)
    cases hF
    exact k_vret C hP hS dX0_readPlain_71
set_option maxRecDepth 100000 in
set_option maxHeartbeats 4000000 in
theorem b_X0_readPlain_38 {p : Program} {l : Launch} {e : Env} {s : State} {m : MethodId} {args : Array Value} {below : List Frame} {meth : Method} {c : Code} {D : va_G} {q : Nat → ClassId} {A : Nat → Prop} {tp : Nat} {o0 : Nat} {a0 : Nat → Nat} {o1 : Nat} {a1 : Nat → Nat} {o2 : Nat} {a2 : Nat → Nat} {T0 : St} {T1 : St} (C : cx p s m args meth c cX0_readPlain 5 none RX0 D q A) {x3 : Int32} {S0 : St} {S1 : St} {S2 : St} (hF : F_X0_readPlain_38 x3 S0 S1 S2 = some (T0, T1)) {H : Heap} {locs : List Loc} (hP : va_P D vwCl (fl [g0 q o0 a0 S0, g5 q o1 a1 tp S1, g8 q o2 a2 S2]) H) (hD : va_D A (fl [g0 q o0 a0 S0, g5 q o1 a1 tp S1, g8 q o2 a2 S2])) (hS : va_S A s.heap H locs) {ls : Array Slot} (hl : lv_has ls 5 [(0, .ref o0), (1, .ref o1), (2, .ref o2), (3, .int x3)]) : W p l e rm_X0_readPlain s m args below meth c H locs 0 0 (MQ below (QV D A (fl [g0 q o0 a0 T0, g5 q o1 a1 tp T1, g8 q o2 a2 S2])) args s 0 0 A) (F0 m 38 ls []) := by
  unfold F_X0_readPlain_38 at hF
  obtain ⟨hx, hb, hr, hml, hown, hts, hlk, hA, hK, hN, hV⟩ := id C
  refine lv_iconst (v := (1 : Int32)) hx hb dX0_readPlain_38 (by decide) ?_
  refine lv_goto (tgt := 43) hx hb dX0_readPlain_39 (by decide) ?_
  exact b_X0_readPlain_43 C hF hP hD hS (lv_sub hl [0, 1, 2, 3] rfl)
set_option maxRecDepth 100000 in
set_option maxHeartbeats 4000000 in
theorem c_X0_readPlain (l : Launch) (D : va_G) (q : Nat → ClassId) (tp : Nat) (o0 : Nat) (a0 : Nat → Nat) (S0 : St) (o1 : Nat) (a1 : Nat → Nat) (S1 : St) (o2 : Nat) (a2 : Nat → Nat) (S2 : St) (sz : Nat) (x3 : Int32) {T0 : St} {T1 : St} (hF : F_X0_readPlain S0 S1 S2 x3 = some (T0, T1)) : Met l yX0_readPlain (Cond.code yX0_readPlain cX0_readPlain 5 none :: TB) rm_X0_readPlain (PC D q [.ref o0, .ref o1, .ref o2, .int x3] (fl [g0 q o0 a0 S0, g5 q o1 a1 tp S1, g8 q o2 a2 S2]) sz) ((fun A => QV D A (fl [g0 q o0 a0 T0, g5 q o1 a1 tp T1, g8 q o2 a2 S2])) (va_A (fl [g0 q o0 a0 S0, g5 q o1 a1 tp S1, g8 q o2 a2 S2]) sz)) 0 0 (va_A (fl [g0 q o0 a0 S0, g5 q o1 a1 tp S1, g8 q o2 a2 S2]) sz) := by
  refine k_met (w0 := fl [g0 q o0 a0 S0, g5 q o1 a1 tp S1, g8 q o2 a2 S2]) (Q := fun A => QV D A (fl [g0 q o0 a0 T0, g5 q o1 a1 tp T1, g8 q o2 a2 S2])) (by decide +kernel) (Nat.le_of_ble_eq_true rfl) ?_
  intro p e s m args below meth c A ls C hP hD hS hl
  have hl : lv_has ls 5 [(0, .ref o0), (1, .ref o1), (2, .ref o2), (3, .int x3)] := hl
  unfold F_X0_readPlain at hF
  have C : cx p s m args meth c cX0_readPlain 5 none RX0 D q A := C
  obtain ⟨hx, hb, hr, hml, hown, hts, hlk, hA, hK, hN, hV⟩ := id C
  refine lv_aload_n hx hb dX0_readPlain_0 rfl (lv_at hl 0 rfl) ?_
  refine k_get (v := .ref (a0 1)) C fg_X0_9 hP 0 rfl rfl dX0_readPlain_1 ?_
  refine lv_iload_n hx hb dX0_readPlain_4 rfl (lv_at hl 3 rfl) ?_
  refine lv_bipush (v := (20 : Int32)) hx hb dX0_readPlain_5 (by decide) ?_
  refine lv_aload_n hx hb dX0_readPlain_7 rfl (lv_at hl 1 rfl) ?_
  refine lv_bipush (v := (20 : Int32)) hx hb dX0_readPlain_8 (by decide) ?_
  refine lv_iconst (v := (4 : Int32)) hx hb dX0_readPlain_10 (by decide) ?_
  obtain ⟨r2, U3, hc1, hF⟩ := ob2_s hF
  refine k_igrp (gs8 := [g0 q o0 a0 S0, g5 q o1 a1 tp U3, g8 q o2 a2 S2]) C (k_rV (As := [.int (20 : Int32), .int (4 : Int32)]) (rest := [.int (20 : Int32), .int x3, .ref (a0 1)]) C (c_X5_needWordFrom l D q tp o1 a1 S1 _ (20 : Int32) (4 : Int32) hc1) kc_X5_needWordFrom ml_X0_73 rfl rfl (by decide) (flP hP [1] rfl) (flD hD [1] (by decide) rfl) hS (va_recv hK hP (ci := 5) (q0 := 5) rfl rfl) rfl hl.1 rfl (Nat.le_of_ble_eq_true rfl) dX0_readPlain_11 (by decide)) hP hD hS [1] [0, 2] [g0 q o0 a0 S0, g8 q o2 a2 S2] 3 (by decide) rfl rfl rfl rfl rfl rfl (by simp only [List.map_cons, List.map_nil, gad0, gad5, gad8]) (fun H locs hP hD hS => ?_)
  refine lv_iadd hx hb dX0_readPlain_14 ?_
  obtain ⟨h4, hF⟩ := op_ck hF
  obtain ⟨U5, e6, hF⟩ := nw_s hF
  refine k_ist (f := S0.2.2.1 0) (W8 := fl [g0 q o0 a0 U5, g5 q o1 a1 tp U3, g8 q o2 a2 S2]) C hP hD hS 1 rfl h4 dX0_readPlain_15 (by rw [e6]; rfl) (fun H locs hP hD hS => ?_)
  refine lv_aload_n hx hb dX0_readPlain_16 rfl (lv_at hl 0 rfl) ?_
  refine k_get (v := .ref (a0 1)) C fg_X0_9 hP 0 rfl rfl dX0_readPlain_17 ?_
  refine lv_iload_n hx hb dX0_readPlain_20 rfl (lv_at hl 3 rfl) ?_
  obtain ⟨h7, hF⟩ := op_ck hF
  refine k_ild (f := U5.2.2.1 0) C hP 1 rfl h7 dX0_readPlain_21 ?_
  refine lv_bipush (v := (21 : Int32)) hx hb dX0_readPlain_22 (by decide) ?_
  refine lv_icmp_eq (tgt := 38) hx hb dX0_readPlain_24 (by decide) (fun c8 => ?_) (fun c8 => ?_)
  · have hF := op_t hF c8
    exact b_X0_readPlain_38 C hF hP hD hS (lv_sub hl [0, 1, 2, 3] rfl)
  · have hF := op_f hF c8
    refine lv_aload_n hx hb dX0_readPlain_27 rfl (lv_at hl 0 rfl) ?_
    refine k_get (v := .ref (a0 1)) C fg_X0_9 hP 0 rfl rfl dX0_readPlain_28 ?_
    refine lv_iload_n hx hb dX0_readPlain_31 rfl (lv_at hl 3 rfl) ?_
    obtain ⟨h9, hF⟩ := op_ck hF
    refine k_ild (f := U5.2.2.1 0) C hP 1 rfl h9 dX0_readPlain_32 ?_
    refine lv_bipush (v := (22 : Int32)) hx hb dX0_readPlain_33 (by decide) ?_
    refine lv_icmp_ne (tgt := 42) hx hb dX0_readPlain_35 (by decide) (fun c10 => ?_) (fun c10 => ?_)
    · have hF := op_f hF c10
      refine lv_iconst (v := (0 : Int32)) hx hb dX0_readPlain_42 (by decide) ?_
      exact b_X0_readPlain_43 C hF hP hD hS (lv_sub hl [0, 1, 2, 3] rfl)
    · have hF := op_t hF c10
      exact b_X0_readPlain_38 C hF hP hD hS (lv_sub hl [0, 1, 2, 3] rfl)

abbrev rm_X5_needPerson : Room := ({ frames := 2, cells := 0, slots := 0, locals := 45 } : Room)
def F_X5_needPerson (S0 : St) (S1 : St) : Option (Int32 × St) := ob2 (F_X5_seePerson S0 S1) fun r2 U3 => if r2 = (-1 : Int32) then (some (r2, U3)) else (ob1 (F_X5_next U3) fun U6 => some (r2, U6))
set_option maxRecDepth 100000 in
set_option maxHeartbeats 4000000 in
theorem c_X5_needPerson (l : Launch) (D : va_G) (q : Nat → ClassId) (tp : Nat) (o0 : Nat) (a0 : Nat → Nat) (S0 : St) (o1 : Nat) (a1 : Nat → Nat) (S1 : St) (sz : Nat) {r : Int32} {T0 : St} (hF : F_X5_needPerson S0 S1 = some (r, T0)) : Met l yX5_needPerson (Cond.code yX5_needPerson cX5_needPerson 3 (some .int) :: TB) rm_X5_needPerson (PC D q [.ref o0, .ref o1] (fl [g5 q o0 a0 tp S0, g8 q o1 a1 S1]) sz) ((fun A => QI D A r (fl [g5 q o0 a0 tp T0, g8 q o1 a1 S1])) (va_A (fl [g5 q o0 a0 tp S0, g8 q o1 a1 S1]) sz)) 0 0 (va_A (fl [g5 q o0 a0 tp S0, g8 q o1 a1 S1]) sz) := by
  refine k_met (w0 := fl [g5 q o0 a0 tp S0, g8 q o1 a1 S1]) (Q := fun A => QI D A r (fl [g5 q o0 a0 tp T0, g8 q o1 a1 S1])) (by decide +kernel) (Nat.le_of_ble_eq_true rfl) ?_
  intro p e s m args below meth c A ls C hP hD hS hl
  have hl : lv_has ls 3 [(0, .ref o0), (1, .ref o1)] := hl
  unfold F_X5_needPerson at hF
  have C : cx p s m args meth c cX5_needPerson 3 (some .int) RX5 D q A := C
  obtain ⟨hx, hb, hr, hml, hown, hts, hlk, hA, hK, hN, hV⟩ := id C
  refine lv_aload_n hx hb dX5_needPerson_0 rfl (lv_at hl 0 rfl) ?_
  refine lv_aload_n hx hb dX5_needPerson_1 rfl (lv_at hl 1 rfl) ?_
  obtain ⟨r2, U3, hc1, hF⟩ := ob2_s hF
  refine k_iall C (k_rV (As := [.ref o1]) (rest := []) C (c_X5_seePerson l D q tp o0 a0 S0 o1 a1 S1 _ hc1) kc_X5_seePerson ml_X5_140 rfl rfl (by decide) hP hD hS (va_recv hK hP (ci := 5) (q0 := 0) rfl rfl) rfl hl.1 rfl (Nat.le_of_ble_eq_true rfl) dX5_needPerson_2 (by decide)) hP hD hS (by simp only [List.map_cons, List.map_nil, gad5, gad8]) (fun H locs hP hD hS => ?_)
  refine lv_istore_n (lv' := [(2, .int r2), (0, .ref o0), (1, .ref o1)]) hx hb dX5_needPerson_5 rfl hl (by decide) rfl (fun ls hl => ?_)
  refine lv_iload_n hx hb dX5_needPerson_6 rfl (lv_at hl 0 rfl) ?_
  refine lv_iconst (v := (-1 : Int32)) hx hb dX5_needPerson_7 (by decide) ?_
  refine lv_icmp_eq (tgt := 15) hx hb dX5_needPerson_8 (by decide) (fun c4 => ?_) (fun c4 => ?_)
  · have hF := op_t hF c4
    refine lv_iload_n hx hb dX5_needPerson_15 rfl (lv_at hl 0 rfl) ?_
    cases hF
    exact k_iret C hP hS dX5_needPerson_16
  · have hF := op_f hF c4
    refine lv_aload_n hx hb dX5_needPerson_11 rfl (lv_at hl 1 rfl) ?_
    obtain ⟨U6, hc5, hF⟩ := ob1_s hF
    refine k_vgrp (gs8 := [g5 q o0 a0 tp U6, g8 q o1 a1 S1]) C (k_rV (As := []) (rest := []) C (c_X5_next l D q tp o0 a0 U3 _ hc5) kc_X5_next ml_X5_114 rfl rfl (by decide) (flP hP [0] rfl) (flD hD [0] (by decide) rfl) hS (va_recv hK hP (ci := 5) (q0 := 0) rfl rfl) rfl hl.1 rfl (Nat.le_of_ble_eq_true rfl) dX5_needPerson_12 (by decide)) hP hD hS [0] [1] [g8 q o1 a1 S1] 2 (by decide) rfl rfl rfl rfl rfl rfl (by simp only [List.map_cons, List.map_nil, gad5, gad8]) (fun H locs hP hD hS => ?_)
    refine lv_iload_n hx hb dX5_needPerson_15 rfl (lv_at hl 0 rfl) ?_
    cases hF
    exact k_iret C hP hS dX5_needPerson_16

abbrev rm_X0_readOfPerson : Room := ({ frames := 3, cells := 0, slots := 0, locals := 67 } : Room)
def F_X0_readOfPerson (S0 : St) (S1 : St) (S2 : St) (x3 : Int32) : Option (St × St) := ob2 (F_X5_needWordFrom S1 (17 : Int32) (3 : Int32)) fun r2 U3 => if oob x3 40 then none else nw (sA S0 0 x3 ((17 : Int32) + r2)) fun U5 => if oob x3 40 then none else if (U5.2.2.1 0 x3.toNatClampNeg) = (17 : Int32) then (ob2 (F_X5_needTurret U3 S2) fun r24 U25 => if oob x3 40 then none else nw (sA U5 2 x3 r24) fun U27 => some (U27, U25)) else (if oob x3 40 then none else if (U5.2.2.1 0 x3.toNatClampNeg) = (19 : Int32) then (ob2 (F_X5_needPerson U3 S2) fun r12 U13 => if oob x3 40 then none else nw (sA U5 2 x3 r12) fun U15 => ob2 (F_X5_needWordFrom U13 (9 : Int32) (8 : Int32)) fun r18 U19 => if oob x3 40 then none else nw (sA U15 3 x3 r18) fun U21 => some (U21, U19)) else (some (U5, U3)))
set_option maxRecDepth 100000 in
set_option maxHeartbeats 4000000 in
theorem c_X0_readOfPerson (l : Launch) (D : va_G) (q : Nat → ClassId) (tp : Nat) (o0 : Nat) (a0 : Nat → Nat) (S0 : St) (o1 : Nat) (a1 : Nat → Nat) (S1 : St) (o2 : Nat) (a2 : Nat → Nat) (S2 : St) (sz : Nat) (x3 : Int32) {T0 : St} {T1 : St} (hF : F_X0_readOfPerson S0 S1 S2 x3 = some (T0, T1)) : Met l yX0_readOfPerson (Cond.code yX0_readOfPerson cX0_readOfPerson 4 none :: TB) rm_X0_readOfPerson (PC D q [.ref o0, .ref o1, .ref o2, .int x3] (fl [g0 q o0 a0 S0, g5 q o1 a1 tp S1, g8 q o2 a2 S2]) sz) ((fun A => QV D A (fl [g0 q o0 a0 T0, g5 q o1 a1 tp T1, g8 q o2 a2 S2])) (va_A (fl [g0 q o0 a0 S0, g5 q o1 a1 tp S1, g8 q o2 a2 S2]) sz)) 0 0 (va_A (fl [g0 q o0 a0 S0, g5 q o1 a1 tp S1, g8 q o2 a2 S2]) sz) := by
  refine k_met (w0 := fl [g0 q o0 a0 S0, g5 q o1 a1 tp S1, g8 q o2 a2 S2]) (Q := fun A => QV D A (fl [g0 q o0 a0 T0, g5 q o1 a1 tp T1, g8 q o2 a2 S2])) (by decide +kernel) (Nat.le_of_ble_eq_true rfl) ?_
  intro p e s m args below meth c A ls C hP hD hS hl
  have hl : lv_has ls 4 [(0, .ref o0), (1, .ref o1), (2, .ref o2), (3, .int x3)] := hl
  unfold F_X0_readOfPerson at hF
  have C : cx p s m args meth c cX0_readOfPerson 4 none RX0 D q A := C
  obtain ⟨hx, hb, hr, hml, hown, hts, hlk, hA, hK, hN, hV⟩ := id C
  refine lv_aload_n hx hb dX0_readOfPerson_0 rfl (lv_at hl 0 rfl) ?_
  refine k_get (v := .ref (a0 1)) C fg_X0_9 hP 0 rfl rfl dX0_readOfPerson_1 ?_
  refine lv_iload_n hx hb dX0_readOfPerson_4 rfl (lv_at hl 3 rfl) ?_
  refine lv_bipush (v := (17 : Int32)) hx hb dX0_readOfPerson_5 (by decide) ?_
  refine lv_aload_n hx hb dX0_readOfPerson_7 rfl (lv_at hl 1 rfl) ?_
  refine lv_bipush (v := (17 : Int32)) hx hb dX0_readOfPerson_8 (by decide) ?_
  refine lv_iconst (v := (3 : Int32)) hx hb dX0_readOfPerson_10 (by decide) ?_
  obtain ⟨r2, U3, hc1, hF⟩ := ob2_s hF
  refine k_igrp (gs8 := [g0 q o0 a0 S0, g5 q o1 a1 tp U3, g8 q o2 a2 S2]) C (k_rV (As := [.int (17 : Int32), .int (3 : Int32)]) (rest := [.int (17 : Int32), .int x3, .ref (a0 1)]) C (c_X5_needWordFrom l D q tp o1 a1 S1 _ (17 : Int32) (3 : Int32) hc1) kc_X5_needWordFrom ml_X0_73 rfl rfl (by decide) (flP hP [1] rfl) (flD hD [1] (by decide) rfl) hS (va_recv hK hP (ci := 5) (q0 := 5) rfl rfl) rfl hl.1 rfl (Nat.le_of_ble_eq_true rfl) dX0_readOfPerson_11 (by decide)) hP hD hS [1] [0, 2] [g0 q o0 a0 S0, g8 q o2 a2 S2] 3 (by decide) rfl rfl rfl rfl rfl rfl (by simp only [List.map_cons, List.map_nil, gad0, gad5, gad8]) (fun H locs hP hD hS => ?_)
  refine lv_iadd hx hb dX0_readOfPerson_14 ?_
  obtain ⟨h4, hF⟩ := op_ck hF
  obtain ⟨U5, e6, hF⟩ := nw_s hF
  refine k_ist (f := S0.2.2.1 0) (W8 := fl [g0 q o0 a0 U5, g5 q o1 a1 tp U3, g8 q o2 a2 S2]) C hP hD hS 1 rfl h4 dX0_readOfPerson_15 (by rw [e6]; rfl) (fun H locs hP hD hS => ?_)
  refine lv_aload_n hx hb dX0_readOfPerson_16 rfl (lv_at hl 0 rfl) ?_
  refine k_get (v := .ref (a0 1)) C fg_X0_9 hP 0 rfl rfl dX0_readOfPerson_17 ?_
  refine lv_iload_n hx hb dX0_readOfPerson_20 rfl (lv_at hl 3 rfl) ?_
  obtain ⟨h7, hF⟩ := op_ck hF
  refine k_ild (f := U5.2.2.1 0) C hP 1 rfl h7 dX0_readOfPerson_21 ?_
  refine lv_bipush (v := (17 : Int32)) hx hb dX0_readOfPerson_22 (by decide) ?_
  refine lv_icmp_ne (tgt := 41) hx hb dX0_readOfPerson_24 (by decide) (fun c8 => ?_) (fun c8 => ?_)
  · have hF := op_f hF c8
    refine lv_aload_n hx hb dX0_readOfPerson_41 rfl (lv_at hl 0 rfl) ?_
    refine k_get (v := .ref (a0 1)) C fg_X0_9 hP 0 rfl rfl dX0_readOfPerson_42 ?_
    refine lv_iload_n hx hb dX0_readOfPerson_45 rfl (lv_at hl 3 rfl) ?_
    obtain ⟨h9, hF⟩ := op_ck hF
    refine k_ild (f := U5.2.2.1 0) C hP 1 rfl h9 dX0_readOfPerson_46 ?_
    refine lv_bipush (v := (19 : Int32)) hx hb dX0_readOfPerson_47 (by decide) ?_
    refine lv_icmp_ne (tgt := 77) hx hb dX0_readOfPerson_49 (by decide) (fun c10 => ?_) (fun c10 => ?_)
    · have hF := op_f hF c10
      cases hF
      exact k_vret C hP hS dX0_readOfPerson_77
    · have hF := op_t hF c10
      refine lv_aload_n hx hb dX0_readOfPerson_52 rfl (lv_at hl 0 rfl) ?_
      refine k_get (v := .ref (a0 3)) C fg_X0_18 hP 0 rfl rfl dX0_readOfPerson_53 ?_
      refine lv_iload_n hx hb dX0_readOfPerson_56 rfl (lv_at hl 3 rfl) ?_
      refine lv_aload_n hx hb dX0_readOfPerson_57 rfl (lv_at hl 1 rfl) ?_
      refine lv_aload_n hx hb dX0_readOfPerson_58 rfl (lv_at hl 2 rfl) ?_
      obtain ⟨r12, U13, hc11, hF⟩ := ob2_s hF
      refine k_igrp (gs8 := [g0 q o0 a0 U5, g5 q o1 a1 tp U13, g8 q o2 a2 S2]) C (k_rV (As := [.ref o2]) (rest := [.int x3, .ref (a0 3)]) C (c_X5_needPerson l D q tp o1 a1 U3 o2 a2 S2 _ hc11) kc_X5_needPerson ml_X0_83 rfl rfl (by decide) (flP hP [1, 2] rfl) (flD hD [1, 2] (by decide) rfl) hS (va_recv hK hP (ci := 5) (q0 := 5) rfl rfl) rfl hl.1 rfl (Nat.le_of_ble_eq_true rfl) dX0_readOfPerson_59 (by decide)) hP hD hS [1, 2] [0] [g0 q o0 a0 U5] 3 (by decide) rfl rfl rfl rfl rfl rfl (by simp only [List.map_cons, List.map_nil, gad0, gad5, gad8]) (fun H locs hP hD hS => ?_)
      obtain ⟨h14, hF⟩ := op_ck hF
      obtain ⟨U15, e16, hF⟩ := nw_s hF
      refine k_ist (f := U5.2.2.1 2) (W8 := fl [g0 q o0 a0 U15, g5 q o1 a1 tp U13, g8 q o2 a2 S2]) C hP hD hS 3 rfl h14 dX0_readOfPerson_62 (by rw [e16]; rfl) (fun H locs hP hD hS => ?_)
      refine lv_aload_n hx hb dX0_readOfPerson_63 rfl (lv_at hl 0 rfl) ?_
      refine k_get (v := .ref (a0 4)) C fg_X0_21 hP 0 rfl rfl dX0_readOfPerson_64 ?_
      refine lv_iload_n hx hb dX0_readOfPerson_67 rfl (lv_at hl 3 rfl) ?_
      refine lv_aload_n hx hb dX0_readOfPerson_68 rfl (lv_at hl 1 rfl) ?_
      refine lv_bipush (v := (9 : Int32)) hx hb dX0_readOfPerson_69 (by decide) ?_
      refine lv_bipush (v := (8 : Int32)) hx hb dX0_readOfPerson_71 (by decide) ?_
      obtain ⟨r18, U19, hc17, hF⟩ := ob2_s hF
      refine k_igrp (gs8 := [g0 q o0 a0 U15, g5 q o1 a1 tp U19, g8 q o2 a2 S2]) C (k_rV (As := [.int (9 : Int32), .int (8 : Int32)]) (rest := [.int x3, .ref (a0 4)]) C (c_X5_needWordFrom l D q tp o1 a1 U13 _ (9 : Int32) (8 : Int32) hc17) kc_X5_needWordFrom ml_X0_73 rfl rfl (by decide) (flP hP [1] rfl) (flD hD [1] (by decide) rfl) hS (va_recv hK hP (ci := 5) (q0 := 5) rfl rfl) rfl hl.1 rfl (Nat.le_of_ble_eq_true rfl) dX0_readOfPerson_73 (by decide)) hP hD hS [1] [0, 2] [g0 q o0 a0 U15, g8 q o2 a2 S2] 3 (by decide) rfl rfl rfl rfl rfl rfl (by simp only [List.map_cons, List.map_nil, gad0, gad5, gad8]) (fun H locs hP hD hS => ?_)
      obtain ⟨h20, hF⟩ := op_ck hF
      obtain ⟨U21, e22, hF⟩ := nw_s hF
      refine k_ist (f := U15.2.2.1 3) (W8 := fl [g0 q o0 a0 U21, g5 q o1 a1 tp U19, g8 q o2 a2 S2]) C hP hD hS 4 rfl h20 dX0_readOfPerson_76 (by rw [e22]; rfl) (fun H locs hP hD hS => ?_)
      cases hF
      exact k_vret C hP hS dX0_readOfPerson_77
  · have hF := op_t hF c8
    refine lv_aload_n hx hb dX0_readOfPerson_27 rfl (lv_at hl 0 rfl) ?_
    refine k_get (v := .ref (a0 3)) C fg_X0_18 hP 0 rfl rfl dX0_readOfPerson_28 ?_
    refine lv_iload_n hx hb dX0_readOfPerson_31 rfl (lv_at hl 3 rfl) ?_
    refine lv_aload_n hx hb dX0_readOfPerson_32 rfl (lv_at hl 1 rfl) ?_
    refine lv_aload_n hx hb dX0_readOfPerson_33 rfl (lv_at hl 2 rfl) ?_
    obtain ⟨r24, U25, hc23, hF⟩ := ob2_s hF
    refine k_igrp (gs8 := [g0 q o0 a0 U5, g5 q o1 a1 tp U25, g8 q o2 a2 S2]) C (k_rV (As := [.ref o2]) (rest := [.int x3, .ref (a0 3)]) C (c_X5_needTurret l D q tp o1 a1 U3 o2 a2 S2 _ hc23) kc_X5_needTurret ml_X0_77 rfl rfl (by decide) (flP hP [1, 2] rfl) (flD hD [1, 2] (by decide) rfl) hS (va_recv hK hP (ci := 5) (q0 := 5) rfl rfl) rfl hl.1 rfl (Nat.le_of_ble_eq_true rfl) dX0_readOfPerson_34 (by decide)) hP hD hS [1, 2] [0] [g0 q o0 a0 U5] 3 (by decide) rfl rfl rfl rfl rfl rfl (by simp only [List.map_cons, List.map_nil, gad0, gad5, gad8]) (fun H locs hP hD hS => ?_)
    obtain ⟨h26, hF⟩ := op_ck hF
    obtain ⟨U27, e28, hF⟩ := nw_s hF
    refine k_ist (f := U5.2.2.1 2) (W8 := fl [g0 q o0 a0 U27, g5 q o1 a1 tp U25, g8 q o2 a2 S2]) C hP hD hS 3 rfl h26 dX0_readOfPerson_37 (by rw [e28]; rfl) (fun H locs hP hD hS => ?_)
    refine lv_goto (tgt := 77) hx hb dX0_readOfPerson_38 (by decide) ?_
    cases hF
    exact k_vret C hP hS dX0_readOfPerson_77

abbrev rm_X0_readLine : Room := ({ frames := 4, cells := 0, slots := 0, locals := 90 } : Room)
def F_X0_readLine_91 (S0 : St) (S1 : St) (S2 : St) : Option (St × St) := nw (sI S0 4 ((S0.1 4) + (1 : Int32))) fun U1 => some (U1, S1)
def F_X0_readLine_41 (x3 : Int32) (S0 : St) (S1 : St) (S2 : St) : Option (St × St) := if (S1.1 8) = 0 then (if x3 = (-1 : Int32) then (ob2 (F_X0_readPlain S0 S1 S2 (S0.1 4)) fun U12 U13 => F_X0_readLine_91 U12 U13 S2) else (ob1 (F_X5_next S1) fun U4 => ob2 (F_X0_readOfPerson S0 U4 S2 (S0.1 4)) fun U6 U7 => if oob (U6.1 4) 40 then none else nw (sA U6 1 (U6.1 4) x3) fun U9 => F_X0_readLine_91 U9 U7 S2)) else (some (S0, S1))
def F_X0_readLine_19 (s0 : Int32) (S0 : St) (S1 : St) (S2 : St) : Option (St × St) := if (S1.1 8) = 0 then (if (S0.1 4) < (40 : Int32) then (F_X0_readLine_41 s0 S0 S1 S2) else (ob1 (F_X5_fail S1 (4 : Int32)) fun U4 => F_X0_readLine_41 s0 S0 U4 S2)) else (F_X0_readLine_41 s0 S0 S1 S2)
def F_X0_readLine (S0 : St) (S1 : St) (S2 : St) : Option (St × St) := ob1 (F_X5_isWordFrom S1 (20 : Int32) (4 : Int32)) fun r2 => if r2 = 0 then (ob2 (F_X5_seePerson S1 S2) fun r5 U6 => F_X0_readLine_19 r5 S0 U6 S2) else (F_X0_readLine_19 (-1 : Int32) S0 S1 S2)
set_option maxRecDepth 100000 in
set_option maxHeartbeats 4000000 in
theorem b_X0_readLine_91 {p : Program} {l : Launch} {e : Env} {s : State} {m : MethodId} {args : Array Value} {below : List Frame} {meth : Method} {c : Code} {D : va_G} {q : Nat → ClassId} {A : Nat → Prop} {tp : Nat} {o0 : Nat} {a0 : Nat → Nat} {o1 : Nat} {a1 : Nat → Nat} {o2 : Nat} {a2 : Nat → Nat} {T0 : St} {T1 : St} (C : cx p s m args meth c cX0_readLine 4 none RX0 D q A) {S0 : St} {S1 : St} {S2 : St} (hF : F_X0_readLine_91 S0 S1 S2 = some (T0, T1)) {H : Heap} {locs : List Loc} (hP : va_P D vwCl (fl [g0 q o0 a0 S0, g5 q o1 a1 tp S1, g8 q o2 a2 S2]) H) (hD : va_D A (fl [g0 q o0 a0 S0, g5 q o1 a1 tp S1, g8 q o2 a2 S2])) (hS : va_S A s.heap H locs) {ls : Array Slot} (hl : lv_has ls 4 [(0, .ref o0)]) : W p l e rm_X0_readLine s m args below meth c H locs 0 0 (MQ below (QV D A (fl [g0 q o0 a0 T0, g5 q o1 a1 tp T1, g8 q o2 a2 S2])) args s 0 0 A) (F0 m 91 ls []) := by
  unfold F_X0_readLine_91 at hF
  obtain ⟨hx, hb, hr, hml, hown, hts, hlk, hA, hK, hN, hV⟩ := id C
  refine lv_aload_n hx hb dX0_readLine_91 rfl (lv_at hl 0 rfl) ?_
  refine lv_dup hx hb dX0_readLine_92 rfl ?_
  refine k_get (v := .int (S0.1 4)) C fg_X0_24 hP 0 rfl rfl dX0_readLine_93 ?_
  refine lv_iconst (v := (1 : Int32)) hx hb dX0_readLine_96 (by decide) ?_
  refine lv_iadd hx hb dX0_readLine_97 ?_
  obtain ⟨U1, e2, hF⟩ := nw_s hF
  refine k_put (W8 := fl [g0 q o0 a0 U1, g5 q o1 a1 tp S1, g8 q o2 a2 S2]) C fp_X0_24 hP hD hS 0 rfl rfl rfl (Nat.le_of_ble_eq_true rfl) dX0_readLine_98 (by rw [e2]; rfl) (fun H locs hP hD hS => ?_)
  cases hF
  exact k_vret C hP hS dX0_readLine_101
set_option maxRecDepth 100000 in
set_option maxHeartbeats 4000000 in
theorem b_X0_readLine_41 {p : Program} {l : Launch} {e : Env} {s : State} {m : MethodId} {args : Array Value} {below : List Frame} {meth : Method} {c : Code} {D : va_G} {q : Nat → ClassId} {A : Nat → Prop} {tp : Nat} {o0 : Nat} {a0 : Nat → Nat} {o1 : Nat} {a1 : Nat → Nat} {o2 : Nat} {a2 : Nat → Nat} {T0 : St} {T1 : St} (C : cx p s m args meth c cX0_readLine 4 none RX0 D q A) {x3 : Int32} {S0 : St} {S1 : St} {S2 : St} (hF : F_X0_readLine_41 x3 S0 S1 S2 = some (T0, T1)) {H : Heap} {locs : List Loc} (hP : va_P D vwCl (fl [g0 q o0 a0 S0, g5 q o1 a1 tp S1, g8 q o2 a2 S2]) H) (hD : va_D A (fl [g0 q o0 a0 S0, g5 q o1 a1 tp S1, g8 q o2 a2 S2])) (hS : va_S A s.heap H locs) {ls : Array Slot} (hl : lv_has ls 4 [(0, .ref o0), (1, .ref o1), (2, .ref o2), (3, .int x3)]) : W p l e rm_X0_readLine s m args below meth c H locs 0 0 (MQ below (QV D A (fl [g0 q o0 a0 T0, g5 q o1 a1 tp T1, g8 q o2 a2 S2])) args s 0 0 A) (F0 m 41 ls []) := by
  unfold F_X0_readLine_41 at hF
  obtain ⟨hx, hb, hr, hml, hown, hts, hlk, hA, hK, hN, hV⟩ := id C
  refine lv_aload_n hx hb dX0_readLine_41 rfl (lv_at hl 1 rfl) ?_
  refine k_get (v := .int (S1.1 8)) C fg_X0_57 hP 5 rfl rfl dX0_readLine_42 ?_
  refine lv_if_eq (tgt := 49) hx hb dX0_readLine_45 (by decide) (fun c1 => ?_) (fun c1 => ?_)
  · have hF := op_t hF c1
    refine lv_iload_n hx hb dX0_readLine_49 rfl (lv_at hl 3 rfl) ?_
    refine lv_iconst (v := (-1 : Int32)) hx hb dX0_readLine_50 (by decide) ?_
    refine lv_icmp_ne (tgt := 67) hx hb dX0_readLine_51 (by decide) (fun c2 => ?_) (fun c2 => ?_)
    · have hF := op_f hF c2
      refine lv_aload_n hx hb dX0_readLine_67 rfl (lv_at hl 1 rfl) ?_
      obtain ⟨U4, hc3, hF⟩ := ob1_s hF
      refine k_vgrp (gs8 := [g0 q o0 a0 S0, g5 q o1 a1 tp U4, g8 q o2 a2 S2]) C (k_rV (As := []) (rest := []) C (c_X5_next l D q tp o1 a1 S1 _ hc3) kc_X5_next ml_X0_67 rfl rfl (by decide) (flP hP [1] rfl) (flD hD [1] (by decide) rfl) hS (va_recv hK hP (ci := 5) (q0 := 5) rfl rfl) rfl hl.1 rfl (Nat.le_of_ble_eq_true rfl) dX0_readLine_68 (by decide)) hP hD hS [1] [0, 2] [g0 q o0 a0 S0, g8 q o2 a2 S2] 3 (by decide) rfl rfl rfl rfl rfl rfl (by simp only [List.map_cons, List.map_nil, gad0, gad5, gad8]) (fun H locs hP hD hS => ?_)
      refine lv_aload_n hx hb dX0_readLine_71 rfl (lv_at hl 0 rfl) ?_
      refine lv_aload_n hx hb dX0_readLine_72 rfl (lv_at hl 1 rfl) ?_
      refine lv_aload_n hx hb dX0_readLine_73 rfl (lv_at hl 2 rfl) ?_
      refine lv_aload_n hx hb dX0_readLine_74 rfl (lv_at hl 0 rfl) ?_
      refine k_get (v := .int (S0.1 4)) C fg_X0_24 hP 0 rfl rfl dX0_readLine_75 ?_
      obtain ⟨U6, U7, hc5, hF⟩ := ob2_s hF
      refine k_vall C (k_rV (As := [.ref o1, .ref o2, .int (S0.1 4)]) (rest := []) C (c_X0_readOfPerson l D q tp o0 a0 S0 o1 a1 U4 o2 a2 S2 _ (S0.1 4) hc5) kc_X0_readOfPerson ml_X0_70 rfl rfl (by decide) hP hD hS (va_recv hK hP (ci := 0) (q0 := 0) rfl rfl) rfl hl.1 rfl (Nat.le_of_ble_eq_true rfl) dX0_readLine_78 (by decide)) hP hD hS (by simp only [List.map_cons, List.map_nil, gad0, gad5, gad8]) (fun H locs hP hD hS => ?_)
      refine lv_aload_n hx hb dX0_readLine_81 rfl (lv_at hl 0 rfl) ?_
      refine k_get (v := .ref (a0 2)) C fg_X0_15 hP 0 rfl rfl dX0_readLine_82 ?_
      refine lv_aload_n hx hb dX0_readLine_85 rfl (lv_at hl 0 rfl) ?_
      refine k_get (v := .int (U6.1 4)) C fg_X0_24 hP 0 rfl rfl dX0_readLine_86 ?_
      refine lv_iload_n hx hb dX0_readLine_89 rfl (lv_at hl 3 rfl) ?_
      obtain ⟨h8, hF⟩ := op_ck hF
      obtain ⟨U9, e10, hF⟩ := nw_s hF
      refine k_ist (f := U6.2.2.1 1) (W8 := fl [g0 q o0 a0 U9, g5 q o1 a1 tp U7, g8 q o2 a2 S2]) C hP hD hS 2 rfl h8 dX0_readLine_90 (by rw [e10]; rfl) (fun H locs hP hD hS => ?_)
      exact b_X0_readLine_91 C hF hP hD hS (lv_sub hl [0] rfl)
    · have hF := op_t hF c2
      refine lv_aload_n hx hb dX0_readLine_54 rfl (lv_at hl 0 rfl) ?_
      refine lv_aload_n hx hb dX0_readLine_55 rfl (lv_at hl 1 rfl) ?_
      refine lv_aload_n hx hb dX0_readLine_56 rfl (lv_at hl 2 rfl) ?_
      refine lv_aload_n hx hb dX0_readLine_57 rfl (lv_at hl 0 rfl) ?_
      refine k_get (v := .int (S0.1 4)) C fg_X0_24 hP 0 rfl rfl dX0_readLine_58 ?_
      obtain ⟨U12, U13, hc11, hF⟩ := ob2_s hF
      refine k_vall C (k_rV (As := [.ref o1, .ref o2, .int (S0.1 4)]) (rest := []) C (c_X0_readPlain l D q tp o0 a0 S0 o1 a1 S1 o2 a2 S2 _ (S0.1 4) hc11) kc_X0_readPlain ml_X0_63 rfl rfl (by decide) hP hD hS (va_recv hK hP (ci := 0) (q0 := 0) rfl rfl) rfl hl.1 rfl (Nat.le_of_ble_eq_true rfl) dX0_readLine_61 (by decide)) hP hD hS (by simp only [List.map_cons, List.map_nil, gad0, gad5, gad8]) (fun H locs hP hD hS => ?_)
      refine lv_goto (tgt := 91) hx hb dX0_readLine_64 (by decide) ?_
      exact b_X0_readLine_91 C hF hP hD hS (lv_sub hl [0] rfl)
  · have hF := op_f hF c1
    cases hF
    exact k_vret C hP hS dX0_readLine_48
set_option maxRecDepth 100000 in
set_option maxHeartbeats 4000000 in
theorem b_X0_readLine_19 {p : Program} {l : Launch} {e : Env} {s : State} {m : MethodId} {args : Array Value} {below : List Frame} {meth : Method} {c : Code} {D : va_G} {q : Nat → ClassId} {A : Nat → Prop} {tp : Nat} {o0 : Nat} {a0 : Nat → Nat} {o1 : Nat} {a1 : Nat → Nat} {o2 : Nat} {a2 : Nat → Nat} {T0 : St} {T1 : St} (C : cx p s m args meth c cX0_readLine 4 none RX0 D q A) {s0 : Int32} {S0 : St} {S1 : St} {S2 : St} (hF : F_X0_readLine_19 s0 S0 S1 S2 = some (T0, T1)) {H : Heap} {locs : List Loc} (hP : va_P D vwCl (fl [g0 q o0 a0 S0, g5 q o1 a1 tp S1, g8 q o2 a2 S2]) H) (hD : va_D A (fl [g0 q o0 a0 S0, g5 q o1 a1 tp S1, g8 q o2 a2 S2])) (hS : va_S A s.heap H locs) {ls : Array Slot} (hl : lv_has ls 4 [(0, .ref o0), (1, .ref o1), (2, .ref o2)]) : W p l e rm_X0_readLine s m args below meth c H locs 0 0 (MQ below (QV D A (fl [g0 q o0 a0 T0, g5 q o1 a1 tp T1, g8 q o2 a2 S2])) args s 0 0 A) (F0 m 19 ls [.int s0]) := by
  unfold F_X0_readLine_19 at hF
  obtain ⟨hx, hb, hr, hml, hown, hts, hlk, hA, hK, hN, hV⟩ := id C
  refine lv_istore_n (lv' := [(3, .int s0), (0, .ref o0), (1, .ref o1), (2, .ref o2)]) hx hb dX0_readLine_19 rfl hl (by decide) rfl (fun ls hl => ?_)
  refine lv_aload_n hx hb dX0_readLine_20 rfl (lv_at hl 2 rfl) ?_
  refine k_get (v := .int (S1.1 8)) C fg_X0_57 hP 5 rfl rfl dX0_readLine_21 ?_
  refine lv_if_ne (tgt := 41) hx hb dX0_readLine_24 (by decide) (fun c1 => ?_) (fun c1 => ?_)
  · have hF := op_f hF c1
    exact b_X0_readLine_41 C hF hP hD hS (lv_sub hl [1, 2, 3, 0] rfl)
  · have hF := op_t hF c1
    refine lv_aload_n hx hb dX0_readLine_27 rfl (lv_at hl 1 rfl) ?_
    refine k_get (v := .int (S0.1 4)) C fg_X0_24 hP 0 rfl rfl dX0_readLine_28 ?_
    refine lv_bipush (v := (40 : Int32)) hx hb dX0_readLine_31 (by decide) ?_
    refine lv_icmp_lt (tgt := 41) hx hb dX0_readLine_33 (by decide) (fun c2 => ?_) (fun c2 => ?_)
    · have hF := op_t hF c2
      exact b_X0_readLine_41 C hF hP hD hS (lv_sub hl [1, 2, 3, 0] rfl)
    · have hF := op_f hF c2
      refine lv_aload_n hx hb dX0_readLine_36 rfl (lv_at hl 2 rfl) ?_
      refine lv_iconst (v := (4 : Int32)) hx hb dX0_readLine_37 (by decide) ?_
      obtain ⟨U4, hc3, hF⟩ := ob1_s hF
      refine k_vgrp (gs8 := [g0 q o0 a0 S0, g5 q o1 a1 tp U4, g8 q o2 a2 S2]) C (k_rV (As := [.int (4 : Int32)]) (rest := []) C (c_X5_fail l D q tp o1 a1 S1 _ (4 : Int32) hc3) kc_X5_fail ml_X0_60 rfl rfl (by decide) (flP hP [1] rfl) (flD hD [1] (by decide) rfl) hS (va_recv hK hP (ci := 5) (q0 := 5) rfl rfl) rfl hl.1 rfl (Nat.le_of_ble_eq_true rfl) dX0_readLine_38 (by decide)) hP hD hS [1] [0, 2] [g0 q o0 a0 S0, g8 q o2 a2 S2] 3 (by decide) rfl rfl rfl rfl rfl rfl (by simp only [List.map_cons, List.map_nil, gad0, gad5, gad8]) (fun H locs hP hD hS => ?_)
      exact b_X0_readLine_41 C hF hP hD hS (lv_sub hl [1, 2, 3, 0] rfl)
set_option maxRecDepth 100000 in
set_option maxHeartbeats 4000000 in
theorem c_X0_readLine (l : Launch) (D : va_G) (q : Nat → ClassId) (tp : Nat) (o0 : Nat) (a0 : Nat → Nat) (S0 : St) (o1 : Nat) (a1 : Nat → Nat) (S1 : St) (o2 : Nat) (a2 : Nat → Nat) (S2 : St) (sz : Nat) {T0 : St} {T1 : St} (hF : F_X0_readLine S0 S1 S2 = some (T0, T1)) : Met l yX0_readLine (Cond.code yX0_readLine cX0_readLine 4 none :: TB) rm_X0_readLine (PC D q [.ref o0, .ref o1, .ref o2] (fl [g0 q o0 a0 S0, g5 q o1 a1 tp S1, g8 q o2 a2 S2]) sz) ((fun A => QV D A (fl [g0 q o0 a0 T0, g5 q o1 a1 tp T1, g8 q o2 a2 S2])) (va_A (fl [g0 q o0 a0 S0, g5 q o1 a1 tp S1, g8 q o2 a2 S2]) sz)) 0 0 (va_A (fl [g0 q o0 a0 S0, g5 q o1 a1 tp S1, g8 q o2 a2 S2]) sz) := by
  refine k_met (w0 := fl [g0 q o0 a0 S0, g5 q o1 a1 tp S1, g8 q o2 a2 S2]) (Q := fun A => QV D A (fl [g0 q o0 a0 T0, g5 q o1 a1 tp T1, g8 q o2 a2 S2])) (by decide +kernel) (Nat.le_of_ble_eq_true rfl) ?_
  intro p e s m args below meth c A ls C hP hD hS hl
  have hl : lv_has ls 4 [(0, .ref o0), (1, .ref o1), (2, .ref o2)] := hl
  unfold F_X0_readLine at hF
  have C : cx p s m args meth c cX0_readLine 4 none RX0 D q A := C
  obtain ⟨hx, hb, hr, hml, hown, hts, hlk, hA, hK, hN, hV⟩ := id C
  refine lv_aload_n hx hb dX0_readLine_0 rfl (lv_at hl 1 rfl) ?_
  refine lv_bipush (v := (20 : Int32)) hx hb dX0_readLine_1 (by decide) ?_
  refine lv_iconst (v := (4 : Int32)) hx hb dX0_readLine_3 (by decide) ?_
  obtain ⟨r2, hc1, hF⟩ := ob1_s hF
  refine k_iro C (k_rV (As := [.int (20 : Int32), .int (4 : Int32)]) (rest := []) C (c_X5_isWordFrom l D q tp o1 a1 S1 _ (20 : Int32) (4 : Int32) hc1) kc_X5_isWordFrom ml_X0_49 rfl rfl (by decide) (flP hP [1] rfl) (flD hD [1] (by decide) rfl) hS (va_recv hK hP (ci := 5) (q0 := 5) rfl rfl) rfl hl.1 rfl (Nat.le_of_ble_eq_true rfl) dX0_readLine_4 (by decide)) hP hD hS [1] [0, 2] [g0 q o0 a0 S0, g8 q o2 a2 S2] 3 (by decide) rfl rfl rfl rfl (fun H locs hP hD hS => ?_)
  refine lv_if_eq (tgt := 14) hx hb dX0_readLine_7 (by decide) (fun c3 => ?_) (fun c3 => ?_)
  · have hF := op_t hF c3
    refine lv_aload_n hx hb dX0_readLine_14 rfl (lv_at hl 1 rfl) ?_
    refine lv_aload_n hx hb dX0_readLine_15 rfl (lv_at hl 2 rfl) ?_
    obtain ⟨r5, U6, hc4, hF⟩ := ob2_s hF
    refine k_igrp (gs8 := [g0 q o0 a0 S0, g5 q o1 a1 tp U6, g8 q o2 a2 S2]) C (k_rV (As := [.ref o2]) (rest := []) C (c_X5_seePerson l D q tp o1 a1 S1 o2 a2 S2 _ hc4) kc_X5_seePerson ml_X0_53 rfl rfl (by decide) (flP hP [1, 2] rfl) (flD hD [1, 2] (by decide) rfl) hS (va_recv hK hP (ci := 5) (q0 := 5) rfl rfl) rfl hl.1 rfl (Nat.le_of_ble_eq_true rfl) dX0_readLine_16 (by decide)) hP hD hS [1, 2] [0] [g0 q o0 a0 S0] 3 (by decide) rfl rfl rfl rfl rfl rfl (by simp only [List.map_cons, List.map_nil, gad0, gad5, gad8]) (fun H locs hP hD hS => ?_)
    exact b_X0_readLine_19 C hF hP hD hS (lv_sub hl [0, 1, 2] rfl)
  · have hF := op_f hF c3
    refine lv_iconst (v := (-1 : Int32)) hx hb dX0_readLine_10 (by decide) ?_
    refine lv_goto (tgt := 19) hx hb dX0_readLine_11 (by decide) ?_
    exact b_X0_readLine_19 C hF hP hD hS (lv_sub hl [0, 1, 2] rfl)

abbrev rm_X5_isMark : Room := ({ frames := 0, cells := 0, slots := 0, locals := 0 } : Room)
def F_X5_isMark (S0 : St) (x1 : Int32) : Option (Int32) := if (S0.1 8) = 0 then (if oob (S0.1 6) 901 then none else if (S0.2.2.1 3 (S0.1 6).toNatClampNeg) = (38 : Int32) then (if oob (S0.1 6) 901 then none else if (lg_cmp (S0.2.2.2 4 (S0.1 6).toNatClampNeg) x1.toInt64) = 0 then (some ((1 : Int32))) else (some ((0 : Int32)))) else (some ((0 : Int32)))) else (some ((0 : Int32)))
set_option maxRecDepth 100000 in
set_option maxHeartbeats 4000000 in
theorem c_X5_isMark (l : Launch) (D : va_G) (q : Nat → ClassId) (tp : Nat) (o0 : Nat) (a0 : Nat → Nat) (S0 : St) (sz : Nat) (x1 : Int32) {r : Int32} (hF : F_X5_isMark S0 x1 = some (r)) : Met l yX5_isMark (Cond.code yX5_isMark cX5_isMark 2 (some .boolean) :: TB) rm_X5_isMark (PC D q [.ref o0, .int x1] (fl [g5 q o0 a0 tp S0]) sz) ((fun A => QI D A r (fl [g5 q o0 a0 tp S0])) (va_A (fl [g5 q o0 a0 tp S0]) sz)) 0 0 (va_A (fl [g5 q o0 a0 tp S0]) sz) := by
  refine k_met (w0 := fl [g5 q o0 a0 tp S0]) (Q := fun A => QI D A r (fl [g5 q o0 a0 tp S0])) (by decide +kernel) (Nat.le_of_ble_eq_true rfl) ?_
  intro p e s m args below meth c A ls C hP hD hS hl
  have hl : lv_has ls 2 [(0, .ref o0), (1, .int x1)] := hl
  unfold F_X5_isMark at hF
  have C : cx p s m args meth c cX5_isMark 2 (some .boolean) RX5 D q A := C
  obtain ⟨hx, hb, hr, hml, hown, hts, hlk, hA, hK, hN, hV⟩ := id C
  refine lv_aload_n hx hb dX5_isMark_0 rfl (lv_at hl 0 rfl) ?_
  refine k_get (v := .int (S0.1 8)) C fg_X5_83 hP 0 rfl rfl dX5_isMark_1 ?_
  refine lv_if_ne (tgt := 40) hx hb dX5_isMark_4 (by decide) (fun c1 => ?_) (fun c1 => ?_)
  · have hF := op_f hF c1
    refine lv_iconst (v := (0 : Int32)) hx hb dX5_isMark_40 (by decide) ?_
    cases hF
    exact k_zret C (by decide) hP hS dX5_isMark_41
  · have hF := op_t hF c1
    refine lv_aload_n hx hb dX5_isMark_7 rfl (lv_at hl 0 rfl) ?_
    refine k_get (v := .ref (a0 4)) C fg_X5_28 hP 0 rfl rfl dX5_isMark_8 ?_
    refine lv_aload_n hx hb dX5_isMark_11 rfl (lv_at hl 0 rfl) ?_
    refine k_get (v := .int (S0.1 6)) C fg_X5_80 hP 0 rfl rfl dX5_isMark_12 ?_
    obtain ⟨h2, hF⟩ := op_ck hF
    refine k_ild (f := S0.2.2.1 3) C hP 3 rfl h2 dX5_isMark_15 ?_
    refine lv_bipush (v := (38 : Int32)) hx hb dX5_isMark_16 (by decide) ?_
    refine lv_icmp_ne (tgt := 40) hx hb dX5_isMark_18 (by decide) (fun c3 => ?_) (fun c3 => ?_)
    · have hF := op_f hF c3
      refine lv_iconst (v := (0 : Int32)) hx hb dX5_isMark_40 (by decide) ?_
      cases hF
      exact k_zret C (by decide) hP hS dX5_isMark_41
    · have hF := op_t hF c3
      refine lv_aload_n hx hb dX5_isMark_21 rfl (lv_at hl 0 rfl) ?_
      refine k_get (v := .ref (a0 5)) C fg_X5_31 hP 0 rfl rfl dX5_isMark_22 ?_
      refine lv_aload_n hx hb dX5_isMark_25 rfl (lv_at hl 0 rfl) ?_
      refine k_get (v := .int (S0.1 6)) C fg_X5_80 hP 0 rfl rfl dX5_isMark_26 ?_
      obtain ⟨h4, hF⟩ := op_ck hF
      refine k_lld (f := S0.2.2.2 4) C hP 4 rfl h4 dX5_isMark_29 ?_
      refine lv_iload_n hx hb dX5_isMark_30 rfl (lv_at hl 1 rfl) ?_
      refine lv_i2l (v := x1.toInt64) hx hb dX5_isMark_31 rfl ?_
      refine W.lcmp hx hb dX5_isMark_32 ?_
      refine lv_if_ne (tgt := 40) hx hb dX5_isMark_33 (by decide) (fun c5 => ?_) (fun c5 => ?_)
      · have hF := op_f hF c5
        refine lv_iconst (v := (0 : Int32)) hx hb dX5_isMark_40 (by decide) ?_
        cases hF
        exact k_zret C (by decide) hP hS dX5_isMark_41
      · have hF := op_t hF c5
        refine lv_iconst (v := (1 : Int32)) hx hb dX5_isMark_36 (by decide) ?_
        refine lv_goto (tgt := 41) hx hb dX5_isMark_37 (by decide) ?_
        cases hF
        exact k_zret C (by decide) hP hS dX5_isMark_41

abbrev rm_X5_takeMark : Room := ({ frames := 1, cells := 0, slots := 0, locals := 21 } : Room)
def F_X5_takeMark (S0 : St) (x1 : Int32) : Option (Int32 × St) := ob1 (F_X5_isMark S0 x1) fun r2 => if r2 = 0 then (if nb r2 then none else some (r2, S0)) else (ob1 (F_X5_next S0) fun U6 => if nb r2 then none else some (r2, U6))
set_option maxRecDepth 100000 in
set_option maxHeartbeats 4000000 in
theorem c_X5_takeMark (l : Launch) (D : va_G) (q : Nat → ClassId) (tp : Nat) (o0 : Nat) (a0 : Nat → Nat) (S0 : St) (sz : Nat) (x1 : Int32) {r : Int32} {T0 : St} (hF : F_X5_takeMark S0 x1 = some (r, T0)) : Met l yX5_takeMark (Cond.code yX5_takeMark cX5_takeMark 3 (some .boolean) :: TB) rm_X5_takeMark (PC D q [.ref o0, .int x1] (fl [g5 q o0 a0 tp S0]) sz) ((fun A => QI D A r (fl [g5 q o0 a0 tp T0])) (va_A (fl [g5 q o0 a0 tp S0]) sz)) 0 0 (va_A (fl [g5 q o0 a0 tp S0]) sz) := by
  refine k_met (w0 := fl [g5 q o0 a0 tp S0]) (Q := fun A => QI D A r (fl [g5 q o0 a0 tp T0])) (by decide +kernel) (Nat.le_of_ble_eq_true rfl) ?_
  intro p e s m args below meth c A ls C hP hD hS hl
  have hl : lv_has ls 3 [(0, .ref o0), (1, .int x1)] := hl
  unfold F_X5_takeMark at hF
  have C : cx p s m args meth c cX5_takeMark 3 (some .boolean) RX5 D q A := C
  obtain ⟨hx, hb, hr, hml, hown, hts, hlk, hA, hK, hN, hV⟩ := id C
  refine lv_aload_n hx hb dX5_takeMark_0 rfl (lv_at hl 0 rfl) ?_
  refine lv_iload_n hx hb dX5_takeMark_1 rfl (lv_at hl 1 rfl) ?_
  obtain ⟨r2, hc1, hF⟩ := ob1_s hF
  refine k_isame C (k_rV (As := [.int x1]) (rest := []) C (c_X5_isMark l D q tp o0 a0 S0 _ x1 hc1) kc_X5_isMark ml_X5_117 rfl rfl (by decide) hP hD hS (va_recv hK hP (ci := 5) (q0 := 0) rfl rfl) rfl hl.1 rfl (Nat.le_of_ble_eq_true rfl) dX5_takeMark_2 (by decide)) hP hD hS (fun H locs hP hD hS => ?_)
  refine lv_istore_n (lv' := [(2, .int r2), (0, .ref o0), (1, .int x1)]) hx hb dX5_takeMark_5 rfl hl (by decide) rfl (fun ls hl => ?_)
  refine lv_iload_n hx hb dX5_takeMark_6 rfl (lv_at hl 0 rfl) ?_
  refine lv_if_eq (tgt := 14) hx hb dX5_takeMark_7 (by decide) (fun c3 => ?_) (fun c3 => ?_)
  · have hF := op_t hF c3
    refine lv_iload_n hx hb dX5_takeMark_14 rfl (lv_at hl 0 rfl) ?_
    obtain ⟨h4, hF⟩ := op_ck hF
    cases hF
    exact k_zret C h4 hP hS dX5_takeMark_15
  · have hF := op_f hF c3
    refine lv_aload_n hx hb dX5_takeMark_10 rfl (lv_at hl 1 rfl) ?_
    obtain ⟨U6, hc5, hF⟩ := ob1_s hF
    refine k_vall C (k_rV (As := []) (rest := []) C (c_X5_next l D q tp o0 a0 S0 _ hc5) kc_X5_next ml_X5_114 rfl rfl (by decide) hP hD hS (va_recv hK hP (ci := 5) (q0 := 0) rfl rfl) rfl hl.1 rfl (Nat.le_of_ble_eq_true rfl) dX5_takeMark_11 (by decide)) hP hD hS (by simp only [List.map_cons, List.map_nil, gad5]) (fun H locs hP hD hS => ?_)
    refine lv_iload_n hx hb dX5_takeMark_14 rfl (lv_at hl 0 rfl) ?_
    obtain ⟨h7, hF⟩ := op_ck hF
    cases hF
    exact k_zret C h7 hP hS dX5_takeMark_15

abbrev rm_X5_needMark : Room := ({ frames := 2, cells := 0, slots := 0, locals := 43 } : Room)
def F_X5_needMark (S0 : St) (x1 : Int32) : Option (St) := ob2 (F_X5_takeMark S0 x1) fun r2 U3 => if r2 = 0 then (ob1 (F_X5_fail U3 (1 : Int32)) fun U6 => some (U6)) else (some (U3))
set_option maxRecDepth 100000 in
set_option maxHeartbeats 4000000 in
theorem c_X5_needMark (l : Launch) (D : va_G) (q : Nat → ClassId) (tp : Nat) (o0 : Nat) (a0 : Nat → Nat) (S0 : St) (sz : Nat) (x1 : Int32) {T0 : St} (hF : F_X5_needMark S0 x1 = some (T0)) : Met l yX5_needMark (Cond.code yX5_needMark cX5_needMark 2 none :: TB) rm_X5_needMark (PC D q [.ref o0, .int x1] (fl [g5 q o0 a0 tp S0]) sz) ((fun A => QV D A (fl [g5 q o0 a0 tp T0])) (va_A (fl [g5 q o0 a0 tp S0]) sz)) 0 0 (va_A (fl [g5 q o0 a0 tp S0]) sz) := by
  refine k_met (w0 := fl [g5 q o0 a0 tp S0]) (Q := fun A => QV D A (fl [g5 q o0 a0 tp T0])) (by decide +kernel) (Nat.le_of_ble_eq_true rfl) ?_
  intro p e s m args below meth c A ls C hP hD hS hl
  have hl : lv_has ls 2 [(0, .ref o0), (1, .int x1)] := hl
  unfold F_X5_needMark at hF
  have C : cx p s m args meth c cX5_needMark 2 none RX5 D q A := C
  obtain ⟨hx, hb, hr, hml, hown, hts, hlk, hA, hK, hN, hV⟩ := id C
  refine lv_aload_n hx hb dX5_needMark_0 rfl (lv_at hl 0 rfl) ?_
  refine lv_iload_n hx hb dX5_needMark_1 rfl (lv_at hl 1 rfl) ?_
  obtain ⟨r2, U3, hc1, hF⟩ := ob2_s hF
  refine k_iall C (k_rV (As := [.int x1]) (rest := []) C (c_X5_takeMark l D q tp o0 a0 S0 _ x1 hc1) kc_X5_takeMark ml_X5_121 rfl rfl (by decide) hP hD hS (va_recv hK hP (ci := 5) (q0 := 0) rfl rfl) rfl hl.1 rfl (Nat.le_of_ble_eq_true rfl) dX5_needMark_2 (by decide)) hP hD hS (by simp only [List.map_cons, List.map_nil, gad5]) (fun H locs hP hD hS => ?_)
  refine lv_if_ne (tgt := 13) hx hb dX5_needMark_5 (by decide) (fun c4 => ?_) (fun c4 => ?_)
  · have hF := op_f hF c4
    cases hF
    exact k_vret C hP hS dX5_needMark_13
  · have hF := op_t hF c4
    refine lv_aload_n hx hb dX5_needMark_8 rfl (lv_at hl 0 rfl) ?_
    refine lv_iconst (v := (1 : Int32)) hx hb dX5_needMark_9 (by decide) ?_
    obtain ⟨U6, hc5, hF⟩ := ob1_s hF
    refine k_vall C (k_rV (As := [.int (1 : Int32)]) (rest := []) C (c_X5_fail l D q tp o0 a0 U3 _ (1 : Int32) hc5) kc_X5_fail ml_X5_108 rfl rfl (by decide) hP hD hS (va_recv hK hP (ci := 5) (q0 := 0) rfl rfl) rfl hl.1 rfl (Nat.le_of_ble_eq_true rfl) dX5_needMark_10 (by decide)) hP hD hS (by simp only [List.map_cons, List.map_nil, gad5]) (fun H locs hP hD hS => ?_)
    cases hF
    exact k_vret C hP hS dX5_needMark_13

abbrev rm_X5_closes : Room := ({ frames := 1, cells := 0, slots := 0, locals := 21 } : Room)
def F_X5_closes_26 (S0 : St) : Option (Int32 × St) := if (S0.1 8) = 0 then (some ((1 : Int32), S0)) else (some ((0 : Int32), S0))
def F_X5_closes_21 (S0 : St) : Option (Int32 × St) := ob1 (F_X5_fail S0 (1 : Int32)) fun U2 => F_X5_closes_26 U2
def F_X5_closes (S0 : St) : Option (Int32 × St) := if oob (S0.1 6) 901 then none else if (S0.2.2.1 3 (S0.1 6).toNatClampNeg) = (40 : Int32) then (if (S0.1 7) = 0 then (F_X5_closes_26 S0) else (F_X5_closes_21 S0)) else (F_X5_closes_21 S0)
set_option maxRecDepth 100000 in
set_option maxHeartbeats 4000000 in
theorem b_X5_closes_26 {p : Program} {l : Launch} {e : Env} {s : State} {m : MethodId} {args : Array Value} {below : List Frame} {meth : Method} {c : Code} {D : va_G} {q : Nat → ClassId} {A : Nat → Prop} {tp : Nat} {o0 : Nat} {a0 : Nat → Nat} {r : Int32} {T0 : St} (C : cx p s m args meth c cX5_closes 1 (some .boolean) RX5 D q A) {S0 : St} (hF : F_X5_closes_26 S0 = some (r, T0)) {H : Heap} {locs : List Loc} (hP : va_P D vwCl (fl [g5 q o0 a0 tp S0]) H) (hD : va_D A (fl [g5 q o0 a0 tp S0])) (hS : va_S A s.heap H locs) {ls : Array Slot} (hl : lv_has ls 1 [(0, .ref o0)]) : W p l e rm_X5_closes s m args below meth c H locs 0 0 (MQ below (QI D A r (fl [g5 q o0 a0 tp T0])) args s 0 0 A) (F0 m 26 ls []) := by
  unfold F_X5_closes_26 at hF
  obtain ⟨hx, hb, hr, hml, hown, hts, hlk, hA, hK, hN, hV⟩ := id C
  refine lv_aload_n hx hb dX5_closes_26 rfl (lv_at hl 0 rfl) ?_
  refine k_get (v := .int (S0.1 8)) C fg_X5_83 hP 0 rfl rfl dX5_closes_27 ?_
  refine lv_if_ne (tgt := 37) hx hb dX5_closes_30 (by decide) (fun c1 => ?_) (fun c1 => ?_)
  · have hF := op_f hF c1
    refine lv_iconst (v := (0 : Int32)) hx hb dX5_closes_37 (by decide) ?_
    cases hF
    exact k_zret C (by decide) hP hS dX5_closes_38
  · have hF := op_t hF c1
    refine lv_iconst (v := (1 : Int32)) hx hb dX5_closes_33 (by decide) ?_
    refine lv_goto (tgt := 38) hx hb dX5_closes_34 (by decide) ?_
    cases hF
    exact k_zret C (by decide) hP hS dX5_closes_38
set_option maxRecDepth 100000 in
set_option maxHeartbeats 4000000 in
theorem b_X5_closes_21 {p : Program} {l : Launch} {e : Env} {s : State} {m : MethodId} {args : Array Value} {below : List Frame} {meth : Method} {c : Code} {D : va_G} {q : Nat → ClassId} {A : Nat → Prop} {tp : Nat} {o0 : Nat} {a0 : Nat → Nat} {r : Int32} {T0 : St} (C : cx p s m args meth c cX5_closes 1 (some .boolean) RX5 D q A) {S0 : St} (hF : F_X5_closes_21 S0 = some (r, T0)) {H : Heap} {locs : List Loc} (hP : va_P D vwCl (fl [g5 q o0 a0 tp S0]) H) (hD : va_D A (fl [g5 q o0 a0 tp S0])) (hS : va_S A s.heap H locs) {ls : Array Slot} (hl : lv_has ls 1 [(0, .ref o0)]) : W p l e rm_X5_closes s m args below meth c H locs 0 0 (MQ below (QI D A r (fl [g5 q o0 a0 tp T0])) args s 0 0 A) (F0 m 21 ls []) := by
  unfold F_X5_closes_21 at hF
  obtain ⟨hx, hb, hr, hml, hown, hts, hlk, hA, hK, hN, hV⟩ := id C
  refine lv_aload_n hx hb dX5_closes_21 rfl (lv_at hl 0 rfl) ?_
  refine lv_iconst (v := (1 : Int32)) hx hb dX5_closes_22 (by decide) ?_
  obtain ⟨U2, hc1, hF⟩ := ob1_s hF
  refine k_vall C (k_rV (As := [.int (1 : Int32)]) (rest := []) C (c_X5_fail l D q tp o0 a0 S0 _ (1 : Int32) hc1) kc_X5_fail ml_X5_108 rfl rfl (by decide) hP hD hS (va_recv hK hP (ci := 5) (q0 := 0) rfl rfl) rfl hl.1 rfl (Nat.le_of_ble_eq_true rfl) dX5_closes_23 (by decide)) hP hD hS (by simp only [List.map_cons, List.map_nil, gad5]) (fun H locs hP hD hS => ?_)
  exact b_X5_closes_26 C hF hP hD hS (lv_sub hl [0] rfl)
set_option maxRecDepth 100000 in
set_option maxHeartbeats 4000000 in
theorem c_X5_closes (l : Launch) (D : va_G) (q : Nat → ClassId) (tp : Nat) (o0 : Nat) (a0 : Nat → Nat) (S0 : St) (sz : Nat) {r : Int32} {T0 : St} (hF : F_X5_closes S0 = some (r, T0)) : Met l yX5_closes (Cond.code yX5_closes cX5_closes 1 (some .boolean) :: TB) rm_X5_closes (PC D q [.ref o0] (fl [g5 q o0 a0 tp S0]) sz) ((fun A => QI D A r (fl [g5 q o0 a0 tp T0])) (va_A (fl [g5 q o0 a0 tp S0]) sz)) 0 0 (va_A (fl [g5 q o0 a0 tp S0]) sz) := by
  refine k_met (w0 := fl [g5 q o0 a0 tp S0]) (Q := fun A => QI D A r (fl [g5 q o0 a0 tp T0])) (by decide +kernel) (Nat.le_of_ble_eq_true rfl) ?_
  intro p e s m args below meth c A ls C hP hD hS hl
  have hl : lv_has ls 1 [(0, .ref o0)] := hl
  unfold F_X5_closes at hF
  have C : cx p s m args meth c cX5_closes 1 (some .boolean) RX5 D q A := C
  obtain ⟨hx, hb, hr, hml, hown, hts, hlk, hA, hK, hN, hV⟩ := id C
  refine lv_aload_n hx hb dX5_closes_0 rfl (lv_at hl 0 rfl) ?_
  refine k_get (v := .ref (a0 4)) C fg_X5_28 hP 0 rfl rfl dX5_closes_1 ?_
  refine lv_aload_n hx hb dX5_closes_4 rfl (lv_at hl 0 rfl) ?_
  refine k_get (v := .int (S0.1 6)) C fg_X5_80 hP 0 rfl rfl dX5_closes_5 ?_
  obtain ⟨h1, hF⟩ := op_ck hF
  refine k_ild (f := S0.2.2.1 3) C hP 3 rfl h1 dX5_closes_8 ?_
  refine lv_bipush (v := (40 : Int32)) hx hb dX5_closes_9 (by decide) ?_
  refine lv_icmp_ne (tgt := 21) hx hb dX5_closes_11 (by decide) (fun c2 => ?_) (fun c2 => ?_)
  · have hF := op_f hF c2
    exact b_X5_closes_21 C hF hP hD hS (lv_sub hl [0] rfl)
  · have hF := op_t hF c2
    refine lv_aload_n hx hb dX5_closes_14 rfl (lv_at hl 0 rfl) ?_
    refine k_get (v := .int (S0.1 7)) C fg_X5_76 hP 0 rfl rfl dX5_closes_15 ?_
    refine lv_if_eq (tgt := 26) hx hb dX5_closes_18 (by decide) (fun c3 => ?_) (fun c3 => ?_)
    · have hF := op_t hF c3
      exact b_X5_closes_26 C hF hP hD hS (lv_sub hl [0] rfl)
    · have hF := op_f hF c3
      exact b_X5_closes_21 C hF hP hD hS (lv_sub hl [0] rfl)

abbrev rm_X0_readFrom : Room := ({ frames := 5, cells := 0, slots := 0, locals := 113 } : Room)
def F_X0_readFrom_46 (S0 : St) (S1 : St) (S2 : St) (S3 : St) : Option (Int32 × St × St) := ob2 (F_X5_closes S1) fun r2 U3 => if nb r2 then none else some (r2, S0, U3)
def F_X0_readFrom_14 (k14 : Int32 × St × St × St × St → Option (Int32 × St × St)) (x3 : Int32) (S0 : St) (S1 : St) (S2 : St) (S3 : St) : Option (Int32 × St × St) := if (400 : Int32) ≤ x3 then (F_X0_readFrom_46 S0 S1 S2 S3) else (ob1 (F_X5_goesOn S1) fun r3 => if r3 = 0 then (F_X0_readFrom_46 S0 S1 S2 S3) else (ob2 (F_X0_readLine S0 S1 S3) fun U6 U7 => ob1 (F_X5_needMark U7 (59 : Int32)) fun U9 => k14 ((x3 + 1), U6, U9, S2, S3)))
def L_X0_readFrom_14 (x3 : Int32) (S0 : St) (S1 : St) (S2 : St) (S3 : St) : Option (Int32 × St × St) := lp (fun kz z => F_X0_readFrom_14 kz z.1 z.2.1 z.2.2.1 z.2.2.2.1 z.2.2.2.2) FU (x3, S0, S1, S2, S3)
def F_X0_readFrom (S0 : St) (S1 : St) (S2 : St) (S3 : St) : Option (Int32 × St × St) := nw (sI S0 4 (0 : Int32)) fun U1 => ob1 (F_X5_begin S1 S2 (400 : Int32)) fun U4 => L_X0_readFrom_14 (0 : Int32) U1 U4 S2 S3
set_option maxRecDepth 100000 in
set_option maxHeartbeats 4000000 in
theorem b_X0_readFrom_46 {p : Program} {l : Launch} {e : Env} {s : State} {m : MethodId} {args : Array Value} {below : List Frame} {meth : Method} {c : Code} {D : va_G} {q : Nat → ClassId} {A : Nat → Prop} {tp : Nat} {o0 : Nat} {a0 : Nat → Nat} {o1 : Nat} {a1 : Nat → Nat} {a2 : Nat → Nat} {o3 : Nat} {a3 : Nat → Nat} {r : Int32} {T0 : St} {T1 : St} (C : cx p s m args meth c cX0_readFrom 4 (some .boolean) RX0 D q A) {S0 : St} {S1 : St} {S2 : St} {S3 : St} (hF : F_X0_readFrom_46 S0 S1 S2 S3 = some (r, T0, T1)) {H : Heap} {locs : List Loc} (hP : va_P D vwCl (fl [g0 q o0 a0 S0, g5 q o1 a1 tp S1, g9 q tp a2 940 S2, g8 q o3 a3 S3]) H) (hD : va_D A (fl [g0 q o0 a0 S0, g5 q o1 a1 tp S1, g9 q tp a2 940 S2, g8 q o3 a3 S3])) (hS : va_S A s.heap H locs) {ls : Array Slot} (hl : lv_has ls 4 [(1, .ref o1)]) : W p l e rm_X0_readFrom s m args below meth c H locs 0 0 (MQ below (QI D A r (fl [g0 q o0 a0 T0, g5 q o1 a1 tp T1, g9 q tp a2 940 S2, g8 q o3 a3 S3])) args s 0 0 A) (F0 m 46 ls []) := by
  unfold F_X0_readFrom_46 at hF
  obtain ⟨hx, hb, hr, hml, hown, hts, hlk, hA, hK, hN, hV⟩ := id C
  refine lv_aload_n hx hb dX0_readFrom_46 rfl (lv_at hl 0 rfl) ?_
  obtain ⟨r2, U3, hc1, hF⟩ := ob2_s hF
  refine k_igrp (gs8 := [g0 q o0 a0 S0, g5 q o1 a1 tp U3, g9 q tp a2 940 S2, g8 q o3 a3 S3]) C (k_rV (As := []) (rest := []) C (c_X5_closes l D q tp o1 a1 S1 _ hc1) kc_X5_closes ml_X0_46 rfl rfl (by decide) (flP hP [1] rfl) (flD hD [1] (by decide) rfl) hS (va_recv hK hP (ci := 5) (q0 := 5) rfl rfl) rfl hl.1 rfl (Nat.le_of_ble_eq_true rfl) dX0_readFrom_47 (by decide)) hP hD hS [1] [0, 2, 3] [g0 q o0 a0 S0, g9 q tp a2 940 S2, g8 q o3 a3 S3] 4 (by decide) rfl rfl rfl rfl rfl rfl (by simp only [List.map_cons, List.map_nil, gad0, gad5, gad8, gad9]) (fun H locs hP hD hS => ?_)
  obtain ⟨h4, hF⟩ := op_ck hF
  cases hF
  exact k_zret C h4 hP hS dX0_readFrom_50
set_option maxRecDepth 100000 in
set_option maxHeartbeats 4000000 in
theorem b_X0_readFrom_14 {p : Program} {l : Launch} {e : Env} {s : State} {m : MethodId} {args : Array Value} {below : List Frame} {meth : Method} {c : Code} {D : va_G} {q : Nat → ClassId} {A : Nat → Prop} {tp : Nat} {o0 : Nat} {a0 : Nat → Nat} {o1 : Nat} {a1 : Nat → Nat} {a2 : Nat → Nat} {o3 : Nat} {a3 : Nat → Nat} {r : Int32} {T0 : St} {T1 : St} (C : cx p s m args meth c cX0_readFrom 4 (some .boolean) RX0 D q A) {k14 : Int32 × St × St × St × St → Option (Int32 × St × St)} (hk14 : ∀ (x3 : Int32) (S0 : St) (S1 : St) (S2 : St) (S3 : St), k14 (x3, S0, S1, S2, S3) = some (r, T0, T1) → ∀ (H : Heap) (locs : List Loc) (ls : Array Slot), va_P D vwCl (fl [g0 q o0 a0 S0, g5 q o1 a1 tp S1, g9 q tp a2 940 S2, g8 q o3 a3 S3]) H → va_D A (fl [g0 q o0 a0 S0, g5 q o1 a1 tp S1, g9 q tp a2 940 S2, g8 q o3 a3 S3]) → va_S A s.heap H locs → lv_has ls 4 [(0, .ref o0), (1, .ref o1), (2, .ref o3), (3, .int x3)] → W p l e rm_X0_readFrom s m args below meth c H locs 0 0 (MQ below (QI D A r (fl [g0 q o0 a0 T0, g5 q o1 a1 tp T1, g9 q tp a2 940 S2, g8 q o3 a3 S3])) args s 0 0 A) (F0 m 14 ls [])) {x3 : Int32} {S0 : St} {S1 : St} {S2 : St} {S3 : St} (hF : F_X0_readFrom_14 k14 x3 S0 S1 S2 S3 = some (r, T0, T1)) {H : Heap} {locs : List Loc} (hP : va_P D vwCl (fl [g0 q o0 a0 S0, g5 q o1 a1 tp S1, g9 q tp a2 940 S2, g8 q o3 a3 S3]) H) (hD : va_D A (fl [g0 q o0 a0 S0, g5 q o1 a1 tp S1, g9 q tp a2 940 S2, g8 q o3 a3 S3])) (hS : va_S A s.heap H locs) {ls : Array Slot} (hl : lv_has ls 4 [(0, .ref o0), (1, .ref o1), (2, .ref o3), (3, .int x3)]) : W p l e rm_X0_readFrom s m args below meth c H locs 0 0 (MQ below (QI D A r (fl [g0 q o0 a0 T0, g5 q o1 a1 tp T1, g9 q tp a2 940 S2, g8 q o3 a3 S3])) args s 0 0 A) (F0 m 14 ls []) := by
  unfold F_X0_readFrom_14 at hF
  obtain ⟨hx, hb, hr, hml, hown, hts, hlk, hA, hK, hN, hV⟩ := id C
  refine lv_iload_n hx hb dX0_readFrom_14 rfl (lv_at hl 3 rfl) ?_
  refine lv_sipush (v := (400 : Int32)) hx hb dX0_readFrom_15 (by decide) ?_
  refine lv_icmp_ge (tgt := 46) hx hb dX0_readFrom_18 (by decide) (fun c1 => ?_) (fun c1 => ?_)
  · have hF := op_t hF c1
    exact b_X0_readFrom_46 C hF hP hD hS (lv_sub hl [1] rfl)
  · have hF := op_f hF c1
    refine lv_aload_n hx hb dX0_readFrom_21 rfl (lv_at hl 1 rfl) ?_
    obtain ⟨r3, hc2, hF⟩ := ob1_s hF
    refine k_iro C (k_rV (As := []) (rest := []) C (c_X5_goesOn l D q tp o1 a1 S1 _ hc2) kc_X5_goesOn ml_X0_34 rfl rfl (by decide) (flP hP [1] rfl) (flD hD [1] (by decide) rfl) hS (va_recv hK hP (ci := 5) (q0 := 5) rfl rfl) rfl hl.1 rfl (Nat.le_of_ble_eq_true rfl) dX0_readFrom_22 (by decide)) hP hD hS [1] [0, 2, 3] [g0 q o0 a0 S0, g9 q tp a2 940 S2, g8 q o3 a3 S3] 4 (by decide) rfl rfl rfl rfl (fun H locs hP hD hS => ?_)
    refine lv_if_eq (tgt := 46) hx hb dX0_readFrom_25 (by decide) (fun c4 => ?_) (fun c4 => ?_)
    · have hF := op_t hF c4
      exact b_X0_readFrom_46 C hF hP hD hS (lv_sub hl [1] rfl)
    · have hF := op_f hF c4
      refine lv_aload_n hx hb dX0_readFrom_28 rfl (lv_at hl 0 rfl) ?_
      refine lv_aload_n hx hb dX0_readFrom_29 rfl (lv_at hl 1 rfl) ?_
      refine lv_aload_n hx hb dX0_readFrom_30 rfl (lv_at hl 2 rfl) ?_
      obtain ⟨U6, U7, hc5, hF⟩ := ob2_s hF
      refine k_vgrp (gs8 := [g0 q o0 a0 U6, g5 q o1 a1 tp U7, g9 q tp a2 940 S2, g8 q o3 a3 S3]) C (k_rV (As := [.ref o1, .ref o3]) (rest := []) C (c_X0_readLine l D q tp o0 a0 S0 o1 a1 S1 o3 a3 S3 _ hc5) kc_X0_readLine ml_X0_38 rfl rfl (by decide) (flP hP [0, 1, 3] rfl) (flD hD [0, 1, 3] (by decide) rfl) hS (va_recv hK hP (ci := 0) (q0 := 0) rfl rfl) rfl hl.1 rfl (Nat.le_of_ble_eq_true rfl) dX0_readFrom_31 (by decide)) hP hD hS [0, 1, 3] [2] [g9 q tp a2 940 S2] 4 (by decide) rfl rfl rfl rfl rfl rfl (by simp only [List.map_cons, List.map_nil, gad0, gad5, gad8, gad9]) (fun H locs hP hD hS => ?_)
      refine lv_aload_n hx hb dX0_readFrom_34 rfl (lv_at hl 1 rfl) ?_
      refine lv_bipush (v := (59 : Int32)) hx hb dX0_readFrom_35 (by decide) ?_
      obtain ⟨U9, hc8, hF⟩ := ob1_s hF
      refine k_vgrp (gs8 := [g0 q o0 a0 U6, g5 q o1 a1 tp U9, g9 q tp a2 940 S2, g8 q o3 a3 S3]) C (k_rV (As := [.int (59 : Int32)]) (rest := []) C (c_X5_needMark l D q tp o1 a1 U7 _ (59 : Int32) hc8) kc_X5_needMark ml_X0_42 rfl rfl (by decide) (flP hP [1] rfl) (flD hD [1] (by decide) rfl) hS (va_recv hK hP (ci := 5) (q0 := 5) rfl rfl) rfl hl.1 rfl (Nat.le_of_ble_eq_true rfl) dX0_readFrom_37 (by decide)) hP hD hS [1] [0, 2, 3] [g0 q o0 a0 U6, g9 q tp a2 940 S2, g8 q o3 a3 S3] 4 (by decide) rfl rfl rfl rfl rfl rfl (by simp only [List.map_cons, List.map_nil, gad0, gad5, gad8, gad9]) (fun H locs hP hD hS => ?_)
      refine lv_iinc (v := (x3 + 1)) (lv' := [(3, .int (x3 + 1)), (0, .ref o0), (1, .ref o1), (2, .ref o3)]) hx hb dX0_readFrom_40 hl (k := 3) rfl rfl (by decide) rfl (fun ls hl => ?_)
      refine lv_goto (tgt := 14) hx hb dX0_readFrom_43 (by decide) ?_
      exact hk14 (x3 + 1) U6 U9 S2 S3 hF _ _ _ hP hD hS (lv_sub hl [1, 2, 3, 0] rfl)
set_option maxRecDepth 100000 in
set_option maxHeartbeats 4000000 in
theorem l_X0_readFrom_14 {p : Program} {l : Launch} {e : Env} {s : State} {m : MethodId} {args : Array Value} {below : List Frame} {meth : Method} {c : Code} {D : va_G} {q : Nat → ClassId} {A : Nat → Prop} {tp : Nat} {o0 : Nat} {a0 : Nat → Nat} {o1 : Nat} {a1 : Nat → Nat} {a2 : Nat → Nat} {o3 : Nat} {a3 : Nat → Nat} {r : Int32} {T0 : St} {T1 : St} (C : cx p s m args meth c cX0_readFrom 4 (some .boolean) RX0 D q A) {x3 : Int32} {S0 : St} {S1 : St} {S2 : St} {S3 : St} (hF : L_X0_readFrom_14 x3 S0 S1 S2 S3 = some (r, T0, T1)) : ∀ (H : Heap) (locs : List Loc) (ls : Array Slot), va_P D vwCl (fl [g0 q o0 a0 S0, g5 q o1 a1 tp S1, g9 q tp a2 940 S2, g8 q o3 a3 S3]) H → va_D A (fl [g0 q o0 a0 S0, g5 q o1 a1 tp S1, g9 q tp a2 940 S2, g8 q o3 a3 S3]) → va_S A s.heap H locs → lv_has ls 4 [(0, .ref o0), (1, .ref o1), (2, .ref o3), (3, .int x3)] → W p l e rm_X0_readFrom s m args below meth c H locs 0 0 (MQ below (QI D A r (fl [g0 q o0 a0 T0, g5 q o1 a1 tp T1, g9 q tp a2 940 S2, g8 q o3 a3 S3])) args s 0 0 A) (F0 m 14 ls []) :=
  lp_G _ _ (fun z => ∀ (H : Heap) (locs : List Loc) (ls : Array Slot), va_P D vwCl (fl [g0 q o0 a0 z.2.1, g5 q o1 a1 tp z.2.2.1, g9 q tp a2 940 z.2.2.2.1, g8 q o3 a3 z.2.2.2.2]) H → va_D A (fl [g0 q o0 a0 z.2.1, g5 q o1 a1 tp z.2.2.1, g9 q tp a2 940 z.2.2.2.1, g8 q o3 a3 z.2.2.2.2]) → va_S A s.heap H locs → lv_has ls 4 [(0, .ref o0), (1, .ref o1), (2, .ref o3), (3, .int z.1)] → W p l e rm_X0_readFrom s m args below meth c H locs 0 0 (MQ below (QI D A r (fl [g0 q o0 a0 T0, g5 q o1 a1 tp T1, g9 q tp a2 940 z.2.2.2.1, g8 q o3 a3 z.2.2.2.2])) args s 0 0 A) (F0 m 14 ls [])) (fun kz hkz z hz H locs ls hP hD hS hl => b_X0_readFrom_14 C (fun x3 S0 S1 S2 S3 hz => hkz (x3, S0, S1, S2, S3) hz) hz hP hD hS hl) FU (x3, S0, S1, S2, S3) hF
set_option maxRecDepth 100000 in
set_option maxHeartbeats 4000000 in
theorem c_X0_readFrom (l : Launch) (D : va_G) (q : Nat → ClassId) (tp : Nat) (o0 : Nat) (a0 : Nat → Nat) (S0 : St) (o1 : Nat) (a1 : Nat → Nat) (S1 : St) (a2 : Nat → Nat) (S2 : St) (o3 : Nat) (a3 : Nat → Nat) (S3 : St) (sz : Nat) {r : Int32} {T0 : St} {T1 : St} (hF : F_X0_readFrom S0 S1 S2 S3 = some (r, T0, T1)) : Met l yX0_readFrom (Cond.code yX0_readFrom cX0_readFrom 4 (some .boolean) :: TB) rm_X0_readFrom (PC D q [.ref o0, .ref o1, .ref o3] (fl [g0 q o0 a0 S0, g5 q o1 a1 tp S1, g9 q tp a2 940 S2, g8 q o3 a3 S3]) sz) ((fun A => QI D A r (fl [g0 q o0 a0 T0, g5 q o1 a1 tp T1, g9 q tp a2 940 S2, g8 q o3 a3 S3])) (va_A (fl [g0 q o0 a0 S0, g5 q o1 a1 tp S1, g9 q tp a2 940 S2, g8 q o3 a3 S3]) sz)) 0 0 (va_A (fl [g0 q o0 a0 S0, g5 q o1 a1 tp S1, g9 q tp a2 940 S2, g8 q o3 a3 S3]) sz) := by
  refine k_met (w0 := fl [g0 q o0 a0 S0, g5 q o1 a1 tp S1, g9 q tp a2 940 S2, g8 q o3 a3 S3]) (Q := fun A => QI D A r (fl [g0 q o0 a0 T0, g5 q o1 a1 tp T1, g9 q tp a2 940 S2, g8 q o3 a3 S3])) (by decide +kernel) (Nat.le_of_ble_eq_true rfl) ?_
  intro p e s m args below meth c A ls C hP hD hS hl
  have hl : lv_has ls 4 [(0, .ref o0), (1, .ref o1), (2, .ref o3)] := hl
  unfold F_X0_readFrom at hF
  have C : cx p s m args meth c cX0_readFrom 4 (some .boolean) RX0 D q A := C
  obtain ⟨hx, hb, hr, hml, hown, hts, hlk, hA, hK, hN, hV⟩ := id C
  refine lv_aload_n hx hb dX0_readFrom_0 rfl (lv_at hl 0 rfl) ?_
  refine lv_iconst (v := (0 : Int32)) hx hb dX0_readFrom_1 (by decide) ?_
  obtain ⟨U1, e2, hF⟩ := nw_s hF
  refine k_put (W8 := fl [g0 q o0 a0 U1, g5 q o1 a1 tp S1, g9 q tp a2 940 S2, g8 q o3 a3 S3]) C fp_X0_24 hP hD hS 0 rfl rfl rfl (Nat.le_of_ble_eq_true rfl) dX0_readFrom_2 (by rw [e2]; rfl) (fun H locs hP hD hS => ?_)
  refine lv_aload_n hx hb dX0_readFrom_5 rfl (lv_at hl 1 rfl) ?_
  refine lv_sipush (v := (400 : Int32)) hx hb dX0_readFrom_6 (by decide) ?_
  obtain ⟨U4, hc3, hF⟩ := ob1_s hF
  refine k_vgrp (gs8 := [g0 q o0 a0 U1, g5 q o1 a1 tp U4, g9 q tp a2 940 S2, g8 q o3 a3 S3]) C (k_rV (As := [.int (400 : Int32)]) (rest := []) C (c_X5_begin l D q tp o1 a1 S1 a2 S2 _ (400 : Int32) hc3) kc_X5_begin ml_X0_28 rfl rfl (by decide) (flP hP [1, 2] rfl) (flD hD [1, 2] (by decide) rfl) hS (va_recv hK hP (ci := 5) (q0 := 5) rfl rfl) rfl hl.1 rfl (Nat.le_of_ble_eq_true rfl) dX0_readFrom_9 (by decide)) hP hD hS [1, 2] [0, 3] [g0 q o0 a0 U1, g8 q o3 a3 S3] 4 (by decide) rfl rfl rfl rfl rfl rfl (by simp only [List.map_cons, List.map_nil, gad0, gad5, gad8, gad9]) (fun H locs hP hD hS => ?_)
  refine lv_iconst (v := (0 : Int32)) hx hb dX0_readFrom_12 (by decide) ?_
  refine lv_istore_n (lv' := [(3, .int (0 : Int32)), (0, .ref o0), (1, .ref o1), (2, .ref o3)]) hx hb dX0_readFrom_13 rfl hl (by decide) rfl (fun ls hl => ?_)
  exact l_X0_readFrom_14 C hF _ _ _ hP hD hS (lv_sub hl [1, 2, 3, 0] rfl)

abbrev rm_X8_whoIsUp : Room := ({ frames := 0, cells := 0, slots := 0, locals := 0 } : Room)
def F_X8_whoIsUp_2 (k2 : Int32 × Int32 × St → Option (Int32)) (x1 : Int32) (x2 : Int32) (S0 : St) : Option (Int32) := if (S0.1 7) ≤ x2 then (some ((-1 : Int32))) else (if oob x2 6 then none else if (S0.2.2.1 12 x2.toNatClampNeg) = x1 then (some (x2)) else (k2 (x1, (x2 + 1), S0)))
def L_X8_whoIsUp_2 (x1 : Int32) (x2 : Int32) (S0 : St) : Option (Int32) := lp (fun kz z => F_X8_whoIsUp_2 kz z.1 z.2.1 z.2.2) FU (x1, x2, S0)
def F_X8_whoIsUp (S0 : St) (x1 : Int32) : Option (Int32) := L_X8_whoIsUp_2 x1 (0 : Int32) S0
set_option maxRecDepth 100000 in
set_option maxHeartbeats 4000000 in
theorem b_X8_whoIsUp_2 {p : Program} {l : Launch} {e : Env} {s : State} {m : MethodId} {args : Array Value} {below : List Frame} {meth : Method} {c : Code} {D : va_G} {q : Nat → ClassId} {A : Nat → Prop} {o0 : Nat} {a0 : Nat → Nat} {r : Int32} (C : cx p s m args meth c cX8_whoIsUp 3 (some .int) RX8 D q A) {k2 : Int32 × Int32 × St → Option (Int32)} (hk2 : ∀ (x1 : Int32) (x2 : Int32) (S0 : St), k2 (x1, x2, S0) = some (r) → ∀ (H : Heap) (locs : List Loc) (ls : Array Slot), va_P D vwCl (fl [g8 q o0 a0 S0]) H → va_D A (fl [g8 q o0 a0 S0]) → va_S A s.heap H locs → lv_has ls 3 [(0, .ref o0), (1, .int x1), (2, .int x2)] → W p l e rm_X8_whoIsUp s m args below meth c H locs 0 0 (MQ below (QI D A r (fl [g8 q o0 a0 S0])) args s 0 0 A) (F0 m 2 ls [])) {x1 : Int32} {x2 : Int32} {S0 : St} (hF : F_X8_whoIsUp_2 k2 x1 x2 S0 = some (r)) {H : Heap} {locs : List Loc} (hP : va_P D vwCl (fl [g8 q o0 a0 S0]) H) (hD : va_D A (fl [g8 q o0 a0 S0])) (hS : va_S A s.heap H locs) {ls : Array Slot} (hl : lv_has ls 3 [(0, .ref o0), (1, .int x1), (2, .int x2)]) : W p l e rm_X8_whoIsUp s m args below meth c H locs 0 0 (MQ below (QI D A r (fl [g8 q o0 a0 S0])) args s 0 0 A) (F0 m 2 ls []) := by
  unfold F_X8_whoIsUp_2 at hF
  obtain ⟨hx, hb, hr, hml, hown, hts, hlk, hA, hK, hN, hV⟩ := id C
  refine lv_iload_n hx hb dX8_whoIsUp_2 rfl (lv_at hl 2 rfl) ?_
  refine lv_aload_n hx hb dX8_whoIsUp_3 rfl (lv_at hl 0 rfl) ?_
  refine k_get (v := .int (S0.1 7)) C fg_X8_59 hP 0 rfl rfl dX8_whoIsUp_4 ?_
  refine lv_icmp_ge (tgt := 28) hx hb dX8_whoIsUp_7 (by decide) (fun c1 => ?_) (fun c1 => ?_)
  · have hF := op_t hF c1
    refine lv_iconst (v := (-1 : Int32)) hx hb dX8_whoIsUp_28 (by decide) ?_
    cases hF
    exact k_iret C hP hS dX8_whoIsUp_29
  · have hF := op_f hF c1
    refine lv_aload_n hx hb dX8_whoIsUp_10 rfl (lv_at hl 0 rfl) ?_
    refine k_get (v := .ref (a0 13)) C fg_X8_37 hP 0 rfl rfl dX8_whoIsUp_11 ?_
    refine lv_iload_n hx hb dX8_whoIsUp_14 rfl (lv_at hl 2 rfl) ?_
    obtain ⟨h2, hF⟩ := op_ck hF
    refine k_ild (f := S0.2.2.1 12) C hP 9 rfl h2 dX8_whoIsUp_15 ?_
    refine lv_iload_n hx hb dX8_whoIsUp_16 rfl (lv_at hl 1 rfl) ?_
    refine lv_icmp_ne (tgt := 22) hx hb dX8_whoIsUp_17 (by decide) (fun c3 => ?_) (fun c3 => ?_)
    · have hF := op_f hF c3
      refine lv_iinc (v := (x2 + 1)) (lv' := [(2, .int (x2 + 1)), (0, .ref o0), (1, .int x1)]) hx hb dX8_whoIsUp_22 hl (k := 2) rfl rfl (by decide) rfl (fun ls hl => ?_)
      refine lv_goto (tgt := 2) hx hb dX8_whoIsUp_25 (by decide) ?_
      exact hk2 x1 (x2 + 1) S0 hF _ _ _ hP hD hS (lv_sub hl [1, 2, 0] rfl)
    · have hF := op_t hF c3
      refine lv_iload_n hx hb dX8_whoIsUp_20 rfl (lv_at hl 2 rfl) ?_
      cases hF
      exact k_iret C hP hS dX8_whoIsUp_21
set_option maxRecDepth 100000 in
set_option maxHeartbeats 4000000 in
theorem l_X8_whoIsUp_2 {p : Program} {l : Launch} {e : Env} {s : State} {m : MethodId} {args : Array Value} {below : List Frame} {meth : Method} {c : Code} {D : va_G} {q : Nat → ClassId} {A : Nat → Prop} {o0 : Nat} {a0 : Nat → Nat} {r : Int32} (C : cx p s m args meth c cX8_whoIsUp 3 (some .int) RX8 D q A) {x1 : Int32} {x2 : Int32} {S0 : St} (hF : L_X8_whoIsUp_2 x1 x2 S0 = some (r)) : ∀ (H : Heap) (locs : List Loc) (ls : Array Slot), va_P D vwCl (fl [g8 q o0 a0 S0]) H → va_D A (fl [g8 q o0 a0 S0]) → va_S A s.heap H locs → lv_has ls 3 [(0, .ref o0), (1, .int x1), (2, .int x2)] → W p l e rm_X8_whoIsUp s m args below meth c H locs 0 0 (MQ below (QI D A r (fl [g8 q o0 a0 S0])) args s 0 0 A) (F0 m 2 ls []) :=
  lp_G _ _ (fun z => ∀ (H : Heap) (locs : List Loc) (ls : Array Slot), va_P D vwCl (fl [g8 q o0 a0 z.2.2]) H → va_D A (fl [g8 q o0 a0 z.2.2]) → va_S A s.heap H locs → lv_has ls 3 [(0, .ref o0), (1, .int z.1), (2, .int z.2.1)] → W p l e rm_X8_whoIsUp s m args below meth c H locs 0 0 (MQ below (QI D A r (fl [g8 q o0 a0 z.2.2])) args s 0 0 A) (F0 m 2 ls [])) (fun kz hkz z hz H locs ls hP hD hS hl => b_X8_whoIsUp_2 C (fun x1 x2 S0 hz => hkz (x1, x2, S0) hz) hz hP hD hS hl) FU (x1, x2, S0) hF
set_option maxRecDepth 100000 in
set_option maxHeartbeats 4000000 in
theorem c_X8_whoIsUp (l : Launch) (D : va_G) (q : Nat → ClassId) (o0 : Nat) (a0 : Nat → Nat) (S0 : St) (sz : Nat) (x1 : Int32) {r : Int32} (hF : F_X8_whoIsUp S0 x1 = some (r)) : Met l yX8_whoIsUp (Cond.code yX8_whoIsUp cX8_whoIsUp 3 (some .int) :: TB) rm_X8_whoIsUp (PC D q [.ref o0, .int x1] (fl [g8 q o0 a0 S0]) sz) ((fun A => QI D A r (fl [g8 q o0 a0 S0])) (va_A (fl [g8 q o0 a0 S0]) sz)) 0 0 (va_A (fl [g8 q o0 a0 S0]) sz) := by
  refine k_met (w0 := fl [g8 q o0 a0 S0]) (Q := fun A => QI D A r (fl [g8 q o0 a0 S0])) (by decide +kernel) (Nat.le_of_ble_eq_true rfl) ?_
  intro p e s m args below meth c A ls C hP hD hS hl
  have hl : lv_has ls 3 [(0, .ref o0), (1, .int x1)] := hl
  unfold F_X8_whoIsUp at hF
  have C : cx p s m args meth c cX8_whoIsUp 3 (some .int) RX8 D q A := C
  obtain ⟨hx, hb, hr, hml, hown, hts, hlk, hA, hK, hN, hV⟩ := id C
  refine lv_iconst (v := (0 : Int32)) hx hb dX8_whoIsUp_0 (by decide) ?_
  refine lv_istore_n (lv' := [(2, .int (0 : Int32)), (0, .ref o0), (1, .int x1)]) hx hb dX8_whoIsUp_1 rfl hl (by decide) rfl (fun ls hl => ?_)
  exact l_X8_whoIsUp_2 C hF _ _ _ hP hD hS (lv_sub hl [1, 2, 0] rfl)

abbrev rm_X8_lookCount : Room := ({ frames := 0, cells := 0, slots := 0, locals := 0 } : Room)
def F_X8_lookCount (S0 : St) (x1 : Int32) : Option (Int32) := if oob x1 7 then none else if (S0.2.2.1 2 x1.toNatClampNeg) = (0 : Int32) then (some ((1 : Int32))) else if (S0.2.2.1 2 x1.toNatClampNeg) = (1 : Int32) then (some ((3 : Int32))) else some ((8 : Int32))
set_option maxRecDepth 100000 in
set_option maxHeartbeats 4000000 in
theorem c_X8_lookCount (l : Launch) (D : va_G) (q : Nat → ClassId) (o0 : Nat) (a0 : Nat → Nat) (S0 : St) (sz : Nat) (x1 : Int32) {r : Int32} (hF : F_X8_lookCount S0 x1 = some (r)) : Met l yX8_lookCount (Cond.code yX8_lookCount cX8_lookCount 2 (some .int) :: TB) rm_X8_lookCount (PC D q [.ref o0, .int x1] (fl [g8 q o0 a0 S0]) sz) ((fun A => QI D A r (fl [g8 q o0 a0 S0])) (va_A (fl [g8 q o0 a0 S0]) sz)) 0 0 (va_A (fl [g8 q o0 a0 S0]) sz) := by
  refine k_met (w0 := fl [g8 q o0 a0 S0]) (Q := fun A => QI D A r (fl [g8 q o0 a0 S0])) (by decide +kernel) (Nat.le_of_ble_eq_true rfl) ?_
  intro p e s m args below meth c A ls C hP hD hS hl
  have hl : lv_has ls 2 [(0, .ref o0), (1, .int x1)] := hl
  unfold F_X8_lookCount at hF
  have C : cx p s m args meth c cX8_lookCount 2 (some .int) RX8 D q A := C
  obtain ⟨hx, hb, hr, hml, hown, hts, hlk, hA, hK, hN, hV⟩ := id C
  refine lv_aload_n hx hb dX8_lookCount_0 rfl (lv_at hl 0 rfl) ?_
  refine k_get (v := .ref (a0 3)) C fg_X8_15 hP 0 rfl rfl dX8_lookCount_1 ?_
  refine lv_iload_n hx hb dX8_lookCount_4 rfl (lv_at hl 1 rfl) ?_
  obtain ⟨h1, hF⟩ := op_ck hF
  refine k_ild (f := S0.2.2.1 2) C hP 2 rfl h1 dX8_lookCount_5 ?_
  by_cases c2 : (S0.2.2.1 2 x1.toNatClampNeg) = (0 : Int32)
  · have hF := op_t hF c2
    refine lv_lookup (off := 26) (tgt := 32) hx hb dX8_lookCount_6 (by decide) (by first | (rw [c2]; rfl) | rw [c2]) (by decide) ?_
    refine lv_iconst (v := (1 : Int32)) hx hb dX8_lookCount_32 (by decide) ?_
    cases hF
    exact k_iret C hP hS dX8_lookCount_33
  have hF := op_f hF c2
  by_cases c3 : (S0.2.2.1 2 x1.toNatClampNeg) = (1 : Int32)
  · have hF := op_t hF c3
    refine lv_lookup (off := 28) (tgt := 34) hx hb dX8_lookCount_6 (by decide) (by first | (rw [c3]; rfl) | rw [c3]) (by decide) ?_
    refine lv_iconst (v := (3 : Int32)) hx hb dX8_lookCount_34 (by decide) ?_
    cases hF
    exact k_iret C hP hS dX8_lookCount_35
  have hF := op_f hF c3
  refine lv_lookup (off := 30) (tgt := 36) hx hb dX8_lookCount_6 (by decide) (by first | (rw [lv_osw c2 (k := 0) (by decide), lv_osw c3 (k := 1) (by decide)]; rfl) | rw [lv_osw c2 (k := 0) (by decide), lv_osw c3 (k := 1) (by decide)]) (by decide) ?_
  refine lv_bipush (v := (8 : Int32)) hx hb dX8_lookCount_36 (by decide) ?_
  cases hF
  exact k_iret C hP hS dX8_lookCount_38

abbrev rm_X11_allRound : Room := ({ frames := 0, cells := 0, slots := 0, locals := 0 } : Room)
def F_X11_allRound (x0 : Int32) : Option (Int32) := some ((x0 &&& (7 : Int32)))
set_option maxRecDepth 100000 in
set_option maxHeartbeats 4000000 in
theorem c_X11_allRound (l : Launch) (D : va_G) (q : Nat → ClassId) (sz : Nat) (x0 : Int32) {r : Int32} (hF : F_X11_allRound x0 = some (r)) : Met l yX11_allRound (Cond.code yX11_allRound cX11_allRound 1 (some .int) :: TB) rm_X11_allRound (PC D q [.int x0] ([]) sz) ((fun A => QI D A r ([])) (va_A ([]) sz)) 0 0 (va_A ([]) sz) := by
  refine k_met (w0 := []) (Q := fun A => QI D A r ([])) (by decide +kernel) (Nat.le_of_ble_eq_true rfl) ?_
  intro p e s m args below meth c A ls C hP hD hS hl
  have hl : lv_has ls 1 [(0, .int x0)] := hl
  unfold F_X11_allRound at hF
  have C : cx p s m args meth c cX11_allRound 1 (some .int) RX11 D q A := C
  obtain ⟨hx, hb, hr, hml, hown, hts, hlk, hA, hK, hN, hV⟩ := id C
  refine lv_iload_n hx hb dX11_allRound_0 rfl (lv_at hl 0 rfl) ?_
  refine lv_bipush (v := (7 : Int32)) hx hb dX11_allRound_1 (by decide) ?_
  refine lv_iand hx hb dX11_allRound_3 ?_
  cases hF
  exact k_iret C hP hS dX11_allRound_4

abbrev rm_X8_lookAt : Room := ({ frames := 1, cells := 0, slots := 0, locals := 20 } : Room)
def F_X8_lookAt_64 (s0 : Int32) (S0 : St) : Option (Int32) := ob1 (F_X11_allRound s0) fun r2 => some (r2)
def F_X8_lookAt (S0 : St) (x1 : Int32) (x2 : Int32) : Option (Int32) := if oob x1 7 then none else if oob x1 7 then none else if (S0.2.2.1 2 x1.toNatClampNeg) = (0 : Int32) then (some ((S0.2.2.1 3 x1.toNatClampNeg))) else if (S0.2.2.1 2 x1.toNatClampNeg) = (1 : Int32) then (if x2 = 0 then (F_X8_lookAt_64 (S0.2.2.1 3 x1.toNatClampNeg) S0) else (if x2 = (1 : Int32) then (F_X8_lookAt_64 ((S0.2.2.1 3 x1.toNatClampNeg) - (1 : Int32)) S0) else (F_X8_lookAt_64 ((S0.2.2.1 3 x1.toNatClampNeg) + (1 : Int32)) S0))) else if (S0.2.2.1 2 x1.toNatClampNeg) = (2 : Int32) then (ob1 (F_X11_allRound ((S0.2.2.1 3 x1.toNatClampNeg) + x2)) fun r9 => some (r9)) else ob1 (F_X11_allRound ((S0.2.2.1 3 x1.toNatClampNeg) - x2)) fun r11 => some (r11)
set_option maxRecDepth 100000 in
set_option maxHeartbeats 4000000 in
theorem b_X8_lookAt_64 {p : Program} {l : Launch} {e : Env} {s : State} {m : MethodId} {args : Array Value} {below : List Frame} {meth : Method} {c : Code} {D : va_G} {q : Nat → ClassId} {A : Nat → Prop} {o0 : Nat} {a0 : Nat → Nat} {r : Int32} (C : cx p s m args meth c cX8_lookAt 4 (some .int) RX8 D q A) {s0 : Int32} {S0 : St} (hF : F_X8_lookAt_64 s0 S0 = some (r)) {H : Heap} {locs : List Loc} (hP : va_P D vwCl (fl [g8 q o0 a0 S0]) H) (hD : va_D A (fl [g8 q o0 a0 S0])) (hS : va_S A s.heap H locs) {ls : Array Slot} (hl : lv_has ls 4 []) : W p l e rm_X8_lookAt s m args below meth c H locs 0 0 (MQ below (QI D A r (fl [g8 q o0 a0 S0])) args s 0 0 A) (F0 m 64 ls [.int s0]) := by
  unfold F_X8_lookAt_64 at hF
  obtain ⟨hx, hb, hr, hml, hown, hts, hlk, hA, hK, hN, hV⟩ := id C
  obtain ⟨r2, hc1, hF⟩ := ob1_s hF
  refine k_inil C (k_rN (As := [.int s0]) (rest := []) C (c_X11_allRound l D q _ s0 hc1) kc_X11_allRound (List.mem_of_getElem? (i := 1) rfl) rfl rfl (by decide) (fun k x h => by simp at h) (⟨fun i j x y h => by simp at h, fun k x h => by simp at h⟩ : va_D A []) hS rfl hl.1 rfl (Nat.le_of_ble_eq_true rfl) dX8_lookAt_64 (by decide)) hP hD hS (fun H locs hP hD hS => ?_)
  cases hF
  exact k_iret C hP hS dX8_lookAt_67
set_option maxRecDepth 100000 in
set_option maxHeartbeats 4000000 in
theorem c_X8_lookAt (l : Launch) (D : va_G) (q : Nat → ClassId) (o0 : Nat) (a0 : Nat → Nat) (S0 : St) (sz : Nat) (x1 : Int32) (x2 : Int32) {r : Int32} (hF : F_X8_lookAt S0 x1 x2 = some (r)) : Met l yX8_lookAt (Cond.code yX8_lookAt cX8_lookAt 4 (some .int) :: TB) rm_X8_lookAt (PC D q [.ref o0, .int x1, .int x2] (fl [g8 q o0 a0 S0]) sz) ((fun A => QI D A r (fl [g8 q o0 a0 S0])) (va_A (fl [g8 q o0 a0 S0]) sz)) 0 0 (va_A (fl [g8 q o0 a0 S0]) sz) := by
  refine k_met (w0 := fl [g8 q o0 a0 S0]) (Q := fun A => QI D A r (fl [g8 q o0 a0 S0])) (by decide +kernel) (Nat.le_of_ble_eq_true rfl) ?_
  intro p e s m args below meth c A ls C hP hD hS hl
  have hl : lv_has ls 4 [(0, .ref o0), (1, .int x1), (2, .int x2)] := hl
  unfold F_X8_lookAt at hF
  have C : cx p s m args meth c cX8_lookAt 4 (some .int) RX8 D q A := C
  obtain ⟨hx, hb, hr, hml, hown, hts, hlk, hA, hK, hN, hV⟩ := id C
  refine lv_aload_n hx hb dX8_lookAt_0 rfl (lv_at hl 0 rfl) ?_
  refine k_get (v := .ref (a0 4)) C fg_X8_19 hP 0 rfl rfl dX8_lookAt_1 ?_
  refine lv_iload_n hx hb dX8_lookAt_4 rfl (lv_at hl 1 rfl) ?_
  obtain ⟨h1, hF⟩ := op_ck hF
  refine k_ild (f := S0.2.2.1 3) C hP 3 rfl h1 dX8_lookAt_5 ?_
  refine lv_istore_n (lv' := [(3, .int (S0.2.2.1 3 x1.toNatClampNeg)), (0, .ref o0), (1, .int x1), (2, .int x2)]) hx hb dX8_lookAt_6 rfl hl (by decide) rfl (fun ls hl => ?_)
  refine lv_aload_n hx hb dX8_lookAt_7 rfl (lv_at hl 1 rfl) ?_
  refine k_get (v := .ref (a0 3)) C fg_X8_15 hP 0 rfl rfl dX8_lookAt_8 ?_
  refine lv_iload_n hx hb dX8_lookAt_11 rfl (lv_at hl 2 rfl) ?_
  obtain ⟨h2, hF⟩ := op_ck hF
  refine k_ild (f := S0.2.2.1 2) C hP 2 rfl h2 dX8_lookAt_12 ?_
  by_cases c3 : (S0.2.2.1 2 x1.toNatClampNeg) = (0 : Int32)
  · have hF := op_t hF c3
    refine lv_tableIn (tgt := 40) hx hb dX8_lookAt_13 (by rw [c3]; decide) (by rw [c3]; decide) (by rw [c3]; rfl) (by decide) ?_
    refine lv_iload_n hx hb dX8_lookAt_40 rfl (lv_at hl 0 rfl) ?_
    cases hF
    exact k_iret C hP hS dX8_lookAt_41
  have hF := op_f hF c3
  by_cases c4 : (S0.2.2.1 2 x1.toNatClampNeg) = (1 : Int32)
  · have hF := op_t hF c4
    refine lv_tableIn (tgt := 42) hx hb dX8_lookAt_13 (by rw [c4]; decide) (by rw [c4]; decide) (by rw [c4]; rfl) (by decide) ?_
    refine lv_iload_n hx hb dX8_lookAt_42 rfl (lv_at hl 3 rfl) ?_
    refine lv_if_ne (tgt := 50) hx hb dX8_lookAt_43 (by decide) (fun c5 => ?_) (fun c5 => ?_)
    · have hF := op_f hF c5
      refine lv_iload_n hx hb dX8_lookAt_50 rfl (lv_at hl 3 rfl) ?_
      refine lv_iconst (v := (1 : Int32)) hx hb dX8_lookAt_51 (by decide) ?_
      refine lv_icmp_ne (tgt := 61) hx hb dX8_lookAt_52 (by decide) (fun c6 => ?_) (fun c6 => ?_)
      · have hF := op_f hF c6
        refine lv_iload_n hx hb dX8_lookAt_61 rfl (lv_at hl 0 rfl) ?_
        refine lv_iconst (v := (1 : Int32)) hx hb dX8_lookAt_62 (by decide) ?_
        refine lv_iadd hx hb dX8_lookAt_63 ?_
        exact b_X8_lookAt_64 C hF hP hD hS (lv_sub hl [] rfl)
      · have hF := op_t hF c6
        refine lv_iload_n hx hb dX8_lookAt_55 rfl (lv_at hl 0 rfl) ?_
        refine lv_iconst (v := (1 : Int32)) hx hb dX8_lookAt_56 (by decide) ?_
        refine lv_isub hx hb dX8_lookAt_57 ?_
        refine lv_goto (tgt := 64) hx hb dX8_lookAt_58 (by decide) ?_
        exact b_X8_lookAt_64 C hF hP hD hS (lv_sub hl [] rfl)
    · have hF := op_t hF c5
      refine lv_iload_n hx hb dX8_lookAt_46 rfl (lv_at hl 0 rfl) ?_
      refine lv_goto (tgt := 64) hx hb dX8_lookAt_47 (by decide) ?_
      exact b_X8_lookAt_64 C hF hP hD hS (lv_sub hl [] rfl)
  have hF := op_f hF c4
  by_cases c7 : (S0.2.2.1 2 x1.toNatClampNeg) = (2 : Int32)
  · have hF := op_t hF c7
    refine lv_tableIn (tgt := 68) hx hb dX8_lookAt_13 (by rw [c7]; decide) (by rw [c7]; decide) (by rw [c7]; rfl) (by decide) ?_
    refine lv_iload_n hx hb dX8_lookAt_68 rfl (lv_at hl 0 rfl) ?_
    refine lv_iload_n hx hb dX8_lookAt_69 rfl (lv_at hl 3 rfl) ?_
    refine lv_iadd hx hb dX8_lookAt_70 ?_
    obtain ⟨r9, hc8, hF⟩ := ob1_s hF
    refine k_inil C (k_rN (As := [.int ((S0.2.2.1 3 x1.toNatClampNeg) + x2)]) (rest := []) C (c_X11_allRound l D q _ ((S0.2.2.1 3 x1.toNatClampNeg) + x2) hc8) kc_X11_allRound (List.mem_of_getElem? (i := 1) rfl) rfl rfl (by decide) (fun k x h => by simp at h) (⟨fun i j x y h => by simp at h, fun k x h => by simp at h⟩ : va_D A []) hS rfl hl.1 rfl (Nat.le_of_ble_eq_true rfl) dX8_lookAt_71 (by decide)) hP hD hS (fun H locs hP hD hS => ?_)
    cases hF
    exact k_iret C hP hS dX8_lookAt_74
  have hF := op_f hF c7
  have nc3 := lv_neT (a := 0) c3 (by decide)
  have nc4 := lv_neT (a := 1) c4 (by decide)
  have nc7 := lv_neT (a := 2) c7 (by decide)
  refine lv_tableOut (tgt := 75) hx hb dX8_lookAt_13 (by omega) (by decide) ?_
  refine lv_iload_n hx hb dX8_lookAt_75 rfl (lv_at hl 0 rfl) ?_
  refine lv_iload_n hx hb dX8_lookAt_76 rfl (lv_at hl 3 rfl) ?_
  refine lv_isub hx hb dX8_lookAt_77 ?_
  obtain ⟨r11, hc10, hF⟩ := ob1_s hF
  refine k_inil C (k_rN (As := [.int ((S0.2.2.1 3 x1.toNatClampNeg) - x2)]) (rest := []) C (c_X11_allRound l D q _ ((S0.2.2.1 3 x1.toNatClampNeg) - x2) hc10) kc_X11_allRound (List.mem_of_getElem? (i := 1) rfl) rfl rfl (by decide) (fun k x h => by simp at h) (⟨fun i j x y h => by simp at h, fun k x h => by simp at h⟩ : va_D A []) hS rfl hl.1 rfl (Nat.le_of_ble_eq_true rfl) dX8_lookAt_78 (by decide)) hP hD hS (fun H locs hP hD hS => ?_)
  cases hF
  exact k_iret C hP hS dX8_lookAt_81

abbrev rm_X11_opposite : Room := ({ frames := 0, cells := 0, slots := 0, locals := 0 } : Room)
def F_X11_opposite (x0 : Int32) : Option (Int32) := some (((x0 + (4 : Int32)) &&& (7 : Int32)))
set_option maxRecDepth 100000 in
set_option maxHeartbeats 4000000 in
theorem c_X11_opposite (l : Launch) (D : va_G) (q : Nat → ClassId) (sz : Nat) (x0 : Int32) {r : Int32} (hF : F_X11_opposite x0 = some (r)) : Met l yX11_opposite (Cond.code yX11_opposite cX11_opposite 1 (some .int) :: TB) rm_X11_opposite (PC D q [.int x0] ([]) sz) ((fun A => QI D A r ([])) (va_A ([]) sz)) 0 0 (va_A ([]) sz) := by
  refine k_met (w0 := []) (Q := fun A => QI D A r ([])) (by decide +kernel) (Nat.le_of_ble_eq_true rfl) ?_
  intro p e s m args below meth c A ls C hP hD hS hl
  have hl : lv_has ls 1 [(0, .int x0)] := hl
  unfold F_X11_opposite at hF
  have C : cx p s m args meth c cX11_opposite 1 (some .int) RX11 D q A := C
  obtain ⟨hx, hb, hr, hml, hown, hts, hlk, hA, hK, hN, hV⟩ := id C
  refine lv_iload_n hx hb dX11_opposite_0 rfl (lv_at hl 0 rfl) ?_
  refine lv_iconst (v := (4 : Int32)) hx hb dX11_opposite_1 (by decide) ?_
  refine lv_iadd hx hb dX11_opposite_2 ?_
  refine lv_bipush (v := (7 : Int32)) hx hb dX11_opposite_3 (by decide) ?_
  refine lv_iand hx hb dX11_opposite_5 ?_
  cases hF
  exact k_iret C hP hS dX11_opposite_6

abbrev rm_X11_having : Room := ({ frames := 1, cells := 0, slots := 0, locals := 20 } : Room)
def F_X11_having (x0 : Int32) (x1 : Int32) : Option (Int32) := ob1 (F_X11_opposite x1) fun r2 => some (((x0 ||| ((1 : Int32) <<< (x1 &&& 31))) &&& (((1 : Int32) <<< (r2 &&& 31)) ^^^ (-1 : Int32))))
set_option maxRecDepth 100000 in
set_option maxHeartbeats 4000000 in
theorem c_X11_having (l : Launch) (D : va_G) (q : Nat → ClassId) (sz : Nat) (x0 : Int32) (x1 : Int32) {r : Int32} (hF : F_X11_having x0 x1 = some (r)) : Met l yX11_having (Cond.code yX11_having cX11_having 2 (some .int) :: TB) rm_X11_having (PC D q [.int x0, .int x1] ([]) sz) ((fun A => QI D A r ([])) (va_A ([]) sz)) 0 0 (va_A ([]) sz) := by
  refine k_met (w0 := []) (Q := fun A => QI D A r ([])) (by decide +kernel) (Nat.le_of_ble_eq_true rfl) ?_
  intro p e s m args below meth c A ls C hP hD hS hl
  have hl : lv_has ls 2 [(0, .int x0), (1, .int x1)] := hl
  unfold F_X11_having at hF
  have C : cx p s m args meth c cX11_having 2 (some .int) RX11 D q A := C
  obtain ⟨hx, hb, hr, hml, hown, hts, hlk, hA, hK, hN, hV⟩ := id C
  refine lv_iload_n hx hb dX11_having_0 rfl (lv_at hl 0 rfl) ?_
  refine lv_iconst (v := (1 : Int32)) hx hb dX11_having_1 (by decide) ?_
  refine lv_iload_n hx hb dX11_having_2 rfl (lv_at hl 1 rfl) ?_
  refine lv_ishl hx hb dX11_having_3 ?_
  refine lv_ior hx hb dX11_having_4 ?_
  refine lv_iconst (v := (1 : Int32)) hx hb dX11_having_5 (by decide) ?_
  refine lv_iload_n hx hb dX11_having_6 rfl (lv_at hl 1 rfl) ?_
  obtain ⟨r2, hc1, hF⟩ := ob1_s hF
  refine k_inil C (k_rS (As := [.int x1]) (rest := [.int (1 : Int32), .int (x0 ||| ((1 : Int32) <<< (x1 &&& 31)))]) C (c_X11_opposite l D q _ x1 hc1) kc_X11_opposite ml_X11_391 rfl rfl (by decide) (fun k x h => by simp at h) (⟨fun i j x y h => by simp at h, fun k x h => by simp at h⟩ : va_D A []) hS rfl hl.1 rfl (Nat.le_of_ble_eq_true rfl) dX11_having_7 (by decide)) hP hD hS (fun H locs hP hD hS => ?_)
  refine lv_ishl hx hb dX11_having_10 ?_
  refine lv_iconst (v := (-1 : Int32)) hx hb dX11_having_11 (by decide) ?_
  refine lv_ixor hx hb dX11_having_12 ?_
  refine lv_iand hx hb dX11_having_13 ?_
  cases hF
  exact k_iret C hP hS dX11_having_14

abbrev rm_X8_afterClimb : Room := ({ frames := 2, cells := 0, slots := 0, locals := 43 } : Room)
def F_X8_afterClimb_12 (k12 : Int32 × Int32 × Int32 × Int32 × St → Option (Int32)) (x2 : Int32) (x3 : Int32) (x4 : Int32) (x5 : Int32) (S0 : St) : Option (Int32) := if x4 ≤ x5 then (some (x3)) else (ob1 (F_X8_lookAt S0 x2 x5) fun r3 => ob1 (F_X11_having x3 r3) fun r5 => k12 (x2, r5, x4, (x5 + 1), S0))
def L_X8_afterClimb_12 (x2 : Int32) (x3 : Int32) (x4 : Int32) (x5 : Int32) (S0 : St) : Option (Int32) := lp (fun kz z => F_X8_afterClimb_12 kz z.1 z.2.1 z.2.2.1 z.2.2.2.1 z.2.2.2.2) FU (x2, x3, x4, x5, S0)
def F_X8_afterClimb (S0 : St) (x1 : Int32) (x2 : Int32) : Option (Int32) := ob1 (F_X8_lookCount S0 x2) fun r2 => L_X8_afterClimb_12 x2 x1 r2 (0 : Int32) S0
set_option maxRecDepth 100000 in
set_option maxHeartbeats 4000000 in
theorem b_X8_afterClimb_12 {p : Program} {l : Launch} {e : Env} {s : State} {m : MethodId} {args : Array Value} {below : List Frame} {meth : Method} {c : Code} {D : va_G} {q : Nat → ClassId} {A : Nat → Prop} {o0 : Nat} {a0 : Nat → Nat} {r : Int32} (C : cx p s m args meth c cX8_afterClimb 6 (some .int) RX8 D q A) {k12 : Int32 × Int32 × Int32 × Int32 × St → Option (Int32)} (hk12 : ∀ (x2 : Int32) (x3 : Int32) (x4 : Int32) (x5 : Int32) (S0 : St), k12 (x2, x3, x4, x5, S0) = some (r) → ∀ (H : Heap) (locs : List Loc) (ls : Array Slot), va_P D vwCl (fl [g8 q o0 a0 S0]) H → va_D A (fl [g8 q o0 a0 S0]) → va_S A s.heap H locs → lv_has ls 6 [(0, .ref o0), (2, .int x2), (3, .int x3), (4, .int x4), (5, .int x5)] → W p l e rm_X8_afterClimb s m args below meth c H locs 0 0 (MQ below (QI D A r (fl [g8 q o0 a0 S0])) args s 0 0 A) (F0 m 12 ls [])) {x2 : Int32} {x3 : Int32} {x4 : Int32} {x5 : Int32} {S0 : St} (hF : F_X8_afterClimb_12 k12 x2 x3 x4 x5 S0 = some (r)) {H : Heap} {locs : List Loc} (hP : va_P D vwCl (fl [g8 q o0 a0 S0]) H) (hD : va_D A (fl [g8 q o0 a0 S0])) (hS : va_S A s.heap H locs) {ls : Array Slot} (hl : lv_has ls 6 [(0, .ref o0), (2, .int x2), (3, .int x3), (4, .int x4), (5, .int x5)]) : W p l e rm_X8_afterClimb s m args below meth c H locs 0 0 (MQ below (QI D A r (fl [g8 q o0 a0 S0])) args s 0 0 A) (F0 m 12 ls []) := by
  unfold F_X8_afterClimb_12 at hF
  obtain ⟨hx, hb, hr, hml, hown, hts, hlk, hA, hK, hN, hV⟩ := id C
  refine lv_iload hx hb dX8_afterClimb_12 (lv_at hl 4 rfl) ?_
  refine lv_iload hx hb dX8_afterClimb_14 (lv_at hl 3 rfl) ?_
  refine lv_icmp_ge (tgt := 37) hx hb dX8_afterClimb_16 (by decide) (fun c1 => ?_) (fun c1 => ?_)
  · have hF := op_t hF c1
    refine lv_iload_n hx hb dX8_afterClimb_37 rfl (lv_at hl 2 rfl) ?_
    cases hF
    exact k_iret C hP hS dX8_afterClimb_38
  · have hF := op_f hF c1
    refine lv_iload_n hx hb dX8_afterClimb_19 rfl (lv_at hl 2 rfl) ?_
    refine lv_aload_n hx hb dX8_afterClimb_20 rfl (lv_at hl 0 rfl) ?_
    refine lv_iload_n hx hb dX8_afterClimb_21 rfl (lv_at hl 1 rfl) ?_
    refine lv_iload hx hb dX8_afterClimb_22 (lv_at hl 4 rfl) ?_
    obtain ⟨r3, hc2, hF⟩ := ob1_s hF
    refine k_isame C (k_rV (As := [.int x2, .int x5]) (rest := [.int x3]) C (c_X8_lookAt l D q o0 a0 S0 _ x2 x5 hc2) kc_X8_lookAt ml_X8_134 rfl rfl (by decide) hP hD hS (va_recv hK hP (ci := 8) (q0 := 0) rfl rfl) rfl hl.1 rfl (Nat.le_of_ble_eq_true rfl) dX8_afterClimb_24 (by decide)) hP hD hS (fun H locs hP hD hS => ?_)
    obtain ⟨r5, hc4, hF⟩ := ob1_s hF
    refine k_inil C (k_rN (As := [.int x3, .int r3]) (rest := []) C (c_X11_having l D q _ x3 r3 hc4) kc_X11_having (List.mem_of_getElem? (i := 2) rfl) rfl rfl (by decide) (fun k x h => by simp at h) (⟨fun i j x y h => by simp at h, fun k x h => by simp at h⟩ : va_D A []) hS rfl hl.1 rfl (Nat.le_of_ble_eq_true rfl) dX8_afterClimb_27 (by decide)) hP hD hS (fun H locs hP hD hS => ?_)
    refine lv_istore_n (lv' := [(3, .int r5), (0, .ref o0), (2, .int x2), (4, .int x4), (5, .int x5)]) hx hb dX8_afterClimb_30 rfl hl (by decide) rfl (fun ls hl => ?_)
    refine lv_iinc (v := (x5 + 1)) (lv' := [(5, .int (x5 + 1)), (3, .int r5), (0, .ref o0), (2, .int x2), (4, .int x4)]) hx hb dX8_afterClimb_31 hl (k := 4) rfl rfl (by decide) rfl (fun ls hl => ?_)
    refine lv_goto (tgt := 12) hx hb dX8_afterClimb_34 (by decide) ?_
    exact hk12 x2 r5 x4 (x5 + 1) S0 hF _ _ _ hP hD hS (lv_sub hl [2, 3, 1, 4, 0] rfl)
set_option maxRecDepth 100000 in
set_option maxHeartbeats 4000000 in
theorem l_X8_afterClimb_12 {p : Program} {l : Launch} {e : Env} {s : State} {m : MethodId} {args : Array Value} {below : List Frame} {meth : Method} {c : Code} {D : va_G} {q : Nat → ClassId} {A : Nat → Prop} {o0 : Nat} {a0 : Nat → Nat} {r : Int32} (C : cx p s m args meth c cX8_afterClimb 6 (some .int) RX8 D q A) {x2 : Int32} {x3 : Int32} {x4 : Int32} {x5 : Int32} {S0 : St} (hF : L_X8_afterClimb_12 x2 x3 x4 x5 S0 = some (r)) : ∀ (H : Heap) (locs : List Loc) (ls : Array Slot), va_P D vwCl (fl [g8 q o0 a0 S0]) H → va_D A (fl [g8 q o0 a0 S0]) → va_S A s.heap H locs → lv_has ls 6 [(0, .ref o0), (2, .int x2), (3, .int x3), (4, .int x4), (5, .int x5)] → W p l e rm_X8_afterClimb s m args below meth c H locs 0 0 (MQ below (QI D A r (fl [g8 q o0 a0 S0])) args s 0 0 A) (F0 m 12 ls []) :=
  lp_G _ _ (fun z => ∀ (H : Heap) (locs : List Loc) (ls : Array Slot), va_P D vwCl (fl [g8 q o0 a0 z.2.2.2.2]) H → va_D A (fl [g8 q o0 a0 z.2.2.2.2]) → va_S A s.heap H locs → lv_has ls 6 [(0, .ref o0), (2, .int z.1), (3, .int z.2.1), (4, .int z.2.2.1), (5, .int z.2.2.2.1)] → W p l e rm_X8_afterClimb s m args below meth c H locs 0 0 (MQ below (QI D A r (fl [g8 q o0 a0 z.2.2.2.2])) args s 0 0 A) (F0 m 12 ls [])) (fun kz hkz z hz H locs ls hP hD hS hl => b_X8_afterClimb_12 C (fun x2 x3 x4 x5 S0 hz => hkz (x2, x3, x4, x5, S0) hz) hz hP hD hS hl) FU (x2, x3, x4, x5, S0) hF
set_option maxRecDepth 100000 in
set_option maxHeartbeats 4000000 in
theorem c_X8_afterClimb (l : Launch) (D : va_G) (q : Nat → ClassId) (o0 : Nat) (a0 : Nat → Nat) (S0 : St) (sz : Nat) (x1 : Int32) (x2 : Int32) {r : Int32} (hF : F_X8_afterClimb S0 x1 x2 = some (r)) : Met l yX8_afterClimb (Cond.code yX8_afterClimb cX8_afterClimb 6 (some .int) :: TB) rm_X8_afterClimb (PC D q [.ref o0, .int x1, .int x2] (fl [g8 q o0 a0 S0]) sz) ((fun A => QI D A r (fl [g8 q o0 a0 S0])) (va_A (fl [g8 q o0 a0 S0]) sz)) 0 0 (va_A (fl [g8 q o0 a0 S0]) sz) := by
  refine k_met (w0 := fl [g8 q o0 a0 S0]) (Q := fun A => QI D A r (fl [g8 q o0 a0 S0])) (by decide +kernel) (Nat.le_of_ble_eq_true rfl) ?_
  intro p e s m args below meth c A ls C hP hD hS hl
  have hl : lv_has ls 6 [(0, .ref o0), (1, .int x1), (2, .int x2)] := hl
  unfold F_X8_afterClimb at hF
  have C : cx p s m args meth c cX8_afterClimb 6 (some .int) RX8 D q A := C
  obtain ⟨hx, hb, hr, hml, hown, hts, hlk, hA, hK, hN, hV⟩ := id C
  refine lv_iload_n hx hb dX8_afterClimb_0 rfl (lv_at hl 1 rfl) ?_
  refine lv_istore_n (lv' := [(3, .int x1), (0, .ref o0), (1, .int x1), (2, .int x2)]) hx hb dX8_afterClimb_1 rfl hl (by decide) rfl (fun ls hl => ?_)
  refine lv_aload_n hx hb dX8_afterClimb_2 rfl (lv_at hl 1 rfl) ?_
  refine lv_iload_n hx hb dX8_afterClimb_3 rfl (lv_at hl 3 rfl) ?_
  obtain ⟨r2, hc1, hF⟩ := ob1_s hF
  refine k_isame C (k_rV (As := [.int x2]) (rest := []) C (c_X8_lookCount l D q o0 a0 S0 _ x2 hc1) kc_X8_lookCount ml_X8_131 rfl rfl (by decide) hP hD hS (va_recv hK hP (ci := 8) (q0 := 0) rfl rfl) rfl hl.1 rfl (Nat.le_of_ble_eq_true rfl) dX8_afterClimb_4 (by decide)) hP hD hS (fun H locs hP hD hS => ?_)
  refine lv_istore (lv' := [(4, .int r2), (3, .int x1), (0, .ref o0), (1, .int x1), (2, .int x2)]) hx hb dX8_afterClimb_7 hl (by decide) rfl (fun ls hl => ?_)
  refine lv_iconst (v := (0 : Int32)) hx hb dX8_afterClimb_9 (by decide) ?_
  refine lv_istore (lv' := [(5, .int (0 : Int32)), (4, .int r2), (3, .int x1), (0, .ref o0), (1, .int x1), (2, .int x2)]) hx hb dX8_afterClimb_10 hl (by decide) rfl (fun ls hl => ?_)
  exact l_X8_afterClimb_12 C hF _ _ _ hP hD hS (lv_sub hl [3, 5, 2, 1, 0] rfl)

abbrev rm_X8_goUp : Room := ({ frames := 3, cells := 0, slots := 0, locals := 68 } : Room)
def F_X8_goUp (S0 : St) (x1 : Int32) (x2 : Int32) : Option (Int32 × St) := if oob x1 6 then none else if (S0.2.2.1 12 x1.toNatClampNeg) = (-1 : Int32) then (ob1 (F_X8_whoIsUp S0 x2) fun r4 => if r4 = (-1 : Int32) then (if (((S0.1 6) >>> (x2 &&& 31)) &&& (1 : Int32)) = (1 : Int32) then (some ((3 : Int32), S0)) else (if oob x2 7 then none else if oob x1 6 then none else if (S0.2.2.1 4 x2.toNatClampNeg) ≤ (S0.2.2.1 11 x1.toNatClampNeg) then (if oob x1 6 then none else nw (sA S0 12 x1 x2) fun U11 => if oob x1 6 then none else if oob x1 6 then none else nw (sA U11 13 x1 ((U11.2.2.1 13 x1.toNatClampNeg) + (1 : Int32))) fun U15 => if oob x1 6 then none else ob1 (F_X8_afterClimb U15 (U15.2.2.1 9 x1.toNatClampNeg) x2) fun r19 => if oob x1 6 then none else nw (sA U15 9 x1 r19) fun U21 => some ((0 : Int32), U21)) else (some ((4 : Int32), S0)))) else (some ((2 : Int32), S0))) else (some ((1 : Int32), S0))
set_option maxRecDepth 100000 in
set_option maxHeartbeats 4000000 in
theorem c_X8_goUp (l : Launch) (D : va_G) (q : Nat → ClassId) (o0 : Nat) (a0 : Nat → Nat) (S0 : St) (sz : Nat) (x1 : Int32) (x2 : Int32) {r : Int32} {T0 : St} (hF : F_X8_goUp S0 x1 x2 = some (r, T0)) : Met l yX8_goUp (Cond.code yX8_goUp cX8_goUp 3 (some .int) :: TB) rm_X8_goUp (PC D q [.ref o0, .int x1, .int x2] (fl [g8 q o0 a0 S0]) sz) ((fun A => QI D A r (fl [g8 q o0 a0 T0])) (va_A (fl [g8 q o0 a0 S0]) sz)) 0 0 (va_A (fl [g8 q o0 a0 S0]) sz) := by
  refine k_met (w0 := fl [g8 q o0 a0 S0]) (Q := fun A => QI D A r (fl [g8 q o0 a0 T0])) (by decide +kernel) (Nat.le_of_ble_eq_true rfl) ?_
  intro p e s m args below meth c A ls C hP hD hS hl
  have hl : lv_has ls 3 [(0, .ref o0), (1, .int x1), (2, .int x2)] := hl
  unfold F_X8_goUp at hF
  have C : cx p s m args meth c cX8_goUp 3 (some .int) RX8 D q A := C
  obtain ⟨hx, hb, hr, hml, hown, hts, hlk, hA, hK, hN, hV⟩ := id C
  refine lv_aload_n hx hb dX8_goUp_0 rfl (lv_at hl 0 rfl) ?_
  refine k_get (v := .ref (a0 13)) C fg_X8_37 hP 0 rfl rfl dX8_goUp_1 ?_
  refine lv_iload_n hx hb dX8_goUp_4 rfl (lv_at hl 1 rfl) ?_
  obtain ⟨h1, hF⟩ := op_ck hF
  refine k_ild (f := S0.2.2.1 12) C hP 9 rfl h1 dX8_goUp_5 ?_
  refine lv_iconst (v := (-1 : Int32)) hx hb dX8_goUp_6 (by decide) ?_
  refine lv_icmp_eq (tgt := 12) hx hb dX8_goUp_7 (by decide) (fun c2 => ?_) (fun c2 => ?_)
  · have hF := op_t hF c2
    refine lv_aload_n hx hb dX8_goUp_12 rfl (lv_at hl 0 rfl) ?_
    refine lv_iload_n hx hb dX8_goUp_13 rfl (lv_at hl 2 rfl) ?_
    obtain ⟨r4, hc3, hF⟩ := ob1_s hF
    refine k_isame C (k_rV (As := [.int x2]) (rest := []) C (c_X8_whoIsUp l D q o0 a0 S0 _ x2 hc3) kc_X8_whoIsUp ml_X8_151 rfl rfl (by decide) hP hD hS (va_recv hK hP (ci := 8) (q0 := 0) rfl rfl) rfl hl.1 rfl (Nat.le_of_ble_eq_true rfl) dX8_goUp_14 (by decide)) hP hD hS (fun H locs hP hD hS => ?_)
    refine lv_iconst (v := (-1 : Int32)) hx hb dX8_goUp_17 (by decide) ?_
    refine lv_icmp_eq (tgt := 23) hx hb dX8_goUp_18 (by decide) (fun c5 => ?_) (fun c5 => ?_)
    · have hF := op_t hF c5
      refine lv_aload_n hx hb dX8_goUp_23 rfl (lv_at hl 0 rfl) ?_
      refine k_get (v := .int (S0.1 6)) C fg_X8_56 hP 0 rfl rfl dX8_goUp_24 ?_
      refine lv_iload_n hx hb dX8_goUp_27 rfl (lv_at hl 2 rfl) ?_
      refine lv_ishr hx hb dX8_goUp_28 ?_
      refine lv_iconst (v := (1 : Int32)) hx hb dX8_goUp_29 (by decide) ?_
      refine lv_iand hx hb dX8_goUp_30 ?_
      refine lv_iconst (v := (1 : Int32)) hx hb dX8_goUp_31 (by decide) ?_
      refine lv_icmp_ne (tgt := 37) hx hb dX8_goUp_32 (by decide) (fun c6 => ?_) (fun c6 => ?_)
      · have hF := op_f hF c6
        refine lv_aload_n hx hb dX8_goUp_37 rfl (lv_at hl 0 rfl) ?_
        refine k_get (v := .ref (a0 5)) C fg_X8_22 hP 0 rfl rfl dX8_goUp_38 ?_
        refine lv_iload_n hx hb dX8_goUp_41 rfl (lv_at hl 2 rfl) ?_
        obtain ⟨h7, hF⟩ := op_ck hF
        refine k_ild (f := S0.2.2.1 4) C hP 4 rfl h7 dX8_goUp_42 ?_
        refine lv_aload_n hx hb dX8_goUp_43 rfl (lv_at hl 0 rfl) ?_
        refine k_get (v := .ref (a0 12)) C fg_X8_34 hP 0 rfl rfl dX8_goUp_44 ?_
        refine lv_iload_n hx hb dX8_goUp_47 rfl (lv_at hl 1 rfl) ?_
        obtain ⟨h8, hF⟩ := op_ck hF
        refine k_ild (f := S0.2.2.1 11) C hP 8 rfl h8 dX8_goUp_48 ?_
        refine lv_icmp_le (tgt := 54) hx hb dX8_goUp_49 (by decide) (fun c9 => ?_) (fun c9 => ?_)
        · have hF := op_t hF c9
          refine lv_aload_n hx hb dX8_goUp_54 rfl (lv_at hl 0 rfl) ?_
          refine k_get (v := .ref (a0 13)) C fg_X8_37 hP 0 rfl rfl dX8_goUp_55 ?_
          refine lv_iload_n hx hb dX8_goUp_58 rfl (lv_at hl 1 rfl) ?_
          refine lv_iload_n hx hb dX8_goUp_59 rfl (lv_at hl 2 rfl) ?_
          obtain ⟨h10, hF⟩ := op_ck hF
          obtain ⟨U11, e12, hF⟩ := nw_s hF
          refine k_ist (f := S0.2.2.1 12) (W8 := fl [g8 q o0 a0 U11]) C hP hD hS 9 rfl h10 dX8_goUp_60 (by rw [e12]; rfl) (fun H locs hP hD hS => ?_)
          refine lv_aload_n hx hb dX8_goUp_61 rfl (lv_at hl 0 rfl) ?_
          refine k_get (v := .ref (a0 14)) C fg_X8_40 hP 0 rfl rfl dX8_goUp_62 ?_
          refine lv_iload_n hx hb dX8_goUp_65 rfl (lv_at hl 1 rfl) ?_
          refine lv_dup2_11 hx hb dX8_goUp_66 rfl rfl ?_
          obtain ⟨h13, hF⟩ := op_ck hF
          refine k_ild (f := U11.2.2.1 13) C hP 10 rfl h13 dX8_goUp_67 ?_
          refine lv_iconst (v := (1 : Int32)) hx hb dX8_goUp_68 (by decide) ?_
          refine lv_iadd hx hb dX8_goUp_69 ?_
          obtain ⟨h14, hF⟩ := op_ck hF
          obtain ⟨U15, e16, hF⟩ := nw_s hF
          refine k_ist (f := U11.2.2.1 13) (W8 := fl [g8 q o0 a0 U15]) C hP hD hS 10 rfl h14 dX8_goUp_70 (by rw [e16]; rfl) (fun H locs hP hD hS => ?_)
          refine lv_aload_n hx hb dX8_goUp_71 rfl (lv_at hl 0 rfl) ?_
          refine k_get (v := .ref (a0 10)) C fg_X8_28 hP 0 rfl rfl dX8_goUp_72 ?_
          refine lv_iload_n hx hb dX8_goUp_75 rfl (lv_at hl 1 rfl) ?_
          refine lv_aload_n hx hb dX8_goUp_76 rfl (lv_at hl 0 rfl) ?_
          refine lv_aload_n hx hb dX8_goUp_77 rfl (lv_at hl 0 rfl) ?_
          refine k_get (v := .ref (a0 10)) C fg_X8_28 hP 0 rfl rfl dX8_goUp_78 ?_
          refine lv_iload_n hx hb dX8_goUp_81 rfl (lv_at hl 1 rfl) ?_
          obtain ⟨h17, hF⟩ := op_ck hF
          refine k_ild (f := U15.2.2.1 9) C hP 6 rfl h17 dX8_goUp_82 ?_
          refine lv_iload_n hx hb dX8_goUp_83 rfl (lv_at hl 2 rfl) ?_
          obtain ⟨r19, hc18, hF⟩ := ob1_s hF
          refine k_isame C (k_rV (As := [.int (U15.2.2.1 9 x1.toNatClampNeg), .int x2]) (rest := [.int x1, .ref (a0 10)]) C (c_X8_afterClimb l D q o0 a0 U15 _ (U15.2.2.1 9 x1.toNatClampNeg) x2 hc18) kc_X8_afterClimb ml_X8_154 rfl rfl (by decide) hP hD hS (va_recv hK hP (ci := 8) (q0 := 0) rfl rfl) rfl hl.1 rfl (Nat.le_of_ble_eq_true rfl) dX8_goUp_84 (by decide)) hP hD hS (fun H locs hP hD hS => ?_)
          obtain ⟨h20, hF⟩ := op_ck hF
          obtain ⟨U21, e22, hF⟩ := nw_s hF
          refine k_ist (f := U15.2.2.1 9) (W8 := fl [g8 q o0 a0 U21]) C hP hD hS 6 rfl h20 dX8_goUp_87 (by rw [e22]; rfl) (fun H locs hP hD hS => ?_)
          refine lv_iconst (v := (0 : Int32)) hx hb dX8_goUp_88 (by decide) ?_
          cases hF
          exact k_iret C hP hS dX8_goUp_89
        · have hF := op_f hF c9
          refine lv_iconst (v := (4 : Int32)) hx hb dX8_goUp_52 (by decide) ?_
          cases hF
          exact k_iret C hP hS dX8_goUp_53
      · have hF := op_t hF c6
        refine lv_iconst (v := (3 : Int32)) hx hb dX8_goUp_35 (by decide) ?_
        cases hF
        exact k_iret C hP hS dX8_goUp_36
    · have hF := op_f hF c5
      refine lv_iconst (v := (2 : Int32)) hx hb dX8_goUp_21 (by decide) ?_
      cases hF
      exact k_iret C hP hS dX8_goUp_22
  · have hF := op_f hF c2
    refine lv_iconst (v := (1 : Int32)) hx hb dX8_goUp_10 (by decide) ?_
    cases hF
    exact k_iret C hP hS dX8_goUp_11

abbrev rm_X0_ofSort : Room := ({ frames := 0, cells := 0, slots := 0, locals := 0 } : Room)
def F_X0_ofSort (x0 : Int32) (x1 : Int32) : Option (Int32) := if x1 = 0 then (some ((0 : Int32))) else (some ((x0 + x1)))
set_option maxRecDepth 100000 in
set_option maxHeartbeats 4000000 in
theorem c_X0_ofSort (l : Launch) (D : va_G) (q : Nat → ClassId) (sz : Nat) (x0 : Int32) (x1 : Int32) {r : Int32} (hF : F_X0_ofSort x0 x1 = some (r)) : Met l yX0_ofSort (Cond.code yX0_ofSort cX0_ofSort 2 (some .int) :: TB) rm_X0_ofSort (PC D q [.int x0, .int x1] ([]) sz) ((fun A => QI D A r ([])) (va_A ([]) sz)) 0 0 (va_A ([]) sz) := by
  refine k_met (w0 := []) (Q := fun A => QI D A r ([])) (by decide +kernel) (Nat.le_of_ble_eq_true rfl) ?_
  intro p e s m args below meth c A ls C hP hD hS hl
  have hl : lv_has ls 2 [(0, .int x0), (1, .int x1)] := hl
  unfold F_X0_ofSort at hF
  have C : cx p s m args meth c cX0_ofSort 2 (some .int) RX0 D q A := C
  obtain ⟨hx, hb, hr, hml, hown, hts, hlk, hA, hK, hN, hV⟩ := id C
  refine lv_iload_n hx hb dX0_ofSort_0 rfl (lv_at hl 1 rfl) ?_
  refine lv_if_ne (tgt := 8) hx hb dX0_ofSort_1 (by decide) (fun c1 => ?_) (fun c1 => ?_)
  · have hF := op_f hF c1
    refine lv_iload_n hx hb dX0_ofSort_8 rfl (lv_at hl 0 rfl) ?_
    refine lv_iload_n hx hb dX0_ofSort_9 rfl (lv_at hl 1 rfl) ?_
    refine lv_iadd hx hb dX0_ofSort_10 ?_
    cases hF
    exact k_iret C hP hS dX0_ofSort_11
  · have hF := op_t hF c1
    refine lv_iconst (v := (0 : Int32)) hx hb dX0_ofSort_4 (by decide) ?_
    refine lv_goto (tgt := 11) hx hb dX0_ofSort_5 (by decide) ?_
    cases hF
    exact k_iret C hP hS dX0_ofSort_11

abbrev rm_X8_comeDown : Room := ({ frames := 0, cells := 0, slots := 0, locals := 0 } : Room)
def F_X8_comeDown (S0 : St) (x1 : Int32) : Option (Int32 × St) := if oob x1 6 then none else if (S0.2.2.1 12 x1.toNatClampNeg) = (-1 : Int32) then (some ((1 : Int32), S0)) else (if oob x1 6 then none else nw (sA S0 12 x1 (-1 : Int32)) fun U4 => some ((0 : Int32), U4))
set_option maxRecDepth 100000 in
set_option maxHeartbeats 4000000 in
theorem c_X8_comeDown (l : Launch) (D : va_G) (q : Nat → ClassId) (o0 : Nat) (a0 : Nat → Nat) (S0 : St) (sz : Nat) (x1 : Int32) {r : Int32} {T0 : St} (hF : F_X8_comeDown S0 x1 = some (r, T0)) : Met l yX8_comeDown (Cond.code yX8_comeDown cX8_comeDown 2 (some .int) :: TB) rm_X8_comeDown (PC D q [.ref o0, .int x1] (fl [g8 q o0 a0 S0]) sz) ((fun A => QI D A r (fl [g8 q o0 a0 T0])) (va_A (fl [g8 q o0 a0 S0]) sz)) 0 0 (va_A (fl [g8 q o0 a0 S0]) sz) := by
  refine k_met (w0 := fl [g8 q o0 a0 S0]) (Q := fun A => QI D A r (fl [g8 q o0 a0 T0])) (by decide +kernel) (Nat.le_of_ble_eq_true rfl) ?_
  intro p e s m args below meth c A ls C hP hD hS hl
  have hl : lv_has ls 2 [(0, .ref o0), (1, .int x1)] := hl
  unfold F_X8_comeDown at hF
  have C : cx p s m args meth c cX8_comeDown 2 (some .int) RX8 D q A := C
  obtain ⟨hx, hb, hr, hml, hown, hts, hlk, hA, hK, hN, hV⟩ := id C
  refine lv_aload_n hx hb dX8_comeDown_0 rfl (lv_at hl 0 rfl) ?_
  refine k_get (v := .ref (a0 13)) C fg_X8_37 hP 0 rfl rfl dX8_comeDown_1 ?_
  refine lv_iload_n hx hb dX8_comeDown_4 rfl (lv_at hl 1 rfl) ?_
  obtain ⟨h1, hF⟩ := op_ck hF
  refine k_ild (f := S0.2.2.1 12) C hP 9 rfl h1 dX8_comeDown_5 ?_
  refine lv_iconst (v := (-1 : Int32)) hx hb dX8_comeDown_6 (by decide) ?_
  refine lv_icmp_ne (tgt := 12) hx hb dX8_comeDown_7 (by decide) (fun c2 => ?_) (fun c2 => ?_)
  · have hF := op_f hF c2
    refine lv_aload_n hx hb dX8_comeDown_12 rfl (lv_at hl 0 rfl) ?_
    refine k_get (v := .ref (a0 13)) C fg_X8_37 hP 0 rfl rfl dX8_comeDown_13 ?_
    refine lv_iload_n hx hb dX8_comeDown_16 rfl (lv_at hl 1 rfl) ?_
    refine lv_iconst (v := (-1 : Int32)) hx hb dX8_comeDown_17 (by decide) ?_
    obtain ⟨h3, hF⟩ := op_ck hF
    obtain ⟨U4, e5, hF⟩ := nw_s hF
    refine k_ist (f := S0.2.2.1 12) (W8 := fl [g8 q o0 a0 U4]) C hP hD hS 9 rfl h3 dX8_comeDown_18 (by rw [e5]; rfl) (fun H locs hP hD hS => ?_)
    refine lv_iconst (v := (0 : Int32)) hx hb dX8_comeDown_19 (by decide) ?_
    cases hF
    exact k_iret C hP hS dX8_comeDown_20
  · have hF := op_t hF c2
    refine lv_iconst (v := (1 : Int32)) hx hb dX8_comeDown_10 (by decide) ?_
    cases hF
    exact k_iret C hP hS dX8_comeDown_11
