abbrev rm_X5_learn : Room := ({ frames := 7, cells := 0, slots := 0, locals := 181 } : Room)
def F_X5_learn_70 (k8 : Nat × Int32 × Int64 × Int32 × St → Option (St)) (x1 : Nat) (x3 : Int32) (x4 : Int64) (x6 : Int32) (S0 : St) : Option (St) := k8 (x1, x3, x4, (x6 + 1), S0)
def F_X5_learn_8 (k8 : Nat × Int32 × Int64 × Int32 × St → Option (St)) (x1 : Nat) (x3 : Int32) (x4 : Int64) (x6 : Int32) (S0 : St) : Option (St) := ob1 (F_J0_length x1) fun r2 => if r2 ≤ x6 then (some (S0)) else (ob1 (F_J0_charAt x1 x6) fun r6 => if r6 = (32 : Int32) then (if (36 : Int32) ≤ x3 then (F_X5_learn_70 k8 x1 x3 x4 x6 S0) else (if oob x3 36 then none else nw (sJ S0 1 x3 x4) fun U11 => F_X5_learn_70 k8 x1 (x3 + 1) (0 : Int64) x6 U11)) else (nw ((x4 * (32 : Int64)) + (r6 - (96 : Int32)).toInt64) fun v13 => F_X5_learn_70 k8 x1 x3 v13 x6 S0))
def L_X5_learn_8 (x1 : Nat) (x3 : Int32) (x4 : Int64) (x6 : Int32) (S0 : St) : Option (St) := lp (fun kz z => F_X5_learn_8 kz z.1 z.2.1 z.2.2.1 z.2.2.2.1 z.2.2.2.2) FU (x1, x3, x4, x6, S0)
def F_X5_learn (S0 : St) (x1 : Nat) (x2 : Int32) : Option (St) := L_X5_learn_8 x1 x2 (0 : Int64) (0 : Int32) S0
set_option maxRecDepth 100000 in
set_option maxHeartbeats 4000000 in
theorem b_X5_learn_70 {p : Program} {l : Launch} {e : Env} {s : State} {m : MethodId} {args : Array Value} {below : List Frame} {meth : Method} {c : Code} {D : va_G} {q : Nat → ClassId} {A : Nat → Prop} {tp : Nat} {o0 : Nat} {a0 : Nat → Nat} {T0 : St} (C : cx p s m args meth c cX5_learn 8 none RX5 D q A) {k8 : Nat × Int32 × Int64 × Int32 × St → Option (St)} (hk8 : ∀ (x1 : Nat) (x3 : Int32) (x4 : Int64) (x6 : Int32) (S0 : St), k8 (x1, x3, x4, x6, S0) = some (T0) → ∀ (H : Heap) (locs : List Loc) (ls : Array Slot), va_P D vwCl (fl [g5 q o0 a0 tp S0]) H → va_D A (fl [g5 q o0 a0 tp S0]) → va_S A s.heap H locs → lv_has ls 8 [(0, .ref o0), (1, .ref (q (100 + x1))), (3, .int x3), (4, .long x4), (6, .int x6)] → W p l e rm_X5_learn s m args below meth c H locs 0 0 (MQ below (QV D A (fl [g5 q o0 a0 tp T0])) args s 0 0 A) (F0 m 8 ls [])) {x1 : Nat} {x3 : Int32} {x4 : Int64} {x6 : Int32} {S0 : St} (hF : F_X5_learn_70 k8 x1 x3 x4 x6 S0 = some (T0)) {H : Heap} {locs : List Loc} (hP : va_P D vwCl (fl [g5 q o0 a0 tp S0]) H) (hD : va_D A (fl [g5 q o0 a0 tp S0])) (hS : va_S A s.heap H locs) {ls : Array Slot} (hl : lv_has ls 8 [(0, .ref o0), (1, .ref (q (100 + x1))), (3, .int x3), (4, .long x4), (6, .int x6)]) : W p l e rm_X5_learn s m args below meth c H locs 0 0 (MQ below (QV D A (fl [g5 q o0 a0 tp T0])) args s 0 0 A) (F0 m 70 ls []) := by
  unfold F_X5_learn_70 at hF
  obtain ⟨hx, hb, hr, hml, hown, hts, hlk, hA, hK, hN, hV⟩ := id C
  refine lv_iinc (v := (x6 + 1)) (lv' := [(6, .int (x6 + 1)), (0, .ref o0), (1, .ref (q (100 + x1))), (3, .int x3), (4, .long x4)]) hx hb dX5_learn_70 hl (k := 4) rfl rfl (by decide) rfl (fun ls hl => ?_)
  refine lv_goto (tgt := 8) hx hb dX5_learn_73 (by decide) ?_
  exact hk8 x1 x3 x4 (x6 + 1) S0 hF _ _ _ hP hD hS (lv_sub hl [1, 2, 3, 4, 0] rfl)
set_option maxRecDepth 100000 in
set_option maxHeartbeats 4000000 in
theorem b_X5_learn_8 {p : Program} {l : Launch} {e : Env} {s : State} {m : MethodId} {args : Array Value} {below : List Frame} {meth : Method} {c : Code} {D : va_G} {q : Nat → ClassId} {A : Nat → Prop} {tp : Nat} {o0 : Nat} {a0 : Nat → Nat} {T0 : St} (C : cx p s m args meth c cX5_learn 8 none RX5 D q A) {k8 : Nat × Int32 × Int64 × Int32 × St → Option (St)} (hk8 : ∀ (x1 : Nat) (x3 : Int32) (x4 : Int64) (x6 : Int32) (S0 : St), k8 (x1, x3, x4, x6, S0) = some (T0) → ∀ (H : Heap) (locs : List Loc) (ls : Array Slot), va_P D vwCl (fl [g5 q o0 a0 tp S0]) H → va_D A (fl [g5 q o0 a0 tp S0]) → va_S A s.heap H locs → lv_has ls 8 [(0, .ref o0), (1, .ref (q (100 + x1))), (3, .int x3), (4, .long x4), (6, .int x6)] → W p l e rm_X5_learn s m args below meth c H locs 0 0 (MQ below (QV D A (fl [g5 q o0 a0 tp T0])) args s 0 0 A) (F0 m 8 ls [])) {x1 : Nat} {x3 : Int32} {x4 : Int64} {x6 : Int32} {S0 : St} (hF : F_X5_learn_8 k8 x1 x3 x4 x6 S0 = some (T0)) {H : Heap} {locs : List Loc} (hP : va_P D vwCl (fl [g5 q o0 a0 tp S0]) H) (hD : va_D A (fl [g5 q o0 a0 tp S0])) (hS : va_S A s.heap H locs) {ls : Array Slot} (hl : lv_has ls 8 [(0, .ref o0), (1, .ref (q (100 + x1))), (3, .int x3), (4, .long x4), (6, .int x6)]) : W p l e rm_X5_learn s m args below meth c H locs 0 0 (MQ below (QV D A (fl [g5 q o0 a0 tp T0])) args s 0 0 A) (F0 m 8 ls []) := by
  unfold F_X5_learn_8 at hF
  obtain ⟨hx, hb, hr, hml, hown, hts, hlk, hA, hK, hN, hV⟩ := id C
  refine lv_iload hx hb dX5_learn_8 (lv_at hl 4 rfl) ?_
  refine lv_aload_n hx hb dX5_learn_10 rfl (lv_at hl 1 rfl) ?_
  obtain ⟨r2, hc1, hF⟩ := ob1_s hF
  have h3 := str_lt_L hc1
  refine k_inil C (k_rV (As := []) (rest := [.int x6]) C (c_J0_length l D q x1 _ hc1) kc_J0_length_8abf5 ml_X5_44 rfl rfl (by decide) (fun k x h => by simp at h) (⟨fun i j x y h => by simp at h, fun k x h => by simp at h⟩ : va_D A []) hS (vk_recv (adK := fun i => q (100 + i)) (i := x1) hV.2.1 h3 hS) rfl hl.1 rfl (Nat.le_of_ble_eq_true rfl) dX5_learn_11 (by decide)) hP hD hS (fun H locs hP hD hS => ?_)
  refine lv_icmp_ge (tgt := 76) hx hb dX5_learn_14 (by decide) (fun c4 => ?_) (fun c4 => ?_)
  · have hF := op_t hF c4
    cases hF
    exact k_vret C hP hS dX5_learn_76
  · have hF := op_f hF c4
    refine lv_aload_n hx hb dX5_learn_17 rfl (lv_at hl 1 rfl) ?_
    refine lv_iload hx hb dX5_learn_18 (lv_at hl 4 rfl) ?_
    obtain ⟨r6, hc5, hF⟩ := ob1_s hF
    have h7 := str_lt_C hc5
    refine k_inil C (k_rV (As := [.int x6]) (rest := []) C (c_J0_charAt l D q x1 _ x6 hc5) kc_J0_charAt_5068e ml_X5_50 rfl rfl (by decide) (fun k x h => by simp at h) (⟨fun i j x y h => by simp at h, fun k x h => by simp at h⟩ : va_D A []) hS (vk_recv (adK := fun i => q (100 + i)) (i := x1) hV.2.1 h7 hS) rfl hl.1 rfl (Nat.le_of_ble_eq_true rfl) dX5_learn_20 (by decide)) hP hD hS (fun H locs hP hD hS => ?_)
    refine lv_istore (lv' := [(7, .int r6), (0, .ref o0), (1, .ref (q (100 + x1))), (3, .int x3), (4, .long x4), (6, .int x6)]) hx hb dX5_learn_23 hl (by decide) rfl (fun ls hl => ?_)
    refine lv_iload hx hb dX5_learn_25 (lv_at hl 0 rfl) ?_
    refine lv_bipush (v := (32 : Int32)) hx hb dX5_learn_27 (by decide) ?_
    refine lv_icmp_eq (tgt := 50) hx hb dX5_learn_29 (by decide) (fun c8 => ?_) (fun c8 => ?_)
    · have hF := op_t hF c8
      refine lv_iload_n hx hb dX5_learn_50 rfl (lv_at hl 3 rfl) ?_
      refine lv_bipush (v := (36 : Int32)) hx hb dX5_learn_51 (by decide) ?_
      refine lv_icmp_ge (tgt := 70) hx hb dX5_learn_53 (by decide) (fun c9 => ?_) (fun c9 => ?_)
      · have hF := op_t hF c9
        exact b_X5_learn_70 C hk8 hF hP hD hS (lv_sub hl [1, 2, 3, 4, 5] rfl)
      · have hF := op_f hF c9
        refine lv_aload_n hx hb dX5_learn_56 rfl (lv_at hl 1 rfl) ?_
        refine k_get (v := .ref (a0 2)) C fg_X5_20 hP 0 rfl rfl dX5_learn_57 ?_
        refine lv_iload_n hx hb dX5_learn_60 rfl (lv_at hl 3 rfl) ?_
        refine lv_lload hx hb dX5_learn_61 (lv_at hl 4 rfl) ?_
        obtain ⟨h10, hF⟩ := op_ck hF
        obtain ⟨U11, e12, hF⟩ := nw_s hF
        refine k_lst (f := S0.2.2.2 1) (W8 := fl [g5 q o0 a0 tp U11]) C hP hD hS 1 rfl h10 dX5_learn_63 (by rw [e12]; rfl) (fun H locs hP hD hS => ?_)
        refine lv_iinc (v := (x3 + 1)) (lv' := [(3, .int (x3 + 1)), (7, .int r6), (0, .ref o0), (1, .ref (q (100 + x1))), (4, .long x4), (6, .int x6)]) hx hb dX5_learn_64 hl (k := 3) rfl rfl (by decide) rfl (fun ls hl => ?_)
        refine lv_lconst (v := (0 : Int64)) hx hb dX5_learn_67 (by decide) ?_
        refine lv_lstore (lv' := [(4, .long (0 : Int64)), (3, .int (x3 + 1)), (7, .int r6), (0, .ref o0), (1, .ref (q (100 + x1))), (6, .int x6)]) hx hb dX5_learn_68 hl (by decide) rfl (fun ls hl => ?_)
        exact b_X5_learn_70 C hk8 hF hP hD hS (lv_sub hl [3, 4, 1, 0, 5] rfl)
    · have hF := op_f hF c8
      refine lv_lload hx hb dX5_learn_32 (lv_at hl 4 rfl) ?_
      refine lv_ldc2 (v := (32 : Int64)) hx hb hown (hts _ kL_X5_54) dX5_learn_34 ?_
      refine lv_lmul hx hb dX5_learn_37 ?_
      refine lv_iload hx hb dX5_learn_38 (lv_at hl 0 rfl) ?_
      refine lv_bipush (v := (96 : Int32)) hx hb dX5_learn_40 (by decide) ?_
      refine lv_isub hx hb dX5_learn_42 ?_
      refine lv_i2l (v := (r6 - (96 : Int32)).toInt64) hx hb dX5_learn_43 rfl ?_
      refine lv_ladd hx hb dX5_learn_44 ?_
      obtain ⟨v13, e14, hF⟩ := nw_s hF
      refine k_rnl e14 ?_
      refine lv_lstore (lv' := [(4, .long v13), (7, .int r6), (0, .ref o0), (1, .ref (q (100 + x1))), (3, .int x3), (6, .int x6)]) hx hb dX5_learn_45 hl (by decide) rfl (fun ls hl => ?_)
      refine lv_goto (tgt := 70) hx hb dX5_learn_47 (by decide) ?_
      exact b_X5_learn_70 C hk8 hF hP hD hS (lv_sub hl [2, 3, 4, 0, 5] rfl)
set_option maxRecDepth 100000 in
set_option maxHeartbeats 4000000 in
theorem l_X5_learn_8 {p : Program} {l : Launch} {e : Env} {s : State} {m : MethodId} {args : Array Value} {below : List Frame} {meth : Method} {c : Code} {D : va_G} {q : Nat → ClassId} {A : Nat → Prop} {tp : Nat} {o0 : Nat} {a0 : Nat → Nat} {T0 : St} (C : cx p s m args meth c cX5_learn 8 none RX5 D q A) {x1 : Nat} {x3 : Int32} {x4 : Int64} {x6 : Int32} {S0 : St} (hF : L_X5_learn_8 x1 x3 x4 x6 S0 = some (T0)) : ∀ (H : Heap) (locs : List Loc) (ls : Array Slot), va_P D vwCl (fl [g5 q o0 a0 tp S0]) H → va_D A (fl [g5 q o0 a0 tp S0]) → va_S A s.heap H locs → lv_has ls 8 [(0, .ref o0), (1, .ref (q (100 + x1))), (3, .int x3), (4, .long x4), (6, .int x6)] → W p l e rm_X5_learn s m args below meth c H locs 0 0 (MQ below (QV D A (fl [g5 q o0 a0 tp T0])) args s 0 0 A) (F0 m 8 ls []) :=
  lp_G _ _ (fun z => ∀ (H : Heap) (locs : List Loc) (ls : Array Slot), va_P D vwCl (fl [g5 q o0 a0 tp z.2.2.2.2]) H → va_D A (fl [g5 q o0 a0 tp z.2.2.2.2]) → va_S A s.heap H locs → lv_has ls 8 [(0, .ref o0), (1, .ref (q (100 + z.1))), (3, .int z.2.1), (4, .long z.2.2.1), (6, .int z.2.2.2.1)] → W p l e rm_X5_learn s m args below meth c H locs 0 0 (MQ below (QV D A (fl [g5 q o0 a0 tp T0])) args s 0 0 A) (F0 m 8 ls [])) (fun kz hkz z hz H locs ls hP hD hS hl => b_X5_learn_8 C (fun x1 x3 x4 x6 S0 hz => hkz (x1, x3, x4, x6, S0) hz) hz hP hD hS hl) FU (x1, x3, x4, x6, S0) hF
set_option maxRecDepth 100000 in
set_option maxHeartbeats 4000000 in
theorem c_X5_learn (l : Launch) (D : va_G) (q : Nat → ClassId) (tp : Nat) (o0 : Nat) (a0 : Nat → Nat) (S0 : St) (sz : Nat) (x1 : Nat) (x2 : Int32) {T0 : St} (hF : F_X5_learn S0 x1 x2 = some (T0)) : Met l yX5_learn (Cond.code yX5_learn cX5_learn 8 none :: TB) rm_X5_learn (PC D q [.ref o0, .ref (q (100 + x1)), .int x2] (fl [g5 q o0 a0 tp S0]) sz) ((fun A => QV D A (fl [g5 q o0 a0 tp T0])) (va_A (fl [g5 q o0 a0 tp S0]) sz)) 0 0 (va_A (fl [g5 q o0 a0 tp S0]) sz) := by
  refine k_met (w0 := fl [g5 q o0 a0 tp S0]) (Q := fun A => QV D A (fl [g5 q o0 a0 tp T0])) (by decide +kernel) (Nat.le_of_ble_eq_true rfl) ?_
  intro p e s m args below meth c A ls C hP hD hS hl
  have hl : lv_has ls 8 [(0, .ref o0), (1, .ref (q (100 + x1))), (2, .int x2)] := hl
  unfold F_X5_learn at hF
  have C : cx p s m args meth c cX5_learn 8 none RX5 D q A := C
  obtain ⟨hx, hb, hr, hml, hown, hts, hlk, hA, hK, hN, hV⟩ := id C
  refine lv_iload_n hx hb dX5_learn_0 rfl (lv_at hl 2 rfl) ?_
  refine lv_istore_n (lv' := [(3, .int x2), (0, .ref o0), (1, .ref (q (100 + x1))), (2, .int x2)]) hx hb dX5_learn_1 rfl hl (by decide) rfl (fun ls hl => ?_)
  refine lv_lconst (v := (0 : Int64)) hx hb dX5_learn_2 (by decide) ?_
  refine lv_lstore (lv' := [(4, .long (0 : Int64)), (3, .int x2), (0, .ref o0), (1, .ref (q (100 + x1))), (2, .int x2)]) hx hb dX5_learn_3 hl (by decide) rfl (fun ls hl => ?_)
  refine lv_iconst (v := (0 : Int32)) hx hb dX5_learn_5 (by decide) ?_
  refine lv_istore (lv' := [(6, .int (0 : Int32)), (4, .long (0 : Int64)), (3, .int x2), (0, .ref o0), (1, .ref (q (100 + x1))), (2, .int x2)]) hx hb dX5_learn_6 hl (by decide) rfl (fun ls hl => ?_)
  exact l_X5_learn_8 C hF _ _ _ hP hD hS (lv_sub hl [3, 4, 2, 1, 0] rfl)

abbrev rm_X9_addText : Room := ({ frames := 7, cells := 0, slots := 0, locals := 181 } : Room)
def F_X9_addText_2 (n0 : Nat) (k2 : Nat × Int32 × St → Option (St)) (x1 : Nat) (x2 : Int32) (S0 : St) : Option (St) := ob1 (F_J0_length x1) fun r2 => if r2 ≤ x2 then (some (S0)) else (ob1 (F_J0_charAt x1 x2) fun r6 => ob1 (F_X9_addByte n0 S0 r6) fun U9 => k2 (x1, (x2 + 1), U9))
def L_X9_addText_2 (n0 : Nat) (x1 : Nat) (x2 : Int32) (S0 : St) : Option (St) := lp (fun kz z => F_X9_addText_2 n0 kz z.1 z.2.1 z.2.2) FU (x1, x2, S0)
def F_X9_addText (n0 : Nat) (S0 : St) (x1 : Nat) : Option (St) := L_X9_addText_2 n0 x1 (0 : Int32) S0
set_option maxRecDepth 100000 in
set_option maxHeartbeats 4000000 in
theorem b_X9_addText_2 {p : Program} {l : Launch} {e : Env} {s : State} {m : MethodId} {args : Array Value} {below : List Frame} {meth : Method} {c : Code} {D : va_G} {q : Nat → ClassId} {A : Nat → Prop} {o0 : Nat} {a0 : Nat → Nat} {n0 : Nat} {T0 : St} (C : cx p s m args meth c cX9_addText 3 none RX9 D q A) {k2 : Nat × Int32 × St → Option (St)} (hk2 : ∀ (x1 : Nat) (x2 : Int32) (S0 : St), k2 (x1, x2, S0) = some (T0) → ∀ (H : Heap) (locs : List Loc) (ls : Array Slot), va_P D vwCl (fl [g9 q o0 a0 n0 S0]) H → va_D A (fl [g9 q o0 a0 n0 S0]) → va_S A s.heap H locs → lv_has ls 3 [(0, .ref o0), (1, .ref (q (100 + x1))), (2, .int x2)] → W p l e rm_X9_addText s m args below meth c H locs 0 0 (MQ below (QV D A (fl [g9 q o0 a0 n0 T0])) args s 0 0 A) (F0 m 2 ls [])) {x1 : Nat} {x2 : Int32} {S0 : St} (hF : F_X9_addText_2 n0 k2 x1 x2 S0 = some (T0)) {H : Heap} {locs : List Loc} (hP : va_P D vwCl (fl [g9 q o0 a0 n0 S0]) H) (hD : va_D A (fl [g9 q o0 a0 n0 S0])) (hS : va_S A s.heap H locs) {ls : Array Slot} (hl : lv_has ls 3 [(0, .ref o0), (1, .ref (q (100 + x1))), (2, .int x2)]) : W p l e rm_X9_addText s m args below meth c H locs 0 0 (MQ below (QV D A (fl [g9 q o0 a0 n0 T0])) args s 0 0 A) (F0 m 2 ls []) := by
  unfold F_X9_addText_2 at hF
  obtain ⟨hx, hb, hr, hml, hown, hts, hlk, hA, hK, hN, hV⟩ := id C
  refine lv_iload_n hx hb dX9_addText_2 rfl (lv_at hl 2 rfl) ?_
  refine lv_aload_n hx hb dX9_addText_3 rfl (lv_at hl 1 rfl) ?_
  obtain ⟨r2, hc1, hF⟩ := ob1_s hF
  have h3 := str_lt_L hc1
  refine k_inil C (k_rV (As := []) (rest := [.int x2]) C (c_J0_length l D q x1 _ hc1) kc_J0_length_8abf5 ml_X9_23 rfl rfl (by decide) (fun k x h => by simp at h) (⟨fun i j x y h => by simp at h, fun k x h => by simp at h⟩ : va_D A []) hS (vk_recv (adK := fun i => q (100 + i)) (i := x1) hV.2.1 h3 hS) rfl hl.1 rfl (Nat.le_of_ble_eq_true rfl) dX9_addText_4 (by decide)) hP hD hS (fun H locs hP hD hS => ?_)
  refine lv_icmp_ge (tgt := 25) hx hb dX9_addText_7 (by decide) (fun c4 => ?_) (fun c4 => ?_)
  · have hF := op_t hF c4
    cases hF
    exact k_vret C hP hS dX9_addText_25
  · have hF := op_f hF c4
    refine lv_aload_n hx hb dX9_addText_10 rfl (lv_at hl 0 rfl) ?_
    refine lv_aload_n hx hb dX9_addText_11 rfl (lv_at hl 1 rfl) ?_
    refine lv_iload_n hx hb dX9_addText_12 rfl (lv_at hl 2 rfl) ?_
    obtain ⟨r6, hc5, hF⟩ := ob1_s hF
    have h7 := str_lt_C hc5
    refine k_inil C (k_rV (As := [.int x2]) (rest := [.ref o0]) C (c_J0_charAt l D q x1 _ x2 hc5) kc_J0_charAt_5068e ml_X9_28 rfl rfl (by decide) (fun k x h => by simp at h) (⟨fun i j x y h => by simp at h, fun k x h => by simp at h⟩ : va_D A []) hS (vk_recv (adK := fun i => q (100 + i)) (i := x1) hV.2.1 h7 hS) rfl hl.1 rfl (Nat.le_of_ble_eq_true rfl) dX9_addText_13 (by decide)) hP hD hS (fun H locs hP hD hS => ?_)
    obtain ⟨U9, hc8, hF⟩ := ob1_s hF
    refine k_vall C (k_rV (As := [.int r6]) (rest := []) C (c_X9_addByte l D q o0 a0 n0 S0 _ r6 hc8) kc_X9_addByte ml_X9_19 rfl rfl (by decide) hP hD hS (va_recv hK hP (ci := 9) (q0 := 0) rfl rfl) rfl hl.1 rfl (Nat.le_of_ble_eq_true rfl) dX9_addText_16 (by decide)) hP hD hS (by simp only [List.map_cons, List.map_nil, gad9]) (fun H locs hP hD hS => ?_)
    refine lv_iinc (v := (x2 + 1)) (lv' := [(2, .int (x2 + 1)), (0, .ref o0), (1, .ref (q (100 + x1)))]) hx hb dX9_addText_19 hl (k := 2) rfl rfl (by decide) rfl (fun ls hl => ?_)
    refine lv_goto (tgt := 2) hx hb dX9_addText_22 (by decide) ?_
    exact hk2 x1 (x2 + 1) U9 hF _ _ _ hP hD hS (lv_sub hl [1, 2, 0] rfl)
set_option maxRecDepth 100000 in
set_option maxHeartbeats 4000000 in
theorem l_X9_addText_2 {p : Program} {l : Launch} {e : Env} {s : State} {m : MethodId} {args : Array Value} {below : List Frame} {meth : Method} {c : Code} {D : va_G} {q : Nat → ClassId} {A : Nat → Prop} {o0 : Nat} {a0 : Nat → Nat} {n0 : Nat} {T0 : St} (C : cx p s m args meth c cX9_addText 3 none RX9 D q A) {x1 : Nat} {x2 : Int32} {S0 : St} (hF : L_X9_addText_2 n0 x1 x2 S0 = some (T0)) : ∀ (H : Heap) (locs : List Loc) (ls : Array Slot), va_P D vwCl (fl [g9 q o0 a0 n0 S0]) H → va_D A (fl [g9 q o0 a0 n0 S0]) → va_S A s.heap H locs → lv_has ls 3 [(0, .ref o0), (1, .ref (q (100 + x1))), (2, .int x2)] → W p l e rm_X9_addText s m args below meth c H locs 0 0 (MQ below (QV D A (fl [g9 q o0 a0 n0 T0])) args s 0 0 A) (F0 m 2 ls []) :=
  lp_G _ _ (fun z => ∀ (H : Heap) (locs : List Loc) (ls : Array Slot), va_P D vwCl (fl [g9 q o0 a0 n0 z.2.2]) H → va_D A (fl [g9 q o0 a0 n0 z.2.2]) → va_S A s.heap H locs → lv_has ls 3 [(0, .ref o0), (1, .ref (q (100 + z.1))), (2, .int z.2.1)] → W p l e rm_X9_addText s m args below meth c H locs 0 0 (MQ below (QV D A (fl [g9 q o0 a0 n0 T0])) args s 0 0 A) (F0 m 2 ls [])) (fun kz hkz z hz H locs ls hP hD hS hl => b_X9_addText_2 C (fun x1 x2 S0 hz => hkz (x1, x2, S0) hz) hz hP hD hS hl) FU (x1, x2, S0) hF
set_option maxRecDepth 100000 in
set_option maxHeartbeats 4000000 in
theorem c_X9_addText (l : Launch) (D : va_G) (q : Nat → ClassId) (o0 : Nat) (a0 : Nat → Nat) (n0 : Nat) (S0 : St) (sz : Nat) (x1 : Nat) {T0 : St} (hF : F_X9_addText n0 S0 x1 = some (T0)) : Met l yX9_addText (Cond.code yX9_addText cX9_addText 3 none :: TB) rm_X9_addText (PC D q [.ref o0, .ref (q (100 + x1))] (fl [g9 q o0 a0 n0 S0]) sz) ((fun A => QV D A (fl [g9 q o0 a0 n0 T0])) (va_A (fl [g9 q o0 a0 n0 S0]) sz)) 0 0 (va_A (fl [g9 q o0 a0 n0 S0]) sz) := by
  refine k_met (w0 := fl [g9 q o0 a0 n0 S0]) (Q := fun A => QV D A (fl [g9 q o0 a0 n0 T0])) (by decide +kernel) (Nat.le_of_ble_eq_true rfl) ?_
  intro p e s m args below meth c A ls C hP hD hS hl
  have hl : lv_has ls 3 [(0, .ref o0), (1, .ref (q (100 + x1)))] := hl
  unfold F_X9_addText at hF
  have C : cx p s m args meth c cX9_addText 3 none RX9 D q A := C
  obtain ⟨hx, hb, hr, hml, hown, hts, hlk, hA, hK, hN, hV⟩ := id C
  refine lv_iconst (v := (0 : Int32)) hx hb dX9_addText_0 (by decide) ?_
  refine lv_istore_n (lv' := [(2, .int (0 : Int32)), (0, .ref o0), (1, .ref (q (100 + x1)))]) hx hb dX9_addText_1 rfl hl (by decide) rfl (fun ls hl => ?_)
  exact l_X9_addText_2 C hF _ _ _ hP hD hS (lv_sub hl [1, 2, 0] rfl)

abbrev rm_X11_addViews : Room := ({ frames := 8, cells := 0, slots := 0, locals := 203 } : Room)
def F_X11_addViews_60 (k16 : Int32 × Int32 × St × St × St → Option (St)) (x1 : Int32) (x2 : Int32) (S0 : St) (S1 : St) (S2 : St) : Option (St) := k16 (x1, (x2 + 1), S0, S1, S2)
def F_X11_addViews_16 (k16 : Int32 × Int32 × St × St × St → Option (St)) (x1 : Int32) (x2 : Int32) (S0 : St) (S1 : St) (S2 : St) : Option (St) := if (8 : Int32) ≤ x2 then (some (S1)) else (if ((x1 >>> (x2 &&& 31)) &&& (1 : Int32)) = (1 : Int32) then (ob1 (F_X9_addText 96 S1 6) fun U4 => if oob ((9 : Int32) + x2) 36 then none else ob1 (F_X9_addWord 96 U4 (S2.2.2.2 1 ((9 : Int32) + x2).toNatClampNeg)) fun U7 => F_X11_addViews_60 k16 x1 x2 S0 U7 S2) else (F_X11_addViews_60 k16 x1 x2 S0 S1 S2))
def L_X11_addViews_16 (x1 : Int32) (x2 : Int32) (S0 : St) (S1 : St) (S2 : St) : Option (St) := lp (fun kz z => F_X11_addViews_16 kz z.1 z.2.1 z.2.2.1 z.2.2.2.1 z.2.2.2.2) FU (x1, x2, S0, S1, S2)
def F_X11_addViews_14 (x1 : Int32) (S0 : St) (S1 : St) (S2 : St) : Option (St) := L_X11_addViews_16 x1 (0 : Int32) S0 S1 S2
def F_X11_addViews (S0 : St) (S1 : St) (S2 : St) (x1 : Int32) : Option (St) := if x1 = 0 then (ob1 (F_X9_addText 96 S1 5) fun U3 => F_X11_addViews_14 x1 S0 U3 S2) else (F_X11_addViews_14 x1 S0 S1 S2)
set_option maxRecDepth 100000 in
set_option maxHeartbeats 4000000 in
theorem b_X11_addViews_60 {p : Program} {l : Launch} {e : Env} {s : State} {m : MethodId} {args : Array Value} {below : List Frame} {meth : Method} {c : Code} {D : va_G} {q : Nat → ClassId} {A : Nat → Prop} {tp : Nat} {o0 : Nat} {a0 : Nat → Nat} {a1 : Nat → Nat} {a2 : Nat → Nat} {T1 : St} (C : cx p s m args meth c cX11_addViews 3 none RX11 D q A) {k16 : Int32 × Int32 × St × St × St → Option (St)} (hk16 : ∀ (x1 : Int32) (x2 : Int32) (S0 : St) (S1 : St) (S2 : St), k16 (x1, x2, S0, S1, S2) = some (T1) → ∀ (H : Heap) (locs : List Loc) (ls : Array Slot), va_P D vwCl (fl [g11 q o0 a0 tp S0, g9 q (a0 14) a1 96 S1, g5 q (a0 1) a2 tp S2]) H → va_D A (fl [g11 q o0 a0 tp S0, g9 q (a0 14) a1 96 S1, g5 q (a0 1) a2 tp S2]) → va_S A s.heap H locs → lv_has ls 3 [(0, .ref o0), (1, .int x1), (2, .int x2)] → W p l e rm_X11_addViews s m args below meth c H locs 0 0 (MQ below (QV D A (fl [g11 q o0 a0 tp S0, g9 q (a0 14) a1 96 T1, g5 q (a0 1) a2 tp S2])) args s 0 0 A) (F0 m 16 ls [])) {x1 : Int32} {x2 : Int32} {S0 : St} {S1 : St} {S2 : St} (hF : F_X11_addViews_60 k16 x1 x2 S0 S1 S2 = some (T1)) {H : Heap} {locs : List Loc} (hP : va_P D vwCl (fl [g11 q o0 a0 tp S0, g9 q (a0 14) a1 96 S1, g5 q (a0 1) a2 tp S2]) H) (hD : va_D A (fl [g11 q o0 a0 tp S0, g9 q (a0 14) a1 96 S1, g5 q (a0 1) a2 tp S2])) (hS : va_S A s.heap H locs) {ls : Array Slot} (hl : lv_has ls 3 [(0, .ref o0), (1, .int x1), (2, .int x2)]) : W p l e rm_X11_addViews s m args below meth c H locs 0 0 (MQ below (QV D A (fl [g11 q o0 a0 tp S0, g9 q (a0 14) a1 96 T1, g5 q (a0 1) a2 tp S2])) args s 0 0 A) (F0 m 60 ls []) := by
  unfold F_X11_addViews_60 at hF
  obtain ⟨hx, hb, hr, hml, hown, hts, hlk, hA, hK, hN, hV⟩ := id C
  refine lv_iinc (v := (x2 + 1)) (lv' := [(2, .int (x2 + 1)), (0, .ref o0), (1, .int x1)]) hx hb dX11_addViews_60 hl (k := 2) rfl rfl (by decide) rfl (fun ls hl => ?_)
  refine lv_goto (tgt := 16) hx hb dX11_addViews_63 (by decide) ?_
  exact hk16 x1 (x2 + 1) S0 S1 S2 hF _ _ _ hP hD hS (lv_sub hl [1, 2, 0] rfl)
set_option maxRecDepth 100000 in
set_option maxHeartbeats 4000000 in
theorem b_X11_addViews_16 {p : Program} {l : Launch} {e : Env} {s : State} {m : MethodId} {args : Array Value} {below : List Frame} {meth : Method} {c : Code} {D : va_G} {q : Nat → ClassId} {A : Nat → Prop} {tp : Nat} {o0 : Nat} {a0 : Nat → Nat} {a1 : Nat → Nat} {a2 : Nat → Nat} {T1 : St} (C : cx p s m args meth c cX11_addViews 3 none RX11 D q A) {k16 : Int32 × Int32 × St × St × St → Option (St)} (hk16 : ∀ (x1 : Int32) (x2 : Int32) (S0 : St) (S1 : St) (S2 : St), k16 (x1, x2, S0, S1, S2) = some (T1) → ∀ (H : Heap) (locs : List Loc) (ls : Array Slot), va_P D vwCl (fl [g11 q o0 a0 tp S0, g9 q (a0 14) a1 96 S1, g5 q (a0 1) a2 tp S2]) H → va_D A (fl [g11 q o0 a0 tp S0, g9 q (a0 14) a1 96 S1, g5 q (a0 1) a2 tp S2]) → va_S A s.heap H locs → lv_has ls 3 [(0, .ref o0), (1, .int x1), (2, .int x2)] → W p l e rm_X11_addViews s m args below meth c H locs 0 0 (MQ below (QV D A (fl [g11 q o0 a0 tp S0, g9 q (a0 14) a1 96 T1, g5 q (a0 1) a2 tp S2])) args s 0 0 A) (F0 m 16 ls [])) {x1 : Int32} {x2 : Int32} {S0 : St} {S1 : St} {S2 : St} (hF : F_X11_addViews_16 k16 x1 x2 S0 S1 S2 = some (T1)) {H : Heap} {locs : List Loc} (hP : va_P D vwCl (fl [g11 q o0 a0 tp S0, g9 q (a0 14) a1 96 S1, g5 q (a0 1) a2 tp S2]) H) (hD : va_D A (fl [g11 q o0 a0 tp S0, g9 q (a0 14) a1 96 S1, g5 q (a0 1) a2 tp S2])) (hS : va_S A s.heap H locs) {ls : Array Slot} (hl : lv_has ls 3 [(0, .ref o0), (1, .int x1), (2, .int x2)]) : W p l e rm_X11_addViews s m args below meth c H locs 0 0 (MQ below (QV D A (fl [g11 q o0 a0 tp S0, g9 q (a0 14) a1 96 T1, g5 q (a0 1) a2 tp S2])) args s 0 0 A) (F0 m 16 ls []) := by
  unfold F_X11_addViews_16 at hF
  obtain ⟨hx, hb, hr, hml, hown, hts, hlk, hA, hK, hN, hV⟩ := id C
  refine lv_iload_n hx hb dX11_addViews_16 rfl (lv_at hl 2 rfl) ?_
  refine lv_bipush (v := (8 : Int32)) hx hb dX11_addViews_17 (by decide) ?_
  refine lv_icmp_ge (tgt := 66) hx hb dX11_addViews_19 (by decide) (fun c1 => ?_) (fun c1 => ?_)
  · have hF := op_t hF c1
    cases hF
    exact k_vret C hP hS dX11_addViews_66
  · have hF := op_f hF c1
    refine lv_iload_n hx hb dX11_addViews_22 rfl (lv_at hl 1 rfl) ?_
    refine lv_iload_n hx hb dX11_addViews_23 rfl (lv_at hl 2 rfl) ?_
    refine lv_ishr hx hb dX11_addViews_24 ?_
    refine lv_iconst (v := (1 : Int32)) hx hb dX11_addViews_25 (by decide) ?_
    refine lv_iand hx hb dX11_addViews_26 ?_
    refine lv_iconst (v := (1 : Int32)) hx hb dX11_addViews_27 (by decide) ?_
    refine lv_icmp_ne (tgt := 60) hx hb dX11_addViews_28 (by decide) (fun c2 => ?_) (fun c2 => ?_)
    · have hF := op_f hF c2
      exact b_X11_addViews_60 C hk16 hF hP hD hS (lv_sub hl [0, 1, 2] rfl)
    · have hF := op_t hF c2
      refine lv_aload_n hx hb dX11_addViews_31 rfl (lv_at hl 0 rfl) ?_
      refine k_get (v := .ref (a0 14)) C fg_X11_97 hP 0 rfl rfl dX11_addViews_32 ?_
      refine k_ldcwS hx hb hown hV.1.2.2.2.2.2.2.1 dX11_addViews_35 ?_
      obtain ⟨U4, hc3, hF⟩ := ob1_s hF
      refine k_vgrp (gs8 := [g11 q o0 a0 tp S0, g9 q (a0 14) a1 96 U4, g5 q (a0 1) a2 tp S2]) C (k_rV (As := [.ref (q (100 + 6))]) (rest := []) C (c_X9_addText l D q (a0 14) a1 96 S1 _ 6 hc3) kc_X9_addText ml_X11_332 rfl rfl (by decide) (flP hP [1] rfl) (flD hD [1] (by decide) rfl) hS (va_recv hK hP (ci := 9) (q0 := 2) rfl rfl) rfl hl.1 rfl (Nat.le_of_ble_eq_true rfl) dX11_addViews_38 (by decide)) hP hD hS [1] [0, 2] [g11 q o0 a0 tp S0, g5 q (a0 1) a2 tp S2] 3 (by decide) rfl rfl rfl rfl rfl rfl (by simp only [List.map_cons, List.map_nil, gad11, gad5, gad9]) (fun H locs hP hD hS => ?_)
      refine lv_aload_n hx hb dX11_addViews_41 rfl (lv_at hl 0 rfl) ?_
      refine k_get (v := .ref (a0 14)) C fg_X11_97 hP 0 rfl rfl dX11_addViews_42 ?_
      refine lv_aload_n hx hb dX11_addViews_45 rfl (lv_at hl 0 rfl) ?_
      refine k_get (v := .ref (a0 1)) C fg_X11_10 hP 0 rfl rfl dX11_addViews_46 ?_
      refine k_get (v := .ref (a2 2)) C fg_X11_382 hP 4 rfl rfl dX11_addViews_49 ?_
      refine lv_bipush (v := (9 : Int32)) hx hb dX11_addViews_52 (by decide) ?_
      refine lv_iload_n hx hb dX11_addViews_54 rfl (lv_at hl 2 rfl) ?_
      refine lv_iadd hx hb dX11_addViews_55 ?_
      obtain ⟨h5, hF⟩ := op_ck hF
      refine k_lld (f := S2.2.2.2 1) C hP 5 rfl h5 dX11_addViews_56 ?_
      obtain ⟨U7, hc6, hF⟩ := ob1_s hF
      refine k_vgrp (gs8 := [g11 q o0 a0 tp S0, g9 q (a0 14) a1 96 U7, g5 q (a0 1) a2 tp S2]) C (k_rV (As := [.long (S2.2.2.2 1 ((9 : Int32) + x2).toNatClampNeg)]) (rest := []) C (c_X9_addWord l D q (a0 14) a1 96 U4 _ (S2.2.2.2 1 ((9 : Int32) + x2).toNatClampNeg) hc6) kc_X9_addWord ml_X11_326 rfl rfl (by decide) (flP hP [1] rfl) (flD hD [1] (by decide) rfl) hS (va_recv hK hP (ci := 9) (q0 := 2) rfl rfl) rfl hl.1 rfl (Nat.le_of_ble_eq_true rfl) dX11_addViews_57 (by decide)) hP hD hS [1] [0, 2] [g11 q o0 a0 tp S0, g5 q (a0 1) a2 tp S2] 3 (by decide) rfl rfl rfl rfl rfl rfl (by simp only [List.map_cons, List.map_nil, gad11, gad5, gad9]) (fun H locs hP hD hS => ?_)
      exact b_X11_addViews_60 C hk16 hF hP hD hS (lv_sub hl [0, 1, 2] rfl)
set_option maxRecDepth 100000 in
set_option maxHeartbeats 4000000 in
theorem l_X11_addViews_16 {p : Program} {l : Launch} {e : Env} {s : State} {m : MethodId} {args : Array Value} {below : List Frame} {meth : Method} {c : Code} {D : va_G} {q : Nat → ClassId} {A : Nat → Prop} {tp : Nat} {o0 : Nat} {a0 : Nat → Nat} {a1 : Nat → Nat} {a2 : Nat → Nat} {T1 : St} (C : cx p s m args meth c cX11_addViews 3 none RX11 D q A) {x1 : Int32} {x2 : Int32} {S0 : St} {S1 : St} {S2 : St} (hF : L_X11_addViews_16 x1 x2 S0 S1 S2 = some (T1)) : ∀ (H : Heap) (locs : List Loc) (ls : Array Slot), va_P D vwCl (fl [g11 q o0 a0 tp S0, g9 q (a0 14) a1 96 S1, g5 q (a0 1) a2 tp S2]) H → va_D A (fl [g11 q o0 a0 tp S0, g9 q (a0 14) a1 96 S1, g5 q (a0 1) a2 tp S2]) → va_S A s.heap H locs → lv_has ls 3 [(0, .ref o0), (1, .int x1), (2, .int x2)] → W p l e rm_X11_addViews s m args below meth c H locs 0 0 (MQ below (QV D A (fl [g11 q o0 a0 tp S0, g9 q (a0 14) a1 96 T1, g5 q (a0 1) a2 tp S2])) args s 0 0 A) (F0 m 16 ls []) :=
  lp_G _ _ (fun z => ∀ (H : Heap) (locs : List Loc) (ls : Array Slot), va_P D vwCl (fl [g11 q o0 a0 tp z.2.2.1, g9 q (a0 14) a1 96 z.2.2.2.1, g5 q (a0 1) a2 tp z.2.2.2.2]) H → va_D A (fl [g11 q o0 a0 tp z.2.2.1, g9 q (a0 14) a1 96 z.2.2.2.1, g5 q (a0 1) a2 tp z.2.2.2.2]) → va_S A s.heap H locs → lv_has ls 3 [(0, .ref o0), (1, .int z.1), (2, .int z.2.1)] → W p l e rm_X11_addViews s m args below meth c H locs 0 0 (MQ below (QV D A (fl [g11 q o0 a0 tp z.2.2.1, g9 q (a0 14) a1 96 T1, g5 q (a0 1) a2 tp z.2.2.2.2])) args s 0 0 A) (F0 m 16 ls [])) (fun kz hkz z hz H locs ls hP hD hS hl => b_X11_addViews_16 C (fun x1 x2 S0 S1 S2 hz => hkz (x1, x2, S0, S1, S2) hz) hz hP hD hS hl) FU (x1, x2, S0, S1, S2) hF
set_option maxRecDepth 100000 in
set_option maxHeartbeats 4000000 in
theorem b_X11_addViews_14 {p : Program} {l : Launch} {e : Env} {s : State} {m : MethodId} {args : Array Value} {below : List Frame} {meth : Method} {c : Code} {D : va_G} {q : Nat → ClassId} {A : Nat → Prop} {tp : Nat} {o0 : Nat} {a0 : Nat → Nat} {a1 : Nat → Nat} {a2 : Nat → Nat} {T1 : St} (C : cx p s m args meth c cX11_addViews 3 none RX11 D q A) {x1 : Int32} {S0 : St} {S1 : St} {S2 : St} (hF : F_X11_addViews_14 x1 S0 S1 S2 = some (T1)) {H : Heap} {locs : List Loc} (hP : va_P D vwCl (fl [g11 q o0 a0 tp S0, g9 q (a0 14) a1 96 S1, g5 q (a0 1) a2 tp S2]) H) (hD : va_D A (fl [g11 q o0 a0 tp S0, g9 q (a0 14) a1 96 S1, g5 q (a0 1) a2 tp S2])) (hS : va_S A s.heap H locs) {ls : Array Slot} (hl : lv_has ls 3 [(0, .ref o0), (1, .int x1)]) : W p l e rm_X11_addViews s m args below meth c H locs 0 0 (MQ below (QV D A (fl [g11 q o0 a0 tp S0, g9 q (a0 14) a1 96 T1, g5 q (a0 1) a2 tp S2])) args s 0 0 A) (F0 m 14 ls []) := by
  unfold F_X11_addViews_14 at hF
  obtain ⟨hx, hb, hr, hml, hown, hts, hlk, hA, hK, hN, hV⟩ := id C
  refine lv_iconst (v := (0 : Int32)) hx hb dX11_addViews_14 (by decide) ?_
  refine lv_istore_n (lv' := [(2, .int (0 : Int32)), (0, .ref o0), (1, .int x1)]) hx hb dX11_addViews_15 rfl hl (by decide) rfl (fun ls hl => ?_)
  exact l_X11_addViews_16 C hF _ _ _ hP hD hS (lv_sub hl [1, 2, 0] rfl)
set_option maxRecDepth 100000 in
set_option maxHeartbeats 4000000 in
theorem c_X11_addViews (l : Launch) (D : va_G) (q : Nat → ClassId) (tp : Nat) (o0 : Nat) (a0 : Nat → Nat) (S0 : St) (a1 : Nat → Nat) (S1 : St) (a2 : Nat → Nat) (S2 : St) (sz : Nat) (x1 : Int32) {T1 : St} (hF : F_X11_addViews S0 S1 S2 x1 = some (T1)) : Met l yX11_addViews (Cond.code yX11_addViews cX11_addViews 3 none :: TB) rm_X11_addViews (PC D q [.ref o0, .int x1] (fl [g11 q o0 a0 tp S0, g9 q (a0 14) a1 96 S1, g5 q (a0 1) a2 tp S2]) sz) ((fun A => QV D A (fl [g11 q o0 a0 tp S0, g9 q (a0 14) a1 96 T1, g5 q (a0 1) a2 tp S2])) (va_A (fl [g11 q o0 a0 tp S0, g9 q (a0 14) a1 96 S1, g5 q (a0 1) a2 tp S2]) sz)) 0 0 (va_A (fl [g11 q o0 a0 tp S0, g9 q (a0 14) a1 96 S1, g5 q (a0 1) a2 tp S2]) sz) := by
  refine k_met (w0 := fl [g11 q o0 a0 tp S0, g9 q (a0 14) a1 96 S1, g5 q (a0 1) a2 tp S2]) (Q := fun A => QV D A (fl [g11 q o0 a0 tp S0, g9 q (a0 14) a1 96 T1, g5 q (a0 1) a2 tp S2])) (by decide +kernel) (Nat.le_of_ble_eq_true rfl) ?_
  intro p e s m args below meth c A ls C hP hD hS hl
  have hl : lv_has ls 3 [(0, .ref o0), (1, .int x1)] := hl
  unfold F_X11_addViews at hF
  have C : cx p s m args meth c cX11_addViews 3 none RX11 D q A := C
  obtain ⟨hx, hb, hr, hml, hown, hts, hlk, hA, hK, hN, hV⟩ := id C
  refine lv_iload_n hx hb dX11_addViews_0 rfl (lv_at hl 1 rfl) ?_
  refine lv_if_ne (tgt := 14) hx hb dX11_addViews_1 (by decide) (fun c1 => ?_) (fun c1 => ?_)
  · have hF := op_f hF c1
    exact b_X11_addViews_14 C hF hP hD hS (lv_sub hl [0, 1] rfl)
  · have hF := op_t hF c1
    refine lv_aload_n hx hb dX11_addViews_4 rfl (lv_at hl 0 rfl) ?_
    refine k_get (v := .ref (a0 14)) C fg_X11_97 hP 0 rfl rfl dX11_addViews_5 ?_
    refine k_ldcwS hx hb hown hV.1.2.2.2.2.2.1 dX11_addViews_8 ?_
    obtain ⟨U3, hc2, hF⟩ := ob1_s hF
    refine k_vgrp (gs8 := [g11 q o0 a0 tp S0, g9 q (a0 14) a1 96 U3, g5 q (a0 1) a2 tp S2]) C (k_rV (As := [.ref (q (100 + 5))]) (rest := []) C (c_X9_addText l D q (a0 14) a1 96 S1 _ 5 hc2) kc_X9_addText ml_X11_332 rfl rfl (by decide) (flP hP [1] rfl) (flD hD [1] (by decide) rfl) hS (va_recv hK hP (ci := 9) (q0 := 2) rfl rfl) rfl hl.1 rfl (Nat.le_of_ble_eq_true rfl) dX11_addViews_11 (by decide)) hP hD hS [1] [0, 2] [g11 q o0 a0 tp S0, g5 q (a0 1) a2 tp S2] 3 (by decide) rfl rfl rfl rfl rfl rfl (by simp only [List.map_cons, List.map_nil, gad11, gad5, gad9]) (fun H locs hP hD hS => ?_)
    exact b_X11_addViews_14 C hF hP hD hS (lv_sub hl [0, 1] rfl)

abbrev rm_X11_card : Room := ({ frames := 9, cells := 0, slots := 0, locals := 225 } : Room)
def F_X11_card_78 (x1 : Int32) (S0 : St) (S1 : St) (S2 : St) (S3 : St) : Option (Int32 × St) := ob1 (F_X9_addText 96 S1 4) fun U2 => if oob x1 6 then none else ob1 (F_X11_addViews S0 U2 S2 (S3.2.2.1 9 x1.toNatClampNeg)) fun U5 => some ((U5.1 1), U5)
def F_X11_card (S0 : St) (S1 : St) (S2 : St) (S3 : St) (x1 : Int32) : Option (Int32 × St) := ob1 (F_X8_hasPerson S3 x1) fun r2 => if r2 = 0 then (some ((-1 : Int32), S1)) else (nw (sI S1 1 (0 : Int32)) fun U4 => if oob x1 6 then none else ob1 (F_X9_addWord 96 U4 (S3.2.2.2 8 x1.toNatClampNeg)) fun U8 => if oob x1 6 then none else if (S3.2.2.1 12 x1.toNatClampNeg) = (-1 : Int32) then (F_X11_card_78 x1 S0 U8 S2 S3) else (ob1 (F_X9_addText 96 U8 3) fun U12 => if oob (S3.2.2.1 12 x1.toNatClampNeg) 7 then none else ob1 (F_X9_addWord 96 U12 (S3.2.2.2 1 (S3.2.2.1 12 x1.toNatClampNeg).toNatClampNeg)) fun U15 => F_X11_card_78 x1 S0 U15 S2 S3))
set_option maxRecDepth 100000 in
set_option maxHeartbeats 4000000 in
theorem b_X11_card_78 {p : Program} {l : Launch} {e : Env} {s : State} {m : MethodId} {args : Array Value} {below : List Frame} {meth : Method} {c : Code} {D : va_G} {q : Nat → ClassId} {A : Nat → Prop} {tp : Nat} {o0 : Nat} {a0 : Nat → Nat} {a1 : Nat → Nat} {a2 : Nat → Nat} {a3 : Nat → Nat} {r : Int32} {T1 : St} (C : cx p s m args meth c cX11_card 3 (some .int) RX11 D q A) {x1 : Int32} {S0 : St} {S1 : St} {S2 : St} {S3 : St} (hF : F_X11_card_78 x1 S0 S1 S2 S3 = some (r, T1)) {H : Heap} {locs : List Loc} (hP : va_P D vwCl (fl [g11 q o0 a0 tp S0, g9 q (a0 14) a1 96 S1, g5 q (a0 1) a2 tp S2, g8 q (a0 3) a3 S3]) H) (hD : va_D A (fl [g11 q o0 a0 tp S0, g9 q (a0 14) a1 96 S1, g5 q (a0 1) a2 tp S2, g8 q (a0 3) a3 S3])) (hS : va_S A s.heap H locs) {ls : Array Slot} (hl : lv_has ls 3 [(0, .ref o0), (1, .int x1)]) : W p l e rm_X11_card s m args below meth c H locs 0 0 (MQ below (QI D A r (fl [g11 q o0 a0 tp S0, g9 q (a0 14) a1 96 T1, g5 q (a0 1) a2 tp S2, g8 q (a0 3) a3 S3])) args s 0 0 A) (F0 m 78 ls []) := by
  unfold F_X11_card_78 at hF
  obtain ⟨hx, hb, hr, hml, hown, hts, hlk, hA, hK, hN, hV⟩ := id C
  refine lv_aload_n hx hb dX11_card_78 rfl (lv_at hl 0 rfl) ?_
  refine k_get (v := .ref (a0 14)) C fg_X11_97 hP 0 rfl rfl dX11_card_79 ?_
  refine k_ldcwS hx hb hown hV.1.2.2.2.2.1 dX11_card_82 ?_
  obtain ⟨U2, hc1, hF⟩ := ob1_s hF
  refine k_vgrp (gs8 := [g11 q o0 a0 tp S0, g9 q (a0 14) a1 96 U2, g5 q (a0 1) a2 tp S2, g8 q (a0 3) a3 S3]) C (k_rV (As := [.ref (q (100 + 4))]) (rest := []) C (c_X9_addText l D q (a0 14) a1 96 S1 _ 4 hc1) kc_X9_addText ml_X11_332 rfl rfl (by decide) (flP hP [1] rfl) (flD hD [1] (by decide) rfl) hS (va_recv hK hP (ci := 9) (q0 := 2) rfl rfl) rfl hl.1 rfl (Nat.le_of_ble_eq_true rfl) dX11_card_85 (by decide)) hP hD hS [1] [0, 2, 3] [g11 q o0 a0 tp S0, g5 q (a0 1) a2 tp S2, g8 q (a0 3) a3 S3] 4 (by decide) rfl rfl rfl rfl rfl rfl (by simp only [List.map_cons, List.map_nil, gad11, gad5, gad8, gad9]) (fun H locs hP hD hS => ?_)
  refine lv_aload_n hx hb dX11_card_88 rfl (lv_at hl 0 rfl) ?_
  refine lv_aload_n hx hb dX11_card_89 rfl (lv_at hl 0 rfl) ?_
  refine k_get (v := .ref (a0 3)) C fg_X11_26 hP 0 rfl rfl dX11_card_90 ?_
  refine k_get (v := .ref (a3 10)) C fg_X11_148 hP 9 rfl rfl dX11_card_93 ?_
  refine lv_iload_n hx hb dX11_card_96 rfl (lv_at hl 1 rfl) ?_
  obtain ⟨h3, hF⟩ := op_ck hF
  refine k_ild (f := S3.2.2.1 9) C hP 15 rfl h3 dX11_card_97 ?_
  obtain ⟨U5, hc4, hF⟩ := ob1_s hF
  refine k_vgrp (gs8 := [g11 q o0 a0 tp S0, g9 q (a0 14) a1 96 U5, g5 q (a0 1) a2 tp S2, g8 q (a0 3) a3 S3]) C (k_rV (As := [.int (S3.2.2.1 9 x1.toNatClampNeg)]) (rest := []) C (c_X11_addViews l D q tp o0 a0 S0 a1 U2 a2 S2 _ (S3.2.2.1 9 x1.toNatClampNeg) hc4) kc_X11_addViews ml_X11_340 rfl rfl (by decide) (flP hP [0, 1, 2] rfl) (flD hD [0, 1, 2] (by decide) rfl) hS (va_recv hK hP (ci := 11) (q0 := 0) rfl rfl) rfl hl.1 rfl (Nat.le_of_ble_eq_true rfl) dX11_card_98 (by decide)) hP hD hS [0, 1, 2] [3] [g8 q (a0 3) a3 S3] 4 (by decide) rfl rfl rfl rfl rfl rfl (by simp only [List.map_cons, List.map_nil, gad11, gad5, gad8, gad9]) (fun H locs hP hD hS => ?_)
  refine lv_aload_n hx hb dX11_card_101 rfl (lv_at hl 0 rfl) ?_
  refine k_get (v := .ref (a0 14)) C fg_X11_97 hP 0 rfl rfl dX11_card_102 ?_
  refine k_get (v := .int (U5.1 1)) C fg_X11_111 hP 2 rfl rfl dX11_card_105 ?_
  cases hF
  exact k_iret C hP hS dX11_card_108
set_option maxRecDepth 100000 in
set_option maxHeartbeats 4000000 in
theorem c_X11_card (l : Launch) (D : va_G) (q : Nat → ClassId) (tp : Nat) (o0 : Nat) (a0 : Nat → Nat) (S0 : St) (a1 : Nat → Nat) (S1 : St) (a2 : Nat → Nat) (S2 : St) (a3 : Nat → Nat) (S3 : St) (sz : Nat) (x1 : Int32) {r : Int32} {T1 : St} (hF : F_X11_card S0 S1 S2 S3 x1 = some (r, T1)) : Met l yX11_card (Cond.code yX11_card cX11_card 3 (some .int) :: TB) rm_X11_card (PC D q [.ref o0, .int x1] (fl [g11 q o0 a0 tp S0, g9 q (a0 14) a1 96 S1, g5 q (a0 1) a2 tp S2, g8 q (a0 3) a3 S3]) sz) ((fun A => QI D A r (fl [g11 q o0 a0 tp S0, g9 q (a0 14) a1 96 T1, g5 q (a0 1) a2 tp S2, g8 q (a0 3) a3 S3])) (va_A (fl [g11 q o0 a0 tp S0, g9 q (a0 14) a1 96 S1, g5 q (a0 1) a2 tp S2, g8 q (a0 3) a3 S3]) sz)) 0 0 (va_A (fl [g11 q o0 a0 tp S0, g9 q (a0 14) a1 96 S1, g5 q (a0 1) a2 tp S2, g8 q (a0 3) a3 S3]) sz) := by
  refine k_met (w0 := fl [g11 q o0 a0 tp S0, g9 q (a0 14) a1 96 S1, g5 q (a0 1) a2 tp S2, g8 q (a0 3) a3 S3]) (Q := fun A => QI D A r (fl [g11 q o0 a0 tp S0, g9 q (a0 14) a1 96 T1, g5 q (a0 1) a2 tp S2, g8 q (a0 3) a3 S3])) (by decide +kernel) (Nat.le_of_ble_eq_true rfl) ?_
  intro p e s m args below meth c A ls C hP hD hS hl
  have hl : lv_has ls 3 [(0, .ref o0), (1, .int x1)] := hl
  unfold F_X11_card at hF
  have C : cx p s m args meth c cX11_card 3 (some .int) RX11 D q A := C
  obtain ⟨hx, hb, hr, hml, hown, hts, hlk, hA, hK, hN, hV⟩ := id C
  refine lv_aload_n hx hb dX11_card_0 rfl (lv_at hl 0 rfl) ?_
  refine k_get (v := .ref (a0 3)) C fg_X11_26 hP 0 rfl rfl dX11_card_1 ?_
  refine lv_iload_n hx hb dX11_card_4 rfl (lv_at hl 1 rfl) ?_
  obtain ⟨r2, hc1, hF⟩ := ob1_s hF
  refine k_iro C (k_rV (As := [.int x1]) (rest := []) C (c_X8_hasPerson l D q (a0 3) a3 S3 _ x1 hc1) kc_X8_hasPerson ml_X11_137 rfl rfl (by decide) (flP hP [3] rfl) (flD hD [3] (by decide) rfl) hS (va_recv hK hP (ci := 8) (q0 := 9) rfl rfl) rfl hl.1 rfl (Nat.le_of_ble_eq_true rfl) dX11_card_5 (by decide)) hP hD hS [3] [0, 1, 2] [g11 q o0 a0 tp S0, g9 q (a0 14) a1 96 S1, g5 q (a0 1) a2 tp S2] 4 (by decide) rfl rfl rfl rfl (fun H locs hP hD hS => ?_)
  refine lv_if_ne (tgt := 13) hx hb dX11_card_8 (by decide) (fun c3 => ?_) (fun c3 => ?_)
  · have hF := op_f hF c3
    refine lv_aload_n hx hb dX11_card_13 rfl (lv_at hl 0 rfl) ?_
    refine k_get (v := .ref (a0 14)) C fg_X11_97 hP 0 rfl rfl dX11_card_14 ?_
    refine lv_iconst (v := (0 : Int32)) hx hb dX11_card_17 (by decide) ?_
    obtain ⟨U4, e5, hF⟩ := nw_s hF
    refine k_put (W8 := fl [g11 q o0 a0 tp S0, g9 q (a0 14) a1 96 U4, g5 q (a0 1) a2 tp S2, g8 q (a0 3) a3 S3]) C fp_X11_111 hP hD hS 2 rfl rfl rfl (Nat.le_of_ble_eq_true rfl) dX11_card_18 (by rw [e5]; rfl) (fun H locs hP hD hS => ?_)
    refine lv_aload_n hx hb dX11_card_21 rfl (lv_at hl 0 rfl) ?_
    refine k_get (v := .ref (a0 14)) C fg_X11_97 hP 0 rfl rfl dX11_card_22 ?_
    refine lv_aload_n hx hb dX11_card_25 rfl (lv_at hl 0 rfl) ?_
    refine k_get (v := .ref (a0 3)) C fg_X11_26 hP 0 rfl rfl dX11_card_26 ?_
    refine k_get (v := .ref (a3 9)) C fg_X11_322 hP 9 rfl rfl dX11_card_29 ?_
    refine lv_iload_n hx hb dX11_card_32 rfl (lv_at hl 1 rfl) ?_
    obtain ⟨h6, hF⟩ := op_ck hF
    refine k_lld (f := S3.2.2.2 8) C hP 14 rfl h6 dX11_card_33 ?_
    obtain ⟨U8, hc7, hF⟩ := ob1_s hF
    refine k_vgrp (gs8 := [g11 q o0 a0 tp S0, g9 q (a0 14) a1 96 U8, g5 q (a0 1) a2 tp S2, g8 q (a0 3) a3 S3]) C (k_rV (As := [.long (S3.2.2.2 8 x1.toNatClampNeg)]) (rest := []) C (c_X9_addWord l D q (a0 14) a1 96 U4 _ (S3.2.2.2 8 x1.toNatClampNeg) hc7) kc_X9_addWord ml_X11_326 rfl rfl (by decide) (flP hP [1] rfl) (flD hD [1] (by decide) rfl) hS (va_recv hK hP (ci := 9) (q0 := 2) rfl rfl) rfl hl.1 rfl (Nat.le_of_ble_eq_true rfl) dX11_card_34 (by decide)) hP hD hS [1] [0, 2, 3] [g11 q o0 a0 tp S0, g5 q (a0 1) a2 tp S2, g8 q (a0 3) a3 S3] 4 (by decide) rfl rfl rfl rfl rfl rfl (by simp only [List.map_cons, List.map_nil, gad11, gad5, gad8, gad9]) (fun H locs hP hD hS => ?_)
    refine lv_aload_n hx hb dX11_card_37 rfl (lv_at hl 0 rfl) ?_
    refine k_get (v := .ref (a0 3)) C fg_X11_26 hP 0 rfl rfl dX11_card_38 ?_
    refine k_get (v := .ref (a3 13)) C fg_X11_157 hP 9 rfl rfl dX11_card_41 ?_
    refine lv_iload_n hx hb dX11_card_44 rfl (lv_at hl 1 rfl) ?_
    obtain ⟨h9, hF⟩ := op_ck hF
    refine k_ild (f := S3.2.2.1 12) C hP 18 rfl h9 dX11_card_45 ?_
    refine lv_istore_n (lv' := [(2, .int (S3.2.2.1 12 x1.toNatClampNeg)), (0, .ref o0), (1, .int x1)]) hx hb dX11_card_46 rfl hl (by decide) rfl (fun ls hl => ?_)
    refine lv_iload_n hx hb dX11_card_47 rfl (lv_at hl 0 rfl) ?_
    refine lv_iconst (v := (-1 : Int32)) hx hb dX11_card_48 (by decide) ?_
    refine lv_icmp_eq (tgt := 78) hx hb dX11_card_49 (by decide) (fun c10 => ?_) (fun c10 => ?_)
    · have hF := op_t hF c10
      exact b_X11_card_78 C hF hP hD hS (lv_sub hl [1, 2] rfl)
    · have hF := op_f hF c10
      refine lv_aload_n hx hb dX11_card_52 rfl (lv_at hl 1 rfl) ?_
      refine k_get (v := .ref (a0 14)) C fg_X11_97 hP 0 rfl rfl dX11_card_53 ?_
      refine k_ldcwS hx hb hown hV.1.2.2.2.1 dX11_card_56 ?_
      obtain ⟨U12, hc11, hF⟩ := ob1_s hF
      refine k_vgrp (gs8 := [g11 q o0 a0 tp S0, g9 q (a0 14) a1 96 U12, g5 q (a0 1) a2 tp S2, g8 q (a0 3) a3 S3]) C (k_rV (As := [.ref (q (100 + 3))]) (rest := []) C (c_X9_addText l D q (a0 14) a1 96 U8 _ 3 hc11) kc_X9_addText ml_X11_332 rfl rfl (by decide) (flP hP [1] rfl) (flD hD [1] (by decide) rfl) hS (va_recv hK hP (ci := 9) (q0 := 2) rfl rfl) rfl hl.1 rfl (Nat.le_of_ble_eq_true rfl) dX11_card_59 (by decide)) hP hD hS [1] [0, 2, 3] [g11 q o0 a0 tp S0, g5 q (a0 1) a2 tp S2, g8 q (a0 3) a3 S3] 4 (by decide) rfl rfl rfl rfl rfl rfl (by simp only [List.map_cons, List.map_nil, gad11, gad5, gad8, gad9]) (fun H locs hP hD hS => ?_)
      refine lv_aload_n hx hb dX11_card_62 rfl (lv_at hl 1 rfl) ?_
      refine k_get (v := .ref (a0 14)) C fg_X11_97 hP 0 rfl rfl dX11_card_63 ?_
      refine lv_aload_n hx hb dX11_card_66 rfl (lv_at hl 1 rfl) ?_
      refine k_get (v := .ref (a0 3)) C fg_X11_26 hP 0 rfl rfl dX11_card_67 ?_
      refine k_get (v := .ref (a3 2)) C fg_X11_335 hP 9 rfl rfl dX11_card_70 ?_
      refine lv_iload_n hx hb dX11_card_73 rfl (lv_at hl 0 rfl) ?_
      obtain ⟨h13, hF⟩ := op_ck hF
      refine k_lld (f := S3.2.2.2 1) C hP 10 rfl h13 dX11_card_74 ?_
      obtain ⟨U15, hc14, hF⟩ := ob1_s hF
      refine k_vgrp (gs8 := [g11 q o0 a0 tp S0, g9 q (a0 14) a1 96 U15, g5 q (a0 1) a2 tp S2, g8 q (a0 3) a3 S3]) C (k_rV (As := [.long (S3.2.2.2 1 (S3.2.2.1 12 x1.toNatClampNeg).toNatClampNeg)]) (rest := []) C (c_X9_addWord l D q (a0 14) a1 96 U12 _ (S3.2.2.2 1 (S3.2.2.1 12 x1.toNatClampNeg).toNatClampNeg) hc14) kc_X9_addWord ml_X11_326 rfl rfl (by decide) (flP hP [1] rfl) (flD hD [1] (by decide) rfl) hS (va_recv hK hP (ci := 9) (q0 := 2) rfl rfl) rfl hl.1 rfl (Nat.le_of_ble_eq_true rfl) dX11_card_75 (by decide)) hP hD hS [1] [0, 2, 3] [g11 q o0 a0 tp S0, g5 q (a0 1) a2 tp S2, g8 q (a0 3) a3 S3] 4 (by decide) rfl rfl rfl rfl rfl rfl (by simp only [List.map_cons, List.map_nil, gad11, gad5, gad8, gad9]) (fun H locs hP hD hS => ?_)
      exact b_X11_card_78 C hF hP hD hS (lv_sub hl [1, 2] rfl)
  · have hF := op_t hF c3
    refine lv_iconst (v := (-1 : Int32)) hx hb dX11_card_11 (by decide) ?_
    cases hF
    exact k_iret C hP hS dX11_card_12
