abbrev rm_X12_says : Room := ({ frames := 2, cells := 0, slots := 0, locals := 44 } : Room)
def F_X12_says (S0 : St) (x1 : Int64) : Option (St) := ob1 (F_X12_lays S0 (32 : Int32)) fun U2 => ob1 (F_X12_spells U2 x1) fun U4 => some (U4)
set_option maxRecDepth 100000 in
set_option maxHeartbeats 4000000 in
theorem c_X12_says (l : Launch) (D : va_G) (q : Nat → ClassId) (o0 : Nat) (a0 : Nat → Nat) (S0 : St) (sz : Nat) (x1 : Int64) {T0 : St} (hF : F_X12_says S0 x1 = some (T0)) : Met l yX12_says (Cond.code yX12_says cX12_says 3 none :: TB) rm_X12_says (PC D q [.ref o0, .long x1] (fl [g12 q o0 a0 S0]) sz) ((fun A => QV D A (fl [g12 q o0 a0 T0])) (va_A (fl [g12 q o0 a0 S0]) sz)) 0 0 (va_A (fl [g12 q o0 a0 S0]) sz) := by
  refine k_met (w0 := fl [g12 q o0 a0 S0]) (Q := fun A => QV D A (fl [g12 q o0 a0 T0])) (by decide +kernel) (Nat.le_of_ble_eq_true rfl) ?_
  intro p e s m args below meth c A ls C hP hD hS hl
  have hl : lv_has ls 3 [(0, .ref o0), (1, .long x1)] := hl
  unfold F_X12_says at hF
  have C : cx p s m args meth c cX12_says 3 none RX12 D q A := C
  obtain ⟨hx, hb, hr, hml, hown, hts, hlk, hA, hK, hN, hV⟩ := id C
  refine lv_aload_n hx hb dX12_says_0 rfl (lv_at hl 0 rfl) ?_
  refine lv_bipush (v := (32 : Int32)) hx hb dX12_says_1 (by decide) ?_
  obtain ⟨U2, hc1, hF⟩ := ob1_s hF
  refine k_vall C (k_rV (As := [.int (32 : Int32)]) (rest := []) C (c_X12_lays l D q o0 a0 S0 _ (32 : Int32) hc1) kc_X12_lays ml_X12_416 rfl rfl (by decide) hP hD hS (va_recv hK hP (ci := 12) (q0 := 0) rfl rfl) rfl hl.1 rfl (Nat.le_of_ble_eq_true rfl) dX12_says_3 (by decide)) hP hD hS (by simp only [List.map_cons, List.map_nil, gad12]) (fun H locs hP hD hS => ?_)
  refine lv_aload_n hx hb dX12_says_6 rfl (lv_at hl 0 rfl) ?_
  refine lv_lload_n hx hb dX12_says_7 rfl (lv_at hl 1 rfl) ?_
  obtain ⟨U4, hc3, hF⟩ := ob1_s hF
  refine k_vall C (k_rV (As := [.long x1]) (rest := []) C (c_X12_spells l D q o0 a0 U2 _ x1 hc3) kc_X12_spells ml_X12_419 rfl rfl (by decide) hP hD hS (va_recv hK hP (ci := 12) (q0 := 0) rfl rfl) rfl hl.1 rfl (Nat.le_of_ble_eq_true rfl) dX12_says_8 (by decide)) hP hD hS (by simp only [List.map_cons, List.map_nil, gad12]) (fun H locs hP hD hS => ?_)
  cases hF
  exact k_vret C hP hS dX12_says_11

abbrev rm_X12_card : Room := ({ frames := 3, cells := 0, slots := 0, locals := 66 } : Room)
def F_X12_card_130 (k96 : Int32 × Int32 × St → Option (Int32 × St)) (x1 : Int32) (x2 : Int32) (S0 : St) : Option (Int32 × St) := k96 (x1, (x2 + 1), S0)
def F_X12_card_96 (k96 : Int32 × Int32 × St → Option (Int32 × St)) (x1 : Int32) (x2 : Int32) (S0 : St) : Option (Int32 × St) := if (8 : Int32) ≤ x2 then (some ((S0.1 36), S0)) else (if oob ((59 : Int32) + x1) 258 then none else ob1 (F_X12_bitOf (S0.2.2.1 6 ((59 : Int32) + x1).toNatClampNeg) x2) fun r4 => if r4 = 0 then (F_X12_card_130 k96 x1 x2 S0) else (if oob ((5 : Int32) + x2) 36 then none else ob1 (F_X12_says S0 (S0.2.2.2 10 ((5 : Int32) + x2).toNatClampNeg)) fun U8 => F_X12_card_130 k96 x1 x2 U8))
def L_X12_card_96 (x1 : Int32) (x2 : Int32) (S0 : St) : Option (Int32 × St) := lp (fun kz z => F_X12_card_96 kz z.1 z.2.1 z.2.2) FU (x1, x2, S0)
def F_X12_card_94 (x1 : Int32) (S0 : St) : Option (Int32 × St) := L_X12_card_96 x1 (0 : Int32) S0
def F_X12_card_68 (x1 : Int32) (S0 : St) : Option (Int32 × St) := ob1 (F_X12_says S0 (127991794264947 : Int64)) fun U2 => if oob ((59 : Int32) + x1) 258 then none else if (U2.2.2.1 6 ((59 : Int32) + x1).toNatClampNeg) = 0 then (ob1 (F_X12_says U2 (31084793196801639 : Int64)) fun U6 => F_X12_card_94 x1 U6) else (F_X12_card_94 x1 U2)
def F_X12_card (S0 : St) (x1 : Int32) : Option (Int32 × St) := nw (sI S0 0 (0 : Int32)) fun U1 => ob1 (F_X12_isPerson U1 x1) fun r4 => if r4 = 0 then (some ((-1 : Int32), U1)) else (nw (sI U1 36 (0 : Int32)) fun U6 => if oob ((7 : Int32) + x1) 26 then none else ob1 (F_X12_spells U6 (U6.2.2.2 9 ((7 : Int32) + x1).toNatClampNeg)) fun U10 => ob1 (F_X12_isUp U10 x1) fun r12 => if r12 = 0 then (F_X12_card_68 x1 U10) else (ob1 (F_X12_says U10 (28526 : Int64)) fun U15 => if oob ((65 : Int32) + x1) 258 then none else if oob ((U15.2.2.1 6 ((65 : Int32) + x1).toNatClampNeg) - (1 : Int32)) 26 then none else ob1 (F_X12_says U15 (U15.2.2.2 9 ((U15.2.2.1 6 ((65 : Int32) + x1).toNatClampNeg) - (1 : Int32)).toNatClampNeg)) fun U19 => F_X12_card_68 x1 U19))
set_option maxRecDepth 100000 in
set_option maxHeartbeats 4000000 in
theorem b_X12_card_130 {p : Program} {l : Launch} {e : Env} {s : State} {m : MethodId} {args : Array Value} {below : List Frame} {meth : Method} {c : Code} {D : va_G} {q : Nat → ClassId} {A : Nat → Prop} {o0 : Nat} {a0 : Nat → Nat} {r : Int32} {T0 : St} (C : cx p s m args meth c cX12_card 3 (some .int) RX12 D q A) {k96 : Int32 × Int32 × St → Option (Int32 × St)} (hk96 : ∀ (x1 : Int32) (x2 : Int32) (S0 : St), k96 (x1, x2, S0) = some (r, T0) → ∀ (H : Heap) (locs : List Loc) (ls : Array Slot), va_P D vwCl (fl [g12 q o0 a0 S0]) H → va_D A (fl [g12 q o0 a0 S0]) → va_S A s.heap H locs → lv_has ls 3 [(0, .ref o0), (1, .int x1), (2, .int x2)] → W p l e rm_X12_card s m args below meth c H locs 0 0 (MQ below (QI D A r (fl [g12 q o0 a0 T0])) args s 0 0 A) (F0 m 96 ls [])) {x1 : Int32} {x2 : Int32} {S0 : St} (hF : F_X12_card_130 k96 x1 x2 S0 = some (r, T0)) {H : Heap} {locs : List Loc} (hP : va_P D vwCl (fl [g12 q o0 a0 S0]) H) (hD : va_D A (fl [g12 q o0 a0 S0])) (hS : va_S A s.heap H locs) {ls : Array Slot} (hl : lv_has ls 3 [(0, .ref o0), (1, .int x1), (2, .int x2)]) : W p l e rm_X12_card s m args below meth c H locs 0 0 (MQ below (QI D A r (fl [g12 q o0 a0 T0])) args s 0 0 A) (F0 m 130 ls []) := by
  unfold F_X12_card_130 at hF
  obtain ⟨hx, hb, hr, hml, hown, hts, hlk, hA, hK, hN, hV⟩ := id C
  refine lv_iinc (v := (x2 + 1)) (lv' := [(2, .int (x2 + 1)), (0, .ref o0), (1, .int x1)]) hx hb dX12_card_130 hl (k := 2) rfl rfl (by decide) rfl (fun ls hl => ?_)
  refine lv_goto (tgt := 96) hx hb dX12_card_133 (by decide) ?_
  exact hk96 x1 (x2 + 1) S0 hF _ _ _ hP hD hS (lv_sub hl [1, 2, 0] rfl)
set_option maxRecDepth 100000 in
set_option maxHeartbeats 4000000 in
theorem b_X12_card_96 {p : Program} {l : Launch} {e : Env} {s : State} {m : MethodId} {args : Array Value} {below : List Frame} {meth : Method} {c : Code} {D : va_G} {q : Nat → ClassId} {A : Nat → Prop} {o0 : Nat} {a0 : Nat → Nat} {r : Int32} {T0 : St} (C : cx p s m args meth c cX12_card 3 (some .int) RX12 D q A) {k96 : Int32 × Int32 × St → Option (Int32 × St)} (hk96 : ∀ (x1 : Int32) (x2 : Int32) (S0 : St), k96 (x1, x2, S0) = some (r, T0) → ∀ (H : Heap) (locs : List Loc) (ls : Array Slot), va_P D vwCl (fl [g12 q o0 a0 S0]) H → va_D A (fl [g12 q o0 a0 S0]) → va_S A s.heap H locs → lv_has ls 3 [(0, .ref o0), (1, .int x1), (2, .int x2)] → W p l e rm_X12_card s m args below meth c H locs 0 0 (MQ below (QI D A r (fl [g12 q o0 a0 T0])) args s 0 0 A) (F0 m 96 ls [])) {x1 : Int32} {x2 : Int32} {S0 : St} (hF : F_X12_card_96 k96 x1 x2 S0 = some (r, T0)) {H : Heap} {locs : List Loc} (hP : va_P D vwCl (fl [g12 q o0 a0 S0]) H) (hD : va_D A (fl [g12 q o0 a0 S0])) (hS : va_S A s.heap H locs) {ls : Array Slot} (hl : lv_has ls 3 [(0, .ref o0), (1, .int x1), (2, .int x2)]) : W p l e rm_X12_card s m args below meth c H locs 0 0 (MQ below (QI D A r (fl [g12 q o0 a0 T0])) args s 0 0 A) (F0 m 96 ls []) := by
  unfold F_X12_card_96 at hF
  obtain ⟨hx, hb, hr, hml, hown, hts, hlk, hA, hK, hN, hV⟩ := id C
  refine lv_iload_n hx hb dX12_card_96 rfl (lv_at hl 2 rfl) ?_
  refine lv_bipush (v := (8 : Int32)) hx hb dX12_card_97 (by decide) ?_
  refine lv_icmp_ge (tgt := 136) hx hb dX12_card_99 (by decide) (fun c1 => ?_) (fun c1 => ?_)
  · have hF := op_t hF c1
    refine lv_aload_n hx hb dX12_card_136 rfl (lv_at hl 0 rfl) ?_
    refine k_get (v := .int (S0.1 36)) C fg_X12_411 hP 0 rfl rfl dX12_card_137 ?_
    cases hF
    exact k_iret C hP hS dX12_card_140
  · have hF := op_f hF c1
    refine lv_aload_n hx hb dX12_card_102 rfl (lv_at hl 0 rfl) ?_
    refine k_get (v := .ref (a0 7)) C fg_X12_33 hP 0 rfl rfl dX12_card_103 ?_
    refine lv_bipush (v := (59 : Int32)) hx hb dX12_card_106 (by decide) ?_
    refine lv_iload_n hx hb dX12_card_108 rfl (lv_at hl 1 rfl) ?_
    refine lv_iadd hx hb dX12_card_109 ?_
    obtain ⟨h2, hF⟩ := op_ck hF
    refine k_ild (f := S0.2.2.1 6) C hP 2 rfl h2 dX12_card_110 ?_
    refine lv_iload_n hx hb dX12_card_111 rfl (lv_at hl 2 rfl) ?_
    obtain ⟨r4, hc3, hF⟩ := ob1_s hF
    refine k_inil C (k_rS (As := [.int (S0.2.2.1 6 ((59 : Int32) + x1).toNatClampNeg), .int x2]) (rest := []) C (c_X12_bitOf l D q _ (S0.2.2.1 6 ((59 : Int32) + x1).toNatClampNeg) x2 hc3) kc_X12_bitOf ml_X12_275 rfl rfl (by decide) (fun k x h => by simp at h) (⟨fun i j x y h => by simp at h, fun k x h => by simp at h⟩ : va_D A []) hS rfl hl.1 rfl (Nat.le_of_ble_eq_true rfl) dX12_card_112 (by decide)) hP hD hS (fun H locs hP hD hS => ?_)
    refine lv_if_eq (tgt := 130) hx hb dX12_card_115 (by decide) (fun c5 => ?_) (fun c5 => ?_)
    · have hF := op_t hF c5
      exact b_X12_card_130 C hk96 hF hP hD hS (lv_sub hl [0, 1, 2] rfl)
    · have hF := op_f hF c5
      refine lv_aload_n hx hb dX12_card_118 rfl (lv_at hl 0 rfl) ?_
      refine lv_aload_n hx hb dX12_card_119 rfl (lv_at hl 0 rfl) ?_
      refine k_get (v := .ref (a0 11)) C fg_X12_47 hP 0 rfl rfl dX12_card_120 ?_
      refine lv_iconst (v := (5 : Int32)) hx hb dX12_card_123 (by decide) ?_
      refine lv_iload_n hx hb dX12_card_124 rfl (lv_at hl 2 rfl) ?_
      refine lv_iadd hx hb dX12_card_125 ?_
      obtain ⟨h6, hF⟩ := op_ck hF
      refine k_lld (f := S0.2.2.2 10) C hP 6 rfl h6 dX12_card_126 ?_
      obtain ⟨U8, hc7, hF⟩ := ob1_s hF
      refine k_vall C (k_rV (As := [.long (S0.2.2.2 10 ((5 : Int32) + x2).toNatClampNeg)]) (rest := []) C (c_X12_says l D q o0 a0 S0 _ (S0.2.2.2 10 ((5 : Int32) + x2).toNatClampNeg) hc7) kc_X12_says ml_X12_423 rfl rfl (by decide) hP hD hS (va_recv hK hP (ci := 12) (q0 := 0) rfl rfl) rfl hl.1 rfl (Nat.le_of_ble_eq_true rfl) dX12_card_127 (by decide)) hP hD hS (by simp only [List.map_cons, List.map_nil, gad12]) (fun H locs hP hD hS => ?_)
      exact b_X12_card_130 C hk96 hF hP hD hS (lv_sub hl [0, 1, 2] rfl)
set_option maxRecDepth 100000 in
set_option maxHeartbeats 4000000 in
theorem l_X12_card_96 {p : Program} {l : Launch} {e : Env} {s : State} {m : MethodId} {args : Array Value} {below : List Frame} {meth : Method} {c : Code} {D : va_G} {q : Nat → ClassId} {A : Nat → Prop} {o0 : Nat} {a0 : Nat → Nat} {r : Int32} {T0 : St} (C : cx p s m args meth c cX12_card 3 (some .int) RX12 D q A) {x1 : Int32} {x2 : Int32} {S0 : St} (hF : L_X12_card_96 x1 x2 S0 = some (r, T0)) : ∀ (H : Heap) (locs : List Loc) (ls : Array Slot), va_P D vwCl (fl [g12 q o0 a0 S0]) H → va_D A (fl [g12 q o0 a0 S0]) → va_S A s.heap H locs → lv_has ls 3 [(0, .ref o0), (1, .int x1), (2, .int x2)] → W p l e rm_X12_card s m args below meth c H locs 0 0 (MQ below (QI D A r (fl [g12 q o0 a0 T0])) args s 0 0 A) (F0 m 96 ls []) :=
  lp_G _ _ (fun z => ∀ (H : Heap) (locs : List Loc) (ls : Array Slot), va_P D vwCl (fl [g12 q o0 a0 z.2.2]) H → va_D A (fl [g12 q o0 a0 z.2.2]) → va_S A s.heap H locs → lv_has ls 3 [(0, .ref o0), (1, .int z.1), (2, .int z.2.1)] → W p l e rm_X12_card s m args below meth c H locs 0 0 (MQ below (QI D A r (fl [g12 q o0 a0 T0])) args s 0 0 A) (F0 m 96 ls [])) (fun kz hkz z hz H locs ls hP hD hS hl => b_X12_card_96 C (fun x1 x2 S0 hz => hkz (x1, x2, S0) hz) hz hP hD hS hl) FU (x1, x2, S0) hF
set_option maxRecDepth 100000 in
set_option maxHeartbeats 4000000 in
theorem b_X12_card_94 {p : Program} {l : Launch} {e : Env} {s : State} {m : MethodId} {args : Array Value} {below : List Frame} {meth : Method} {c : Code} {D : va_G} {q : Nat → ClassId} {A : Nat → Prop} {o0 : Nat} {a0 : Nat → Nat} {r : Int32} {T0 : St} (C : cx p s m args meth c cX12_card 3 (some .int) RX12 D q A) {x1 : Int32} {S0 : St} (hF : F_X12_card_94 x1 S0 = some (r, T0)) {H : Heap} {locs : List Loc} (hP : va_P D vwCl (fl [g12 q o0 a0 S0]) H) (hD : va_D A (fl [g12 q o0 a0 S0])) (hS : va_S A s.heap H locs) {ls : Array Slot} (hl : lv_has ls 3 [(0, .ref o0), (1, .int x1)]) : W p l e rm_X12_card s m args below meth c H locs 0 0 (MQ below (QI D A r (fl [g12 q o0 a0 T0])) args s 0 0 A) (F0 m 94 ls []) := by
  unfold F_X12_card_94 at hF
  obtain ⟨hx, hb, hr, hml, hown, hts, hlk, hA, hK, hN, hV⟩ := id C
  refine lv_iconst (v := (0 : Int32)) hx hb dX12_card_94 (by decide) ?_
  refine lv_istore_n (lv' := [(2, .int (0 : Int32)), (0, .ref o0), (1, .int x1)]) hx hb dX12_card_95 rfl hl (by decide) rfl (fun ls hl => ?_)
  exact l_X12_card_96 C hF _ _ _ hP hD hS (lv_sub hl [1, 2, 0] rfl)
set_option maxRecDepth 100000 in
set_option maxHeartbeats 4000000 in
theorem b_X12_card_68 {p : Program} {l : Launch} {e : Env} {s : State} {m : MethodId} {args : Array Value} {below : List Frame} {meth : Method} {c : Code} {D : va_G} {q : Nat → ClassId} {A : Nat → Prop} {o0 : Nat} {a0 : Nat → Nat} {r : Int32} {T0 : St} (C : cx p s m args meth c cX12_card 3 (some .int) RX12 D q A) {x1 : Int32} {S0 : St} (hF : F_X12_card_68 x1 S0 = some (r, T0)) {H : Heap} {locs : List Loc} (hP : va_P D vwCl (fl [g12 q o0 a0 S0]) H) (hD : va_D A (fl [g12 q o0 a0 S0])) (hS : va_S A s.heap H locs) {ls : Array Slot} (hl : lv_has ls 3 [(0, .ref o0), (1, .int x1)]) : W p l e rm_X12_card s m args below meth c H locs 0 0 (MQ below (QI D A r (fl [g12 q o0 a0 T0])) args s 0 0 A) (F0 m 68 ls []) := by
  unfold F_X12_card_68 at hF
  obtain ⟨hx, hb, hr, hml, hown, hts, hlk, hA, hK, hN, hV⟩ := id C
  refine lv_aload_n hx hb dX12_card_68 rfl (lv_at hl 0 rfl) ?_
  refine lv_ldc2 (v := (127991794264947 : Int64)) hx hb hown (hts _ kL_X12_138) dX12_card_69 ?_
  obtain ⟨U2, hc1, hF⟩ := ob1_s hF
  refine k_vall C (k_rV (As := [.long (127991794264947 : Int64)]) (rest := []) C (c_X12_says l D q o0 a0 S0 _ (127991794264947 : Int64) hc1) kc_X12_says ml_X12_423 rfl rfl (by decide) hP hD hS (va_recv hK hP (ci := 12) (q0 := 0) rfl rfl) rfl hl.1 rfl (Nat.le_of_ble_eq_true rfl) dX12_card_72 (by decide)) hP hD hS (by simp only [List.map_cons, List.map_nil, gad12]) (fun H locs hP hD hS => ?_)
  refine lv_aload_n hx hb dX12_card_75 rfl (lv_at hl 0 rfl) ?_
  refine k_get (v := .ref (a0 7)) C fg_X12_33 hP 0 rfl rfl dX12_card_76 ?_
  refine lv_bipush (v := (59 : Int32)) hx hb dX12_card_79 (by decide) ?_
  refine lv_iload_n hx hb dX12_card_81 rfl (lv_at hl 1 rfl) ?_
  refine lv_iadd hx hb dX12_card_82 ?_
  obtain ⟨h3, hF⟩ := op_ck hF
  refine k_ild (f := U2.2.2.1 6) C hP 2 rfl h3 dX12_card_83 ?_
  refine lv_if_ne (tgt := 94) hx hb dX12_card_84 (by decide) (fun c4 => ?_) (fun c4 => ?_)
  · have hF := op_f hF c4
    exact b_X12_card_94 C hF hP hD hS (lv_sub hl [0, 1] rfl)
  · have hF := op_t hF c4
    refine lv_aload_n hx hb dX12_card_87 rfl (lv_at hl 0 rfl) ?_
    refine lv_ldc2 (v := (31084793196801639 : Int64)) hx hb hown (hts _ kL_X12_426) dX12_card_88 ?_
    obtain ⟨U6, hc5, hF⟩ := ob1_s hF
    refine k_vall C (k_rV (As := [.long (31084793196801639 : Int64)]) (rest := []) C (c_X12_says l D q o0 a0 U2 _ (31084793196801639 : Int64) hc5) kc_X12_says ml_X12_423 rfl rfl (by decide) hP hD hS (va_recv hK hP (ci := 12) (q0 := 0) rfl rfl) rfl hl.1 rfl (Nat.le_of_ble_eq_true rfl) dX12_card_91 (by decide)) hP hD hS (by simp only [List.map_cons, List.map_nil, gad12]) (fun H locs hP hD hS => ?_)
    exact b_X12_card_94 C hF hP hD hS (lv_sub hl [0, 1] rfl)
set_option maxRecDepth 100000 in
set_option maxHeartbeats 4000000 in
theorem c_X12_card (l : Launch) (D : va_G) (q : Nat → ClassId) (o0 : Nat) (a0 : Nat → Nat) (S0 : St) (sz : Nat) (x1 : Int32) {r : Int32} {T0 : St} (hF : F_X12_card S0 x1 = some (r, T0)) : Met l yX12_card (Cond.code yX12_card cX12_card 3 (some .int) :: TB) rm_X12_card (PC D q [.ref o0, .int x1] (fl [g12 q o0 a0 S0]) sz) ((fun A => QI D A r (fl [g12 q o0 a0 T0])) (va_A (fl [g12 q o0 a0 S0]) sz)) 0 0 (va_A (fl [g12 q o0 a0 S0]) sz) := by
  refine k_met (w0 := fl [g12 q o0 a0 S0]) (Q := fun A => QI D A r (fl [g12 q o0 a0 T0])) (by decide +kernel) (Nat.le_of_ble_eq_true rfl) ?_
  intro p e s m args below meth c A ls C hP hD hS hl
  have hl : lv_has ls 3 [(0, .ref o0), (1, .int x1)] := hl
  unfold F_X12_card at hF
  have C : cx p s m args meth c cX12_card 3 (some .int) RX12 D q A := C
  obtain ⟨hx, hb, hr, hml, hown, hts, hlk, hA, hK, hN, hV⟩ := id C
  refine lv_aload_n hx hb dX12_card_0 rfl (lv_at hl 0 rfl) ?_
  refine lv_iconst (v := (0 : Int32)) hx hb dX12_card_1 (by decide) ?_
  obtain ⟨U1, e2, hF⟩ := nw_s hF
  refine k_put (W8 := fl [g12 q o0 a0 U1]) C fp_X12_1 hP hD hS 0 rfl rfl rfl (Nat.le_of_ble_eq_true rfl) dX12_card_2 (by rw [e2]; rfl) (fun H locs hP hD hS => ?_)
  refine lv_aload_n hx hb dX12_card_5 rfl (lv_at hl 0 rfl) ?_
  refine lv_iload_n hx hb dX12_card_6 rfl (lv_at hl 1 rfl) ?_
  obtain ⟨r4, hc3, hF⟩ := ob1_s hF
  refine k_isame C (k_rV (As := [.int x1]) (rest := []) C (c_X12_isPerson l D q o0 a0 U1 _ x1 hc3) kc_X12_isPerson ml_X12_318 rfl rfl (by decide) hP hD hS (va_recv hK hP (ci := 12) (q0 := 0) rfl rfl) rfl hl.1 rfl (Nat.le_of_ble_eq_true rfl) dX12_card_7 (by decide)) hP hD hS (fun H locs hP hD hS => ?_)
  refine lv_if_ne (tgt := 15) hx hb dX12_card_10 (by decide) (fun c5 => ?_) (fun c5 => ?_)
  · have hF := op_f hF c5
    refine lv_aload_n hx hb dX12_card_15 rfl (lv_at hl 0 rfl) ?_
    refine lv_iconst (v := (0 : Int32)) hx hb dX12_card_16 (by decide) ?_
    obtain ⟨U6, e7, hF⟩ := nw_s hF
    refine k_put (W8 := fl [g12 q o0 a0 U6]) C fp_X12_411 hP hD hS 0 rfl rfl rfl (Nat.le_of_ble_eq_true rfl) dX12_card_17 (by rw [e7]; rfl) (fun H locs hP hD hS => ?_)
    refine lv_aload_n hx hb dX12_card_20 rfl (lv_at hl 0 rfl) ?_
    refine lv_aload_n hx hb dX12_card_21 rfl (lv_at hl 0 rfl) ?_
    refine k_get (v := .ref (a0 10)) C fg_X12_43 hP 0 rfl rfl dX12_card_22 ?_
    refine lv_bipush (v := (7 : Int32)) hx hb dX12_card_25 (by decide) ?_
    refine lv_iload_n hx hb dX12_card_27 rfl (lv_at hl 1 rfl) ?_
    refine lv_iadd hx hb dX12_card_28 ?_
    obtain ⟨h8, hF⟩ := op_ck hF
    refine k_lld (f := U6.2.2.2 9) C hP 5 rfl h8 dX12_card_29 ?_
    obtain ⟨U10, hc9, hF⟩ := ob1_s hF
    refine k_vall C (k_rV (As := [.long (U6.2.2.2 9 ((7 : Int32) + x1).toNatClampNeg)]) (rest := []) C (c_X12_spells l D q o0 a0 U6 _ (U6.2.2.2 9 ((7 : Int32) + x1).toNatClampNeg) hc9) kc_X12_spells ml_X12_419 rfl rfl (by decide) hP hD hS (va_recv hK hP (ci := 12) (q0 := 0) rfl rfl) rfl hl.1 rfl (Nat.le_of_ble_eq_true rfl) dX12_card_30 (by decide)) hP hD hS (by simp only [List.map_cons, List.map_nil, gad12]) (fun H locs hP hD hS => ?_)
    refine lv_aload_n hx hb dX12_card_33 rfl (lv_at hl 0 rfl) ?_
    refine lv_iload_n hx hb dX12_card_34 rfl (lv_at hl 1 rfl) ?_
    obtain ⟨r12, hc11, hF⟩ := ob1_s hF
    refine k_isame C (k_rV (As := [.int x1]) (rest := []) C (c_X12_isUp l D q o0 a0 U10 _ x1 hc11) kc_X12_isUp ml_X12_337 rfl rfl (by decide) hP hD hS (va_recv hK hP (ci := 12) (q0 := 0) rfl rfl) rfl hl.1 rfl (Nat.le_of_ble_eq_true rfl) dX12_card_35 (by decide)) hP hD hS (fun H locs hP hD hS => ?_)
    refine lv_if_eq (tgt := 68) hx hb dX12_card_38 (by decide) (fun c13 => ?_) (fun c13 => ?_)
    · have hF := op_t hF c13
      exact b_X12_card_68 C hF hP hD hS (lv_sub hl [0, 1] rfl)
    · have hF := op_f hF c13
      refine lv_aload_n hx hb dX12_card_41 rfl (lv_at hl 0 rfl) ?_
      refine lv_ldc2 (v := (28526 : Int64)) hx hb hown (hts _ kL_X12_170) dX12_card_42 ?_
      obtain ⟨U15, hc14, hF⟩ := ob1_s hF
      refine k_vall C (k_rV (As := [.long (28526 : Int64)]) (rest := []) C (c_X12_says l D q o0 a0 U10 _ (28526 : Int64) hc14) kc_X12_says ml_X12_423 rfl rfl (by decide) hP hD hS (va_recv hK hP (ci := 12) (q0 := 0) rfl rfl) rfl hl.1 rfl (Nat.le_of_ble_eq_true rfl) dX12_card_45 (by decide)) hP hD hS (by simp only [List.map_cons, List.map_nil, gad12]) (fun H locs hP hD hS => ?_)
      refine lv_aload_n hx hb dX12_card_48 rfl (lv_at hl 0 rfl) ?_
      refine lv_aload_n hx hb dX12_card_49 rfl (lv_at hl 0 rfl) ?_
      refine k_get (v := .ref (a0 10)) C fg_X12_43 hP 0 rfl rfl dX12_card_50 ?_
      refine lv_aload_n hx hb dX12_card_53 rfl (lv_at hl 0 rfl) ?_
      refine k_get (v := .ref (a0 7)) C fg_X12_33 hP 0 rfl rfl dX12_card_54 ?_
      refine lv_bipush (v := (65 : Int32)) hx hb dX12_card_57 (by decide) ?_
      refine lv_iload_n hx hb dX12_card_59 rfl (lv_at hl 1 rfl) ?_
      refine lv_iadd hx hb dX12_card_60 ?_
      obtain ⟨h16, hF⟩ := op_ck hF
      refine k_ild (f := U15.2.2.1 6) C hP 2 rfl h16 dX12_card_61 ?_
      refine lv_iconst (v := (1 : Int32)) hx hb dX12_card_62 (by decide) ?_
      refine lv_isub hx hb dX12_card_63 ?_
      obtain ⟨h17, hF⟩ := op_ck hF
      refine k_lld (f := U15.2.2.2 9) C hP 5 rfl h17 dX12_card_64 ?_
      obtain ⟨U19, hc18, hF⟩ := ob1_s hF
      refine k_vall C (k_rV (As := [.long (U15.2.2.2 9 ((U15.2.2.1 6 ((65 : Int32) + x1).toNatClampNeg) - (1 : Int32)).toNatClampNeg)]) (rest := []) C (c_X12_says l D q o0 a0 U15 _ (U15.2.2.2 9 ((U15.2.2.1 6 ((65 : Int32) + x1).toNatClampNeg) - (1 : Int32)).toNatClampNeg) hc18) kc_X12_says ml_X12_423 rfl rfl (by decide) hP hD hS (va_recv hK hP (ci := 12) (q0 := 0) rfl rfl) rfl hl.1 rfl (Nat.le_of_ble_eq_true rfl) dX12_card_65 (by decide)) hP hD hS (by simp only [List.map_cons, List.map_nil, gad12]) (fun H locs hP hD hS => ?_)
      exact b_X12_card_68 C hF hP hD hS (lv_sub hl [0, 1] rfl)
  · have hF := op_t hF c5
    refine lv_iconst (v := (-1 : Int32)) hx hb dX12_card_13 (by decide) ?_
    cases hF
    exact k_iret C hP hS dX12_card_14

abbrev rm_X12_byteAt : Room := ({ frames := 1, cells := 0, slots := 0, locals := 22 } : Room)
def F_X12_byteAt (S0 : St) (x1 : Int32) : Option (Int32 × St) := nw (sI S0 0 (0 : Int32)) fun U1 => ob1 (F_X12_isIn x1 (0 : Int32) ((U1.1 36) - (1 : Int32))) fun r4 => if r4 = 0 then (some ((-1 : Int32), U1)) else (if oob x1 64 then none else some ((U1.2.2.1 35 x1.toNatClampNeg), U1))
set_option maxRecDepth 100000 in
set_option maxHeartbeats 4000000 in
theorem c_X12_byteAt (l : Launch) (D : va_G) (q : Nat → ClassId) (o0 : Nat) (a0 : Nat → Nat) (S0 : St) (sz : Nat) (x1 : Int32) {r : Int32} {T0 : St} (hF : F_X12_byteAt S0 x1 = some (r, T0)) : Met l yX12_byteAt (Cond.code yX12_byteAt cX12_byteAt 2 (some .int) :: TB) rm_X12_byteAt (PC D q [.ref o0, .int x1] (fl [g12 q o0 a0 S0]) sz) ((fun A => QI D A r (fl [g12 q o0 a0 T0])) (va_A (fl [g12 q o0 a0 S0]) sz)) 0 0 (va_A (fl [g12 q o0 a0 S0]) sz) := by
  refine k_met (w0 := fl [g12 q o0 a0 S0]) (Q := fun A => QI D A r (fl [g12 q o0 a0 T0])) (by decide +kernel) (Nat.le_of_ble_eq_true rfl) ?_
  intro p e s m args below meth c A ls C hP hD hS hl
  have hl : lv_has ls 2 [(0, .ref o0), (1, .int x1)] := hl
  unfold F_X12_byteAt at hF
  have C : cx p s m args meth c cX12_byteAt 2 (some .int) RX12 D q A := C
  obtain ⟨hx, hb, hr, hml, hown, hts, hlk, hA, hK, hN, hV⟩ := id C
  refine lv_aload_n hx hb dX12_byteAt_0 rfl (lv_at hl 0 rfl) ?_
  refine lv_iconst (v := (0 : Int32)) hx hb dX12_byteAt_1 (by decide) ?_
  obtain ⟨U1, e2, hF⟩ := nw_s hF
  refine k_put (W8 := fl [g12 q o0 a0 U1]) C fp_X12_1 hP hD hS 0 rfl rfl rfl (Nat.le_of_ble_eq_true rfl) dX12_byteAt_2 (by rw [e2]; rfl) (fun H locs hP hD hS => ?_)
  refine lv_iload_n hx hb dX12_byteAt_5 rfl (lv_at hl 1 rfl) ?_
  refine lv_iconst (v := (0 : Int32)) hx hb dX12_byteAt_6 (by decide) ?_
  refine lv_aload_n hx hb dX12_byteAt_7 rfl (lv_at hl 0 rfl) ?_
  refine k_get (v := .int (U1.1 36)) C fg_X12_411 hP 0 rfl rfl dX12_byteAt_8 ?_
  refine lv_iconst (v := (1 : Int32)) hx hb dX12_byteAt_11 (by decide) ?_
  refine lv_isub hx hb dX12_byteAt_12 ?_
  obtain ⟨r4, hc3, hF⟩ := ob1_s hF
  refine k_inil C (k_rS (As := [.int x1, .int (0 : Int32), .int ((U1.1 36) - (1 : Int32))]) (rest := []) C (c_X12_isIn l D q _ x1 (0 : Int32) ((U1.1 36) - (1 : Int32)) hc3) kc_X12_isIn ml_X12_225 rfl rfl (by decide) (fun k x h => by simp at h) (⟨fun i j x y h => by simp at h, fun k x h => by simp at h⟩ : va_D A []) hS rfl hl.1 rfl (Nat.le_of_ble_eq_true rfl) dX12_byteAt_13 (by decide)) hP hD hS (fun H locs hP hD hS => ?_)
  refine lv_if_eq (tgt := 28) hx hb dX12_byteAt_16 (by decide) (fun c5 => ?_) (fun c5 => ?_)
  · have hF := op_t hF c5
    refine lv_iconst (v := (-1 : Int32)) hx hb dX12_byteAt_28 (by decide) ?_
    cases hF
    exact k_iret C hP hS dX12_byteAt_29
  · have hF := op_f hF c5
    refine lv_aload_n hx hb dX12_byteAt_19 rfl (lv_at hl 0 rfl) ?_
    refine k_get (v := .ref (a0 36)) C fg_X12_86 hP 0 rfl rfl dX12_byteAt_20 ?_
    refine lv_iload_n hx hb dX12_byteAt_23 rfl (lv_at hl 1 rfl) ?_
    obtain ⟨h6, hF⟩ := op_ck hF
    refine k_bld (f := U1.2.2.1 35) C hP 15 rfl h6 dX12_byteAt_24 ?_
    refine lv_goto (tgt := 29) hx hb dX12_byteAt_25 (by decide) ?_
    cases hF
    exact k_iret C hP hS dX12_byteAt_29

abbrev rm_X12_draw : Room := ({ frames := 0, cells := 0, slots := 0, locals := 0 } : Room)
def F_X12_draw (S0 : St) (x1 : Int32) : Option (Int32 × St) := nw (sI S0 37 (((S0.1 37) * (1103515245 : Int32)) + (12345 : Int32))) fun U1 => if x1 = 0 then none else some ((((U1.1 37).toUInt32 >>> ((8 : Int32).toUInt32 &&& Int32.toUInt32 31)).toInt32 - ((U1.1 37).toUInt32 >>> ((8 : Int32).toUInt32 &&& Int32.toUInt32 31)).toInt32 / x1 * x1), U1)
set_option maxRecDepth 100000 in
set_option maxHeartbeats 4000000 in
theorem c_X12_draw (l : Launch) (D : va_G) (q : Nat → ClassId) (o0 : Nat) (a0 : Nat → Nat) (S0 : St) (sz : Nat) (x1 : Int32) {r : Int32} {T0 : St} (hF : F_X12_draw S0 x1 = some (r, T0)) : Met l yX12_draw (Cond.code yX12_draw cX12_draw 2 (some .int) :: TB) rm_X12_draw (PC D q [.ref o0, .int x1] (fl [g12 q o0 a0 S0]) sz) ((fun A => QI D A r (fl [g12 q o0 a0 T0])) (va_A (fl [g12 q o0 a0 S0]) sz)) 0 0 (va_A (fl [g12 q o0 a0 S0]) sz) := by
  refine k_met (w0 := fl [g12 q o0 a0 S0]) (Q := fun A => QI D A r (fl [g12 q o0 a0 T0])) (by decide +kernel) (Nat.le_of_ble_eq_true rfl) ?_
  intro p e s m args below meth c A ls C hP hD hS hl
  have hl : lv_has ls 2 [(0, .ref o0), (1, .int x1)] := hl
  unfold F_X12_draw at hF
  have C : cx p s m args meth c cX12_draw 2 (some .int) RX12 D q A := C
  obtain ⟨hx, hb, hr, hml, hown, hts, hlk, hA, hK, hN, hV⟩ := id C
  refine lv_aload_n hx hb dX12_draw_0 rfl (lv_at hl 0 rfl) ?_
  refine lv_aload_n hx hb dX12_draw_1 rfl (lv_at hl 0 rfl) ?_
  refine k_get (v := .int (S0.1 37)) C fg_X12_428 hP 0 rfl rfl dX12_draw_2 ?_
  refine lv_ldcw (v := (1103515245 : Int32)) hx hb hown (hts _ kn_X12_431) dX12_draw_5 ?_
  refine lv_imul hx hb dX12_draw_8 ?_
  refine lv_sipush (v := (12345 : Int32)) hx hb dX12_draw_9 (by decide) ?_
  refine lv_iadd hx hb dX12_draw_12 ?_
  obtain ⟨U1, e2, hF⟩ := nw_s hF
  refine k_put (W8 := fl [g12 q o0 a0 U1]) C fp_X12_428 hP hD hS 0 rfl rfl rfl (Nat.le_of_ble_eq_true rfl) dX12_draw_13 (by rw [e2]; rfl) (fun H locs hP hD hS => ?_)
  refine lv_aload_n hx hb dX12_draw_16 rfl (lv_at hl 0 rfl) ?_
  refine k_get (v := .int (U1.1 37)) C fg_X12_428 hP 0 rfl rfl dX12_draw_17 ?_
  refine lv_bipush (v := (8 : Int32)) hx hb dX12_draw_20 (by decide) ?_
  refine lv_iushr (v := ((U1.1 37).toUInt32 >>> ((8 : Int32).toUInt32 &&& Int32.toUInt32 31)).toInt32) hx hb dX12_draw_22 rfl ?_
  refine lv_iload_n hx hb dX12_draw_23 rfl (lv_at hl 1 rfl) ?_
  obtain ⟨h3, hF⟩ := op_ck hF
  refine lv_irem hx hb dX12_draw_24 h3 ?_
  cases hF
  exact k_iret C hP hS dX12_draw_25

abbrev rm_X12_drawPerson : Room := ({ frames := 3, cells := 0, slots := 0, locals := 69 } : Room)
def F_X12_drawPerson_61 (x1 : Int32) (x2 : Int32) (S0 : St) : Option (St) := if (3 : Int32) ≤ x2 then (if oob (1 : Int32) 258 then none else ob2 (F_X12_draw S0 (S0.2.2.1 6 (1 : Int32).toNatClampNeg)) fun r4 U5 => ob2 (F_X12_draw U5 (8 : Int32)) fun r7 U8 => ob1 (F_X12_whyTell U8 x1 r4 r7) fun r10 => if r10 = 0 then (if oob ((59 : Int32) + r4) 258 then none else ob1 (F_X12_having (U8.2.2.1 6 ((59 : Int32) + r4).toNatClampNeg) r7) fun r14 => if oob ((59 : Int32) + r4) 258 then none else nw (sA U8 6 ((59 : Int32) + r4) r14) fun U16 => some (U16)) else (some (U8))) else (some (S0))
def F_X12_drawPerson_46 (x1 : Int32) (x2 : Int32) (S0 : St) : Option (St) := if x2 = (2 : Int32) then (if oob ((65 : Int32) + x1) 258 then none else nw (sA S0 6 ((65 : Int32) + x1) (0 : Int32)) fun U3 => F_X12_drawPerson_61 x1 x2 U3) else (F_X12_drawPerson_61 x1 x2 S0)
def F_X12_drawPerson (S0 : St) (x1 : Int32) : Option (St) := ob2 (F_X12_draw S0 (4 : Int32)) fun r2 U3 => if (2 : Int32) ≤ r2 then (F_X12_drawPerson_46 x1 r2 U3) else (if oob (0 : Int32) 258 then none else if (U3.2.2.1 6 (0 : Int32).toNatClampNeg) ≤ 0 then (F_X12_drawPerson_46 x1 r2 U3) else (if oob (0 : Int32) 258 then none else ob2 (F_X12_draw U3 (U3.2.2.1 6 (0 : Int32).toNatClampNeg)) fun r9 U10 => ob1 (F_X12_whyClimb U10 x1 r9) fun r12 => if r12 = 0 then (ob1 (F_X12_climbs U10 x1 r9) fun U15 => F_X12_drawPerson_46 x1 r2 U15) else (F_X12_drawPerson_46 x1 r2 U10)))
set_option maxRecDepth 100000 in
set_option maxHeartbeats 4000000 in
theorem b_X12_drawPerson_61 {p : Program} {l : Launch} {e : Env} {s : State} {m : MethodId} {args : Array Value} {below : List Frame} {meth : Method} {c : Code} {D : va_G} {q : Nat → ClassId} {A : Nat → Prop} {o0 : Nat} {a0 : Nat → Nat} {T0 : St} (C : cx p s m args meth c cX12_drawPerson 5 none RX12 D q A) {x1 : Int32} {x2 : Int32} {S0 : St} (hF : F_X12_drawPerson_61 x1 x2 S0 = some (T0)) {H : Heap} {locs : List Loc} (hP : va_P D vwCl (fl [g12 q o0 a0 S0]) H) (hD : va_D A (fl [g12 q o0 a0 S0])) (hS : va_S A s.heap H locs) {ls : Array Slot} (hl : lv_has ls 5 [(0, .ref o0), (1, .int x1), (2, .int x2)]) : W p l e rm_X12_drawPerson s m args below meth c H locs 0 0 (MQ below (QV D A (fl [g12 q o0 a0 T0])) args s 0 0 A) (F0 m 61 ls []) := by
  unfold F_X12_drawPerson_61 at hF
  obtain ⟨hx, hb, hr, hml, hown, hts, hlk, hA, hK, hN, hV⟩ := id C
  refine lv_iload_n hx hb dX12_drawPerson_61 rfl (lv_at hl 2 rfl) ?_
  refine lv_iconst (v := (3 : Int32)) hx hb dX12_drawPerson_62 (by decide) ?_
  refine lv_icmp_ge (tgt := 67) hx hb dX12_drawPerson_63 (by decide) (fun c1 => ?_) (fun c1 => ?_)
  · have hF := op_t hF c1
    refine lv_aload_n hx hb dX12_drawPerson_67 rfl (lv_at hl 0 rfl) ?_
    refine lv_aload_n hx hb dX12_drawPerson_68 rfl (lv_at hl 0 rfl) ?_
    refine k_get (v := .ref (a0 7)) C fg_X12_33 hP 0 rfl rfl dX12_drawPerson_69 ?_
    refine lv_iconst (v := (1 : Int32)) hx hb dX12_drawPerson_72 (by decide) ?_
    obtain ⟨h2, hF⟩ := op_ck hF
    refine k_ild (f := S0.2.2.1 6) C hP 2 rfl h2 dX12_drawPerson_73 ?_
    obtain ⟨r4, U5, hc3, hF⟩ := ob2_s hF
    refine k_iall C (k_rV (As := [.int (S0.2.2.1 6 (1 : Int32).toNatClampNeg)]) (rest := []) C (c_X12_draw l D q o0 a0 S0 _ (S0.2.2.1 6 (1 : Int32).toNatClampNeg) hc3) kc_X12_draw ml_X12_432 rfl rfl (by decide) hP hD hS (va_recv hK hP (ci := 12) (q0 := 0) rfl rfl) rfl hl.1 rfl (Nat.le_of_ble_eq_true rfl) dX12_drawPerson_74 (by decide)) hP hD hS (by simp only [List.map_cons, List.map_nil, gad12]) (fun H locs hP hD hS => ?_)
    refine lv_istore_n (lv' := [(3, .int r4), (0, .ref o0), (1, .int x1), (2, .int x2)]) hx hb dX12_drawPerson_77 rfl hl (by decide) rfl (fun ls hl => ?_)
    refine lv_aload_n hx hb dX12_drawPerson_78 rfl (lv_at hl 1 rfl) ?_
    refine lv_bipush (v := (8 : Int32)) hx hb dX12_drawPerson_79 (by decide) ?_
    obtain ⟨r7, U8, hc6, hF⟩ := ob2_s hF
    refine k_iall C (k_rV (As := [.int (8 : Int32)]) (rest := []) C (c_X12_draw l D q o0 a0 U5 _ (8 : Int32) hc6) kc_X12_draw ml_X12_432 rfl rfl (by decide) hP hD hS (va_recv hK hP (ci := 12) (q0 := 0) rfl rfl) rfl hl.1 rfl (Nat.le_of_ble_eq_true rfl) dX12_drawPerson_81 (by decide)) hP hD hS (by simp only [List.map_cons, List.map_nil, gad12]) (fun H locs hP hD hS => ?_)
    refine lv_istore (lv' := [(4, .int r7), (3, .int r4), (0, .ref o0), (1, .int x1), (2, .int x2)]) hx hb dX12_drawPerson_84 hl (by decide) rfl (fun ls hl => ?_)
    refine lv_aload_n hx hb dX12_drawPerson_86 rfl (lv_at hl 2 rfl) ?_
    refine lv_iload_n hx hb dX12_drawPerson_87 rfl (lv_at hl 3 rfl) ?_
    refine lv_iload_n hx hb dX12_drawPerson_88 rfl (lv_at hl 1 rfl) ?_
    refine lv_iload hx hb dX12_drawPerson_89 (lv_at hl 0 rfl) ?_
    obtain ⟨r10, hc9, hF⟩ := ob1_s hF
    refine k_isame C (k_rV (As := [.int x1, .int r4, .int r7]) (rest := []) C (c_X12_whyTell l D q o0 a0 U8 _ x1 r4 r7 hc9) kc_X12_whyTell ml_X12_365 rfl rfl (by decide) hP hD hS (va_recv hK hP (ci := 12) (q0 := 0) rfl rfl) rfl hl.1 rfl (Nat.le_of_ble_eq_true rfl) dX12_drawPerson_91 (by decide)) hP hD hS (fun H locs hP hD hS => ?_)
    refine lv_if_ne (tgt := 120) hx hb dX12_drawPerson_94 (by decide) (fun c11 => ?_) (fun c11 => ?_)
    · have hF := op_f hF c11
      cases hF
      exact k_vret C hP hS dX12_drawPerson_120
    · have hF := op_t hF c11
      refine lv_aload_n hx hb dX12_drawPerson_97 rfl (lv_at hl 2 rfl) ?_
      refine k_get (v := .ref (a0 7)) C fg_X12_33 hP 0 rfl rfl dX12_drawPerson_98 ?_
      refine lv_bipush (v := (59 : Int32)) hx hb dX12_drawPerson_101 (by decide) ?_
      refine lv_iload_n hx hb dX12_drawPerson_103 rfl (lv_at hl 1 rfl) ?_
      refine lv_iadd hx hb dX12_drawPerson_104 ?_
      refine lv_aload_n hx hb dX12_drawPerson_105 rfl (lv_at hl 2 rfl) ?_
      refine k_get (v := .ref (a0 7)) C fg_X12_33 hP 0 rfl rfl dX12_drawPerson_106 ?_
      refine lv_bipush (v := (59 : Int32)) hx hb dX12_drawPerson_109 (by decide) ?_
      refine lv_iload_n hx hb dX12_drawPerson_111 rfl (lv_at hl 1 rfl) ?_
      refine lv_iadd hx hb dX12_drawPerson_112 ?_
      obtain ⟨h12, hF⟩ := op_ck hF
      refine k_ild (f := U8.2.2.1 6) C hP 2 rfl h12 dX12_drawPerson_113 ?_
      refine lv_iload hx hb dX12_drawPerson_114 (lv_at hl 0 rfl) ?_
      obtain ⟨r14, hc13, hF⟩ := ob1_s hF
      refine k_inil C (k_rS (As := [.int (U8.2.2.1 6 ((59 : Int32) + r4).toNatClampNeg), .int r7]) (rest := [.int ((59 : Int32) + r4), .ref (a0 7)]) C (c_X12_having l D q _ (U8.2.2.1 6 ((59 : Int32) + r4).toNatClampNeg) r7 hc13) kc_X12_having ml_X12_300 rfl rfl (by decide) (fun k x h => by simp at h) (⟨fun i j x y h => by simp at h, fun k x h => by simp at h⟩ : va_D A []) hS rfl hl.1 rfl (Nat.le_of_ble_eq_true rfl) dX12_drawPerson_116 (by decide)) hP hD hS (fun H locs hP hD hS => ?_)
      obtain ⟨h15, hF⟩ := op_ck hF
      obtain ⟨U16, e17, hF⟩ := nw_s hF
      refine k_ist (f := U8.2.2.1 6) (W8 := fl [g12 q o0 a0 U16]) C hP hD hS 2 rfl h15 dX12_drawPerson_119 (by rw [e17]; rfl) (fun H locs hP hD hS => ?_)
      cases hF
      exact k_vret C hP hS dX12_drawPerson_120
  · have hF := op_f hF c1
    cases hF
    exact k_vret C hP hS dX12_drawPerson_66
set_option maxRecDepth 100000 in
set_option maxHeartbeats 4000000 in
theorem b_X12_drawPerson_46 {p : Program} {l : Launch} {e : Env} {s : State} {m : MethodId} {args : Array Value} {below : List Frame} {meth : Method} {c : Code} {D : va_G} {q : Nat → ClassId} {A : Nat → Prop} {o0 : Nat} {a0 : Nat → Nat} {T0 : St} (C : cx p s m args meth c cX12_drawPerson 5 none RX12 D q A) {x1 : Int32} {x2 : Int32} {S0 : St} (hF : F_X12_drawPerson_46 x1 x2 S0 = some (T0)) {H : Heap} {locs : List Loc} (hP : va_P D vwCl (fl [g12 q o0 a0 S0]) H) (hD : va_D A (fl [g12 q o0 a0 S0])) (hS : va_S A s.heap H locs) {ls : Array Slot} (hl : lv_has ls 5 [(0, .ref o0), (1, .int x1), (2, .int x2)]) : W p l e rm_X12_drawPerson s m args below meth c H locs 0 0 (MQ below (QV D A (fl [g12 q o0 a0 T0])) args s 0 0 A) (F0 m 46 ls []) := by
  unfold F_X12_drawPerson_46 at hF
  obtain ⟨hx, hb, hr, hml, hown, hts, hlk, hA, hK, hN, hV⟩ := id C
  refine lv_iload_n hx hb dX12_drawPerson_46 rfl (lv_at hl 2 rfl) ?_
  refine lv_iconst (v := (2 : Int32)) hx hb dX12_drawPerson_47 (by decide) ?_
  refine lv_icmp_ne (tgt := 61) hx hb dX12_drawPerson_48 (by decide) (fun c1 => ?_) (fun c1 => ?_)
  · have hF := op_f hF c1
    exact b_X12_drawPerson_61 C hF hP hD hS (lv_sub hl [0, 1, 2] rfl)
  · have hF := op_t hF c1
    refine lv_aload_n hx hb dX12_drawPerson_51 rfl (lv_at hl 0 rfl) ?_
    refine k_get (v := .ref (a0 7)) C fg_X12_33 hP 0 rfl rfl dX12_drawPerson_52 ?_
    refine lv_bipush (v := (65 : Int32)) hx hb dX12_drawPerson_55 (by decide) ?_
    refine lv_iload_n hx hb dX12_drawPerson_57 rfl (lv_at hl 1 rfl) ?_
    refine lv_iadd hx hb dX12_drawPerson_58 ?_
    refine lv_iconst (v := (0 : Int32)) hx hb dX12_drawPerson_59 (by decide) ?_
    obtain ⟨h2, hF⟩ := op_ck hF
    obtain ⟨U3, e4, hF⟩ := nw_s hF
    refine k_ist (f := S0.2.2.1 6) (W8 := fl [g12 q o0 a0 U3]) C hP hD hS 2 rfl h2 dX12_drawPerson_60 (by rw [e4]; rfl) (fun H locs hP hD hS => ?_)
    exact b_X12_drawPerson_61 C hF hP hD hS (lv_sub hl [0, 1, 2] rfl)
set_option maxRecDepth 100000 in
set_option maxHeartbeats 4000000 in
theorem c_X12_drawPerson (l : Launch) (D : va_G) (q : Nat → ClassId) (o0 : Nat) (a0 : Nat → Nat) (S0 : St) (sz : Nat) (x1 : Int32) {T0 : St} (hF : F_X12_drawPerson S0 x1 = some (T0)) : Met l yX12_drawPerson (Cond.code yX12_drawPerson cX12_drawPerson 5 none :: TB) rm_X12_drawPerson (PC D q [.ref o0, .int x1] (fl [g12 q o0 a0 S0]) sz) ((fun A => QV D A (fl [g12 q o0 a0 T0])) (va_A (fl [g12 q o0 a0 S0]) sz)) 0 0 (va_A (fl [g12 q o0 a0 S0]) sz) := by
  refine k_met (w0 := fl [g12 q o0 a0 S0]) (Q := fun A => QV D A (fl [g12 q o0 a0 T0])) (by decide +kernel) (Nat.le_of_ble_eq_true rfl) ?_
  intro p e s m args below meth c A ls C hP hD hS hl
  have hl : lv_has ls 5 [(0, .ref o0), (1, .int x1)] := hl
  unfold F_X12_drawPerson at hF
  have C : cx p s m args meth c cX12_drawPerson 5 none RX12 D q A := C
  obtain ⟨hx, hb, hr, hml, hown, hts, hlk, hA, hK, hN, hV⟩ := id C
  refine lv_aload_n hx hb dX12_drawPerson_0 rfl (lv_at hl 0 rfl) ?_
  refine lv_iconst (v := (4 : Int32)) hx hb dX12_drawPerson_1 (by decide) ?_
  obtain ⟨r2, U3, hc1, hF⟩ := ob2_s hF
  refine k_iall C (k_rV (As := [.int (4 : Int32)]) (rest := []) C (c_X12_draw l D q o0 a0 S0 _ (4 : Int32) hc1) kc_X12_draw ml_X12_432 rfl rfl (by decide) hP hD hS (va_recv hK hP (ci := 12) (q0 := 0) rfl rfl) rfl hl.1 rfl (Nat.le_of_ble_eq_true rfl) dX12_drawPerson_2 (by decide)) hP hD hS (by simp only [List.map_cons, List.map_nil, gad12]) (fun H locs hP hD hS => ?_)
  refine lv_istore_n (lv' := [(2, .int r2), (0, .ref o0), (1, .int x1)]) hx hb dX12_drawPerson_5 rfl hl (by decide) rfl (fun ls hl => ?_)
  refine lv_iload_n hx hb dX12_drawPerson_6 rfl (lv_at hl 0 rfl) ?_
  refine lv_iconst (v := (2 : Int32)) hx hb dX12_drawPerson_7 (by decide) ?_
  refine lv_icmp_ge (tgt := 46) hx hb dX12_drawPerson_8 (by decide) (fun c4 => ?_) (fun c4 => ?_)
  · have hF := op_t hF c4
    exact b_X12_drawPerson_46 C hF hP hD hS (lv_sub hl [1, 2, 0] rfl)
  · have hF := op_f hF c4
    refine lv_aload_n hx hb dX12_drawPerson_11 rfl (lv_at hl 1 rfl) ?_
    refine k_get (v := .ref (a0 7)) C fg_X12_33 hP 0 rfl rfl dX12_drawPerson_12 ?_
    refine lv_iconst (v := (0 : Int32)) hx hb dX12_drawPerson_15 (by decide) ?_
    obtain ⟨h5, hF⟩ := op_ck hF
    refine k_ild (f := U3.2.2.1 6) C hP 2 rfl h5 dX12_drawPerson_16 ?_
    refine lv_if_le (tgt := 46) hx hb dX12_drawPerson_17 (by decide) (fun c6 => ?_) (fun c6 => ?_)
    · have hF := op_t hF c6
      exact b_X12_drawPerson_46 C hF hP hD hS (lv_sub hl [1, 2, 0] rfl)
    · have hF := op_f hF c6
      refine lv_aload_n hx hb dX12_drawPerson_20 rfl (lv_at hl 1 rfl) ?_
      refine lv_aload_n hx hb dX12_drawPerson_21 rfl (lv_at hl 1 rfl) ?_
      refine k_get (v := .ref (a0 7)) C fg_X12_33 hP 0 rfl rfl dX12_drawPerson_22 ?_
      refine lv_iconst (v := (0 : Int32)) hx hb dX12_drawPerson_25 (by decide) ?_
      obtain ⟨h7, hF⟩ := op_ck hF
      refine k_ild (f := U3.2.2.1 6) C hP 2 rfl h7 dX12_drawPerson_26 ?_
      obtain ⟨r9, U10, hc8, hF⟩ := ob2_s hF
      refine k_iall C (k_rV (As := [.int (U3.2.2.1 6 (0 : Int32).toNatClampNeg)]) (rest := []) C (c_X12_draw l D q o0 a0 U3 _ (U3.2.2.1 6 (0 : Int32).toNatClampNeg) hc8) kc_X12_draw ml_X12_432 rfl rfl (by decide) hP hD hS (va_recv hK hP (ci := 12) (q0 := 0) rfl rfl) rfl hl.1 rfl (Nat.le_of_ble_eq_true rfl) dX12_drawPerson_27 (by decide)) hP hD hS (by simp only [List.map_cons, List.map_nil, gad12]) (fun H locs hP hD hS => ?_)
      refine lv_istore_n (lv' := [(3, .int r9), (2, .int r2), (0, .ref o0), (1, .int x1)]) hx hb dX12_drawPerson_30 rfl hl (by decide) rfl (fun ls hl => ?_)
      refine lv_aload_n hx hb dX12_drawPerson_31 rfl (lv_at hl 2 rfl) ?_
      refine lv_iload_n hx hb dX12_drawPerson_32 rfl (lv_at hl 3 rfl) ?_
      refine lv_iload_n hx hb dX12_drawPerson_33 rfl (lv_at hl 0 rfl) ?_
      obtain ⟨r12, hc11, hF⟩ := ob1_s hF
      refine k_isame C (k_rV (As := [.int x1, .int r9]) (rest := []) C (c_X12_whyClimb l D q o0 a0 U10 _ x1 r9 hc11) kc_X12_whyClimb ml_X12_352 rfl rfl (by decide) hP hD hS (va_recv hK hP (ci := 12) (q0 := 0) rfl rfl) rfl hl.1 rfl (Nat.le_of_ble_eq_true rfl) dX12_drawPerson_34 (by decide)) hP hD hS (fun H locs hP hD hS => ?_)
      refine lv_if_ne (tgt := 46) hx hb dX12_drawPerson_37 (by decide) (fun c13 => ?_) (fun c13 => ?_)
      · have hF := op_f hF c13
        exact b_X12_drawPerson_46 C hF hP hD hS (lv_sub hl [2, 3, 1] rfl)
      · have hF := op_t hF c13
        refine lv_aload_n hx hb dX12_drawPerson_40 rfl (lv_at hl 2 rfl) ?_
        refine lv_iload_n hx hb dX12_drawPerson_41 rfl (lv_at hl 3 rfl) ?_
        refine lv_iload_n hx hb dX12_drawPerson_42 rfl (lv_at hl 0 rfl) ?_
        obtain ⟨U15, hc14, hF⟩ := ob1_s hF
        refine k_vall C (k_rV (As := [.int x1, .int r9]) (rest := []) C (c_X12_climbs l D q o0 a0 U10 _ x1 r9 hc14) kc_X12_climbs ml_X12_358 rfl rfl (by decide) hP hD hS (va_recv hK hP (ci := 12) (q0 := 0) rfl rfl) rfl hl.1 rfl (Nat.le_of_ble_eq_true rfl) dX12_drawPerson_43 (by decide)) hP hD hS (by simp only [List.map_cons, List.map_nil, gad12]) (fun H locs hP hD hS => ?_)
        exact b_X12_drawPerson_46 C hF hP hD hS (lv_sub hl [2, 3, 1] rfl)

abbrev rm_X12_draws : Room := ({ frames := 4, cells := 0, slots := 0, locals := 93 } : Room)
def F_X12_draws_49 (k7 : Int32 × Int32 × St → Option (Int32 × St)) (k49 : Int32 × Int32 × Int32 × St → Option (Int32 × St)) (x1 : Int32) (x3 : Int32) (x4 : Int32) (S0 : St) : Option (Int32 × St) := if oob (1 : Int32) 258 then none else if (S0.2.2.1 6 (1 : Int32).toNatClampNeg) ≤ x4 then (ob1 (F_X12_day S0) fun U4 => k7 (x1, (x3 + 1), U4)) else (ob1 (F_X12_drawPerson S0 x4) fun U6 => k49 (x1, x3, (x4 + 1), U6))
def L_X12_draws_49 (k7 : Int32 × Int32 × St → Option (Int32 × St)) (x1 : Int32) (x3 : Int32) (x4 : Int32) (S0 : St) : Option (Int32 × St) := lp (fun kz z => F_X12_draws_49 k7 kz z.1 z.2.1 z.2.2.1 z.2.2.2) FU (x1, x3, x4, S0)
def F_X12_draws_46 (k7 : Int32 × Int32 × St → Option (Int32 × St)) (x1 : Int32) (x3 : Int32) (S0 : St) : Option (Int32 × St) := L_X12_draws_49 k7 x1 x3 (0 : Int32) S0
def F_X12_draws_7 (k7 : Int32 × Int32 × St → Option (Int32 × St)) (x1 : Int32) (x3 : Int32) (S0 : St) : Option (Int32 × St) := if x1 ≤ x3 then (some (x3, S0)) else (if oob (42 : Int32) 258 then none else if (400 : Int32) ≤ (S0.2.2.1 6 (42 : Int32).toNatClampNeg) then (some (x3, S0)) else (ob2 (F_X12_draw S0 (12 : Int32)) fun r5 U6 => if r5 = 0 then (ob2 (F_X12_draw U6 (60 : Int32)) fun r9 U10 => ob1 (F_X12_storms U10 (r9 + (1 : Int32))) fun U12 => F_X12_draws_46 k7 x1 x3 U12) else (F_X12_draws_46 k7 x1 x3 U6)))
def L_X12_draws_7 (x1 : Int32) (x3 : Int32) (S0 : St) : Option (Int32 × St) := lp (fun kz z => F_X12_draws_7 kz z.1 z.2.1 z.2.2) FU (x1, x3, S0)
def F_X12_draws (S0 : St) (x1 : Int32) (x2 : Int32) : Option (Int32 × St) := nw (sI S0 37 x2) fun U1 => L_X12_draws_7 x1 (0 : Int32) U1
set_option maxRecDepth 100000 in
set_option maxHeartbeats 4000000 in
theorem b_X12_draws_49 {p : Program} {l : Launch} {e : Env} {s : State} {m : MethodId} {args : Array Value} {below : List Frame} {meth : Method} {c : Code} {D : va_G} {q : Nat → ClassId} {A : Nat → Prop} {o0 : Nat} {a0 : Nat → Nat} {r : Int32} {T0 : St} (C : cx p s m args meth c cX12_draws 5 (some .int) RX12 D q A) {k7 : Int32 × Int32 × St → Option (Int32 × St)} (hk7 : ∀ (x1 : Int32) (x3 : Int32) (S0 : St), k7 (x1, x3, S0) = some (r, T0) → ∀ (H : Heap) (locs : List Loc) (ls : Array Slot), va_P D vwCl (fl [g12 q o0 a0 S0]) H → va_D A (fl [g12 q o0 a0 S0]) → va_S A s.heap H locs → lv_has ls 5 [(0, .ref o0), (1, .int x1), (3, .int x3)] → W p l e rm_X12_draws s m args below meth c H locs 0 0 (MQ below (QI D A r (fl [g12 q o0 a0 T0])) args s 0 0 A) (F0 m 7 ls [])) {k49 : Int32 × Int32 × Int32 × St → Option (Int32 × St)} (hk49 : ∀ (x1 : Int32) (x3 : Int32) (x4 : Int32) (S0 : St), k49 (x1, x3, x4, S0) = some (r, T0) → ∀ (H : Heap) (locs : List Loc) (ls : Array Slot), va_P D vwCl (fl [g12 q o0 a0 S0]) H → va_D A (fl [g12 q o0 a0 S0]) → va_S A s.heap H locs → lv_has ls 5 [(0, .ref o0), (1, .int x1), (3, .int x3), (4, .int x4)] → W p l e rm_X12_draws s m args below meth c H locs 0 0 (MQ below (QI D A r (fl [g12 q o0 a0 T0])) args s 0 0 A) (F0 m 49 ls [])) {x1 : Int32} {x3 : Int32} {x4 : Int32} {S0 : St} (hF : F_X12_draws_49 k7 k49 x1 x3 x4 S0 = some (r, T0)) {H : Heap} {locs : List Loc} (hP : va_P D vwCl (fl [g12 q o0 a0 S0]) H) (hD : va_D A (fl [g12 q o0 a0 S0])) (hS : va_S A s.heap H locs) {ls : Array Slot} (hl : lv_has ls 5 [(0, .ref o0), (1, .int x1), (3, .int x3), (4, .int x4)]) : W p l e rm_X12_draws s m args below meth c H locs 0 0 (MQ below (QI D A r (fl [g12 q o0 a0 T0])) args s 0 0 A) (F0 m 49 ls []) := by
  unfold F_X12_draws_49 at hF
  obtain ⟨hx, hb, hr, hml, hown, hts, hlk, hA, hK, hN, hV⟩ := id C
  refine lv_iload hx hb dX12_draws_49 (lv_at hl 3 rfl) ?_
  refine lv_aload_n hx hb dX12_draws_51 rfl (lv_at hl 0 rfl) ?_
  refine k_get (v := .ref (a0 7)) C fg_X12_33 hP 0 rfl rfl dX12_draws_52 ?_
  refine lv_iconst (v := (1 : Int32)) hx hb dX12_draws_55 (by decide) ?_
  obtain ⟨h1, hF⟩ := op_ck hF
  refine k_ild (f := S0.2.2.1 6) C hP 2 rfl h1 dX12_draws_56 ?_
  refine lv_icmp_ge (tgt := 72) hx hb dX12_draws_57 (by decide) (fun c2 => ?_) (fun c2 => ?_)
  · have hF := op_t hF c2
    refine lv_aload_n hx hb dX12_draws_72 rfl (lv_at hl 0 rfl) ?_
    obtain ⟨U4, hc3, hF⟩ := ob1_s hF
    refine k_vall C (k_rV (As := []) (rest := []) C (c_X12_day l D q o0 a0 S0 _ hc3) kc_X12_day ml_X12_349 rfl rfl (by decide) hP hD hS (va_recv hK hP (ci := 12) (q0 := 0) rfl rfl) rfl hl.1 rfl (Nat.le_of_ble_eq_true rfl) dX12_draws_73 (by decide)) hP hD hS (by simp only [List.map_cons, List.map_nil, gad12]) (fun H locs hP hD hS => ?_)
    refine lv_iinc (v := (x3 + 1)) (lv' := [(3, .int (x3 + 1)), (0, .ref o0), (1, .int x1), (4, .int x4)]) hx hb dX12_draws_76 hl (k := 2) rfl rfl (by decide) rfl (fun ls hl => ?_)
    refine lv_goto (tgt := 7) hx hb dX12_draws_79 (by decide) ?_
    exact hk7 x1 (x3 + 1) U4 hF _ _ _ hP hD hS (lv_sub hl [1, 2, 0] rfl)
  · have hF := op_f hF c2
    refine lv_aload_n hx hb dX12_draws_60 rfl (lv_at hl 0 rfl) ?_
    refine lv_iload hx hb dX12_draws_61 (lv_at hl 3 rfl) ?_
    obtain ⟨U6, hc5, hF⟩ := ob1_s hF
    refine k_vall C (k_rV (As := [.int x4]) (rest := []) C (c_X12_drawPerson l D q o0 a0 S0 _ x4 hc5) kc_X12_drawPerson ml_X12_435 rfl rfl (by decide) hP hD hS (va_recv hK hP (ci := 12) (q0 := 0) rfl rfl) rfl hl.1 rfl (Nat.le_of_ble_eq_true rfl) dX12_draws_63 (by decide)) hP hD hS (by simp only [List.map_cons, List.map_nil, gad12]) (fun H locs hP hD hS => ?_)
    refine lv_iinc (v := (x4 + 1)) (lv' := [(4, .int (x4 + 1)), (0, .ref o0), (1, .int x1), (3, .int x3)]) hx hb dX12_draws_66 hl (k := 3) rfl rfl (by decide) rfl (fun ls hl => ?_)
    refine lv_goto (tgt := 49) hx hb dX12_draws_69 (by decide) ?_
    exact hk49 x1 x3 (x4 + 1) U6 hF _ _ _ hP hD hS (lv_sub hl [1, 2, 3, 0] rfl)
set_option maxRecDepth 100000 in
set_option maxHeartbeats 4000000 in
theorem l_X12_draws_49 {p : Program} {l : Launch} {e : Env} {s : State} {m : MethodId} {args : Array Value} {below : List Frame} {meth : Method} {c : Code} {D : va_G} {q : Nat → ClassId} {A : Nat → Prop} {o0 : Nat} {a0 : Nat → Nat} {r : Int32} {T0 : St} (C : cx p s m args meth c cX12_draws 5 (some .int) RX12 D q A) {k7 : Int32 × Int32 × St → Option (Int32 × St)} (hk7 : ∀ (x1 : Int32) (x3 : Int32) (S0 : St), k7 (x1, x3, S0) = some (r, T0) → ∀ (H : Heap) (locs : List Loc) (ls : Array Slot), va_P D vwCl (fl [g12 q o0 a0 S0]) H → va_D A (fl [g12 q o0 a0 S0]) → va_S A s.heap H locs → lv_has ls 5 [(0, .ref o0), (1, .int x1), (3, .int x3)] → W p l e rm_X12_draws s m args below meth c H locs 0 0 (MQ below (QI D A r (fl [g12 q o0 a0 T0])) args s 0 0 A) (F0 m 7 ls [])) {x1 : Int32} {x3 : Int32} {x4 : Int32} {S0 : St} (hF : L_X12_draws_49 k7 x1 x3 x4 S0 = some (r, T0)) : ∀ (H : Heap) (locs : List Loc) (ls : Array Slot), va_P D vwCl (fl [g12 q o0 a0 S0]) H → va_D A (fl [g12 q o0 a0 S0]) → va_S A s.heap H locs → lv_has ls 5 [(0, .ref o0), (1, .int x1), (3, .int x3), (4, .int x4)] → W p l e rm_X12_draws s m args below meth c H locs 0 0 (MQ below (QI D A r (fl [g12 q o0 a0 T0])) args s 0 0 A) (F0 m 49 ls []) :=
  lp_G _ _ (fun z => ∀ (H : Heap) (locs : List Loc) (ls : Array Slot), va_P D vwCl (fl [g12 q o0 a0 z.2.2.2]) H → va_D A (fl [g12 q o0 a0 z.2.2.2]) → va_S A s.heap H locs → lv_has ls 5 [(0, .ref o0), (1, .int z.1), (3, .int z.2.1), (4, .int z.2.2.1)] → W p l e rm_X12_draws s m args below meth c H locs 0 0 (MQ below (QI D A r (fl [g12 q o0 a0 T0])) args s 0 0 A) (F0 m 49 ls [])) (fun kz hkz z hz H locs ls hP hD hS hl => b_X12_draws_49 C hk7 (fun x1 x3 x4 S0 hz => hkz (x1, x3, x4, S0) hz) hz hP hD hS hl) FU (x1, x3, x4, S0) hF
set_option maxRecDepth 100000 in
set_option maxHeartbeats 4000000 in
theorem b_X12_draws_46 {p : Program} {l : Launch} {e : Env} {s : State} {m : MethodId} {args : Array Value} {below : List Frame} {meth : Method} {c : Code} {D : va_G} {q : Nat → ClassId} {A : Nat → Prop} {o0 : Nat} {a0 : Nat → Nat} {r : Int32} {T0 : St} (C : cx p s m args meth c cX12_draws 5 (some .int) RX12 D q A) {k7 : Int32 × Int32 × St → Option (Int32 × St)} (hk7 : ∀ (x1 : Int32) (x3 : Int32) (S0 : St), k7 (x1, x3, S0) = some (r, T0) → ∀ (H : Heap) (locs : List Loc) (ls : Array Slot), va_P D vwCl (fl [g12 q o0 a0 S0]) H → va_D A (fl [g12 q o0 a0 S0]) → va_S A s.heap H locs → lv_has ls 5 [(0, .ref o0), (1, .int x1), (3, .int x3)] → W p l e rm_X12_draws s m args below meth c H locs 0 0 (MQ below (QI D A r (fl [g12 q o0 a0 T0])) args s 0 0 A) (F0 m 7 ls [])) {x1 : Int32} {x3 : Int32} {S0 : St} (hF : F_X12_draws_46 k7 x1 x3 S0 = some (r, T0)) {H : Heap} {locs : List Loc} (hP : va_P D vwCl (fl [g12 q o0 a0 S0]) H) (hD : va_D A (fl [g12 q o0 a0 S0])) (hS : va_S A s.heap H locs) {ls : Array Slot} (hl : lv_has ls 5 [(0, .ref o0), (1, .int x1), (3, .int x3)]) : W p l e rm_X12_draws s m args below meth c H locs 0 0 (MQ below (QI D A r (fl [g12 q o0 a0 T0])) args s 0 0 A) (F0 m 46 ls []) := by
  unfold F_X12_draws_46 at hF
  obtain ⟨hx, hb, hr, hml, hown, hts, hlk, hA, hK, hN, hV⟩ := id C
  refine lv_iconst (v := (0 : Int32)) hx hb dX12_draws_46 (by decide) ?_
  refine lv_istore (lv' := [(4, .int (0 : Int32)), (0, .ref o0), (1, .int x1), (3, .int x3)]) hx hb dX12_draws_47 hl (by decide) rfl (fun ls hl => ?_)
  exact l_X12_draws_49 C hk7 hF _ _ _ hP hD hS (lv_sub hl [1, 2, 3, 0] rfl)
set_option maxRecDepth 100000 in
set_option maxHeartbeats 4000000 in
theorem b_X12_draws_7 {p : Program} {l : Launch} {e : Env} {s : State} {m : MethodId} {args : Array Value} {below : List Frame} {meth : Method} {c : Code} {D : va_G} {q : Nat → ClassId} {A : Nat → Prop} {o0 : Nat} {a0 : Nat → Nat} {r : Int32} {T0 : St} (C : cx p s m args meth c cX12_draws 5 (some .int) RX12 D q A) {k7 : Int32 × Int32 × St → Option (Int32 × St)} (hk7 : ∀ (x1 : Int32) (x3 : Int32) (S0 : St), k7 (x1, x3, S0) = some (r, T0) → ∀ (H : Heap) (locs : List Loc) (ls : Array Slot), va_P D vwCl (fl [g12 q o0 a0 S0]) H → va_D A (fl [g12 q o0 a0 S0]) → va_S A s.heap H locs → lv_has ls 5 [(0, .ref o0), (1, .int x1), (3, .int x3)] → W p l e rm_X12_draws s m args below meth c H locs 0 0 (MQ below (QI D A r (fl [g12 q o0 a0 T0])) args s 0 0 A) (F0 m 7 ls [])) {x1 : Int32} {x3 : Int32} {S0 : St} (hF : F_X12_draws_7 k7 x1 x3 S0 = some (r, T0)) {H : Heap} {locs : List Loc} (hP : va_P D vwCl (fl [g12 q o0 a0 S0]) H) (hD : va_D A (fl [g12 q o0 a0 S0])) (hS : va_S A s.heap H locs) {ls : Array Slot} (hl : lv_has ls 5 [(0, .ref o0), (1, .int x1), (3, .int x3)]) : W p l e rm_X12_draws s m args below meth c H locs 0 0 (MQ below (QI D A r (fl [g12 q o0 a0 T0])) args s 0 0 A) (F0 m 7 ls []) := by
  unfold F_X12_draws_7 at hF
  obtain ⟨hx, hb, hr, hml, hown, hts, hlk, hA, hK, hN, hV⟩ := id C
  refine lv_iload_n hx hb dX12_draws_7 rfl (lv_at hl 2 rfl) ?_
  refine lv_iload_n hx hb dX12_draws_8 rfl (lv_at hl 1 rfl) ?_
  refine lv_icmp_ge (tgt := 82) hx hb dX12_draws_9 (by decide) (fun c1 => ?_) (fun c1 => ?_)
  · have hF := op_t hF c1
    refine lv_iload_n hx hb dX12_draws_82 rfl (lv_at hl 2 rfl) ?_
    cases hF
    exact k_iret C hP hS dX12_draws_83
  · have hF := op_f hF c1
    refine lv_aload_n hx hb dX12_draws_12 rfl (lv_at hl 0 rfl) ?_
    refine k_get (v := .ref (a0 7)) C fg_X12_33 hP 0 rfl rfl dX12_draws_13 ?_
    refine lv_bipush (v := (42 : Int32)) hx hb dX12_draws_16 (by decide) ?_
    obtain ⟨h2, hF⟩ := op_ck hF
    refine k_ild (f := S0.2.2.1 6) C hP 2 rfl h2 dX12_draws_18 ?_
    refine lv_sipush (v := (400 : Int32)) hx hb dX12_draws_19 (by decide) ?_
    refine lv_icmp_ge (tgt := 82) hx hb dX12_draws_22 (by decide) (fun c3 => ?_) (fun c3 => ?_)
    · have hF := op_t hF c3
      refine lv_iload_n hx hb dX12_draws_82 rfl (lv_at hl 2 rfl) ?_
      cases hF
      exact k_iret C hP hS dX12_draws_83
    · have hF := op_f hF c3
      refine lv_aload_n hx hb dX12_draws_25 rfl (lv_at hl 0 rfl) ?_
      refine lv_bipush (v := (12 : Int32)) hx hb dX12_draws_26 (by decide) ?_
      obtain ⟨r5, U6, hc4, hF⟩ := ob2_s hF
      refine k_iall C (k_rV (As := [.int (12 : Int32)]) (rest := []) C (c_X12_draw l D q o0 a0 S0 _ (12 : Int32) hc4) kc_X12_draw ml_X12_432 rfl rfl (by decide) hP hD hS (va_recv hK hP (ci := 12) (q0 := 0) rfl rfl) rfl hl.1 rfl (Nat.le_of_ble_eq_true rfl) dX12_draws_28 (by decide)) hP hD hS (by simp only [List.map_cons, List.map_nil, gad12]) (fun H locs hP hD hS => ?_)
      refine lv_if_ne (tgt := 46) hx hb dX12_draws_31 (by decide) (fun c7 => ?_) (fun c7 => ?_)
      · have hF := op_f hF c7
        exact b_X12_draws_46 C hk7 hF hP hD hS (lv_sub hl [0, 1, 2] rfl)
      · have hF := op_t hF c7
        refine lv_aload_n hx hb dX12_draws_34 rfl (lv_at hl 0 rfl) ?_
        refine lv_aload_n hx hb dX12_draws_35 rfl (lv_at hl 0 rfl) ?_
        refine lv_bipush (v := (60 : Int32)) hx hb dX12_draws_36 (by decide) ?_
        obtain ⟨r9, U10, hc8, hF⟩ := ob2_s hF
        refine k_iall C (k_rV (As := [.int (60 : Int32)]) (rest := [.ref o0]) C (c_X12_draw l D q o0 a0 U6 _ (60 : Int32) hc8) kc_X12_draw ml_X12_432 rfl rfl (by decide) hP hD hS (va_recv hK hP (ci := 12) (q0 := 0) rfl rfl) rfl hl.1 rfl (Nat.le_of_ble_eq_true rfl) dX12_draws_38 (by decide)) hP hD hS (by simp only [List.map_cons, List.map_nil, gad12]) (fun H locs hP hD hS => ?_)
        refine lv_iconst (v := (1 : Int32)) hx hb dX12_draws_41 (by decide) ?_
        refine lv_iadd hx hb dX12_draws_42 ?_
        obtain ⟨U12, hc11, hF⟩ := ob1_s hF
        refine k_vall C (k_rV (As := [.int (r9 + (1 : Int32))]) (rest := []) C (c_X12_storms l D q o0 a0 U10 _ (r9 + (1 : Int32)) hc11) kc_X12_storms ml_X12_372 rfl rfl (by decide) hP hD hS (va_recv hK hP (ci := 12) (q0 := 0) rfl rfl) rfl hl.1 rfl (Nat.le_of_ble_eq_true rfl) dX12_draws_43 (by decide)) hP hD hS (by simp only [List.map_cons, List.map_nil, gad12]) (fun H locs hP hD hS => ?_)
        exact b_X12_draws_46 C hk7 hF hP hD hS (lv_sub hl [0, 1, 2] rfl)
set_option maxRecDepth 100000 in
set_option maxHeartbeats 4000000 in
theorem l_X12_draws_7 {p : Program} {l : Launch} {e : Env} {s : State} {m : MethodId} {args : Array Value} {below : List Frame} {meth : Method} {c : Code} {D : va_G} {q : Nat → ClassId} {A : Nat → Prop} {o0 : Nat} {a0 : Nat → Nat} {r : Int32} {T0 : St} (C : cx p s m args meth c cX12_draws 5 (some .int) RX12 D q A) {x1 : Int32} {x3 : Int32} {S0 : St} (hF : L_X12_draws_7 x1 x3 S0 = some (r, T0)) : ∀ (H : Heap) (locs : List Loc) (ls : Array Slot), va_P D vwCl (fl [g12 q o0 a0 S0]) H → va_D A (fl [g12 q o0 a0 S0]) → va_S A s.heap H locs → lv_has ls 5 [(0, .ref o0), (1, .int x1), (3, .int x3)] → W p l e rm_X12_draws s m args below meth c H locs 0 0 (MQ below (QI D A r (fl [g12 q o0 a0 T0])) args s 0 0 A) (F0 m 7 ls []) :=
  lp_G _ _ (fun z => ∀ (H : Heap) (locs : List Loc) (ls : Array Slot), va_P D vwCl (fl [g12 q o0 a0 z.2.2]) H → va_D A (fl [g12 q o0 a0 z.2.2]) → va_S A s.heap H locs → lv_has ls 5 [(0, .ref o0), (1, .int z.1), (3, .int z.2.1)] → W p l e rm_X12_draws s m args below meth c H locs 0 0 (MQ below (QI D A r (fl [g12 q o0 a0 T0])) args s 0 0 A) (F0 m 7 ls [])) (fun kz hkz z hz H locs ls hP hD hS hl => b_X12_draws_7 C (fun x1 x3 S0 hz => hkz (x1, x3, S0) hz) hz hP hD hS hl) FU (x1, x3, S0) hF
set_option maxRecDepth 100000 in
set_option maxHeartbeats 4000000 in
theorem c_X12_draws (l : Launch) (D : va_G) (q : Nat → ClassId) (o0 : Nat) (a0 : Nat → Nat) (S0 : St) (sz : Nat) (x1 : Int32) (x2 : Int32) {r : Int32} {T0 : St} (hF : F_X12_draws S0 x1 x2 = some (r, T0)) : Met l yX12_draws (Cond.code yX12_draws cX12_draws 5 (some .int) :: TB) rm_X12_draws (PC D q [.ref o0, .int x1, .int x2] (fl [g12 q o0 a0 S0]) sz) ((fun A => QI D A r (fl [g12 q o0 a0 T0])) (va_A (fl [g12 q o0 a0 S0]) sz)) 0 0 (va_A (fl [g12 q o0 a0 S0]) sz) := by
  refine k_met (w0 := fl [g12 q o0 a0 S0]) (Q := fun A => QI D A r (fl [g12 q o0 a0 T0])) (by decide +kernel) (Nat.le_of_ble_eq_true rfl) ?_
  intro p e s m args below meth c A ls C hP hD hS hl
  have hl : lv_has ls 5 [(0, .ref o0), (1, .int x1), (2, .int x2)] := hl
  unfold F_X12_draws at hF
  have C : cx p s m args meth c cX12_draws 5 (some .int) RX12 D q A := C
  obtain ⟨hx, hb, hr, hml, hown, hts, hlk, hA, hK, hN, hV⟩ := id C
  refine lv_aload_n hx hb dX12_draws_0 rfl (lv_at hl 0 rfl) ?_
  refine lv_iload_n hx hb dX12_draws_1 rfl (lv_at hl 2 rfl) ?_
  obtain ⟨U1, e2, hF⟩ := nw_s hF
  refine k_put (W8 := fl [g12 q o0 a0 U1]) C fp_X12_428 hP hD hS 0 rfl rfl rfl (Nat.le_of_ble_eq_true rfl) dX12_draws_2 (by rw [e2]; rfl) (fun H locs hP hD hS => ?_)
  refine lv_iconst (v := (0 : Int32)) hx hb dX12_draws_5 (by decide) ?_
  refine lv_istore_n (lv' := [(3, .int (0 : Int32)), (0, .ref o0), (1, .int x1), (2, .int x2)]) hx hb dX12_draws_6 rfl hl (by decide) rfl (fun ls hl => ?_)
  exact l_X12_draws_7 C hF _ _ _ hP hD hS (lv_sub hl [1, 2, 0] rfl)

abbrev rm_X12_drawn : Room := ({ frames := 5, cells := 0, slots := 0, locals := 117 } : Room)
def F_X12_drawn_34 (x1 : Int32) (x2 : Int32) (S0 : St) : Option (Int32 × St) := ob2 (F_X12_draws S0 x1 x2) fun r2 U3 => some (r2, U3)
def F_X12_drawn (S0 : St) (x1 : Int32) (x2 : Int32) : Option (Int32 × St) := nw (sI S0 0 (0 : Int32)) fun U1 => ob1 (F_X12_isIn x1 (1 : Int32) (60 : Int32)) fun r4 => if r4 = 0 then (some ((-1 : Int32), U1)) else (if oob (42 : Int32) 258 then none else if (400 : Int32) ≤ (U1.2.2.1 6 (42 : Int32).toNatClampNeg) then (F_X12_drawn_34 x1 x2 U1) else (ob1 (F_X12_keep U1) fun U9 => F_X12_drawn_34 x1 x2 U9))
set_option maxRecDepth 100000 in
set_option maxHeartbeats 4000000 in
theorem b_X12_drawn_34 {p : Program} {l : Launch} {e : Env} {s : State} {m : MethodId} {args : Array Value} {below : List Frame} {meth : Method} {c : Code} {D : va_G} {q : Nat → ClassId} {A : Nat → Prop} {o0 : Nat} {a0 : Nat → Nat} {r : Int32} {T0 : St} (C : cx p s m args meth c cX12_drawn 3 (some .int) RX12 D q A) {x1 : Int32} {x2 : Int32} {S0 : St} (hF : F_X12_drawn_34 x1 x2 S0 = some (r, T0)) {H : Heap} {locs : List Loc} (hP : va_P D vwCl (fl [g12 q o0 a0 S0]) H) (hD : va_D A (fl [g12 q o0 a0 S0])) (hS : va_S A s.heap H locs) {ls : Array Slot} (hl : lv_has ls 3 [(0, .ref o0), (1, .int x1), (2, .int x2)]) : W p l e rm_X12_drawn s m args below meth c H locs 0 0 (MQ below (QI D A r (fl [g12 q o0 a0 T0])) args s 0 0 A) (F0 m 34 ls []) := by
  unfold F_X12_drawn_34 at hF
  obtain ⟨hx, hb, hr, hml, hown, hts, hlk, hA, hK, hN, hV⟩ := id C
  refine lv_aload_n hx hb dX12_drawn_34 rfl (lv_at hl 0 rfl) ?_
  refine lv_iload_n hx hb dX12_drawn_35 rfl (lv_at hl 1 rfl) ?_
  refine lv_iload_n hx hb dX12_drawn_36 rfl (lv_at hl 2 rfl) ?_
  obtain ⟨r2, U3, hc1, hF⟩ := ob2_s hF
  refine k_iall C (k_rV (As := [.int x1, .int x2]) (rest := []) C (c_X12_draws l D q o0 a0 S0 _ x1 x2 hc1) kc_X12_draws ml_X12_438 rfl rfl (by decide) hP hD hS (va_recv hK hP (ci := 12) (q0 := 0) rfl rfl) rfl hl.1 rfl (Nat.le_of_ble_eq_true rfl) dX12_drawn_37 (by decide)) hP hD hS (by simp only [List.map_cons, List.map_nil, gad12]) (fun H locs hP hD hS => ?_)
  cases hF
  exact k_iret C hP hS dX12_drawn_40
set_option maxRecDepth 100000 in
set_option maxHeartbeats 4000000 in
theorem c_X12_drawn (l : Launch) (D : va_G) (q : Nat → ClassId) (o0 : Nat) (a0 : Nat → Nat) (S0 : St) (sz : Nat) (x1 : Int32) (x2 : Int32) {r : Int32} {T0 : St} (hF : F_X12_drawn S0 x1 x2 = some (r, T0)) : Met l yX12_drawn (Cond.code yX12_drawn cX12_drawn 3 (some .int) :: TB) rm_X12_drawn (PC D q [.ref o0, .int x1, .int x2] (fl [g12 q o0 a0 S0]) sz) ((fun A => QI D A r (fl [g12 q o0 a0 T0])) (va_A (fl [g12 q o0 a0 S0]) sz)) 0 0 (va_A (fl [g12 q o0 a0 S0]) sz) := by
  refine k_met (w0 := fl [g12 q o0 a0 S0]) (Q := fun A => QI D A r (fl [g12 q o0 a0 T0])) (by decide +kernel) (Nat.le_of_ble_eq_true rfl) ?_
  intro p e s m args below meth c A ls C hP hD hS hl
  have hl : lv_has ls 3 [(0, .ref o0), (1, .int x1), (2, .int x2)] := hl
  unfold F_X12_drawn at hF
  have C : cx p s m args meth c cX12_drawn 3 (some .int) RX12 D q A := C
  obtain ⟨hx, hb, hr, hml, hown, hts, hlk, hA, hK, hN, hV⟩ := id C
  refine lv_aload_n hx hb dX12_drawn_0 rfl (lv_at hl 0 rfl) ?_
  refine lv_iconst (v := (0 : Int32)) hx hb dX12_drawn_1 (by decide) ?_
  obtain ⟨U1, e2, hF⟩ := nw_s hF
  refine k_put (W8 := fl [g12 q o0 a0 U1]) C fp_X12_1 hP hD hS 0 rfl rfl rfl (Nat.le_of_ble_eq_true rfl) dX12_drawn_2 (by rw [e2]; rfl) (fun H locs hP hD hS => ?_)
  refine lv_iload_n hx hb dX12_drawn_5 rfl (lv_at hl 1 rfl) ?_
  refine lv_iconst (v := (1 : Int32)) hx hb dX12_drawn_6 (by decide) ?_
  refine lv_bipush (v := (60 : Int32)) hx hb dX12_drawn_7 (by decide) ?_
  obtain ⟨r4, hc3, hF⟩ := ob1_s hF
  refine k_inil C (k_rS (As := [.int x1, .int (1 : Int32), .int (60 : Int32)]) (rest := []) C (c_X12_isIn l D q _ x1 (1 : Int32) (60 : Int32) hc3) kc_X12_isIn ml_X12_225 rfl rfl (by decide) (fun k x h => by simp at h) (⟨fun i j x y h => by simp at h, fun k x h => by simp at h⟩ : va_D A []) hS rfl hl.1 rfl (Nat.le_of_ble_eq_true rfl) dX12_drawn_9 (by decide)) hP hD hS (fun H locs hP hD hS => ?_)
  refine lv_if_ne (tgt := 17) hx hb dX12_drawn_12 (by decide) (fun c5 => ?_) (fun c5 => ?_)
  · have hF := op_f hF c5
    refine lv_aload_n hx hb dX12_drawn_17 rfl (lv_at hl 0 rfl) ?_
    refine k_get (v := .ref (a0 7)) C fg_X12_33 hP 0 rfl rfl dX12_drawn_18 ?_
    refine lv_bipush (v := (42 : Int32)) hx hb dX12_drawn_21 (by decide) ?_
    obtain ⟨h6, hF⟩ := op_ck hF
    refine k_ild (f := U1.2.2.1 6) C hP 2 rfl h6 dX12_drawn_23 ?_
    refine lv_sipush (v := (400 : Int32)) hx hb dX12_drawn_24 (by decide) ?_
    refine lv_icmp_ge (tgt := 34) hx hb dX12_drawn_27 (by decide) (fun c7 => ?_) (fun c7 => ?_)
    · have hF := op_t hF c7
      exact b_X12_drawn_34 C hF hP hD hS (lv_sub hl [0, 1, 2] rfl)
    · have hF := op_f hF c7
      refine lv_aload_n hx hb dX12_drawn_30 rfl (lv_at hl 0 rfl) ?_
      obtain ⟨U9, hc8, hF⟩ := ob1_s hF
      refine k_vall C (k_rV (As := []) (rest := []) C (c_X12_keep l D q o0 a0 U1 _ hc8) kc_X12_keep ml_X12_355 rfl rfl (by decide) hP hD hS (va_recv hK hP (ci := 12) (q0 := 0) rfl rfl) rfl hl.1 rfl (Nat.le_of_ble_eq_true rfl) dX12_drawn_31 (by decide)) hP hD hS (by simp only [List.map_cons, List.map_nil, gad12]) (fun H locs hP hD hS => ?_)
      exact b_X12_drawn_34 C hF hP hD hS (lv_sub hl [0, 1, 2] rfl)
  · have hF := op_t hF c5
    refine lv_iconst (v := (-1 : Int32)) hx hb dX12_drawn_15 (by decide) ?_
    cases hF
    exact k_iret C hP hS dX12_drawn_16

abbrev rm_X12_odds : Room := ({ frames := 5, cells := 0, slots := 0, locals := 117 } : Room)
def F_X12_odds_76 (k35 : Int32 × Int32 × Int32 × Int32 × Int32 × St → Option (Int32 × St)) (x1 : Int32) (x2 : Int32) (x3 : Int32) (x5 : Int32) (s0 : Int32) (s1 : Int32) (S0 : St) : Option (Int32 × St) := ob1 (F_X12_back S0) fun U2 => k35 (x1, x2, x3, (s0 + s1), (x5 + 1), U2)
def F_X12_odds_35 (k35 : Int32 × Int32 × Int32 × Int32 × Int32 × St → Option (Int32 × St)) (x1 : Int32) (x2 : Int32) (x3 : Int32) (x4 : Int32) (x5 : Int32) (S0 : St) : Option (Int32 × St) := if x2 ≤ x5 then (some (x4, S0)) else (ob2 (F_X12_draws S0 (20 : Int32) (x3 + x5)) fun r3 U4 => if oob ((59 : Int32) + x1) 258 then none else ob1 (F_X12_isPleased U4 x1 (U4.2.2.1 6 ((59 : Int32) + x1).toNatClampNeg)) fun r7 => if r7 = 0 then (F_X12_odds_76 k35 x1 x2 x3 x5 x4 (0 : Int32) U4) else (F_X12_odds_76 k35 x1 x2 x3 x5 x4 (1 : Int32) U4))
def L_X12_odds_35 (x1 : Int32) (x2 : Int32) (x3 : Int32) (x4 : Int32) (x5 : Int32) (S0 : St) : Option (Int32 × St) := lp (fun kz z => F_X12_odds_35 kz z.1 z.2.1 z.2.2.1 z.2.2.2.1 z.2.2.2.2.1 z.2.2.2.2.2) FU (x1, x2, x3, x4, x5, S0)
def F_X12_odds (S0 : St) (x1 : Int32) (x2 : Int32) (x3 : Int32) : Option (Int32 × St) := nw (sI S0 0 (0 : Int32)) fun U1 => ob1 (F_X12_isPerson U1 x1) fun r4 => if r4 = 0 then (some ((-1 : Int32), U1)) else (ob1 (F_X12_isIn x2 (1 : Int32) (30 : Int32)) fun r7 => if r7 = 0 then (some ((-1 : Int32), U1)) else (ob1 (F_X12_tries U1) fun U10 => L_X12_odds_35 x1 x2 x3 (0 : Int32) (0 : Int32) U10))
set_option maxRecDepth 100000 in
set_option maxHeartbeats 4000000 in
theorem b_X12_odds_76 {p : Program} {l : Launch} {e : Env} {s : State} {m : MethodId} {args : Array Value} {below : List Frame} {meth : Method} {c : Code} {D : va_G} {q : Nat → ClassId} {A : Nat → Prop} {o0 : Nat} {a0 : Nat → Nat} {r : Int32} {T0 : St} (C : cx p s m args meth c cX12_odds 6 (some .int) RX12 D q A) {k35 : Int32 × Int32 × Int32 × Int32 × Int32 × St → Option (Int32 × St)} (hk35 : ∀ (x1 : Int32) (x2 : Int32) (x3 : Int32) (x4 : Int32) (x5 : Int32) (S0 : St), k35 (x1, x2, x3, x4, x5, S0) = some (r, T0) → ∀ (H : Heap) (locs : List Loc) (ls : Array Slot), va_P D vwCl (fl [g12 q o0 a0 S0]) H → va_D A (fl [g12 q o0 a0 S0]) → va_S A s.heap H locs → lv_has ls 6 [(0, .ref o0), (1, .int x1), (2, .int x2), (3, .int x3), (4, .int x4), (5, .int x5)] → W p l e rm_X12_odds s m args below meth c H locs 0 0 (MQ below (QI D A r (fl [g12 q o0 a0 T0])) args s 0 0 A) (F0 m 35 ls [])) {x1 : Int32} {x2 : Int32} {x3 : Int32} {x5 : Int32} {s0 : Int32} {s1 : Int32} {S0 : St} (hF : F_X12_odds_76 k35 x1 x2 x3 x5 s0 s1 S0 = some (r, T0)) {H : Heap} {locs : List Loc} (hP : va_P D vwCl (fl [g12 q o0 a0 S0]) H) (hD : va_D A (fl [g12 q o0 a0 S0])) (hS : va_S A s.heap H locs) {ls : Array Slot} (hl : lv_has ls 6 [(0, .ref o0), (1, .int x1), (2, .int x2), (3, .int x3), (5, .int x5)]) : W p l e rm_X12_odds s m args below meth c H locs 0 0 (MQ below (QI D A r (fl [g12 q o0 a0 T0])) args s 0 0 A) (F0 m 76 ls [.int s1, .int s0]) := by
  unfold F_X12_odds_76 at hF
  obtain ⟨hx, hb, hr, hml, hown, hts, hlk, hA, hK, hN, hV⟩ := id C
  refine lv_iadd hx hb dX12_odds_76 ?_
  refine lv_istore (lv' := [(4, .int (s0 + s1)), (0, .ref o0), (1, .int x1), (2, .int x2), (3, .int x3), (5, .int x5)]) hx hb dX12_odds_77 hl (by decide) rfl (fun ls hl => ?_)
  refine lv_aload_n hx hb dX12_odds_79 rfl (lv_at hl 1 rfl) ?_
  obtain ⟨U2, hc1, hF⟩ := ob1_s hF
  refine k_vall C (k_rV (As := []) (rest := []) C (c_X12_back l D q o0 a0 S0 _ hc1) kc_X12_back ml_X12_444 rfl rfl (by decide) hP hD hS (va_recv hK hP (ci := 12) (q0 := 0) rfl rfl) rfl hl.1 rfl (Nat.le_of_ble_eq_true rfl) dX12_odds_80 (by decide)) hP hD hS (by simp only [List.map_cons, List.map_nil, gad12]) (fun H locs hP hD hS => ?_)
  refine lv_iinc (v := (x5 + 1)) (lv' := [(5, .int (x5 + 1)), (4, .int (s0 + s1)), (0, .ref o0), (1, .int x1), (2, .int x2), (3, .int x3)]) hx hb dX12_odds_83 hl (k := 5) rfl rfl (by decide) rfl (fun ls hl => ?_)
  refine lv_goto (tgt := 35) hx hb dX12_odds_86 (by decide) ?_
  exact hk35 x1 x2 x3 (s0 + s1) (x5 + 1) U2 hF _ _ _ hP hD hS (lv_sub hl [2, 3, 4, 5, 1, 0] rfl)
set_option maxRecDepth 100000 in
set_option maxHeartbeats 4000000 in
theorem b_X12_odds_35 {p : Program} {l : Launch} {e : Env} {s : State} {m : MethodId} {args : Array Value} {below : List Frame} {meth : Method} {c : Code} {D : va_G} {q : Nat → ClassId} {A : Nat → Prop} {o0 : Nat} {a0 : Nat → Nat} {r : Int32} {T0 : St} (C : cx p s m args meth c cX12_odds 6 (some .int) RX12 D q A) {k35 : Int32 × Int32 × Int32 × Int32 × Int32 × St → Option (Int32 × St)} (hk35 : ∀ (x1 : Int32) (x2 : Int32) (x3 : Int32) (x4 : Int32) (x5 : Int32) (S0 : St), k35 (x1, x2, x3, x4, x5, S0) = some (r, T0) → ∀ (H : Heap) (locs : List Loc) (ls : Array Slot), va_P D vwCl (fl [g12 q o0 a0 S0]) H → va_D A (fl [g12 q o0 a0 S0]) → va_S A s.heap H locs → lv_has ls 6 [(0, .ref o0), (1, .int x1), (2, .int x2), (3, .int x3), (4, .int x4), (5, .int x5)] → W p l e rm_X12_odds s m args below meth c H locs 0 0 (MQ below (QI D A r (fl [g12 q o0 a0 T0])) args s 0 0 A) (F0 m 35 ls [])) {x1 : Int32} {x2 : Int32} {x3 : Int32} {x4 : Int32} {x5 : Int32} {S0 : St} (hF : F_X12_odds_35 k35 x1 x2 x3 x4 x5 S0 = some (r, T0)) {H : Heap} {locs : List Loc} (hP : va_P D vwCl (fl [g12 q o0 a0 S0]) H) (hD : va_D A (fl [g12 q o0 a0 S0])) (hS : va_S A s.heap H locs) {ls : Array Slot} (hl : lv_has ls 6 [(0, .ref o0), (1, .int x1), (2, .int x2), (3, .int x3), (4, .int x4), (5, .int x5)]) : W p l e rm_X12_odds s m args below meth c H locs 0 0 (MQ below (QI D A r (fl [g12 q o0 a0 T0])) args s 0 0 A) (F0 m 35 ls []) := by
  unfold F_X12_odds_35 at hF
  obtain ⟨hx, hb, hr, hml, hown, hts, hlk, hA, hK, hN, hV⟩ := id C
  refine lv_iload hx hb dX12_odds_35 (lv_at hl 5 rfl) ?_
  refine lv_iload_n hx hb dX12_odds_37 rfl (lv_at hl 2 rfl) ?_
  refine lv_icmp_ge (tgt := 89) hx hb dX12_odds_38 (by decide) (fun c1 => ?_) (fun c1 => ?_)
  · have hF := op_t hF c1
    refine lv_iload hx hb dX12_odds_89 (lv_at hl 4 rfl) ?_
    cases hF
    exact k_iret C hP hS dX12_odds_91
  · have hF := op_f hF c1
    refine lv_aload_n hx hb dX12_odds_41 rfl (lv_at hl 0 rfl) ?_
    refine lv_bipush (v := (20 : Int32)) hx hb dX12_odds_42 (by decide) ?_
    refine lv_iload_n hx hb dX12_odds_44 rfl (lv_at hl 3 rfl) ?_
    refine lv_iload hx hb dX12_odds_45 (lv_at hl 5 rfl) ?_
    refine lv_iadd hx hb dX12_odds_47 ?_
    obtain ⟨r3, U4, hc2, hF⟩ := ob2_s hF
    refine k_iall C (k_rV (As := [.int (20 : Int32), .int (x3 + x5)]) (rest := []) C (c_X12_draws l D q o0 a0 S0 _ (20 : Int32) (x3 + x5) hc2) kc_X12_draws ml_X12_438 rfl rfl (by decide) hP hD hS (va_recv hK hP (ci := 12) (q0 := 0) rfl rfl) rfl hl.1 rfl (Nat.le_of_ble_eq_true rfl) dX12_odds_48 (by decide)) hP hD hS (by simp only [List.map_cons, List.map_nil, gad12]) (fun H locs hP hD hS => ?_)
    refine lv_pop hx hb dX12_odds_51 rfl ?_
    refine lv_iload hx hb dX12_odds_52 (lv_at hl 4 rfl) ?_
    refine lv_aload_n hx hb dX12_odds_54 rfl (lv_at hl 0 rfl) ?_
    refine lv_iload_n hx hb dX12_odds_55 rfl (lv_at hl 1 rfl) ?_
    refine lv_aload_n hx hb dX12_odds_56 rfl (lv_at hl 0 rfl) ?_
    refine k_get (v := .ref (a0 7)) C fg_X12_33 hP 0 rfl rfl dX12_odds_57 ?_
    refine lv_bipush (v := (59 : Int32)) hx hb dX12_odds_60 (by decide) ?_
    refine lv_iload_n hx hb dX12_odds_62 rfl (lv_at hl 1 rfl) ?_
    refine lv_iadd hx hb dX12_odds_63 ?_
    obtain ⟨h5, hF⟩ := op_ck hF
    refine k_ild (f := U4.2.2.1 6) C hP 2 rfl h5 dX12_odds_64 ?_
    obtain ⟨r7, hc6, hF⟩ := ob1_s hF
    refine k_isame C (k_rV (As := [.int x1, .int (U4.2.2.1 6 ((59 : Int32) + x1).toNatClampNeg)]) (rest := [.int x4]) C (c_X12_isPleased l D q o0 a0 U4 _ x1 (U4.2.2.1 6 ((59 : Int32) + x1).toNatClampNeg) hc6) kc_X12_isPleased ml_X12_315 rfl rfl (by decide) hP hD hS (va_recv hK hP (ci := 12) (q0 := 0) rfl rfl) rfl hl.1 rfl (Nat.le_of_ble_eq_true rfl) dX12_odds_65 (by decide)) hP hD hS (fun H locs hP hD hS => ?_)
    refine lv_if_eq (tgt := 75) hx hb dX12_odds_68 (by decide) (fun c8 => ?_) (fun c8 => ?_)
    · have hF := op_t hF c8
      refine lv_iconst (v := (0 : Int32)) hx hb dX12_odds_75 (by decide) ?_
      exact b_X12_odds_76 C hk35 hF hP hD hS (lv_sub hl [0, 1, 2, 3, 5] rfl)
    · have hF := op_f hF c8
      refine lv_iconst (v := (1 : Int32)) hx hb dX12_odds_71 (by decide) ?_
      refine lv_goto (tgt := 76) hx hb dX12_odds_72 (by decide) ?_
      exact b_X12_odds_76 C hk35 hF hP hD hS (lv_sub hl [0, 1, 2, 3, 5] rfl)
set_option maxRecDepth 100000 in
set_option maxHeartbeats 4000000 in
theorem l_X12_odds_35 {p : Program} {l : Launch} {e : Env} {s : State} {m : MethodId} {args : Array Value} {below : List Frame} {meth : Method} {c : Code} {D : va_G} {q : Nat → ClassId} {A : Nat → Prop} {o0 : Nat} {a0 : Nat → Nat} {r : Int32} {T0 : St} (C : cx p s m args meth c cX12_odds 6 (some .int) RX12 D q A) {x1 : Int32} {x2 : Int32} {x3 : Int32} {x4 : Int32} {x5 : Int32} {S0 : St} (hF : L_X12_odds_35 x1 x2 x3 x4 x5 S0 = some (r, T0)) : ∀ (H : Heap) (locs : List Loc) (ls : Array Slot), va_P D vwCl (fl [g12 q o0 a0 S0]) H → va_D A (fl [g12 q o0 a0 S0]) → va_S A s.heap H locs → lv_has ls 6 [(0, .ref o0), (1, .int x1), (2, .int x2), (3, .int x3), (4, .int x4), (5, .int x5)] → W p l e rm_X12_odds s m args below meth c H locs 0 0 (MQ below (QI D A r (fl [g12 q o0 a0 T0])) args s 0 0 A) (F0 m 35 ls []) :=
  lp_G _ _ (fun z => ∀ (H : Heap) (locs : List Loc) (ls : Array Slot), va_P D vwCl (fl [g12 q o0 a0 z.2.2.2.2.2]) H → va_D A (fl [g12 q o0 a0 z.2.2.2.2.2]) → va_S A s.heap H locs → lv_has ls 6 [(0, .ref o0), (1, .int z.1), (2, .int z.2.1), (3, .int z.2.2.1), (4, .int z.2.2.2.1), (5, .int z.2.2.2.2.1)] → W p l e rm_X12_odds s m args below meth c H locs 0 0 (MQ below (QI D A r (fl [g12 q o0 a0 T0])) args s 0 0 A) (F0 m 35 ls [])) (fun kz hkz z hz H locs ls hP hD hS hl => b_X12_odds_35 C (fun x1 x2 x3 x4 x5 S0 hz => hkz (x1, x2, x3, x4, x5, S0) hz) hz hP hD hS hl) FU (x1, x2, x3, x4, x5, S0) hF
set_option maxRecDepth 100000 in
set_option maxHeartbeats 4000000 in
theorem c_X12_odds (l : Launch) (D : va_G) (q : Nat → ClassId) (o0 : Nat) (a0 : Nat → Nat) (S0 : St) (sz : Nat) (x1 : Int32) (x2 : Int32) (x3 : Int32) {r : Int32} {T0 : St} (hF : F_X12_odds S0 x1 x2 x3 = some (r, T0)) : Met l yX12_odds (Cond.code yX12_odds cX12_odds 6 (some .int) :: TB) rm_X12_odds (PC D q [.ref o0, .int x1, .int x2, .int x3] (fl [g12 q o0 a0 S0]) sz) ((fun A => QI D A r (fl [g12 q o0 a0 T0])) (va_A (fl [g12 q o0 a0 S0]) sz)) 0 0 (va_A (fl [g12 q o0 a0 S0]) sz) := by
  refine k_met (w0 := fl [g12 q o0 a0 S0]) (Q := fun A => QI D A r (fl [g12 q o0 a0 T0])) (by decide +kernel) (Nat.le_of_ble_eq_true rfl) ?_
  intro p e s m args below meth c A ls C hP hD hS hl
  have hl : lv_has ls 6 [(0, .ref o0), (1, .int x1), (2, .int x2), (3, .int x3)] := hl
  unfold F_X12_odds at hF
  have C : cx p s m args meth c cX12_odds 6 (some .int) RX12 D q A := C
  obtain ⟨hx, hb, hr, hml, hown, hts, hlk, hA, hK, hN, hV⟩ := id C
  refine lv_aload_n hx hb dX12_odds_0 rfl (lv_at hl 0 rfl) ?_
  refine lv_iconst (v := (0 : Int32)) hx hb dX12_odds_1 (by decide) ?_
  obtain ⟨U1, e2, hF⟩ := nw_s hF
  refine k_put (W8 := fl [g12 q o0 a0 U1]) C fp_X12_1 hP hD hS 0 rfl rfl rfl (Nat.le_of_ble_eq_true rfl) dX12_odds_2 (by rw [e2]; rfl) (fun H locs hP hD hS => ?_)
  refine lv_aload_n hx hb dX12_odds_5 rfl (lv_at hl 0 rfl) ?_
  refine lv_iload_n hx hb dX12_odds_6 rfl (lv_at hl 1 rfl) ?_
  obtain ⟨r4, hc3, hF⟩ := ob1_s hF
  refine k_isame C (k_rV (As := [.int x1]) (rest := []) C (c_X12_isPerson l D q o0 a0 U1 _ x1 hc3) kc_X12_isPerson ml_X12_318 rfl rfl (by decide) hP hD hS (va_recv hK hP (ci := 12) (q0 := 0) rfl rfl) rfl hl.1 rfl (Nat.le_of_ble_eq_true rfl) dX12_odds_7 (by decide)) hP hD hS (fun H locs hP hD hS => ?_)
  refine lv_if_eq (tgt := 23) hx hb dX12_odds_10 (by decide) (fun c5 => ?_) (fun c5 => ?_)
  · have hF := op_t hF c5
    refine lv_iconst (v := (-1 : Int32)) hx hb dX12_odds_23 (by decide) ?_
    cases hF
    exact k_iret C hP hS dX12_odds_24
  · have hF := op_f hF c5
    refine lv_iload_n hx hb dX12_odds_13 rfl (lv_at hl 2 rfl) ?_
    refine lv_iconst (v := (1 : Int32)) hx hb dX12_odds_14 (by decide) ?_
    refine lv_bipush (v := (30 : Int32)) hx hb dX12_odds_15 (by decide) ?_
    obtain ⟨r7, hc6, hF⟩ := ob1_s hF
    refine k_inil C (k_rS (As := [.int x2, .int (1 : Int32), .int (30 : Int32)]) (rest := []) C (c_X12_isIn l D q _ x2 (1 : Int32) (30 : Int32) hc6) kc_X12_isIn ml_X12_225 rfl rfl (by decide) (fun k x h => by simp at h) (⟨fun i j x y h => by simp at h, fun k x h => by simp at h⟩ : va_D A []) hS rfl hl.1 rfl (Nat.le_of_ble_eq_true rfl) dX12_odds_17 (by decide)) hP hD hS (fun H locs hP hD hS => ?_)
    refine lv_if_ne (tgt := 25) hx hb dX12_odds_20 (by decide) (fun c8 => ?_) (fun c8 => ?_)
    · have hF := op_f hF c8
      refine lv_aload_n hx hb dX12_odds_25 rfl (lv_at hl 0 rfl) ?_
      obtain ⟨U10, hc9, hF⟩ := ob1_s hF
      refine k_vall C (k_rV (As := []) (rest := []) C (c_X12_tries l D q o0 a0 U1 _ hc9) kc_X12_tries ml_X12_441 rfl rfl (by decide) hP hD hS (va_recv hK hP (ci := 12) (q0 := 0) rfl rfl) rfl hl.1 rfl (Nat.le_of_ble_eq_true rfl) dX12_odds_26 (by decide)) hP hD hS (by simp only [List.map_cons, List.map_nil, gad12]) (fun H locs hP hD hS => ?_)
      refine lv_iconst (v := (0 : Int32)) hx hb dX12_odds_29 (by decide) ?_
      refine lv_istore (lv' := [(4, .int (0 : Int32)), (0, .ref o0), (1, .int x1), (2, .int x2), (3, .int x3)]) hx hb dX12_odds_30 hl (by decide) rfl (fun ls hl => ?_)
      refine lv_iconst (v := (0 : Int32)) hx hb dX12_odds_32 (by decide) ?_
      refine lv_istore (lv' := [(5, .int (0 : Int32)), (4, .int (0 : Int32)), (0, .ref o0), (1, .int x1), (2, .int x2), (3, .int x3)]) hx hb dX12_odds_33 hl (by decide) rfl (fun ls hl => ?_)
      exact l_X12_odds_35 C hF _ _ _ hP hD hS (lv_sub hl [2, 3, 4, 5, 1, 0] rfl)
    · have hF := op_t hF c8
      refine lv_iconst (v := (-1 : Int32)) hx hb dX12_odds_23 (by decide) ?_
      cases hF
      exact k_iret C hP hS dX12_odds_24

abbrev rm_X12_bookLine : Room := ({ frames := 3, cells := 0, slots := 0, locals := 67 } : Room)
def F_X12_bookLine_241 (x1 : Int32) (x2 : Int32) (s0 : Int32) (S0 : St) : Option (Int32 × St) := if oob (x1 + (2 : Int32)) 160 then none else nw (sA S0 8 (x1 + (2 : Int32)) (S0.1 18)) fun U2 => if s0 = 0 then (if nb s0 then none else some (s0, U2)) else (if x2 = 0 then (if nb s0 then none else some (s0, U2)) else (ob2 (F_X12_takesOneOf U2 (5 : Int32) (8 : Int32)) fun r8 U9 => if oob (x1 + (3 : Int32)) 160 then none else nw (sA U9 8 (x1 + (3 : Int32)) (U9.1 18)) fun U11 => if nb r8 then none else some (r8, U11)))
def F_X12_bookLine_154 (x1 : Int32) (s0 : Int32) (S0 : St) : Option (Int32 × St) := if oob (x1 + (1 : Int32)) 160 then none else nw (sA S0 8 (x1 + (1 : Int32)) (S0.1 18)) fun U2 => if nb s0 then none else some (s0, U2)
def F_X12_bookLine_133 (x1 : Int32) (S0 : St) : Option (Int32 × St) := ob2 (F_X12_takes S0 (1 : Int32) (60 : Int32)) fun r2 U3 => F_X12_bookLine_154 x1 r2 U3
def F_X12_bookLine_87 (x1 : Int32) (x2 : Int32) (S0 : St) : Option (Int32 × St) := if (S0.1 38) = (40 : Int32) then (ob2 (F_X12_bad S0 (4 : Int32)) fun r35 U36 => if nb r35 then none else some (r35, U36)) else (ob1 (F_X12_next S0) fun U3 => if x2 ≤ 0 then (ob2 (F_X12_takesOneOf U3 (17 : Int32) (3 : Int32)) fun r6 U7 => if r6 = 0 then (some ((0 : Int32), U7)) else (if oob x1 160 then none else nw (sA U7 8 x1 (U7.1 18)) fun U10 => if oob (x1 + (1 : Int32)) 160 then none else nw (sA U10 8 (x1 + (1 : Int32)) (S0.1 18)) fun U13 => if (U7.1 18) = (1 : Int32) then (some ((1 : Int32), U13)) else (if (U7.1 18) = 0 then (if oob (0 : Int32) 258 then none else ob2 (F_X12_takesName U13 (0 : Int32) (U13.2.2.1 6 (0 : Int32).toNatClampNeg)) fun r23 U24 => F_X12_bookLine_241 x1 (U7.1 18) r23 U24) else (if oob (1 : Int32) 258 then none else ob2 (F_X12_takesName U13 (7 : Int32) (U13.2.2.1 6 (1 : Int32).toNatClampNeg)) fun r19 U20 => F_X12_bookLine_241 x1 (U7.1 18) r19 U20)))) else (if oob x1 160 then none else nw (sA U3 8 x1 x2) fun U26 => if x2 = (3 : Int32) then (F_X12_bookLine_133 x1 U26) else (if x2 = (6 : Int32) then (F_X12_bookLine_133 x1 U26) else (if oob (0 : Int32) 258 then none else ob2 (F_X12_takesName U26 (0 : Int32) (U26.2.2.1 6 (0 : Int32).toNatClampNeg)) fun r32 U33 => F_X12_bookLine_154 x1 r32 U33))))
def F_X12_bookLine_65 (x1 : Int32) (s0 : Int32) (S0 : St) : Option (Int32 × St) := if s0 = 0 then (if oob (1 : Int32) 258 then none else ob2 (F_X12_looksAt S0 (7 : Int32) (S0.2.2.1 6 (1 : Int32).toNatClampNeg)) fun r4 U5 => if r4 = 0 then (some ((0 : Int32), U5)) else (F_X12_bookLine_87 x1 s0 U5)) else (F_X12_bookLine_87 x1 s0 S0)
def F_X12_bookLine (S0 : St) : Option (Int32 × St) := ob1 (F_X12_isWord S0 (495874699885 : Int64)) fun r2 => if r2 = 0 then (ob1 (F_X12_isWord S0 (2002873452 : Int64)) fun r5 => if r5 = 0 then (ob1 (F_X12_isWord S0 (129117309725804 : Int64)) fun r8 => if r8 = 0 then (ob1 (F_X12_isWord S0 (6578553 : Int64)) fun r11 => if r11 = 0 then (F_X12_bookLine_65 ((4 : Int32) * (S0.1 38)) (0 : Int32) S0) else (F_X12_bookLine_65 ((4 : Int32) * (S0.1 38)) (6 : Int32) S0)) else (F_X12_bookLine_65 ((4 : Int32) * (S0.1 38)) (5 : Int32) S0)) else (F_X12_bookLine_65 ((4 : Int32) * (S0.1 38)) (4 : Int32) S0)) else (F_X12_bookLine_65 ((4 : Int32) * (S0.1 38)) (3 : Int32) S0)
set_option maxRecDepth 100000 in
set_option maxHeartbeats 4000000 in
theorem b_X12_bookLine_241 {p : Program} {l : Launch} {e : Env} {s : State} {m : MethodId} {args : Array Value} {below : List Frame} {meth : Method} {c : Code} {D : va_G} {q : Nat → ClassId} {A : Nat → Prop} {o0 : Nat} {a0 : Nat → Nat} {r : Int32} {T0 : St} (C : cx p s m args meth c cX12_bookLine 5 (some .boolean) RX12 D q A) {x1 : Int32} {x2 : Int32} {s0 : Int32} {S0 : St} (hF : F_X12_bookLine_241 x1 x2 s0 S0 = some (r, T0)) {H : Heap} {locs : List Loc} (hP : va_P D vwCl (fl [g12 q o0 a0 S0]) H) (hD : va_D A (fl [g12 q o0 a0 S0])) (hS : va_S A s.heap H locs) {ls : Array Slot} (hl : lv_has ls 5 [(0, .ref o0), (1, .int x1), (2, .int x2)]) : W p l e rm_X12_bookLine s m args below meth c H locs 0 0 (MQ below (QI D A r (fl [g12 q o0 a0 T0])) args s 0 0 A) (F0 m 241 ls [.int s0]) := by
  unfold F_X12_bookLine_241 at hF
  obtain ⟨hx, hb, hr, hml, hown, hts, hlk, hA, hK, hN, hV⟩ := id C
  refine lv_istore (lv' := [(4, .int s0), (0, .ref o0), (1, .int x1), (2, .int x2)]) hx hb dX12_bookLine_241 hl (by decide) rfl (fun ls hl => ?_)
  refine lv_aload_n hx hb dX12_bookLine_243 rfl (lv_at hl 1 rfl) ?_
  refine k_get (v := .ref (a0 9)) C fg_X12_40 hP 0 rfl rfl dX12_bookLine_244 ?_
  refine lv_iload_n hx hb dX12_bookLine_247 rfl (lv_at hl 2 rfl) ?_
  refine lv_iconst (v := (2 : Int32)) hx hb dX12_bookLine_248 (by decide) ?_
  refine lv_iadd hx hb dX12_bookLine_249 ?_
  refine lv_aload_n hx hb dX12_bookLine_250 rfl (lv_at hl 1 rfl) ?_
  refine k_get (v := .int (S0.1 18)) C fg_X12_229 hP 0 rfl rfl dX12_bookLine_251 ?_
  obtain ⟨h1, hF⟩ := op_ck hF
  obtain ⟨U2, e3, hF⟩ := nw_s hF
  refine k_ist (f := S0.2.2.1 8) (W8 := fl [g12 q o0 a0 U2]) C hP hD hS 4 rfl h1 dX12_bookLine_254 (by rw [e3]; rfl) (fun H locs hP hD hS => ?_)
  refine lv_iload hx hb dX12_bookLine_255 (lv_at hl 0 rfl) ?_
  refine lv_if_eq (tgt := 264) hx hb dX12_bookLine_257 (by decide) (fun c4 => ?_) (fun c4 => ?_)
  · have hF := op_t hF c4
    refine lv_iload hx hb dX12_bookLine_264 (lv_at hl 0 rfl) ?_
    obtain ⟨h5, hF⟩ := op_ck hF
    cases hF
    exact k_zret C h5 hP hS dX12_bookLine_266
  · have hF := op_f hF c4
    refine lv_iload_n hx hb dX12_bookLine_260 rfl (lv_at hl 3 rfl) ?_
    refine lv_if_ne (tgt := 267) hx hb dX12_bookLine_261 (by decide) (fun c6 => ?_) (fun c6 => ?_)
    · have hF := op_f hF c6
      refine lv_aload_n hx hb dX12_bookLine_267 rfl (lv_at hl 1 rfl) ?_
      refine lv_iconst (v := (5 : Int32)) hx hb dX12_bookLine_268 (by decide) ?_
      refine lv_bipush (v := (8 : Int32)) hx hb dX12_bookLine_269 (by decide) ?_
      obtain ⟨r8, U9, hc7, hF⟩ := ob2_s hF
      refine k_iall C (k_rV (As := [.int (5 : Int32), .int (8 : Int32)]) (rest := []) C (c_X12_takesOneOf l D q o0 a0 U2 _ (5 : Int32) (8 : Int32) hc7) kc_X12_takesOneOf ml_X12_266 rfl rfl (by decide) hP hD hS (va_recv hK hP (ci := 12) (q0 := 0) rfl rfl) rfl hl.1 rfl (Nat.le_of_ble_eq_true rfl) dX12_bookLine_271 (by decide)) hP hD hS (by simp only [List.map_cons, List.map_nil, gad12]) (fun H locs hP hD hS => ?_)
      refine lv_istore (lv' := [(4, .int r8), (0, .ref o0), (1, .int x1), (2, .int x2)]) hx hb dX12_bookLine_274 hl (by decide) rfl (fun ls hl => ?_)
      refine lv_aload_n hx hb dX12_bookLine_276 rfl (lv_at hl 1 rfl) ?_
      refine k_get (v := .ref (a0 9)) C fg_X12_40 hP 0 rfl rfl dX12_bookLine_277 ?_
      refine lv_iload_n hx hb dX12_bookLine_280 rfl (lv_at hl 2 rfl) ?_
      refine lv_iconst (v := (3 : Int32)) hx hb dX12_bookLine_281 (by decide) ?_
      refine lv_iadd hx hb dX12_bookLine_282 ?_
      refine lv_aload_n hx hb dX12_bookLine_283 rfl (lv_at hl 1 rfl) ?_
      refine k_get (v := .int (U9.1 18)) C fg_X12_229 hP 0 rfl rfl dX12_bookLine_284 ?_
      obtain ⟨h10, hF⟩ := op_ck hF
      obtain ⟨U11, e12, hF⟩ := nw_s hF
      refine k_ist (f := U9.2.2.1 8) (W8 := fl [g12 q o0 a0 U11]) C hP hD hS 4 rfl h10 dX12_bookLine_287 (by rw [e12]; rfl) (fun H locs hP hD hS => ?_)
      refine lv_iload hx hb dX12_bookLine_288 (lv_at hl 0 rfl) ?_
      obtain ⟨h13, hF⟩ := op_ck hF
      cases hF
      exact k_zret C h13 hP hS dX12_bookLine_290
    · have hF := op_t hF c6
      refine lv_iload hx hb dX12_bookLine_264 (lv_at hl 0 rfl) ?_
      obtain ⟨h14, hF⟩ := op_ck hF
      cases hF
      exact k_zret C h14 hP hS dX12_bookLine_266
set_option maxRecDepth 100000 in
set_option maxHeartbeats 4000000 in
theorem b_X12_bookLine_154 {p : Program} {l : Launch} {e : Env} {s : State} {m : MethodId} {args : Array Value} {below : List Frame} {meth : Method} {c : Code} {D : va_G} {q : Nat → ClassId} {A : Nat → Prop} {o0 : Nat} {a0 : Nat → Nat} {r : Int32} {T0 : St} (C : cx p s m args meth c cX12_bookLine 5 (some .boolean) RX12 D q A) {x1 : Int32} {s0 : Int32} {S0 : St} (hF : F_X12_bookLine_154 x1 s0 S0 = some (r, T0)) {H : Heap} {locs : List Loc} (hP : va_P D vwCl (fl [g12 q o0 a0 S0]) H) (hD : va_D A (fl [g12 q o0 a0 S0])) (hS : va_S A s.heap H locs) {ls : Array Slot} (hl : lv_has ls 5 [(0, .ref o0), (1, .int x1)]) : W p l e rm_X12_bookLine s m args below meth c H locs 0 0 (MQ below (QI D A r (fl [g12 q o0 a0 T0])) args s 0 0 A) (F0 m 154 ls [.int s0]) := by
  unfold F_X12_bookLine_154 at hF
  obtain ⟨hx, hb, hr, hml, hown, hts, hlk, hA, hK, hN, hV⟩ := id C
  refine lv_istore (lv' := [(4, .int s0), (0, .ref o0), (1, .int x1)]) hx hb dX12_bookLine_154 hl (by decide) rfl (fun ls hl => ?_)
  refine lv_aload_n hx hb dX12_bookLine_156 rfl (lv_at hl 1 rfl) ?_
  refine k_get (v := .ref (a0 9)) C fg_X12_40 hP 0 rfl rfl dX12_bookLine_157 ?_
  refine lv_iload_n hx hb dX12_bookLine_160 rfl (lv_at hl 2 rfl) ?_
  refine lv_iconst (v := (1 : Int32)) hx hb dX12_bookLine_161 (by decide) ?_
  refine lv_iadd hx hb dX12_bookLine_162 ?_
  refine lv_aload_n hx hb dX12_bookLine_163 rfl (lv_at hl 1 rfl) ?_
  refine k_get (v := .int (S0.1 18)) C fg_X12_229 hP 0 rfl rfl dX12_bookLine_164 ?_
  obtain ⟨h1, hF⟩ := op_ck hF
  obtain ⟨U2, e3, hF⟩ := nw_s hF
  refine k_ist (f := S0.2.2.1 8) (W8 := fl [g12 q o0 a0 U2]) C hP hD hS 4 rfl h1 dX12_bookLine_167 (by rw [e3]; rfl) (fun H locs hP hD hS => ?_)
  refine lv_iload hx hb dX12_bookLine_168 (lv_at hl 0 rfl) ?_
  obtain ⟨h4, hF⟩ := op_ck hF
  cases hF
  exact k_zret C h4 hP hS dX12_bookLine_170
set_option maxRecDepth 100000 in
set_option maxHeartbeats 4000000 in
theorem b_X12_bookLine_133 {p : Program} {l : Launch} {e : Env} {s : State} {m : MethodId} {args : Array Value} {below : List Frame} {meth : Method} {c : Code} {D : va_G} {q : Nat → ClassId} {A : Nat → Prop} {o0 : Nat} {a0 : Nat → Nat} {r : Int32} {T0 : St} (C : cx p s m args meth c cX12_bookLine 5 (some .boolean) RX12 D q A) {x1 : Int32} {S0 : St} (hF : F_X12_bookLine_133 x1 S0 = some (r, T0)) {H : Heap} {locs : List Loc} (hP : va_P D vwCl (fl [g12 q o0 a0 S0]) H) (hD : va_D A (fl [g12 q o0 a0 S0])) (hS : va_S A s.heap H locs) {ls : Array Slot} (hl : lv_has ls 5 [(0, .ref o0), (1, .int x1)]) : W p l e rm_X12_bookLine s m args below meth c H locs 0 0 (MQ below (QI D A r (fl [g12 q o0 a0 T0])) args s 0 0 A) (F0 m 133 ls []) := by
  unfold F_X12_bookLine_133 at hF
  obtain ⟨hx, hb, hr, hml, hown, hts, hlk, hA, hK, hN, hV⟩ := id C
  refine lv_aload_n hx hb dX12_bookLine_133 rfl (lv_at hl 0 rfl) ?_
  refine lv_iconst (v := (1 : Int32)) hx hb dX12_bookLine_134 (by decide) ?_
  refine lv_bipush (v := (60 : Int32)) hx hb dX12_bookLine_135 (by decide) ?_
  obtain ⟨r2, U3, hc1, hF⟩ := ob2_s hF
  refine k_iall C (k_rV (As := [.int (1 : Int32), .int (60 : Int32)]) (rest := []) C (c_X12_takes l D q o0 a0 S0 _ (1 : Int32) (60 : Int32) hc1) kc_X12_takes ml_X12_232 rfl rfl (by decide) hP hD hS (va_recv hK hP (ci := 12) (q0 := 0) rfl rfl) rfl hl.1 rfl (Nat.le_of_ble_eq_true rfl) dX12_bookLine_137 (by decide)) hP hD hS (by simp only [List.map_cons, List.map_nil, gad12]) (fun H locs hP hD hS => ?_)
  refine lv_goto (tgt := 154) hx hb dX12_bookLine_140 (by decide) ?_
  exact b_X12_bookLine_154 C hF hP hD hS (lv_sub hl [0, 1] rfl)
set_option maxRecDepth 100000 in
set_option maxHeartbeats 4000000 in
theorem b_X12_bookLine_87 {p : Program} {l : Launch} {e : Env} {s : State} {m : MethodId} {args : Array Value} {below : List Frame} {meth : Method} {c : Code} {D : va_G} {q : Nat → ClassId} {A : Nat → Prop} {o0 : Nat} {a0 : Nat → Nat} {r : Int32} {T0 : St} (C : cx p s m args meth c cX12_bookLine 5 (some .boolean) RX12 D q A) {x1 : Int32} {x2 : Int32} {S0 : St} (hF : F_X12_bookLine_87 x1 x2 S0 = some (r, T0)) {H : Heap} {locs : List Loc} (hP : va_P D vwCl (fl [g12 q o0 a0 S0]) H) (hD : va_D A (fl [g12 q o0 a0 S0])) (hS : va_S A s.heap H locs) {ls : Array Slot} (hl : lv_has ls 5 [(0, .ref o0), (1, .int x1), (2, .int x2)]) : W p l e rm_X12_bookLine s m args below meth c H locs 0 0 (MQ below (QI D A r (fl [g12 q o0 a0 T0])) args s 0 0 A) (F0 m 87 ls []) := by
  unfold F_X12_bookLine_87 at hF
  obtain ⟨hx, hb, hr, hml, hown, hts, hlk, hA, hK, hN, hV⟩ := id C
  refine lv_aload_n hx hb dX12_bookLine_87 rfl (lv_at hl 0 rfl) ?_
  refine k_get (v := .int (S0.1 38)) C fg_X12_447 hP 0 rfl rfl dX12_bookLine_88 ?_
  refine lv_bipush (v := (40 : Int32)) hx hb dX12_bookLine_91 (by decide) ?_
  refine lv_icmp_ne (tgt := 102) hx hb dX12_bookLine_93 (by decide) (fun c1 => ?_) (fun c1 => ?_)
  · have hF := op_f hF c1
    refine lv_aload_n hx hb dX12_bookLine_102 rfl (lv_at hl 0 rfl) ?_
    refine k_get (v := .int (S0.1 18)) C fg_X12_229 hP 0 rfl rfl dX12_bookLine_103 ?_
    refine lv_istore_n (lv' := [(3, .int (S0.1 18)), (0, .ref o0), (1, .int x1), (2, .int x2)]) hx hb dX12_bookLine_106 rfl hl (by decide) rfl (fun ls hl => ?_)
    refine lv_aload_n hx hb dX12_bookLine_107 rfl (lv_at hl 1 rfl) ?_
    obtain ⟨U3, hc2, hF⟩ := ob1_s hF
    refine k_vall C (k_rV (As := []) (rest := []) C (c_X12_next l D q o0 a0 S0 _ hc2) kc_X12_next ml_X12_222 rfl rfl (by decide) hP hD hS (va_recv hK hP (ci := 12) (q0 := 0) rfl rfl) rfl hl.1 rfl (Nat.le_of_ble_eq_true rfl) dX12_bookLine_108 (by decide)) hP hD hS (by simp only [List.map_cons, List.map_nil, gad12]) (fun H locs hP hD hS => ?_)
    refine lv_iload_n hx hb dX12_bookLine_111 rfl (lv_at hl 3 rfl) ?_
    refine lv_if_le (tgt := 171) hx hb dX12_bookLine_112 (by decide) (fun c4 => ?_) (fun c4 => ?_)
    · have hF := op_t hF c4
      refine lv_aload_n hx hb dX12_bookLine_171 rfl (lv_at hl 1 rfl) ?_
      refine lv_bipush (v := (17 : Int32)) hx hb dX12_bookLine_172 (by decide) ?_
      refine lv_iconst (v := (3 : Int32)) hx hb dX12_bookLine_174 (by decide) ?_
      obtain ⟨r6, U7, hc5, hF⟩ := ob2_s hF
      refine k_iall C (k_rV (As := [.int (17 : Int32), .int (3 : Int32)]) (rest := []) C (c_X12_takesOneOf l D q o0 a0 U3 _ (17 : Int32) (3 : Int32) hc5) kc_X12_takesOneOf ml_X12_266 rfl rfl (by decide) hP hD hS (va_recv hK hP (ci := 12) (q0 := 0) rfl rfl) rfl hl.1 rfl (Nat.le_of_ble_eq_true rfl) dX12_bookLine_175 (by decide)) hP hD hS (by simp only [List.map_cons, List.map_nil, gad12]) (fun H locs hP hD hS => ?_)
      refine lv_if_ne (tgt := 183) hx hb dX12_bookLine_178 (by decide) (fun c8 => ?_) (fun c8 => ?_)
      · have hF := op_f hF c8
        refine lv_aload_n hx hb dX12_bookLine_183 rfl (lv_at hl 1 rfl) ?_
        refine k_get (v := .int (U7.1 18)) C fg_X12_229 hP 0 rfl rfl dX12_bookLine_184 ?_
        refine lv_istore_n (lv' := [(2, .int (U7.1 18)), (3, .int (S0.1 18)), (0, .ref o0), (1, .int x1)]) hx hb dX12_bookLine_187 rfl hl (by decide) rfl (fun ls hl => ?_)
        refine lv_aload_n hx hb dX12_bookLine_188 rfl (lv_at hl 2 rfl) ?_
        refine k_get (v := .ref (a0 9)) C fg_X12_40 hP 0 rfl rfl dX12_bookLine_189 ?_
        refine lv_iload_n hx hb dX12_bookLine_192 rfl (lv_at hl 3 rfl) ?_
        refine lv_iload_n hx hb dX12_bookLine_193 rfl (lv_at hl 0 rfl) ?_
        obtain ⟨h9, hF⟩ := op_ck hF
        obtain ⟨U10, e11, hF⟩ := nw_s hF
        refine k_ist (f := U7.2.2.1 8) (W8 := fl [g12 q o0 a0 U10]) C hP hD hS 4 rfl h9 dX12_bookLine_194 (by rw [e11]; rfl) (fun H locs hP hD hS => ?_)
        refine lv_aload_n hx hb dX12_bookLine_195 rfl (lv_at hl 2 rfl) ?_
        refine k_get (v := .ref (a0 9)) C fg_X12_40 hP 0 rfl rfl dX12_bookLine_196 ?_
        refine lv_iload_n hx hb dX12_bookLine_199 rfl (lv_at hl 3 rfl) ?_
        refine lv_iconst (v := (1 : Int32)) hx hb dX12_bookLine_200 (by decide) ?_
        refine lv_iadd hx hb dX12_bookLine_201 ?_
        refine lv_iload_n hx hb dX12_bookLine_202 rfl (lv_at hl 1 rfl) ?_
        obtain ⟨h12, hF⟩ := op_ck hF
        obtain ⟨U13, e14, hF⟩ := nw_s hF
        refine k_ist (f := U10.2.2.1 8) (W8 := fl [g12 q o0 a0 U13]) C hP hD hS 4 rfl h12 dX12_bookLine_203 (by rw [e14]; rfl) (fun H locs hP hD hS => ?_)
        refine lv_iload_n hx hb dX12_bookLine_204 rfl (lv_at hl 0 rfl) ?_
        refine lv_iconst (v := (1 : Int32)) hx hb dX12_bookLine_205 (by decide) ?_
        refine lv_icmp_ne (tgt := 211) hx hb dX12_bookLine_206 (by decide) (fun c15 => ?_) (fun c15 => ?_)
        · have hF := op_f hF c15
          refine lv_iload_n hx hb dX12_bookLine_211 rfl (lv_at hl 0 rfl) ?_
          refine lv_if_ne (tgt := 229) hx hb dX12_bookLine_212 (by decide) (fun c16 => ?_) (fun c16 => ?_)
          · have hF := op_f hF c16
            refine lv_aload_n hx hb dX12_bookLine_229 rfl (lv_at hl 2 rfl) ?_
            refine lv_bipush (v := (7 : Int32)) hx hb dX12_bookLine_230 (by decide) ?_
            refine lv_aload_n hx hb dX12_bookLine_232 rfl (lv_at hl 2 rfl) ?_
            refine k_get (v := .ref (a0 7)) C fg_X12_33 hP 0 rfl rfl dX12_bookLine_233 ?_
            refine lv_iconst (v := (1 : Int32)) hx hb dX12_bookLine_236 (by decide) ?_
            obtain ⟨h17, hF⟩ := op_ck hF
            refine k_ild (f := U13.2.2.1 6) C hP 2 rfl h17 dX12_bookLine_237 ?_
            obtain ⟨r19, U20, hc18, hF⟩ := ob2_s hF
            refine k_iall C (k_rV (As := [.int (7 : Int32), .int (U13.2.2.1 6 (1 : Int32).toNatClampNeg)]) (rest := []) C (c_X12_takesName l D q o0 a0 U13 _ (7 : Int32) (U13.2.2.1 6 (1 : Int32).toNatClampNeg) hc18) kc_X12_takesName ml_X12_272 rfl rfl (by decide) hP hD hS (va_recv hK hP (ci := 12) (q0 := 0) rfl rfl) rfl hl.1 rfl (Nat.le_of_ble_eq_true rfl) dX12_bookLine_238 (by decide)) hP hD hS (by simp only [List.map_cons, List.map_nil, gad12]) (fun H locs hP hD hS => ?_)
            exact b_X12_bookLine_241 C hF hP hD hS (lv_sub hl [2, 3, 0] rfl)
          · have hF := op_t hF c16
            refine lv_aload_n hx hb dX12_bookLine_215 rfl (lv_at hl 2 rfl) ?_
            refine lv_iconst (v := (0 : Int32)) hx hb dX12_bookLine_216 (by decide) ?_
            refine lv_aload_n hx hb dX12_bookLine_217 rfl (lv_at hl 2 rfl) ?_
            refine k_get (v := .ref (a0 7)) C fg_X12_33 hP 0 rfl rfl dX12_bookLine_218 ?_
            refine lv_iconst (v := (0 : Int32)) hx hb dX12_bookLine_221 (by decide) ?_
            obtain ⟨h21, hF⟩ := op_ck hF
            refine k_ild (f := U13.2.2.1 6) C hP 2 rfl h21 dX12_bookLine_222 ?_
            obtain ⟨r23, U24, hc22, hF⟩ := ob2_s hF
            refine k_iall C (k_rV (As := [.int (0 : Int32), .int (U13.2.2.1 6 (0 : Int32).toNatClampNeg)]) (rest := []) C (c_X12_takesName l D q o0 a0 U13 _ (0 : Int32) (U13.2.2.1 6 (0 : Int32).toNatClampNeg) hc22) kc_X12_takesName ml_X12_272 rfl rfl (by decide) hP hD hS (va_recv hK hP (ci := 12) (q0 := 0) rfl rfl) rfl hl.1 rfl (Nat.le_of_ble_eq_true rfl) dX12_bookLine_223 (by decide)) hP hD hS (by simp only [List.map_cons, List.map_nil, gad12]) (fun H locs hP hD hS => ?_)
            refine lv_goto (tgt := 241) hx hb dX12_bookLine_226 (by decide) ?_
            exact b_X12_bookLine_241 C hF hP hD hS (lv_sub hl [2, 3, 0] rfl)
        · have hF := op_t hF c15
          refine lv_iconst (v := (1 : Int32)) hx hb dX12_bookLine_209 (by decide) ?_
          cases hF
          exact k_zret C (by decide) hP hS dX12_bookLine_210
      · have hF := op_t hF c8
        refine lv_iconst (v := (0 : Int32)) hx hb dX12_bookLine_181 (by decide) ?_
        cases hF
        exact k_zret C (by decide) hP hS dX12_bookLine_182
    · have hF := op_f hF c4
      refine lv_aload_n hx hb dX12_bookLine_115 rfl (lv_at hl 1 rfl) ?_
      refine k_get (v := .ref (a0 9)) C fg_X12_40 hP 0 rfl rfl dX12_bookLine_116 ?_
      refine lv_iload_n hx hb dX12_bookLine_119 rfl (lv_at hl 2 rfl) ?_
      refine lv_iload_n hx hb dX12_bookLine_120 rfl (lv_at hl 3 rfl) ?_
      obtain ⟨h25, hF⟩ := op_ck hF
      obtain ⟨U26, e27, hF⟩ := nw_s hF
      refine k_ist (f := U3.2.2.1 8) (W8 := fl [g12 q o0 a0 U26]) C hP hD hS 4 rfl h25 dX12_bookLine_121 (by rw [e27]; rfl) (fun H locs hP hD hS => ?_)
      refine lv_iload_n hx hb dX12_bookLine_122 rfl (lv_at hl 3 rfl) ?_
      refine lv_iconst (v := (3 : Int32)) hx hb dX12_bookLine_123 (by decide) ?_
      refine lv_icmp_eq (tgt := 133) hx hb dX12_bookLine_124 (by decide) (fun c28 => ?_) (fun c28 => ?_)
      · have hF := op_t hF c28
        exact b_X12_bookLine_133 C hF hP hD hS (lv_sub hl [1, 2] rfl)
      · have hF := op_f hF c28
        refine lv_iload_n hx hb dX12_bookLine_127 rfl (lv_at hl 3 rfl) ?_
        refine lv_bipush (v := (6 : Int32)) hx hb dX12_bookLine_128 (by decide) ?_
        refine lv_icmp_ne (tgt := 143) hx hb dX12_bookLine_130 (by decide) (fun c29 => ?_) (fun c29 => ?_)
        · have hF := op_f hF c29
          refine lv_aload_n hx hb dX12_bookLine_143 rfl (lv_at hl 1 rfl) ?_
          refine lv_iconst (v := (0 : Int32)) hx hb dX12_bookLine_144 (by decide) ?_
          refine lv_aload_n hx hb dX12_bookLine_145 rfl (lv_at hl 1 rfl) ?_
          refine k_get (v := .ref (a0 7)) C fg_X12_33 hP 0 rfl rfl dX12_bookLine_146 ?_
          refine lv_iconst (v := (0 : Int32)) hx hb dX12_bookLine_149 (by decide) ?_
          obtain ⟨h30, hF⟩ := op_ck hF
          refine k_ild (f := U26.2.2.1 6) C hP 2 rfl h30 dX12_bookLine_150 ?_
          obtain ⟨r32, U33, hc31, hF⟩ := ob2_s hF
          refine k_iall C (k_rV (As := [.int (0 : Int32), .int (U26.2.2.1 6 (0 : Int32).toNatClampNeg)]) (rest := []) C (c_X12_takesName l D q o0 a0 U26 _ (0 : Int32) (U26.2.2.1 6 (0 : Int32).toNatClampNeg) hc31) kc_X12_takesName ml_X12_272 rfl rfl (by decide) hP hD hS (va_recv hK hP (ci := 12) (q0 := 0) rfl rfl) rfl hl.1 rfl (Nat.le_of_ble_eq_true rfl) dX12_bookLine_151 (by decide)) hP hD hS (by simp only [List.map_cons, List.map_nil, gad12]) (fun H locs hP hD hS => ?_)
          exact b_X12_bookLine_154 C hF hP hD hS (lv_sub hl [1, 2] rfl)
        · have hF := op_t hF c29
          exact b_X12_bookLine_133 C hF hP hD hS (lv_sub hl [1, 2] rfl)
  · have hF := op_t hF c1
    refine lv_aload_n hx hb dX12_bookLine_96 rfl (lv_at hl 0 rfl) ?_
    refine lv_iconst (v := (4 : Int32)) hx hb dX12_bookLine_97 (by decide) ?_
    obtain ⟨r35, U36, hc34, hF⟩ := ob2_s hF
    refine k_iall C (k_rV (As := [.int (4 : Int32)]) (rest := []) C (c_X12_bad l D q o0 a0 S0 _ (4 : Int32) hc34) kc_X12_bad ml_X12_219 rfl rfl (by decide) hP hD hS (va_recv hK hP (ci := 12) (q0 := 0) rfl rfl) rfl hl.1 rfl (Nat.le_of_ble_eq_true rfl) dX12_bookLine_98 (by decide)) hP hD hS (by simp only [List.map_cons, List.map_nil, gad12]) (fun H locs hP hD hS => ?_)
    obtain ⟨h37, hF⟩ := op_ck hF
    cases hF
    exact k_zret C h37 hP hS dX12_bookLine_101
set_option maxRecDepth 100000 in
set_option maxHeartbeats 4000000 in
theorem b_X12_bookLine_65 {p : Program} {l : Launch} {e : Env} {s : State} {m : MethodId} {args : Array Value} {below : List Frame} {meth : Method} {c : Code} {D : va_G} {q : Nat → ClassId} {A : Nat → Prop} {o0 : Nat} {a0 : Nat → Nat} {r : Int32} {T0 : St} (C : cx p s m args meth c cX12_bookLine 5 (some .boolean) RX12 D q A) {x1 : Int32} {s0 : Int32} {S0 : St} (hF : F_X12_bookLine_65 x1 s0 S0 = some (r, T0)) {H : Heap} {locs : List Loc} (hP : va_P D vwCl (fl [g12 q o0 a0 S0]) H) (hD : va_D A (fl [g12 q o0 a0 S0])) (hS : va_S A s.heap H locs) {ls : Array Slot} (hl : lv_has ls 5 [(0, .ref o0), (1, .int x1)]) : W p l e rm_X12_bookLine s m args below meth c H locs 0 0 (MQ below (QI D A r (fl [g12 q o0 a0 T0])) args s 0 0 A) (F0 m 65 ls [.int s0]) := by
  unfold F_X12_bookLine_65 at hF
  obtain ⟨hx, hb, hr, hml, hown, hts, hlk, hA, hK, hN, hV⟩ := id C
  refine lv_istore_n (lv' := [(2, .int s0), (0, .ref o0), (1, .int x1)]) hx hb dX12_bookLine_65 rfl hl (by decide) rfl (fun ls hl => ?_)
  refine lv_iload_n hx hb dX12_bookLine_66 rfl (lv_at hl 0 rfl) ?_
  refine lv_if_ne (tgt := 87) hx hb dX12_bookLine_67 (by decide) (fun c1 => ?_) (fun c1 => ?_)
  · have hF := op_f hF c1
    exact b_X12_bookLine_87 C hF hP hD hS (lv_sub hl [1, 2, 0] rfl)
  · have hF := op_t hF c1
    refine lv_aload_n hx hb dX12_bookLine_70 rfl (lv_at hl 1 rfl) ?_
    refine lv_bipush (v := (7 : Int32)) hx hb dX12_bookLine_71 (by decide) ?_
    refine lv_aload_n hx hb dX12_bookLine_73 rfl (lv_at hl 1 rfl) ?_
    refine k_get (v := .ref (a0 7)) C fg_X12_33 hP 0 rfl rfl dX12_bookLine_74 ?_
    refine lv_iconst (v := (1 : Int32)) hx hb dX12_bookLine_77 (by decide) ?_
    obtain ⟨h2, hF⟩ := op_ck hF
    refine k_ild (f := S0.2.2.1 6) C hP 2 rfl h2 dX12_bookLine_78 ?_
    obtain ⟨r4, U5, hc3, hF⟩ := ob2_s hF
    refine k_iall C (k_rV (As := [.int (7 : Int32), .int (S0.2.2.1 6 (1 : Int32).toNatClampNeg)]) (rest := []) C (c_X12_looksAt l D q o0 a0 S0 _ (7 : Int32) (S0.2.2.1 6 (1 : Int32).toNatClampNeg) hc3) kc_X12_looksAt ml_X12_247 rfl rfl (by decide) hP hD hS (va_recv hK hP (ci := 12) (q0 := 0) rfl rfl) rfl hl.1 rfl (Nat.le_of_ble_eq_true rfl) dX12_bookLine_79 (by decide)) hP hD hS (by simp only [List.map_cons, List.map_nil, gad12]) (fun H locs hP hD hS => ?_)
    refine lv_if_ne (tgt := 87) hx hb dX12_bookLine_82 (by decide) (fun c6 => ?_) (fun c6 => ?_)
    · have hF := op_f hF c6
      exact b_X12_bookLine_87 C hF hP hD hS (lv_sub hl [1, 2, 0] rfl)
    · have hF := op_t hF c6
      refine lv_iconst (v := (0 : Int32)) hx hb dX12_bookLine_85 (by decide) ?_
      cases hF
      exact k_zret C (by decide) hP hS dX12_bookLine_86
set_option maxRecDepth 100000 in
set_option maxHeartbeats 4000000 in
theorem c_X12_bookLine (l : Launch) (D : va_G) (q : Nat → ClassId) (o0 : Nat) (a0 : Nat → Nat) (S0 : St) (sz : Nat) {r : Int32} {T0 : St} (hF : F_X12_bookLine S0 = some (r, T0)) : Met l yX12_bookLine (Cond.code yX12_bookLine cX12_bookLine 5 (some .boolean) :: TB) rm_X12_bookLine (PC D q [.ref o0] (fl [g12 q o0 a0 S0]) sz) ((fun A => QI D A r (fl [g12 q o0 a0 T0])) (va_A (fl [g12 q o0 a0 S0]) sz)) 0 0 (va_A (fl [g12 q o0 a0 S0]) sz) := by
  refine k_met (w0 := fl [g12 q o0 a0 S0]) (Q := fun A => QI D A r (fl [g12 q o0 a0 T0])) (by decide +kernel) (Nat.le_of_ble_eq_true rfl) ?_
  intro p e s m args below meth c A ls C hP hD hS hl
  have hl : lv_has ls 5 [(0, .ref o0)] := hl
  unfold F_X12_bookLine at hF
  have C : cx p s m args meth c cX12_bookLine 5 (some .boolean) RX12 D q A := C
  obtain ⟨hx, hb, hr, hml, hown, hts, hlk, hA, hK, hN, hV⟩ := id C
  refine lv_iconst (v := (4 : Int32)) hx hb dX12_bookLine_0 (by decide) ?_
  refine lv_aload_n hx hb dX12_bookLine_1 rfl (lv_at hl 0 rfl) ?_
  refine k_get (v := .int (S0.1 38)) C fg_X12_447 hP 0 rfl rfl dX12_bookLine_2 ?_
  refine lv_imul hx hb dX12_bookLine_5 ?_
  refine lv_istore_n (lv' := [(1, .int ((4 : Int32) * (S0.1 38))), (0, .ref o0)]) hx hb dX12_bookLine_6 rfl hl (by decide) rfl (fun ls hl => ?_)
  refine lv_aload_n hx hb dX12_bookLine_7 rfl (lv_at hl 1 rfl) ?_
  refine lv_ldc2 (v := (495874699885 : Int64)) hx hb hown (hts _ kL_X12_148) dX12_bookLine_8 ?_
  obtain ⟨r2, hc1, hF⟩ := ob1_s hF
  refine k_isame C (k_rV (As := [.long (495874699885 : Int64)]) (rest := []) C (c_X12_isWord l D q o0 a0 S0 _ (495874699885 : Int64) hc1) kc_X12_isWord ml_X12_250 rfl rfl (by decide) hP hD hS (va_recv hK hP (ci := 12) (q0 := 0) rfl rfl) rfl hl.1 rfl (Nat.le_of_ble_eq_true rfl) dX12_bookLine_11 (by decide)) hP hD hS (fun H locs hP hD hS => ?_)
  refine lv_if_eq (tgt := 21) hx hb dX12_bookLine_14 (by decide) (fun c3 => ?_) (fun c3 => ?_)
  · have hF := op_t hF c3
    refine lv_aload_n hx hb dX12_bookLine_21 rfl (lv_at hl 1 rfl) ?_
    refine lv_ldc2 (v := (2002873452 : Int64)) hx hb hown (hts _ kL_X12_150) dX12_bookLine_22 ?_
    obtain ⟨r5, hc4, hF⟩ := ob1_s hF
    refine k_isame C (k_rV (As := [.long (2002873452 : Int64)]) (rest := []) C (c_X12_isWord l D q o0 a0 S0 _ (2002873452 : Int64) hc4) kc_X12_isWord ml_X12_250 rfl rfl (by decide) hP hD hS (va_recv hK hP (ci := 12) (q0 := 0) rfl rfl) rfl hl.1 rfl (Nat.le_of_ble_eq_true rfl) dX12_bookLine_25 (by decide)) hP hD hS (fun H locs hP hD hS => ?_)
    refine lv_if_eq (tgt := 35) hx hb dX12_bookLine_28 (by decide) (fun c6 => ?_) (fun c6 => ?_)
    · have hF := op_t hF c6
      refine lv_aload_n hx hb dX12_bookLine_35 rfl (lv_at hl 1 rfl) ?_
      refine lv_ldc2 (v := (129117309725804 : Int64)) hx hb hown (hts _ kL_X12_152) dX12_bookLine_36 ?_
      obtain ⟨r8, hc7, hF⟩ := ob1_s hF
      refine k_isame C (k_rV (As := [.long (129117309725804 : Int64)]) (rest := []) C (c_X12_isWord l D q o0 a0 S0 _ (129117309725804 : Int64) hc7) kc_X12_isWord ml_X12_250 rfl rfl (by decide) hP hD hS (va_recv hK hP (ci := 12) (q0 := 0) rfl rfl) rfl hl.1 rfl (Nat.le_of_ble_eq_true rfl) dX12_bookLine_39 (by decide)) hP hD hS (fun H locs hP hD hS => ?_)
      refine lv_if_eq (tgt := 49) hx hb dX12_bookLine_42 (by decide) (fun c9 => ?_) (fun c9 => ?_)
      · have hF := op_t hF c9
        refine lv_aload_n hx hb dX12_bookLine_49 rfl (lv_at hl 1 rfl) ?_
        refine lv_ldc2 (v := (6578553 : Int64)) hx hb hown (hts _ kL_X12_154) dX12_bookLine_50 ?_
        obtain ⟨r11, hc10, hF⟩ := ob1_s hF
        refine k_isame C (k_rV (As := [.long (6578553 : Int64)]) (rest := []) C (c_X12_isWord l D q o0 a0 S0 _ (6578553 : Int64) hc10) kc_X12_isWord ml_X12_250 rfl rfl (by decide) hP hD hS (va_recv hK hP (ci := 12) (q0 := 0) rfl rfl) rfl hl.1 rfl (Nat.le_of_ble_eq_true rfl) dX12_bookLine_53 (by decide)) hP hD hS (fun H locs hP hD hS => ?_)
        refine lv_if_eq (tgt := 64) hx hb dX12_bookLine_56 (by decide) (fun c12 => ?_) (fun c12 => ?_)
        · have hF := op_t hF c12
          refine lv_iconst (v := (0 : Int32)) hx hb dX12_bookLine_64 (by decide) ?_
          exact b_X12_bookLine_65 C hF hP hD hS (lv_sub hl [1, 0] rfl)
        · have hF := op_f hF c12
          refine lv_bipush (v := (6 : Int32)) hx hb dX12_bookLine_59 (by decide) ?_
          refine lv_goto (tgt := 65) hx hb dX12_bookLine_61 (by decide) ?_
          exact b_X12_bookLine_65 C hF hP hD hS (lv_sub hl [1, 0] rfl)
      · have hF := op_f hF c9
        refine lv_iconst (v := (5 : Int32)) hx hb dX12_bookLine_45 (by decide) ?_
        refine lv_goto (tgt := 65) hx hb dX12_bookLine_46 (by decide) ?_
        exact b_X12_bookLine_65 C hF hP hD hS (lv_sub hl [1, 0] rfl)
    · have hF := op_f hF c6
      refine lv_iconst (v := (4 : Int32)) hx hb dX12_bookLine_31 (by decide) ?_
      refine lv_goto (tgt := 65) hx hb dX12_bookLine_32 (by decide) ?_
      exact b_X12_bookLine_65 C hF hP hD hS (lv_sub hl [1, 0] rfl)
  · have hF := op_f hF c3
    refine lv_iconst (v := (3 : Int32)) hx hb dX12_bookLine_17 (by decide) ?_
    refine lv_goto (tgt := 65) hx hb dX12_bookLine_18 (by decide) ?_
    exact b_X12_bookLine_65 C hF hP hD hS (lv_sub hl [1, 0] rfl)

abbrev rm_X12_does : Room := ({ frames := 3, cells := 0, slots := 0, locals := 69 } : Room)
def F_X12_does_244 (x1 : Int32) (x5 : Int32) (S0 : St) : Option (Int32 × St) := if x5 ≤ 0 then (some ((0 : Int32), S0)) else (some ((((10 : Int32) * x1) + x5), S0))
def F_X12_does_231 (x1 : Int32) (x2 : Int32) (s0 : Int32) (S0 : St) : Option (Int32 × St) := if s0 = 0 then (ob2 (F_X12_goesOn S0 x2) fun r3 U4 => F_X12_does_244 x1 s0 U4) else (F_X12_does_244 x1 s0 S0)
def F_X12_does_191 (x1 : Int32) (x2 : Int32) (s0 : Int32) (S0 : St) : Option (Int32 × St) := if oob (44 : Int32) 258 then none else if oob (44 : Int32) 258 then none else nw (sA S0 6 (44 : Int32) ((S0.2.2.1 6 (44 : Int32).toNatClampNeg) &&& (((1 : Int32) <<< (x2 &&& 31)) ^^^ (-1 : Int32)))) fun U3 => F_X12_does_244 x1 s0 U3
def F_X12_does_79 (x1 : Int32) (x2 : Int32) (s0 : Int32) (S0 : St) : Option (Int32 × St) := if oob ((65 : Int32) + x2) 258 then none else nw (sA S0 6 ((65 : Int32) + x2) (0 : Int32)) fun U2 => F_X12_does_244 x1 s0 U2
def F_X12_does (S0 : St) (x1 : Int32) (x2 : Int32) (x3 : Int32) (x4 : Int32) : Option (Int32 × St) := if x1 = (0 : Int32) then (ob1 (F_X12_whyClimb S0 x2 x3) fun r3 => if r3 = 0 then (ob1 (F_X12_climbs S0 x2 x3) fun U6 => F_X12_does_244 x1 r3 U6) else (F_X12_does_244 x1 r3 S0)) else if x1 = (1 : Int32) then (ob1 (F_X12_isUp S0 x2) fun r9 => if r9 = 0 then (F_X12_does_79 x1 x2 (1 : Int32) S0) else (F_X12_does_79 x1 x2 (0 : Int32) S0)) else if x1 = (2 : Int32) then (ob1 (F_X12_whyTell S0 x2 x3 x4) fun r13 => if r13 = 0 then (if oob ((59 : Int32) + x3) 258 then none else ob1 (F_X12_having (S0.2.2.1 6 ((59 : Int32) + x3).toNatClampNeg) x4) fun r17 => if oob ((59 : Int32) + x3) 258 then none else nw (sA S0 6 ((59 : Int32) + x3) r17) fun U19 => F_X12_does_244 x1 r13 U19) else (F_X12_does_244 x1 r13 S0)) else if x1 = (3 : Int32) then (ob1 (F_X12_whyStorm S0 x2) fun r23 => ob1 (F_X12_storms S0 x2) fun U25 => F_X12_does_244 x1 r23 U25) else if x1 = (4 : Int32) then (ob1 (F_X12_whyWall S0 x2) fun r28 => if r28 = 0 then (if oob (44 : Int32) 258 then none else if oob (44 : Int32) 258 then none else nw (sA S0 6 (44 : Int32) ((S0.2.2.1 6 (44 : Int32).toNatClampNeg) ||| ((1 : Int32) <<< (x2 &&& 31)))) fun U32 => F_X12_does_244 x1 r28 U32) else (F_X12_does_244 x1 r28 S0)) else if x1 = (5 : Int32) then (ob1 (F_X12_isWalled S0 x2) fun r36 => if r36 = 0 then (F_X12_does_191 x1 x2 (1 : Int32) S0) else (F_X12_does_191 x1 x2 (0 : Int32) S0)) else if oob (42 : Int32) 258 then none else if ((S0.2.2.1 6 (42 : Int32).toNatClampNeg) + x2) ≤ (400 : Int32) then (F_X12_does_231 x1 x2 (0 : Int32) S0) else (F_X12_does_231 x1 x2 (1 : Int32) S0)
set_option maxRecDepth 100000 in
set_option maxHeartbeats 4000000 in
theorem b_X12_does_244 {p : Program} {l : Launch} {e : Env} {s : State} {m : MethodId} {args : Array Value} {below : List Frame} {meth : Method} {c : Code} {D : va_G} {q : Nat → ClassId} {A : Nat → Prop} {o0 : Nat} {a0 : Nat → Nat} {r : Int32} {T0 : St} (C : cx p s m args meth c cX12_does 6 (some .int) RX12 D q A) {x1 : Int32} {x5 : Int32} {S0 : St} (hF : F_X12_does_244 x1 x5 S0 = some (r, T0)) {H : Heap} {locs : List Loc} (hP : va_P D vwCl (fl [g12 q o0 a0 S0]) H) (hD : va_D A (fl [g12 q o0 a0 S0])) (hS : va_S A s.heap H locs) {ls : Array Slot} (hl : lv_has ls 6 [(1, .int x1), (5, .int x5)]) : W p l e rm_X12_does s m args below meth c H locs 0 0 (MQ below (QI D A r (fl [g12 q o0 a0 T0])) args s 0 0 A) (F0 m 244 ls []) := by
  unfold F_X12_does_244 at hF
  obtain ⟨hx, hb, hr, hml, hown, hts, hlk, hA, hK, hN, hV⟩ := id C
  refine lv_iload hx hb dX12_does_244 (lv_at hl 1 rfl) ?_
  refine lv_if_le (tgt := 259) hx hb dX12_does_246 (by decide) (fun c1 => ?_) (fun c1 => ?_)
  · have hF := op_t hF c1
    refine lv_iconst (v := (0 : Int32)) hx hb dX12_does_259 (by decide) ?_
    cases hF
    exact k_iret C hP hS dX12_does_260
  · have hF := op_f hF c1
    refine lv_bipush (v := (10 : Int32)) hx hb dX12_does_249 (by decide) ?_
    refine lv_iload_n hx hb dX12_does_251 rfl (lv_at hl 0 rfl) ?_
    refine lv_imul hx hb dX12_does_252 ?_
    refine lv_iload hx hb dX12_does_253 (lv_at hl 1 rfl) ?_
    refine lv_iadd hx hb dX12_does_255 ?_
    refine lv_goto (tgt := 260) hx hb dX12_does_256 (by decide) ?_
    cases hF
    exact k_iret C hP hS dX12_does_260
set_option maxRecDepth 100000 in
set_option maxHeartbeats 4000000 in
theorem b_X12_does_231 {p : Program} {l : Launch} {e : Env} {s : State} {m : MethodId} {args : Array Value} {below : List Frame} {meth : Method} {c : Code} {D : va_G} {q : Nat → ClassId} {A : Nat → Prop} {o0 : Nat} {a0 : Nat → Nat} {r : Int32} {T0 : St} (C : cx p s m args meth c cX12_does 6 (some .int) RX12 D q A) {x1 : Int32} {x2 : Int32} {s0 : Int32} {S0 : St} (hF : F_X12_does_231 x1 x2 s0 S0 = some (r, T0)) {H : Heap} {locs : List Loc} (hP : va_P D vwCl (fl [g12 q o0 a0 S0]) H) (hD : va_D A (fl [g12 q o0 a0 S0])) (hS : va_S A s.heap H locs) {ls : Array Slot} (hl : lv_has ls 6 [(0, .ref o0), (1, .int x1), (2, .int x2)]) : W p l e rm_X12_does s m args below meth c H locs 0 0 (MQ below (QI D A r (fl [g12 q o0 a0 T0])) args s 0 0 A) (F0 m 231 ls [.int s0]) := by
  unfold F_X12_does_231 at hF
  obtain ⟨hx, hb, hr, hml, hown, hts, hlk, hA, hK, hN, hV⟩ := id C
  refine lv_istore (lv' := [(5, .int s0), (0, .ref o0), (1, .int x1), (2, .int x2)]) hx hb dX12_does_231 hl (by decide) rfl (fun ls hl => ?_)
  refine lv_iload hx hb dX12_does_233 (lv_at hl 0 rfl) ?_
  refine lv_if_ne (tgt := 244) hx hb dX12_does_235 (by decide) (fun c1 => ?_) (fun c1 => ?_)
  · have hF := op_f hF c1
    exact b_X12_does_244 C hF hP hD hS (lv_sub hl [2, 0] rfl)
  · have hF := op_t hF c1
    refine lv_aload_n hx hb dX12_does_238 rfl (lv_at hl 1 rfl) ?_
    refine lv_iload_n hx hb dX12_does_239 rfl (lv_at hl 3 rfl) ?_
    obtain ⟨r3, U4, hc2, hF⟩ := ob2_s hF
    refine k_iall C (k_rV (As := [.int x2]) (rest := []) C (c_X12_goesOn l D q o0 a0 S0 _ x2 hc2) kc_X12_goesOn ml_X12_378 rfl rfl (by decide) hP hD hS (va_recv hK hP (ci := 12) (q0 := 0) rfl rfl) rfl hl.1 rfl (Nat.le_of_ble_eq_true rfl) dX12_does_240 (by decide)) hP hD hS (by simp only [List.map_cons, List.map_nil, gad12]) (fun H locs hP hD hS => ?_)
    refine lv_pop hx hb dX12_does_243 rfl ?_
    exact b_X12_does_244 C hF hP hD hS (lv_sub hl [2, 0] rfl)
set_option maxRecDepth 100000 in
set_option maxHeartbeats 4000000 in
theorem b_X12_does_191 {p : Program} {l : Launch} {e : Env} {s : State} {m : MethodId} {args : Array Value} {below : List Frame} {meth : Method} {c : Code} {D : va_G} {q : Nat → ClassId} {A : Nat → Prop} {o0 : Nat} {a0 : Nat → Nat} {r : Int32} {T0 : St} (C : cx p s m args meth c cX12_does 6 (some .int) RX12 D q A) {x1 : Int32} {x2 : Int32} {s0 : Int32} {S0 : St} (hF : F_X12_does_191 x1 x2 s0 S0 = some (r, T0)) {H : Heap} {locs : List Loc} (hP : va_P D vwCl (fl [g12 q o0 a0 S0]) H) (hD : va_D A (fl [g12 q o0 a0 S0])) (hS : va_S A s.heap H locs) {ls : Array Slot} (hl : lv_has ls 6 [(0, .ref o0), (1, .int x1), (2, .int x2)]) : W p l e rm_X12_does s m args below meth c H locs 0 0 (MQ below (QI D A r (fl [g12 q o0 a0 T0])) args s 0 0 A) (F0 m 191 ls [.int s0]) := by
  unfold F_X12_does_191 at hF
  obtain ⟨hx, hb, hr, hml, hown, hts, hlk, hA, hK, hN, hV⟩ := id C
  refine lv_istore (lv' := [(5, .int s0), (0, .ref o0), (1, .int x1), (2, .int x2)]) hx hb dX12_does_191 hl (by decide) rfl (fun ls hl => ?_)
  refine lv_aload_n hx hb dX12_does_193 rfl (lv_at hl 1 rfl) ?_
  refine k_get (v := .ref (a0 7)) C fg_X12_33 hP 0 rfl rfl dX12_does_194 ?_
  refine lv_bipush (v := (44 : Int32)) hx hb dX12_does_197 (by decide) ?_
  refine lv_dup2_11 hx hb dX12_does_199 rfl rfl ?_
  obtain ⟨h1, hF⟩ := op_ck hF
  refine k_ild (f := S0.2.2.1 6) C hP 2 rfl h1 dX12_does_200 ?_
  refine lv_iconst (v := (1 : Int32)) hx hb dX12_does_201 (by decide) ?_
  refine lv_iload_n hx hb dX12_does_202 rfl (lv_at hl 3 rfl) ?_
  refine lv_ishl hx hb dX12_does_203 ?_
  refine lv_iconst (v := (-1 : Int32)) hx hb dX12_does_204 (by decide) ?_
  refine lv_ixor hx hb dX12_does_205 ?_
  refine lv_iand hx hb dX12_does_206 ?_
  obtain ⟨h2, hF⟩ := op_ck hF
  obtain ⟨U3, e4, hF⟩ := nw_s hF
  refine k_ist (f := S0.2.2.1 6) (W8 := fl [g12 q o0 a0 U3]) C hP hD hS 2 rfl h2 dX12_does_207 (by rw [e4]; rfl) (fun H locs hP hD hS => ?_)
  refine lv_goto (tgt := 244) hx hb dX12_does_208 (by decide) ?_
  exact b_X12_does_244 C hF hP hD hS (lv_sub hl [2, 0] rfl)
set_option maxRecDepth 100000 in
set_option maxHeartbeats 4000000 in
theorem b_X12_does_79 {p : Program} {l : Launch} {e : Env} {s : State} {m : MethodId} {args : Array Value} {below : List Frame} {meth : Method} {c : Code} {D : va_G} {q : Nat → ClassId} {A : Nat → Prop} {o0 : Nat} {a0 : Nat → Nat} {r : Int32} {T0 : St} (C : cx p s m args meth c cX12_does 6 (some .int) RX12 D q A) {x1 : Int32} {x2 : Int32} {s0 : Int32} {S0 : St} (hF : F_X12_does_79 x1 x2 s0 S0 = some (r, T0)) {H : Heap} {locs : List Loc} (hP : va_P D vwCl (fl [g12 q o0 a0 S0]) H) (hD : va_D A (fl [g12 q o0 a0 S0])) (hS : va_S A s.heap H locs) {ls : Array Slot} (hl : lv_has ls 6 [(0, .ref o0), (1, .int x1), (2, .int x2)]) : W p l e rm_X12_does s m args below meth c H locs 0 0 (MQ below (QI D A r (fl [g12 q o0 a0 T0])) args s 0 0 A) (F0 m 79 ls [.int s0]) := by
  unfold F_X12_does_79 at hF
  obtain ⟨hx, hb, hr, hml, hown, hts, hlk, hA, hK, hN, hV⟩ := id C
  refine lv_istore (lv' := [(5, .int s0), (0, .ref o0), (1, .int x1), (2, .int x2)]) hx hb dX12_does_79 hl (by decide) rfl (fun ls hl => ?_)
  refine lv_aload_n hx hb dX12_does_81 rfl (lv_at hl 1 rfl) ?_
  refine k_get (v := .ref (a0 7)) C fg_X12_33 hP 0 rfl rfl dX12_does_82 ?_
  refine lv_bipush (v := (65 : Int32)) hx hb dX12_does_85 (by decide) ?_
  refine lv_iload_n hx hb dX12_does_87 rfl (lv_at hl 3 rfl) ?_
  refine lv_iadd hx hb dX12_does_88 ?_
  refine lv_iconst (v := (0 : Int32)) hx hb dX12_does_89 (by decide) ?_
  obtain ⟨h1, hF⟩ := op_ck hF
  obtain ⟨U2, e3, hF⟩ := nw_s hF
  refine k_ist (f := S0.2.2.1 6) (W8 := fl [g12 q o0 a0 U2]) C hP hD hS 2 rfl h1 dX12_does_90 (by rw [e3]; rfl) (fun H locs hP hD hS => ?_)
  refine lv_goto (tgt := 244) hx hb dX12_does_91 (by decide) ?_
  exact b_X12_does_244 C hF hP hD hS (lv_sub hl [2, 0] rfl)
set_option maxRecDepth 100000 in
set_option maxHeartbeats 4000000 in
theorem c_X12_does (l : Launch) (D : va_G) (q : Nat → ClassId) (o0 : Nat) (a0 : Nat → Nat) (S0 : St) (sz : Nat) (x1 : Int32) (x2 : Int32) (x3 : Int32) (x4 : Int32) {r : Int32} {T0 : St} (hF : F_X12_does S0 x1 x2 x3 x4 = some (r, T0)) : Met l yX12_does (Cond.code yX12_does cX12_does 6 (some .int) :: TB) rm_X12_does (PC D q [.ref o0, .int x1, .int x2, .int x3, .int x4] (fl [g12 q o0 a0 S0]) sz) ((fun A => QI D A r (fl [g12 q o0 a0 T0])) (va_A (fl [g12 q o0 a0 S0]) sz)) 0 0 (va_A (fl [g12 q o0 a0 S0]) sz) := by
  refine k_met (w0 := fl [g12 q o0 a0 S0]) (Q := fun A => QI D A r (fl [g12 q o0 a0 T0])) (by decide +kernel) (Nat.le_of_ble_eq_true rfl) ?_
  intro p e s m args below meth c A ls C hP hD hS hl
  have hl : lv_has ls 6 [(0, .ref o0), (1, .int x1), (2, .int x2), (3, .int x3), (4, .int x4)] := hl
  unfold F_X12_does at hF
  have C : cx p s m args meth c cX12_does 6 (some .int) RX12 D q A := C
  obtain ⟨hx, hb, hr, hml, hown, hts, hlk, hA, hK, hN, hV⟩ := id C
  refine lv_iconst (v := (0 : Int32)) hx hb dX12_does_0 (by decide) ?_
  refine lv_istore (lv' := [(5, .int (0 : Int32)), (0, .ref o0), (1, .int x1), (2, .int x2), (3, .int x3), (4, .int x4)]) hx hb dX12_does_1 hl (by decide) rfl (fun ls hl => ?_)
  refine lv_iload_n hx hb dX12_does_3 rfl (lv_at hl 2 rfl) ?_
  by_cases c1 : x1 = (0 : Int32)
  · have hF := op_t hF c1
    refine lv_tableIn (tgt := 44) hx hb dX12_does_4 (by rw [c1]; decide) (by rw [c1]; decide) (by rw [c1]; rfl) (by decide) ?_
    refine lv_aload_n hx hb dX12_does_44 rfl (lv_at hl 1 rfl) ?_
    refine lv_iload_n hx hb dX12_does_45 rfl (lv_at hl 3 rfl) ?_
    refine lv_iload_n hx hb dX12_does_46 rfl (lv_at hl 4 rfl) ?_
    obtain ⟨r3, hc2, hF⟩ := ob1_s hF
    refine k_isame C (k_rV (As := [.int x2, .int x3]) (rest := []) C (c_X12_whyClimb l D q o0 a0 S0 _ x2 x3 hc2) kc_X12_whyClimb ml_X12_352 rfl rfl (by decide) hP hD hS (va_recv hK hP (ci := 12) (q0 := 0) rfl rfl) rfl hl.1 rfl (Nat.le_of_ble_eq_true rfl) dX12_does_47 (by decide)) hP hD hS (fun H locs hP hD hS => ?_)
    refine lv_istore (lv' := [(5, .int r3), (0, .ref o0), (1, .int x1), (2, .int x2), (3, .int x3), (4, .int x4)]) hx hb dX12_does_50 hl (by decide) rfl (fun ls hl => ?_)
    refine lv_iload hx hb dX12_does_52 (lv_at hl 0 rfl) ?_
    refine lv_if_ne (tgt := 244) hx hb dX12_does_54 (by decide) (fun c4 => ?_) (fun c4 => ?_)
    · have hF := op_f hF c4
      exact b_X12_does_244 C hF hP hD hS (lv_sub hl [2, 0] rfl)
    · have hF := op_t hF c4
      refine lv_aload_n hx hb dX12_does_57 rfl (lv_at hl 1 rfl) ?_
      refine lv_iload_n hx hb dX12_does_58 rfl (lv_at hl 3 rfl) ?_
      refine lv_iload_n hx hb dX12_does_59 rfl (lv_at hl 4 rfl) ?_
      obtain ⟨U6, hc5, hF⟩ := ob1_s hF
      refine k_vall C (k_rV (As := [.int x2, .int x3]) (rest := []) C (c_X12_climbs l D q o0 a0 S0 _ x2 x3 hc5) kc_X12_climbs ml_X12_358 rfl rfl (by decide) hP hD hS (va_recv hK hP (ci := 12) (q0 := 0) rfl rfl) rfl hl.1 rfl (Nat.le_of_ble_eq_true rfl) dX12_does_60 (by decide)) hP hD hS (by simp only [List.map_cons, List.map_nil, gad12]) (fun H locs hP hD hS => ?_)
      refine lv_goto (tgt := 244) hx hb dX12_does_63 (by decide) ?_
      exact b_X12_does_244 C hF hP hD hS (lv_sub hl [2, 0] rfl)
  have hF := op_f hF c1
  by_cases c7 : x1 = (1 : Int32)
  · have hF := op_t hF c7
    refine lv_tableIn (tgt := 66) hx hb dX12_does_4 (by rw [c7]; decide) (by rw [c7]; decide) (by rw [c7]; rfl) (by decide) ?_
    refine lv_aload_n hx hb dX12_does_66 rfl (lv_at hl 1 rfl) ?_
    refine lv_iload_n hx hb dX12_does_67 rfl (lv_at hl 3 rfl) ?_
    obtain ⟨r9, hc8, hF⟩ := ob1_s hF
    refine k_isame C (k_rV (As := [.int x2]) (rest := []) C (c_X12_isUp l D q o0 a0 S0 _ x2 hc8) kc_X12_isUp ml_X12_337 rfl rfl (by decide) hP hD hS (va_recv hK hP (ci := 12) (q0 := 0) rfl rfl) rfl hl.1 rfl (Nat.le_of_ble_eq_true rfl) dX12_does_68 (by decide)) hP hD hS (fun H locs hP hD hS => ?_)
    refine lv_if_eq (tgt := 78) hx hb dX12_does_71 (by decide) (fun c10 => ?_) (fun c10 => ?_)
    · have hF := op_t hF c10
      refine lv_iconst (v := (1 : Int32)) hx hb dX12_does_78 (by decide) ?_
      exact b_X12_does_79 C hF hP hD hS (lv_sub hl [1, 2, 3] rfl)
    · have hF := op_f hF c10
      refine lv_iconst (v := (0 : Int32)) hx hb dX12_does_74 (by decide) ?_
      refine lv_goto (tgt := 79) hx hb dX12_does_75 (by decide) ?_
      exact b_X12_does_79 C hF hP hD hS (lv_sub hl [1, 2, 3] rfl)
  have hF := op_f hF c7
  by_cases c11 : x1 = (2 : Int32)
  · have hF := op_t hF c11
    refine lv_tableIn (tgt := 94) hx hb dX12_does_4 (by rw [c11]; decide) (by rw [c11]; decide) (by rw [c11]; rfl) (by decide) ?_
    refine lv_aload_n hx hb dX12_does_94 rfl (lv_at hl 1 rfl) ?_
    refine lv_iload_n hx hb dX12_does_95 rfl (lv_at hl 3 rfl) ?_
    refine lv_iload_n hx hb dX12_does_96 rfl (lv_at hl 4 rfl) ?_
    refine lv_iload hx hb dX12_does_97 (lv_at hl 5 rfl) ?_
    obtain ⟨r13, hc12, hF⟩ := ob1_s hF
    refine k_isame C (k_rV (As := [.int x2, .int x3, .int x4]) (rest := []) C (c_X12_whyTell l D q o0 a0 S0 _ x2 x3 x4 hc12) kc_X12_whyTell ml_X12_365 rfl rfl (by decide) hP hD hS (va_recv hK hP (ci := 12) (q0 := 0) rfl rfl) rfl hl.1 rfl (Nat.le_of_ble_eq_true rfl) dX12_does_99 (by decide)) hP hD hS (fun H locs hP hD hS => ?_)
    refine lv_istore (lv' := [(5, .int r13), (0, .ref o0), (1, .int x1), (2, .int x2), (3, .int x3), (4, .int x4)]) hx hb dX12_does_102 hl (by decide) rfl (fun ls hl => ?_)
    refine lv_iload hx hb dX12_does_104 (lv_at hl 0 rfl) ?_
    refine lv_if_ne (tgt := 244) hx hb dX12_does_106 (by decide) (fun c14 => ?_) (fun c14 => ?_)
    · have hF := op_f hF c14
      exact b_X12_does_244 C hF hP hD hS (lv_sub hl [2, 0] rfl)
    · have hF := op_t hF c14
      refine lv_aload_n hx hb dX12_does_109 rfl (lv_at hl 1 rfl) ?_
      refine k_get (v := .ref (a0 7)) C fg_X12_33 hP 0 rfl rfl dX12_does_110 ?_
      refine lv_bipush (v := (59 : Int32)) hx hb dX12_does_113 (by decide) ?_
      refine lv_iload_n hx hb dX12_does_115 rfl (lv_at hl 4 rfl) ?_
      refine lv_iadd hx hb dX12_does_116 ?_
      refine lv_aload_n hx hb dX12_does_117 rfl (lv_at hl 1 rfl) ?_
      refine k_get (v := .ref (a0 7)) C fg_X12_33 hP 0 rfl rfl dX12_does_118 ?_
      refine lv_bipush (v := (59 : Int32)) hx hb dX12_does_121 (by decide) ?_
      refine lv_iload_n hx hb dX12_does_123 rfl (lv_at hl 4 rfl) ?_
      refine lv_iadd hx hb dX12_does_124 ?_
      obtain ⟨h15, hF⟩ := op_ck hF
      refine k_ild (f := S0.2.2.1 6) C hP 2 rfl h15 dX12_does_125 ?_
      refine lv_iload hx hb dX12_does_126 (lv_at hl 5 rfl) ?_
      obtain ⟨r17, hc16, hF⟩ := ob1_s hF
      refine k_inil C (k_rS (As := [.int (S0.2.2.1 6 ((59 : Int32) + x3).toNatClampNeg), .int x4]) (rest := [.int ((59 : Int32) + x3), .ref (a0 7)]) C (c_X12_having l D q _ (S0.2.2.1 6 ((59 : Int32) + x3).toNatClampNeg) x4 hc16) kc_X12_having ml_X12_300 rfl rfl (by decide) (fun k x h => by simp at h) (⟨fun i j x y h => by simp at h, fun k x h => by simp at h⟩ : va_D A []) hS rfl hl.1 rfl (Nat.le_of_ble_eq_true rfl) dX12_does_128 (by decide)) hP hD hS (fun H locs hP hD hS => ?_)
      obtain ⟨h18, hF⟩ := op_ck hF
      obtain ⟨U19, e20, hF⟩ := nw_s hF
      refine k_ist (f := S0.2.2.1 6) (W8 := fl [g12 q o0 a0 U19]) C hP hD hS 2 rfl h18 dX12_does_131 (by rw [e20]; rfl) (fun H locs hP hD hS => ?_)
      refine lv_goto (tgt := 244) hx hb dX12_does_132 (by decide) ?_
      exact b_X12_does_244 C hF hP hD hS (lv_sub hl [2, 0] rfl)
  have hF := op_f hF c11
  by_cases c21 : x1 = (3 : Int32)
  · have hF := op_t hF c21
    refine lv_tableIn (tgt := 135) hx hb dX12_does_4 (by rw [c21]; decide) (by rw [c21]; decide) (by rw [c21]; rfl) (by decide) ?_
    refine lv_aload_n hx hb dX12_does_135 rfl (lv_at hl 1 rfl) ?_
    refine lv_iload_n hx hb dX12_does_136 rfl (lv_at hl 3 rfl) ?_
    obtain ⟨r23, hc22, hF⟩ := ob1_s hF
    refine k_isame C (k_rV (As := [.int x2]) (rest := []) C (c_X12_whyStorm l D q o0 a0 S0 _ x2 hc22) kc_X12_whyStorm ml_X12_369 rfl rfl (by decide) hP hD hS (va_recv hK hP (ci := 12) (q0 := 0) rfl rfl) rfl hl.1 rfl (Nat.le_of_ble_eq_true rfl) dX12_does_137 (by decide)) hP hD hS (fun H locs hP hD hS => ?_)
    refine lv_istore (lv' := [(5, .int r23), (0, .ref o0), (1, .int x1), (2, .int x2), (3, .int x3), (4, .int x4)]) hx hb dX12_does_140 hl (by decide) rfl (fun ls hl => ?_)
    refine lv_aload_n hx hb dX12_does_142 rfl (lv_at hl 1 rfl) ?_
    refine lv_iload_n hx hb dX12_does_143 rfl (lv_at hl 3 rfl) ?_
    obtain ⟨U25, hc24, hF⟩ := ob1_s hF
    refine k_vall C (k_rV (As := [.int x2]) (rest := []) C (c_X12_storms l D q o0 a0 S0 _ x2 hc24) kc_X12_storms ml_X12_372 rfl rfl (by decide) hP hD hS (va_recv hK hP (ci := 12) (q0 := 0) rfl rfl) rfl hl.1 rfl (Nat.le_of_ble_eq_true rfl) dX12_does_144 (by decide)) hP hD hS (by simp only [List.map_cons, List.map_nil, gad12]) (fun H locs hP hD hS => ?_)
    refine lv_goto (tgt := 244) hx hb dX12_does_147 (by decide) ?_
    exact b_X12_does_244 C hF hP hD hS (lv_sub hl [2, 0] rfl)
  have hF := op_f hF c21
  by_cases c26 : x1 = (4 : Int32)
  · have hF := op_t hF c26
    refine lv_tableIn (tgt := 150) hx hb dX12_does_4 (by rw [c26]; decide) (by rw [c26]; decide) (by rw [c26]; rfl) (by decide) ?_
    refine lv_aload_n hx hb dX12_does_150 rfl (lv_at hl 1 rfl) ?_
    refine lv_iload_n hx hb dX12_does_151 rfl (lv_at hl 3 rfl) ?_
    obtain ⟨r28, hc27, hF⟩ := ob1_s hF
    refine k_isame C (k_rV (As := [.int x2]) (rest := []) C (c_X12_whyWall l D q o0 a0 S0 _ x2 hc27) kc_X12_whyWall ml_X12_375 rfl rfl (by decide) hP hD hS (va_recv hK hP (ci := 12) (q0 := 0) rfl rfl) rfl hl.1 rfl (Nat.le_of_ble_eq_true rfl) dX12_does_152 (by decide)) hP hD hS (fun H locs hP hD hS => ?_)
    refine lv_istore (lv' := [(5, .int r28), (0, .ref o0), (1, .int x1), (2, .int x2), (3, .int x3), (4, .int x4)]) hx hb dX12_does_155 hl (by decide) rfl (fun ls hl => ?_)
    refine lv_iload hx hb dX12_does_157 (lv_at hl 0 rfl) ?_
    refine lv_if_ne (tgt := 244) hx hb dX12_does_159 (by decide) (fun c29 => ?_) (fun c29 => ?_)
    · have hF := op_f hF c29
      exact b_X12_does_244 C hF hP hD hS (lv_sub hl [2, 0] rfl)
    · have hF := op_t hF c29
      refine lv_aload_n hx hb dX12_does_162 rfl (lv_at hl 1 rfl) ?_
      refine k_get (v := .ref (a0 7)) C fg_X12_33 hP 0 rfl rfl dX12_does_163 ?_
      refine lv_bipush (v := (44 : Int32)) hx hb dX12_does_166 (by decide) ?_
      refine lv_dup2_11 hx hb dX12_does_168 rfl rfl ?_
      obtain ⟨h30, hF⟩ := op_ck hF
      refine k_ild (f := S0.2.2.1 6) C hP 2 rfl h30 dX12_does_169 ?_
      refine lv_iconst (v := (1 : Int32)) hx hb dX12_does_170 (by decide) ?_
      refine lv_iload_n hx hb dX12_does_171 rfl (lv_at hl 3 rfl) ?_
      refine lv_ishl hx hb dX12_does_172 ?_
      refine lv_ior hx hb dX12_does_173 ?_
      obtain ⟨h31, hF⟩ := op_ck hF
      obtain ⟨U32, e33, hF⟩ := nw_s hF
      refine k_ist (f := S0.2.2.1 6) (W8 := fl [g12 q o0 a0 U32]) C hP hD hS 2 rfl h31 dX12_does_174 (by rw [e33]; rfl) (fun H locs hP hD hS => ?_)
      refine lv_goto (tgt := 244) hx hb dX12_does_175 (by decide) ?_
      exact b_X12_does_244 C hF hP hD hS (lv_sub hl [2, 0] rfl)
  have hF := op_f hF c26
  by_cases c34 : x1 = (5 : Int32)
  · have hF := op_t hF c34
    refine lv_tableIn (tgt := 178) hx hb dX12_does_4 (by rw [c34]; decide) (by rw [c34]; decide) (by rw [c34]; rfl) (by decide) ?_
    refine lv_aload_n hx hb dX12_does_178 rfl (lv_at hl 1 rfl) ?_
    refine lv_iload_n hx hb dX12_does_179 rfl (lv_at hl 3 rfl) ?_
    obtain ⟨r36, hc35, hF⟩ := ob1_s hF
    refine k_isame C (k_rV (As := [.int x2]) (rest := []) C (c_X12_isWalled l D q o0 a0 S0 _ x2 hc35) kc_X12_isWalled ml_X12_303 rfl rfl (by decide) hP hD hS (va_recv hK hP (ci := 12) (q0 := 0) rfl rfl) rfl hl.1 rfl (Nat.le_of_ble_eq_true rfl) dX12_does_180 (by decide)) hP hD hS (fun H locs hP hD hS => ?_)
    refine lv_if_eq (tgt := 190) hx hb dX12_does_183 (by decide) (fun c37 => ?_) (fun c37 => ?_)
    · have hF := op_t hF c37
      refine lv_iconst (v := (1 : Int32)) hx hb dX12_does_190 (by decide) ?_
      exact b_X12_does_191 C hF hP hD hS (lv_sub hl [1, 2, 3] rfl)
    · have hF := op_f hF c37
      refine lv_iconst (v := (0 : Int32)) hx hb dX12_does_186 (by decide) ?_
      refine lv_goto (tgt := 191) hx hb dX12_does_187 (by decide) ?_
      exact b_X12_does_191 C hF hP hD hS (lv_sub hl [1, 2, 3] rfl)
  have hF := op_f hF c34
  have nc1 := lv_neT (a := 0) c1 (by decide)
  have nc7 := lv_neT (a := 1) c7 (by decide)
  have nc11 := lv_neT (a := 2) c11 (by decide)
  have nc21 := lv_neT (a := 3) c21 (by decide)
  have nc26 := lv_neT (a := 4) c26 (by decide)
  have nc34 := lv_neT (a := 5) c34 (by decide)
  refine lv_tableOut (tgt := 211) hx hb dX12_does_4 (by omega) (by decide) ?_
  refine lv_aload_n hx hb dX12_does_211 rfl (lv_at hl 1 rfl) ?_
  refine k_get (v := .ref (a0 7)) C fg_X12_33 hP 0 rfl rfl dX12_does_212 ?_
  refine lv_bipush (v := (42 : Int32)) hx hb dX12_does_215 (by decide) ?_
  obtain ⟨h38, hF⟩ := op_ck hF
  refine k_ild (f := S0.2.2.1 6) C hP 2 rfl h38 dX12_does_217 ?_
  refine lv_iload_n hx hb dX12_does_218 rfl (lv_at hl 3 rfl) ?_
  refine lv_iadd hx hb dX12_does_219 ?_
  refine lv_sipush (v := (400 : Int32)) hx hb dX12_does_220 (by decide) ?_
  refine lv_icmp_le (tgt := 230) hx hb dX12_does_223 (by decide) (fun c39 => ?_) (fun c39 => ?_)
  · have hF := op_t hF c39
    refine lv_iconst (v := (0 : Int32)) hx hb dX12_does_230 (by decide) ?_
    exact b_X12_does_231 C hF hP hD hS (lv_sub hl [1, 2, 3] rfl)
  · have hF := op_f hF c39
    refine lv_iconst (v := (1 : Int32)) hx hb dX12_does_226 (by decide) ?_
    refine lv_goto (tgt := 231) hx hb dX12_does_227 (by decide) ?_
    exact b_X12_does_231 C hF hP hD hS (lv_sub hl [1, 2, 3] rfl)

abbrev rm_X12_book : Room := ({ frames := 4, cells := 0, slots := 0, locals := 94 } : Room)
def F_X12_book_283 (x1 : Int32) (x2 : Int32) (S0 : St) : Option (Int32 × St) := if x1 = 0 then (ob1 (F_X12_back S0) fun U3 => some (x2, U3)) else (some (x2, S0))
def F_X12_book_249 (k249 : Int32 × Int32 × Int32 × St → Option (Int32 × St)) (x1 : Int32) (x2 : Int32) (x3 : Int32) (S0 : St) : Option (Int32 × St) := if (35 : Int32) ≤ x3 then (F_X12_book_283 x1 x2 S0) else (if oob x3 35 then none else if oob (((35 : Int32) * ((S0.1 22) - (1 : Int32))) + x3) 280 then none else nw (sA S0 20 (((35 : Int32) * ((S0.1 22) - (1 : Int32))) + x3) (S0.2.2.1 21 x3.toNatClampNeg)) fun U4 => k249 (x1, x2, (x3 + 1), U4))
def L_X12_book_249 (x1 : Int32) (x2 : Int32) (x3 : Int32) (S0 : St) : Option (Int32 × St) := lp (fun kz z => F_X12_book_249 kz z.1 z.2.1 z.2.2.1 z.2.2.2) FU (x1, x2, x3, S0)
def F_X12_book_201 (x1 : Int32) (x2 : Int32) (S0 : St) : Option (Int32 × St) := if oob (42 : Int32) 258 then none else if oob (2 : Int32) 4 then none else nw (sA S0 39 (2 : Int32) (S0.2.2.1 6 (42 : Int32).toNatClampNeg)) fun U3 => ob1 (F_X12_pleased U3) fun r6 => if oob (3 : Int32) 4 then none else nw (sA U3 39 (3 : Int32) r6) fun U8 => nw (sI U8 40 (1 : Int32)) fun U10 => if x1 = (1 : Int32) then (if oob (1 : Int32) 4 then none else if (U10.2.2.1 39 (1 : Int32).toNatClampNeg) ≤ 0 then (F_X12_book_283 x1 x2 U10) else (ob1 (F_X12_keep U10) fun U16 => L_X12_book_249 x1 x2 (0 : Int32) U16)) else (F_X12_book_283 x1 x2 U10)
def F_X12_book_195 (k111 : Int32 × Int32 × Int32 × St → Option (Int32 × St)) (x1 : Int32) (x2 : Int32) (x3 : Int32) (S0 : St) : Option (Int32 × St) := k111 (x1, x2, (x3 + 1), S0)
def F_X12_book_111 (k111 : Int32 × Int32 × Int32 × St → Option (Int32 × St)) (x1 : Int32) (x2 : Int32) (x3 : Int32) (S0 : St) : Option (Int32 × St) := if (S0.1 38) ≤ x3 then (F_X12_book_201 x1 x2 S0) else (if 0 ≤ x2 then (F_X12_book_201 x1 x2 S0) else (if oob ((4 : Int32) * x3) 160 then none else if oob (((4 : Int32) * x3) + (1 : Int32)) 160 then none else if oob (((4 : Int32) * x3) + (2 : Int32)) 160 then none else if oob (((4 : Int32) * x3) + (3 : Int32)) 160 then none else ob2 (F_X12_does S0 (S0.2.2.1 8 ((4 : Int32) * x3).toNatClampNeg) (S0.2.2.1 8 (((4 : Int32) * x3) + (1 : Int32)).toNatClampNeg) (S0.2.2.1 8 (((4 : Int32) * x3) + (2 : Int32)).toNatClampNeg) (S0.2.2.1 8 (((4 : Int32) * x3) + (3 : Int32)).toNatClampNeg)) fun r8 U9 => if oob (0 : Int32) 4 then none else nw (sA U9 39 (0 : Int32) r8) fun U11 => if oob (0 : Int32) 4 then none else if (U11.2.2.1 39 (0 : Int32).toNatClampNeg) ≤ 0 then (if oob (1 : Int32) 4 then none else if oob (1 : Int32) 4 then none else nw (sA U11 39 (1 : Int32) ((U11.2.2.1 39 (1 : Int32).toNatClampNeg) + (1 : Int32))) fun U17 => F_X12_book_195 k111 x1 x2 x3 U17) else (F_X12_book_195 k111 x1 x3 x3 U11)))
def L_X12_book_111 (x1 : Int32) (x2 : Int32) (x3 : Int32) (S0 : St) : Option (Int32 × St) := lp (fun kz z => F_X12_book_111 kz z.1 z.2.1 z.2.2.1 z.2.2.2) FU (x1, x2, x3, S0)
def F_X12_book_89 (k89 : Int32 × Int32 × St → Option (Int32 × St)) (x1 : Int32) (x2 : Int32) (S0 : St) : Option (Int32 × St) := if (4 : Int32) ≤ x2 then (L_X12_book_111 x1 (-1 : Int32) (0 : Int32) S0) else (if oob x2 4 then none else nw (sA S0 39 x2 (0 : Int32)) fun U3 => k89 (x1, (x2 + 1), U3))
def L_X12_book_89 (x1 : Int32) (x2 : Int32) (S0 : St) : Option (Int32 × St) := lp (fun kz z => F_X12_book_89 kz z.1 z.2.1 z.2.2) FU (x1, x2, S0)
def F_X12_book_39 (k39 : Int32 × St → Option (Int32 × St)) (x1 : Int32) (S0 : St) : Option (Int32 × St) := if (S0.1 11) = 0 then (ob1 (F_X12_tries S0) fun U3 => L_X12_book_89 x1 (0 : Int32) U3) else (ob2 (F_X12_bookLine S0) fun r5 U6 => if r5 = 0 then (some (((-2 : Int32) - (U6.1 16)), U6)) else (ob2 (F_X12_sign U6 (59 : Int32)) fun r9 U10 => if r9 = 0 then (some (((-2 : Int32) - (U10.1 16)), U10)) else (nw (sI U10 38 ((U10.1 38) + (1 : Int32))) fun U12 => k39 (x1, U12))))
def L_X12_book_39 (x1 : Int32) (S0 : St) : Option (Int32 × St) := lp (fun kz z => F_X12_book_39 kz z.1 z.2) FU (x1, S0)
def F_X12_book (S0 : St) (x1 : Int32) : Option (Int32 × St) := nw (sI S0 0 (0 : Int32)) fun U1 => ob1 (F_X12_isIn x1 (0 : Int32) (1 : Int32)) fun r4 => if r4 = 0 then (some ((-1000 : Int32), U1)) else (ob1 (F_X12_taken U1 (400 : Int32)) fun U7 => nw (sI U7 15 (0 : Int32)) fun U8 => nw (sI U8 38 (0 : Int32)) fun U10 => ob1 (F_X12_next U10) fun U13 => L_X12_book_39 x1 U13)
set_option maxRecDepth 100000 in
set_option maxHeartbeats 4000000 in
theorem b_X12_book_283 {p : Program} {l : Launch} {e : Env} {s : State} {m : MethodId} {args : Array Value} {below : List Frame} {meth : Method} {c : Code} {D : va_G} {q : Nat → ClassId} {A : Nat → Prop} {o0 : Nat} {a0 : Nat → Nat} {r : Int32} {T0 : St} (C : cx p s m args meth c cX12_book 4 (some .int) RX12 D q A) {x1 : Int32} {x2 : Int32} {S0 : St} (hF : F_X12_book_283 x1 x2 S0 = some (r, T0)) {H : Heap} {locs : List Loc} (hP : va_P D vwCl (fl [g12 q o0 a0 S0]) H) (hD : va_D A (fl [g12 q o0 a0 S0])) (hS : va_S A s.heap H locs) {ls : Array Slot} (hl : lv_has ls 4 [(0, .ref o0), (1, .int x1), (2, .int x2)]) : W p l e rm_X12_book s m args below meth c H locs 0 0 (MQ below (QI D A r (fl [g12 q o0 a0 T0])) args s 0 0 A) (F0 m 283 ls []) := by
  unfold F_X12_book_283 at hF
  obtain ⟨hx, hb, hr, hml, hown, hts, hlk, hA, hK, hN, hV⟩ := id C
  refine lv_iload_n hx hb dX12_book_283 rfl (lv_at hl 1 rfl) ?_
  refine lv_if_ne (tgt := 291) hx hb dX12_book_284 (by decide) (fun c1 => ?_) (fun c1 => ?_)
  · have hF := op_f hF c1
    refine lv_iload_n hx hb dX12_book_291 rfl (lv_at hl 2 rfl) ?_
    cases hF
    exact k_iret C hP hS dX12_book_292
  · have hF := op_t hF c1
    refine lv_aload_n hx hb dX12_book_287 rfl (lv_at hl 0 rfl) ?_
    obtain ⟨U3, hc2, hF⟩ := ob1_s hF
    refine k_vall C (k_rV (As := []) (rest := []) C (c_X12_back l D q o0 a0 S0 _ hc2) kc_X12_back ml_X12_444 rfl rfl (by decide) hP hD hS (va_recv hK hP (ci := 12) (q0 := 0) rfl rfl) rfl hl.1 rfl (Nat.le_of_ble_eq_true rfl) dX12_book_288 (by decide)) hP hD hS (by simp only [List.map_cons, List.map_nil, gad12]) (fun H locs hP hD hS => ?_)
    refine lv_iload_n hx hb dX12_book_291 rfl (lv_at hl 2 rfl) ?_
    cases hF
    exact k_iret C hP hS dX12_book_292
set_option maxRecDepth 100000 in
set_option maxHeartbeats 4000000 in
theorem b_X12_book_249 {p : Program} {l : Launch} {e : Env} {s : State} {m : MethodId} {args : Array Value} {below : List Frame} {meth : Method} {c : Code} {D : va_G} {q : Nat → ClassId} {A : Nat → Prop} {o0 : Nat} {a0 : Nat → Nat} {r : Int32} {T0 : St} (C : cx p s m args meth c cX12_book 4 (some .int) RX12 D q A) {k249 : Int32 × Int32 × Int32 × St → Option (Int32 × St)} (hk249 : ∀ (x1 : Int32) (x2 : Int32) (x3 : Int32) (S0 : St), k249 (x1, x2, x3, S0) = some (r, T0) → ∀ (H : Heap) (locs : List Loc) (ls : Array Slot), va_P D vwCl (fl [g12 q o0 a0 S0]) H → va_D A (fl [g12 q o0 a0 S0]) → va_S A s.heap H locs → lv_has ls 4 [(0, .ref o0), (1, .int x1), (2, .int x2), (3, .int x3)] → W p l e rm_X12_book s m args below meth c H locs 0 0 (MQ below (QI D A r (fl [g12 q o0 a0 T0])) args s 0 0 A) (F0 m 249 ls [])) {x1 : Int32} {x2 : Int32} {x3 : Int32} {S0 : St} (hF : F_X12_book_249 k249 x1 x2 x3 S0 = some (r, T0)) {H : Heap} {locs : List Loc} (hP : va_P D vwCl (fl [g12 q o0 a0 S0]) H) (hD : va_D A (fl [g12 q o0 a0 S0])) (hS : va_S A s.heap H locs) {ls : Array Slot} (hl : lv_has ls 4 [(0, .ref o0), (1, .int x1), (2, .int x2), (3, .int x3)]) : W p l e rm_X12_book s m args below meth c H locs 0 0 (MQ below (QI D A r (fl [g12 q o0 a0 T0])) args s 0 0 A) (F0 m 249 ls []) := by
  unfold F_X12_book_249 at hF
  obtain ⟨hx, hb, hr, hml, hown, hts, hlk, hA, hK, hN, hV⟩ := id C
  refine lv_iload_n hx hb dX12_book_249 rfl (lv_at hl 3 rfl) ?_
  refine lv_bipush (v := (35 : Int32)) hx hb dX12_book_250 (by decide) ?_
  refine lv_icmp_ge (tgt := 283) hx hb dX12_book_252 (by decide) (fun c1 => ?_) (fun c1 => ?_)
  · have hF := op_t hF c1
    exact b_X12_book_283 C hF hP hD hS (lv_sub hl [0, 1, 2] rfl)
  · have hF := op_f hF c1
    refine lv_aload_n hx hb dX12_book_255 rfl (lv_at hl 0 rfl) ?_
    refine k_get (v := .ref (a0 21)) C fg_X12_50 hP 0 rfl rfl dX12_book_256 ?_
    refine lv_bipush (v := (35 : Int32)) hx hb dX12_book_259 (by decide) ?_
    refine lv_aload_n hx hb dX12_book_261 rfl (lv_at hl 0 rfl) ?_
    refine k_get (v := .int (S0.1 22)) C fg_X12_290 hP 0 rfl rfl dX12_book_262 ?_
    refine lv_iconst (v := (1 : Int32)) hx hb dX12_book_265 (by decide) ?_
    refine lv_isub hx hb dX12_book_266 ?_
    refine lv_imul hx hb dX12_book_267 ?_
    refine lv_iload_n hx hb dX12_book_268 rfl (lv_at hl 3 rfl) ?_
    refine lv_iadd hx hb dX12_book_269 ?_
    refine lv_aload_n hx hb dX12_book_270 rfl (lv_at hl 0 rfl) ?_
    refine k_get (v := .ref (a0 22)) C fg_X12_53 hP 0 rfl rfl dX12_book_271 ?_
    refine lv_iload_n hx hb dX12_book_274 rfl (lv_at hl 3 rfl) ?_
    obtain ⟨h2, hF⟩ := op_ck hF
    refine k_ild (f := S0.2.2.1 21) C hP 8 rfl h2 dX12_book_275 ?_
    obtain ⟨h3, hF⟩ := op_ck hF
    obtain ⟨U4, e5, hF⟩ := nw_s hF
    refine k_ist (f := S0.2.2.1 20) (W8 := fl [g12 q o0 a0 U4]) C hP hD hS 7 rfl h3 dX12_book_276 (by rw [e5]; rfl) (fun H locs hP hD hS => ?_)
    refine lv_iinc (v := (x3 + 1)) (lv' := [(3, .int (x3 + 1)), (0, .ref o0), (1, .int x1), (2, .int x2)]) hx hb dX12_book_277 hl (k := 3) rfl rfl (by decide) rfl (fun ls hl => ?_)
    refine lv_goto (tgt := 249) hx hb dX12_book_280 (by decide) ?_
    exact hk249 x1 x2 (x3 + 1) U4 hF _ _ _ hP hD hS (lv_sub hl [1, 2, 3, 0] rfl)
set_option maxRecDepth 100000 in
set_option maxHeartbeats 4000000 in
theorem l_X12_book_249 {p : Program} {l : Launch} {e : Env} {s : State} {m : MethodId} {args : Array Value} {below : List Frame} {meth : Method} {c : Code} {D : va_G} {q : Nat → ClassId} {A : Nat → Prop} {o0 : Nat} {a0 : Nat → Nat} {r : Int32} {T0 : St} (C : cx p s m args meth c cX12_book 4 (some .int) RX12 D q A) {x1 : Int32} {x2 : Int32} {x3 : Int32} {S0 : St} (hF : L_X12_book_249 x1 x2 x3 S0 = some (r, T0)) : ∀ (H : Heap) (locs : List Loc) (ls : Array Slot), va_P D vwCl (fl [g12 q o0 a0 S0]) H → va_D A (fl [g12 q o0 a0 S0]) → va_S A s.heap H locs → lv_has ls 4 [(0, .ref o0), (1, .int x1), (2, .int x2), (3, .int x3)] → W p l e rm_X12_book s m args below meth c H locs 0 0 (MQ below (QI D A r (fl [g12 q o0 a0 T0])) args s 0 0 A) (F0 m 249 ls []) :=
  lp_G _ _ (fun z => ∀ (H : Heap) (locs : List Loc) (ls : Array Slot), va_P D vwCl (fl [g12 q o0 a0 z.2.2.2]) H → va_D A (fl [g12 q o0 a0 z.2.2.2]) → va_S A s.heap H locs → lv_has ls 4 [(0, .ref o0), (1, .int z.1), (2, .int z.2.1), (3, .int z.2.2.1)] → W p l e rm_X12_book s m args below meth c H locs 0 0 (MQ below (QI D A r (fl [g12 q o0 a0 T0])) args s 0 0 A) (F0 m 249 ls [])) (fun kz hkz z hz H locs ls hP hD hS hl => b_X12_book_249 C (fun x1 x2 x3 S0 hz => hkz (x1, x2, x3, S0) hz) hz hP hD hS hl) FU (x1, x2, x3, S0) hF
set_option maxRecDepth 100000 in
set_option maxHeartbeats 4000000 in
theorem b_X12_book_201 {p : Program} {l : Launch} {e : Env} {s : State} {m : MethodId} {args : Array Value} {below : List Frame} {meth : Method} {c : Code} {D : va_G} {q : Nat → ClassId} {A : Nat → Prop} {o0 : Nat} {a0 : Nat → Nat} {r : Int32} {T0 : St} (C : cx p s m args meth c cX12_book 4 (some .int) RX12 D q A) {x1 : Int32} {x2 : Int32} {S0 : St} (hF : F_X12_book_201 x1 x2 S0 = some (r, T0)) {H : Heap} {locs : List Loc} (hP : va_P D vwCl (fl [g12 q o0 a0 S0]) H) (hD : va_D A (fl [g12 q o0 a0 S0])) (hS : va_S A s.heap H locs) {ls : Array Slot} (hl : lv_has ls 4 [(0, .ref o0), (1, .int x1), (2, .int x2)]) : W p l e rm_X12_book s m args below meth c H locs 0 0 (MQ below (QI D A r (fl [g12 q o0 a0 T0])) args s 0 0 A) (F0 m 201 ls []) := by
  unfold F_X12_book_201 at hF
  obtain ⟨hx, hb, hr, hml, hown, hts, hlk, hA, hK, hN, hV⟩ := id C
  refine lv_aload_n hx hb dX12_book_201 rfl (lv_at hl 0 rfl) ?_
  refine k_get (v := .ref (a0 40)) C fg_X12_89 hP 0 rfl rfl dX12_book_202 ?_
  refine lv_iconst (v := (2 : Int32)) hx hb dX12_book_205 (by decide) ?_
  refine lv_aload_n hx hb dX12_book_206 rfl (lv_at hl 0 rfl) ?_
  refine k_get (v := .ref (a0 7)) C fg_X12_33 hP 0 rfl rfl dX12_book_207 ?_
  refine lv_bipush (v := (42 : Int32)) hx hb dX12_book_210 (by decide) ?_
  obtain ⟨h1, hF⟩ := op_ck hF
  refine k_ild (f := S0.2.2.1 6) C hP 2 rfl h1 dX12_book_212 ?_
  obtain ⟨h2, hF⟩ := op_ck hF
  obtain ⟨U3, e4, hF⟩ := nw_s hF
  refine k_ist (f := S0.2.2.1 39) (W8 := fl [g12 q o0 a0 U3]) C hP hD hS 16 rfl h2 dX12_book_213 (by rw [e4]; rfl) (fun H locs hP hD hS => ?_)
  refine lv_aload_n hx hb dX12_book_214 rfl (lv_at hl 0 rfl) ?_
  refine k_get (v := .ref (a0 40)) C fg_X12_89 hP 0 rfl rfl dX12_book_215 ?_
  refine lv_iconst (v := (3 : Int32)) hx hb dX12_book_218 (by decide) ?_
  refine lv_aload_n hx hb dX12_book_219 rfl (lv_at hl 0 rfl) ?_
  obtain ⟨r6, hc5, hF⟩ := ob1_s hF
  refine k_isame C (k_rV (As := []) (rest := [.int (3 : Int32), .ref (a0 40)]) C (c_X12_pleased l D q o0 a0 U3 _ hc5) kc_X12_pleased ml_X12_343 rfl rfl (by decide) hP hD hS (va_recv hK hP (ci := 12) (q0 := 0) rfl rfl) rfl hl.1 rfl (Nat.le_of_ble_eq_true rfl) dX12_book_220 (by decide)) hP hD hS (fun H locs hP hD hS => ?_)
  obtain ⟨h7, hF⟩ := op_ck hF
  obtain ⟨U8, e9, hF⟩ := nw_s hF
  refine k_ist (f := U3.2.2.1 39) (W8 := fl [g12 q o0 a0 U8]) C hP hD hS 16 rfl h7 dX12_book_223 (by rw [e9]; rfl) (fun H locs hP hD hS => ?_)
  refine lv_aload_n hx hb dX12_book_224 rfl (lv_at hl 0 rfl) ?_
  refine lv_iconst (v := (1 : Int32)) hx hb dX12_book_225 (by decide) ?_
  obtain ⟨U10, e11, hF⟩ := nw_s hF
  refine k_put (W8 := fl [g12 q o0 a0 U10]) C fp_X12_457 hP hD hS 0 rfl rfl rfl (Nat.le_of_ble_eq_true rfl) dX12_book_226 (by rw [e11]; rfl) (fun H locs hP hD hS => ?_)
  refine lv_iload_n hx hb dX12_book_229 rfl (lv_at hl 1 rfl) ?_
  refine lv_iconst (v := (1 : Int32)) hx hb dX12_book_230 (by decide) ?_
  refine lv_icmp_ne (tgt := 283) hx hb dX12_book_231 (by decide) (fun c12 => ?_) (fun c12 => ?_)
  · have hF := op_f hF c12
    exact b_X12_book_283 C hF hP hD hS (lv_sub hl [0, 1, 2] rfl)
  · have hF := op_t hF c12
    refine lv_aload_n hx hb dX12_book_234 rfl (lv_at hl 0 rfl) ?_
    refine k_get (v := .ref (a0 40)) C fg_X12_89 hP 0 rfl rfl dX12_book_235 ?_
    refine lv_iconst (v := (1 : Int32)) hx hb dX12_book_238 (by decide) ?_
    obtain ⟨h13, hF⟩ := op_ck hF
    refine k_ild (f := U10.2.2.1 39) C hP 16 rfl h13 dX12_book_239 ?_
    refine lv_if_le (tgt := 283) hx hb dX12_book_240 (by decide) (fun c14 => ?_) (fun c14 => ?_)
    · have hF := op_t hF c14
      exact b_X12_book_283 C hF hP hD hS (lv_sub hl [0, 1, 2] rfl)
    · have hF := op_f hF c14
      refine lv_aload_n hx hb dX12_book_243 rfl (lv_at hl 0 rfl) ?_
      obtain ⟨U16, hc15, hF⟩ := ob1_s hF
      refine k_vall C (k_rV (As := []) (rest := []) C (c_X12_keep l D q o0 a0 U10 _ hc15) kc_X12_keep ml_X12_355 rfl rfl (by decide) hP hD hS (va_recv hK hP (ci := 12) (q0 := 0) rfl rfl) rfl hl.1 rfl (Nat.le_of_ble_eq_true rfl) dX12_book_244 (by decide)) hP hD hS (by simp only [List.map_cons, List.map_nil, gad12]) (fun H locs hP hD hS => ?_)
      refine lv_iconst (v := (0 : Int32)) hx hb dX12_book_247 (by decide) ?_
      refine lv_istore_n (lv' := [(3, .int (0 : Int32)), (0, .ref o0), (1, .int x1), (2, .int x2)]) hx hb dX12_book_248 rfl hl (by decide) rfl (fun ls hl => ?_)
      exact l_X12_book_249 C hF _ _ _ hP hD hS (lv_sub hl [1, 2, 3, 0] rfl)
set_option maxRecDepth 100000 in
set_option maxHeartbeats 4000000 in
theorem b_X12_book_195 {p : Program} {l : Launch} {e : Env} {s : State} {m : MethodId} {args : Array Value} {below : List Frame} {meth : Method} {c : Code} {D : va_G} {q : Nat → ClassId} {A : Nat → Prop} {o0 : Nat} {a0 : Nat → Nat} {r : Int32} {T0 : St} (C : cx p s m args meth c cX12_book 4 (some .int) RX12 D q A) {k111 : Int32 × Int32 × Int32 × St → Option (Int32 × St)} (hk111 : ∀ (x1 : Int32) (x2 : Int32) (x3 : Int32) (S0 : St), k111 (x1, x2, x3, S0) = some (r, T0) → ∀ (H : Heap) (locs : List Loc) (ls : Array Slot), va_P D vwCl (fl [g12 q o0 a0 S0]) H → va_D A (fl [g12 q o0 a0 S0]) → va_S A s.heap H locs → lv_has ls 4 [(0, .ref o0), (1, .int x1), (2, .int x2), (3, .int x3)] → W p l e rm_X12_book s m args below meth c H locs 0 0 (MQ below (QI D A r (fl [g12 q o0 a0 T0])) args s 0 0 A) (F0 m 111 ls [])) {x1 : Int32} {x2 : Int32} {x3 : Int32} {S0 : St} (hF : F_X12_book_195 k111 x1 x2 x3 S0 = some (r, T0)) {H : Heap} {locs : List Loc} (hP : va_P D vwCl (fl [g12 q o0 a0 S0]) H) (hD : va_D A (fl [g12 q o0 a0 S0])) (hS : va_S A s.heap H locs) {ls : Array Slot} (hl : lv_has ls 4 [(0, .ref o0), (1, .int x1), (2, .int x2), (3, .int x3)]) : W p l e rm_X12_book s m args below meth c H locs 0 0 (MQ below (QI D A r (fl [g12 q o0 a0 T0])) args s 0 0 A) (F0 m 195 ls []) := by
  unfold F_X12_book_195 at hF
  obtain ⟨hx, hb, hr, hml, hown, hts, hlk, hA, hK, hN, hV⟩ := id C
  refine lv_iinc (v := (x3 + 1)) (lv' := [(3, .int (x3 + 1)), (0, .ref o0), (1, .int x1), (2, .int x2)]) hx hb dX12_book_195 hl (k := 3) rfl rfl (by decide) rfl (fun ls hl => ?_)
  refine lv_goto (tgt := 111) hx hb dX12_book_198 (by decide) ?_
  exact hk111 x1 x2 (x3 + 1) S0 hF _ _ _ hP hD hS (lv_sub hl [1, 2, 3, 0] rfl)
set_option maxRecDepth 100000 in
set_option maxHeartbeats 4000000 in
theorem b_X12_book_111 {p : Program} {l : Launch} {e : Env} {s : State} {m : MethodId} {args : Array Value} {below : List Frame} {meth : Method} {c : Code} {D : va_G} {q : Nat → ClassId} {A : Nat → Prop} {o0 : Nat} {a0 : Nat → Nat} {r : Int32} {T0 : St} (C : cx p s m args meth c cX12_book 4 (some .int) RX12 D q A) {k111 : Int32 × Int32 × Int32 × St → Option (Int32 × St)} (hk111 : ∀ (x1 : Int32) (x2 : Int32) (x3 : Int32) (S0 : St), k111 (x1, x2, x3, S0) = some (r, T0) → ∀ (H : Heap) (locs : List Loc) (ls : Array Slot), va_P D vwCl (fl [g12 q o0 a0 S0]) H → va_D A (fl [g12 q o0 a0 S0]) → va_S A s.heap H locs → lv_has ls 4 [(0, .ref o0), (1, .int x1), (2, .int x2), (3, .int x3)] → W p l e rm_X12_book s m args below meth c H locs 0 0 (MQ below (QI D A r (fl [g12 q o0 a0 T0])) args s 0 0 A) (F0 m 111 ls [])) {x1 : Int32} {x2 : Int32} {x3 : Int32} {S0 : St} (hF : F_X12_book_111 k111 x1 x2 x3 S0 = some (r, T0)) {H : Heap} {locs : List Loc} (hP : va_P D vwCl (fl [g12 q o0 a0 S0]) H) (hD : va_D A (fl [g12 q o0 a0 S0])) (hS : va_S A s.heap H locs) {ls : Array Slot} (hl : lv_has ls 4 [(0, .ref o0), (1, .int x1), (2, .int x2), (3, .int x3)]) : W p l e rm_X12_book s m args below meth c H locs 0 0 (MQ below (QI D A r (fl [g12 q o0 a0 T0])) args s 0 0 A) (F0 m 111 ls []) := by
  unfold F_X12_book_111 at hF
  obtain ⟨hx, hb, hr, hml, hown, hts, hlk, hA, hK, hN, hV⟩ := id C
  refine lv_iload_n hx hb dX12_book_111 rfl (lv_at hl 3 rfl) ?_
  refine lv_aload_n hx hb dX12_book_112 rfl (lv_at hl 0 rfl) ?_
  refine k_get (v := .int (S0.1 38)) C fg_X12_447 hP 0 rfl rfl dX12_book_113 ?_
  refine lv_icmp_ge (tgt := 201) hx hb dX12_book_116 (by decide) (fun c1 => ?_) (fun c1 => ?_)
  · have hF := op_t hF c1
    exact b_X12_book_201 C hF hP hD hS (lv_sub hl [0, 1, 2] rfl)
  · have hF := op_f hF c1
    refine lv_iload_n hx hb dX12_book_119 rfl (lv_at hl 2 rfl) ?_
    refine lv_if_ge (tgt := 201) hx hb dX12_book_120 (by decide) (fun c2 => ?_) (fun c2 => ?_)
    · have hF := op_t hF c2
      exact b_X12_book_201 C hF hP hD hS (lv_sub hl [0, 1, 2] rfl)
    · have hF := op_f hF c2
      refine lv_aload_n hx hb dX12_book_123 rfl (lv_at hl 0 rfl) ?_
      refine k_get (v := .ref (a0 40)) C fg_X12_89 hP 0 rfl rfl dX12_book_124 ?_
      refine lv_iconst (v := (0 : Int32)) hx hb dX12_book_127 (by decide) ?_
      refine lv_aload_n hx hb dX12_book_128 rfl (lv_at hl 0 rfl) ?_
      refine lv_aload_n hx hb dX12_book_129 rfl (lv_at hl 0 rfl) ?_
      refine k_get (v := .ref (a0 9)) C fg_X12_40 hP 0 rfl rfl dX12_book_130 ?_
      refine lv_iconst (v := (4 : Int32)) hx hb dX12_book_133 (by decide) ?_
      refine lv_iload_n hx hb dX12_book_134 rfl (lv_at hl 3 rfl) ?_
      refine lv_imul hx hb dX12_book_135 ?_
      obtain ⟨h3, hF⟩ := op_ck hF
      refine k_ild (f := S0.2.2.1 8) C hP 4 rfl h3 dX12_book_136 ?_
      refine lv_aload_n hx hb dX12_book_137 rfl (lv_at hl 0 rfl) ?_
      refine k_get (v := .ref (a0 9)) C fg_X12_40 hP 0 rfl rfl dX12_book_138 ?_
      refine lv_iconst (v := (4 : Int32)) hx hb dX12_book_141 (by decide) ?_
      refine lv_iload_n hx hb dX12_book_142 rfl (lv_at hl 3 rfl) ?_
      refine lv_imul hx hb dX12_book_143 ?_
      refine lv_iconst (v := (1 : Int32)) hx hb dX12_book_144 (by decide) ?_
      refine lv_iadd hx hb dX12_book_145 ?_
      obtain ⟨h4, hF⟩ := op_ck hF
      refine k_ild (f := S0.2.2.1 8) C hP 4 rfl h4 dX12_book_146 ?_
      refine lv_aload_n hx hb dX12_book_147 rfl (lv_at hl 0 rfl) ?_
      refine k_get (v := .ref (a0 9)) C fg_X12_40 hP 0 rfl rfl dX12_book_148 ?_
      refine lv_iconst (v := (4 : Int32)) hx hb dX12_book_151 (by decide) ?_
      refine lv_iload_n hx hb dX12_book_152 rfl (lv_at hl 3 rfl) ?_
      refine lv_imul hx hb dX12_book_153 ?_
      refine lv_iconst (v := (2 : Int32)) hx hb dX12_book_154 (by decide) ?_
      refine lv_iadd hx hb dX12_book_155 ?_
      obtain ⟨h5, hF⟩ := op_ck hF
      refine k_ild (f := S0.2.2.1 8) C hP 4 rfl h5 dX12_book_156 ?_
      refine lv_aload_n hx hb dX12_book_157 rfl (lv_at hl 0 rfl) ?_
      refine k_get (v := .ref (a0 9)) C fg_X12_40 hP 0 rfl rfl dX12_book_158 ?_
      refine lv_iconst (v := (4 : Int32)) hx hb dX12_book_161 (by decide) ?_
      refine lv_iload_n hx hb dX12_book_162 rfl (lv_at hl 3 rfl) ?_
      refine lv_imul hx hb dX12_book_163 ?_
      refine lv_iconst (v := (3 : Int32)) hx hb dX12_book_164 (by decide) ?_
      refine lv_iadd hx hb dX12_book_165 ?_
      obtain ⟨h6, hF⟩ := op_ck hF
      refine k_ild (f := S0.2.2.1 8) C hP 4 rfl h6 dX12_book_166 ?_
      obtain ⟨r8, U9, hc7, hF⟩ := ob2_s hF
      refine k_iall C (k_rV (As := [.int (S0.2.2.1 8 ((4 : Int32) * x3).toNatClampNeg), .int (S0.2.2.1 8 (((4 : Int32) * x3) + (1 : Int32)).toNatClampNeg), .int (S0.2.2.1 8 (((4 : Int32) * x3) + (2 : Int32)).toNatClampNeg), .int (S0.2.2.1 8 (((4 : Int32) * x3) + (3 : Int32)).toNatClampNeg)]) (rest := [.int (0 : Int32), .ref (a0 40)]) C (c_X12_does l D q o0 a0 S0 _ (S0.2.2.1 8 ((4 : Int32) * x3).toNatClampNeg) (S0.2.2.1 8 (((4 : Int32) * x3) + (1 : Int32)).toNatClampNeg) (S0.2.2.1 8 (((4 : Int32) * x3) + (2 : Int32)).toNatClampNeg) (S0.2.2.1 8 (((4 : Int32) * x3) + (3 : Int32)).toNatClampNeg) hc7) kc_X12_does ml_X12_453 rfl rfl (by decide) hP hD hS (va_recv hK hP (ci := 12) (q0 := 0) rfl rfl) rfl hl.1 rfl (Nat.le_of_ble_eq_true rfl) dX12_book_167 (by decide)) hP hD hS (by simp only [List.map_cons, List.map_nil, gad12]) (fun H locs hP hD hS => ?_)
      obtain ⟨h10, hF⟩ := op_ck hF
      obtain ⟨U11, e12, hF⟩ := nw_s hF
      refine k_ist (f := U9.2.2.1 39) (W8 := fl [g12 q o0 a0 U11]) C hP hD hS 16 rfl h10 dX12_book_170 (by rw [e12]; rfl) (fun H locs hP hD hS => ?_)
      refine lv_aload_n hx hb dX12_book_171 rfl (lv_at hl 0 rfl) ?_
      refine k_get (v := .ref (a0 40)) C fg_X12_89 hP 0 rfl rfl dX12_book_172 ?_
      refine lv_iconst (v := (0 : Int32)) hx hb dX12_book_175 (by decide) ?_
      obtain ⟨h13, hF⟩ := op_ck hF
      refine k_ild (f := U11.2.2.1 39) C hP 16 rfl h13 dX12_book_176 ?_
      refine lv_if_le (tgt := 185) hx hb dX12_book_177 (by decide) (fun c14 => ?_) (fun c14 => ?_)
      · have hF := op_t hF c14
        refine lv_aload_n hx hb dX12_book_185 rfl (lv_at hl 0 rfl) ?_
        refine k_get (v := .ref (a0 40)) C fg_X12_89 hP 0 rfl rfl dX12_book_186 ?_
        refine lv_iconst (v := (1 : Int32)) hx hb dX12_book_189 (by decide) ?_
        refine lv_dup2_11 hx hb dX12_book_190 rfl rfl ?_
        obtain ⟨h15, hF⟩ := op_ck hF
        refine k_ild (f := U11.2.2.1 39) C hP 16 rfl h15 dX12_book_191 ?_
        refine lv_iconst (v := (1 : Int32)) hx hb dX12_book_192 (by decide) ?_
        refine lv_iadd hx hb dX12_book_193 ?_
        obtain ⟨h16, hF⟩ := op_ck hF
        obtain ⟨U17, e18, hF⟩ := nw_s hF
        refine k_ist (f := U11.2.2.1 39) (W8 := fl [g12 q o0 a0 U17]) C hP hD hS 16 rfl h16 dX12_book_194 (by rw [e18]; rfl) (fun H locs hP hD hS => ?_)
        exact b_X12_book_195 C hk111 hF hP hD hS (lv_sub hl [0, 1, 2, 3] rfl)
      · have hF := op_f hF c14
        refine lv_iload_n hx hb dX12_book_180 rfl (lv_at hl 3 rfl) ?_
        refine lv_istore_n (lv' := [(2, .int x3), (0, .ref o0), (1, .int x1), (3, .int x3)]) hx hb dX12_book_181 rfl hl (by decide) rfl (fun ls hl => ?_)
        refine lv_goto (tgt := 195) hx hb dX12_book_182 (by decide) ?_
        exact b_X12_book_195 C hk111 hF hP hD hS (lv_sub hl [1, 2, 0, 3] rfl)
set_option maxRecDepth 100000 in
set_option maxHeartbeats 4000000 in
theorem l_X12_book_111 {p : Program} {l : Launch} {e : Env} {s : State} {m : MethodId} {args : Array Value} {below : List Frame} {meth : Method} {c : Code} {D : va_G} {q : Nat → ClassId} {A : Nat → Prop} {o0 : Nat} {a0 : Nat → Nat} {r : Int32} {T0 : St} (C : cx p s m args meth c cX12_book 4 (some .int) RX12 D q A) {x1 : Int32} {x2 : Int32} {x3 : Int32} {S0 : St} (hF : L_X12_book_111 x1 x2 x3 S0 = some (r, T0)) : ∀ (H : Heap) (locs : List Loc) (ls : Array Slot), va_P D vwCl (fl [g12 q o0 a0 S0]) H → va_D A (fl [g12 q o0 a0 S0]) → va_S A s.heap H locs → lv_has ls 4 [(0, .ref o0), (1, .int x1), (2, .int x2), (3, .int x3)] → W p l e rm_X12_book s m args below meth c H locs 0 0 (MQ below (QI D A r (fl [g12 q o0 a0 T0])) args s 0 0 A) (F0 m 111 ls []) :=
  lp_G _ _ (fun z => ∀ (H : Heap) (locs : List Loc) (ls : Array Slot), va_P D vwCl (fl [g12 q o0 a0 z.2.2.2]) H → va_D A (fl [g12 q o0 a0 z.2.2.2]) → va_S A s.heap H locs → lv_has ls 4 [(0, .ref o0), (1, .int z.1), (2, .int z.2.1), (3, .int z.2.2.1)] → W p l e rm_X12_book s m args below meth c H locs 0 0 (MQ below (QI D A r (fl [g12 q o0 a0 T0])) args s 0 0 A) (F0 m 111 ls [])) (fun kz hkz z hz H locs ls hP hD hS hl => b_X12_book_111 C (fun x1 x2 x3 S0 hz => hkz (x1, x2, x3, S0) hz) hz hP hD hS hl) FU (x1, x2, x3, S0) hF
set_option maxRecDepth 100000 in
set_option maxHeartbeats 4000000 in
theorem b_X12_book_89 {p : Program} {l : Launch} {e : Env} {s : State} {m : MethodId} {args : Array Value} {below : List Frame} {meth : Method} {c : Code} {D : va_G} {q : Nat → ClassId} {A : Nat → Prop} {o0 : Nat} {a0 : Nat → Nat} {r : Int32} {T0 : St} (C : cx p s m args meth c cX12_book 4 (some .int) RX12 D q A) {k89 : Int32 × Int32 × St → Option (Int32 × St)} (hk89 : ∀ (x1 : Int32) (x2 : Int32) (S0 : St), k89 (x1, x2, S0) = some (r, T0) → ∀ (H : Heap) (locs : List Loc) (ls : Array Slot), va_P D vwCl (fl [g12 q o0 a0 S0]) H → va_D A (fl [g12 q o0 a0 S0]) → va_S A s.heap H locs → lv_has ls 4 [(0, .ref o0), (1, .int x1), (2, .int x2)] → W p l e rm_X12_book s m args below meth c H locs 0 0 (MQ below (QI D A r (fl [g12 q o0 a0 T0])) args s 0 0 A) (F0 m 89 ls [])) {x1 : Int32} {x2 : Int32} {S0 : St} (hF : F_X12_book_89 k89 x1 x2 S0 = some (r, T0)) {H : Heap} {locs : List Loc} (hP : va_P D vwCl (fl [g12 q o0 a0 S0]) H) (hD : va_D A (fl [g12 q o0 a0 S0])) (hS : va_S A s.heap H locs) {ls : Array Slot} (hl : lv_has ls 4 [(0, .ref o0), (1, .int x1), (2, .int x2)]) : W p l e rm_X12_book s m args below meth c H locs 0 0 (MQ below (QI D A r (fl [g12 q o0 a0 T0])) args s 0 0 A) (F0 m 89 ls []) := by
  unfold F_X12_book_89 at hF
  obtain ⟨hx, hb, hr, hml, hown, hts, hlk, hA, hK, hN, hV⟩ := id C
  refine lv_iload_n hx hb dX12_book_89 rfl (lv_at hl 2 rfl) ?_
  refine lv_iconst (v := (4 : Int32)) hx hb dX12_book_90 (by decide) ?_
  refine lv_icmp_ge (tgt := 107) hx hb dX12_book_91 (by decide) (fun c1 => ?_) (fun c1 => ?_)
  · have hF := op_t hF c1
    refine lv_iconst (v := (-1 : Int32)) hx hb dX12_book_107 (by decide) ?_
    refine lv_istore_n (lv' := [(2, .int (-1 : Int32)), (0, .ref o0), (1, .int x1)]) hx hb dX12_book_108 rfl hl (by decide) rfl (fun ls hl => ?_)
    refine lv_iconst (v := (0 : Int32)) hx hb dX12_book_109 (by decide) ?_
    refine lv_istore_n (lv' := [(3, .int (0 : Int32)), (2, .int (-1 : Int32)), (0, .ref o0), (1, .int x1)]) hx hb dX12_book_110 rfl hl (by decide) rfl (fun ls hl => ?_)
    exact l_X12_book_111 C hF _ _ _ hP hD hS (lv_sub hl [2, 3, 1, 0] rfl)
  · have hF := op_f hF c1
    refine lv_aload_n hx hb dX12_book_94 rfl (lv_at hl 0 rfl) ?_
    refine k_get (v := .ref (a0 40)) C fg_X12_89 hP 0 rfl rfl dX12_book_95 ?_
    refine lv_iload_n hx hb dX12_book_98 rfl (lv_at hl 2 rfl) ?_
    refine lv_iconst (v := (0 : Int32)) hx hb dX12_book_99 (by decide) ?_
    obtain ⟨h2, hF⟩ := op_ck hF
    obtain ⟨U3, e4, hF⟩ := nw_s hF
    refine k_ist (f := S0.2.2.1 39) (W8 := fl [g12 q o0 a0 U3]) C hP hD hS 16 rfl h2 dX12_book_100 (by rw [e4]; rfl) (fun H locs hP hD hS => ?_)
    refine lv_iinc (v := (x2 + 1)) (lv' := [(2, .int (x2 + 1)), (0, .ref o0), (1, .int x1)]) hx hb dX12_book_101 hl (k := 2) rfl rfl (by decide) rfl (fun ls hl => ?_)
    refine lv_goto (tgt := 89) hx hb dX12_book_104 (by decide) ?_
    exact hk89 x1 (x2 + 1) U3 hF _ _ _ hP hD hS (lv_sub hl [1, 2, 0] rfl)
set_option maxRecDepth 100000 in
set_option maxHeartbeats 4000000 in
theorem l_X12_book_89 {p : Program} {l : Launch} {e : Env} {s : State} {m : MethodId} {args : Array Value} {below : List Frame} {meth : Method} {c : Code} {D : va_G} {q : Nat → ClassId} {A : Nat → Prop} {o0 : Nat} {a0 : Nat → Nat} {r : Int32} {T0 : St} (C : cx p s m args meth c cX12_book 4 (some .int) RX12 D q A) {x1 : Int32} {x2 : Int32} {S0 : St} (hF : L_X12_book_89 x1 x2 S0 = some (r, T0)) : ∀ (H : Heap) (locs : List Loc) (ls : Array Slot), va_P D vwCl (fl [g12 q o0 a0 S0]) H → va_D A (fl [g12 q o0 a0 S0]) → va_S A s.heap H locs → lv_has ls 4 [(0, .ref o0), (1, .int x1), (2, .int x2)] → W p l e rm_X12_book s m args below meth c H locs 0 0 (MQ below (QI D A r (fl [g12 q o0 a0 T0])) args s 0 0 A) (F0 m 89 ls []) :=
  lp_G _ _ (fun z => ∀ (H : Heap) (locs : List Loc) (ls : Array Slot), va_P D vwCl (fl [g12 q o0 a0 z.2.2]) H → va_D A (fl [g12 q o0 a0 z.2.2]) → va_S A s.heap H locs → lv_has ls 4 [(0, .ref o0), (1, .int z.1), (2, .int z.2.1)] → W p l e rm_X12_book s m args below meth c H locs 0 0 (MQ below (QI D A r (fl [g12 q o0 a0 T0])) args s 0 0 A) (F0 m 89 ls [])) (fun kz hkz z hz H locs ls hP hD hS hl => b_X12_book_89 C (fun x1 x2 S0 hz => hkz (x1, x2, S0) hz) hz hP hD hS hl) FU (x1, x2, S0) hF
set_option maxRecDepth 100000 in
set_option maxHeartbeats 4000000 in
theorem b_X12_book_39 {p : Program} {l : Launch} {e : Env} {s : State} {m : MethodId} {args : Array Value} {below : List Frame} {meth : Method} {c : Code} {D : va_G} {q : Nat → ClassId} {A : Nat → Prop} {o0 : Nat} {a0 : Nat → Nat} {r : Int32} {T0 : St} (C : cx p s m args meth c cX12_book 4 (some .int) RX12 D q A) {k39 : Int32 × St → Option (Int32 × St)} (hk39 : ∀ (x1 : Int32) (S0 : St), k39 (x1, S0) = some (r, T0) → ∀ (H : Heap) (locs : List Loc) (ls : Array Slot), va_P D vwCl (fl [g12 q o0 a0 S0]) H → va_D A (fl [g12 q o0 a0 S0]) → va_S A s.heap H locs → lv_has ls 4 [(0, .ref o0), (1, .int x1)] → W p l e rm_X12_book s m args below meth c H locs 0 0 (MQ below (QI D A r (fl [g12 q o0 a0 T0])) args s 0 0 A) (F0 m 39 ls [])) {x1 : Int32} {S0 : St} (hF : F_X12_book_39 k39 x1 S0 = some (r, T0)) {H : Heap} {locs : List Loc} (hP : va_P D vwCl (fl [g12 q o0 a0 S0]) H) (hD : va_D A (fl [g12 q o0 a0 S0])) (hS : va_S A s.heap H locs) {ls : Array Slot} (hl : lv_has ls 4 [(0, .ref o0), (1, .int x1)]) : W p l e rm_X12_book s m args below meth c H locs 0 0 (MQ below (QI D A r (fl [g12 q o0 a0 T0])) args s 0 0 A) (F0 m 39 ls []) := by
  unfold F_X12_book_39 at hF
  obtain ⟨hx, hb, hr, hml, hown, hts, hlk, hA, hK, hN, hV⟩ := id C
  refine lv_aload_n hx hb dX12_book_39 rfl (lv_at hl 0 rfl) ?_
  refine k_get (v := .int (S0.1 11)) C fg_X12_193 hP 0 rfl rfl dX12_book_40 ?_
  refine lv_if_eq (tgt := 83) hx hb dX12_book_43 (by decide) (fun c1 => ?_) (fun c1 => ?_)
  · have hF := op_t hF c1
    refine lv_aload_n hx hb dX12_book_83 rfl (lv_at hl 0 rfl) ?_
    obtain ⟨U3, hc2, hF⟩ := ob1_s hF
    refine k_vall C (k_rV (As := []) (rest := []) C (c_X12_tries l D q o0 a0 S0 _ hc2) kc_X12_tries ml_X12_441 rfl rfl (by decide) hP hD hS (va_recv hK hP (ci := 12) (q0 := 0) rfl rfl) rfl hl.1 rfl (Nat.le_of_ble_eq_true rfl) dX12_book_84 (by decide)) hP hD hS (by simp only [List.map_cons, List.map_nil, gad12]) (fun H locs hP hD hS => ?_)
    refine lv_iconst (v := (0 : Int32)) hx hb dX12_book_87 (by decide) ?_
    refine lv_istore_n (lv' := [(2, .int (0 : Int32)), (0, .ref o0), (1, .int x1)]) hx hb dX12_book_88 rfl hl (by decide) rfl (fun ls hl => ?_)
    exact l_X12_book_89 C hF _ _ _ hP hD hS (lv_sub hl [1, 2, 0] rfl)
  · have hF := op_f hF c1
    refine lv_aload_n hx hb dX12_book_46 rfl (lv_at hl 0 rfl) ?_
    obtain ⟨r5, U6, hc4, hF⟩ := ob2_s hF
    refine k_iall C (k_rV (As := []) (rest := []) C (c_X12_bookLine l D q o0 a0 S0 _ hc4) kc_X12_bookLine ml_X12_450 rfl rfl (by decide) hP hD hS (va_recv hK hP (ci := 12) (q0 := 0) rfl rfl) rfl hl.1 rfl (Nat.le_of_ble_eq_true rfl) dX12_book_47 (by decide)) hP hD hS (by simp only [List.map_cons, List.map_nil, gad12]) (fun H locs hP hD hS => ?_)
    refine lv_if_eq (tgt := 62) hx hb dX12_book_50 (by decide) (fun c7 => ?_) (fun c7 => ?_)
    · have hF := op_t hF c7
      refine lv_bipush (v := (-2 : Int32)) hx hb dX12_book_62 (by decide) ?_
      refine lv_aload_n hx hb dX12_book_64 rfl (lv_at hl 0 rfl) ?_
      refine k_get (v := .int (U6.1 16)) C fg_X12_213 hP 0 rfl rfl dX12_book_65 ?_
      refine lv_isub hx hb dX12_book_68 ?_
      generalize ((-2 : Int32) - (U6.1 16)) = rr at hF ⊢
      cases hF
      exact k_iret C hP hS dX12_book_69
    · have hF := op_f hF c7
      refine lv_aload_n hx hb dX12_book_53 rfl (lv_at hl 0 rfl) ?_
      refine lv_bipush (v := (59 : Int32)) hx hb dX12_book_54 (by decide) ?_
      obtain ⟨r9, U10, hc8, hF⟩ := ob2_s hF
      refine k_iall C (k_rV (As := [.int (59 : Int32)]) (rest := []) C (c_X12_sign l D q o0 a0 U6 _ (59 : Int32) hc8) kc_X12_sign ml_X12_287 rfl rfl (by decide) hP hD hS (va_recv hK hP (ci := 12) (q0 := 0) rfl rfl) rfl hl.1 rfl (Nat.le_of_ble_eq_true rfl) dX12_book_56 (by decide)) hP hD hS (by simp only [List.map_cons, List.map_nil, gad12]) (fun H locs hP hD hS => ?_)
      refine lv_if_ne (tgt := 70) hx hb dX12_book_59 (by decide) (fun c11 => ?_) (fun c11 => ?_)
      · have hF := op_f hF c11
        refine lv_aload_n hx hb dX12_book_70 rfl (lv_at hl 0 rfl) ?_
        refine lv_dup hx hb dX12_book_71 rfl ?_
        refine k_get (v := .int (U10.1 38)) C fg_X12_447 hP 0 rfl rfl dX12_book_72 ?_
        refine lv_iconst (v := (1 : Int32)) hx hb dX12_book_75 (by decide) ?_
        refine lv_iadd hx hb dX12_book_76 ?_
        obtain ⟨U12, e13, hF⟩ := nw_s hF
        refine k_put (W8 := fl [g12 q o0 a0 U12]) C fp_X12_447 hP hD hS 0 rfl rfl rfl (Nat.le_of_ble_eq_true rfl) dX12_book_77 (by rw [e13]; rfl) (fun H locs hP hD hS => ?_)
        refine lv_goto (tgt := 39) hx hb dX12_book_80 (by decide) ?_
        exact hk39 x1 U12 hF _ _ _ hP hD hS (lv_sub hl [0, 1] rfl)
      · have hF := op_t hF c11
        refine lv_bipush (v := (-2 : Int32)) hx hb dX12_book_62 (by decide) ?_
        refine lv_aload_n hx hb dX12_book_64 rfl (lv_at hl 0 rfl) ?_
        refine k_get (v := .int (U10.1 16)) C fg_X12_213 hP 0 rfl rfl dX12_book_65 ?_
        refine lv_isub hx hb dX12_book_68 ?_
        generalize ((-2 : Int32) - (U10.1 16)) = rr at hF ⊢
        cases hF
        exact k_iret C hP hS dX12_book_69
set_option maxRecDepth 100000 in
set_option maxHeartbeats 4000000 in
theorem l_X12_book_39 {p : Program} {l : Launch} {e : Env} {s : State} {m : MethodId} {args : Array Value} {below : List Frame} {meth : Method} {c : Code} {D : va_G} {q : Nat → ClassId} {A : Nat → Prop} {o0 : Nat} {a0 : Nat → Nat} {r : Int32} {T0 : St} (C : cx p s m args meth c cX12_book 4 (some .int) RX12 D q A) {x1 : Int32} {S0 : St} (hF : L_X12_book_39 x1 S0 = some (r, T0)) : ∀ (H : Heap) (locs : List Loc) (ls : Array Slot), va_P D vwCl (fl [g12 q o0 a0 S0]) H → va_D A (fl [g12 q o0 a0 S0]) → va_S A s.heap H locs → lv_has ls 4 [(0, .ref o0), (1, .int x1)] → W p l e rm_X12_book s m args below meth c H locs 0 0 (MQ below (QI D A r (fl [g12 q o0 a0 T0])) args s 0 0 A) (F0 m 39 ls []) :=
  lp_G _ _ (fun z => ∀ (H : Heap) (locs : List Loc) (ls : Array Slot), va_P D vwCl (fl [g12 q o0 a0 z.2]) H → va_D A (fl [g12 q o0 a0 z.2]) → va_S A s.heap H locs → lv_has ls 4 [(0, .ref o0), (1, .int z.1)] → W p l e rm_X12_book s m args below meth c H locs 0 0 (MQ below (QI D A r (fl [g12 q o0 a0 T0])) args s 0 0 A) (F0 m 39 ls [])) (fun kz hkz z hz H locs ls hP hD hS hl => b_X12_book_39 C (fun x1 S0 hz => hkz (x1, S0) hz) hz hP hD hS hl) FU (x1, S0) hF
set_option maxRecDepth 100000 in
set_option maxHeartbeats 4000000 in
theorem c_X12_book (l : Launch) (D : va_G) (q : Nat → ClassId) (o0 : Nat) (a0 : Nat → Nat) (S0 : St) (sz : Nat) (x1 : Int32) {r : Int32} {T0 : St} (hF : F_X12_book S0 x1 = some (r, T0)) : Met l yX12_book (Cond.code yX12_book cX12_book 4 (some .int) :: TB) rm_X12_book (PC D q [.ref o0, .int x1] (fl [g12 q o0 a0 S0]) sz) ((fun A => QI D A r (fl [g12 q o0 a0 T0])) (va_A (fl [g12 q o0 a0 S0]) sz)) 0 0 (va_A (fl [g12 q o0 a0 S0]) sz) := by
  refine k_met (w0 := fl [g12 q o0 a0 S0]) (Q := fun A => QI D A r (fl [g12 q o0 a0 T0])) (by decide +kernel) (Nat.le_of_ble_eq_true rfl) ?_
  intro p e s m args below meth c A ls C hP hD hS hl
  have hl : lv_has ls 4 [(0, .ref o0), (1, .int x1)] := hl
  unfold F_X12_book at hF
  have C : cx p s m args meth c cX12_book 4 (some .int) RX12 D q A := C
  obtain ⟨hx, hb, hr, hml, hown, hts, hlk, hA, hK, hN, hV⟩ := id C
  refine lv_aload_n hx hb dX12_book_0 rfl (lv_at hl 0 rfl) ?_
  refine lv_iconst (v := (0 : Int32)) hx hb dX12_book_1 (by decide) ?_
  obtain ⟨U1, e2, hF⟩ := nw_s hF
  refine k_put (W8 := fl [g12 q o0 a0 U1]) C fp_X12_1 hP hD hS 0 rfl rfl rfl (Nat.le_of_ble_eq_true rfl) dX12_book_2 (by rw [e2]; rfl) (fun H locs hP hD hS => ?_)
  refine lv_iload_n hx hb dX12_book_5 rfl (lv_at hl 1 rfl) ?_
  refine lv_iconst (v := (0 : Int32)) hx hb dX12_book_6 (by decide) ?_
  refine lv_iconst (v := (1 : Int32)) hx hb dX12_book_7 (by decide) ?_
  obtain ⟨r4, hc3, hF⟩ := ob1_s hF
  refine k_inil C (k_rS (As := [.int x1, .int (0 : Int32), .int (1 : Int32)]) (rest := []) C (c_X12_isIn l D q _ x1 (0 : Int32) (1 : Int32) hc3) kc_X12_isIn ml_X12_225 rfl rfl (by decide) (fun k x h => by simp at h) (⟨fun i j x y h => by simp at h, fun k x h => by simp at h⟩ : va_D A []) hS rfl hl.1 rfl (Nat.le_of_ble_eq_true rfl) dX12_book_8 (by decide)) hP hD hS (fun H locs hP hD hS => ?_)
  refine lv_if_ne (tgt := 18) hx hb dX12_book_11 (by decide) (fun c5 => ?_) (fun c5 => ?_)
  · have hF := op_f hF c5
    refine lv_aload_n hx hb dX12_book_18 rfl (lv_at hl 0 rfl) ?_
    refine lv_sipush (v := (400 : Int32)) hx hb dX12_book_19 (by decide) ?_
    obtain ⟨U7, hc6, hF⟩ := ob1_s hF
    refine k_vall C (k_rV (As := [.int (400 : Int32)]) (rest := []) C (c_X12_taken l D q o0 a0 U1 _ (400 : Int32) hc6) kc_X12_taken ml_X12_278 rfl rfl (by decide) hP hD hS (va_recv hK hP (ci := 12) (q0 := 0) rfl rfl) rfl hl.1 rfl (Nat.le_of_ble_eq_true rfl) dX12_book_22 (by decide)) hP hD hS (by simp only [List.map_cons, List.map_nil, gad12]) (fun H locs hP hD hS => ?_)
    refine lv_aload_n hx hb dX12_book_25 rfl (lv_at hl 0 rfl) ?_
    refine lv_iconst (v := (0 : Int32)) hx hb dX12_book_26 (by decide) ?_
    obtain ⟨U8, e9, hF⟩ := nw_s hF
    refine k_put (W8 := fl [g12 q o0 a0 U8]) C fp_X12_210 hP hD hS 0 rfl rfl rfl (Nat.le_of_ble_eq_true rfl) dX12_book_27 (by rw [e9]; rfl) (fun H locs hP hD hS => ?_)
    refine lv_aload_n hx hb dX12_book_30 rfl (lv_at hl 0 rfl) ?_
    refine lv_iconst (v := (0 : Int32)) hx hb dX12_book_31 (by decide) ?_
    obtain ⟨U10, e11, hF⟩ := nw_s hF
    refine k_put (W8 := fl [g12 q o0 a0 U10]) C fp_X12_447 hP hD hS 0 rfl rfl rfl (Nat.le_of_ble_eq_true rfl) dX12_book_32 (by rw [e11]; rfl) (fun H locs hP hD hS => ?_)
    refine lv_aload_n hx hb dX12_book_35 rfl (lv_at hl 0 rfl) ?_
    obtain ⟨U13, hc12, hF⟩ := ob1_s hF
    refine k_vall C (k_rV (As := []) (rest := []) C (c_X12_next l D q o0 a0 U10 _ hc12) kc_X12_next ml_X12_222 rfl rfl (by decide) hP hD hS (va_recv hK hP (ci := 12) (q0 := 0) rfl rfl) rfl hl.1 rfl (Nat.le_of_ble_eq_true rfl) dX12_book_36 (by decide)) hP hD hS (by simp only [List.map_cons, List.map_nil, gad12]) (fun H locs hP hD hS => ?_)
    exact l_X12_book_39 C hF _ _ _ hP hD hS (lv_sub hl [0, 1] rfl)
  · have hF := op_t hF c5
    refine lv_sipush (v := (-1000 : Int32)) hx hb dX12_book_14 (by decide) ?_
    cases hF
    exact k_iret C hP hS dX12_book_17

abbrev rm_X12_told : Room := ({ frames := 1, cells := 0, slots := 0, locals := 22 } : Room)
def F_X12_told (S0 : St) (x1 : Int32) : Option (Int32 × St) := nw (sI S0 0 (0 : Int32)) fun U1 => if (U1.1 40) = 0 then (some ((-1 : Int32), U1)) else (ob1 (F_X12_isIn x1 (0 : Int32) (3 : Int32)) fun r5 => if r5 = 0 then (some ((-1 : Int32), U1)) else (if oob x1 4 then none else some ((U1.2.2.1 39 x1.toNatClampNeg), U1)))
set_option maxRecDepth 100000 in
set_option maxHeartbeats 4000000 in
theorem c_X12_told (l : Launch) (D : va_G) (q : Nat → ClassId) (o0 : Nat) (a0 : Nat → Nat) (S0 : St) (sz : Nat) (x1 : Int32) {r : Int32} {T0 : St} (hF : F_X12_told S0 x1 = some (r, T0)) : Met l yX12_told (Cond.code yX12_told cX12_told 2 (some .int) :: TB) rm_X12_told (PC D q [.ref o0, .int x1] (fl [g12 q o0 a0 S0]) sz) ((fun A => QI D A r (fl [g12 q o0 a0 T0])) (va_A (fl [g12 q o0 a0 S0]) sz)) 0 0 (va_A (fl [g12 q o0 a0 S0]) sz) := by
  refine k_met (w0 := fl [g12 q o0 a0 S0]) (Q := fun A => QI D A r (fl [g12 q o0 a0 T0])) (by decide +kernel) (Nat.le_of_ble_eq_true rfl) ?_
  intro p e s m args below meth c A ls C hP hD hS hl
  have hl : lv_has ls 2 [(0, .ref o0), (1, .int x1)] := hl
  unfold F_X12_told at hF
  have C : cx p s m args meth c cX12_told 2 (some .int) RX12 D q A := C
  obtain ⟨hx, hb, hr, hml, hown, hts, hlk, hA, hK, hN, hV⟩ := id C
  refine lv_aload_n hx hb dX12_told_0 rfl (lv_at hl 0 rfl) ?_
  refine lv_iconst (v := (0 : Int32)) hx hb dX12_told_1 (by decide) ?_
  obtain ⟨U1, e2, hF⟩ := nw_s hF
  refine k_put (W8 := fl [g12 q o0 a0 U1]) C fp_X12_1 hP hD hS 0 rfl rfl rfl (Nat.le_of_ble_eq_true rfl) dX12_told_2 (by rw [e2]; rfl) (fun H locs hP hD hS => ?_)
  refine lv_aload_n hx hb dX12_told_5 rfl (lv_at hl 0 rfl) ?_
  refine k_get (v := .int (U1.1 40)) C fg_X12_457 hP 0 rfl rfl dX12_told_6 ?_
  refine lv_if_eq (tgt := 30) hx hb dX12_told_9 (by decide) (fun c3 => ?_) (fun c3 => ?_)
  · have hF := op_t hF c3
    refine lv_iconst (v := (-1 : Int32)) hx hb dX12_told_30 (by decide) ?_
    cases hF
    exact k_iret C hP hS dX12_told_31
  · have hF := op_f hF c3
    refine lv_iload_n hx hb dX12_told_12 rfl (lv_at hl 1 rfl) ?_
    refine lv_iconst (v := (0 : Int32)) hx hb dX12_told_13 (by decide) ?_
    refine lv_iconst (v := (3 : Int32)) hx hb dX12_told_14 (by decide) ?_
    obtain ⟨r5, hc4, hF⟩ := ob1_s hF
    refine k_inil C (k_rS (As := [.int x1, .int (0 : Int32), .int (3 : Int32)]) (rest := []) C (c_X12_isIn l D q _ x1 (0 : Int32) (3 : Int32) hc4) kc_X12_isIn ml_X12_225 rfl rfl (by decide) (fun k x h => by simp at h) (⟨fun i j x y h => by simp at h, fun k x h => by simp at h⟩ : va_D A []) hS rfl hl.1 rfl (Nat.le_of_ble_eq_true rfl) dX12_told_15 (by decide)) hP hD hS (fun H locs hP hD hS => ?_)
    refine lv_if_eq (tgt := 30) hx hb dX12_told_18 (by decide) (fun c6 => ?_) (fun c6 => ?_)
    · have hF := op_t hF c6
      refine lv_iconst (v := (-1 : Int32)) hx hb dX12_told_30 (by decide) ?_
      cases hF
      exact k_iret C hP hS dX12_told_31
    · have hF := op_f hF c6
      refine lv_aload_n hx hb dX12_told_21 rfl (lv_at hl 0 rfl) ?_
      refine k_get (v := .ref (a0 40)) C fg_X12_89 hP 0 rfl rfl dX12_told_22 ?_
      refine lv_iload_n hx hb dX12_told_25 rfl (lv_at hl 1 rfl) ?_
      obtain ⟨h7, hF⟩ := op_ck hF
      refine k_ild (f := U1.2.2.1 39) C hP 16 rfl h7 dX12_told_26 ?_
      refine lv_goto (tgt := 31) hx hb dX12_told_27 (by decide) ?_
      cases hF
      exact k_iret C hP hS dX12_told_31

abbrev rm_X12_code : Room := ({ frames := 0, cells := 0, slots := 0, locals := 0 } : Room)
def F_X12_code (S0 : St) (x1 : Int32) (x2 : Int32) (x3 : Int32) : Option (St) := if oob ((3 : Int32) * (S0.1 42)) 160 then none else nw (sA S0 8 ((3 : Int32) * (S0.1 42)) x1) fun U2 => if oob (((3 : Int32) * (U2.1 42)) + (1 : Int32)) 160 then none else nw (sA U2 8 (((3 : Int32) * (U2.1 42)) + (1 : Int32)) x2) fun U5 => if oob (((3 : Int32) * (U5.1 42)) + (2 : Int32)) 160 then none else nw (sA U5 8 (((3 : Int32) * (U5.1 42)) + (2 : Int32)) x3) fun U8 => nw (sI U8 42 ((U8.1 42) + (1 : Int32))) fun U10 => some (U10)
set_option maxRecDepth 100000 in
set_option maxHeartbeats 4000000 in
theorem c_X12_code (l : Launch) (D : va_G) (q : Nat → ClassId) (o0 : Nat) (a0 : Nat → Nat) (S0 : St) (sz : Nat) (x1 : Int32) (x2 : Int32) (x3 : Int32) {T0 : St} (hF : F_X12_code S0 x1 x2 x3 = some (T0)) : Met l yX12_code (Cond.code yX12_code cX12_code 4 none :: TB) rm_X12_code (PC D q [.ref o0, .int x1, .int x2, .int x3] (fl [g12 q o0 a0 S0]) sz) ((fun A => QV D A (fl [g12 q o0 a0 T0])) (va_A (fl [g12 q o0 a0 S0]) sz)) 0 0 (va_A (fl [g12 q o0 a0 S0]) sz) := by
  refine k_met (w0 := fl [g12 q o0 a0 S0]) (Q := fun A => QV D A (fl [g12 q o0 a0 T0])) (by decide +kernel) (Nat.le_of_ble_eq_true rfl) ?_
  intro p e s m args below meth c A ls C hP hD hS hl
  have hl : lv_has ls 4 [(0, .ref o0), (1, .int x1), (2, .int x2), (3, .int x3)] := hl
  unfold F_X12_code at hF
  have C : cx p s m args meth c cX12_code 4 none RX12 D q A := C
  obtain ⟨hx, hb, hr, hml, hown, hts, hlk, hA, hK, hN, hV⟩ := id C
  refine lv_aload_n hx hb dX12_code_0 rfl (lv_at hl 0 rfl) ?_
  refine k_get (v := .ref (a0 9)) C fg_X12_40 hP 0 rfl rfl dX12_code_1 ?_
  refine lv_iconst (v := (3 : Int32)) hx hb dX12_code_4 (by decide) ?_
  refine lv_aload_n hx hb dX12_code_5 rfl (lv_at hl 0 rfl) ?_
  refine k_get (v := .int (S0.1 42)) C fg_X12_460 hP 0 rfl rfl dX12_code_6 ?_
  refine lv_imul hx hb dX12_code_9 ?_
  refine lv_iload_n hx hb dX12_code_10 rfl (lv_at hl 1 rfl) ?_
  obtain ⟨h1, hF⟩ := op_ck hF
  obtain ⟨U2, e3, hF⟩ := nw_s hF
  refine k_ist (f := S0.2.2.1 8) (W8 := fl [g12 q o0 a0 U2]) C hP hD hS 4 rfl h1 dX12_code_11 (by rw [e3]; rfl) (fun H locs hP hD hS => ?_)
  refine lv_aload_n hx hb dX12_code_12 rfl (lv_at hl 0 rfl) ?_
  refine k_get (v := .ref (a0 9)) C fg_X12_40 hP 0 rfl rfl dX12_code_13 ?_
  refine lv_iconst (v := (3 : Int32)) hx hb dX12_code_16 (by decide) ?_
  refine lv_aload_n hx hb dX12_code_17 rfl (lv_at hl 0 rfl) ?_
  refine k_get (v := .int (U2.1 42)) C fg_X12_460 hP 0 rfl rfl dX12_code_18 ?_
  refine lv_imul hx hb dX12_code_21 ?_
  refine lv_iconst (v := (1 : Int32)) hx hb dX12_code_22 (by decide) ?_
  refine lv_iadd hx hb dX12_code_23 ?_
  refine lv_iload_n hx hb dX12_code_24 rfl (lv_at hl 2 rfl) ?_
  obtain ⟨h4, hF⟩ := op_ck hF
  obtain ⟨U5, e6, hF⟩ := nw_s hF
  refine k_ist (f := U2.2.2.1 8) (W8 := fl [g12 q o0 a0 U5]) C hP hD hS 4 rfl h4 dX12_code_25 (by rw [e6]; rfl) (fun H locs hP hD hS => ?_)
  refine lv_aload_n hx hb dX12_code_26 rfl (lv_at hl 0 rfl) ?_
  refine k_get (v := .ref (a0 9)) C fg_X12_40 hP 0 rfl rfl dX12_code_27 ?_
  refine lv_iconst (v := (3 : Int32)) hx hb dX12_code_30 (by decide) ?_
  refine lv_aload_n hx hb dX12_code_31 rfl (lv_at hl 0 rfl) ?_
  refine k_get (v := .int (U5.1 42)) C fg_X12_460 hP 0 rfl rfl dX12_code_32 ?_
  refine lv_imul hx hb dX12_code_35 ?_
  refine lv_iconst (v := (2 : Int32)) hx hb dX12_code_36 (by decide) ?_
  refine lv_iadd hx hb dX12_code_37 ?_
  refine lv_iload_n hx hb dX12_code_38 rfl (lv_at hl 3 rfl) ?_
  obtain ⟨h7, hF⟩ := op_ck hF
  obtain ⟨U8, e9, hF⟩ := nw_s hF
  refine k_ist (f := U5.2.2.1 8) (W8 := fl [g12 q o0 a0 U8]) C hP hD hS 4 rfl h7 dX12_code_39 (by rw [e9]; rfl) (fun H locs hP hD hS => ?_)
  refine lv_aload_n hx hb dX12_code_40 rfl (lv_at hl 0 rfl) ?_
  refine lv_dup hx hb dX12_code_41 rfl ?_
  refine k_get (v := .int (U8.1 42)) C fg_X12_460 hP 0 rfl rfl dX12_code_42 ?_
  refine lv_iconst (v := (1 : Int32)) hx hb dX12_code_45 (by decide) ?_
  refine lv_iadd hx hb dX12_code_46 ?_
  obtain ⟨U10, e11, hF⟩ := nw_s hF
  refine k_put (W8 := fl [g12 q o0 a0 U10]) C fp_X12_460 hP hD hS 0 rfl rfl rfl (Nat.le_of_ble_eq_true rfl) dX12_code_47 (by rw [e11]; rfl) (fun H locs hP hD hS => ?_)
  cases hF
  exact k_vret C hP hS dX12_code_50

abbrev rm_X12_joins : Room := ({ frames := 1, cells := 0, slots := 0, locals := 23 } : Room)
def F_X12_joins_45 (k0 : Int32 × St → Option (St)) (x1 : Int32) (S0 : St) : Option (St) := nw (sI S0 44 ((S0.1 44) - (1 : Int32))) fun U1 => if oob (U1.1 44) 45 then none else ob1 (F_X12_code U1 (U1.2.2.1 41 (U1.1 44).toNatClampNeg) (0 : Int32) (0 : Int32)) fun U5 => k0 (x1, U5)
def F_X12_joins_0 (k0 : Int32 × St → Option (St)) (x1 : Int32) (S0 : St) : Option (St) := if (S0.1 44) ≤ 0 then (some (S0)) else (if oob ((S0.1 44) - (1 : Int32)) 45 then none else if (S0.2.2.1 41 ((S0.1 44) - (1 : Int32)).toNatClampNeg) = (21 : Int32) then (F_X12_joins_45 k0 x1 S0) else (if oob ((S0.1 44) - (1 : Int32)) 45 then none else if (S0.2.2.1 41 ((S0.1 44) - (1 : Int32)).toNatClampNeg) = (22 : Int32) then (if x1 = (22 : Int32) then (F_X12_joins_45 k0 x1 S0) else (some (S0))) else (some (S0))))
def L_X12_joins_0 (x1 : Int32) (S0 : St) : Option (St) := lp (fun kz z => F_X12_joins_0 kz z.1 z.2) FU (x1, S0)
def F_X12_joins (S0 : St) (x1 : Int32) : Option (St) := L_X12_joins_0 x1 S0
set_option maxRecDepth 100000 in
set_option maxHeartbeats 4000000 in
theorem b_X12_joins_45 {p : Program} {l : Launch} {e : Env} {s : State} {m : MethodId} {args : Array Value} {below : List Frame} {meth : Method} {c : Code} {D : va_G} {q : Nat → ClassId} {A : Nat → Prop} {o0 : Nat} {a0 : Nat → Nat} {T0 : St} (C : cx p s m args meth c cX12_joins 2 none RX12 D q A) {k0 : Int32 × St → Option (St)} (hk0 : ∀ (x1 : Int32) (S0 : St), k0 (x1, S0) = some (T0) → ∀ (H : Heap) (locs : List Loc) (ls : Array Slot), va_P D vwCl (fl [g12 q o0 a0 S0]) H → va_D A (fl [g12 q o0 a0 S0]) → va_S A s.heap H locs → lv_has ls 2 [(0, .ref o0), (1, .int x1)] → W p l e rm_X12_joins s m args below meth c H locs 0 0 (MQ below (QV D A (fl [g12 q o0 a0 T0])) args s 0 0 A) (F0 m 0 ls [])) {x1 : Int32} {S0 : St} (hF : F_X12_joins_45 k0 x1 S0 = some (T0)) {H : Heap} {locs : List Loc} (hP : va_P D vwCl (fl [g12 q o0 a0 S0]) H) (hD : va_D A (fl [g12 q o0 a0 S0])) (hS : va_S A s.heap H locs) {ls : Array Slot} (hl : lv_has ls 2 [(0, .ref o0), (1, .int x1)]) : W p l e rm_X12_joins s m args below meth c H locs 0 0 (MQ below (QV D A (fl [g12 q o0 a0 T0])) args s 0 0 A) (F0 m 45 ls []) := by
  unfold F_X12_joins_45 at hF
  obtain ⟨hx, hb, hr, hml, hown, hts, hlk, hA, hK, hN, hV⟩ := id C
  refine lv_aload_n hx hb dX12_joins_45 rfl (lv_at hl 0 rfl) ?_
  refine lv_dup hx hb dX12_joins_46 rfl ?_
  refine k_get (v := .int (S0.1 44)) C fg_X12_463 hP 0 rfl rfl dX12_joins_47 ?_
  refine lv_iconst (v := (1 : Int32)) hx hb dX12_joins_50 (by decide) ?_
  refine lv_isub hx hb dX12_joins_51 ?_
  obtain ⟨U1, e2, hF⟩ := nw_s hF
  refine k_put (W8 := fl [g12 q o0 a0 U1]) C fp_X12_463 hP hD hS 0 rfl rfl rfl (Nat.le_of_ble_eq_true rfl) dX12_joins_52 (by rw [e2]; rfl) (fun H locs hP hD hS => ?_)
  refine lv_aload_n hx hb dX12_joins_55 rfl (lv_at hl 0 rfl) ?_
  refine lv_aload_n hx hb dX12_joins_56 rfl (lv_at hl 0 rfl) ?_
  refine k_get (v := .ref (a0 42)) C fg_X12_92 hP 0 rfl rfl dX12_joins_57 ?_
  refine lv_aload_n hx hb dX12_joins_60 rfl (lv_at hl 0 rfl) ?_
  refine k_get (v := .int (U1.1 44)) C fg_X12_463 hP 0 rfl rfl dX12_joins_61 ?_
  obtain ⟨h3, hF⟩ := op_ck hF
  refine k_ild (f := U1.2.2.1 41) C hP 17 rfl h3 dX12_joins_64 ?_
  refine lv_iconst (v := (0 : Int32)) hx hb dX12_joins_65 (by decide) ?_
  refine lv_iconst (v := (0 : Int32)) hx hb dX12_joins_66 (by decide) ?_
  obtain ⟨U5, hc4, hF⟩ := ob1_s hF
  refine k_vall C (k_rV (As := [.int (U1.2.2.1 41 (U1.1 44).toNatClampNeg), .int (0 : Int32), .int (0 : Int32)]) (rest := []) C (c_X12_code l D q o0 a0 U1 _ (U1.2.2.1 41 (U1.1 44).toNatClampNeg) (0 : Int32) (0 : Int32) hc4) kc_X12_code ml_X12_466 rfl rfl (by decide) hP hD hS (va_recv hK hP (ci := 12) (q0 := 0) rfl rfl) rfl hl.1 rfl (Nat.le_of_ble_eq_true rfl) dX12_joins_67 (by decide)) hP hD hS (by simp only [List.map_cons, List.map_nil, gad12]) (fun H locs hP hD hS => ?_)
  refine lv_goto (tgt := 0) hx hb dX12_joins_70 (by decide) ?_
  exact hk0 x1 U5 hF _ _ _ hP hD hS (lv_sub hl [0, 1] rfl)
set_option maxRecDepth 100000 in
set_option maxHeartbeats 4000000 in
theorem b_X12_joins_0 {p : Program} {l : Launch} {e : Env} {s : State} {m : MethodId} {args : Array Value} {below : List Frame} {meth : Method} {c : Code} {D : va_G} {q : Nat → ClassId} {A : Nat → Prop} {o0 : Nat} {a0 : Nat → Nat} {T0 : St} (C : cx p s m args meth c cX12_joins 2 none RX12 D q A) {k0 : Int32 × St → Option (St)} (hk0 : ∀ (x1 : Int32) (S0 : St), k0 (x1, S0) = some (T0) → ∀ (H : Heap) (locs : List Loc) (ls : Array Slot), va_P D vwCl (fl [g12 q o0 a0 S0]) H → va_D A (fl [g12 q o0 a0 S0]) → va_S A s.heap H locs → lv_has ls 2 [(0, .ref o0), (1, .int x1)] → W p l e rm_X12_joins s m args below meth c H locs 0 0 (MQ below (QV D A (fl [g12 q o0 a0 T0])) args s 0 0 A) (F0 m 0 ls [])) {x1 : Int32} {S0 : St} (hF : F_X12_joins_0 k0 x1 S0 = some (T0)) {H : Heap} {locs : List Loc} (hP : va_P D vwCl (fl [g12 q o0 a0 S0]) H) (hD : va_D A (fl [g12 q o0 a0 S0])) (hS : va_S A s.heap H locs) {ls : Array Slot} (hl : lv_has ls 2 [(0, .ref o0), (1, .int x1)]) : W p l e rm_X12_joins s m args below meth c H locs 0 0 (MQ below (QV D A (fl [g12 q o0 a0 T0])) args s 0 0 A) (F0 m 0 ls []) := by
  unfold F_X12_joins_0 at hF
  obtain ⟨hx, hb, hr, hml, hown, hts, hlk, hA, hK, hN, hV⟩ := id C
  refine lv_aload_n hx hb dX12_joins_0 rfl (lv_at hl 0 rfl) ?_
  refine k_get (v := .int (S0.1 44)) C fg_X12_463 hP 0 rfl rfl dX12_joins_1 ?_
  refine lv_if_le (tgt := 73) hx hb dX12_joins_4 (by decide) (fun c1 => ?_) (fun c1 => ?_)
  · have hF := op_t hF c1
    cases hF
    exact k_vret C hP hS dX12_joins_73
  · have hF := op_f hF c1
    refine lv_aload_n hx hb dX12_joins_7 rfl (lv_at hl 0 rfl) ?_
    refine k_get (v := .ref (a0 42)) C fg_X12_92 hP 0 rfl rfl dX12_joins_8 ?_
    refine lv_aload_n hx hb dX12_joins_11 rfl (lv_at hl 0 rfl) ?_
    refine k_get (v := .int (S0.1 44)) C fg_X12_463 hP 0 rfl rfl dX12_joins_12 ?_
    refine lv_iconst (v := (1 : Int32)) hx hb dX12_joins_15 (by decide) ?_
    refine lv_isub hx hb dX12_joins_16 ?_
    obtain ⟨h2, hF⟩ := op_ck hF
    refine k_ild (f := S0.2.2.1 41) C hP 17 rfl h2 dX12_joins_17 ?_
    refine lv_bipush (v := (21 : Int32)) hx hb dX12_joins_18 (by decide) ?_
    refine lv_icmp_eq (tgt := 45) hx hb dX12_joins_20 (by decide) (fun c3 => ?_) (fun c3 => ?_)
    · have hF := op_t hF c3
      exact b_X12_joins_45 C hk0 hF hP hD hS (lv_sub hl [0, 1] rfl)
    · have hF := op_f hF c3
      refine lv_aload_n hx hb dX12_joins_23 rfl (lv_at hl 0 rfl) ?_
      refine k_get (v := .ref (a0 42)) C fg_X12_92 hP 0 rfl rfl dX12_joins_24 ?_
      refine lv_aload_n hx hb dX12_joins_27 rfl (lv_at hl 0 rfl) ?_
      refine k_get (v := .int (S0.1 44)) C fg_X12_463 hP 0 rfl rfl dX12_joins_28 ?_
      refine lv_iconst (v := (1 : Int32)) hx hb dX12_joins_31 (by decide) ?_
      refine lv_isub hx hb dX12_joins_32 ?_
      obtain ⟨h4, hF⟩ := op_ck hF
      refine k_ild (f := S0.2.2.1 41) C hP 17 rfl h4 dX12_joins_33 ?_
      refine lv_bipush (v := (22 : Int32)) hx hb dX12_joins_34 (by decide) ?_
      refine lv_icmp_ne (tgt := 73) hx hb dX12_joins_36 (by decide) (fun c5 => ?_) (fun c5 => ?_)
      · have hF := op_f hF c5
        cases hF
        exact k_vret C hP hS dX12_joins_73
      · have hF := op_t hF c5
        refine lv_iload_n hx hb dX12_joins_39 rfl (lv_at hl 1 rfl) ?_
        refine lv_bipush (v := (22 : Int32)) hx hb dX12_joins_40 (by decide) ?_
        refine lv_icmp_ne (tgt := 73) hx hb dX12_joins_42 (by decide) (fun c6 => ?_) (fun c6 => ?_)
        · have hF := op_f hF c6
          cases hF
          exact k_vret C hP hS dX12_joins_73
        · have hF := op_t hF c6
          exact b_X12_joins_45 C hk0 hF hP hD hS (lv_sub hl [0, 1] rfl)
set_option maxRecDepth 100000 in
set_option maxHeartbeats 4000000 in
theorem l_X12_joins_0 {p : Program} {l : Launch} {e : Env} {s : State} {m : MethodId} {args : Array Value} {below : List Frame} {meth : Method} {c : Code} {D : va_G} {q : Nat → ClassId} {A : Nat → Prop} {o0 : Nat} {a0 : Nat → Nat} {T0 : St} (C : cx p s m args meth c cX12_joins 2 none RX12 D q A) {x1 : Int32} {S0 : St} (hF : L_X12_joins_0 x1 S0 = some (T0)) : ∀ (H : Heap) (locs : List Loc) (ls : Array Slot), va_P D vwCl (fl [g12 q o0 a0 S0]) H → va_D A (fl [g12 q o0 a0 S0]) → va_S A s.heap H locs → lv_has ls 2 [(0, .ref o0), (1, .int x1)] → W p l e rm_X12_joins s m args below meth c H locs 0 0 (MQ below (QV D A (fl [g12 q o0 a0 T0])) args s 0 0 A) (F0 m 0 ls []) :=
  lp_G _ _ (fun z => ∀ (H : Heap) (locs : List Loc) (ls : Array Slot), va_P D vwCl (fl [g12 q o0 a0 z.2]) H → va_D A (fl [g12 q o0 a0 z.2]) → va_S A s.heap H locs → lv_has ls 2 [(0, .ref o0), (1, .int z.1)] → W p l e rm_X12_joins s m args below meth c H locs 0 0 (MQ below (QV D A (fl [g12 q o0 a0 T0])) args s 0 0 A) (F0 m 0 ls [])) (fun kz hkz z hz H locs ls hP hD hS hl => b_X12_joins_0 C (fun x1 S0 hz => hkz (x1, S0) hz) hz hP hD hS hl) FU (x1, S0) hF
set_option maxRecDepth 100000 in
set_option maxHeartbeats 4000000 in
theorem c_X12_joins (l : Launch) (D : va_G) (q : Nat → ClassId) (o0 : Nat) (a0 : Nat → Nat) (S0 : St) (sz : Nat) (x1 : Int32) {T0 : St} (hF : F_X12_joins S0 x1 = some (T0)) : Met l yX12_joins (Cond.code yX12_joins cX12_joins 2 none :: TB) rm_X12_joins (PC D q [.ref o0, .int x1] (fl [g12 q o0 a0 S0]) sz) ((fun A => QV D A (fl [g12 q o0 a0 T0])) (va_A (fl [g12 q o0 a0 S0]) sz)) 0 0 (va_A (fl [g12 q o0 a0 S0]) sz) := by
  refine k_met (w0 := fl [g12 q o0 a0 S0]) (Q := fun A => QV D A (fl [g12 q o0 a0 T0])) (by decide +kernel) (Nat.le_of_ble_eq_true rfl) ?_
  intro p e s m args below meth c A ls C hP hD hS hl
  have hl : lv_has ls 2 [(0, .ref o0), (1, .int x1)] := hl
  unfold F_X12_joins at hF
  have C : cx p s m args meth c cX12_joins 2 none RX12 D q A := C
  obtain ⟨hx, hb, hr, hml, hown, hts, hlk, hA, hK, hN, hV⟩ := id C
  exact l_X12_joins_0 C hF _ _ _ hP hD hS (lv_sub hl [0, 1] rfl)

abbrev rm_X12_nots : Room := ({ frames := 1, cells := 0, slots := 0, locals := 23 } : Room)
def F_X12_nots_0 (k0 : St → Option (St)) (S0 : St) : Option (St) := if (S0.1 44) ≤ 0 then (some (S0)) else (if oob ((S0.1 44) - (1 : Int32)) 45 then none else if (S0.2.2.1 41 ((S0.1 44) - (1 : Int32)).toNatClampNeg) = (20 : Int32) then (nw (sI S0 44 ((S0.1 44) - (1 : Int32))) fun U4 => nw (sI U4 45 ((U4.1 45) - (1 : Int32))) fun U6 => ob1 (F_X12_code U6 (20 : Int32) (0 : Int32) (0 : Int32)) fun U9 => k0 U9) else (some (S0)))
def L_X12_nots_0 (S0 : St) : Option (St) := lp (fun kz z => F_X12_nots_0 kz z) FU S0
def F_X12_nots (S0 : St) : Option (St) := L_X12_nots_0 S0
set_option maxRecDepth 100000 in
set_option maxHeartbeats 4000000 in
theorem b_X12_nots_0 {p : Program} {l : Launch} {e : Env} {s : State} {m : MethodId} {args : Array Value} {below : List Frame} {meth : Method} {c : Code} {D : va_G} {q : Nat → ClassId} {A : Nat → Prop} {o0 : Nat} {a0 : Nat → Nat} {T0 : St} (C : cx p s m args meth c cX12_nots 1 none RX12 D q A) {k0 : St → Option (St)} (hk0 : ∀ (S0 : St), k0 S0 = some (T0) → ∀ (H : Heap) (locs : List Loc) (ls : Array Slot), va_P D vwCl (fl [g12 q o0 a0 S0]) H → va_D A (fl [g12 q o0 a0 S0]) → va_S A s.heap H locs → lv_has ls 1 [(0, .ref o0)] → W p l e rm_X12_nots s m args below meth c H locs 0 0 (MQ below (QV D A (fl [g12 q o0 a0 T0])) args s 0 0 A) (F0 m 0 ls [])) {S0 : St} (hF : F_X12_nots_0 k0 S0 = some (T0)) {H : Heap} {locs : List Loc} (hP : va_P D vwCl (fl [g12 q o0 a0 S0]) H) (hD : va_D A (fl [g12 q o0 a0 S0])) (hS : va_S A s.heap H locs) {ls : Array Slot} (hl : lv_has ls 1 [(0, .ref o0)]) : W p l e rm_X12_nots s m args below meth c H locs 0 0 (MQ below (QV D A (fl [g12 q o0 a0 T0])) args s 0 0 A) (F0 m 0 ls []) := by
  unfold F_X12_nots_0 at hF
  obtain ⟨hx, hb, hr, hml, hown, hts, hlk, hA, hK, hN, hV⟩ := id C
  refine lv_aload_n hx hb dX12_nots_0 rfl (lv_at hl 0 rfl) ?_
  refine k_get (v := .int (S0.1 44)) C fg_X12_463 hP 0 rfl rfl dX12_nots_1 ?_
  refine lv_if_le (tgt := 54) hx hb dX12_nots_4 (by decide) (fun c1 => ?_) (fun c1 => ?_)
  · have hF := op_t hF c1
    cases hF
    exact k_vret C hP hS dX12_nots_54
  · have hF := op_f hF c1
    refine lv_aload_n hx hb dX12_nots_7 rfl (lv_at hl 0 rfl) ?_
    refine k_get (v := .ref (a0 42)) C fg_X12_92 hP 0 rfl rfl dX12_nots_8 ?_
    refine lv_aload_n hx hb dX12_nots_11 rfl (lv_at hl 0 rfl) ?_
    refine k_get (v := .int (S0.1 44)) C fg_X12_463 hP 0 rfl rfl dX12_nots_12 ?_
    refine lv_iconst (v := (1 : Int32)) hx hb dX12_nots_15 (by decide) ?_
    refine lv_isub hx hb dX12_nots_16 ?_
    obtain ⟨h2, hF⟩ := op_ck hF
    refine k_ild (f := S0.2.2.1 41) C hP 17 rfl h2 dX12_nots_17 ?_
    refine lv_bipush (v := (20 : Int32)) hx hb dX12_nots_18 (by decide) ?_
    refine lv_icmp_ne (tgt := 54) hx hb dX12_nots_20 (by decide) (fun c3 => ?_) (fun c3 => ?_)
    · have hF := op_f hF c3
      cases hF
      exact k_vret C hP hS dX12_nots_54
    · have hF := op_t hF c3
      refine lv_aload_n hx hb dX12_nots_23 rfl (lv_at hl 0 rfl) ?_
      refine lv_dup hx hb dX12_nots_24 rfl ?_
      refine k_get (v := .int (S0.1 44)) C fg_X12_463 hP 0 rfl rfl dX12_nots_25 ?_
      refine lv_iconst (v := (1 : Int32)) hx hb dX12_nots_28 (by decide) ?_
      refine lv_isub hx hb dX12_nots_29 ?_
      obtain ⟨U4, e5, hF⟩ := nw_s hF
      refine k_put (W8 := fl [g12 q o0 a0 U4]) C fp_X12_463 hP hD hS 0 rfl rfl rfl (Nat.le_of_ble_eq_true rfl) dX12_nots_30 (by rw [e5]; rfl) (fun H locs hP hD hS => ?_)
      refine lv_aload_n hx hb dX12_nots_33 rfl (lv_at hl 0 rfl) ?_
      refine lv_dup hx hb dX12_nots_34 rfl ?_
      refine k_get (v := .int (U4.1 45)) C fg_X12_469 hP 0 rfl rfl dX12_nots_35 ?_
      refine lv_iconst (v := (1 : Int32)) hx hb dX12_nots_38 (by decide) ?_
      refine lv_isub hx hb dX12_nots_39 ?_
      obtain ⟨U6, e7, hF⟩ := nw_s hF
      refine k_put (W8 := fl [g12 q o0 a0 U6]) C fp_X12_469 hP hD hS 0 rfl rfl rfl (Nat.le_of_ble_eq_true rfl) dX12_nots_40 (by rw [e7]; rfl) (fun H locs hP hD hS => ?_)
      refine lv_aload_n hx hb dX12_nots_43 rfl (lv_at hl 0 rfl) ?_
      refine lv_bipush (v := (20 : Int32)) hx hb dX12_nots_44 (by decide) ?_
      refine lv_iconst (v := (0 : Int32)) hx hb dX12_nots_46 (by decide) ?_
      refine lv_iconst (v := (0 : Int32)) hx hb dX12_nots_47 (by decide) ?_
      obtain ⟨U9, hc8, hF⟩ := ob1_s hF
      refine k_vall C (k_rV (As := [.int (20 : Int32), .int (0 : Int32), .int (0 : Int32)]) (rest := []) C (c_X12_code l D q o0 a0 U6 _ (20 : Int32) (0 : Int32) (0 : Int32) hc8) kc_X12_code ml_X12_466 rfl rfl (by decide) hP hD hS (va_recv hK hP (ci := 12) (q0 := 0) rfl rfl) rfl hl.1 rfl (Nat.le_of_ble_eq_true rfl) dX12_nots_48 (by decide)) hP hD hS (by simp only [List.map_cons, List.map_nil, gad12]) (fun H locs hP hD hS => ?_)
      refine lv_goto (tgt := 0) hx hb dX12_nots_51 (by decide) ?_
      exact hk0 U9 hF _ _ _ hP hD hS (lv_sub hl [0] rfl)
set_option maxRecDepth 100000 in
set_option maxHeartbeats 4000000 in
theorem l_X12_nots_0 {p : Program} {l : Launch} {e : Env} {s : State} {m : MethodId} {args : Array Value} {below : List Frame} {meth : Method} {c : Code} {D : va_G} {q : Nat → ClassId} {A : Nat → Prop} {o0 : Nat} {a0 : Nat → Nat} {T0 : St} (C : cx p s m args meth c cX12_nots 1 none RX12 D q A) {S0 : St} (hF : L_X12_nots_0 S0 = some (T0)) : ∀ (H : Heap) (locs : List Loc) (ls : Array Slot), va_P D vwCl (fl [g12 q o0 a0 S0]) H → va_D A (fl [g12 q o0 a0 S0]) → va_S A s.heap H locs → lv_has ls 1 [(0, .ref o0)] → W p l e rm_X12_nots s m args below meth c H locs 0 0 (MQ below (QV D A (fl [g12 q o0 a0 T0])) args s 0 0 A) (F0 m 0 ls []) :=
  lp_G _ _ (fun z => ∀ (H : Heap) (locs : List Loc) (ls : Array Slot), va_P D vwCl (fl [g12 q o0 a0 z]) H → va_D A (fl [g12 q o0 a0 z]) → va_S A s.heap H locs → lv_has ls 1 [(0, .ref o0)] → W p l e rm_X12_nots s m args below meth c H locs 0 0 (MQ below (QV D A (fl [g12 q o0 a0 T0])) args s 0 0 A) (F0 m 0 ls [])) (fun kz hkz z hz H locs ls hP hD hS hl => b_X12_nots_0 C (fun S0 hz => hkz S0 hz) hz hP hD hS hl) FU S0 hF
set_option maxRecDepth 100000 in
set_option maxHeartbeats 4000000 in
theorem c_X12_nots (l : Launch) (D : va_G) (q : Nat → ClassId) (o0 : Nat) (a0 : Nat → Nat) (S0 : St) (sz : Nat) {T0 : St} (hF : F_X12_nots S0 = some (T0)) : Met l yX12_nots (Cond.code yX12_nots cX12_nots 1 none :: TB) rm_X12_nots (PC D q [.ref o0] (fl [g12 q o0 a0 S0]) sz) ((fun A => QV D A (fl [g12 q o0 a0 T0])) (va_A (fl [g12 q o0 a0 S0]) sz)) 0 0 (va_A (fl [g12 q o0 a0 S0]) sz) := by
  refine k_met (w0 := fl [g12 q o0 a0 S0]) (Q := fun A => QV D A (fl [g12 q o0 a0 T0])) (by decide +kernel) (Nat.le_of_ble_eq_true rfl) ?_
  intro p e s m args below meth c A ls C hP hD hS hl
  have hl : lv_has ls 1 [(0, .ref o0)] := hl
  unfold F_X12_nots at hF
  have C : cx p s m args meth c cX12_nots 1 none RX12 D q A := C
  obtain ⟨hx, hb, hr, hml, hown, hts, hlk, hA, hK, hN, hV⟩ := id C
  exact l_X12_nots_0 C hF _ _ _ hP hD hS (lv_sub hl [0] rfl)

abbrev rm_X12_leafOf : Room := ({ frames := 1, cells := 0, slots := 0, locals := 22 } : Room)
def F_X12_leafOf (S0 : St) : Option (Int32) := ob1 (F_X12_isWord S0 (30064 : Int64)) fun r2 => if r2 = 0 then (ob1 (F_X12_isWord S0 (1835625572 : Int64)) fun r5 => if r5 = 0 then (ob1 (F_X12_isWord S0 (31644380074042724 : Int64)) fun r8 => if r8 = 0 then (ob1 (F_X12_isWord S0 (6840691 : Int64)) fun r11 => if r11 = 0 then (ob1 (F_X12_isWord S0 (28526 : Int64)) fun r14 => if r14 = 0 then (ob1 (F_X12_isWord S0 (508574398323 : Int64)) fun r17 => if r17 = 0 then (ob1 (F_X12_isWord S0 (474148402789 : Int64)) fun r20 => if r20 = 0 then (ob1 (F_X12_isWord S0 (27985222756885860 : Int64)) fun r23 => if r23 = 0 then (ob1 (F_X12_isWord S0 (121450625394034 : Int64)) fun r26 => if r26 = 0 then (some ((-1 : Int32))) else (some ((8 : Int32)))) else (some ((7 : Int32)))) else (some ((6 : Int32)))) else (some ((5 : Int32)))) else (some ((4 : Int32)))) else (some ((3 : Int32)))) else (some ((2 : Int32)))) else (some ((1 : Int32)))) else (some ((0 : Int32)))
set_option maxRecDepth 100000 in
set_option maxHeartbeats 4000000 in
theorem c_X12_leafOf (l : Launch) (D : va_G) (q : Nat → ClassId) (o0 : Nat) (a0 : Nat → Nat) (S0 : St) (sz : Nat) {r : Int32} (hF : F_X12_leafOf S0 = some (r)) : Met l yX12_leafOf (Cond.code yX12_leafOf cX12_leafOf 1 (some .int) :: TB) rm_X12_leafOf (PC D q [.ref o0] (fl [g12 q o0 a0 S0]) sz) ((fun A => QI D A r (fl [g12 q o0 a0 S0])) (va_A (fl [g12 q o0 a0 S0]) sz)) 0 0 (va_A (fl [g12 q o0 a0 S0]) sz) := by
  refine k_met (w0 := fl [g12 q o0 a0 S0]) (Q := fun A => QI D A r (fl [g12 q o0 a0 S0])) (by decide +kernel) (Nat.le_of_ble_eq_true rfl) ?_
  intro p e s m args below meth c A ls C hP hD hS hl
  have hl : lv_has ls 1 [(0, .ref o0)] := hl
  unfold F_X12_leafOf at hF
  have C : cx p s m args meth c cX12_leafOf 1 (some .int) RX12 D q A := C
  obtain ⟨hx, hb, hr, hml, hown, hts, hlk, hA, hK, hN, hV⟩ := id C
  refine lv_aload_n hx hb dX12_leafOf_0 rfl (lv_at hl 0 rfl) ?_
  refine lv_ldc2 (v := (30064 : Int64)) hx hb hown (hts _ kL_X12_162) dX12_leafOf_1 ?_
  obtain ⟨r2, hc1, hF⟩ := ob1_s hF
  refine k_isame C (k_rV (As := [.long (30064 : Int64)]) (rest := []) C (c_X12_isWord l D q o0 a0 S0 _ (30064 : Int64) hc1) kc_X12_isWord ml_X12_250 rfl rfl (by decide) hP hD hS (va_recv hK hP (ci := 12) (q0 := 0) rfl rfl) rfl hl.1 rfl (Nat.le_of_ble_eq_true rfl) dX12_leafOf_4 (by decide)) hP hD hS (fun H locs hP hD hS => ?_)
  refine lv_if_eq (tgt := 14) hx hb dX12_leafOf_7 (by decide) (fun c3 => ?_) (fun c3 => ?_)
  · have hF := op_t hF c3
    refine lv_aload_n hx hb dX12_leafOf_14 rfl (lv_at hl 0 rfl) ?_
    refine lv_ldc2 (v := (1835625572 : Int64)) hx hb hown (hts _ kL_X12_164) dX12_leafOf_15 ?_
    obtain ⟨r5, hc4, hF⟩ := ob1_s hF
    refine k_isame C (k_rV (As := [.long (1835625572 : Int64)]) (rest := []) C (c_X12_isWord l D q o0 a0 S0 _ (1835625572 : Int64) hc4) kc_X12_isWord ml_X12_250 rfl rfl (by decide) hP hD hS (va_recv hK hP (ci := 12) (q0 := 0) rfl rfl) rfl hl.1 rfl (Nat.le_of_ble_eq_true rfl) dX12_leafOf_18 (by decide)) hP hD hS (fun H locs hP hD hS => ?_)
    refine lv_if_eq (tgt := 28) hx hb dX12_leafOf_21 (by decide) (fun c6 => ?_) (fun c6 => ?_)
    · have hF := op_t hF c6
      refine lv_aload_n hx hb dX12_leafOf_28 rfl (lv_at hl 0 rfl) ?_
      refine lv_ldc2 (v := (31644380074042724 : Int64)) hx hb hown (hts _ kL_X12_166) dX12_leafOf_29 ?_
      obtain ⟨r8, hc7, hF⟩ := ob1_s hF
      refine k_isame C (k_rV (As := [.long (31644380074042724 : Int64)]) (rest := []) C (c_X12_isWord l D q o0 a0 S0 _ (31644380074042724 : Int64) hc7) kc_X12_isWord ml_X12_250 rfl rfl (by decide) hP hD hS (va_recv hK hP (ci := 12) (q0 := 0) rfl rfl) rfl hl.1 rfl (Nat.le_of_ble_eq_true rfl) dX12_leafOf_32 (by decide)) hP hD hS (fun H locs hP hD hS => ?_)
      refine lv_if_eq (tgt := 42) hx hb dX12_leafOf_35 (by decide) (fun c9 => ?_) (fun c9 => ?_)
      · have hF := op_t hF c9
        refine lv_aload_n hx hb dX12_leafOf_42 rfl (lv_at hl 0 rfl) ?_
        refine lv_ldc2 (v := (6840691 : Int64)) hx hb hown (hts _ kL_X12_168) dX12_leafOf_43 ?_
        obtain ⟨r11, hc10, hF⟩ := ob1_s hF
        refine k_isame C (k_rV (As := [.long (6840691 : Int64)]) (rest := []) C (c_X12_isWord l D q o0 a0 S0 _ (6840691 : Int64) hc10) kc_X12_isWord ml_X12_250 rfl rfl (by decide) hP hD hS (va_recv hK hP (ci := 12) (q0 := 0) rfl rfl) rfl hl.1 rfl (Nat.le_of_ble_eq_true rfl) dX12_leafOf_46 (by decide)) hP hD hS (fun H locs hP hD hS => ?_)
        refine lv_if_eq (tgt := 56) hx hb dX12_leafOf_49 (by decide) (fun c12 => ?_) (fun c12 => ?_)
        · have hF := op_t hF c12
          refine lv_aload_n hx hb dX12_leafOf_56 rfl (lv_at hl 0 rfl) ?_
          refine lv_ldc2 (v := (28526 : Int64)) hx hb hown (hts _ kL_X12_170) dX12_leafOf_57 ?_
          obtain ⟨r14, hc13, hF⟩ := ob1_s hF
          refine k_isame C (k_rV (As := [.long (28526 : Int64)]) (rest := []) C (c_X12_isWord l D q o0 a0 S0 _ (28526 : Int64) hc13) kc_X12_isWord ml_X12_250 rfl rfl (by decide) hP hD hS (va_recv hK hP (ci := 12) (q0 := 0) rfl rfl) rfl hl.1 rfl (Nat.le_of_ble_eq_true rfl) dX12_leafOf_60 (by decide)) hP hD hS (fun H locs hP hD hS => ?_)
          refine lv_if_eq (tgt := 70) hx hb dX12_leafOf_63 (by decide) (fun c15 => ?_) (fun c15 => ?_)
          · have hF := op_t hF c15
            refine lv_aload_n hx hb dX12_leafOf_70 rfl (lv_at hl 0 rfl) ?_
            refine lv_ldc2 (v := (508574398323 : Int64)) hx hb hown (hts _ kL_X12_172) dX12_leafOf_71 ?_
            obtain ⟨r17, hc16, hF⟩ := ob1_s hF
            refine k_isame C (k_rV (As := [.long (508574398323 : Int64)]) (rest := []) C (c_X12_isWord l D q o0 a0 S0 _ (508574398323 : Int64) hc16) kc_X12_isWord ml_X12_250 rfl rfl (by decide) hP hD hS (va_recv hK hP (ci := 12) (q0 := 0) rfl rfl) rfl hl.1 rfl (Nat.le_of_ble_eq_true rfl) dX12_leafOf_74 (by decide)) hP hD hS (fun H locs hP hD hS => ?_)
            refine lv_if_eq (tgt := 84) hx hb dX12_leafOf_77 (by decide) (fun c18 => ?_) (fun c18 => ?_)
            · have hF := op_t hF c18
              refine lv_aload_n hx hb dX12_leafOf_84 rfl (lv_at hl 0 rfl) ?_
              refine lv_ldc2 (v := (474148402789 : Int64)) hx hb hown (hts _ kL_X12_174) dX12_leafOf_85 ?_
              obtain ⟨r20, hc19, hF⟩ := ob1_s hF
              refine k_isame C (k_rV (As := [.long (474148402789 : Int64)]) (rest := []) C (c_X12_isWord l D q o0 a0 S0 _ (474148402789 : Int64) hc19) kc_X12_isWord ml_X12_250 rfl rfl (by decide) hP hD hS (va_recv hK hP (ci := 12) (q0 := 0) rfl rfl) rfl hl.1 rfl (Nat.le_of_ble_eq_true rfl) dX12_leafOf_88 (by decide)) hP hD hS (fun H locs hP hD hS => ?_)
              refine lv_if_eq (tgt := 99) hx hb dX12_leafOf_91 (by decide) (fun c21 => ?_) (fun c21 => ?_)
              · have hF := op_t hF c21
                refine lv_aload_n hx hb dX12_leafOf_99 rfl (lv_at hl 0 rfl) ?_
                refine lv_ldc2 (v := (27985222756885860 : Int64)) hx hb hown (hts _ kL_X12_176) dX12_leafOf_100 ?_
                obtain ⟨r23, hc22, hF⟩ := ob1_s hF
                refine k_isame C (k_rV (As := [.long (27985222756885860 : Int64)]) (rest := []) C (c_X12_isWord l D q o0 a0 S0 _ (27985222756885860 : Int64) hc22) kc_X12_isWord ml_X12_250 rfl rfl (by decide) hP hD hS (va_recv hK hP (ci := 12) (q0 := 0) rfl rfl) rfl hl.1 rfl (Nat.le_of_ble_eq_true rfl) dX12_leafOf_103 (by decide)) hP hD hS (fun H locs hP hD hS => ?_)
                refine lv_if_eq (tgt := 114) hx hb dX12_leafOf_106 (by decide) (fun c24 => ?_) (fun c24 => ?_)
                · have hF := op_t hF c24
                  refine lv_aload_n hx hb dX12_leafOf_114 rfl (lv_at hl 0 rfl) ?_
                  refine lv_ldc2 (v := (121450625394034 : Int64)) hx hb hown (hts _ kL_X12_178) dX12_leafOf_115 ?_
                  obtain ⟨r26, hc25, hF⟩ := ob1_s hF
                  refine k_isame C (k_rV (As := [.long (121450625394034 : Int64)]) (rest := []) C (c_X12_isWord l D q o0 a0 S0 _ (121450625394034 : Int64) hc25) kc_X12_isWord ml_X12_250 rfl rfl (by decide) hP hD hS (va_recv hK hP (ci := 12) (q0 := 0) rfl rfl) rfl hl.1 rfl (Nat.le_of_ble_eq_true rfl) dX12_leafOf_118 (by decide)) hP hD hS (fun H locs hP hD hS => ?_)
                  refine lv_if_eq (tgt := 129) hx hb dX12_leafOf_121 (by decide) (fun c27 => ?_) (fun c27 => ?_)
                  · have hF := op_t hF c27
                    refine lv_iconst (v := (-1 : Int32)) hx hb dX12_leafOf_129 (by decide) ?_
                    cases hF
                    exact k_iret C hP hS dX12_leafOf_130
                  · have hF := op_f hF c27
                    refine lv_bipush (v := (8 : Int32)) hx hb dX12_leafOf_124 (by decide) ?_
                    refine lv_goto (tgt := 130) hx hb dX12_leafOf_126 (by decide) ?_
                    cases hF
                    exact k_iret C hP hS dX12_leafOf_130
                · have hF := op_f hF c24
                  refine lv_bipush (v := (7 : Int32)) hx hb dX12_leafOf_109 (by decide) ?_
                  refine lv_goto (tgt := 130) hx hb dX12_leafOf_111 (by decide) ?_
                  cases hF
                  exact k_iret C hP hS dX12_leafOf_130
              · have hF := op_f hF c21
                refine lv_bipush (v := (6 : Int32)) hx hb dX12_leafOf_94 (by decide) ?_
                refine lv_goto (tgt := 130) hx hb dX12_leafOf_96 (by decide) ?_
                cases hF
                exact k_iret C hP hS dX12_leafOf_130
            · have hF := op_f hF c18
              refine lv_iconst (v := (5 : Int32)) hx hb dX12_leafOf_80 (by decide) ?_
              refine lv_goto (tgt := 130) hx hb dX12_leafOf_81 (by decide) ?_
              cases hF
              exact k_iret C hP hS dX12_leafOf_130
          · have hF := op_f hF c15
            refine lv_iconst (v := (4 : Int32)) hx hb dX12_leafOf_66 (by decide) ?_
            refine lv_goto (tgt := 130) hx hb dX12_leafOf_67 (by decide) ?_
            cases hF
            exact k_iret C hP hS dX12_leafOf_130
        · have hF := op_f hF c12
          refine lv_iconst (v := (3 : Int32)) hx hb dX12_leafOf_52 (by decide) ?_
          refine lv_goto (tgt := 130) hx hb dX12_leafOf_53 (by decide) ?_
          cases hF
          exact k_iret C hP hS dX12_leafOf_130
      · have hF := op_f hF c9
        refine lv_iconst (v := (2 : Int32)) hx hb dX12_leafOf_38 (by decide) ?_
        refine lv_goto (tgt := 130) hx hb dX12_leafOf_39 (by decide) ?_
        cases hF
        exact k_iret C hP hS dX12_leafOf_130
    · have hF := op_f hF c6
      refine lv_iconst (v := (1 : Int32)) hx hb dX12_leafOf_24 (by decide) ?_
      refine lv_goto (tgt := 130) hx hb dX12_leafOf_25 (by decide) ?_
      cases hF
      exact k_iret C hP hS dX12_leafOf_130
  · have hF := op_f hF c3
    refine lv_iconst (v := (0 : Int32)) hx hb dX12_leafOf_10 (by decide) ?_
    refine lv_goto (tgt := 130) hx hb dX12_leafOf_11 (by decide) ?_
    cases hF
    exact k_iret C hP hS dX12_leafOf_130
