abbrev rm_X12_operand : Room := ({ frames := 2, cells := 0, slots := 0, locals := 45 } : Room)
def F_X12_operand_227 (S0 : St) : Option (Int32 × St) := ob2 (F_X12_bad S0 (1 : Int32)) fun r2 U3 => if nb r2 then none else some (r2, U3)
def F_X12_operand_176 (x3 : Int32) (s0 : Int32) (S0 : St) : Option (Int32 × St) := if s0 = 0 then (some ((0 : Int32), S0)) else (ob1 (F_X12_code S0 x3 (0 : Int32) (S0.1 18)) fun U3 => ob1 (F_X12_next U3) fun U5 => some ((1 : Int32), U5))
def F_X12_operand_103 (s1 : Int32) (s2 : Int32) (S0 : St) : Option (Int32 × St) := if oob s1 45 then none else nw (sA S0 41 s1 s2) fun U2 => nw (sI U2 44 ((U2.1 44) + (1 : Int32))) fun U4 => nw (sI U4 45 ((U4.1 45) + (1 : Int32))) fun U6 => some ((1 : Int32), U6)
def F_X12_operand_84 (x1 : Int32) (S0 : St) : Option (Int32 × St) := if x1 = 0 then (F_X12_operand_103 (S0.1 44) (23 : Int32) S0) else (F_X12_operand_103 (S0.1 44) (20 : Int32) S0)
def F_X12_operand_56 (S0 : St) : Option (Int32 × St) := ob2 (F_X12_bad S0 (4 : Int32)) fun r2 U3 => if nb r2 then none else some (r2, U3)
def F_X12_operand_38 (x1 : Int32) (x2 : Int32) (x3 : Int32) (S0 : St) : Option (Int32 × St) := if (S0.1 43) = (20 : Int32) then (F_X12_operand_56 S0) else (if (S0.1 45) ≤ (8 : Int32) then (nw (sI S0 43 ((S0.1 43) + (1 : Int32))) fun U3 => ob1 (F_X12_next U3) fun U6 => if x1 = 0 then (if x2 = 0 then (nw (sI U6 46 (1 : Int32)) fun U9 => if (3 : Int32) ≤ x3 then (if (5 : Int32) ≤ x3 then (if (U9.1 11) = (3 : Int32) then (if (U9.1 14) < (60 : Int32) then (F_X12_operand_227 U9) else (if (U9.1 14) ≤ (62 : Int32) then (ob1 (F_X12_next U9) fun U17 => if (U17.1 11) = (2 : Int32) then (ob1 (F_X12_code U17 x3 (U9.1 14) (U17.1 14)) fun U20 => ob1 (F_X12_next U20) fun U22 => some ((1 : Int32), U22)) else (ob2 (F_X12_bad U17 (1 : Int32)) fun r24 U25 => if nb r24 then none else some (r24, U25))) else (F_X12_operand_227 U9))) else (F_X12_operand_227 U9)) else (if x3 = (3 : Int32) then (ob2 (F_X12_isOneOf U9 (5 : Int32) (8 : Int32)) fun r33 U34 => F_X12_operand_176 x3 r33 U34) else (if oob (0 : Int32) 258 then none else ob2 (F_X12_looksAt U9 (0 : Int32) (U9.2.2.1 6 (0 : Int32).toNatClampNeg)) fun r30 U31 => F_X12_operand_176 x3 r30 U31))) else (ob1 (F_X12_code U9 x3 (0 : Int32) (0 : Int32)) fun U36 => some ((1 : Int32), U36))) else (F_X12_operand_84 x1 U6)) else (F_X12_operand_84 x1 U6)) else (F_X12_operand_56 S0))
def F_X12_operand (S0 : St) : Option (Int32 × St) := ob1 (F_X12_isWord S0 (7237492 : Int64)) fun r2 => ob1 (F_X12_isSign S0 (40 : Int32)) fun r4 => ob1 (F_X12_leafOf S0) fun r6 => if r2 = 0 then (if r4 = 0 then (if 0 ≤ r6 then (F_X12_operand_38 r2 r4 r6 S0) else (ob2 (F_X12_bad S0 (1 : Int32)) fun r11 U12 => if nb r11 then none else some (r11, U12))) else (F_X12_operand_38 r2 r4 r6 S0)) else (F_X12_operand_38 r2 r4 r6 S0)
set_option maxRecDepth 100000 in
set_option maxHeartbeats 4000000 in
theorem b_X12_operand_227 {p : Program} {l : Launch} {e : Env} {s : State} {m : MethodId} {args : Array Value} {below : List Frame} {meth : Method} {c : Code} {D : va_G} {q : Nat → ClassId} {A : Nat → Prop} {o0 : Nat} {a0 : Nat → Nat} {r : Int32} {T0 : St} (C : cx p s m args meth c cX12_operand 5 (some .boolean) RX12 D q A) {S0 : St} (hF : F_X12_operand_227 S0 = some (r, T0)) {H : Heap} {locs : List Loc} (hP : va_P D vwCl (fl [g12 q o0 a0 S0]) H) (hD : va_D A (fl [g12 q o0 a0 S0])) (hS : va_S A s.heap H locs) {ls : Array Slot} (hl : lv_has ls 5 [(0, .ref o0)]) : W p l e rm_X12_operand s m args below meth c H locs 0 0 (MQ below (QI D A r (fl [g12 q o0 a0 T0])) args s 0 0 A) (F0 m 227 ls []) := by
  unfold F_X12_operand_227 at hF
  obtain ⟨hx, hb, hr, hml, hown, hts, hlk, hA, hK, hN, hV⟩ := id C
  refine lv_aload_n hx hb dX12_operand_227 rfl (lv_at hl 0 rfl) ?_
  refine lv_iconst (v := (1 : Int32)) hx hb dX12_operand_228 (by decide) ?_
  obtain ⟨r2, U3, hc1, hF⟩ := ob2_s hF
  refine k_iall C (k_rV (As := [.int (1 : Int32)]) (rest := []) C (c_X12_bad l D q o0 a0 S0 _ (1 : Int32) hc1) kc_X12_bad ml_X12_219 rfl rfl (by decide) hP hD hS (va_recv hK hP (ci := 12) (q0 := 0) rfl rfl) rfl hl.1 rfl (Nat.le_of_ble_eq_true rfl) dX12_operand_229 (by decide)) hP hD hS (by simp only [List.map_cons, List.map_nil, gad12]) (fun H locs hP hD hS => ?_)
  obtain ⟨h4, hF⟩ := op_ck hF
  cases hF
  exact k_zret C h4 hP hS dX12_operand_232
set_option maxRecDepth 100000 in
set_option maxHeartbeats 4000000 in
theorem b_X12_operand_176 {p : Program} {l : Launch} {e : Env} {s : State} {m : MethodId} {args : Array Value} {below : List Frame} {meth : Method} {c : Code} {D : va_G} {q : Nat → ClassId} {A : Nat → Prop} {o0 : Nat} {a0 : Nat → Nat} {r : Int32} {T0 : St} (C : cx p s m args meth c cX12_operand 5 (some .boolean) RX12 D q A) {x3 : Int32} {s0 : Int32} {S0 : St} (hF : F_X12_operand_176 x3 s0 S0 = some (r, T0)) {H : Heap} {locs : List Loc} (hP : va_P D vwCl (fl [g12 q o0 a0 S0]) H) (hD : va_D A (fl [g12 q o0 a0 S0])) (hS : va_S A s.heap H locs) {ls : Array Slot} (hl : lv_has ls 5 [(0, .ref o0), (3, .int x3)]) : W p l e rm_X12_operand s m args below meth c H locs 0 0 (MQ below (QI D A r (fl [g12 q o0 a0 T0])) args s 0 0 A) (F0 m 176 ls [.int s0]) := by
  unfold F_X12_operand_176 at hF
  obtain ⟨hx, hb, hr, hml, hown, hts, hlk, hA, hK, hN, hV⟩ := id C
  refine lv_istore (lv' := [(4, .int s0), (0, .ref o0), (3, .int x3)]) hx hb dX12_operand_176 hl (by decide) rfl (fun ls hl => ?_)
  refine lv_iload hx hb dX12_operand_178 (lv_at hl 0 rfl) ?_
  refine lv_if_ne (tgt := 185) hx hb dX12_operand_180 (by decide) (fun c1 => ?_) (fun c1 => ?_)
  · have hF := op_f hF c1
    refine lv_aload_n hx hb dX12_operand_185 rfl (lv_at hl 1 rfl) ?_
    refine lv_iload_n hx hb dX12_operand_186 rfl (lv_at hl 2 rfl) ?_
    refine lv_iconst (v := (0 : Int32)) hx hb dX12_operand_187 (by decide) ?_
    refine lv_aload_n hx hb dX12_operand_188 rfl (lv_at hl 1 rfl) ?_
    refine k_get (v := .int (S0.1 18)) C fg_X12_229 hP 0 rfl rfl dX12_operand_189 ?_
    obtain ⟨U3, hc2, hF⟩ := ob1_s hF
    refine k_vall C (k_rV (As := [.int x3, .int (0 : Int32), .int (S0.1 18)]) (rest := []) C (c_X12_code l D q o0 a0 S0 _ x3 (0 : Int32) (S0.1 18) hc2) kc_X12_code ml_X12_466 rfl rfl (by decide) hP hD hS (va_recv hK hP (ci := 12) (q0 := 0) rfl rfl) rfl hl.1 rfl (Nat.le_of_ble_eq_true rfl) dX12_operand_192 (by decide)) hP hD hS (by simp only [List.map_cons, List.map_nil, gad12]) (fun H locs hP hD hS => ?_)
    refine lv_aload_n hx hb dX12_operand_195 rfl (lv_at hl 1 rfl) ?_
    obtain ⟨U5, hc4, hF⟩ := ob1_s hF
    refine k_vall C (k_rV (As := []) (rest := []) C (c_X12_next l D q o0 a0 U3 _ hc4) kc_X12_next ml_X12_222 rfl rfl (by decide) hP hD hS (va_recv hK hP (ci := 12) (q0 := 0) rfl rfl) rfl hl.1 rfl (Nat.le_of_ble_eq_true rfl) dX12_operand_196 (by decide)) hP hD hS (by simp only [List.map_cons, List.map_nil, gad12]) (fun H locs hP hD hS => ?_)
    refine lv_iconst (v := (1 : Int32)) hx hb dX12_operand_199 (by decide) ?_
    cases hF
    exact k_zret C (by decide) hP hS dX12_operand_200
  · have hF := op_t hF c1
    refine lv_iconst (v := (0 : Int32)) hx hb dX12_operand_183 (by decide) ?_
    cases hF
    exact k_zret C (by decide) hP hS dX12_operand_184
set_option maxRecDepth 100000 in
set_option maxHeartbeats 4000000 in
theorem b_X12_operand_103 {p : Program} {l : Launch} {e : Env} {s : State} {m : MethodId} {args : Array Value} {below : List Frame} {meth : Method} {c : Code} {D : va_G} {q : Nat → ClassId} {A : Nat → Prop} {o0 : Nat} {a0 : Nat → Nat} {r : Int32} {T0 : St} (C : cx p s m args meth c cX12_operand 5 (some .boolean) RX12 D q A) {s1 : Int32} {s2 : Int32} {S0 : St} (hF : F_X12_operand_103 s1 s2 S0 = some (r, T0)) {H : Heap} {locs : List Loc} (hP : va_P D vwCl (fl [g12 q o0 a0 S0]) H) (hD : va_D A (fl [g12 q o0 a0 S0])) (hS : va_S A s.heap H locs) {ls : Array Slot} (hl : lv_has ls 5 [(0, .ref o0)]) : W p l e rm_X12_operand s m args below meth c H locs 0 0 (MQ below (QI D A r (fl [g12 q o0 a0 T0])) args s 0 0 A) (F0 m 103 ls [.int s2, .int s1, .ref (a0 42)]) := by
  unfold F_X12_operand_103 at hF
  obtain ⟨hx, hb, hr, hml, hown, hts, hlk, hA, hK, hN, hV⟩ := id C
  obtain ⟨h1, hF⟩ := op_ck hF
  obtain ⟨U2, e3, hF⟩ := nw_s hF
  refine k_ist (f := S0.2.2.1 41) (W8 := fl [g12 q o0 a0 U2]) C hP hD hS 17 rfl h1 dX12_operand_103 (by rw [e3]; rfl) (fun H locs hP hD hS => ?_)
  refine lv_aload_n hx hb dX12_operand_104 rfl (lv_at hl 0 rfl) ?_
  refine lv_dup hx hb dX12_operand_105 rfl ?_
  refine k_get (v := .int (U2.1 44)) C fg_X12_463 hP 0 rfl rfl dX12_operand_106 ?_
  refine lv_iconst (v := (1 : Int32)) hx hb dX12_operand_109 (by decide) ?_
  refine lv_iadd hx hb dX12_operand_110 ?_
  obtain ⟨U4, e5, hF⟩ := nw_s hF
  refine k_put (W8 := fl [g12 q o0 a0 U4]) C fp_X12_463 hP hD hS 0 rfl rfl rfl (Nat.le_of_ble_eq_true rfl) dX12_operand_111 (by rw [e5]; rfl) (fun H locs hP hD hS => ?_)
  refine lv_aload_n hx hb dX12_operand_114 rfl (lv_at hl 0 rfl) ?_
  refine lv_dup hx hb dX12_operand_115 rfl ?_
  refine k_get (v := .int (U4.1 45)) C fg_X12_469 hP 0 rfl rfl dX12_operand_116 ?_
  refine lv_iconst (v := (1 : Int32)) hx hb dX12_operand_119 (by decide) ?_
  refine lv_iadd hx hb dX12_operand_120 ?_
  obtain ⟨U6, e7, hF⟩ := nw_s hF
  refine k_put (W8 := fl [g12 q o0 a0 U6]) C fp_X12_469 hP hD hS 0 rfl rfl rfl (Nat.le_of_ble_eq_true rfl) dX12_operand_121 (by rw [e7]; rfl) (fun H locs hP hD hS => ?_)
  refine lv_iconst (v := (1 : Int32)) hx hb dX12_operand_124 (by decide) ?_
  cases hF
  exact k_zret C (by decide) hP hS dX12_operand_125
set_option maxRecDepth 100000 in
set_option maxHeartbeats 4000000 in
theorem b_X12_operand_84 {p : Program} {l : Launch} {e : Env} {s : State} {m : MethodId} {args : Array Value} {below : List Frame} {meth : Method} {c : Code} {D : va_G} {q : Nat → ClassId} {A : Nat → Prop} {o0 : Nat} {a0 : Nat → Nat} {r : Int32} {T0 : St} (C : cx p s m args meth c cX12_operand 5 (some .boolean) RX12 D q A) {x1 : Int32} {S0 : St} (hF : F_X12_operand_84 x1 S0 = some (r, T0)) {H : Heap} {locs : List Loc} (hP : va_P D vwCl (fl [g12 q o0 a0 S0]) H) (hD : va_D A (fl [g12 q o0 a0 S0])) (hS : va_S A s.heap H locs) {ls : Array Slot} (hl : lv_has ls 5 [(0, .ref o0), (1, .int x1)]) : W p l e rm_X12_operand s m args below meth c H locs 0 0 (MQ below (QI D A r (fl [g12 q o0 a0 T0])) args s 0 0 A) (F0 m 84 ls []) := by
  unfold F_X12_operand_84 at hF
  obtain ⟨hx, hb, hr, hml, hown, hts, hlk, hA, hK, hN, hV⟩ := id C
  refine lv_aload_n hx hb dX12_operand_84 rfl (lv_at hl 0 rfl) ?_
  refine k_get (v := .ref (a0 42)) C fg_X12_92 hP 0 rfl rfl dX12_operand_85 ?_
  refine lv_aload_n hx hb dX12_operand_88 rfl (lv_at hl 0 rfl) ?_
  refine k_get (v := .int (S0.1 44)) C fg_X12_463 hP 0 rfl rfl dX12_operand_89 ?_
  refine lv_iload_n hx hb dX12_operand_92 rfl (lv_at hl 1 rfl) ?_
  refine lv_if_eq (tgt := 101) hx hb dX12_operand_93 (by decide) (fun c1 => ?_) (fun c1 => ?_)
  · have hF := op_t hF c1
    refine lv_bipush (v := (23 : Int32)) hx hb dX12_operand_101 (by decide) ?_
    exact b_X12_operand_103 C hF hP hD hS (lv_sub hl [0] rfl)
  · have hF := op_f hF c1
    refine lv_bipush (v := (20 : Int32)) hx hb dX12_operand_96 (by decide) ?_
    refine lv_goto (tgt := 103) hx hb dX12_operand_98 (by decide) ?_
    exact b_X12_operand_103 C hF hP hD hS (lv_sub hl [0] rfl)
set_option maxRecDepth 100000 in
set_option maxHeartbeats 4000000 in
theorem b_X12_operand_56 {p : Program} {l : Launch} {e : Env} {s : State} {m : MethodId} {args : Array Value} {below : List Frame} {meth : Method} {c : Code} {D : va_G} {q : Nat → ClassId} {A : Nat → Prop} {o0 : Nat} {a0 : Nat → Nat} {r : Int32} {T0 : St} (C : cx p s m args meth c cX12_operand 5 (some .boolean) RX12 D q A) {S0 : St} (hF : F_X12_operand_56 S0 = some (r, T0)) {H : Heap} {locs : List Loc} (hP : va_P D vwCl (fl [g12 q o0 a0 S0]) H) (hD : va_D A (fl [g12 q o0 a0 S0])) (hS : va_S A s.heap H locs) {ls : Array Slot} (hl : lv_has ls 5 [(0, .ref o0)]) : W p l e rm_X12_operand s m args below meth c H locs 0 0 (MQ below (QI D A r (fl [g12 q o0 a0 T0])) args s 0 0 A) (F0 m 56 ls []) := by
  unfold F_X12_operand_56 at hF
  obtain ⟨hx, hb, hr, hml, hown, hts, hlk, hA, hK, hN, hV⟩ := id C
  refine lv_aload_n hx hb dX12_operand_56 rfl (lv_at hl 0 rfl) ?_
  refine lv_iconst (v := (4 : Int32)) hx hb dX12_operand_57 (by decide) ?_
  obtain ⟨r2, U3, hc1, hF⟩ := ob2_s hF
  refine k_iall C (k_rV (As := [.int (4 : Int32)]) (rest := []) C (c_X12_bad l D q o0 a0 S0 _ (4 : Int32) hc1) kc_X12_bad ml_X12_219 rfl rfl (by decide) hP hD hS (va_recv hK hP (ci := 12) (q0 := 0) rfl rfl) rfl hl.1 rfl (Nat.le_of_ble_eq_true rfl) dX12_operand_58 (by decide)) hP hD hS (by simp only [List.map_cons, List.map_nil, gad12]) (fun H locs hP hD hS => ?_)
  obtain ⟨h4, hF⟩ := op_ck hF
  cases hF
  exact k_zret C h4 hP hS dX12_operand_61
set_option maxRecDepth 100000 in
set_option maxHeartbeats 4000000 in
theorem b_X12_operand_38 {p : Program} {l : Launch} {e : Env} {s : State} {m : MethodId} {args : Array Value} {below : List Frame} {meth : Method} {c : Code} {D : va_G} {q : Nat → ClassId} {A : Nat → Prop} {o0 : Nat} {a0 : Nat → Nat} {r : Int32} {T0 : St} (C : cx p s m args meth c cX12_operand 5 (some .boolean) RX12 D q A) {x1 : Int32} {x2 : Int32} {x3 : Int32} {S0 : St} (hF : F_X12_operand_38 x1 x2 x3 S0 = some (r, T0)) {H : Heap} {locs : List Loc} (hP : va_P D vwCl (fl [g12 q o0 a0 S0]) H) (hD : va_D A (fl [g12 q o0 a0 S0])) (hS : va_S A s.heap H locs) {ls : Array Slot} (hl : lv_has ls 5 [(0, .ref o0), (1, .int x1), (2, .int x2), (3, .int x3)]) : W p l e rm_X12_operand s m args below meth c H locs 0 0 (MQ below (QI D A r (fl [g12 q o0 a0 T0])) args s 0 0 A) (F0 m 38 ls []) := by
  unfold F_X12_operand_38 at hF
  obtain ⟨hx, hb, hr, hml, hown, hts, hlk, hA, hK, hN, hV⟩ := id C
  refine lv_aload_n hx hb dX12_operand_38 rfl (lv_at hl 0 rfl) ?_
  refine k_get (v := .int (S0.1 43)) C fg_X12_475 hP 0 rfl rfl dX12_operand_39 ?_
  refine lv_bipush (v := (20 : Int32)) hx hb dX12_operand_42 (by decide) ?_
  refine lv_icmp_eq (tgt := 56) hx hb dX12_operand_44 (by decide) (fun c1 => ?_) (fun c1 => ?_)
  · have hF := op_t hF c1
    exact b_X12_operand_56 C hF hP hD hS (lv_sub hl [0] rfl)
  · have hF := op_f hF c1
    refine lv_aload_n hx hb dX12_operand_47 rfl (lv_at hl 0 rfl) ?_
    refine k_get (v := .int (S0.1 45)) C fg_X12_469 hP 0 rfl rfl dX12_operand_48 ?_
    refine lv_bipush (v := (8 : Int32)) hx hb dX12_operand_51 (by decide) ?_
    refine lv_icmp_le (tgt := 62) hx hb dX12_operand_53 (by decide) (fun c2 => ?_) (fun c2 => ?_)
    · have hF := op_t hF c2
      refine lv_aload_n hx hb dX12_operand_62 rfl (lv_at hl 0 rfl) ?_
      refine lv_dup hx hb dX12_operand_63 rfl ?_
      refine k_get (v := .int (S0.1 43)) C fg_X12_475 hP 0 rfl rfl dX12_operand_64 ?_
      refine lv_iconst (v := (1 : Int32)) hx hb dX12_operand_67 (by decide) ?_
      refine lv_iadd hx hb dX12_operand_68 ?_
      obtain ⟨U3, e4, hF⟩ := nw_s hF
      refine k_put (W8 := fl [g12 q o0 a0 U3]) C fp_X12_475 hP hD hS 0 rfl rfl rfl (Nat.le_of_ble_eq_true rfl) dX12_operand_69 (by rw [e4]; rfl) (fun H locs hP hD hS => ?_)
      refine lv_aload_n hx hb dX12_operand_72 rfl (lv_at hl 0 rfl) ?_
      obtain ⟨U6, hc5, hF⟩ := ob1_s hF
      refine k_vall C (k_rV (As := []) (rest := []) C (c_X12_next l D q o0 a0 U3 _ hc5) kc_X12_next ml_X12_222 rfl rfl (by decide) hP hD hS (va_recv hK hP (ci := 12) (q0 := 0) rfl rfl) rfl hl.1 rfl (Nat.le_of_ble_eq_true rfl) dX12_operand_73 (by decide)) hP hD hS (by simp only [List.map_cons, List.map_nil, gad12]) (fun H locs hP hD hS => ?_)
      refine lv_iload_n hx hb dX12_operand_76 rfl (lv_at hl 1 rfl) ?_
      refine lv_if_ne (tgt := 84) hx hb dX12_operand_77 (by decide) (fun c7 => ?_) (fun c7 => ?_)
      · have hF := op_f hF c7
        exact b_X12_operand_84 C hF hP hD hS (lv_sub hl [0, 1] rfl)
      · have hF := op_t hF c7
        refine lv_iload_n hx hb dX12_operand_80 rfl (lv_at hl 2 rfl) ?_
        refine lv_if_eq (tgt := 126) hx hb dX12_operand_81 (by decide) (fun c8 => ?_) (fun c8 => ?_)
        · have hF := op_t hF c8
          refine lv_aload_n hx hb dX12_operand_126 rfl (lv_at hl 0 rfl) ?_
          refine lv_iconst (v := (1 : Int32)) hx hb dX12_operand_127 (by decide) ?_
          obtain ⟨U9, e10, hF⟩ := nw_s hF
          refine k_put (W8 := fl [g12 q o0 a0 U9]) C fp_X12_478 hP hD hS 0 rfl rfl rfl (Nat.le_of_ble_eq_true rfl) dX12_operand_128 (by rw [e10]; rfl) (fun H locs hP hD hS => ?_)
          refine lv_iload_n hx hb dX12_operand_131 rfl (lv_at hl 3 rfl) ?_
          refine lv_iconst (v := (3 : Int32)) hx hb dX12_operand_132 (by decide) ?_
          refine lv_icmp_ge (tgt := 145) hx hb dX12_operand_133 (by decide) (fun c11 => ?_) (fun c11 => ?_)
          · have hF := op_t hF c11
            refine lv_iload_n hx hb dX12_operand_145 rfl (lv_at hl 3 rfl) ?_
            refine lv_iconst (v := (5 : Int32)) hx hb dX12_operand_146 (by decide) ?_
            refine lv_icmp_ge (tgt := 201) hx hb dX12_operand_147 (by decide) (fun c12 => ?_) (fun c12 => ?_)
            · have hF := op_t hF c12
              refine lv_aload_n hx hb dX12_operand_201 rfl (lv_at hl 0 rfl) ?_
              refine k_get (v := .int (U9.1 11)) C fg_X12_193 hP 0 rfl rfl dX12_operand_202 ?_
              refine lv_iconst (v := (3 : Int32)) hx hb dX12_operand_205 (by decide) ?_
              refine lv_icmp_ne (tgt := 227) hx hb dX12_operand_206 (by decide) (fun c13 => ?_) (fun c13 => ?_)
              · have hF := op_f hF c13
                exact b_X12_operand_227 C hF hP hD hS (lv_sub hl [0] rfl)
              · have hF := op_t hF c13
                refine lv_aload_n hx hb dX12_operand_209 rfl (lv_at hl 0 rfl) ?_
                refine k_get (v := .int (U9.1 14)) C fg_X12_203 hP 0 rfl rfl dX12_operand_210 ?_
                refine lv_bipush (v := (60 : Int32)) hx hb dX12_operand_213 (by decide) ?_
                refine lv_icmp_lt (tgt := 227) hx hb dX12_operand_215 (by decide) (fun c14 => ?_) (fun c14 => ?_)
                · have hF := op_t hF c14
                  exact b_X12_operand_227 C hF hP hD hS (lv_sub hl [0] rfl)
                · have hF := op_f hF c14
                  refine lv_aload_n hx hb dX12_operand_218 rfl (lv_at hl 0 rfl) ?_
                  refine k_get (v := .int (U9.1 14)) C fg_X12_203 hP 0 rfl rfl dX12_operand_219 ?_
                  refine lv_bipush (v := (62 : Int32)) hx hb dX12_operand_222 (by decide) ?_
                  refine lv_icmp_le (tgt := 233) hx hb dX12_operand_224 (by decide) (fun c15 => ?_) (fun c15 => ?_)
                  · have hF := op_t hF c15
                    refine lv_aload_n hx hb dX12_operand_233 rfl (lv_at hl 0 rfl) ?_
                    refine k_get (v := .int (U9.1 14)) C fg_X12_203 hP 0 rfl rfl dX12_operand_234 ?_
                    refine lv_istore (lv' := [(4, .int (U9.1 14)), (0, .ref o0), (1, .int x1), (2, .int x2), (3, .int x3)]) hx hb dX12_operand_237 hl (by decide) rfl (fun ls hl => ?_)
                    refine lv_aload_n hx hb dX12_operand_239 rfl (lv_at hl 1 rfl) ?_
                    obtain ⟨U17, hc16, hF⟩ := ob1_s hF
                    refine k_vall C (k_rV (As := []) (rest := []) C (c_X12_next l D q o0 a0 U9 _ hc16) kc_X12_next ml_X12_222 rfl rfl (by decide) hP hD hS (va_recv hK hP (ci := 12) (q0 := 0) rfl rfl) rfl hl.1 rfl (Nat.le_of_ble_eq_true rfl) dX12_operand_240 (by decide)) hP hD hS (by simp only [List.map_cons, List.map_nil, gad12]) (fun H locs hP hD hS => ?_)
                    refine lv_aload_n hx hb dX12_operand_243 rfl (lv_at hl 1 rfl) ?_
                    refine k_get (v := .int (U17.1 11)) C fg_X12_193 hP 0 rfl rfl dX12_operand_244 ?_
                    refine lv_iconst (v := (2 : Int32)) hx hb dX12_operand_247 (by decide) ?_
                    refine lv_icmp_eq (tgt := 257) hx hb dX12_operand_248 (by decide) (fun c18 => ?_) (fun c18 => ?_)
                    · have hF := op_t hF c18
                      refine lv_aload_n hx hb dX12_operand_257 rfl (lv_at hl 1 rfl) ?_
                      refine lv_iload_n hx hb dX12_operand_258 rfl (lv_at hl 4 rfl) ?_
                      refine lv_iload hx hb dX12_operand_259 (lv_at hl 0 rfl) ?_
                      refine lv_aload_n hx hb dX12_operand_261 rfl (lv_at hl 1 rfl) ?_
                      refine k_get (v := .int (U17.1 14)) C fg_X12_203 hP 0 rfl rfl dX12_operand_262 ?_
                      obtain ⟨U20, hc19, hF⟩ := ob1_s hF
                      refine k_vall C (k_rV (As := [.int x3, .int (U9.1 14), .int (U17.1 14)]) (rest := []) C (c_X12_code l D q o0 a0 U17 _ x3 (U9.1 14) (U17.1 14) hc19) kc_X12_code ml_X12_466 rfl rfl (by decide) hP hD hS (va_recv hK hP (ci := 12) (q0 := 0) rfl rfl) rfl hl.1 rfl (Nat.le_of_ble_eq_true rfl) dX12_operand_265 (by decide)) hP hD hS (by simp only [List.map_cons, List.map_nil, gad12]) (fun H locs hP hD hS => ?_)
                      refine lv_aload_n hx hb dX12_operand_268 rfl (lv_at hl 1 rfl) ?_
                      obtain ⟨U22, hc21, hF⟩ := ob1_s hF
                      refine k_vall C (k_rV (As := []) (rest := []) C (c_X12_next l D q o0 a0 U20 _ hc21) kc_X12_next ml_X12_222 rfl rfl (by decide) hP hD hS (va_recv hK hP (ci := 12) (q0 := 0) rfl rfl) rfl hl.1 rfl (Nat.le_of_ble_eq_true rfl) dX12_operand_269 (by decide)) hP hD hS (by simp only [List.map_cons, List.map_nil, gad12]) (fun H locs hP hD hS => ?_)
                      refine lv_iconst (v := (1 : Int32)) hx hb dX12_operand_272 (by decide) ?_
                      cases hF
                      exact k_zret C (by decide) hP hS dX12_operand_273
                    · have hF := op_f hF c18
                      refine lv_aload_n hx hb dX12_operand_251 rfl (lv_at hl 1 rfl) ?_
                      refine lv_iconst (v := (1 : Int32)) hx hb dX12_operand_252 (by decide) ?_
                      obtain ⟨r24, U25, hc23, hF⟩ := ob2_s hF
                      refine k_iall C (k_rV (As := [.int (1 : Int32)]) (rest := []) C (c_X12_bad l D q o0 a0 U17 _ (1 : Int32) hc23) kc_X12_bad ml_X12_219 rfl rfl (by decide) hP hD hS (va_recv hK hP (ci := 12) (q0 := 0) rfl rfl) rfl hl.1 rfl (Nat.le_of_ble_eq_true rfl) dX12_operand_253 (by decide)) hP hD hS (by simp only [List.map_cons, List.map_nil, gad12]) (fun H locs hP hD hS => ?_)
                      obtain ⟨h26, hF⟩ := op_ck hF
                      cases hF
                      exact k_zret C h26 hP hS dX12_operand_256
                  · have hF := op_f hF c15
                    exact b_X12_operand_227 C hF hP hD hS (lv_sub hl [0] rfl)
            · have hF := op_f hF c12
              refine lv_iload_n hx hb dX12_operand_150 rfl (lv_at hl 3 rfl) ?_
              refine lv_iconst (v := (3 : Int32)) hx hb dX12_operand_151 (by decide) ?_
              refine lv_icmp_ne (tgt := 165) hx hb dX12_operand_152 (by decide) (fun c27 => ?_) (fun c27 => ?_)
              · have hF := op_f hF c27
                refine lv_aload_n hx hb dX12_operand_165 rfl (lv_at hl 0 rfl) ?_
                refine lv_iconst (v := (0 : Int32)) hx hb dX12_operand_166 (by decide) ?_
                refine lv_aload_n hx hb dX12_operand_167 rfl (lv_at hl 0 rfl) ?_
                refine k_get (v := .ref (a0 7)) C fg_X12_33 hP 0 rfl rfl dX12_operand_168 ?_
                refine lv_iconst (v := (0 : Int32)) hx hb dX12_operand_171 (by decide) ?_
                obtain ⟨h28, hF⟩ := op_ck hF
                refine k_ild (f := U9.2.2.1 6) C hP 2 rfl h28 dX12_operand_172 ?_
                obtain ⟨r30, U31, hc29, hF⟩ := ob2_s hF
                refine k_iall C (k_rV (As := [.int (0 : Int32), .int (U9.2.2.1 6 (0 : Int32).toNatClampNeg)]) (rest := []) C (c_X12_looksAt l D q o0 a0 U9 _ (0 : Int32) (U9.2.2.1 6 (0 : Int32).toNatClampNeg) hc29) kc_X12_looksAt ml_X12_247 rfl rfl (by decide) hP hD hS (va_recv hK hP (ci := 12) (q0 := 0) rfl rfl) rfl hl.1 rfl (Nat.le_of_ble_eq_true rfl) dX12_operand_173 (by decide)) hP hD hS (by simp only [List.map_cons, List.map_nil, gad12]) (fun H locs hP hD hS => ?_)
                exact b_X12_operand_176 C hF hP hD hS (lv_sub hl [0, 3] rfl)
              · have hF := op_t hF c27
                refine lv_aload_n hx hb dX12_operand_155 rfl (lv_at hl 0 rfl) ?_
                refine lv_iconst (v := (5 : Int32)) hx hb dX12_operand_156 (by decide) ?_
                refine lv_bipush (v := (8 : Int32)) hx hb dX12_operand_157 (by decide) ?_
                obtain ⟨r33, U34, hc32, hF⟩ := ob2_s hF
                refine k_iall C (k_rV (As := [.int (5 : Int32), .int (8 : Int32)]) (rest := []) C (c_X12_isOneOf l D q o0 a0 U9 _ (5 : Int32) (8 : Int32) hc32) kc_X12_isOneOf ml_X12_236 rfl rfl (by decide) hP hD hS (va_recv hK hP (ci := 12) (q0 := 0) rfl rfl) rfl hl.1 rfl (Nat.le_of_ble_eq_true rfl) dX12_operand_159 (by decide)) hP hD hS (by simp only [List.map_cons, List.map_nil, gad12]) (fun H locs hP hD hS => ?_)
                refine lv_goto (tgt := 176) hx hb dX12_operand_162 (by decide) ?_
                exact b_X12_operand_176 C hF hP hD hS (lv_sub hl [0, 3] rfl)
          · have hF := op_f hF c11
            refine lv_aload_n hx hb dX12_operand_136 rfl (lv_at hl 0 rfl) ?_
            refine lv_iload_n hx hb dX12_operand_137 rfl (lv_at hl 3 rfl) ?_
            refine lv_iconst (v := (0 : Int32)) hx hb dX12_operand_138 (by decide) ?_
            refine lv_iconst (v := (0 : Int32)) hx hb dX12_operand_139 (by decide) ?_
            obtain ⟨U36, hc35, hF⟩ := ob1_s hF
            refine k_vall C (k_rV (As := [.int x3, .int (0 : Int32), .int (0 : Int32)]) (rest := []) C (c_X12_code l D q o0 a0 U9 _ x3 (0 : Int32) (0 : Int32) hc35) kc_X12_code ml_X12_466 rfl rfl (by decide) hP hD hS (va_recv hK hP (ci := 12) (q0 := 0) rfl rfl) rfl hl.1 rfl (Nat.le_of_ble_eq_true rfl) dX12_operand_140 (by decide)) hP hD hS (by simp only [List.map_cons, List.map_nil, gad12]) (fun H locs hP hD hS => ?_)
            refine lv_iconst (v := (1 : Int32)) hx hb dX12_operand_143 (by decide) ?_
            cases hF
            exact k_zret C (by decide) hP hS dX12_operand_144
        · have hF := op_f hF c8
          exact b_X12_operand_84 C hF hP hD hS (lv_sub hl [0, 1] rfl)
    · have hF := op_f hF c2
      exact b_X12_operand_56 C hF hP hD hS (lv_sub hl [0] rfl)
set_option maxRecDepth 100000 in
set_option maxHeartbeats 4000000 in
theorem c_X12_operand (l : Launch) (D : va_G) (q : Nat → ClassId) (o0 : Nat) (a0 : Nat → Nat) (S0 : St) (sz : Nat) {r : Int32} {T0 : St} (hF : F_X12_operand S0 = some (r, T0)) : Met l yX12_operand (Cond.code yX12_operand cX12_operand 5 (some .boolean) :: TB) rm_X12_operand (PC D q [.ref o0] (fl [g12 q o0 a0 S0]) sz) ((fun A => QI D A r (fl [g12 q o0 a0 T0])) (va_A (fl [g12 q o0 a0 S0]) sz)) 0 0 (va_A (fl [g12 q o0 a0 S0]) sz) := by
  refine k_met (w0 := fl [g12 q o0 a0 S0]) (Q := fun A => QI D A r (fl [g12 q o0 a0 T0])) (by decide +kernel) (Nat.le_of_ble_eq_true rfl) ?_
  intro p e s m args below meth c A ls C hP hD hS hl
  have hl : lv_has ls 5 [(0, .ref o0)] := hl
  unfold F_X12_operand at hF
  have C : cx p s m args meth c cX12_operand 5 (some .boolean) RX12 D q A := C
  obtain ⟨hx, hb, hr, hml, hown, hts, hlk, hA, hK, hN, hV⟩ := id C
  refine lv_aload_n hx hb dX12_operand_0 rfl (lv_at hl 0 rfl) ?_
  refine lv_ldc2 (v := (7237492 : Int64)) hx hb hown (hts _ kL_X12_160) dX12_operand_1 ?_
  obtain ⟨r2, hc1, hF⟩ := ob1_s hF
  refine k_isame C (k_rV (As := [.long (7237492 : Int64)]) (rest := []) C (c_X12_isWord l D q o0 a0 S0 _ (7237492 : Int64) hc1) kc_X12_isWord ml_X12_250 rfl rfl (by decide) hP hD hS (va_recv hK hP (ci := 12) (q0 := 0) rfl rfl) rfl hl.1 rfl (Nat.le_of_ble_eq_true rfl) dX12_operand_4 (by decide)) hP hD hS (fun H locs hP hD hS => ?_)
  refine lv_istore_n (lv' := [(1, .int r2), (0, .ref o0)]) hx hb dX12_operand_7 rfl hl (by decide) rfl (fun ls hl => ?_)
  refine lv_aload_n hx hb dX12_operand_8 rfl (lv_at hl 1 rfl) ?_
  refine lv_bipush (v := (40 : Int32)) hx hb dX12_operand_9 (by decide) ?_
  obtain ⟨r4, hc3, hF⟩ := ob1_s hF
  refine k_isame C (k_rV (As := [.int (40 : Int32)]) (rest := []) C (c_X12_isSign l D q o0 a0 S0 _ (40 : Int32) hc3) kc_X12_isSign ml_X12_216 rfl rfl (by decide) hP hD hS (va_recv hK hP (ci := 12) (q0 := 0) rfl rfl) rfl hl.1 rfl (Nat.le_of_ble_eq_true rfl) dX12_operand_11 (by decide)) hP hD hS (fun H locs hP hD hS => ?_)
  refine lv_istore_n (lv' := [(2, .int r4), (1, .int r2), (0, .ref o0)]) hx hb dX12_operand_14 rfl hl (by decide) rfl (fun ls hl => ?_)
  refine lv_aload_n hx hb dX12_operand_15 rfl (lv_at hl 2 rfl) ?_
  obtain ⟨r6, hc5, hF⟩ := ob1_s hF
  refine k_isame C (k_rV (As := []) (rest := []) C (c_X12_leafOf l D q o0 a0 S0 _ hc5) kc_X12_leafOf ml_X12_472 rfl rfl (by decide) hP hD hS (va_recv hK hP (ci := 12) (q0 := 0) rfl rfl) rfl hl.1 rfl (Nat.le_of_ble_eq_true rfl) dX12_operand_16 (by decide)) hP hD hS (fun H locs hP hD hS => ?_)
  refine lv_istore_n (lv' := [(3, .int r6), (2, .int r4), (1, .int r2), (0, .ref o0)]) hx hb dX12_operand_19 rfl hl (by decide) rfl (fun ls hl => ?_)
  refine lv_iload_n hx hb dX12_operand_20 rfl (lv_at hl 2 rfl) ?_
  refine lv_if_ne (tgt := 38) hx hb dX12_operand_21 (by decide) (fun c7 => ?_) (fun c7 => ?_)
  · have hF := op_f hF c7
    exact b_X12_operand_38 C hF hP hD hS (lv_sub hl [3, 2, 1, 0] rfl)
  · have hF := op_t hF c7
    refine lv_iload_n hx hb dX12_operand_24 rfl (lv_at hl 1 rfl) ?_
    refine lv_if_ne (tgt := 38) hx hb dX12_operand_25 (by decide) (fun c8 => ?_) (fun c8 => ?_)
    · have hF := op_f hF c8
      exact b_X12_operand_38 C hF hP hD hS (lv_sub hl [3, 2, 1, 0] rfl)
    · have hF := op_t hF c8
      refine lv_iload_n hx hb dX12_operand_28 rfl (lv_at hl 0 rfl) ?_
      refine lv_if_ge (tgt := 38) hx hb dX12_operand_29 (by decide) (fun c9 => ?_) (fun c9 => ?_)
      · have hF := op_t hF c9
        exact b_X12_operand_38 C hF hP hD hS (lv_sub hl [3, 2, 1, 0] rfl)
      · have hF := op_f hF c9
        refine lv_aload_n hx hb dX12_operand_32 rfl (lv_at hl 3 rfl) ?_
        refine lv_iconst (v := (1 : Int32)) hx hb dX12_operand_33 (by decide) ?_
        obtain ⟨r11, U12, hc10, hF⟩ := ob2_s hF
        refine k_iall C (k_rV (As := [.int (1 : Int32)]) (rest := []) C (c_X12_bad l D q o0 a0 S0 _ (1 : Int32) hc10) kc_X12_bad ml_X12_219 rfl rfl (by decide) hP hD hS (va_recv hK hP (ci := 12) (q0 := 0) rfl rfl) rfl hl.1 rfl (Nat.le_of_ble_eq_true rfl) dX12_operand_34 (by decide)) hP hD hS (by simp only [List.map_cons, List.map_nil, gad12]) (fun H locs hP hD hS => ?_)
        obtain ⟨h13, hF⟩ := op_ck hF
        cases hF
        exact k_zret C h13 hP hS dX12_operand_37

abbrev rm_X12_behind_ : Room := ({ frames := 2, cells := 0, slots := 0, locals := 44 } : Room)
def F_X12_behind__114 (S0 : St) : Option (Int32 × St) := ob2 (F_X12_bad S0 (1 : Int32)) fun r2 U3 => if nb r2 then none else some (r2, U3)
def F_X12_behind__70 (s1 : Int32) (s2 : Int32) (S0 : St) : Option (Int32 × St) := if oob s1 45 then none else nw (sA S0 41 s1 s2) fun U2 => nw (sI U2 44 ((U2.1 44) + (1 : Int32))) fun U4 => nw (sI U4 46 (0 : Int32)) fun U6 => ob1 (F_X12_next U6) fun U9 => some ((1 : Int32), U9)
def F_X12_behind__42 (s1 : Int32) (S0 : St) : Option (Int32 × St) := ob1 (F_X12_joins S0 s1) fun U2 => ob1 (F_X12_isWord U2 (6385252 : Int64)) fun r4 => if r4 = 0 then (F_X12_behind__70 (U2.1 44) (22 : Int32) U2) else (F_X12_behind__70 (U2.1 44) (21 : Int32) U2)
def F_X12_behind__24 (S0 : St) : Option (Int32 × St) := ob1 (F_X12_isWord S0 (6385252 : Int64)) fun r2 => if r2 = 0 then (F_X12_behind__42 (22 : Int32) S0) else (F_X12_behind__42 (21 : Int32) S0)
def F_X12_behind_ (S0 : St) : Option (Int32 × St) := ob1 (F_X12_nots S0) fun U2 => ob1 (F_X12_isWord U2 (6385252 : Int64)) fun r4 => if r4 = 0 then (ob1 (F_X12_isWord U2 (28530 : Int64)) fun r7 => if r7 = 0 then (ob1 (F_X12_joins U2 (22 : Int32)) fun U10 => ob1 (F_X12_isSign U10 (41 : Int32)) fun r12 => if r12 = 0 then (F_X12_behind__114 U10) else (if (U10.1 44) = 0 then (F_X12_behind__114 U10) else (nw (sI U10 44 ((U10.1 44) - (1 : Int32))) fun U15 => nw (sI U15 45 ((U15.1 45) - (1 : Int32))) fun U17 => ob1 (F_X12_next U17) fun U20 => some ((1 : Int32), U20)))) else (F_X12_behind__24 U2)) else (F_X12_behind__24 U2)
set_option maxRecDepth 100000 in
set_option maxHeartbeats 4000000 in
theorem b_X12_behind__114 {p : Program} {l : Launch} {e : Env} {s : State} {m : MethodId} {args : Array Value} {below : List Frame} {meth : Method} {c : Code} {D : va_G} {q : Nat → ClassId} {A : Nat → Prop} {o0 : Nat} {a0 : Nat → Nat} {r : Int32} {T0 : St} (C : cx p s m args meth c cX12_behind_ 1 (some .boolean) RX12 D q A) {S0 : St} (hF : F_X12_behind__114 S0 = some (r, T0)) {H : Heap} {locs : List Loc} (hP : va_P D vwCl (fl [g12 q o0 a0 S0]) H) (hD : va_D A (fl [g12 q o0 a0 S0])) (hS : va_S A s.heap H locs) {ls : Array Slot} (hl : lv_has ls 1 [(0, .ref o0)]) : W p l e rm_X12_behind_ s m args below meth c H locs 0 0 (MQ below (QI D A r (fl [g12 q o0 a0 T0])) args s 0 0 A) (F0 m 114 ls []) := by
  unfold F_X12_behind__114 at hF
  obtain ⟨hx, hb, hr, hml, hown, hts, hlk, hA, hK, hN, hV⟩ := id C
  refine lv_aload_n hx hb dX12_behind__114 rfl (lv_at hl 0 rfl) ?_
  refine lv_iconst (v := (1 : Int32)) hx hb dX12_behind__115 (by decide) ?_
  obtain ⟨r2, U3, hc1, hF⟩ := ob2_s hF
  refine k_iall C (k_rV (As := [.int (1 : Int32)]) (rest := []) C (c_X12_bad l D q o0 a0 S0 _ (1 : Int32) hc1) kc_X12_bad ml_X12_219 rfl rfl (by decide) hP hD hS (va_recv hK hP (ci := 12) (q0 := 0) rfl rfl) rfl hl.1 rfl (Nat.le_of_ble_eq_true rfl) dX12_behind__116 (by decide)) hP hD hS (by simp only [List.map_cons, List.map_nil, gad12]) (fun H locs hP hD hS => ?_)
  obtain ⟨h4, hF⟩ := op_ck hF
  cases hF
  exact k_zret C h4 hP hS dX12_behind__119
set_option maxRecDepth 100000 in
set_option maxHeartbeats 4000000 in
theorem b_X12_behind__70 {p : Program} {l : Launch} {e : Env} {s : State} {m : MethodId} {args : Array Value} {below : List Frame} {meth : Method} {c : Code} {D : va_G} {q : Nat → ClassId} {A : Nat → Prop} {o0 : Nat} {a0 : Nat → Nat} {r : Int32} {T0 : St} (C : cx p s m args meth c cX12_behind_ 1 (some .boolean) RX12 D q A) {s1 : Int32} {s2 : Int32} {S0 : St} (hF : F_X12_behind__70 s1 s2 S0 = some (r, T0)) {H : Heap} {locs : List Loc} (hP : va_P D vwCl (fl [g12 q o0 a0 S0]) H) (hD : va_D A (fl [g12 q o0 a0 S0])) (hS : va_S A s.heap H locs) {ls : Array Slot} (hl : lv_has ls 1 [(0, .ref o0)]) : W p l e rm_X12_behind_ s m args below meth c H locs 0 0 (MQ below (QI D A r (fl [g12 q o0 a0 T0])) args s 0 0 A) (F0 m 70 ls [.int s2, .int s1, .ref (a0 42)]) := by
  unfold F_X12_behind__70 at hF
  obtain ⟨hx, hb, hr, hml, hown, hts, hlk, hA, hK, hN, hV⟩ := id C
  obtain ⟨h1, hF⟩ := op_ck hF
  obtain ⟨U2, e3, hF⟩ := nw_s hF
  refine k_ist (f := S0.2.2.1 41) (W8 := fl [g12 q o0 a0 U2]) C hP hD hS 17 rfl h1 dX12_behind__70 (by rw [e3]; rfl) (fun H locs hP hD hS => ?_)
  refine lv_aload_n hx hb dX12_behind__71 rfl (lv_at hl 0 rfl) ?_
  refine lv_dup hx hb dX12_behind__72 rfl ?_
  refine k_get (v := .int (U2.1 44)) C fg_X12_463 hP 0 rfl rfl dX12_behind__73 ?_
  refine lv_iconst (v := (1 : Int32)) hx hb dX12_behind__76 (by decide) ?_
  refine lv_iadd hx hb dX12_behind__77 ?_
  obtain ⟨U4, e5, hF⟩ := nw_s hF
  refine k_put (W8 := fl [g12 q o0 a0 U4]) C fp_X12_463 hP hD hS 0 rfl rfl rfl (Nat.le_of_ble_eq_true rfl) dX12_behind__78 (by rw [e5]; rfl) (fun H locs hP hD hS => ?_)
  refine lv_aload_n hx hb dX12_behind__81 rfl (lv_at hl 0 rfl) ?_
  refine lv_iconst (v := (0 : Int32)) hx hb dX12_behind__82 (by decide) ?_
  obtain ⟨U6, e7, hF⟩ := nw_s hF
  refine k_put (W8 := fl [g12 q o0 a0 U6]) C fp_X12_478 hP hD hS 0 rfl rfl rfl (Nat.le_of_ble_eq_true rfl) dX12_behind__83 (by rw [e7]; rfl) (fun H locs hP hD hS => ?_)
  refine lv_aload_n hx hb dX12_behind__86 rfl (lv_at hl 0 rfl) ?_
  obtain ⟨U9, hc8, hF⟩ := ob1_s hF
  refine k_vall C (k_rV (As := []) (rest := []) C (c_X12_next l D q o0 a0 U6 _ hc8) kc_X12_next ml_X12_222 rfl rfl (by decide) hP hD hS (va_recv hK hP (ci := 12) (q0 := 0) rfl rfl) rfl hl.1 rfl (Nat.le_of_ble_eq_true rfl) dX12_behind__87 (by decide)) hP hD hS (by simp only [List.map_cons, List.map_nil, gad12]) (fun H locs hP hD hS => ?_)
  refine lv_iconst (v := (1 : Int32)) hx hb dX12_behind__90 (by decide) ?_
  cases hF
  exact k_zret C (by decide) hP hS dX12_behind__91
set_option maxRecDepth 100000 in
set_option maxHeartbeats 4000000 in
theorem b_X12_behind__42 {p : Program} {l : Launch} {e : Env} {s : State} {m : MethodId} {args : Array Value} {below : List Frame} {meth : Method} {c : Code} {D : va_G} {q : Nat → ClassId} {A : Nat → Prop} {o0 : Nat} {a0 : Nat → Nat} {r : Int32} {T0 : St} (C : cx p s m args meth c cX12_behind_ 1 (some .boolean) RX12 D q A) {s1 : Int32} {S0 : St} (hF : F_X12_behind__42 s1 S0 = some (r, T0)) {H : Heap} {locs : List Loc} (hP : va_P D vwCl (fl [g12 q o0 a0 S0]) H) (hD : va_D A (fl [g12 q o0 a0 S0])) (hS : va_S A s.heap H locs) {ls : Array Slot} (hl : lv_has ls 1 [(0, .ref o0)]) : W p l e rm_X12_behind_ s m args below meth c H locs 0 0 (MQ below (QI D A r (fl [g12 q o0 a0 T0])) args s 0 0 A) (F0 m 42 ls [.int s1, .ref o0]) := by
  unfold F_X12_behind__42 at hF
  obtain ⟨hx, hb, hr, hml, hown, hts, hlk, hA, hK, hN, hV⟩ := id C
  obtain ⟨U2, hc1, hF⟩ := ob1_s hF
  refine k_vall C (k_rV (As := [.int s1]) (rest := []) C (c_X12_joins l D q o0 a0 S0 _ s1 hc1) kc_X12_joins ml_X12_484 rfl rfl (by decide) hP hD hS (va_recv hK hP (ci := 12) (q0 := 0) rfl rfl) rfl hl.1 rfl (Nat.le_of_ble_eq_true rfl) dX12_behind__42 (by decide)) hP hD hS (by simp only [List.map_cons, List.map_nil, gad12]) (fun H locs hP hD hS => ?_)
  refine lv_aload_n hx hb dX12_behind__45 rfl (lv_at hl 0 rfl) ?_
  refine k_get (v := .ref (a0 42)) C fg_X12_92 hP 0 rfl rfl dX12_behind__46 ?_
  refine lv_aload_n hx hb dX12_behind__49 rfl (lv_at hl 0 rfl) ?_
  refine k_get (v := .int (U2.1 44)) C fg_X12_463 hP 0 rfl rfl dX12_behind__50 ?_
  refine lv_aload_n hx hb dX12_behind__53 rfl (lv_at hl 0 rfl) ?_
  refine lv_ldc2 (v := (6385252 : Int64)) hx hb hown (hts _ kL_X12_158) dX12_behind__54 ?_
  obtain ⟨r4, hc3, hF⟩ := ob1_s hF
  refine k_isame C (k_rV (As := [.long (6385252 : Int64)]) (rest := [.int (U2.1 44), .ref (a0 42)]) C (c_X12_isWord l D q o0 a0 U2 _ (6385252 : Int64) hc3) kc_X12_isWord ml_X12_250 rfl rfl (by decide) hP hD hS (va_recv hK hP (ci := 12) (q0 := 0) rfl rfl) rfl hl.1 rfl (Nat.le_of_ble_eq_true rfl) dX12_behind__57 (by decide)) hP hD hS (fun H locs hP hD hS => ?_)
  refine lv_if_eq (tgt := 68) hx hb dX12_behind__60 (by decide) (fun c5 => ?_) (fun c5 => ?_)
  · have hF := op_t hF c5
    refine lv_bipush (v := (22 : Int32)) hx hb dX12_behind__68 (by decide) ?_
    exact b_X12_behind__70 C hF hP hD hS (lv_sub hl [0] rfl)
  · have hF := op_f hF c5
    refine lv_bipush (v := (21 : Int32)) hx hb dX12_behind__63 (by decide) ?_
    refine lv_goto (tgt := 70) hx hb dX12_behind__65 (by decide) ?_
    exact b_X12_behind__70 C hF hP hD hS (lv_sub hl [0] rfl)
set_option maxRecDepth 100000 in
set_option maxHeartbeats 4000000 in
theorem b_X12_behind__24 {p : Program} {l : Launch} {e : Env} {s : State} {m : MethodId} {args : Array Value} {below : List Frame} {meth : Method} {c : Code} {D : va_G} {q : Nat → ClassId} {A : Nat → Prop} {o0 : Nat} {a0 : Nat → Nat} {r : Int32} {T0 : St} (C : cx p s m args meth c cX12_behind_ 1 (some .boolean) RX12 D q A) {S0 : St} (hF : F_X12_behind__24 S0 = some (r, T0)) {H : Heap} {locs : List Loc} (hP : va_P D vwCl (fl [g12 q o0 a0 S0]) H) (hD : va_D A (fl [g12 q o0 a0 S0])) (hS : va_S A s.heap H locs) {ls : Array Slot} (hl : lv_has ls 1 [(0, .ref o0)]) : W p l e rm_X12_behind_ s m args below meth c H locs 0 0 (MQ below (QI D A r (fl [g12 q o0 a0 T0])) args s 0 0 A) (F0 m 24 ls []) := by
  unfold F_X12_behind__24 at hF
  obtain ⟨hx, hb, hr, hml, hown, hts, hlk, hA, hK, hN, hV⟩ := id C
  refine lv_aload_n hx hb dX12_behind__24 rfl (lv_at hl 0 rfl) ?_
  refine lv_aload_n hx hb dX12_behind__25 rfl (lv_at hl 0 rfl) ?_
  refine lv_ldc2 (v := (6385252 : Int64)) hx hb hown (hts _ kL_X12_158) dX12_behind__26 ?_
  obtain ⟨r2, hc1, hF⟩ := ob1_s hF
  refine k_isame C (k_rV (As := [.long (6385252 : Int64)]) (rest := [.ref o0]) C (c_X12_isWord l D q o0 a0 S0 _ (6385252 : Int64) hc1) kc_X12_isWord ml_X12_250 rfl rfl (by decide) hP hD hS (va_recv hK hP (ci := 12) (q0 := 0) rfl rfl) rfl hl.1 rfl (Nat.le_of_ble_eq_true rfl) dX12_behind__29 (by decide)) hP hD hS (fun H locs hP hD hS => ?_)
  refine lv_if_eq (tgt := 40) hx hb dX12_behind__32 (by decide) (fun c3 => ?_) (fun c3 => ?_)
  · have hF := op_t hF c3
    refine lv_bipush (v := (22 : Int32)) hx hb dX12_behind__40 (by decide) ?_
    exact b_X12_behind__42 C hF hP hD hS (lv_sub hl [0] rfl)
  · have hF := op_f hF c3
    refine lv_bipush (v := (21 : Int32)) hx hb dX12_behind__35 (by decide) ?_
    refine lv_goto (tgt := 42) hx hb dX12_behind__37 (by decide) ?_
    exact b_X12_behind__42 C hF hP hD hS (lv_sub hl [0] rfl)
set_option maxRecDepth 100000 in
set_option maxHeartbeats 4000000 in
theorem c_X12_behind_ (l : Launch) (D : va_G) (q : Nat → ClassId) (o0 : Nat) (a0 : Nat → Nat) (S0 : St) (sz : Nat) {r : Int32} {T0 : St} (hF : F_X12_behind_ S0 = some (r, T0)) : Met l yX12_behind_ (Cond.code yX12_behind_ cX12_behind_ 1 (some .boolean) :: TB) rm_X12_behind_ (PC D q [.ref o0] (fl [g12 q o0 a0 S0]) sz) ((fun A => QI D A r (fl [g12 q o0 a0 T0])) (va_A (fl [g12 q o0 a0 S0]) sz)) 0 0 (va_A (fl [g12 q o0 a0 S0]) sz) := by
  refine k_met (w0 := fl [g12 q o0 a0 S0]) (Q := fun A => QI D A r (fl [g12 q o0 a0 T0])) (by decide +kernel) (Nat.le_of_ble_eq_true rfl) ?_
  intro p e s m args below meth c A ls C hP hD hS hl
  have hl : lv_has ls 1 [(0, .ref o0)] := hl
  unfold F_X12_behind_ at hF
  have C : cx p s m args meth c cX12_behind_ 1 (some .boolean) RX12 D q A := C
  obtain ⟨hx, hb, hr, hml, hown, hts, hlk, hA, hK, hN, hV⟩ := id C
  refine lv_aload_n hx hb dX12_behind__0 rfl (lv_at hl 0 rfl) ?_
  obtain ⟨U2, hc1, hF⟩ := ob1_s hF
  refine k_vall C (k_rV (As := []) (rest := []) C (c_X12_nots l D q o0 a0 S0 _ hc1) kc_X12_nots ml_X12_481 rfl rfl (by decide) hP hD hS (va_recv hK hP (ci := 12) (q0 := 0) rfl rfl) rfl hl.1 rfl (Nat.le_of_ble_eq_true rfl) dX12_behind__1 (by decide)) hP hD hS (by simp only [List.map_cons, List.map_nil, gad12]) (fun H locs hP hD hS => ?_)
  refine lv_aload_n hx hb dX12_behind__4 rfl (lv_at hl 0 rfl) ?_
  refine lv_ldc2 (v := (6385252 : Int64)) hx hb hown (hts _ kL_X12_158) dX12_behind__5 ?_
  obtain ⟨r4, hc3, hF⟩ := ob1_s hF
  refine k_isame C (k_rV (As := [.long (6385252 : Int64)]) (rest := []) C (c_X12_isWord l D q o0 a0 U2 _ (6385252 : Int64) hc3) kc_X12_isWord ml_X12_250 rfl rfl (by decide) hP hD hS (va_recv hK hP (ci := 12) (q0 := 0) rfl rfl) rfl hl.1 rfl (Nat.le_of_ble_eq_true rfl) dX12_behind__8 (by decide)) hP hD hS (fun H locs hP hD hS => ?_)
  refine lv_if_ne (tgt := 24) hx hb dX12_behind__11 (by decide) (fun c5 => ?_) (fun c5 => ?_)
  · have hF := op_f hF c5
    exact b_X12_behind__24 C hF hP hD hS (lv_sub hl [0] rfl)
  · have hF := op_t hF c5
    refine lv_aload_n hx hb dX12_behind__14 rfl (lv_at hl 0 rfl) ?_
    refine lv_ldc2 (v := (28530 : Int64)) hx hb hown (hts _ kL_X12_156) dX12_behind__15 ?_
    obtain ⟨r7, hc6, hF⟩ := ob1_s hF
    refine k_isame C (k_rV (As := [.long (28530 : Int64)]) (rest := []) C (c_X12_isWord l D q o0 a0 U2 _ (28530 : Int64) hc6) kc_X12_isWord ml_X12_250 rfl rfl (by decide) hP hD hS (va_recv hK hP (ci := 12) (q0 := 0) rfl rfl) rfl hl.1 rfl (Nat.le_of_ble_eq_true rfl) dX12_behind__18 (by decide)) hP hD hS (fun H locs hP hD hS => ?_)
    refine lv_if_eq (tgt := 92) hx hb dX12_behind__21 (by decide) (fun c8 => ?_) (fun c8 => ?_)
    · have hF := op_t hF c8
      refine lv_aload_n hx hb dX12_behind__92 rfl (lv_at hl 0 rfl) ?_
      refine lv_bipush (v := (22 : Int32)) hx hb dX12_behind__93 (by decide) ?_
      obtain ⟨U10, hc9, hF⟩ := ob1_s hF
      refine k_vall C (k_rV (As := [.int (22 : Int32)]) (rest := []) C (c_X12_joins l D q o0 a0 U2 _ (22 : Int32) hc9) kc_X12_joins ml_X12_484 rfl rfl (by decide) hP hD hS (va_recv hK hP (ci := 12) (q0 := 0) rfl rfl) rfl hl.1 rfl (Nat.le_of_ble_eq_true rfl) dX12_behind__95 (by decide)) hP hD hS (by simp only [List.map_cons, List.map_nil, gad12]) (fun H locs hP hD hS => ?_)
      refine lv_aload_n hx hb dX12_behind__98 rfl (lv_at hl 0 rfl) ?_
      refine lv_bipush (v := (41 : Int32)) hx hb dX12_behind__99 (by decide) ?_
      obtain ⟨r12, hc11, hF⟩ := ob1_s hF
      refine k_isame C (k_rV (As := [.int (41 : Int32)]) (rest := []) C (c_X12_isSign l D q o0 a0 U10 _ (41 : Int32) hc11) kc_X12_isSign ml_X12_216 rfl rfl (by decide) hP hD hS (va_recv hK hP (ci := 12) (q0 := 0) rfl rfl) rfl hl.1 rfl (Nat.le_of_ble_eq_true rfl) dX12_behind__101 (by decide)) hP hD hS (fun H locs hP hD hS => ?_)
      refine lv_if_eq (tgt := 114) hx hb dX12_behind__104 (by decide) (fun c13 => ?_) (fun c13 => ?_)
      · have hF := op_t hF c13
        exact b_X12_behind__114 C hF hP hD hS (lv_sub hl [0] rfl)
      · have hF := op_f hF c13
        refine lv_aload_n hx hb dX12_behind__107 rfl (lv_at hl 0 rfl) ?_
        refine k_get (v := .int (U10.1 44)) C fg_X12_463 hP 0 rfl rfl dX12_behind__108 ?_
        refine lv_if_ne (tgt := 120) hx hb dX12_behind__111 (by decide) (fun c14 => ?_) (fun c14 => ?_)
        · have hF := op_f hF c14
          refine lv_aload_n hx hb dX12_behind__120 rfl (lv_at hl 0 rfl) ?_
          refine lv_dup hx hb dX12_behind__121 rfl ?_
          refine k_get (v := .int (U10.1 44)) C fg_X12_463 hP 0 rfl rfl dX12_behind__122 ?_
          refine lv_iconst (v := (1 : Int32)) hx hb dX12_behind__125 (by decide) ?_
          refine lv_isub hx hb dX12_behind__126 ?_
          obtain ⟨U15, e16, hF⟩ := nw_s hF
          refine k_put (W8 := fl [g12 q o0 a0 U15]) C fp_X12_463 hP hD hS 0 rfl rfl rfl (Nat.le_of_ble_eq_true rfl) dX12_behind__127 (by rw [e16]; rfl) (fun H locs hP hD hS => ?_)
          refine lv_aload_n hx hb dX12_behind__130 rfl (lv_at hl 0 rfl) ?_
          refine lv_dup hx hb dX12_behind__131 rfl ?_
          refine k_get (v := .int (U15.1 45)) C fg_X12_469 hP 0 rfl rfl dX12_behind__132 ?_
          refine lv_iconst (v := (1 : Int32)) hx hb dX12_behind__135 (by decide) ?_
          refine lv_isub hx hb dX12_behind__136 ?_
          obtain ⟨U17, e18, hF⟩ := nw_s hF
          refine k_put (W8 := fl [g12 q o0 a0 U17]) C fp_X12_469 hP hD hS 0 rfl rfl rfl (Nat.le_of_ble_eq_true rfl) dX12_behind__137 (by rw [e18]; rfl) (fun H locs hP hD hS => ?_)
          refine lv_aload_n hx hb dX12_behind__140 rfl (lv_at hl 0 rfl) ?_
          obtain ⟨U20, hc19, hF⟩ := ob1_s hF
          refine k_vall C (k_rV (As := []) (rest := []) C (c_X12_next l D q o0 a0 U17 _ hc19) kc_X12_next ml_X12_222 rfl rfl (by decide) hP hD hS (va_recv hK hP (ci := 12) (q0 := 0) rfl rfl) rfl hl.1 rfl (Nat.le_of_ble_eq_true rfl) dX12_behind__141 (by decide)) hP hD hS (by simp only [List.map_cons, List.map_nil, gad12]) (fun H locs hP hD hS => ?_)
          refine lv_iconst (v := (1 : Int32)) hx hb dX12_behind__144 (by decide) ?_
          cases hF
          exact k_zret C (by decide) hP hS dX12_behind__145
        · have hF := op_t hF c14
          exact b_X12_behind__114 C hF hP hD hS (lv_sub hl [0] rfl)
    · have hF := op_f hF c8
      exact b_X12_behind__24 C hF hP hD hS (lv_sub hl [0] rfl)

abbrev rm_X12_sentence : Room := ({ frames := 3, cells := 0, slots := 0, locals := 69 } : Room)
def F_X12_sentence_145 (k145 : Int32 × St → Option (Int32 × St)) (x2 : Int32) (S0 : St) : Option (Int32 × St) := if ((3 : Int32) * (S0.1 42)) ≤ x2 then (some ((S0.1 43), S0)) else (if oob x2 160 then none else if oob ((78 : Int32) + x2) 258 then none else nw (sA S0 6 ((78 : Int32) + x2) (S0.2.2.1 8 x2.toNatClampNeg)) fun U4 => k145 ((x2 + 1), U4))
def L_X12_sentence_145 (x2 : Int32) (S0 : St) : Option (Int32 × St) := lp (fun kz z => F_X12_sentence_145 kz z.1 z.2) FU (x2, S0)
def F_X12_sentence_101 (k48 : Int32 × St → Option (Int32 × St)) (x1 : Int32) (S0 : St) : Option (Int32 × St) := if (S0.1 46) = 0 then (ob2 (F_X12_operand S0) fun r3 U4 => if r3 = 0 then (some (((-1 : Int32) - (U4.1 16)), U4)) else (k48 (x1, U4))) else (ob2 (F_X12_behind_ S0) fun r7 U8 => if r7 = 0 then (some (((-1 : Int32) - (U8.1 16)), U8)) else (k48 (x1, U8)))
def F_X12_sentence_48 (k48 : Int32 × St → Option (Int32 × St)) (x1 : Int32) (S0 : St) : Option (Int32 × St) := if x1 = 0 then (if oob (77 : Int32) 258 then none else nw (sA S0 6 (77 : Int32) (S0.1 42)) fun U3 => L_X12_sentence_145 (0 : Int32) U3) else (if (S0.1 46) = 0 then (F_X12_sentence_101 k48 x1 S0) else (if (S0.1 11) = 0 then (ob1 (F_X12_nots S0) fun U8 => ob1 (F_X12_joins U8 (22 : Int32)) fun U10 => if (U10.1 44) ≤ 0 then (k48 ((0 : Int32), U10)) else (ob2 (F_X12_bad U10 (1 : Int32)) fun r13 U14 => some (((-1 : Int32) - (U14.1 16)), U14))) else (F_X12_sentence_101 k48 x1 S0)))
def L_X12_sentence_48 (x1 : Int32) (S0 : St) : Option (Int32 × St) := lp (fun kz z => F_X12_sentence_48 kz z.1 z.2) FU (x1, S0)
def F_X12_sentence (S0 : St) : Option (Int32 × St) := nw (sI S0 0 (0 : Int32)) fun U1 => ob1 (F_X12_taken U1 (200 : Int32)) fun U4 => nw (sI U4 15 (0 : Int32)) fun U5 => nw (sI U5 42 (0 : Int32)) fun U7 => nw (sI U7 43 (0 : Int32)) fun U9 => nw (sI U9 44 (0 : Int32)) fun U11 => nw (sI U11 45 (1 : Int32)) fun U13 => nw (sI U13 46 (0 : Int32)) fun U15 => ob1 (F_X12_next U15) fun U18 => L_X12_sentence_48 (1 : Int32) U18
set_option maxRecDepth 100000 in
set_option maxHeartbeats 4000000 in
theorem b_X12_sentence_145 {p : Program} {l : Launch} {e : Env} {s : State} {m : MethodId} {args : Array Value} {below : List Frame} {meth : Method} {c : Code} {D : va_G} {q : Nat → ClassId} {A : Nat → Prop} {o0 : Nat} {a0 : Nat → Nat} {r : Int32} {T0 : St} (C : cx p s m args meth c cX12_sentence 3 (some .int) RX12 D q A) {k145 : Int32 × St → Option (Int32 × St)} (hk145 : ∀ (x2 : Int32) (S0 : St), k145 (x2, S0) = some (r, T0) → ∀ (H : Heap) (locs : List Loc) (ls : Array Slot), va_P D vwCl (fl [g12 q o0 a0 S0]) H → va_D A (fl [g12 q o0 a0 S0]) → va_S A s.heap H locs → lv_has ls 3 [(0, .ref o0), (2, .int x2)] → W p l e rm_X12_sentence s m args below meth c H locs 0 0 (MQ below (QI D A r (fl [g12 q o0 a0 T0])) args s 0 0 A) (F0 m 145 ls [])) {x2 : Int32} {S0 : St} (hF : F_X12_sentence_145 k145 x2 S0 = some (r, T0)) {H : Heap} {locs : List Loc} (hP : va_P D vwCl (fl [g12 q o0 a0 S0]) H) (hD : va_D A (fl [g12 q o0 a0 S0])) (hS : va_S A s.heap H locs) {ls : Array Slot} (hl : lv_has ls 3 [(0, .ref o0), (2, .int x2)]) : W p l e rm_X12_sentence s m args below meth c H locs 0 0 (MQ below (QI D A r (fl [g12 q o0 a0 T0])) args s 0 0 A) (F0 m 145 ls []) := by
  unfold F_X12_sentence_145 at hF
  obtain ⟨hx, hb, hr, hml, hown, hts, hlk, hA, hK, hN, hV⟩ := id C
  refine lv_iload_n hx hb dX12_sentence_145 rfl (lv_at hl 1 rfl) ?_
  refine lv_iconst (v := (3 : Int32)) hx hb dX12_sentence_146 (by decide) ?_
  refine lv_aload_n hx hb dX12_sentence_147 rfl (lv_at hl 0 rfl) ?_
  refine k_get (v := .int (S0.1 42)) C fg_X12_460 hP 0 rfl rfl dX12_sentence_148 ?_
  refine lv_imul hx hb dX12_sentence_151 ?_
  refine lv_icmp_ge (tgt := 176) hx hb dX12_sentence_152 (by decide) (fun c1 => ?_) (fun c1 => ?_)
  · have hF := op_t hF c1
    refine lv_aload_n hx hb dX12_sentence_176 rfl (lv_at hl 0 rfl) ?_
    refine k_get (v := .int (S0.1 43)) C fg_X12_475 hP 0 rfl rfl dX12_sentence_177 ?_
    cases hF
    exact k_iret C hP hS dX12_sentence_180
  · have hF := op_f hF c1
    refine lv_aload_n hx hb dX12_sentence_155 rfl (lv_at hl 0 rfl) ?_
    refine k_get (v := .ref (a0 7)) C fg_X12_33 hP 0 rfl rfl dX12_sentence_156 ?_
    refine lv_bipush (v := (78 : Int32)) hx hb dX12_sentence_159 (by decide) ?_
    refine lv_iload_n hx hb dX12_sentence_161 rfl (lv_at hl 1 rfl) ?_
    refine lv_iadd hx hb dX12_sentence_162 ?_
    refine lv_aload_n hx hb dX12_sentence_163 rfl (lv_at hl 0 rfl) ?_
    refine k_get (v := .ref (a0 9)) C fg_X12_40 hP 0 rfl rfl dX12_sentence_164 ?_
    refine lv_iload_n hx hb dX12_sentence_167 rfl (lv_at hl 1 rfl) ?_
    obtain ⟨h2, hF⟩ := op_ck hF
    refine k_ild (f := S0.2.2.1 8) C hP 4 rfl h2 dX12_sentence_168 ?_
    obtain ⟨h3, hF⟩ := op_ck hF
    obtain ⟨U4, e5, hF⟩ := nw_s hF
    refine k_ist (f := S0.2.2.1 6) (W8 := fl [g12 q o0 a0 U4]) C hP hD hS 2 rfl h3 dX12_sentence_169 (by rw [e5]; rfl) (fun H locs hP hD hS => ?_)
    refine lv_iinc (v := (x2 + 1)) (lv' := [(2, .int (x2 + 1)), (0, .ref o0)]) hx hb dX12_sentence_170 hl (k := 1) rfl rfl (by decide) rfl (fun ls hl => ?_)
    refine lv_goto (tgt := 145) hx hb dX12_sentence_173 (by decide) ?_
    exact hk145 (x2 + 1) U4 hF _ _ _ hP hD hS (lv_sub hl [1, 0] rfl)
set_option maxRecDepth 100000 in
set_option maxHeartbeats 4000000 in
theorem l_X12_sentence_145 {p : Program} {l : Launch} {e : Env} {s : State} {m : MethodId} {args : Array Value} {below : List Frame} {meth : Method} {c : Code} {D : va_G} {q : Nat → ClassId} {A : Nat → Prop} {o0 : Nat} {a0 : Nat → Nat} {r : Int32} {T0 : St} (C : cx p s m args meth c cX12_sentence 3 (some .int) RX12 D q A) {x2 : Int32} {S0 : St} (hF : L_X12_sentence_145 x2 S0 = some (r, T0)) : ∀ (H : Heap) (locs : List Loc) (ls : Array Slot), va_P D vwCl (fl [g12 q o0 a0 S0]) H → va_D A (fl [g12 q o0 a0 S0]) → va_S A s.heap H locs → lv_has ls 3 [(0, .ref o0), (2, .int x2)] → W p l e rm_X12_sentence s m args below meth c H locs 0 0 (MQ below (QI D A r (fl [g12 q o0 a0 T0])) args s 0 0 A) (F0 m 145 ls []) :=
  lp_G _ _ (fun z => ∀ (H : Heap) (locs : List Loc) (ls : Array Slot), va_P D vwCl (fl [g12 q o0 a0 z.2]) H → va_D A (fl [g12 q o0 a0 z.2]) → va_S A s.heap H locs → lv_has ls 3 [(0, .ref o0), (2, .int z.1)] → W p l e rm_X12_sentence s m args below meth c H locs 0 0 (MQ below (QI D A r (fl [g12 q o0 a0 T0])) args s 0 0 A) (F0 m 145 ls [])) (fun kz hkz z hz H locs ls hP hD hS hl => b_X12_sentence_145 C (fun x2 S0 hz => hkz (x2, S0) hz) hz hP hD hS hl) FU (x2, S0) hF
set_option maxRecDepth 100000 in
set_option maxHeartbeats 4000000 in
theorem b_X12_sentence_101 {p : Program} {l : Launch} {e : Env} {s : State} {m : MethodId} {args : Array Value} {below : List Frame} {meth : Method} {c : Code} {D : va_G} {q : Nat → ClassId} {A : Nat → Prop} {o0 : Nat} {a0 : Nat → Nat} {r : Int32} {T0 : St} (C : cx p s m args meth c cX12_sentence 3 (some .int) RX12 D q A) {k48 : Int32 × St → Option (Int32 × St)} (hk48 : ∀ (x1 : Int32) (S0 : St), k48 (x1, S0) = some (r, T0) → ∀ (H : Heap) (locs : List Loc) (ls : Array Slot), va_P D vwCl (fl [g12 q o0 a0 S0]) H → va_D A (fl [g12 q o0 a0 S0]) → va_S A s.heap H locs → lv_has ls 3 [(0, .ref o0), (1, .int x1)] → W p l e rm_X12_sentence s m args below meth c H locs 0 0 (MQ below (QI D A r (fl [g12 q o0 a0 T0])) args s 0 0 A) (F0 m 48 ls [])) {x1 : Int32} {S0 : St} (hF : F_X12_sentence_101 k48 x1 S0 = some (r, T0)) {H : Heap} {locs : List Loc} (hP : va_P D vwCl (fl [g12 q o0 a0 S0]) H) (hD : va_D A (fl [g12 q o0 a0 S0])) (hS : va_S A s.heap H locs) {ls : Array Slot} (hl : lv_has ls 3 [(0, .ref o0), (1, .int x1)]) : W p l e rm_X12_sentence s m args below meth c H locs 0 0 (MQ below (QI D A r (fl [g12 q o0 a0 T0])) args s 0 0 A) (F0 m 101 ls []) := by
  unfold F_X12_sentence_101 at hF
  obtain ⟨hx, hb, hr, hml, hown, hts, hlk, hA, hK, hN, hV⟩ := id C
  refine lv_aload_n hx hb dX12_sentence_101 rfl (lv_at hl 0 rfl) ?_
  refine k_get (v := .int (S0.1 46)) C fg_X12_478 hP 0 rfl rfl dX12_sentence_102 ?_
  refine lv_if_eq (tgt := 118) hx hb dX12_sentence_105 (by decide) (fun c1 => ?_) (fun c1 => ?_)
  · have hF := op_t hF c1
    refine lv_aload_n hx hb dX12_sentence_118 rfl (lv_at hl 0 rfl) ?_
    obtain ⟨r3, U4, hc2, hF⟩ := ob2_s hF
    refine k_iall C (k_rV (As := []) (rest := []) C (c_X12_operand l D q o0 a0 S0 _ hc2) kc_X12_operand ml_X12_490 rfl rfl (by decide) hP hD hS (va_recv hK hP (ci := 12) (q0 := 0) rfl rfl) rfl hl.1 rfl (Nat.le_of_ble_eq_true rfl) dX12_sentence_119 (by decide)) hP hD hS (by simp only [List.map_cons, List.map_nil, gad12]) (fun H locs hP hD hS => ?_)
    refine lv_if_ne (tgt := 48) hx hb dX12_sentence_122 (by decide) (fun c5 => ?_) (fun c5 => ?_)
    · have hF := op_f hF c5
      exact hk48 x1 U4 hF _ _ _ hP hD hS (lv_sub hl [0, 1] rfl)
    · have hF := op_t hF c5
      refine lv_iconst (v := (-1 : Int32)) hx hb dX12_sentence_125 (by decide) ?_
      refine lv_aload_n hx hb dX12_sentence_126 rfl (lv_at hl 0 rfl) ?_
      refine k_get (v := .int (U4.1 16)) C fg_X12_213 hP 0 rfl rfl dX12_sentence_127 ?_
      refine lv_isub hx hb dX12_sentence_130 ?_
      generalize ((-1 : Int32) - (U4.1 16)) = rr at hF ⊢
      cases hF
      exact k_iret C hP hS dX12_sentence_131
  · have hF := op_f hF c1
    refine lv_aload_n hx hb dX12_sentence_108 rfl (lv_at hl 0 rfl) ?_
    obtain ⟨r7, U8, hc6, hF⟩ := ob2_s hF
    refine k_iall C (k_rV (As := []) (rest := []) C (c_X12_behind_ l D q o0 a0 S0 _ hc6) kc_X12_behind_ ml_X12_487 rfl rfl (by decide) hP hD hS (va_recv hK hP (ci := 12) (q0 := 0) rfl rfl) rfl hl.1 rfl (Nat.le_of_ble_eq_true rfl) dX12_sentence_109 (by decide)) hP hD hS (by simp only [List.map_cons, List.map_nil, gad12]) (fun H locs hP hD hS => ?_)
    refine lv_if_ne (tgt := 48) hx hb dX12_sentence_112 (by decide) (fun c9 => ?_) (fun c9 => ?_)
    · have hF := op_f hF c9
      exact hk48 x1 U8 hF _ _ _ hP hD hS (lv_sub hl [0, 1] rfl)
    · have hF := op_t hF c9
      refine lv_goto (tgt := 125) hx hb dX12_sentence_115 (by decide) ?_
      refine lv_iconst (v := (-1 : Int32)) hx hb dX12_sentence_125 (by decide) ?_
      refine lv_aload_n hx hb dX12_sentence_126 rfl (lv_at hl 0 rfl) ?_
      refine k_get (v := .int (U8.1 16)) C fg_X12_213 hP 0 rfl rfl dX12_sentence_127 ?_
      refine lv_isub hx hb dX12_sentence_130 ?_
      generalize ((-1 : Int32) - (U8.1 16)) = rr at hF ⊢
      cases hF
      exact k_iret C hP hS dX12_sentence_131
set_option maxRecDepth 100000 in
set_option maxHeartbeats 4000000 in
theorem b_X12_sentence_48 {p : Program} {l : Launch} {e : Env} {s : State} {m : MethodId} {args : Array Value} {below : List Frame} {meth : Method} {c : Code} {D : va_G} {q : Nat → ClassId} {A : Nat → Prop} {o0 : Nat} {a0 : Nat → Nat} {r : Int32} {T0 : St} (C : cx p s m args meth c cX12_sentence 3 (some .int) RX12 D q A) {k48 : Int32 × St → Option (Int32 × St)} (hk48 : ∀ (x1 : Int32) (S0 : St), k48 (x1, S0) = some (r, T0) → ∀ (H : Heap) (locs : List Loc) (ls : Array Slot), va_P D vwCl (fl [g12 q o0 a0 S0]) H → va_D A (fl [g12 q o0 a0 S0]) → va_S A s.heap H locs → lv_has ls 3 [(0, .ref o0), (1, .int x1)] → W p l e rm_X12_sentence s m args below meth c H locs 0 0 (MQ below (QI D A r (fl [g12 q o0 a0 T0])) args s 0 0 A) (F0 m 48 ls [])) {x1 : Int32} {S0 : St} (hF : F_X12_sentence_48 k48 x1 S0 = some (r, T0)) {H : Heap} {locs : List Loc} (hP : va_P D vwCl (fl [g12 q o0 a0 S0]) H) (hD : va_D A (fl [g12 q o0 a0 S0])) (hS : va_S A s.heap H locs) {ls : Array Slot} (hl : lv_has ls 3 [(0, .ref o0), (1, .int x1)]) : W p l e rm_X12_sentence s m args below meth c H locs 0 0 (MQ below (QI D A r (fl [g12 q o0 a0 T0])) args s 0 0 A) (F0 m 48 ls []) := by
  unfold F_X12_sentence_48 at hF
  obtain ⟨hx, hb, hr, hml, hown, hts, hlk, hA, hK, hN, hV⟩ := id C
  refine lv_iload_n hx hb dX12_sentence_48 rfl (lv_at hl 1 rfl) ?_
  refine lv_if_eq (tgt := 132) hx hb dX12_sentence_49 (by decide) (fun c1 => ?_) (fun c1 => ?_)
  · have hF := op_t hF c1
    refine lv_aload_n hx hb dX12_sentence_132 rfl (lv_at hl 0 rfl) ?_
    refine k_get (v := .ref (a0 7)) C fg_X12_33 hP 0 rfl rfl dX12_sentence_133 ?_
    refine lv_bipush (v := (77 : Int32)) hx hb dX12_sentence_136 (by decide) ?_
    refine lv_aload_n hx hb dX12_sentence_138 rfl (lv_at hl 0 rfl) ?_
    refine k_get (v := .int (S0.1 42)) C fg_X12_460 hP 0 rfl rfl dX12_sentence_139 ?_
    obtain ⟨h2, hF⟩ := op_ck hF
    obtain ⟨U3, e4, hF⟩ := nw_s hF
    refine k_ist (f := S0.2.2.1 6) (W8 := fl [g12 q o0 a0 U3]) C hP hD hS 2 rfl h2 dX12_sentence_142 (by rw [e4]; rfl) (fun H locs hP hD hS => ?_)
    refine lv_iconst (v := (0 : Int32)) hx hb dX12_sentence_143 (by decide) ?_
    refine lv_istore_n (lv' := [(2, .int (0 : Int32)), (0, .ref o0), (1, .int x1)]) hx hb dX12_sentence_144 rfl hl (by decide) rfl (fun ls hl => ?_)
    exact l_X12_sentence_145 C hF _ _ _ hP hD hS (lv_sub hl [1, 0] rfl)
  · have hF := op_f hF c1
    refine lv_aload_n hx hb dX12_sentence_52 rfl (lv_at hl 0 rfl) ?_
    refine k_get (v := .int (S0.1 46)) C fg_X12_478 hP 0 rfl rfl dX12_sentence_53 ?_
    refine lv_if_eq (tgt := 101) hx hb dX12_sentence_56 (by decide) (fun c5 => ?_) (fun c5 => ?_)
    · have hF := op_t hF c5
      exact b_X12_sentence_101 C hk48 hF hP hD hS (lv_sub hl [0, 1] rfl)
    · have hF := op_f hF c5
      refine lv_aload_n hx hb dX12_sentence_59 rfl (lv_at hl 0 rfl) ?_
      refine k_get (v := .int (S0.1 11)) C fg_X12_193 hP 0 rfl rfl dX12_sentence_60 ?_
      refine lv_if_ne (tgt := 101) hx hb dX12_sentence_63 (by decide) (fun c6 => ?_) (fun c6 => ?_)
      · have hF := op_f hF c6
        exact b_X12_sentence_101 C hk48 hF hP hD hS (lv_sub hl [0, 1] rfl)
      · have hF := op_t hF c6
        refine lv_aload_n hx hb dX12_sentence_66 rfl (lv_at hl 0 rfl) ?_
        obtain ⟨U8, hc7, hF⟩ := ob1_s hF
        refine k_vall C (k_rV (As := []) (rest := []) C (c_X12_nots l D q o0 a0 S0 _ hc7) kc_X12_nots ml_X12_481 rfl rfl (by decide) hP hD hS (va_recv hK hP (ci := 12) (q0 := 0) rfl rfl) rfl hl.1 rfl (Nat.le_of_ble_eq_true rfl) dX12_sentence_67 (by decide)) hP hD hS (by simp only [List.map_cons, List.map_nil, gad12]) (fun H locs hP hD hS => ?_)
        refine lv_aload_n hx hb dX12_sentence_70 rfl (lv_at hl 0 rfl) ?_
        refine lv_bipush (v := (22 : Int32)) hx hb dX12_sentence_71 (by decide) ?_
        obtain ⟨U10, hc9, hF⟩ := ob1_s hF
        refine k_vall C (k_rV (As := [.int (22 : Int32)]) (rest := []) C (c_X12_joins l D q o0 a0 U8 _ (22 : Int32) hc9) kc_X12_joins ml_X12_484 rfl rfl (by decide) hP hD hS (va_recv hK hP (ci := 12) (q0 := 0) rfl rfl) rfl hl.1 rfl (Nat.le_of_ble_eq_true rfl) dX12_sentence_73 (by decide)) hP hD hS (by simp only [List.map_cons, List.map_nil, gad12]) (fun H locs hP hD hS => ?_)
        refine lv_aload_n hx hb dX12_sentence_76 rfl (lv_at hl 0 rfl) ?_
        refine k_get (v := .int (U10.1 44)) C fg_X12_463 hP 0 rfl rfl dX12_sentence_77 ?_
        refine lv_if_le (tgt := 96) hx hb dX12_sentence_80 (by decide) (fun c11 => ?_) (fun c11 => ?_)
        · have hF := op_t hF c11
          refine lv_iconst (v := (0 : Int32)) hx hb dX12_sentence_96 (by decide) ?_
          refine lv_istore_n (lv' := [(1, .int (0 : Int32)), (0, .ref o0)]) hx hb dX12_sentence_97 rfl hl (by decide) rfl (fun ls hl => ?_)
          refine lv_goto (tgt := 48) hx hb dX12_sentence_98 (by decide) ?_
          exact hk48 (0 : Int32) U10 hF _ _ _ hP hD hS (lv_sub hl [1, 0] rfl)
        · have hF := op_f hF c11
          refine lv_aload_n hx hb dX12_sentence_83 rfl (lv_at hl 0 rfl) ?_
          refine lv_iconst (v := (1 : Int32)) hx hb dX12_sentence_84 (by decide) ?_
          obtain ⟨r13, U14, hc12, hF⟩ := ob2_s hF
          refine k_iall C (k_rV (As := [.int (1 : Int32)]) (rest := []) C (c_X12_bad l D q o0 a0 U10 _ (1 : Int32) hc12) kc_X12_bad ml_X12_219 rfl rfl (by decide) hP hD hS (va_recv hK hP (ci := 12) (q0 := 0) rfl rfl) rfl hl.1 rfl (Nat.le_of_ble_eq_true rfl) dX12_sentence_85 (by decide)) hP hD hS (by simp only [List.map_cons, List.map_nil, gad12]) (fun H locs hP hD hS => ?_)
          refine lv_pop hx hb dX12_sentence_88 rfl ?_
          refine lv_iconst (v := (-1 : Int32)) hx hb dX12_sentence_89 (by decide) ?_
          refine lv_aload_n hx hb dX12_sentence_90 rfl (lv_at hl 0 rfl) ?_
          refine k_get (v := .int (U14.1 16)) C fg_X12_213 hP 0 rfl rfl dX12_sentence_91 ?_
          refine lv_isub hx hb dX12_sentence_94 ?_
          generalize ((-1 : Int32) - (U14.1 16)) = rr at hF ⊢
          cases hF
          exact k_iret C hP hS dX12_sentence_95
set_option maxRecDepth 100000 in
set_option maxHeartbeats 4000000 in
theorem l_X12_sentence_48 {p : Program} {l : Launch} {e : Env} {s : State} {m : MethodId} {args : Array Value} {below : List Frame} {meth : Method} {c : Code} {D : va_G} {q : Nat → ClassId} {A : Nat → Prop} {o0 : Nat} {a0 : Nat → Nat} {r : Int32} {T0 : St} (C : cx p s m args meth c cX12_sentence 3 (some .int) RX12 D q A) {x1 : Int32} {S0 : St} (hF : L_X12_sentence_48 x1 S0 = some (r, T0)) : ∀ (H : Heap) (locs : List Loc) (ls : Array Slot), va_P D vwCl (fl [g12 q o0 a0 S0]) H → va_D A (fl [g12 q o0 a0 S0]) → va_S A s.heap H locs → lv_has ls 3 [(0, .ref o0), (1, .int x1)] → W p l e rm_X12_sentence s m args below meth c H locs 0 0 (MQ below (QI D A r (fl [g12 q o0 a0 T0])) args s 0 0 A) (F0 m 48 ls []) :=
  lp_G _ _ (fun z => ∀ (H : Heap) (locs : List Loc) (ls : Array Slot), va_P D vwCl (fl [g12 q o0 a0 z.2]) H → va_D A (fl [g12 q o0 a0 z.2]) → va_S A s.heap H locs → lv_has ls 3 [(0, .ref o0), (1, .int z.1)] → W p l e rm_X12_sentence s m args below meth c H locs 0 0 (MQ below (QI D A r (fl [g12 q o0 a0 T0])) args s 0 0 A) (F0 m 48 ls [])) (fun kz hkz z hz H locs ls hP hD hS hl => b_X12_sentence_48 C (fun x1 S0 hz => hkz (x1, S0) hz) hz hP hD hS hl) FU (x1, S0) hF
set_option maxRecDepth 100000 in
set_option maxHeartbeats 4000000 in
theorem c_X12_sentence (l : Launch) (D : va_G) (q : Nat → ClassId) (o0 : Nat) (a0 : Nat → Nat) (S0 : St) (sz : Nat) {r : Int32} {T0 : St} (hF : F_X12_sentence S0 = some (r, T0)) : Met l yX12_sentence (Cond.code yX12_sentence cX12_sentence 3 (some .int) :: TB) rm_X12_sentence (PC D q [.ref o0] (fl [g12 q o0 a0 S0]) sz) ((fun A => QI D A r (fl [g12 q o0 a0 T0])) (va_A (fl [g12 q o0 a0 S0]) sz)) 0 0 (va_A (fl [g12 q o0 a0 S0]) sz) := by
  refine k_met (w0 := fl [g12 q o0 a0 S0]) (Q := fun A => QI D A r (fl [g12 q o0 a0 T0])) (by decide +kernel) (Nat.le_of_ble_eq_true rfl) ?_
  intro p e s m args below meth c A ls C hP hD hS hl
  have hl : lv_has ls 3 [(0, .ref o0)] := hl
  unfold F_X12_sentence at hF
  have C : cx p s m args meth c cX12_sentence 3 (some .int) RX12 D q A := C
  obtain ⟨hx, hb, hr, hml, hown, hts, hlk, hA, hK, hN, hV⟩ := id C
  refine lv_aload_n hx hb dX12_sentence_0 rfl (lv_at hl 0 rfl) ?_
  refine lv_iconst (v := (0 : Int32)) hx hb dX12_sentence_1 (by decide) ?_
  obtain ⟨U1, e2, hF⟩ := nw_s hF
  refine k_put (W8 := fl [g12 q o0 a0 U1]) C fp_X12_1 hP hD hS 0 rfl rfl rfl (Nat.le_of_ble_eq_true rfl) dX12_sentence_2 (by rw [e2]; rfl) (fun H locs hP hD hS => ?_)
  refine lv_aload_n hx hb dX12_sentence_5 rfl (lv_at hl 0 rfl) ?_
  refine lv_sipush (v := (200 : Int32)) hx hb dX12_sentence_6 (by decide) ?_
  obtain ⟨U4, hc3, hF⟩ := ob1_s hF
  refine k_vall C (k_rV (As := [.int (200 : Int32)]) (rest := []) C (c_X12_taken l D q o0 a0 U1 _ (200 : Int32) hc3) kc_X12_taken ml_X12_278 rfl rfl (by decide) hP hD hS (va_recv hK hP (ci := 12) (q0 := 0) rfl rfl) rfl hl.1 rfl (Nat.le_of_ble_eq_true rfl) dX12_sentence_9 (by decide)) hP hD hS (by simp only [List.map_cons, List.map_nil, gad12]) (fun H locs hP hD hS => ?_)
  refine lv_aload_n hx hb dX12_sentence_12 rfl (lv_at hl 0 rfl) ?_
  refine lv_iconst (v := (0 : Int32)) hx hb dX12_sentence_13 (by decide) ?_
  obtain ⟨U5, e6, hF⟩ := nw_s hF
  refine k_put (W8 := fl [g12 q o0 a0 U5]) C fp_X12_210 hP hD hS 0 rfl rfl rfl (Nat.le_of_ble_eq_true rfl) dX12_sentence_14 (by rw [e6]; rfl) (fun H locs hP hD hS => ?_)
  refine lv_aload_n hx hb dX12_sentence_17 rfl (lv_at hl 0 rfl) ?_
  refine lv_iconst (v := (0 : Int32)) hx hb dX12_sentence_18 (by decide) ?_
  obtain ⟨U7, e8, hF⟩ := nw_s hF
  refine k_put (W8 := fl [g12 q o0 a0 U7]) C fp_X12_460 hP hD hS 0 rfl rfl rfl (Nat.le_of_ble_eq_true rfl) dX12_sentence_19 (by rw [e8]; rfl) (fun H locs hP hD hS => ?_)
  refine lv_aload_n hx hb dX12_sentence_22 rfl (lv_at hl 0 rfl) ?_
  refine lv_iconst (v := (0 : Int32)) hx hb dX12_sentence_23 (by decide) ?_
  obtain ⟨U9, e10, hF⟩ := nw_s hF
  refine k_put (W8 := fl [g12 q o0 a0 U9]) C fp_X12_475 hP hD hS 0 rfl rfl rfl (Nat.le_of_ble_eq_true rfl) dX12_sentence_24 (by rw [e10]; rfl) (fun H locs hP hD hS => ?_)
  refine lv_aload_n hx hb dX12_sentence_27 rfl (lv_at hl 0 rfl) ?_
  refine lv_iconst (v := (0 : Int32)) hx hb dX12_sentence_28 (by decide) ?_
  obtain ⟨U11, e12, hF⟩ := nw_s hF
  refine k_put (W8 := fl [g12 q o0 a0 U11]) C fp_X12_463 hP hD hS 0 rfl rfl rfl (Nat.le_of_ble_eq_true rfl) dX12_sentence_29 (by rw [e12]; rfl) (fun H locs hP hD hS => ?_)
  refine lv_aload_n hx hb dX12_sentence_32 rfl (lv_at hl 0 rfl) ?_
  refine lv_iconst (v := (1 : Int32)) hx hb dX12_sentence_33 (by decide) ?_
  obtain ⟨U13, e14, hF⟩ := nw_s hF
  refine k_put (W8 := fl [g12 q o0 a0 U13]) C fp_X12_469 hP hD hS 0 rfl rfl rfl (Nat.le_of_ble_eq_true rfl) dX12_sentence_34 (by rw [e14]; rfl) (fun H locs hP hD hS => ?_)
  refine lv_aload_n hx hb dX12_sentence_37 rfl (lv_at hl 0 rfl) ?_
  refine lv_iconst (v := (0 : Int32)) hx hb dX12_sentence_38 (by decide) ?_
  obtain ⟨U15, e16, hF⟩ := nw_s hF
  refine k_put (W8 := fl [g12 q o0 a0 U15]) C fp_X12_478 hP hD hS 0 rfl rfl rfl (Nat.le_of_ble_eq_true rfl) dX12_sentence_39 (by rw [e16]; rfl) (fun H locs hP hD hS => ?_)
  refine lv_aload_n hx hb dX12_sentence_42 rfl (lv_at hl 0 rfl) ?_
  obtain ⟨U18, hc17, hF⟩ := ob1_s hF
  refine k_vall C (k_rV (As := []) (rest := []) C (c_X12_next l D q o0 a0 U15 _ hc17) kc_X12_next ml_X12_222 rfl rfl (by decide) hP hD hS (va_recv hK hP (ci := 12) (q0 := 0) rfl rfl) rfl hl.1 rfl (Nat.le_of_ble_eq_true rfl) dX12_sentence_43 (by decide)) hP hD hS (by simp only [List.map_cons, List.map_nil, gad12]) (fun H locs hP hD hS => ?_)
  refine lv_iconst (v := (1 : Int32)) hx hb dX12_sentence_46 (by decide) ?_
  refine lv_istore_n (lv' := [(1, .int (1 : Int32)), (0, .ref o0)]) hx hb dX12_sentence_47 rfl hl (by decide) rfl (fun ls hl => ?_)
  exact l_X12_sentence_48 C hF _ _ _ hP hD hS (lv_sub hl [1, 0] rfl)

abbrev rm_X12_isLeaf : Room := ({ frames := 1, cells := 0, slots := 0, locals := 22 } : Room)
def F_X12_isLeaf_169 (x3 : Int32) (x4 : Int32) (s0 : Int32) (S0 : St) : Option (Int32) := if x3 = (60 : Int32) then (if x4 ≤ s0 then (some ((0 : Int32))) else (some ((1 : Int32)))) else (if x3 = (61 : Int32) then (if s0 = x4 then (some ((1 : Int32))) else (some ((0 : Int32)))) else (if s0 ≤ x4 then (some ((0 : Int32))) else (some ((1 : Int32)))))
def F_X12_isLeaf (S0 : St) (x1 : Int32) (x2 : Int32) (x3 : Int32) (x4 : Int32) : Option (Int32) := if x2 = (0 : Int32) then (ob1 (F_X12_isUp S0 x1) fun r3 => if nb r3 then none else some (r3)) else if x2 = (1 : Int32) then (if oob ((59 : Int32) + x1) 258 then none else if (S0.2.2.1 6 ((59 : Int32) + x1).toNatClampNeg) = 0 then (some ((1 : Int32))) else (some ((0 : Int32)))) else if x2 = (2 : Int32) then (if oob ((59 : Int32) + x1) 258 then none else ob1 (F_X12_isPleased S0 x1 (S0.2.2.1 6 ((59 : Int32) + x1).toNatClampNeg)) fun r11 => if nb r11 then none else some (r11)) else if x2 = (3 : Int32) then (if oob ((59 : Int32) + x1) 258 then none else ob1 (F_X12_bitOf (S0.2.2.1 6 ((59 : Int32) + x1).toNatClampNeg) x4) fun r16 => if nb r16 then none else some (r16)) else if x2 = (4 : Int32) then (if oob ((65 : Int32) + x1) 258 then none else if (S0.2.2.1 6 ((65 : Int32) + x1).toNatClampNeg) = (x4 + (1 : Int32)) then (some ((1 : Int32))) else (some ((0 : Int32)))) else if x2 = (5 : Int32) then (if oob ((59 : Int32) + x1) 258 then none else ob1 (F_X12_bits (S0.2.2.1 6 ((59 : Int32) + x1).toNatClampNeg)) fun r28 => F_X12_isLeaf_169 x3 x4 r28 S0) else (if x2 = (6 : Int32) then (if oob ((24 : Int32) + x1) 258 then none else F_X12_isLeaf_169 x3 x4 (S0.2.2.1 6 ((24 : Int32) + x1).toNatClampNeg) S0) else (if x2 = (7 : Int32) then (if oob ((71 : Int32) + x1) 258 then none else F_X12_isLeaf_169 x3 x4 (S0.2.2.1 6 ((71 : Int32) + x1).toNatClampNeg) S0) else (F_X12_isLeaf_169 x3 x4 x1 S0)))
set_option maxRecDepth 100000 in
set_option maxHeartbeats 4000000 in
theorem b_X12_isLeaf_169 {p : Program} {l : Launch} {e : Env} {s : State} {m : MethodId} {args : Array Value} {below : List Frame} {meth : Method} {c : Code} {D : va_G} {q : Nat → ClassId} {A : Nat → Prop} {o0 : Nat} {a0 : Nat → Nat} {r : Int32} (C : cx p s m args meth c cX12_isLeaf 6 (some .boolean) RX12 D q A) {x3 : Int32} {x4 : Int32} {s0 : Int32} {S0 : St} (hF : F_X12_isLeaf_169 x3 x4 s0 S0 = some (r)) {H : Heap} {locs : List Loc} (hP : va_P D vwCl (fl [g12 q o0 a0 S0]) H) (hD : va_D A (fl [g12 q o0 a0 S0])) (hS : va_S A s.heap H locs) {ls : Array Slot} (hl : lv_has ls 6 [(3, .int x3), (4, .int x4)]) : W p l e rm_X12_isLeaf s m args below meth c H locs 0 0 (MQ below (QI D A r (fl [g12 q o0 a0 S0])) args s 0 0 A) (F0 m 169 ls [.int s0]) := by
  unfold F_X12_isLeaf_169 at hF
  obtain ⟨hx, hb, hr, hml, hown, hts, hlk, hA, hK, hN, hV⟩ := id C
  refine lv_istore (lv' := [(5, .int s0), (3, .int x3), (4, .int x4)]) hx hb dX12_isLeaf_169 hl (by decide) rfl (fun ls hl => ?_)
  refine lv_iload_n hx hb dX12_isLeaf_171 rfl (lv_at hl 1 rfl) ?_
  refine lv_bipush (v := (60 : Int32)) hx hb dX12_isLeaf_172 (by decide) ?_
  refine lv_icmp_ne (tgt := 192) hx hb dX12_isLeaf_174 (by decide) (fun c1 => ?_) (fun c1 => ?_)
  · have hF := op_f hF c1
    refine lv_iload_n hx hb dX12_isLeaf_192 rfl (lv_at hl 1 rfl) ?_
    refine lv_bipush (v := (61 : Int32)) hx hb dX12_isLeaf_193 (by decide) ?_
    refine lv_icmp_ne (tgt := 213) hx hb dX12_isLeaf_195 (by decide) (fun c2 => ?_) (fun c2 => ?_)
    · have hF := op_f hF c2
      refine lv_iload hx hb dX12_isLeaf_213 (lv_at hl 0 rfl) ?_
      refine lv_iload hx hb dX12_isLeaf_215 (lv_at hl 2 rfl) ?_
      refine lv_icmp_le (tgt := 224) hx hb dX12_isLeaf_217 (by decide) (fun c3 => ?_) (fun c3 => ?_)
      · have hF := op_t hF c3
        refine lv_iconst (v := (0 : Int32)) hx hb dX12_isLeaf_224 (by decide) ?_
        cases hF
        exact k_zret C (by decide) hP hS dX12_isLeaf_225
      · have hF := op_f hF c3
        refine lv_iconst (v := (1 : Int32)) hx hb dX12_isLeaf_220 (by decide) ?_
        refine lv_goto (tgt := 225) hx hb dX12_isLeaf_221 (by decide) ?_
        cases hF
        exact k_zret C (by decide) hP hS dX12_isLeaf_225
    · have hF := op_t hF c2
      refine lv_iload hx hb dX12_isLeaf_198 (lv_at hl 0 rfl) ?_
      refine lv_iload hx hb dX12_isLeaf_200 (lv_at hl 2 rfl) ?_
      refine lv_icmp_ne (tgt := 209) hx hb dX12_isLeaf_202 (by decide) (fun c4 => ?_) (fun c4 => ?_)
      · have hF := op_f hF c4
        refine lv_iconst (v := (0 : Int32)) hx hb dX12_isLeaf_209 (by decide) ?_
        refine lv_goto (tgt := 225) hx hb dX12_isLeaf_210 (by decide) ?_
        cases hF
        exact k_zret C (by decide) hP hS dX12_isLeaf_225
      · have hF := op_t hF c4
        refine lv_iconst (v := (1 : Int32)) hx hb dX12_isLeaf_205 (by decide) ?_
        refine lv_goto (tgt := 225) hx hb dX12_isLeaf_206 (by decide) ?_
        cases hF
        exact k_zret C (by decide) hP hS dX12_isLeaf_225
  · have hF := op_t hF c1
    refine lv_iload hx hb dX12_isLeaf_177 (lv_at hl 0 rfl) ?_
    refine lv_iload hx hb dX12_isLeaf_179 (lv_at hl 2 rfl) ?_
    refine lv_icmp_ge (tgt := 188) hx hb dX12_isLeaf_181 (by decide) (fun c5 => ?_) (fun c5 => ?_)
    · have hF := op_t hF c5
      refine lv_iconst (v := (0 : Int32)) hx hb dX12_isLeaf_188 (by decide) ?_
      refine lv_goto (tgt := 225) hx hb dX12_isLeaf_189 (by decide) ?_
      cases hF
      exact k_zret C (by decide) hP hS dX12_isLeaf_225
    · have hF := op_f hF c5
      refine lv_iconst (v := (1 : Int32)) hx hb dX12_isLeaf_184 (by decide) ?_
      refine lv_goto (tgt := 225) hx hb dX12_isLeaf_185 (by decide) ?_
      cases hF
      exact k_zret C (by decide) hP hS dX12_isLeaf_225
set_option maxRecDepth 100000 in
set_option maxHeartbeats 4000000 in
theorem c_X12_isLeaf (l : Launch) (D : va_G) (q : Nat → ClassId) (o0 : Nat) (a0 : Nat → Nat) (S0 : St) (sz : Nat) (x1 : Int32) (x2 : Int32) (x3 : Int32) (x4 : Int32) {r : Int32} (hF : F_X12_isLeaf S0 x1 x2 x3 x4 = some (r)) : Met l yX12_isLeaf (Cond.code yX12_isLeaf cX12_isLeaf 6 (some .boolean) :: TB) rm_X12_isLeaf (PC D q [.ref o0, .int x1, .int x2, .int x3, .int x4] (fl [g12 q o0 a0 S0]) sz) ((fun A => QI D A r (fl [g12 q o0 a0 S0])) (va_A (fl [g12 q o0 a0 S0]) sz)) 0 0 (va_A (fl [g12 q o0 a0 S0]) sz) := by
  refine k_met (w0 := fl [g12 q o0 a0 S0]) (Q := fun A => QI D A r (fl [g12 q o0 a0 S0])) (by decide +kernel) (Nat.le_of_ble_eq_true rfl) ?_
  intro p e s m args below meth c A ls C hP hD hS hl
  have hl : lv_has ls 6 [(0, .ref o0), (1, .int x1), (2, .int x2), (3, .int x3), (4, .int x4)] := hl
  unfold F_X12_isLeaf at hF
  have C : cx p s m args meth c cX12_isLeaf 6 (some .boolean) RX12 D q A := C
  obtain ⟨hx, hb, hr, hml, hown, hts, hlk, hA, hK, hN, hV⟩ := id C
  refine lv_iload_n hx hb dX12_isLeaf_0 rfl (lv_at hl 2 rfl) ?_
  by_cases c1 : x2 = (0 : Int32)
  · have hF := op_t hF c1
    refine lv_tableIn (tgt := 36) hx hb dX12_isLeaf_1 (by rw [c1]; decide) (by rw [c1]; decide) (by rw [c1]; rfl) (by decide) ?_
    refine lv_aload_n hx hb dX12_isLeaf_36 rfl (lv_at hl 0 rfl) ?_
    refine lv_iload_n hx hb dX12_isLeaf_37 rfl (lv_at hl 1 rfl) ?_
    obtain ⟨r3, hc2, hF⟩ := ob1_s hF
    refine k_isame C (k_rV (As := [.int x1]) (rest := []) C (c_X12_isUp l D q o0 a0 S0 _ x1 hc2) kc_X12_isUp ml_X12_337 rfl rfl (by decide) hP hD hS (va_recv hK hP (ci := 12) (q0 := 0) rfl rfl) rfl hl.1 rfl (Nat.le_of_ble_eq_true rfl) dX12_isLeaf_38 (by decide)) hP hD hS (fun H locs hP hD hS => ?_)
    obtain ⟨h4, hF⟩ := op_ck hF
    cases hF
    exact k_zret C h4 hP hS dX12_isLeaf_41
  have hF := op_f hF c1
  by_cases c5 : x2 = (1 : Int32)
  · have hF := op_t hF c5
    refine lv_tableIn (tgt := 42) hx hb dX12_isLeaf_1 (by rw [c5]; decide) (by rw [c5]; decide) (by rw [c5]; rfl) (by decide) ?_
    refine lv_aload_n hx hb dX12_isLeaf_42 rfl (lv_at hl 0 rfl) ?_
    refine k_get (v := .ref (a0 7)) C fg_X12_33 hP 0 rfl rfl dX12_isLeaf_43 ?_
    refine lv_bipush (v := (59 : Int32)) hx hb dX12_isLeaf_46 (by decide) ?_
    refine lv_iload_n hx hb dX12_isLeaf_48 rfl (lv_at hl 1 rfl) ?_
    refine lv_iadd hx hb dX12_isLeaf_49 ?_
    obtain ⟨h6, hF⟩ := op_ck hF
    refine k_ild (f := S0.2.2.1 6) C hP 2 rfl h6 dX12_isLeaf_50 ?_
    refine lv_if_ne (tgt := 58) hx hb dX12_isLeaf_51 (by decide) (fun c7 => ?_) (fun c7 => ?_)
    · have hF := op_f hF c7
      refine lv_iconst (v := (0 : Int32)) hx hb dX12_isLeaf_58 (by decide) ?_
      cases hF
      exact k_zret C (by decide) hP hS dX12_isLeaf_59
    · have hF := op_t hF c7
      refine lv_iconst (v := (1 : Int32)) hx hb dX12_isLeaf_54 (by decide) ?_
      refine lv_goto (tgt := 59) hx hb dX12_isLeaf_55 (by decide) ?_
      cases hF
      exact k_zret C (by decide) hP hS dX12_isLeaf_59
  have hF := op_f hF c5
  by_cases c8 : x2 = (2 : Int32)
  · have hF := op_t hF c8
    refine lv_tableIn (tgt := 60) hx hb dX12_isLeaf_1 (by rw [c8]; decide) (by rw [c8]; decide) (by rw [c8]; rfl) (by decide) ?_
    refine lv_aload_n hx hb dX12_isLeaf_60 rfl (lv_at hl 0 rfl) ?_
    refine lv_iload_n hx hb dX12_isLeaf_61 rfl (lv_at hl 1 rfl) ?_
    refine lv_aload_n hx hb dX12_isLeaf_62 rfl (lv_at hl 0 rfl) ?_
    refine k_get (v := .ref (a0 7)) C fg_X12_33 hP 0 rfl rfl dX12_isLeaf_63 ?_
    refine lv_bipush (v := (59 : Int32)) hx hb dX12_isLeaf_66 (by decide) ?_
    refine lv_iload_n hx hb dX12_isLeaf_68 rfl (lv_at hl 1 rfl) ?_
    refine lv_iadd hx hb dX12_isLeaf_69 ?_
    obtain ⟨h9, hF⟩ := op_ck hF
    refine k_ild (f := S0.2.2.1 6) C hP 2 rfl h9 dX12_isLeaf_70 ?_
    obtain ⟨r11, hc10, hF⟩ := ob1_s hF
    refine k_isame C (k_rV (As := [.int x1, .int (S0.2.2.1 6 ((59 : Int32) + x1).toNatClampNeg)]) (rest := []) C (c_X12_isPleased l D q o0 a0 S0 _ x1 (S0.2.2.1 6 ((59 : Int32) + x1).toNatClampNeg) hc10) kc_X12_isPleased ml_X12_315 rfl rfl (by decide) hP hD hS (va_recv hK hP (ci := 12) (q0 := 0) rfl rfl) rfl hl.1 rfl (Nat.le_of_ble_eq_true rfl) dX12_isLeaf_71 (by decide)) hP hD hS (fun H locs hP hD hS => ?_)
    obtain ⟨h12, hF⟩ := op_ck hF
    cases hF
    exact k_zret C h12 hP hS dX12_isLeaf_74
  have hF := op_f hF c8
  by_cases c13 : x2 = (3 : Int32)
  · have hF := op_t hF c13
    refine lv_tableIn (tgt := 75) hx hb dX12_isLeaf_1 (by rw [c13]; decide) (by rw [c13]; decide) (by rw [c13]; rfl) (by decide) ?_
    refine lv_aload_n hx hb dX12_isLeaf_75 rfl (lv_at hl 0 rfl) ?_
    refine k_get (v := .ref (a0 7)) C fg_X12_33 hP 0 rfl rfl dX12_isLeaf_76 ?_
    refine lv_bipush (v := (59 : Int32)) hx hb dX12_isLeaf_79 (by decide) ?_
    refine lv_iload_n hx hb dX12_isLeaf_81 rfl (lv_at hl 1 rfl) ?_
    refine lv_iadd hx hb dX12_isLeaf_82 ?_
    obtain ⟨h14, hF⟩ := op_ck hF
    refine k_ild (f := S0.2.2.1 6) C hP 2 rfl h14 dX12_isLeaf_83 ?_
    refine lv_iload hx hb dX12_isLeaf_84 (lv_at hl 4 rfl) ?_
    obtain ⟨r16, hc15, hF⟩ := ob1_s hF
    refine k_inil C (k_rS (As := [.int (S0.2.2.1 6 ((59 : Int32) + x1).toNatClampNeg), .int x4]) (rest := []) C (c_X12_bitOf l D q _ (S0.2.2.1 6 ((59 : Int32) + x1).toNatClampNeg) x4 hc15) kc_X12_bitOf ml_X12_275 rfl rfl (by decide) (fun k x h => by simp at h) (⟨fun i j x y h => by simp at h, fun k x h => by simp at h⟩ : va_D A []) hS rfl hl.1 rfl (Nat.le_of_ble_eq_true rfl) dX12_isLeaf_86 (by decide)) hP hD hS (fun H locs hP hD hS => ?_)
    obtain ⟨h17, hF⟩ := op_ck hF
    cases hF
    exact k_zret C h17 hP hS dX12_isLeaf_89
  have hF := op_f hF c13
  by_cases c18 : x2 = (4 : Int32)
  · have hF := op_t hF c18
    refine lv_tableIn (tgt := 90) hx hb dX12_isLeaf_1 (by rw [c18]; decide) (by rw [c18]; decide) (by rw [c18]; rfl) (by decide) ?_
    refine lv_aload_n hx hb dX12_isLeaf_90 rfl (lv_at hl 0 rfl) ?_
    refine k_get (v := .ref (a0 7)) C fg_X12_33 hP 0 rfl rfl dX12_isLeaf_91 ?_
    refine lv_bipush (v := (65 : Int32)) hx hb dX12_isLeaf_94 (by decide) ?_
    refine lv_iload_n hx hb dX12_isLeaf_96 rfl (lv_at hl 1 rfl) ?_
    refine lv_iadd hx hb dX12_isLeaf_97 ?_
    obtain ⟨h19, hF⟩ := op_ck hF
    refine k_ild (f := S0.2.2.1 6) C hP 2 rfl h19 dX12_isLeaf_98 ?_
    refine lv_iload hx hb dX12_isLeaf_99 (lv_at hl 4 rfl) ?_
    refine lv_iconst (v := (1 : Int32)) hx hb dX12_isLeaf_101 (by decide) ?_
    refine lv_iadd hx hb dX12_isLeaf_102 ?_
    refine lv_icmp_ne (tgt := 110) hx hb dX12_isLeaf_103 (by decide) (fun c20 => ?_) (fun c20 => ?_)
    · have hF := op_f hF c20
      refine lv_iconst (v := (0 : Int32)) hx hb dX12_isLeaf_110 (by decide) ?_
      cases hF
      exact k_zret C (by decide) hP hS dX12_isLeaf_111
    · have hF := op_t hF c20
      refine lv_iconst (v := (1 : Int32)) hx hb dX12_isLeaf_106 (by decide) ?_
      refine lv_goto (tgt := 111) hx hb dX12_isLeaf_107 (by decide) ?_
      cases hF
      exact k_zret C (by decide) hP hS dX12_isLeaf_111
  have hF := op_f hF c18
  have nc1 := lv_neT (a := 0) c1 (by decide)
  have nc5 := lv_neT (a := 1) c5 (by decide)
  have nc8 := lv_neT (a := 2) c8 (by decide)
  have nc13 := lv_neT (a := 3) c13 (by decide)
  have nc18 := lv_neT (a := 4) c18 (by decide)
  refine lv_tableOut (tgt := 112) hx hb dX12_isLeaf_1 (by omega) (by decide) ?_
  refine lv_iload_n hx hb dX12_isLeaf_112 rfl (lv_at hl 2 rfl) ?_
  refine lv_iconst (v := (5 : Int32)) hx hb dX12_isLeaf_113 (by decide) ?_
  refine lv_icmp_ne (tgt := 132) hx hb dX12_isLeaf_114 (by decide) (fun c21 => ?_) (fun c21 => ?_)
  · have hF := op_f hF c21
    refine lv_iload_n hx hb dX12_isLeaf_132 rfl (lv_at hl 2 rfl) ?_
    refine lv_bipush (v := (6 : Int32)) hx hb dX12_isLeaf_133 (by decide) ?_
    refine lv_icmp_ne (tgt := 150) hx hb dX12_isLeaf_135 (by decide) (fun c22 => ?_) (fun c22 => ?_)
    · have hF := op_f hF c22
      refine lv_iload_n hx hb dX12_isLeaf_150 rfl (lv_at hl 2 rfl) ?_
      refine lv_bipush (v := (7 : Int32)) hx hb dX12_isLeaf_151 (by decide) ?_
      refine lv_icmp_ne (tgt := 168) hx hb dX12_isLeaf_153 (by decide) (fun c23 => ?_) (fun c23 => ?_)
      · have hF := op_f hF c23
        refine lv_iload_n hx hb dX12_isLeaf_168 rfl (lv_at hl 1 rfl) ?_
        exact b_X12_isLeaf_169 C hF hP hD hS (lv_sub hl [3, 4] rfl)
      · have hF := op_t hF c23
        refine lv_aload_n hx hb dX12_isLeaf_156 rfl (lv_at hl 0 rfl) ?_
        refine k_get (v := .ref (a0 7)) C fg_X12_33 hP 0 rfl rfl dX12_isLeaf_157 ?_
        refine lv_bipush (v := (71 : Int32)) hx hb dX12_isLeaf_160 (by decide) ?_
        refine lv_iload_n hx hb dX12_isLeaf_162 rfl (lv_at hl 1 rfl) ?_
        refine lv_iadd hx hb dX12_isLeaf_163 ?_
        obtain ⟨h24, hF⟩ := op_ck hF
        refine k_ild (f := S0.2.2.1 6) C hP 2 rfl h24 dX12_isLeaf_164 ?_
        refine lv_goto (tgt := 169) hx hb dX12_isLeaf_165 (by decide) ?_
        exact b_X12_isLeaf_169 C hF hP hD hS (lv_sub hl [3, 4] rfl)
    · have hF := op_t hF c22
      refine lv_aload_n hx hb dX12_isLeaf_138 rfl (lv_at hl 0 rfl) ?_
      refine k_get (v := .ref (a0 7)) C fg_X12_33 hP 0 rfl rfl dX12_isLeaf_139 ?_
      refine lv_bipush (v := (24 : Int32)) hx hb dX12_isLeaf_142 (by decide) ?_
      refine lv_iload_n hx hb dX12_isLeaf_144 rfl (lv_at hl 1 rfl) ?_
      refine lv_iadd hx hb dX12_isLeaf_145 ?_
      obtain ⟨h25, hF⟩ := op_ck hF
      refine k_ild (f := S0.2.2.1 6) C hP 2 rfl h25 dX12_isLeaf_146 ?_
      refine lv_goto (tgt := 169) hx hb dX12_isLeaf_147 (by decide) ?_
      exact b_X12_isLeaf_169 C hF hP hD hS (lv_sub hl [3, 4] rfl)
  · have hF := op_t hF c21
    refine lv_aload_n hx hb dX12_isLeaf_117 rfl (lv_at hl 0 rfl) ?_
    refine k_get (v := .ref (a0 7)) C fg_X12_33 hP 0 rfl rfl dX12_isLeaf_118 ?_
    refine lv_bipush (v := (59 : Int32)) hx hb dX12_isLeaf_121 (by decide) ?_
    refine lv_iload_n hx hb dX12_isLeaf_123 rfl (lv_at hl 1 rfl) ?_
    refine lv_iadd hx hb dX12_isLeaf_124 ?_
    obtain ⟨h26, hF⟩ := op_ck hF
    refine k_ild (f := S0.2.2.1 6) C hP 2 rfl h26 dX12_isLeaf_125 ?_
    obtain ⟨r28, hc27, hF⟩ := ob1_s hF
    refine k_inil C (k_rS (As := [.int (S0.2.2.1 6 ((59 : Int32) + x1).toNatClampNeg)]) (rest := []) C (c_X12_bits l D q _ (S0.2.2.1 6 ((59 : Int32) + x1).toNatClampNeg) hc27) kc_X12_bits ml_X12_340 rfl rfl (by decide) (fun k x h => by simp at h) (⟨fun i j x y h => by simp at h, fun k x h => by simp at h⟩ : va_D A []) hS rfl hl.1 rfl (Nat.le_of_ble_eq_true rfl) dX12_isLeaf_126 (by decide)) hP hD hS (fun H locs hP hD hS => ?_)
    refine lv_goto (tgt := 169) hx hb dX12_isLeaf_129 (by decide) ?_
    exact b_X12_isLeaf_169 C hF hP hD hS (lv_sub hl [3, 4] rfl)

abbrev rm_X12_isSaid : Room := ({ frames := 2, cells := 0, slots := 0, locals := 47 } : Room)
def F_X12_isSaid_204 (k4 : Int32 × Int32 × Int32 × St → Option (Int32 × St)) (x1 : Int32) (x2 : Int32) (x3 : Int32) (S0 : St) : Option (Int32 × St) := k4 (x1, x2, (x3 + 1), S0)
def F_X12_isSaid_161 (k4 : Int32 × Int32 × Int32 × St → Option (Int32 × St)) (x1 : Int32) (x2 : Int32) (x3 : Int32) (s1 : Int32) (s2 : Int32) (S0 : St) : Option (Int32 × St) := if oob s1 45 then none else nw (sA S0 47 s1 (vp_nar .boolean s2)) fun U2 => F_X12_isSaid_204 k4 x1 x2 x3 U2
def F_X12_isSaid_156 (k4 : Int32 × Int32 × Int32 × St → Option (Int32 × St)) (x1 : Int32) (x2 : Int32) (x3 : Int32) (s1 : Int32) (S0 : St) : Option (Int32 × St) := F_X12_isSaid_161 k4 x1 x2 x3 s1 (1 : Int32) S0
def F_X12_isSaid_132 (k4 : Int32 × Int32 × Int32 × St → Option (Int32 × St)) (x1 : Int32) (x2 : Int32) (x3 : Int32) (s1 : Int32) (S0 : St) : Option (Int32 × St) := F_X12_isSaid_161 k4 x1 x2 x3 s1 (0 : Int32) S0
def F_X12_isSaid_86 (k4 : Int32 × Int32 × Int32 × St → Option (Int32 × St)) (x1 : Int32) (x2 : Int32) (x3 : Int32) (x4 : Int32) (S0 : St) : Option (Int32 × St) := if oob x4 258 then none else if (S0.2.2.1 6 x4.toNatClampNeg) = (21 : Int32) then (if oob ((x2 + (-1)) - (1 : Int32)) 45 then none else if (S0.2.2.1 47 ((x2 + (-1)) - (1 : Int32)).toNatClampNeg) = 0 then (F_X12_isSaid_132 k4 x1 (x2 + (-1)) x3 ((x2 + (-1)) - (1 : Int32)) S0) else (if oob (x2 + (-1)) 45 then none else if (S0.2.2.1 47 (x2 + (-1)).toNatClampNeg) = 0 then (F_X12_isSaid_132 k4 x1 (x2 + (-1)) x3 ((x2 + (-1)) - (1 : Int32)) S0) else (F_X12_isSaid_161 k4 x1 (x2 + (-1)) x3 ((x2 + (-1)) - (1 : Int32)) (1 : Int32) S0))) else (if oob ((x2 + (-1)) - (1 : Int32)) 45 then none else if (S0.2.2.1 47 ((x2 + (-1)) - (1 : Int32)).toNatClampNeg) = 0 then (if oob (x2 + (-1)) 45 then none else if (S0.2.2.1 47 (x2 + (-1)).toNatClampNeg) = 0 then (F_X12_isSaid_161 k4 x1 (x2 + (-1)) x3 ((x2 + (-1)) - (1 : Int32)) (0 : Int32) S0) else (F_X12_isSaid_156 k4 x1 (x2 + (-1)) x3 ((x2 + (-1)) - (1 : Int32)) S0)) else (F_X12_isSaid_156 k4 x1 (x2 + (-1)) x3 ((x2 + (-1)) - (1 : Int32)) S0))
def F_X12_isSaid_58 (k4 : Int32 × Int32 × Int32 × St → Option (Int32 × St)) (x1 : Int32) (x2 : Int32) (x3 : Int32) (s1 : Int32) (s2 : Int32) (S0 : St) : Option (Int32 × St) := if oob s1 45 then none else nw (sA S0 47 s1 (vp_nar .boolean s2)) fun U2 => F_X12_isSaid_204 k4 x1 x2 x3 U2
def F_X12_isSaid_4 (k4 : Int32 × Int32 × Int32 × St → Option (Int32 × St)) (x1 : Int32) (x2 : Int32) (x3 : Int32) (S0 : St) : Option (Int32 × St) := if oob (77 : Int32) 258 then none else if (S0.2.2.1 6 (77 : Int32).toNatClampNeg) ≤ x3 then (if oob (0 : Int32) 45 then none else if nb (S0.2.2.1 47 (0 : Int32).toNatClampNeg) then none else some ((S0.2.2.1 47 (0 : Int32).toNatClampNeg), S0)) else (if oob ((78 : Int32) + ((3 : Int32) * x3)) 258 then none else if (S0.2.2.1 6 ((78 : Int32) + ((3 : Int32) * x3)).toNatClampNeg) = (20 : Int32) then (if oob (x2 - (1 : Int32)) 45 then none else if (S0.2.2.1 47 (x2 - (1 : Int32)).toNatClampNeg) = 0 then (F_X12_isSaid_58 k4 x1 x2 x3 (x2 - (1 : Int32)) (1 : Int32) S0) else (F_X12_isSaid_58 k4 x1 x2 x3 (x2 - (1 : Int32)) (0 : Int32) S0)) else (if oob ((78 : Int32) + ((3 : Int32) * x3)) 258 then none else if (S0.2.2.1 6 ((78 : Int32) + ((3 : Int32) * x3)).toNatClampNeg) = (21 : Int32) then (F_X12_isSaid_86 k4 x1 x2 x3 ((78 : Int32) + ((3 : Int32) * x3)) S0) else (if oob ((78 : Int32) + ((3 : Int32) * x3)) 258 then none else if (S0.2.2.1 6 ((78 : Int32) + ((3 : Int32) * x3)).toNatClampNeg) = (22 : Int32) then (F_X12_isSaid_86 k4 x1 x2 x3 ((78 : Int32) + ((3 : Int32) * x3)) S0) else (if oob ((78 : Int32) + ((3 : Int32) * x3)) 258 then none else if oob (((78 : Int32) + ((3 : Int32) * x3)) + (1 : Int32)) 258 then none else if oob (((78 : Int32) + ((3 : Int32) * x3)) + (2 : Int32)) 258 then none else ob1 (F_X12_isLeaf S0 x1 (S0.2.2.1 6 ((78 : Int32) + ((3 : Int32) * x3)).toNatClampNeg) (S0.2.2.1 6 (((78 : Int32) + ((3 : Int32) * x3)) + (1 : Int32)).toNatClampNeg) (S0.2.2.1 6 (((78 : Int32) + ((3 : Int32) * x3)) + (2 : Int32)).toNatClampNeg)) fun r15 => if oob x2 45 then none else nw (sA S0 47 x2 (vp_nar .boolean r15)) fun U17 => F_X12_isSaid_204 k4 x1 (x2 + 1) x3 U17))))
def L_X12_isSaid_4 (x1 : Int32) (x2 : Int32) (x3 : Int32) (S0 : St) : Option (Int32 × St) := lp (fun kz z => F_X12_isSaid_4 kz z.1 z.2.1 z.2.2.1 z.2.2.2) FU (x1, x2, x3, S0)
def F_X12_isSaid (S0 : St) (x1 : Int32) : Option (Int32 × St) := L_X12_isSaid_4 x1 (0 : Int32) (0 : Int32) S0
set_option maxRecDepth 100000 in
set_option maxHeartbeats 4000000 in
theorem b_X12_isSaid_204 {p : Program} {l : Launch} {e : Env} {s : State} {m : MethodId} {args : Array Value} {below : List Frame} {meth : Method} {c : Code} {D : va_G} {q : Nat → ClassId} {A : Nat → Prop} {o0 : Nat} {a0 : Nat → Nat} {r : Int32} {T0 : St} (C : cx p s m args meth c cX12_isSaid 5 (some .boolean) RX12 D q A) {k4 : Int32 × Int32 × Int32 × St → Option (Int32 × St)} (hk4 : ∀ (x1 : Int32) (x2 : Int32) (x3 : Int32) (S0 : St), k4 (x1, x2, x3, S0) = some (r, T0) → ∀ (H : Heap) (locs : List Loc) (ls : Array Slot), va_P D vwCl (fl [g12 q o0 a0 S0]) H → va_D A (fl [g12 q o0 a0 S0]) → va_S A s.heap H locs → lv_has ls 5 [(0, .ref o0), (1, .int x1), (2, .int x2), (3, .int x3)] → W p l e rm_X12_isSaid s m args below meth c H locs 0 0 (MQ below (QI D A r (fl [g12 q o0 a0 T0])) args s 0 0 A) (F0 m 4 ls [])) {x1 : Int32} {x2 : Int32} {x3 : Int32} {S0 : St} (hF : F_X12_isSaid_204 k4 x1 x2 x3 S0 = some (r, T0)) {H : Heap} {locs : List Loc} (hP : va_P D vwCl (fl [g12 q o0 a0 S0]) H) (hD : va_D A (fl [g12 q o0 a0 S0])) (hS : va_S A s.heap H locs) {ls : Array Slot} (hl : lv_has ls 5 [(0, .ref o0), (1, .int x1), (2, .int x2), (3, .int x3)]) : W p l e rm_X12_isSaid s m args below meth c H locs 0 0 (MQ below (QI D A r (fl [g12 q o0 a0 T0])) args s 0 0 A) (F0 m 204 ls []) := by
  unfold F_X12_isSaid_204 at hF
  obtain ⟨hx, hb, hr, hml, hown, hts, hlk, hA, hK, hN, hV⟩ := id C
  refine lv_iinc (v := (x3 + 1)) (lv' := [(3, .int (x3 + 1)), (0, .ref o0), (1, .int x1), (2, .int x2)]) hx hb dX12_isSaid_204 hl (k := 3) rfl rfl (by decide) rfl (fun ls hl => ?_)
  refine lv_goto (tgt := 4) hx hb dX12_isSaid_207 (by decide) ?_
  exact hk4 x1 x2 (x3 + 1) S0 hF _ _ _ hP hD hS (lv_sub hl [1, 2, 3, 0] rfl)
set_option maxRecDepth 100000 in
set_option maxHeartbeats 4000000 in
theorem b_X12_isSaid_161 {p : Program} {l : Launch} {e : Env} {s : State} {m : MethodId} {args : Array Value} {below : List Frame} {meth : Method} {c : Code} {D : va_G} {q : Nat → ClassId} {A : Nat → Prop} {o0 : Nat} {a0 : Nat → Nat} {r : Int32} {T0 : St} (C : cx p s m args meth c cX12_isSaid 5 (some .boolean) RX12 D q A) {k4 : Int32 × Int32 × Int32 × St → Option (Int32 × St)} (hk4 : ∀ (x1 : Int32) (x2 : Int32) (x3 : Int32) (S0 : St), k4 (x1, x2, x3, S0) = some (r, T0) → ∀ (H : Heap) (locs : List Loc) (ls : Array Slot), va_P D vwCl (fl [g12 q o0 a0 S0]) H → va_D A (fl [g12 q o0 a0 S0]) → va_S A s.heap H locs → lv_has ls 5 [(0, .ref o0), (1, .int x1), (2, .int x2), (3, .int x3)] → W p l e rm_X12_isSaid s m args below meth c H locs 0 0 (MQ below (QI D A r (fl [g12 q o0 a0 T0])) args s 0 0 A) (F0 m 4 ls [])) {x1 : Int32} {x2 : Int32} {x3 : Int32} {s1 : Int32} {s2 : Int32} {S0 : St} (hF : F_X12_isSaid_161 k4 x1 x2 x3 s1 s2 S0 = some (r, T0)) {H : Heap} {locs : List Loc} (hP : va_P D vwCl (fl [g12 q o0 a0 S0]) H) (hD : va_D A (fl [g12 q o0 a0 S0])) (hS : va_S A s.heap H locs) {ls : Array Slot} (hl : lv_has ls 5 [(0, .ref o0), (1, .int x1), (2, .int x2), (3, .int x3)]) : W p l e rm_X12_isSaid s m args below meth c H locs 0 0 (MQ below (QI D A r (fl [g12 q o0 a0 T0])) args s 0 0 A) (F0 m 161 ls [.int s2, .int s1, .ref (a0 48)]) := by
  unfold F_X12_isSaid_161 at hF
  obtain ⟨hx, hb, hr, hml, hown, hts, hlk, hA, hK, hN, hV⟩ := id C
  obtain ⟨h1, hF⟩ := op_ck hF
  obtain ⟨U2, e3, hF⟩ := nw_s hF
  refine k_zst (f := S0.2.2.1 47) (W8 := fl [g12 q o0 a0 U2]) C hP hD hS 18 rfl h1 dX12_isSaid_161 (by rw [e3]; rfl) (fun H locs hP hD hS => ?_)
  refine lv_goto (tgt := 204) hx hb dX12_isSaid_162 (by decide) ?_
  exact b_X12_isSaid_204 C hk4 hF hP hD hS (lv_sub hl [0, 1, 2, 3] rfl)
set_option maxRecDepth 100000 in
set_option maxHeartbeats 4000000 in
theorem b_X12_isSaid_156 {p : Program} {l : Launch} {e : Env} {s : State} {m : MethodId} {args : Array Value} {below : List Frame} {meth : Method} {c : Code} {D : va_G} {q : Nat → ClassId} {A : Nat → Prop} {o0 : Nat} {a0 : Nat → Nat} {r : Int32} {T0 : St} (C : cx p s m args meth c cX12_isSaid 5 (some .boolean) RX12 D q A) {k4 : Int32 × Int32 × Int32 × St → Option (Int32 × St)} (hk4 : ∀ (x1 : Int32) (x2 : Int32) (x3 : Int32) (S0 : St), k4 (x1, x2, x3, S0) = some (r, T0) → ∀ (H : Heap) (locs : List Loc) (ls : Array Slot), va_P D vwCl (fl [g12 q o0 a0 S0]) H → va_D A (fl [g12 q o0 a0 S0]) → va_S A s.heap H locs → lv_has ls 5 [(0, .ref o0), (1, .int x1), (2, .int x2), (3, .int x3)] → W p l e rm_X12_isSaid s m args below meth c H locs 0 0 (MQ below (QI D A r (fl [g12 q o0 a0 T0])) args s 0 0 A) (F0 m 4 ls [])) {x1 : Int32} {x2 : Int32} {x3 : Int32} {s1 : Int32} {S0 : St} (hF : F_X12_isSaid_156 k4 x1 x2 x3 s1 S0 = some (r, T0)) {H : Heap} {locs : List Loc} (hP : va_P D vwCl (fl [g12 q o0 a0 S0]) H) (hD : va_D A (fl [g12 q o0 a0 S0])) (hS : va_S A s.heap H locs) {ls : Array Slot} (hl : lv_has ls 5 [(0, .ref o0), (1, .int x1), (2, .int x2), (3, .int x3)]) : W p l e rm_X12_isSaid s m args below meth c H locs 0 0 (MQ below (QI D A r (fl [g12 q o0 a0 T0])) args s 0 0 A) (F0 m 156 ls [.int s1, .ref (a0 48)]) := by
  unfold F_X12_isSaid_156 at hF
  obtain ⟨hx, hb, hr, hml, hown, hts, hlk, hA, hK, hN, hV⟩ := id C
  refine lv_iconst (v := (1 : Int32)) hx hb dX12_isSaid_156 (by decide) ?_
  refine lv_goto (tgt := 161) hx hb dX12_isSaid_157 (by decide) ?_
  exact b_X12_isSaid_161 C hk4 hF hP hD hS (lv_sub hl [0, 1, 2, 3] rfl)
set_option maxRecDepth 100000 in
set_option maxHeartbeats 4000000 in
theorem b_X12_isSaid_132 {p : Program} {l : Launch} {e : Env} {s : State} {m : MethodId} {args : Array Value} {below : List Frame} {meth : Method} {c : Code} {D : va_G} {q : Nat → ClassId} {A : Nat → Prop} {o0 : Nat} {a0 : Nat → Nat} {r : Int32} {T0 : St} (C : cx p s m args meth c cX12_isSaid 5 (some .boolean) RX12 D q A) {k4 : Int32 × Int32 × Int32 × St → Option (Int32 × St)} (hk4 : ∀ (x1 : Int32) (x2 : Int32) (x3 : Int32) (S0 : St), k4 (x1, x2, x3, S0) = some (r, T0) → ∀ (H : Heap) (locs : List Loc) (ls : Array Slot), va_P D vwCl (fl [g12 q o0 a0 S0]) H → va_D A (fl [g12 q o0 a0 S0]) → va_S A s.heap H locs → lv_has ls 5 [(0, .ref o0), (1, .int x1), (2, .int x2), (3, .int x3)] → W p l e rm_X12_isSaid s m args below meth c H locs 0 0 (MQ below (QI D A r (fl [g12 q o0 a0 T0])) args s 0 0 A) (F0 m 4 ls [])) {x1 : Int32} {x2 : Int32} {x3 : Int32} {s1 : Int32} {S0 : St} (hF : F_X12_isSaid_132 k4 x1 x2 x3 s1 S0 = some (r, T0)) {H : Heap} {locs : List Loc} (hP : va_P D vwCl (fl [g12 q o0 a0 S0]) H) (hD : va_D A (fl [g12 q o0 a0 S0])) (hS : va_S A s.heap H locs) {ls : Array Slot} (hl : lv_has ls 5 [(0, .ref o0), (1, .int x1), (2, .int x2), (3, .int x3)]) : W p l e rm_X12_isSaid s m args below meth c H locs 0 0 (MQ below (QI D A r (fl [g12 q o0 a0 T0])) args s 0 0 A) (F0 m 132 ls [.int s1, .ref (a0 48)]) := by
  unfold F_X12_isSaid_132 at hF
  obtain ⟨hx, hb, hr, hml, hown, hts, hlk, hA, hK, hN, hV⟩ := id C
  refine lv_iconst (v := (0 : Int32)) hx hb dX12_isSaid_132 (by decide) ?_
  refine lv_goto (tgt := 161) hx hb dX12_isSaid_133 (by decide) ?_
  exact b_X12_isSaid_161 C hk4 hF hP hD hS (lv_sub hl [0, 1, 2, 3] rfl)
set_option maxRecDepth 100000 in
set_option maxHeartbeats 4000000 in
theorem b_X12_isSaid_86 {p : Program} {l : Launch} {e : Env} {s : State} {m : MethodId} {args : Array Value} {below : List Frame} {meth : Method} {c : Code} {D : va_G} {q : Nat → ClassId} {A : Nat → Prop} {o0 : Nat} {a0 : Nat → Nat} {r : Int32} {T0 : St} (C : cx p s m args meth c cX12_isSaid 5 (some .boolean) RX12 D q A) {k4 : Int32 × Int32 × Int32 × St → Option (Int32 × St)} (hk4 : ∀ (x1 : Int32) (x2 : Int32) (x3 : Int32) (S0 : St), k4 (x1, x2, x3, S0) = some (r, T0) → ∀ (H : Heap) (locs : List Loc) (ls : Array Slot), va_P D vwCl (fl [g12 q o0 a0 S0]) H → va_D A (fl [g12 q o0 a0 S0]) → va_S A s.heap H locs → lv_has ls 5 [(0, .ref o0), (1, .int x1), (2, .int x2), (3, .int x3)] → W p l e rm_X12_isSaid s m args below meth c H locs 0 0 (MQ below (QI D A r (fl [g12 q o0 a0 T0])) args s 0 0 A) (F0 m 4 ls [])) {x1 : Int32} {x2 : Int32} {x3 : Int32} {x4 : Int32} {S0 : St} (hF : F_X12_isSaid_86 k4 x1 x2 x3 x4 S0 = some (r, T0)) {H : Heap} {locs : List Loc} (hP : va_P D vwCl (fl [g12 q o0 a0 S0]) H) (hD : va_D A (fl [g12 q o0 a0 S0])) (hS : va_S A s.heap H locs) {ls : Array Slot} (hl : lv_has ls 5 [(0, .ref o0), (1, .int x1), (2, .int x2), (3, .int x3), (4, .int x4)]) : W p l e rm_X12_isSaid s m args below meth c H locs 0 0 (MQ below (QI D A r (fl [g12 q o0 a0 T0])) args s 0 0 A) (F0 m 86 ls []) := by
  unfold F_X12_isSaid_86 at hF
  obtain ⟨hx, hb, hr, hml, hown, hts, hlk, hA, hK, hN, hV⟩ := id C
  refine lv_iinc (v := (x2 + (-1))) (lv' := [(2, .int (x2 + (-1))), (0, .ref o0), (1, .int x1), (3, .int x3), (4, .int x4)]) hx hb dX12_isSaid_86 hl (k := 2) rfl rfl (by decide) rfl (fun ls hl => ?_)
  refine lv_aload_n hx hb dX12_isSaid_89 rfl (lv_at hl 1 rfl) ?_
  refine k_get (v := .ref (a0 48)) C fg_X12_95 hP 0 rfl rfl dX12_isSaid_90 ?_
  refine lv_iload_n hx hb dX12_isSaid_93 rfl (lv_at hl 0 rfl) ?_
  refine lv_iconst (v := (1 : Int32)) hx hb dX12_isSaid_94 (by decide) ?_
  refine lv_isub hx hb dX12_isSaid_95 ?_
  refine lv_aload_n hx hb dX12_isSaid_96 rfl (lv_at hl 1 rfl) ?_
  refine k_get (v := .ref (a0 7)) C fg_X12_33 hP 0 rfl rfl dX12_isSaid_97 ?_
  refine lv_iload hx hb dX12_isSaid_100 (lv_at hl 4 rfl) ?_
  obtain ⟨h1, hF⟩ := op_ck hF
  refine k_ild (f := S0.2.2.1 6) C hP 2 rfl h1 dX12_isSaid_102 ?_
  refine lv_bipush (v := (21 : Int32)) hx hb dX12_isSaid_103 (by decide) ?_
  refine lv_icmp_ne (tgt := 136) hx hb dX12_isSaid_105 (by decide) (fun c2 => ?_) (fun c2 => ?_)
  · have hF := op_f hF c2
    refine lv_aload_n hx hb dX12_isSaid_136 rfl (lv_at hl 1 rfl) ?_
    refine k_get (v := .ref (a0 48)) C fg_X12_95 hP 0 rfl rfl dX12_isSaid_137 ?_
    refine lv_iload_n hx hb dX12_isSaid_140 rfl (lv_at hl 0 rfl) ?_
    refine lv_iconst (v := (1 : Int32)) hx hb dX12_isSaid_141 (by decide) ?_
    refine lv_isub hx hb dX12_isSaid_142 ?_
    obtain ⟨h3, hF⟩ := op_ck hF
    refine k_zld (f := S0.2.2.1 47) C hP 18 rfl h3 dX12_isSaid_143 ?_
    refine lv_if_ne (tgt := 156) hx hb dX12_isSaid_144 (by decide) (fun c4 => ?_) (fun c4 => ?_)
    · have hF := op_f hF c4
      exact b_X12_isSaid_156 C hk4 hF hP hD hS (lv_sub hl [1, 2, 0, 3] rfl)
    · have hF := op_t hF c4
      refine lv_aload_n hx hb dX12_isSaid_147 rfl (lv_at hl 1 rfl) ?_
      refine k_get (v := .ref (a0 48)) C fg_X12_95 hP 0 rfl rfl dX12_isSaid_148 ?_
      refine lv_iload_n hx hb dX12_isSaid_151 rfl (lv_at hl 0 rfl) ?_
      obtain ⟨h5, hF⟩ := op_ck hF
      refine k_zld (f := S0.2.2.1 47) C hP 18 rfl h5 dX12_isSaid_152 ?_
      refine lv_if_eq (tgt := 160) hx hb dX12_isSaid_153 (by decide) (fun c6 => ?_) (fun c6 => ?_)
      · have hF := op_t hF c6
        refine lv_iconst (v := (0 : Int32)) hx hb dX12_isSaid_160 (by decide) ?_
        exact b_X12_isSaid_161 C hk4 hF hP hD hS (lv_sub hl [1, 2, 0, 3] rfl)
      · have hF := op_f hF c6
        exact b_X12_isSaid_156 C hk4 hF hP hD hS (lv_sub hl [1, 2, 0, 3] rfl)
  · have hF := op_t hF c2
    refine lv_aload_n hx hb dX12_isSaid_108 rfl (lv_at hl 1 rfl) ?_
    refine k_get (v := .ref (a0 48)) C fg_X12_95 hP 0 rfl rfl dX12_isSaid_109 ?_
    refine lv_iload_n hx hb dX12_isSaid_112 rfl (lv_at hl 0 rfl) ?_
    refine lv_iconst (v := (1 : Int32)) hx hb dX12_isSaid_113 (by decide) ?_
    refine lv_isub hx hb dX12_isSaid_114 ?_
    obtain ⟨h7, hF⟩ := op_ck hF
    refine k_zld (f := S0.2.2.1 47) C hP 18 rfl h7 dX12_isSaid_115 ?_
    refine lv_if_eq (tgt := 132) hx hb dX12_isSaid_116 (by decide) (fun c8 => ?_) (fun c8 => ?_)
    · have hF := op_t hF c8
      exact b_X12_isSaid_132 C hk4 hF hP hD hS (lv_sub hl [1, 2, 0, 3] rfl)
    · have hF := op_f hF c8
      refine lv_aload_n hx hb dX12_isSaid_119 rfl (lv_at hl 1 rfl) ?_
      refine k_get (v := .ref (a0 48)) C fg_X12_95 hP 0 rfl rfl dX12_isSaid_120 ?_
      refine lv_iload_n hx hb dX12_isSaid_123 rfl (lv_at hl 0 rfl) ?_
      obtain ⟨h9, hF⟩ := op_ck hF
      refine k_zld (f := S0.2.2.1 47) C hP 18 rfl h9 dX12_isSaid_124 ?_
      refine lv_if_eq (tgt := 132) hx hb dX12_isSaid_125 (by decide) (fun c10 => ?_) (fun c10 => ?_)
      · have hF := op_t hF c10
        exact b_X12_isSaid_132 C hk4 hF hP hD hS (lv_sub hl [1, 2, 0, 3] rfl)
      · have hF := op_f hF c10
        refine lv_iconst (v := (1 : Int32)) hx hb dX12_isSaid_128 (by decide) ?_
        refine lv_goto (tgt := 161) hx hb dX12_isSaid_129 (by decide) ?_
        exact b_X12_isSaid_161 C hk4 hF hP hD hS (lv_sub hl [1, 2, 0, 3] rfl)
set_option maxRecDepth 100000 in
set_option maxHeartbeats 4000000 in
theorem b_X12_isSaid_58 {p : Program} {l : Launch} {e : Env} {s : State} {m : MethodId} {args : Array Value} {below : List Frame} {meth : Method} {c : Code} {D : va_G} {q : Nat → ClassId} {A : Nat → Prop} {o0 : Nat} {a0 : Nat → Nat} {r : Int32} {T0 : St} (C : cx p s m args meth c cX12_isSaid 5 (some .boolean) RX12 D q A) {k4 : Int32 × Int32 × Int32 × St → Option (Int32 × St)} (hk4 : ∀ (x1 : Int32) (x2 : Int32) (x3 : Int32) (S0 : St), k4 (x1, x2, x3, S0) = some (r, T0) → ∀ (H : Heap) (locs : List Loc) (ls : Array Slot), va_P D vwCl (fl [g12 q o0 a0 S0]) H → va_D A (fl [g12 q o0 a0 S0]) → va_S A s.heap H locs → lv_has ls 5 [(0, .ref o0), (1, .int x1), (2, .int x2), (3, .int x3)] → W p l e rm_X12_isSaid s m args below meth c H locs 0 0 (MQ below (QI D A r (fl [g12 q o0 a0 T0])) args s 0 0 A) (F0 m 4 ls [])) {x1 : Int32} {x2 : Int32} {x3 : Int32} {s1 : Int32} {s2 : Int32} {S0 : St} (hF : F_X12_isSaid_58 k4 x1 x2 x3 s1 s2 S0 = some (r, T0)) {H : Heap} {locs : List Loc} (hP : va_P D vwCl (fl [g12 q o0 a0 S0]) H) (hD : va_D A (fl [g12 q o0 a0 S0])) (hS : va_S A s.heap H locs) {ls : Array Slot} (hl : lv_has ls 5 [(0, .ref o0), (1, .int x1), (2, .int x2), (3, .int x3)]) : W p l e rm_X12_isSaid s m args below meth c H locs 0 0 (MQ below (QI D A r (fl [g12 q o0 a0 T0])) args s 0 0 A) (F0 m 58 ls [.int s2, .int s1, .ref (a0 48)]) := by
  unfold F_X12_isSaid_58 at hF
  obtain ⟨hx, hb, hr, hml, hown, hts, hlk, hA, hK, hN, hV⟩ := id C
  obtain ⟨h1, hF⟩ := op_ck hF
  obtain ⟨U2, e3, hF⟩ := nw_s hF
  refine k_zst (f := S0.2.2.1 47) (W8 := fl [g12 q o0 a0 U2]) C hP hD hS 18 rfl h1 dX12_isSaid_58 (by rw [e3]; rfl) (fun H locs hP hD hS => ?_)
  refine lv_goto (tgt := 204) hx hb dX12_isSaid_59 (by decide) ?_
  exact b_X12_isSaid_204 C hk4 hF hP hD hS (lv_sub hl [0, 1, 2, 3] rfl)
set_option maxRecDepth 100000 in
set_option maxHeartbeats 4000000 in
theorem b_X12_isSaid_4 {p : Program} {l : Launch} {e : Env} {s : State} {m : MethodId} {args : Array Value} {below : List Frame} {meth : Method} {c : Code} {D : va_G} {q : Nat → ClassId} {A : Nat → Prop} {o0 : Nat} {a0 : Nat → Nat} {r : Int32} {T0 : St} (C : cx p s m args meth c cX12_isSaid 5 (some .boolean) RX12 D q A) {k4 : Int32 × Int32 × Int32 × St → Option (Int32 × St)} (hk4 : ∀ (x1 : Int32) (x2 : Int32) (x3 : Int32) (S0 : St), k4 (x1, x2, x3, S0) = some (r, T0) → ∀ (H : Heap) (locs : List Loc) (ls : Array Slot), va_P D vwCl (fl [g12 q o0 a0 S0]) H → va_D A (fl [g12 q o0 a0 S0]) → va_S A s.heap H locs → lv_has ls 5 [(0, .ref o0), (1, .int x1), (2, .int x2), (3, .int x3)] → W p l e rm_X12_isSaid s m args below meth c H locs 0 0 (MQ below (QI D A r (fl [g12 q o0 a0 T0])) args s 0 0 A) (F0 m 4 ls [])) {x1 : Int32} {x2 : Int32} {x3 : Int32} {S0 : St} (hF : F_X12_isSaid_4 k4 x1 x2 x3 S0 = some (r, T0)) {H : Heap} {locs : List Loc} (hP : va_P D vwCl (fl [g12 q o0 a0 S0]) H) (hD : va_D A (fl [g12 q o0 a0 S0])) (hS : va_S A s.heap H locs) {ls : Array Slot} (hl : lv_has ls 5 [(0, .ref o0), (1, .int x1), (2, .int x2), (3, .int x3)]) : W p l e rm_X12_isSaid s m args below meth c H locs 0 0 (MQ below (QI D A r (fl [g12 q o0 a0 T0])) args s 0 0 A) (F0 m 4 ls []) := by
  unfold F_X12_isSaid_4 at hF
  obtain ⟨hx, hb, hr, hml, hown, hts, hlk, hA, hK, hN, hV⟩ := id C
  refine lv_iload_n hx hb dX12_isSaid_4 rfl (lv_at hl 3 rfl) ?_
  refine lv_aload_n hx hb dX12_isSaid_5 rfl (lv_at hl 0 rfl) ?_
  refine k_get (v := .ref (a0 7)) C fg_X12_33 hP 0 rfl rfl dX12_isSaid_6 ?_
  refine lv_bipush (v := (77 : Int32)) hx hb dX12_isSaid_9 (by decide) ?_
  obtain ⟨h1, hF⟩ := op_ck hF
  refine k_ild (f := S0.2.2.1 6) C hP 2 rfl h1 dX12_isSaid_11 ?_
  refine lv_icmp_ge (tgt := 210) hx hb dX12_isSaid_12 (by decide) (fun c2 => ?_) (fun c2 => ?_)
  · have hF := op_t hF c2
    refine lv_aload_n hx hb dX12_isSaid_210 rfl (lv_at hl 0 rfl) ?_
    refine k_get (v := .ref (a0 48)) C fg_X12_95 hP 0 rfl rfl dX12_isSaid_211 ?_
    refine lv_iconst (v := (0 : Int32)) hx hb dX12_isSaid_214 (by decide) ?_
    obtain ⟨h3, hF⟩ := op_ck hF
    refine k_zld (f := S0.2.2.1 47) C hP 18 rfl h3 dX12_isSaid_215 ?_
    obtain ⟨h4, hF⟩ := op_ck hF
    cases hF
    exact k_zret C h4 hP hS dX12_isSaid_216
  · have hF := op_f hF c2
    refine lv_bipush (v := (78 : Int32)) hx hb dX12_isSaid_15 (by decide) ?_
    refine lv_iconst (v := (3 : Int32)) hx hb dX12_isSaid_17 (by decide) ?_
    refine lv_iload_n hx hb dX12_isSaid_18 rfl (lv_at hl 3 rfl) ?_
    refine lv_imul hx hb dX12_isSaid_19 ?_
    refine lv_iadd hx hb dX12_isSaid_20 ?_
    refine lv_istore (lv' := [(4, .int ((78 : Int32) + ((3 : Int32) * x3))), (0, .ref o0), (1, .int x1), (2, .int x2), (3, .int x3)]) hx hb dX12_isSaid_21 hl (by decide) rfl (fun ls hl => ?_)
    refine lv_aload_n hx hb dX12_isSaid_23 rfl (lv_at hl 1 rfl) ?_
    refine k_get (v := .ref (a0 7)) C fg_X12_33 hP 0 rfl rfl dX12_isSaid_24 ?_
    refine lv_iload hx hb dX12_isSaid_27 (lv_at hl 0 rfl) ?_
    obtain ⟨h5, hF⟩ := op_ck hF
    refine k_ild (f := S0.2.2.1 6) C hP 2 rfl h5 dX12_isSaid_29 ?_
    refine lv_bipush (v := (20 : Int32)) hx hb dX12_isSaid_30 (by decide) ?_
    refine lv_icmp_ne (tgt := 62) hx hb dX12_isSaid_32 (by decide) (fun c6 => ?_) (fun c6 => ?_)
    · have hF := op_f hF c6
      refine lv_aload_n hx hb dX12_isSaid_62 rfl (lv_at hl 1 rfl) ?_
      refine k_get (v := .ref (a0 7)) C fg_X12_33 hP 0 rfl rfl dX12_isSaid_63 ?_
      refine lv_iload hx hb dX12_isSaid_66 (lv_at hl 0 rfl) ?_
      obtain ⟨h7, hF⟩ := op_ck hF
      refine k_ild (f := S0.2.2.1 6) C hP 2 rfl h7 dX12_isSaid_68 ?_
      refine lv_bipush (v := (21 : Int32)) hx hb dX12_isSaid_69 (by decide) ?_
      refine lv_icmp_eq (tgt := 86) hx hb dX12_isSaid_71 (by decide) (fun c8 => ?_) (fun c8 => ?_)
      · have hF := op_t hF c8
        exact b_X12_isSaid_86 C hk4 hF hP hD hS (lv_sub hl [1, 2, 3, 4, 0] rfl)
      · have hF := op_f hF c8
        refine lv_aload_n hx hb dX12_isSaid_74 rfl (lv_at hl 1 rfl) ?_
        refine k_get (v := .ref (a0 7)) C fg_X12_33 hP 0 rfl rfl dX12_isSaid_75 ?_
        refine lv_iload hx hb dX12_isSaid_78 (lv_at hl 0 rfl) ?_
        obtain ⟨h9, hF⟩ := op_ck hF
        refine k_ild (f := S0.2.2.1 6) C hP 2 rfl h9 dX12_isSaid_80 ?_
        refine lv_bipush (v := (22 : Int32)) hx hb dX12_isSaid_81 (by decide) ?_
        refine lv_icmp_ne (tgt := 165) hx hb dX12_isSaid_83 (by decide) (fun c10 => ?_) (fun c10 => ?_)
        · have hF := op_f hF c10
          refine lv_aload_n hx hb dX12_isSaid_165 rfl (lv_at hl 1 rfl) ?_
          refine k_get (v := .ref (a0 48)) C fg_X12_95 hP 0 rfl rfl dX12_isSaid_166 ?_
          refine lv_iload_n hx hb dX12_isSaid_169 rfl (lv_at hl 3 rfl) ?_
          refine lv_aload_n hx hb dX12_isSaid_170 rfl (lv_at hl 1 rfl) ?_
          refine lv_iload_n hx hb dX12_isSaid_171 rfl (lv_at hl 2 rfl) ?_
          refine lv_aload_n hx hb dX12_isSaid_172 rfl (lv_at hl 1 rfl) ?_
          refine k_get (v := .ref (a0 7)) C fg_X12_33 hP 0 rfl rfl dX12_isSaid_173 ?_
          refine lv_iload hx hb dX12_isSaid_176 (lv_at hl 0 rfl) ?_
          obtain ⟨h11, hF⟩ := op_ck hF
          refine k_ild (f := S0.2.2.1 6) C hP 2 rfl h11 dX12_isSaid_178 ?_
          refine lv_aload_n hx hb dX12_isSaid_179 rfl (lv_at hl 1 rfl) ?_
          refine k_get (v := .ref (a0 7)) C fg_X12_33 hP 0 rfl rfl dX12_isSaid_180 ?_
          refine lv_iload hx hb dX12_isSaid_183 (lv_at hl 0 rfl) ?_
          refine lv_iconst (v := (1 : Int32)) hx hb dX12_isSaid_185 (by decide) ?_
          refine lv_iadd hx hb dX12_isSaid_186 ?_
          obtain ⟨h12, hF⟩ := op_ck hF
          refine k_ild (f := S0.2.2.1 6) C hP 2 rfl h12 dX12_isSaid_187 ?_
          refine lv_aload_n hx hb dX12_isSaid_188 rfl (lv_at hl 1 rfl) ?_
          refine k_get (v := .ref (a0 7)) C fg_X12_33 hP 0 rfl rfl dX12_isSaid_189 ?_
          refine lv_iload hx hb dX12_isSaid_192 (lv_at hl 0 rfl) ?_
          refine lv_iconst (v := (2 : Int32)) hx hb dX12_isSaid_194 (by decide) ?_
          refine lv_iadd hx hb dX12_isSaid_195 ?_
          obtain ⟨h13, hF⟩ := op_ck hF
          refine k_ild (f := S0.2.2.1 6) C hP 2 rfl h13 dX12_isSaid_196 ?_
          obtain ⟨r15, hc14, hF⟩ := ob1_s hF
          refine k_isame C (k_rV (As := [.int x1, .int (S0.2.2.1 6 ((78 : Int32) + ((3 : Int32) * x3)).toNatClampNeg), .int (S0.2.2.1 6 (((78 : Int32) + ((3 : Int32) * x3)) + (1 : Int32)).toNatClampNeg), .int (S0.2.2.1 6 (((78 : Int32) + ((3 : Int32) * x3)) + (2 : Int32)).toNatClampNeg)]) (rest := [.int x2, .ref (a0 48)]) C (c_X12_isLeaf l D q o0 a0 S0 _ x1 (S0.2.2.1 6 ((78 : Int32) + ((3 : Int32) * x3)).toNatClampNeg) (S0.2.2.1 6 (((78 : Int32) + ((3 : Int32) * x3)) + (1 : Int32)).toNatClampNeg) (S0.2.2.1 6 (((78 : Int32) + ((3 : Int32) * x3)) + (2 : Int32)).toNatClampNeg) hc14) kc_X12_isLeaf ml_X12_493 rfl rfl (by decide) hP hD hS (va_recv hK hP (ci := 12) (q0 := 0) rfl rfl) rfl hl.1 rfl (Nat.le_of_ble_eq_true rfl) dX12_isSaid_197 (by decide)) hP hD hS (fun H locs hP hD hS => ?_)
          obtain ⟨h16, hF⟩ := op_ck hF
          obtain ⟨U17, e18, hF⟩ := nw_s hF
          refine k_zst (f := S0.2.2.1 47) (W8 := fl [g12 q o0 a0 U17]) C hP hD hS 18 rfl h16 dX12_isSaid_200 (by rw [e18]; rfl) (fun H locs hP hD hS => ?_)
          refine lv_iinc (v := (x2 + 1)) (lv' := [(2, .int (x2 + 1)), (4, .int ((78 : Int32) + ((3 : Int32) * x3))), (0, .ref o0), (1, .int x1), (3, .int x3)]) hx hb dX12_isSaid_201 hl (k := 3) rfl rfl (by decide) rfl (fun ls hl => ?_)
          exact b_X12_isSaid_204 C hk4 hF hP hD hS (lv_sub hl [2, 3, 0, 4] rfl)
        · have hF := op_t hF c10
          exact b_X12_isSaid_86 C hk4 hF hP hD hS (lv_sub hl [1, 2, 3, 4, 0] rfl)
    · have hF := op_t hF c6
      refine lv_aload_n hx hb dX12_isSaid_35 rfl (lv_at hl 1 rfl) ?_
      refine k_get (v := .ref (a0 48)) C fg_X12_95 hP 0 rfl rfl dX12_isSaid_36 ?_
      refine lv_iload_n hx hb dX12_isSaid_39 rfl (lv_at hl 3 rfl) ?_
      refine lv_iconst (v := (1 : Int32)) hx hb dX12_isSaid_40 (by decide) ?_
      refine lv_isub hx hb dX12_isSaid_41 ?_
      refine lv_aload_n hx hb dX12_isSaid_42 rfl (lv_at hl 1 rfl) ?_
      refine k_get (v := .ref (a0 48)) C fg_X12_95 hP 0 rfl rfl dX12_isSaid_43 ?_
      refine lv_iload_n hx hb dX12_isSaid_46 rfl (lv_at hl 3 rfl) ?_
      refine lv_iconst (v := (1 : Int32)) hx hb dX12_isSaid_47 (by decide) ?_
      refine lv_isub hx hb dX12_isSaid_48 ?_
      obtain ⟨h19, hF⟩ := op_ck hF
      refine k_zld (f := S0.2.2.1 47) C hP 18 rfl h19 dX12_isSaid_49 ?_
      refine lv_if_ne (tgt := 57) hx hb dX12_isSaid_50 (by decide) (fun c20 => ?_) (fun c20 => ?_)
      · have hF := op_f hF c20
        refine lv_iconst (v := (0 : Int32)) hx hb dX12_isSaid_57 (by decide) ?_
        exact b_X12_isSaid_58 C hk4 hF hP hD hS (lv_sub hl [1, 2, 3, 4] rfl)
      · have hF := op_t hF c20
        refine lv_iconst (v := (1 : Int32)) hx hb dX12_isSaid_53 (by decide) ?_
        refine lv_goto (tgt := 58) hx hb dX12_isSaid_54 (by decide) ?_
        exact b_X12_isSaid_58 C hk4 hF hP hD hS (lv_sub hl [1, 2, 3, 4] rfl)
set_option maxRecDepth 100000 in
set_option maxHeartbeats 4000000 in
theorem l_X12_isSaid_4 {p : Program} {l : Launch} {e : Env} {s : State} {m : MethodId} {args : Array Value} {below : List Frame} {meth : Method} {c : Code} {D : va_G} {q : Nat → ClassId} {A : Nat → Prop} {o0 : Nat} {a0 : Nat → Nat} {r : Int32} {T0 : St} (C : cx p s m args meth c cX12_isSaid 5 (some .boolean) RX12 D q A) {x1 : Int32} {x2 : Int32} {x3 : Int32} {S0 : St} (hF : L_X12_isSaid_4 x1 x2 x3 S0 = some (r, T0)) : ∀ (H : Heap) (locs : List Loc) (ls : Array Slot), va_P D vwCl (fl [g12 q o0 a0 S0]) H → va_D A (fl [g12 q o0 a0 S0]) → va_S A s.heap H locs → lv_has ls 5 [(0, .ref o0), (1, .int x1), (2, .int x2), (3, .int x3)] → W p l e rm_X12_isSaid s m args below meth c H locs 0 0 (MQ below (QI D A r (fl [g12 q o0 a0 T0])) args s 0 0 A) (F0 m 4 ls []) :=
  lp_G _ _ (fun z => ∀ (H : Heap) (locs : List Loc) (ls : Array Slot), va_P D vwCl (fl [g12 q o0 a0 z.2.2.2]) H → va_D A (fl [g12 q o0 a0 z.2.2.2]) → va_S A s.heap H locs → lv_has ls 5 [(0, .ref o0), (1, .int z.1), (2, .int z.2.1), (3, .int z.2.2.1)] → W p l e rm_X12_isSaid s m args below meth c H locs 0 0 (MQ below (QI D A r (fl [g12 q o0 a0 T0])) args s 0 0 A) (F0 m 4 ls [])) (fun kz hkz z hz H locs ls hP hD hS hl => b_X12_isSaid_4 C (fun x1 x2 x3 S0 hz => hkz (x1, x2, x3, S0) hz) hz hP hD hS hl) FU (x1, x2, x3, S0) hF
set_option maxRecDepth 100000 in
set_option maxHeartbeats 4000000 in
theorem c_X12_isSaid (l : Launch) (D : va_G) (q : Nat → ClassId) (o0 : Nat) (a0 : Nat → Nat) (S0 : St) (sz : Nat) (x1 : Int32) {r : Int32} {T0 : St} (hF : F_X12_isSaid S0 x1 = some (r, T0)) : Met l yX12_isSaid (Cond.code yX12_isSaid cX12_isSaid 5 (some .boolean) :: TB) rm_X12_isSaid (PC D q [.ref o0, .int x1] (fl [g12 q o0 a0 S0]) sz) ((fun A => QI D A r (fl [g12 q o0 a0 T0])) (va_A (fl [g12 q o0 a0 S0]) sz)) 0 0 (va_A (fl [g12 q o0 a0 S0]) sz) := by
  refine k_met (w0 := fl [g12 q o0 a0 S0]) (Q := fun A => QI D A r (fl [g12 q o0 a0 T0])) (by decide +kernel) (Nat.le_of_ble_eq_true rfl) ?_
  intro p e s m args below meth c A ls C hP hD hS hl
  have hl : lv_has ls 5 [(0, .ref o0), (1, .int x1)] := hl
  unfold F_X12_isSaid at hF
  have C : cx p s m args meth c cX12_isSaid 5 (some .boolean) RX12 D q A := C
  obtain ⟨hx, hb, hr, hml, hown, hts, hlk, hA, hK, hN, hV⟩ := id C
  refine lv_iconst (v := (0 : Int32)) hx hb dX12_isSaid_0 (by decide) ?_
  refine lv_istore_n (lv' := [(2, .int (0 : Int32)), (0, .ref o0), (1, .int x1)]) hx hb dX12_isSaid_1 rfl hl (by decide) rfl (fun ls hl => ?_)
  refine lv_iconst (v := (0 : Int32)) hx hb dX12_isSaid_2 (by decide) ?_
  refine lv_istore_n (lv' := [(3, .int (0 : Int32)), (2, .int (0 : Int32)), (0, .ref o0), (1, .int x1)]) hx hb dX12_isSaid_3 rfl hl (by decide) rfl (fun ls hl => ?_)
  exact l_X12_isSaid_4 C hF _ _ _ hP hD hS (lv_sub hl [2, 3, 1, 0] rfl)

abbrev rm_X12_said : Room := ({ frames := 3, cells := 0, slots := 0, locals := 71 } : Room)
def F_X12_said_57 (k26 : Int32 × Int32 × Int32 × St → Option (Int32 × St)) (x1 : Int32) (x2 : Int32) (x3 : Int32) (S0 : St) : Option (Int32 × St) := k26 (x1, x2, (x3 + 1), S0)
def F_X12_said_26 (k26 : Int32 × Int32 × Int32 × St → Option (Int32 × St)) (x1 : Int32) (x2 : Int32) (x3 : Int32) (S0 : St) : Option (Int32 × St) := if oob (1 : Int32) 258 then none else if (S0.2.2.1 6 (1 : Int32).toNatClampNeg) ≤ x3 then (if x1 = (-1 : Int32) then (some (x2, S0)) else (some ((-1 : Int32), S0))) else (ob2 (F_X12_isSaid S0 x3) fun r5 U6 => if r5 = 0 then (F_X12_said_57 k26 x1 x2 x3 U6) else (if x2 = x1 then (some (x3, U6)) else (F_X12_said_57 k26 x1 (x2 + 1) x3 U6)))
def L_X12_said_26 (x1 : Int32) (x2 : Int32) (x3 : Int32) (S0 : St) : Option (Int32 × St) := lp (fun kz z => F_X12_said_26 kz z.1 z.2.1 z.2.2.1 z.2.2.2) FU (x1, x2, x3, S0)
def F_X12_said (S0 : St) (x1 : Int32) : Option (Int32 × St) := nw (sI S0 0 (0 : Int32)) fun U1 => if oob (77 : Int32) 258 then none else if (U1.2.2.1 6 (77 : Int32).toNatClampNeg) = 0 then (some ((-1 : Int32), U1)) else (if (-1 : Int32) ≤ x1 then (L_X12_said_26 x1 (0 : Int32) (0 : Int32) U1) else (some ((-1 : Int32), U1)))
set_option maxRecDepth 100000 in
set_option maxHeartbeats 4000000 in
theorem b_X12_said_57 {p : Program} {l : Launch} {e : Env} {s : State} {m : MethodId} {args : Array Value} {below : List Frame} {meth : Method} {c : Code} {D : va_G} {q : Nat → ClassId} {A : Nat → Prop} {o0 : Nat} {a0 : Nat → Nat} {r : Int32} {T0 : St} (C : cx p s m args meth c cX12_said 4 (some .int) RX12 D q A) {k26 : Int32 × Int32 × Int32 × St → Option (Int32 × St)} (hk26 : ∀ (x1 : Int32) (x2 : Int32) (x3 : Int32) (S0 : St), k26 (x1, x2, x3, S0) = some (r, T0) → ∀ (H : Heap) (locs : List Loc) (ls : Array Slot), va_P D vwCl (fl [g12 q o0 a0 S0]) H → va_D A (fl [g12 q o0 a0 S0]) → va_S A s.heap H locs → lv_has ls 4 [(0, .ref o0), (1, .int x1), (2, .int x2), (3, .int x3)] → W p l e rm_X12_said s m args below meth c H locs 0 0 (MQ below (QI D A r (fl [g12 q o0 a0 T0])) args s 0 0 A) (F0 m 26 ls [])) {x1 : Int32} {x2 : Int32} {x3 : Int32} {S0 : St} (hF : F_X12_said_57 k26 x1 x2 x3 S0 = some (r, T0)) {H : Heap} {locs : List Loc} (hP : va_P D vwCl (fl [g12 q o0 a0 S0]) H) (hD : va_D A (fl [g12 q o0 a0 S0])) (hS : va_S A s.heap H locs) {ls : Array Slot} (hl : lv_has ls 4 [(0, .ref o0), (1, .int x1), (2, .int x2), (3, .int x3)]) : W p l e rm_X12_said s m args below meth c H locs 0 0 (MQ below (QI D A r (fl [g12 q o0 a0 T0])) args s 0 0 A) (F0 m 57 ls []) := by
  unfold F_X12_said_57 at hF
  obtain ⟨hx, hb, hr, hml, hown, hts, hlk, hA, hK, hN, hV⟩ := id C
  refine lv_iinc (v := (x3 + 1)) (lv' := [(3, .int (x3 + 1)), (0, .ref o0), (1, .int x1), (2, .int x2)]) hx hb dX12_said_57 hl (k := 3) rfl rfl (by decide) rfl (fun ls hl => ?_)
  refine lv_goto (tgt := 26) hx hb dX12_said_60 (by decide) ?_
  exact hk26 x1 x2 (x3 + 1) S0 hF _ _ _ hP hD hS (lv_sub hl [1, 2, 3, 0] rfl)
set_option maxRecDepth 100000 in
set_option maxHeartbeats 4000000 in
theorem b_X12_said_26 {p : Program} {l : Launch} {e : Env} {s : State} {m : MethodId} {args : Array Value} {below : List Frame} {meth : Method} {c : Code} {D : va_G} {q : Nat → ClassId} {A : Nat → Prop} {o0 : Nat} {a0 : Nat → Nat} {r : Int32} {T0 : St} (C : cx p s m args meth c cX12_said 4 (some .int) RX12 D q A) {k26 : Int32 × Int32 × Int32 × St → Option (Int32 × St)} (hk26 : ∀ (x1 : Int32) (x2 : Int32) (x3 : Int32) (S0 : St), k26 (x1, x2, x3, S0) = some (r, T0) → ∀ (H : Heap) (locs : List Loc) (ls : Array Slot), va_P D vwCl (fl [g12 q o0 a0 S0]) H → va_D A (fl [g12 q o0 a0 S0]) → va_S A s.heap H locs → lv_has ls 4 [(0, .ref o0), (1, .int x1), (2, .int x2), (3, .int x3)] → W p l e rm_X12_said s m args below meth c H locs 0 0 (MQ below (QI D A r (fl [g12 q o0 a0 T0])) args s 0 0 A) (F0 m 26 ls [])) {x1 : Int32} {x2 : Int32} {x3 : Int32} {S0 : St} (hF : F_X12_said_26 k26 x1 x2 x3 S0 = some (r, T0)) {H : Heap} {locs : List Loc} (hP : va_P D vwCl (fl [g12 q o0 a0 S0]) H) (hD : va_D A (fl [g12 q o0 a0 S0])) (hS : va_S A s.heap H locs) {ls : Array Slot} (hl : lv_has ls 4 [(0, .ref o0), (1, .int x1), (2, .int x2), (3, .int x3)]) : W p l e rm_X12_said s m args below meth c H locs 0 0 (MQ below (QI D A r (fl [g12 q o0 a0 T0])) args s 0 0 A) (F0 m 26 ls []) := by
  unfold F_X12_said_26 at hF
  obtain ⟨hx, hb, hr, hml, hown, hts, hlk, hA, hK, hN, hV⟩ := id C
  refine lv_iload_n hx hb dX12_said_26 rfl (lv_at hl 3 rfl) ?_
  refine lv_aload_n hx hb dX12_said_27 rfl (lv_at hl 0 rfl) ?_
  refine k_get (v := .ref (a0 7)) C fg_X12_33 hP 0 rfl rfl dX12_said_28 ?_
  refine lv_iconst (v := (1 : Int32)) hx hb dX12_said_31 (by decide) ?_
  obtain ⟨h1, hF⟩ := op_ck hF
  refine k_ild (f := S0.2.2.1 6) C hP 2 rfl h1 dX12_said_32 ?_
  refine lv_icmp_ge (tgt := 63) hx hb dX12_said_33 (by decide) (fun c2 => ?_) (fun c2 => ?_)
  · have hF := op_t hF c2
    refine lv_iload_n hx hb dX12_said_63 rfl (lv_at hl 1 rfl) ?_
    refine lv_iconst (v := (-1 : Int32)) hx hb dX12_said_64 (by decide) ?_
    refine lv_icmp_ne (tgt := 72) hx hb dX12_said_65 (by decide) (fun c3 => ?_) (fun c3 => ?_)
    · have hF := op_f hF c3
      refine lv_iconst (v := (-1 : Int32)) hx hb dX12_said_72 (by decide) ?_
      cases hF
      exact k_iret C hP hS dX12_said_73
    · have hF := op_t hF c3
      refine lv_iload_n hx hb dX12_said_68 rfl (lv_at hl 2 rfl) ?_
      refine lv_goto (tgt := 73) hx hb dX12_said_69 (by decide) ?_
      cases hF
      exact k_iret C hP hS dX12_said_73
  · have hF := op_f hF c2
    refine lv_aload_n hx hb dX12_said_36 rfl (lv_at hl 0 rfl) ?_
    refine lv_iload_n hx hb dX12_said_37 rfl (lv_at hl 3 rfl) ?_
    obtain ⟨r5, U6, hc4, hF⟩ := ob2_s hF
    refine k_iall C (k_rV (As := [.int x3]) (rest := []) C (c_X12_isSaid l D q o0 a0 S0 _ x3 hc4) kc_X12_isSaid ml_X12_497 rfl rfl (by decide) hP hD hS (va_recv hK hP (ci := 12) (q0 := 0) rfl rfl) rfl hl.1 rfl (Nat.le_of_ble_eq_true rfl) dX12_said_38 (by decide)) hP hD hS (by simp only [List.map_cons, List.map_nil, gad12]) (fun H locs hP hD hS => ?_)
    refine lv_if_ne (tgt := 47) hx hb dX12_said_41 (by decide) (fun c7 => ?_) (fun c7 => ?_)
    · have hF := op_f hF c7
      refine lv_iload_n hx hb dX12_said_47 rfl (lv_at hl 2 rfl) ?_
      refine lv_iload_n hx hb dX12_said_48 rfl (lv_at hl 1 rfl) ?_
      refine lv_icmp_ne (tgt := 54) hx hb dX12_said_49 (by decide) (fun c8 => ?_) (fun c8 => ?_)
      · have hF := op_f hF c8
        refine lv_iinc (v := (x2 + 1)) (lv' := [(2, .int (x2 + 1)), (0, .ref o0), (1, .int x1), (3, .int x3)]) hx hb dX12_said_54 hl (k := 2) rfl rfl (by decide) rfl (fun ls hl => ?_)
        exact b_X12_said_57 C hk26 hF hP hD hS (lv_sub hl [1, 2, 0, 3] rfl)
      · have hF := op_t hF c8
        refine lv_iload_n hx hb dX12_said_52 rfl (lv_at hl 3 rfl) ?_
        cases hF
        exact k_iret C hP hS dX12_said_53
    · have hF := op_t hF c7
      refine lv_goto (tgt := 57) hx hb dX12_said_44 (by decide) ?_
      exact b_X12_said_57 C hk26 hF hP hD hS (lv_sub hl [0, 1, 2, 3] rfl)
set_option maxRecDepth 100000 in
set_option maxHeartbeats 4000000 in
theorem l_X12_said_26 {p : Program} {l : Launch} {e : Env} {s : State} {m : MethodId} {args : Array Value} {below : List Frame} {meth : Method} {c : Code} {D : va_G} {q : Nat → ClassId} {A : Nat → Prop} {o0 : Nat} {a0 : Nat → Nat} {r : Int32} {T0 : St} (C : cx p s m args meth c cX12_said 4 (some .int) RX12 D q A) {x1 : Int32} {x2 : Int32} {x3 : Int32} {S0 : St} (hF : L_X12_said_26 x1 x2 x3 S0 = some (r, T0)) : ∀ (H : Heap) (locs : List Loc) (ls : Array Slot), va_P D vwCl (fl [g12 q o0 a0 S0]) H → va_D A (fl [g12 q o0 a0 S0]) → va_S A s.heap H locs → lv_has ls 4 [(0, .ref o0), (1, .int x1), (2, .int x2), (3, .int x3)] → W p l e rm_X12_said s m args below meth c H locs 0 0 (MQ below (QI D A r (fl [g12 q o0 a0 T0])) args s 0 0 A) (F0 m 26 ls []) :=
  lp_G _ _ (fun z => ∀ (H : Heap) (locs : List Loc) (ls : Array Slot), va_P D vwCl (fl [g12 q o0 a0 z.2.2.2]) H → va_D A (fl [g12 q o0 a0 z.2.2.2]) → va_S A s.heap H locs → lv_has ls 4 [(0, .ref o0), (1, .int z.1), (2, .int z.2.1), (3, .int z.2.2.1)] → W p l e rm_X12_said s m args below meth c H locs 0 0 (MQ below (QI D A r (fl [g12 q o0 a0 T0])) args s 0 0 A) (F0 m 26 ls [])) (fun kz hkz z hz H locs ls hP hD hS hl => b_X12_said_26 C (fun x1 x2 x3 S0 hz => hkz (x1, x2, x3, S0) hz) hz hP hD hS hl) FU (x1, x2, x3, S0) hF
set_option maxRecDepth 100000 in
set_option maxHeartbeats 4000000 in
theorem c_X12_said (l : Launch) (D : va_G) (q : Nat → ClassId) (o0 : Nat) (a0 : Nat → Nat) (S0 : St) (sz : Nat) (x1 : Int32) {r : Int32} {T0 : St} (hF : F_X12_said S0 x1 = some (r, T0)) : Met l yX12_said (Cond.code yX12_said cX12_said 4 (some .int) :: TB) rm_X12_said (PC D q [.ref o0, .int x1] (fl [g12 q o0 a0 S0]) sz) ((fun A => QI D A r (fl [g12 q o0 a0 T0])) (va_A (fl [g12 q o0 a0 S0]) sz)) 0 0 (va_A (fl [g12 q o0 a0 S0]) sz) := by
  refine k_met (w0 := fl [g12 q o0 a0 S0]) (Q := fun A => QI D A r (fl [g12 q o0 a0 T0])) (by decide +kernel) (Nat.le_of_ble_eq_true rfl) ?_
  intro p e s m args below meth c A ls C hP hD hS hl
  have hl : lv_has ls 4 [(0, .ref o0), (1, .int x1)] := hl
  unfold F_X12_said at hF
  have C : cx p s m args meth c cX12_said 4 (some .int) RX12 D q A := C
  obtain ⟨hx, hb, hr, hml, hown, hts, hlk, hA, hK, hN, hV⟩ := id C
  refine lv_aload_n hx hb dX12_said_0 rfl (lv_at hl 0 rfl) ?_
  refine lv_iconst (v := (0 : Int32)) hx hb dX12_said_1 (by decide) ?_
  obtain ⟨U1, e2, hF⟩ := nw_s hF
  refine k_put (W8 := fl [g12 q o0 a0 U1]) C fp_X12_1 hP hD hS 0 rfl rfl rfl (Nat.le_of_ble_eq_true rfl) dX12_said_2 (by rw [e2]; rfl) (fun H locs hP hD hS => ?_)
  refine lv_aload_n hx hb dX12_said_5 rfl (lv_at hl 0 rfl) ?_
  refine k_get (v := .ref (a0 7)) C fg_X12_33 hP 0 rfl rfl dX12_said_6 ?_
  refine lv_bipush (v := (77 : Int32)) hx hb dX12_said_9 (by decide) ?_
  obtain ⟨h3, hF⟩ := op_ck hF
  refine k_ild (f := U1.2.2.1 6) C hP 2 rfl h3 dX12_said_11 ?_
  refine lv_if_eq (tgt := 20) hx hb dX12_said_12 (by decide) (fun c4 => ?_) (fun c4 => ?_)
  · have hF := op_t hF c4
    refine lv_iconst (v := (-1 : Int32)) hx hb dX12_said_20 (by decide) ?_
    cases hF
    exact k_iret C hP hS dX12_said_21
  · have hF := op_f hF c4
    refine lv_iload_n hx hb dX12_said_15 rfl (lv_at hl 1 rfl) ?_
    refine lv_iconst (v := (-1 : Int32)) hx hb dX12_said_16 (by decide) ?_
    refine lv_icmp_ge (tgt := 22) hx hb dX12_said_17 (by decide) (fun c5 => ?_) (fun c5 => ?_)
    · have hF := op_t hF c5
      refine lv_iconst (v := (0 : Int32)) hx hb dX12_said_22 (by decide) ?_
      refine lv_istore_n (lv' := [(2, .int (0 : Int32)), (0, .ref o0), (1, .int x1)]) hx hb dX12_said_23 rfl hl (by decide) rfl (fun ls hl => ?_)
      refine lv_iconst (v := (0 : Int32)) hx hb dX12_said_24 (by decide) ?_
      refine lv_istore_n (lv' := [(3, .int (0 : Int32)), (2, .int (0 : Int32)), (0, .ref o0), (1, .int x1)]) hx hb dX12_said_25 rfl hl (by decide) rfl (fun ls hl => ?_)
      exact l_X12_said_26 C hF _ _ _ hP hD hS (lv_sub hl [2, 3, 1, 0] rfl)
    · have hF := op_f hF c5
      refine lv_iconst (v := (-1 : Int32)) hx hb dX12_said_20 (by decide) ?_
      cases hF
      exact k_iret C hP hS dX12_said_21

abbrev rm_X12_image : Room := ({ frames := 1, cells := 0, slots := 0, locals := 22 } : Room)
def F_X12_image_51 (k51 : Int32 × Int32 × St → Option (Int32 × St)) (x1 : Int32) (x2 : Int32) (S0 : St) : Option (Int32 × St) := if (13 : Int32) ≤ x2 then (if oob x1 2 then none else nw (sA S0 50 x1 (vp_nar .boolean (1 : Int32))) fun U3 => some ((1 : Int32), U3)) else (if oob x2 26 then none else if oob (((13 : Int32) * x1) + x2) 26 then none else nw (sJ S0 49 (((13 : Int32) * x1) + x2) (S0.2.2.2 9 x2.toNatClampNeg)) fun U7 => k51 (x1, (x2 + 1), U7))
def L_X12_image_51 (x1 : Int32) (x2 : Int32) (S0 : St) : Option (Int32 × St) := lp (fun kz z => F_X12_image_51 kz z.1 z.2.1 z.2.2) FU (x1, x2, S0)
def F_X12_image_18 (k18 : Int32 × Int32 × St → Option (Int32 × St)) (x1 : Int32) (x2 : Int32) (S0 : St) : Option (Int32 × St) := if (258 : Int32) ≤ x2 then (L_X12_image_51 x1 (0 : Int32) S0) else (if oob x2 258 then none else if oob (((258 : Int32) * x1) + x2) 516 then none else nw (sA S0 48 (((258 : Int32) * x1) + x2) (S0.2.2.1 6 x2.toNatClampNeg)) fun U4 => k18 (x1, (x2 + 1), U4))
def L_X12_image_18 (x1 : Int32) (x2 : Int32) (S0 : St) : Option (Int32 × St) := lp (fun kz z => F_X12_image_18 kz z.1 z.2.1 z.2.2) FU (x1, x2, S0)
def F_X12_image (S0 : St) (x1 : Int32) : Option (Int32 × St) := nw (sI S0 0 (0 : Int32)) fun U1 => ob1 (F_X12_isIn x1 (0 : Int32) (1 : Int32)) fun r4 => if r4 = 0 then (some ((0 : Int32), U1)) else (L_X12_image_18 x1 (0 : Int32) U1)
set_option maxRecDepth 100000 in
set_option maxHeartbeats 4000000 in
theorem b_X12_image_51 {p : Program} {l : Launch} {e : Env} {s : State} {m : MethodId} {args : Array Value} {below : List Frame} {meth : Method} {c : Code} {D : va_G} {q : Nat → ClassId} {A : Nat → Prop} {o0 : Nat} {a0 : Nat → Nat} {r : Int32} {T0 : St} (C : cx p s m args meth c cX12_image 3 (some .boolean) RX12 D q A) {k51 : Int32 × Int32 × St → Option (Int32 × St)} (hk51 : ∀ (x1 : Int32) (x2 : Int32) (S0 : St), k51 (x1, x2, S0) = some (r, T0) → ∀ (H : Heap) (locs : List Loc) (ls : Array Slot), va_P D vwCl (fl [g12 q o0 a0 S0]) H → va_D A (fl [g12 q o0 a0 S0]) → va_S A s.heap H locs → lv_has ls 3 [(0, .ref o0), (1, .int x1), (2, .int x2)] → W p l e rm_X12_image s m args below meth c H locs 0 0 (MQ below (QI D A r (fl [g12 q o0 a0 T0])) args s 0 0 A) (F0 m 51 ls [])) {x1 : Int32} {x2 : Int32} {S0 : St} (hF : F_X12_image_51 k51 x1 x2 S0 = some (r, T0)) {H : Heap} {locs : List Loc} (hP : va_P D vwCl (fl [g12 q o0 a0 S0]) H) (hD : va_D A (fl [g12 q o0 a0 S0])) (hS : va_S A s.heap H locs) {ls : Array Slot} (hl : lv_has ls 3 [(0, .ref o0), (1, .int x1), (2, .int x2)]) : W p l e rm_X12_image s m args below meth c H locs 0 0 (MQ below (QI D A r (fl [g12 q o0 a0 T0])) args s 0 0 A) (F0 m 51 ls []) := by
  unfold F_X12_image_51 at hF
  obtain ⟨hx, hb, hr, hml, hown, hts, hlk, hA, hK, hN, hV⟩ := id C
  refine lv_iload_n hx hb dX12_image_51 rfl (lv_at hl 2 rfl) ?_
  refine lv_bipush (v := (13 : Int32)) hx hb dX12_image_52 (by decide) ?_
  refine lv_icmp_ge (tgt := 80) hx hb dX12_image_54 (by decide) (fun c1 => ?_) (fun c1 => ?_)
  · have hF := op_t hF c1
    refine lv_aload_n hx hb dX12_image_80 rfl (lv_at hl 0 rfl) ?_
    refine k_get (v := .ref (a0 51)) C fg_X12_105 hP 0 rfl rfl dX12_image_81 ?_
    refine lv_iload_n hx hb dX12_image_84 rfl (lv_at hl 1 rfl) ?_
    refine lv_iconst (v := (1 : Int32)) hx hb dX12_image_85 (by decide) ?_
    obtain ⟨h2, hF⟩ := op_ck hF
    obtain ⟨U3, e4, hF⟩ := nw_s hF
    refine k_zst (f := S0.2.2.1 50) (W8 := fl [g12 q o0 a0 U3]) C hP hD hS 21 rfl h2 dX12_image_86 (by rw [e4]; rfl) (fun H locs hP hD hS => ?_)
    refine lv_iconst (v := (1 : Int32)) hx hb dX12_image_87 (by decide) ?_
    cases hF
    exact k_zret C (by decide) hP hS dX12_image_88
  · have hF := op_f hF c1
    refine lv_aload_n hx hb dX12_image_57 rfl (lv_at hl 0 rfl) ?_
    refine k_get (v := .ref (a0 50)) C fg_X12_102 hP 0 rfl rfl dX12_image_58 ?_
    refine lv_bipush (v := (13 : Int32)) hx hb dX12_image_61 (by decide) ?_
    refine lv_iload_n hx hb dX12_image_63 rfl (lv_at hl 1 rfl) ?_
    refine lv_imul hx hb dX12_image_64 ?_
    refine lv_iload_n hx hb dX12_image_65 rfl (lv_at hl 2 rfl) ?_
    refine lv_iadd hx hb dX12_image_66 ?_
    refine lv_aload_n hx hb dX12_image_67 rfl (lv_at hl 0 rfl) ?_
    refine k_get (v := .ref (a0 10)) C fg_X12_43 hP 0 rfl rfl dX12_image_68 ?_
    refine lv_iload_n hx hb dX12_image_71 rfl (lv_at hl 2 rfl) ?_
    obtain ⟨h5, hF⟩ := op_ck hF
    refine k_lld (f := S0.2.2.2 9) C hP 5 rfl h5 dX12_image_72 ?_
    obtain ⟨h6, hF⟩ := op_ck hF
    obtain ⟨U7, e8, hF⟩ := nw_s hF
    refine k_lst (f := S0.2.2.2 49) (W8 := fl [g12 q o0 a0 U7]) C hP hD hS 20 rfl h6 dX12_image_73 (by rw [e8]; rfl) (fun H locs hP hD hS => ?_)
    refine lv_iinc (v := (x2 + 1)) (lv' := [(2, .int (x2 + 1)), (0, .ref o0), (1, .int x1)]) hx hb dX12_image_74 hl (k := 2) rfl rfl (by decide) rfl (fun ls hl => ?_)
    refine lv_goto (tgt := 51) hx hb dX12_image_77 (by decide) ?_
    exact hk51 x1 (x2 + 1) U7 hF _ _ _ hP hD hS (lv_sub hl [1, 2, 0] rfl)
set_option maxRecDepth 100000 in
set_option maxHeartbeats 4000000 in
theorem l_X12_image_51 {p : Program} {l : Launch} {e : Env} {s : State} {m : MethodId} {args : Array Value} {below : List Frame} {meth : Method} {c : Code} {D : va_G} {q : Nat → ClassId} {A : Nat → Prop} {o0 : Nat} {a0 : Nat → Nat} {r : Int32} {T0 : St} (C : cx p s m args meth c cX12_image 3 (some .boolean) RX12 D q A) {x1 : Int32} {x2 : Int32} {S0 : St} (hF : L_X12_image_51 x1 x2 S0 = some (r, T0)) : ∀ (H : Heap) (locs : List Loc) (ls : Array Slot), va_P D vwCl (fl [g12 q o0 a0 S0]) H → va_D A (fl [g12 q o0 a0 S0]) → va_S A s.heap H locs → lv_has ls 3 [(0, .ref o0), (1, .int x1), (2, .int x2)] → W p l e rm_X12_image s m args below meth c H locs 0 0 (MQ below (QI D A r (fl [g12 q o0 a0 T0])) args s 0 0 A) (F0 m 51 ls []) :=
  lp_G _ _ (fun z => ∀ (H : Heap) (locs : List Loc) (ls : Array Slot), va_P D vwCl (fl [g12 q o0 a0 z.2.2]) H → va_D A (fl [g12 q o0 a0 z.2.2]) → va_S A s.heap H locs → lv_has ls 3 [(0, .ref o0), (1, .int z.1), (2, .int z.2.1)] → W p l e rm_X12_image s m args below meth c H locs 0 0 (MQ below (QI D A r (fl [g12 q o0 a0 T0])) args s 0 0 A) (F0 m 51 ls [])) (fun kz hkz z hz H locs ls hP hD hS hl => b_X12_image_51 C (fun x1 x2 S0 hz => hkz (x1, x2, S0) hz) hz hP hD hS hl) FU (x1, x2, S0) hF
set_option maxRecDepth 100000 in
set_option maxHeartbeats 4000000 in
theorem b_X12_image_18 {p : Program} {l : Launch} {e : Env} {s : State} {m : MethodId} {args : Array Value} {below : List Frame} {meth : Method} {c : Code} {D : va_G} {q : Nat → ClassId} {A : Nat → Prop} {o0 : Nat} {a0 : Nat → Nat} {r : Int32} {T0 : St} (C : cx p s m args meth c cX12_image 3 (some .boolean) RX12 D q A) {k18 : Int32 × Int32 × St → Option (Int32 × St)} (hk18 : ∀ (x1 : Int32) (x2 : Int32) (S0 : St), k18 (x1, x2, S0) = some (r, T0) → ∀ (H : Heap) (locs : List Loc) (ls : Array Slot), va_P D vwCl (fl [g12 q o0 a0 S0]) H → va_D A (fl [g12 q o0 a0 S0]) → va_S A s.heap H locs → lv_has ls 3 [(0, .ref o0), (1, .int x1), (2, .int x2)] → W p l e rm_X12_image s m args below meth c H locs 0 0 (MQ below (QI D A r (fl [g12 q o0 a0 T0])) args s 0 0 A) (F0 m 18 ls [])) {x1 : Int32} {x2 : Int32} {S0 : St} (hF : F_X12_image_18 k18 x1 x2 S0 = some (r, T0)) {H : Heap} {locs : List Loc} (hP : va_P D vwCl (fl [g12 q o0 a0 S0]) H) (hD : va_D A (fl [g12 q o0 a0 S0])) (hS : va_S A s.heap H locs) {ls : Array Slot} (hl : lv_has ls 3 [(0, .ref o0), (1, .int x1), (2, .int x2)]) : W p l e rm_X12_image s m args below meth c H locs 0 0 (MQ below (QI D A r (fl [g12 q o0 a0 T0])) args s 0 0 A) (F0 m 18 ls []) := by
  unfold F_X12_image_18 at hF
  obtain ⟨hx, hb, hr, hml, hown, hts, hlk, hA, hK, hN, hV⟩ := id C
  refine lv_iload_n hx hb dX12_image_18 rfl (lv_at hl 2 rfl) ?_
  refine lv_sipush (v := (258 : Int32)) hx hb dX12_image_19 (by decide) ?_
  refine lv_icmp_ge (tgt := 49) hx hb dX12_image_22 (by decide) (fun c1 => ?_) (fun c1 => ?_)
  · have hF := op_t hF c1
    refine lv_iconst (v := (0 : Int32)) hx hb dX12_image_49 (by decide) ?_
    refine lv_istore_n (lv' := [(2, .int (0 : Int32)), (0, .ref o0), (1, .int x1)]) hx hb dX12_image_50 rfl hl (by decide) rfl (fun ls hl => ?_)
    exact l_X12_image_51 C hF _ _ _ hP hD hS (lv_sub hl [1, 2, 0] rfl)
  · have hF := op_f hF c1
    refine lv_aload_n hx hb dX12_image_25 rfl (lv_at hl 0 rfl) ?_
    refine k_get (v := .ref (a0 49)) C fg_X12_99 hP 0 rfl rfl dX12_image_26 ?_
    refine lv_sipush (v := (258 : Int32)) hx hb dX12_image_29 (by decide) ?_
    refine lv_iload_n hx hb dX12_image_32 rfl (lv_at hl 1 rfl) ?_
    refine lv_imul hx hb dX12_image_33 ?_
    refine lv_iload_n hx hb dX12_image_34 rfl (lv_at hl 2 rfl) ?_
    refine lv_iadd hx hb dX12_image_35 ?_
    refine lv_aload_n hx hb dX12_image_36 rfl (lv_at hl 0 rfl) ?_
    refine k_get (v := .ref (a0 7)) C fg_X12_33 hP 0 rfl rfl dX12_image_37 ?_
    refine lv_iload_n hx hb dX12_image_40 rfl (lv_at hl 2 rfl) ?_
    obtain ⟨h2, hF⟩ := op_ck hF
    refine k_ild (f := S0.2.2.1 6) C hP 2 rfl h2 dX12_image_41 ?_
    obtain ⟨h3, hF⟩ := op_ck hF
    obtain ⟨U4, e5, hF⟩ := nw_s hF
    refine k_ist (f := S0.2.2.1 48) (W8 := fl [g12 q o0 a0 U4]) C hP hD hS 19 rfl h3 dX12_image_42 (by rw [e5]; rfl) (fun H locs hP hD hS => ?_)
    refine lv_iinc (v := (x2 + 1)) (lv' := [(2, .int (x2 + 1)), (0, .ref o0), (1, .int x1)]) hx hb dX12_image_43 hl (k := 2) rfl rfl (by decide) rfl (fun ls hl => ?_)
    refine lv_goto (tgt := 18) hx hb dX12_image_46 (by decide) ?_
    exact hk18 x1 (x2 + 1) U4 hF _ _ _ hP hD hS (lv_sub hl [1, 2, 0] rfl)
set_option maxRecDepth 100000 in
set_option maxHeartbeats 4000000 in
theorem l_X12_image_18 {p : Program} {l : Launch} {e : Env} {s : State} {m : MethodId} {args : Array Value} {below : List Frame} {meth : Method} {c : Code} {D : va_G} {q : Nat → ClassId} {A : Nat → Prop} {o0 : Nat} {a0 : Nat → Nat} {r : Int32} {T0 : St} (C : cx p s m args meth c cX12_image 3 (some .boolean) RX12 D q A) {x1 : Int32} {x2 : Int32} {S0 : St} (hF : L_X12_image_18 x1 x2 S0 = some (r, T0)) : ∀ (H : Heap) (locs : List Loc) (ls : Array Slot), va_P D vwCl (fl [g12 q o0 a0 S0]) H → va_D A (fl [g12 q o0 a0 S0]) → va_S A s.heap H locs → lv_has ls 3 [(0, .ref o0), (1, .int x1), (2, .int x2)] → W p l e rm_X12_image s m args below meth c H locs 0 0 (MQ below (QI D A r (fl [g12 q o0 a0 T0])) args s 0 0 A) (F0 m 18 ls []) :=
  lp_G _ _ (fun z => ∀ (H : Heap) (locs : List Loc) (ls : Array Slot), va_P D vwCl (fl [g12 q o0 a0 z.2.2]) H → va_D A (fl [g12 q o0 a0 z.2.2]) → va_S A s.heap H locs → lv_has ls 3 [(0, .ref o0), (1, .int z.1), (2, .int z.2.1)] → W p l e rm_X12_image s m args below meth c H locs 0 0 (MQ below (QI D A r (fl [g12 q o0 a0 T0])) args s 0 0 A) (F0 m 18 ls [])) (fun kz hkz z hz H locs ls hP hD hS hl => b_X12_image_18 C (fun x1 x2 S0 hz => hkz (x1, x2, S0) hz) hz hP hD hS hl) FU (x1, x2, S0) hF
set_option maxRecDepth 100000 in
set_option maxHeartbeats 4000000 in
theorem c_X12_image (l : Launch) (D : va_G) (q : Nat → ClassId) (o0 : Nat) (a0 : Nat → Nat) (S0 : St) (sz : Nat) (x1 : Int32) {r : Int32} {T0 : St} (hF : F_X12_image S0 x1 = some (r, T0)) : Met l yX12_image (Cond.code yX12_image cX12_image 3 (some .boolean) :: TB) rm_X12_image (PC D q [.ref o0, .int x1] (fl [g12 q o0 a0 S0]) sz) ((fun A => QI D A r (fl [g12 q o0 a0 T0])) (va_A (fl [g12 q o0 a0 S0]) sz)) 0 0 (va_A (fl [g12 q o0 a0 S0]) sz) := by
  refine k_met (w0 := fl [g12 q o0 a0 S0]) (Q := fun A => QI D A r (fl [g12 q o0 a0 T0])) (by decide +kernel) (Nat.le_of_ble_eq_true rfl) ?_
  intro p e s m args below meth c A ls C hP hD hS hl
  have hl : lv_has ls 3 [(0, .ref o0), (1, .int x1)] := hl
  unfold F_X12_image at hF
  have C : cx p s m args meth c cX12_image 3 (some .boolean) RX12 D q A := C
  obtain ⟨hx, hb, hr, hml, hown, hts, hlk, hA, hK, hN, hV⟩ := id C
  refine lv_aload_n hx hb dX12_image_0 rfl (lv_at hl 0 rfl) ?_
  refine lv_iconst (v := (0 : Int32)) hx hb dX12_image_1 (by decide) ?_
  obtain ⟨U1, e2, hF⟩ := nw_s hF
  refine k_put (W8 := fl [g12 q o0 a0 U1]) C fp_X12_1 hP hD hS 0 rfl rfl rfl (Nat.le_of_ble_eq_true rfl) dX12_image_2 (by rw [e2]; rfl) (fun H locs hP hD hS => ?_)
  refine lv_iload_n hx hb dX12_image_5 rfl (lv_at hl 1 rfl) ?_
  refine lv_iconst (v := (0 : Int32)) hx hb dX12_image_6 (by decide) ?_
  refine lv_iconst (v := (1 : Int32)) hx hb dX12_image_7 (by decide) ?_
  obtain ⟨r4, hc3, hF⟩ := ob1_s hF
  refine k_inil C (k_rS (As := [.int x1, .int (0 : Int32), .int (1 : Int32)]) (rest := []) C (c_X12_isIn l D q _ x1 (0 : Int32) (1 : Int32) hc3) kc_X12_isIn ml_X12_225 rfl rfl (by decide) (fun k x h => by simp at h) (⟨fun i j x y h => by simp at h, fun k x h => by simp at h⟩ : va_D A []) hS rfl hl.1 rfl (Nat.le_of_ble_eq_true rfl) dX12_image_8 (by decide)) hP hD hS (fun H locs hP hD hS => ?_)
  refine lv_if_ne (tgt := 16) hx hb dX12_image_11 (by decide) (fun c5 => ?_) (fun c5 => ?_)
  · have hF := op_f hF c5
    refine lv_iconst (v := (0 : Int32)) hx hb dX12_image_16 (by decide) ?_
    refine lv_istore_n (lv' := [(2, .int (0 : Int32)), (0, .ref o0), (1, .int x1)]) hx hb dX12_image_17 rfl hl (by decide) rfl (fun ls hl => ?_)
    exact l_X12_image_18 C hF _ _ _ hP hD hS (lv_sub hl [1, 2, 0] rfl)
  · have hF := op_t hF c5
    refine lv_iconst (v := (0 : Int32)) hx hb dX12_image_14 (by decide) ?_
    cases hF
    exact k_zret C (by decide) hP hS dX12_image_15

abbrev rm_X12_restore : Room := ({ frames := 1, cells := 0, slots := 0, locals := 22 } : Room)
def F_X12_restore_60 (k60 : Int32 × Int32 × St → Option (Int32 × St)) (x1 : Int32) (x2 : Int32) (S0 : St) : Option (Int32 × St) := if (13 : Int32) ≤ x2 then (nw (sI S0 22 (0 : Int32)) fun U2 => some ((1 : Int32), U2)) else (if oob (((13 : Int32) * x1) + x2) 26 then none else if oob x2 26 then none else nw (sJ S0 9 x2 (S0.2.2.2 49 (((13 : Int32) * x1) + x2).toNatClampNeg)) fun U6 => k60 (x1, (x2 + 1), U6))
def L_X12_restore_60 (x1 : Int32) (x2 : Int32) (S0 : St) : Option (Int32 × St) := lp (fun kz z => F_X12_restore_60 kz z.1 z.2.1 z.2.2) FU (x1, x2, S0)
def F_X12_restore_27 (k27 : Int32 × Int32 × St → Option (Int32 × St)) (x1 : Int32) (x2 : Int32) (S0 : St) : Option (Int32 × St) := if (258 : Int32) ≤ x2 then (L_X12_restore_60 x1 (0 : Int32) S0) else (if oob (((258 : Int32) * x1) + x2) 516 then none else if oob x2 258 then none else nw (sA S0 6 x2 (S0.2.2.1 48 (((258 : Int32) * x1) + x2).toNatClampNeg)) fun U4 => k27 (x1, (x2 + 1), U4))
def L_X12_restore_27 (x1 : Int32) (x2 : Int32) (S0 : St) : Option (Int32 × St) := lp (fun kz z => F_X12_restore_27 kz z.1 z.2.1 z.2.2) FU (x1, x2, S0)
def F_X12_restore (S0 : St) (x1 : Int32) : Option (Int32 × St) := nw (sI S0 0 (0 : Int32)) fun U1 => ob1 (F_X12_isIn x1 (0 : Int32) (1 : Int32)) fun r4 => if r4 = 0 then (some ((0 : Int32), U1)) else (if oob x1 2 then none else if (U1.2.2.1 50 x1.toNatClampNeg) = 0 then (some ((0 : Int32), U1)) else (L_X12_restore_27 x1 (0 : Int32) U1))
set_option maxRecDepth 100000 in
set_option maxHeartbeats 4000000 in
theorem b_X12_restore_60 {p : Program} {l : Launch} {e : Env} {s : State} {m : MethodId} {args : Array Value} {below : List Frame} {meth : Method} {c : Code} {D : va_G} {q : Nat → ClassId} {A : Nat → Prop} {o0 : Nat} {a0 : Nat → Nat} {r : Int32} {T0 : St} (C : cx p s m args meth c cX12_restore 3 (some .boolean) RX12 D q A) {k60 : Int32 × Int32 × St → Option (Int32 × St)} (hk60 : ∀ (x1 : Int32) (x2 : Int32) (S0 : St), k60 (x1, x2, S0) = some (r, T0) → ∀ (H : Heap) (locs : List Loc) (ls : Array Slot), va_P D vwCl (fl [g12 q o0 a0 S0]) H → va_D A (fl [g12 q o0 a0 S0]) → va_S A s.heap H locs → lv_has ls 3 [(0, .ref o0), (1, .int x1), (2, .int x2)] → W p l e rm_X12_restore s m args below meth c H locs 0 0 (MQ below (QI D A r (fl [g12 q o0 a0 T0])) args s 0 0 A) (F0 m 60 ls [])) {x1 : Int32} {x2 : Int32} {S0 : St} (hF : F_X12_restore_60 k60 x1 x2 S0 = some (r, T0)) {H : Heap} {locs : List Loc} (hP : va_P D vwCl (fl [g12 q o0 a0 S0]) H) (hD : va_D A (fl [g12 q o0 a0 S0])) (hS : va_S A s.heap H locs) {ls : Array Slot} (hl : lv_has ls 3 [(0, .ref o0), (1, .int x1), (2, .int x2)]) : W p l e rm_X12_restore s m args below meth c H locs 0 0 (MQ below (QI D A r (fl [g12 q o0 a0 T0])) args s 0 0 A) (F0 m 60 ls []) := by
  unfold F_X12_restore_60 at hF
  obtain ⟨hx, hb, hr, hml, hown, hts, hlk, hA, hK, hN, hV⟩ := id C
  refine lv_iload_n hx hb dX12_restore_60 rfl (lv_at hl 2 rfl) ?_
  refine lv_bipush (v := (13 : Int32)) hx hb dX12_restore_61 (by decide) ?_
  refine lv_icmp_ge (tgt := 89) hx hb dX12_restore_63 (by decide) (fun c1 => ?_) (fun c1 => ?_)
  · have hF := op_t hF c1
    refine lv_aload_n hx hb dX12_restore_89 rfl (lv_at hl 0 rfl) ?_
    refine lv_iconst (v := (0 : Int32)) hx hb dX12_restore_90 (by decide) ?_
    obtain ⟨U2, e3, hF⟩ := nw_s hF
    refine k_put (W8 := fl [g12 q o0 a0 U2]) C fp_X12_290 hP hD hS 0 rfl rfl rfl (Nat.le_of_ble_eq_true rfl) dX12_restore_91 (by rw [e3]; rfl) (fun H locs hP hD hS => ?_)
    refine lv_iconst (v := (1 : Int32)) hx hb dX12_restore_94 (by decide) ?_
    cases hF
    exact k_zret C (by decide) hP hS dX12_restore_95
  · have hF := op_f hF c1
    refine lv_aload_n hx hb dX12_restore_66 rfl (lv_at hl 0 rfl) ?_
    refine k_get (v := .ref (a0 10)) C fg_X12_43 hP 0 rfl rfl dX12_restore_67 ?_
    refine lv_iload_n hx hb dX12_restore_70 rfl (lv_at hl 2 rfl) ?_
    refine lv_aload_n hx hb dX12_restore_71 rfl (lv_at hl 0 rfl) ?_
    refine k_get (v := .ref (a0 50)) C fg_X12_102 hP 0 rfl rfl dX12_restore_72 ?_
    refine lv_bipush (v := (13 : Int32)) hx hb dX12_restore_75 (by decide) ?_
    refine lv_iload_n hx hb dX12_restore_77 rfl (lv_at hl 1 rfl) ?_
    refine lv_imul hx hb dX12_restore_78 ?_
    refine lv_iload_n hx hb dX12_restore_79 rfl (lv_at hl 2 rfl) ?_
    refine lv_iadd hx hb dX12_restore_80 ?_
    obtain ⟨h4, hF⟩ := op_ck hF
    refine k_lld (f := S0.2.2.2 49) C hP 20 rfl h4 dX12_restore_81 ?_
    obtain ⟨h5, hF⟩ := op_ck hF
    obtain ⟨U6, e7, hF⟩ := nw_s hF
    refine k_lst (f := S0.2.2.2 9) (W8 := fl [g12 q o0 a0 U6]) C hP hD hS 5 rfl h5 dX12_restore_82 (by rw [e7]; rfl) (fun H locs hP hD hS => ?_)
    refine lv_iinc (v := (x2 + 1)) (lv' := [(2, .int (x2 + 1)), (0, .ref o0), (1, .int x1)]) hx hb dX12_restore_83 hl (k := 2) rfl rfl (by decide) rfl (fun ls hl => ?_)
    refine lv_goto (tgt := 60) hx hb dX12_restore_86 (by decide) ?_
    exact hk60 x1 (x2 + 1) U6 hF _ _ _ hP hD hS (lv_sub hl [1, 2, 0] rfl)
set_option maxRecDepth 100000 in
set_option maxHeartbeats 4000000 in
theorem l_X12_restore_60 {p : Program} {l : Launch} {e : Env} {s : State} {m : MethodId} {args : Array Value} {below : List Frame} {meth : Method} {c : Code} {D : va_G} {q : Nat → ClassId} {A : Nat → Prop} {o0 : Nat} {a0 : Nat → Nat} {r : Int32} {T0 : St} (C : cx p s m args meth c cX12_restore 3 (some .boolean) RX12 D q A) {x1 : Int32} {x2 : Int32} {S0 : St} (hF : L_X12_restore_60 x1 x2 S0 = some (r, T0)) : ∀ (H : Heap) (locs : List Loc) (ls : Array Slot), va_P D vwCl (fl [g12 q o0 a0 S0]) H → va_D A (fl [g12 q o0 a0 S0]) → va_S A s.heap H locs → lv_has ls 3 [(0, .ref o0), (1, .int x1), (2, .int x2)] → W p l e rm_X12_restore s m args below meth c H locs 0 0 (MQ below (QI D A r (fl [g12 q o0 a0 T0])) args s 0 0 A) (F0 m 60 ls []) :=
  lp_G _ _ (fun z => ∀ (H : Heap) (locs : List Loc) (ls : Array Slot), va_P D vwCl (fl [g12 q o0 a0 z.2.2]) H → va_D A (fl [g12 q o0 a0 z.2.2]) → va_S A s.heap H locs → lv_has ls 3 [(0, .ref o0), (1, .int z.1), (2, .int z.2.1)] → W p l e rm_X12_restore s m args below meth c H locs 0 0 (MQ below (QI D A r (fl [g12 q o0 a0 T0])) args s 0 0 A) (F0 m 60 ls [])) (fun kz hkz z hz H locs ls hP hD hS hl => b_X12_restore_60 C (fun x1 x2 S0 hz => hkz (x1, x2, S0) hz) hz hP hD hS hl) FU (x1, x2, S0) hF
set_option maxRecDepth 100000 in
set_option maxHeartbeats 4000000 in
theorem b_X12_restore_27 {p : Program} {l : Launch} {e : Env} {s : State} {m : MethodId} {args : Array Value} {below : List Frame} {meth : Method} {c : Code} {D : va_G} {q : Nat → ClassId} {A : Nat → Prop} {o0 : Nat} {a0 : Nat → Nat} {r : Int32} {T0 : St} (C : cx p s m args meth c cX12_restore 3 (some .boolean) RX12 D q A) {k27 : Int32 × Int32 × St → Option (Int32 × St)} (hk27 : ∀ (x1 : Int32) (x2 : Int32) (S0 : St), k27 (x1, x2, S0) = some (r, T0) → ∀ (H : Heap) (locs : List Loc) (ls : Array Slot), va_P D vwCl (fl [g12 q o0 a0 S0]) H → va_D A (fl [g12 q o0 a0 S0]) → va_S A s.heap H locs → lv_has ls 3 [(0, .ref o0), (1, .int x1), (2, .int x2)] → W p l e rm_X12_restore s m args below meth c H locs 0 0 (MQ below (QI D A r (fl [g12 q o0 a0 T0])) args s 0 0 A) (F0 m 27 ls [])) {x1 : Int32} {x2 : Int32} {S0 : St} (hF : F_X12_restore_27 k27 x1 x2 S0 = some (r, T0)) {H : Heap} {locs : List Loc} (hP : va_P D vwCl (fl [g12 q o0 a0 S0]) H) (hD : va_D A (fl [g12 q o0 a0 S0])) (hS : va_S A s.heap H locs) {ls : Array Slot} (hl : lv_has ls 3 [(0, .ref o0), (1, .int x1), (2, .int x2)]) : W p l e rm_X12_restore s m args below meth c H locs 0 0 (MQ below (QI D A r (fl [g12 q o0 a0 T0])) args s 0 0 A) (F0 m 27 ls []) := by
  unfold F_X12_restore_27 at hF
  obtain ⟨hx, hb, hr, hml, hown, hts, hlk, hA, hK, hN, hV⟩ := id C
  refine lv_iload_n hx hb dX12_restore_27 rfl (lv_at hl 2 rfl) ?_
  refine lv_sipush (v := (258 : Int32)) hx hb dX12_restore_28 (by decide) ?_
  refine lv_icmp_ge (tgt := 58) hx hb dX12_restore_31 (by decide) (fun c1 => ?_) (fun c1 => ?_)
  · have hF := op_t hF c1
    refine lv_iconst (v := (0 : Int32)) hx hb dX12_restore_58 (by decide) ?_
    refine lv_istore_n (lv' := [(2, .int (0 : Int32)), (0, .ref o0), (1, .int x1)]) hx hb dX12_restore_59 rfl hl (by decide) rfl (fun ls hl => ?_)
    exact l_X12_restore_60 C hF _ _ _ hP hD hS (lv_sub hl [1, 2, 0] rfl)
  · have hF := op_f hF c1
    refine lv_aload_n hx hb dX12_restore_34 rfl (lv_at hl 0 rfl) ?_
    refine k_get (v := .ref (a0 7)) C fg_X12_33 hP 0 rfl rfl dX12_restore_35 ?_
    refine lv_iload_n hx hb dX12_restore_38 rfl (lv_at hl 2 rfl) ?_
    refine lv_aload_n hx hb dX12_restore_39 rfl (lv_at hl 0 rfl) ?_
    refine k_get (v := .ref (a0 49)) C fg_X12_99 hP 0 rfl rfl dX12_restore_40 ?_
    refine lv_sipush (v := (258 : Int32)) hx hb dX12_restore_43 (by decide) ?_
    refine lv_iload_n hx hb dX12_restore_46 rfl (lv_at hl 1 rfl) ?_
    refine lv_imul hx hb dX12_restore_47 ?_
    refine lv_iload_n hx hb dX12_restore_48 rfl (lv_at hl 2 rfl) ?_
    refine lv_iadd hx hb dX12_restore_49 ?_
    obtain ⟨h2, hF⟩ := op_ck hF
    refine k_ild (f := S0.2.2.1 48) C hP 19 rfl h2 dX12_restore_50 ?_
    obtain ⟨h3, hF⟩ := op_ck hF
    obtain ⟨U4, e5, hF⟩ := nw_s hF
    refine k_ist (f := S0.2.2.1 6) (W8 := fl [g12 q o0 a0 U4]) C hP hD hS 2 rfl h3 dX12_restore_51 (by rw [e5]; rfl) (fun H locs hP hD hS => ?_)
    refine lv_iinc (v := (x2 + 1)) (lv' := [(2, .int (x2 + 1)), (0, .ref o0), (1, .int x1)]) hx hb dX12_restore_52 hl (k := 2) rfl rfl (by decide) rfl (fun ls hl => ?_)
    refine lv_goto (tgt := 27) hx hb dX12_restore_55 (by decide) ?_
    exact hk27 x1 (x2 + 1) U4 hF _ _ _ hP hD hS (lv_sub hl [1, 2, 0] rfl)
set_option maxRecDepth 100000 in
set_option maxHeartbeats 4000000 in
theorem l_X12_restore_27 {p : Program} {l : Launch} {e : Env} {s : State} {m : MethodId} {args : Array Value} {below : List Frame} {meth : Method} {c : Code} {D : va_G} {q : Nat → ClassId} {A : Nat → Prop} {o0 : Nat} {a0 : Nat → Nat} {r : Int32} {T0 : St} (C : cx p s m args meth c cX12_restore 3 (some .boolean) RX12 D q A) {x1 : Int32} {x2 : Int32} {S0 : St} (hF : L_X12_restore_27 x1 x2 S0 = some (r, T0)) : ∀ (H : Heap) (locs : List Loc) (ls : Array Slot), va_P D vwCl (fl [g12 q o0 a0 S0]) H → va_D A (fl [g12 q o0 a0 S0]) → va_S A s.heap H locs → lv_has ls 3 [(0, .ref o0), (1, .int x1), (2, .int x2)] → W p l e rm_X12_restore s m args below meth c H locs 0 0 (MQ below (QI D A r (fl [g12 q o0 a0 T0])) args s 0 0 A) (F0 m 27 ls []) :=
  lp_G _ _ (fun z => ∀ (H : Heap) (locs : List Loc) (ls : Array Slot), va_P D vwCl (fl [g12 q o0 a0 z.2.2]) H → va_D A (fl [g12 q o0 a0 z.2.2]) → va_S A s.heap H locs → lv_has ls 3 [(0, .ref o0), (1, .int z.1), (2, .int z.2.1)] → W p l e rm_X12_restore s m args below meth c H locs 0 0 (MQ below (QI D A r (fl [g12 q o0 a0 T0])) args s 0 0 A) (F0 m 27 ls [])) (fun kz hkz z hz H locs ls hP hD hS hl => b_X12_restore_27 C (fun x1 x2 S0 hz => hkz (x1, x2, S0) hz) hz hP hD hS hl) FU (x1, x2, S0) hF
set_option maxRecDepth 100000 in
set_option maxHeartbeats 4000000 in
theorem c_X12_restore (l : Launch) (D : va_G) (q : Nat → ClassId) (o0 : Nat) (a0 : Nat → Nat) (S0 : St) (sz : Nat) (x1 : Int32) {r : Int32} {T0 : St} (hF : F_X12_restore S0 x1 = some (r, T0)) : Met l yX12_restore (Cond.code yX12_restore cX12_restore 3 (some .boolean) :: TB) rm_X12_restore (PC D q [.ref o0, .int x1] (fl [g12 q o0 a0 S0]) sz) ((fun A => QI D A r (fl [g12 q o0 a0 T0])) (va_A (fl [g12 q o0 a0 S0]) sz)) 0 0 (va_A (fl [g12 q o0 a0 S0]) sz) := by
  refine k_met (w0 := fl [g12 q o0 a0 S0]) (Q := fun A => QI D A r (fl [g12 q o0 a0 T0])) (by decide +kernel) (Nat.le_of_ble_eq_true rfl) ?_
  intro p e s m args below meth c A ls C hP hD hS hl
  have hl : lv_has ls 3 [(0, .ref o0), (1, .int x1)] := hl
  unfold F_X12_restore at hF
  have C : cx p s m args meth c cX12_restore 3 (some .boolean) RX12 D q A := C
  obtain ⟨hx, hb, hr, hml, hown, hts, hlk, hA, hK, hN, hV⟩ := id C
  refine lv_aload_n hx hb dX12_restore_0 rfl (lv_at hl 0 rfl) ?_
  refine lv_iconst (v := (0 : Int32)) hx hb dX12_restore_1 (by decide) ?_
  obtain ⟨U1, e2, hF⟩ := nw_s hF
  refine k_put (W8 := fl [g12 q o0 a0 U1]) C fp_X12_1 hP hD hS 0 rfl rfl rfl (Nat.le_of_ble_eq_true rfl) dX12_restore_2 (by rw [e2]; rfl) (fun H locs hP hD hS => ?_)
  refine lv_iload_n hx hb dX12_restore_5 rfl (lv_at hl 1 rfl) ?_
  refine lv_iconst (v := (0 : Int32)) hx hb dX12_restore_6 (by decide) ?_
  refine lv_iconst (v := (1 : Int32)) hx hb dX12_restore_7 (by decide) ?_
  obtain ⟨r4, hc3, hF⟩ := ob1_s hF
  refine k_inil C (k_rS (As := [.int x1, .int (0 : Int32), .int (1 : Int32)]) (rest := []) C (c_X12_isIn l D q _ x1 (0 : Int32) (1 : Int32) hc3) kc_X12_isIn ml_X12_225 rfl rfl (by decide) (fun k x h => by simp at h) (⟨fun i j x y h => by simp at h, fun k x h => by simp at h⟩ : va_D A []) hS rfl hl.1 rfl (Nat.le_of_ble_eq_true rfl) dX12_restore_8 (by decide)) hP hD hS (fun H locs hP hD hS => ?_)
  refine lv_if_eq (tgt := 23) hx hb dX12_restore_11 (by decide) (fun c5 => ?_) (fun c5 => ?_)
  · have hF := op_t hF c5
    refine lv_iconst (v := (0 : Int32)) hx hb dX12_restore_23 (by decide) ?_
    cases hF
    exact k_zret C (by decide) hP hS dX12_restore_24
  · have hF := op_f hF c5
    refine lv_aload_n hx hb dX12_restore_14 rfl (lv_at hl 0 rfl) ?_
    refine k_get (v := .ref (a0 51)) C fg_X12_105 hP 0 rfl rfl dX12_restore_15 ?_
    refine lv_iload_n hx hb dX12_restore_18 rfl (lv_at hl 1 rfl) ?_
    obtain ⟨h6, hF⟩ := op_ck hF
    refine k_zld (f := U1.2.2.1 50) C hP 21 rfl h6 dX12_restore_19 ?_
    refine lv_if_ne (tgt := 25) hx hb dX12_restore_20 (by decide) (fun c7 => ?_) (fun c7 => ?_)
    · have hF := op_f hF c7
      refine lv_iconst (v := (0 : Int32)) hx hb dX12_restore_25 (by decide) ?_
      refine lv_istore_n (lv' := [(2, .int (0 : Int32)), (0, .ref o0), (1, .int x1)]) hx hb dX12_restore_26 rfl hl (by decide) rfl (fun ls hl => ?_)
      exact l_X12_restore_27 C hF _ _ _ hP hD hS (lv_sub hl [1, 2, 0] rfl)
    · have hF := op_t hF c7
      refine lv_iconst (v := (0 : Int32)) hx hb dX12_restore_23 (by decide) ?_
      cases hF
      exact k_zret C (by decide) hP hS dX12_restore_24

abbrev rm_X12_count : Room := ({ frames := 1, cells := 0, slots := 0, locals := 22 } : Room)
def F_X12_count (S0 : St) (x1 : Int32) : Option (Int32 × St) := nw (sI S0 0 (0 : Int32)) fun U1 => if x1 = (2 : Int32) then (some ((U1.1 2), U1)) else (ob1 (F_X12_isIn x1 (0 : Int32) (1 : Int32)) fun r5 => if r5 = 0 then (some ((-1 : Int32), U1)) else (if oob x1 258 then none else some ((U1.2.2.1 6 x1.toNatClampNeg), U1)))
set_option maxRecDepth 100000 in
set_option maxHeartbeats 4000000 in
theorem c_X12_count (l : Launch) (D : va_G) (q : Nat → ClassId) (o0 : Nat) (a0 : Nat → Nat) (S0 : St) (sz : Nat) (x1 : Int32) {r : Int32} {T0 : St} (hF : F_X12_count S0 x1 = some (r, T0)) : Met l yX12_count (Cond.code yX12_count cX12_count 2 (some .int) :: TB) rm_X12_count (PC D q [.ref o0, .int x1] (fl [g12 q o0 a0 S0]) sz) ((fun A => QI D A r (fl [g12 q o0 a0 T0])) (va_A (fl [g12 q o0 a0 S0]) sz)) 0 0 (va_A (fl [g12 q o0 a0 S0]) sz) := by
  refine k_met (w0 := fl [g12 q o0 a0 S0]) (Q := fun A => QI D A r (fl [g12 q o0 a0 T0])) (by decide +kernel) (Nat.le_of_ble_eq_true rfl) ?_
  intro p e s m args below meth c A ls C hP hD hS hl
  have hl : lv_has ls 2 [(0, .ref o0), (1, .int x1)] := hl
  unfold F_X12_count at hF
  have C : cx p s m args meth c cX12_count 2 (some .int) RX12 D q A := C
  obtain ⟨hx, hb, hr, hml, hown, hts, hlk, hA, hK, hN, hV⟩ := id C
  refine lv_aload_n hx hb dX12_count_0 rfl (lv_at hl 0 rfl) ?_
  refine lv_iconst (v := (0 : Int32)) hx hb dX12_count_1 (by decide) ?_
  obtain ⟨U1, e2, hF⟩ := nw_s hF
  refine k_put (W8 := fl [g12 q o0 a0 U1]) C fp_X12_1 hP hD hS 0 rfl rfl rfl (Nat.le_of_ble_eq_true rfl) dX12_count_2 (by rw [e2]; rfl) (fun H locs hP hD hS => ?_)
  refine lv_iload_n hx hb dX12_count_5 rfl (lv_at hl 1 rfl) ?_
  refine lv_iconst (v := (2 : Int32)) hx hb dX12_count_6 (by decide) ?_
  refine lv_icmp_ne (tgt := 17) hx hb dX12_count_7 (by decide) (fun c3 => ?_) (fun c3 => ?_)
  · have hF := op_f hF c3
    refine lv_iload_n hx hb dX12_count_17 rfl (lv_at hl 1 rfl) ?_
    refine lv_iconst (v := (0 : Int32)) hx hb dX12_count_18 (by decide) ?_
    refine lv_iconst (v := (1 : Int32)) hx hb dX12_count_19 (by decide) ?_
    obtain ⟨r5, hc4, hF⟩ := ob1_s hF
    refine k_inil C (k_rS (As := [.int x1, .int (0 : Int32), .int (1 : Int32)]) (rest := []) C (c_X12_isIn l D q _ x1 (0 : Int32) (1 : Int32) hc4) kc_X12_isIn ml_X12_225 rfl rfl (by decide) (fun k x h => by simp at h) (⟨fun i j x y h => by simp at h, fun k x h => by simp at h⟩ : va_D A []) hS rfl hl.1 rfl (Nat.le_of_ble_eq_true rfl) dX12_count_20 (by decide)) hP hD hS (fun H locs hP hD hS => ?_)
    refine lv_if_eq (tgt := 35) hx hb dX12_count_23 (by decide) (fun c6 => ?_) (fun c6 => ?_)
    · have hF := op_t hF c6
      refine lv_iconst (v := (-1 : Int32)) hx hb dX12_count_35 (by decide) ?_
      cases hF
      exact k_iret C hP hS dX12_count_36
    · have hF := op_f hF c6
      refine lv_aload_n hx hb dX12_count_26 rfl (lv_at hl 0 rfl) ?_
      refine k_get (v := .ref (a0 7)) C fg_X12_33 hP 0 rfl rfl dX12_count_27 ?_
      refine lv_iload_n hx hb dX12_count_30 rfl (lv_at hl 1 rfl) ?_
      obtain ⟨h7, hF⟩ := op_ck hF
      refine k_ild (f := U1.2.2.1 6) C hP 2 rfl h7 dX12_count_31 ?_
      refine lv_goto (tgt := 36) hx hb dX12_count_32 (by decide) ?_
      cases hF
      exact k_iret C hP hS dX12_count_36
  · have hF := op_t hF c3
    refine lv_aload_n hx hb dX12_count_10 rfl (lv_at hl 0 rfl) ?_
    refine k_get (v := .int (U1.1 2)) C fg_X12_7 hP 0 rfl rfl dX12_count_11 ?_
    refine lv_goto (tgt := 36) hx hb dX12_count_14 (by decide) ?_
    cases hF
    exact k_iret C hP hS dX12_count_36
