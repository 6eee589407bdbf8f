abbrev rm_X12_person : Room := ({ frames := 4, cells := 0, slots := 0, locals := 87 } : Room)
def F_X12_person_24 (x1 : Int32) (x2 : Int32) (s1 : Int32) (S0 : St) : Option (Int32 × St) := ob2 (F_X12_throwsIf S0 s1) fun r2 U3 => if r2 = 0 then (if x2 = (0 : Int32) then (if oob ((59 : Int32) + x1) 258 then none else some ((U3.2.2.1 6 ((59 : Int32) + x1).toNatClampNeg), U3)) else if x2 = (1 : Int32) then (if oob ((36 : Int32) + x1) 258 then none else some ((U3.2.2.1 6 ((36 : Int32) + x1).toNatClampNeg), U3)) else if x2 = (2 : Int32) then (if oob ((24 : Int32) + x1) 258 then none else some ((U3.2.2.1 6 ((24 : Int32) + x1).toNatClampNeg), U3)) else if x2 = (3 : Int32) then (if oob ((65 : Int32) + x1) 258 then none else some (((U3.2.2.1 6 ((65 : Int32) + x1).toNatClampNeg) - (1 : Int32)), U3)) else if x2 = (4 : Int32) then (if oob ((71 : Int32) + x1) 258 then none else some ((U3.2.2.1 6 ((71 : Int32) + x1).toNatClampNeg), U3)) else if x2 = (5 : Int32) then (ob1 (F_X12_canOf U3 x1) fun r17 => some (r17, U3)) else ob1 (F_X12_friendsOf U3 x1) fun r19 => some (r19, U3)) else (some ((0 : Int32), U3))
def F_X12_person_19 (x1 : Int32) (x2 : Int32) (S0 : St) : Option (Int32 × St) := F_X12_person_24 x1 x2 (1 : Int32) S0
def F_X12_person (S0 : St) (x1 : Int32) (x2 : Int32) : Option (Int32 × St) := ob1 (F_X12_isPerson S0 x1) fun r2 => if r2 = 0 then (F_X12_person_19 x1 x2 S0) else (ob1 (F_X12_isIn x2 (0 : Int32) (6 : Int32)) fun r5 => if r5 = 0 then (F_X12_person_19 x1 x2 S0) else (F_X12_person_24 x1 x2 (0 : Int32) S0))
set_option maxRecDepth 100000 in
set_option maxHeartbeats 4000000 in
theorem b_X12_person_24 {p : Program} {l : Launch} {e : Env} {s : State} {m : MethodId} {args : Array Value} {below : List Frame} {meth : Method} {c : Code} {D : va_G} {q : Nat → ClassId} {A : Nat → Prop} {o0 : Nat} {a0 : Nat → Nat} {r : Int32} {T0 : St} (C : cx p s m args meth c cX12_person 3 (some .int) RX12 D q A) {x1 : Int32} {x2 : Int32} {s1 : Int32} {S0 : St} (hF : F_X12_person_24 x1 x2 s1 S0 = some (r, T0)) {H : Heap} {locs : List Loc} (hP : va_P D vwCl (fl [g12 q o0 a0 S0]) H) (hD : va_D A (fl [g12 q o0 a0 S0])) (hS : va_S A s.heap H locs) {ls : Array Slot} (hl : lv_has ls 3 [(0, .ref o0), (1, .int x1), (2, .int x2)]) : W p l e rm_X12_person s m args below meth c H locs 0 0 (MQ below (QI D A r (fl [g12 q o0 a0 T0])) args s 0 0 A) (F0 m 24 ls [.int s1, .ref o0]) := by
  unfold F_X12_person_24 at hF
  obtain ⟨hx, hb, hr, hml, hown, hts, hlk, hA, hK, hN, hV⟩ := id C
  obtain ⟨r2, U3, hc1, hF⟩ := ob2_s hF
  refine k_iall C (k_rV (As := [.int s1]) (rest := []) C (c_X12_throwsIf l D q o0 a0 S0 _ s1 hc1) kc_X12_throwsIf ml_X12_321 rfl rfl (by decide) hP hD hS (va_recv hK hP (ci := 12) (q0 := 0) rfl rfl) rfl hl.1 rfl (Nat.le_of_ble_eq_true rfl) dX12_person_24 (by decide)) hP hD hS (by simp only [List.map_cons, List.map_nil, gad12]) (fun H locs hP hD hS => ?_)
  refine lv_if_eq (tgt := 32) hx hb dX12_person_27 (by decide) (fun c4 => ?_) (fun c4 => ?_)
  · have hF := op_t hF c4
    refine lv_iload_n hx hb dX12_person_32 rfl (lv_at hl 2 rfl) ?_
    by_cases c5 : x2 = (0 : Int32)
    · have hF := op_t hF c5
      refine lv_tableIn (tgt := 72) hx hb dX12_person_33 (by rw [c5]; decide) (by rw [c5]; decide) (by rw [c5]; rfl) (by decide) ?_
      refine lv_aload_n hx hb dX12_person_72 rfl (lv_at hl 0 rfl) ?_
      refine k_get (v := .ref (a0 7)) C fg_X12_33 hP 0 rfl rfl dX12_person_73 ?_
      refine lv_bipush (v := (59 : Int32)) hx hb dX12_person_76 (by decide) ?_
      refine lv_iload_n hx hb dX12_person_78 rfl (lv_at hl 1 rfl) ?_
      refine lv_iadd hx hb dX12_person_79 ?_
      obtain ⟨h6, hF⟩ := op_ck hF
      refine k_ild (f := U3.2.2.1 6) C hP 2 rfl h6 dX12_person_80 ?_
      cases hF
      exact k_iret C hP hS dX12_person_81
    have hF := op_f hF c5
    by_cases c7 : x2 = (1 : Int32)
    · have hF := op_t hF c7
      refine lv_tableIn (tgt := 82) hx hb dX12_person_33 (by rw [c7]; decide) (by rw [c7]; decide) (by rw [c7]; rfl) (by decide) ?_
      refine lv_aload_n hx hb dX12_person_82 rfl (lv_at hl 0 rfl) ?_
      refine k_get (v := .ref (a0 7)) C fg_X12_33 hP 0 rfl rfl dX12_person_83 ?_
      refine lv_bipush (v := (36 : Int32)) hx hb dX12_person_86 (by decide) ?_
      refine lv_iload_n hx hb dX12_person_88 rfl (lv_at hl 1 rfl) ?_
      refine lv_iadd hx hb dX12_person_89 ?_
      obtain ⟨h8, hF⟩ := op_ck hF
      refine k_ild (f := U3.2.2.1 6) C hP 2 rfl h8 dX12_person_90 ?_
      cases hF
      exact k_iret C hP hS dX12_person_91
    have hF := op_f hF c7
    by_cases c9 : x2 = (2 : Int32)
    · have hF := op_t hF c9
      refine lv_tableIn (tgt := 92) hx hb dX12_person_33 (by rw [c9]; decide) (by rw [c9]; decide) (by rw [c9]; rfl) (by decide) ?_
      refine lv_aload_n hx hb dX12_person_92 rfl (lv_at hl 0 rfl) ?_
      refine k_get (v := .ref (a0 7)) C fg_X12_33 hP 0 rfl rfl dX12_person_93 ?_
      refine lv_bipush (v := (24 : Int32)) hx hb dX12_person_96 (by decide) ?_
      refine lv_iload_n hx hb dX12_person_98 rfl (lv_at hl 1 rfl) ?_
      refine lv_iadd hx hb dX12_person_99 ?_
      obtain ⟨h10, hF⟩ := op_ck hF
      refine k_ild (f := U3.2.2.1 6) C hP 2 rfl h10 dX12_person_100 ?_
      cases hF
      exact k_iret C hP hS dX12_person_101
    have hF := op_f hF c9
    by_cases c11 : x2 = (3 : Int32)
    · have hF := op_t hF c11
      refine lv_tableIn (tgt := 102) hx hb dX12_person_33 (by rw [c11]; decide) (by rw [c11]; decide) (by rw [c11]; rfl) (by decide) ?_
      refine lv_aload_n hx hb dX12_person_102 rfl (lv_at hl 0 rfl) ?_
      refine k_get (v := .ref (a0 7)) C fg_X12_33 hP 0 rfl rfl dX12_person_103 ?_
      refine lv_bipush (v := (65 : Int32)) hx hb dX12_person_106 (by decide) ?_
      refine lv_iload_n hx hb dX12_person_108 rfl (lv_at hl 1 rfl) ?_
      refine lv_iadd hx hb dX12_person_109 ?_
      obtain ⟨h12, hF⟩ := op_ck hF
      refine k_ild (f := U3.2.2.1 6) C hP 2 rfl h12 dX12_person_110 ?_
      refine lv_iconst (v := (1 : Int32)) hx hb dX12_person_111 (by decide) ?_
      refine lv_isub hx hb dX12_person_112 ?_
      cases hF
      exact k_iret C hP hS dX12_person_113
    have hF := op_f hF c11
    by_cases c13 : x2 = (4 : Int32)
    · have hF := op_t hF c13
      refine lv_tableIn (tgt := 114) hx hb dX12_person_33 (by rw [c13]; decide) (by rw [c13]; decide) (by rw [c13]; rfl) (by decide) ?_
      refine lv_aload_n hx hb dX12_person_114 rfl (lv_at hl 0 rfl) ?_
      refine k_get (v := .ref (a0 7)) C fg_X12_33 hP 0 rfl rfl dX12_person_115 ?_
      refine lv_bipush (v := (71 : Int32)) hx hb dX12_person_118 (by decide) ?_
      refine lv_iload_n hx hb dX12_person_120 rfl (lv_at hl 1 rfl) ?_
      refine lv_iadd hx hb dX12_person_121 ?_
      obtain ⟨h14, hF⟩ := op_ck hF
      refine k_ild (f := U3.2.2.1 6) C hP 2 rfl h14 dX12_person_122 ?_
      cases hF
      exact k_iret C hP hS dX12_person_123
    have hF := op_f hF c13
    by_cases c15 : x2 = (5 : Int32)
    · have hF := op_t hF c15
      refine lv_tableIn (tgt := 124) hx hb dX12_person_33 (by rw [c15]; decide) (by rw [c15]; decide) (by rw [c15]; rfl) (by decide) ?_
      refine lv_aload_n hx hb dX12_person_124 rfl (lv_at hl 0 rfl) ?_
      refine lv_iload_n hx hb dX12_person_125 rfl (lv_at hl 1 rfl) ?_
      obtain ⟨r17, hc16, hF⟩ := ob1_s hF
      refine k_isame C (k_rV (As := [.int x1]) (rest := []) C (c_X12_canOf l D q o0 a0 U3 _ x1 hc16) kc_X12_canOf ml_X12_325 rfl rfl (by decide) hP hD hS (va_recv hK hP (ci := 12) (q0 := 0) rfl rfl) rfl hl.1 rfl (Nat.le_of_ble_eq_true rfl) dX12_person_126 (by decide)) hP hD hS (fun H locs hP hD hS => ?_)
      cases hF
      exact k_iret C hP hS dX12_person_129
    have hF := op_f hF c15
    have nc5 := lv_neT (a := 0) c5 (by decide)
    have nc7 := lv_neT (a := 1) c7 (by decide)
    have nc9 := lv_neT (a := 2) c9 (by decide)
    have nc11 := lv_neT (a := 3) c11 (by decide)
    have nc13 := lv_neT (a := 4) c13 (by decide)
    have nc15 := lv_neT (a := 5) c15 (by decide)
    refine lv_tableOut (tgt := 130) hx hb dX12_person_33 (by omega) (by decide) ?_
    refine lv_aload_n hx hb dX12_person_130 rfl (lv_at hl 0 rfl) ?_
    refine lv_iload_n hx hb dX12_person_131 rfl (lv_at hl 1 rfl) ?_
    obtain ⟨r19, hc18, hF⟩ := ob1_s hF
    refine k_isame C (k_rV (As := [.int x1]) (rest := []) C (c_X12_friendsOf l D q o0 a0 U3 _ x1 hc18) kc_X12_friendsOf ml_X12_328 rfl rfl (by decide) hP hD hS (va_recv hK hP (ci := 12) (q0 := 0) rfl rfl) rfl hl.1 rfl (Nat.le_of_ble_eq_true rfl) dX12_person_132 (by decide)) hP hD hS (fun H locs hP hD hS => ?_)
    cases hF
    exact k_iret C hP hS dX12_person_135
  · have hF := op_f hF c4
    refine lv_iconst (v := (0 : Int32)) hx hb dX12_person_30 (by decide) ?_
    cases hF
    exact k_iret C hP hS dX12_person_31
set_option maxRecDepth 100000 in
set_option maxHeartbeats 4000000 in
theorem b_X12_person_19 {p : Program} {l : Launch} {e : Env} {s : State} {m : MethodId} {args : Array Value} {below : List Frame} {meth : Method} {c : Code} {D : va_G} {q : Nat → ClassId} {A : Nat → Prop} {o0 : Nat} {a0 : Nat → Nat} {r : Int32} {T0 : St} (C : cx p s m args meth c cX12_person 3 (some .int) RX12 D q A) {x1 : Int32} {x2 : Int32} {S0 : St} (hF : F_X12_person_19 x1 x2 S0 = some (r, T0)) {H : Heap} {locs : List Loc} (hP : va_P D vwCl (fl [g12 q o0 a0 S0]) H) (hD : va_D A (fl [g12 q o0 a0 S0])) (hS : va_S A s.heap H locs) {ls : Array Slot} (hl : lv_has ls 3 [(0, .ref o0), (1, .int x1), (2, .int x2)]) : W p l e rm_X12_person s m args below meth c H locs 0 0 (MQ below (QI D A r (fl [g12 q o0 a0 T0])) args s 0 0 A) (F0 m 19 ls [.ref o0]) := by
  unfold F_X12_person_19 at hF
  obtain ⟨hx, hb, hr, hml, hown, hts, hlk, hA, hK, hN, hV⟩ := id C
  refine lv_iconst (v := (1 : Int32)) hx hb dX12_person_19 (by decide) ?_
  refine lv_goto (tgt := 24) hx hb dX12_person_20 (by decide) ?_
  exact b_X12_person_24 C hF hP hD hS (lv_sub hl [0, 1, 2] rfl)
set_option maxRecDepth 100000 in
set_option maxHeartbeats 4000000 in
theorem c_X12_person (l : Launch) (D : va_G) (q : Nat → ClassId) (o0 : Nat) (a0 : Nat → Nat) (S0 : St) (sz : Nat) (x1 : Int32) (x2 : Int32) {r : Int32} {T0 : St} (hF : F_X12_person S0 x1 x2 = some (r, T0)) : Met l yX12_person (Cond.code yX12_person cX12_person 3 (some .int) :: TB) rm_X12_person (PC D q [.ref o0, .int x1, .int x2] (fl [g12 q o0 a0 S0]) sz) ((fun A => QI D A r (fl [g12 q o0 a0 T0])) (va_A (fl [g12 q o0 a0 S0]) sz)) 0 0 (va_A (fl [g12 q o0 a0 S0]) sz) := by
  refine k_met (w0 := fl [g12 q o0 a0 S0]) (Q := fun A => QI D A r (fl [g12 q o0 a0 T0])) (by decide +kernel) (Nat.le_of_ble_eq_true rfl) ?_
  intro p e s m args below meth c A ls C hP hD hS hl
  have hl : lv_has ls 3 [(0, .ref o0), (1, .int x1), (2, .int x2)] := hl
  unfold F_X12_person at hF
  have C : cx p s m args meth c cX12_person 3 (some .int) RX12 D q A := C
  obtain ⟨hx, hb, hr, hml, hown, hts, hlk, hA, hK, hN, hV⟩ := id C
  refine lv_aload_n hx hb dX12_person_0 rfl (lv_at hl 0 rfl) ?_
  refine lv_aload_n hx hb dX12_person_1 rfl (lv_at hl 0 rfl) ?_
  refine lv_iload_n hx hb dX12_person_2 rfl (lv_at hl 1 rfl) ?_
  obtain ⟨r2, hc1, hF⟩ := ob1_s hF
  refine k_isame C (k_rV (As := [.int x1]) (rest := [.ref o0]) C (c_X12_isPerson l D q o0 a0 S0 _ x1 hc1) kc_X12_isPerson ml_X12_318 rfl rfl (by decide) hP hD hS (va_recv hK hP (ci := 12) (q0 := 0) rfl rfl) rfl hl.1 rfl (Nat.le_of_ble_eq_true rfl) dX12_person_3 (by decide)) hP hD hS (fun H locs hP hD hS => ?_)
  refine lv_if_eq (tgt := 19) hx hb dX12_person_6 (by decide) (fun c3 => ?_) (fun c3 => ?_)
  · have hF := op_t hF c3
    exact b_X12_person_19 C hF hP hD hS (lv_sub hl [0, 1, 2] rfl)
  · have hF := op_f hF c3
    refine lv_iload_n hx hb dX12_person_9 rfl (lv_at hl 2 rfl) ?_
    refine lv_iconst (v := (0 : Int32)) hx hb dX12_person_10 (by decide) ?_
    refine lv_bipush (v := (6 : Int32)) hx hb dX12_person_11 (by decide) ?_
    obtain ⟨r5, hc4, hF⟩ := ob1_s hF
    refine k_inil C (k_rS (As := [.int x2, .int (0 : Int32), .int (6 : Int32)]) (rest := [.ref o0]) C (c_X12_isIn l D q _ x2 (0 : Int32) (6 : Int32) hc4) kc_X12_isIn ml_X12_225 rfl rfl (by decide) (fun k x h => by simp at h) (⟨fun i j x y h => by simp at h, fun k x h => by simp at h⟩ : va_D A []) hS rfl hl.1 rfl (Nat.le_of_ble_eq_true rfl) dX12_person_13 (by decide)) hP hD hS (fun H locs hP hD hS => ?_)
    refine lv_if_ne (tgt := 23) hx hb dX12_person_16 (by decide) (fun c6 => ?_) (fun c6 => ?_)
    · have hF := op_f hF c6
      refine lv_iconst (v := (0 : Int32)) hx hb dX12_person_23 (by decide) ?_
      exact b_X12_person_24 C hF hP hD hS (lv_sub hl [0, 1, 2] rfl)
    · have hF := op_t hF c6
      exact b_X12_person_19 C hF hP hD hS (lv_sub hl [0, 1, 2] rfl)

abbrev rm_X12_turret : Room := ({ frames := 2, cells := 0, slots := 0, locals := 46 } : Room)
def F_X12_turret (S0 : St) (x1 : Int32) (x2 : Int32) : Option (Int32 × St) := nw (sI S0 0 (0 : Int32)) fun U1 => ob1 (F_X12_isTurret U1 x1) fun r4 => if r4 = 0 then (some ((-1 : Int32), U1)) else (if x2 = (0 : Int32) then (if oob ((2 : Int32) + x1) 258 then none else some ((U1.2.2.1 6 ((2 : Int32) + x1).toNatClampNeg), U1)) else if x2 = (1 : Int32) then (if oob ((45 : Int32) + x1) 258 then none else some ((U1.2.2.1 6 ((45 : Int32) + x1).toNatClampNeg), U1)) else if x2 = (2 : Int32) then (if oob ((52 : Int32) + x1) 258 then none else some ((U1.2.2.1 6 ((52 : Int32) + x1).toNatClampNeg), U1)) else if x2 = (3 : Int32) then (if oob (23 : Int32) 258 then none else some ((((U1.2.2.1 6 (23 : Int32).toNatClampNeg) >>> (x1 &&& 31)) &&& (1 : Int32)), U1)) else if x2 = (4 : Int32) then (ob1 (F_X12_isWalled U1 x1) fun r16 => if r16 = 0 then (some ((0 : Int32), U1)) else (some ((1 : Int32), U1))) else if x2 = (5 : Int32) then (ob1 (F_X12_whoIsUp U1 x1) fun r20 => some (r20, U1)) else if x2 = (6 : Int32) then (ob1 (F_X12_looksOf U1 x1) fun r23 => some (r23, U1)) else some ((-1 : Int32), U1))
set_option maxRecDepth 100000 in
set_option maxHeartbeats 4000000 in
theorem c_X12_turret (l : Launch) (D : va_G) (q : Nat → ClassId) (o0 : Nat) (a0 : Nat → Nat) (S0 : St) (sz : Nat) (x1 : Int32) (x2 : Int32) {r : Int32} {T0 : St} (hF : F_X12_turret S0 x1 x2 = some (r, T0)) : Met l yX12_turret (Cond.code yX12_turret cX12_turret 3 (some .int) :: TB) rm_X12_turret (PC D q [.ref o0, .int x1, .int x2] (fl [g12 q o0 a0 S0]) sz) ((fun A => QI D A r (fl [g12 q o0 a0 T0])) (va_A (fl [g12 q o0 a0 S0]) sz)) 0 0 (va_A (fl [g12 q o0 a0 S0]) sz) := by
  refine k_met (w0 := fl [g12 q o0 a0 S0]) (Q := fun A => QI D A r (fl [g12 q o0 a0 T0])) (by decide +kernel) (Nat.le_of_ble_eq_true rfl) ?_
  intro p e s m args below meth c A ls C hP hD hS hl
  have hl : lv_has ls 3 [(0, .ref o0), (1, .int x1), (2, .int x2)] := hl
  unfold F_X12_turret at hF
  have C : cx p s m args meth c cX12_turret 3 (some .int) RX12 D q A := C
  obtain ⟨hx, hb, hr, hml, hown, hts, hlk, hA, hK, hN, hV⟩ := id C
  refine lv_aload_n hx hb dX12_turret_0 rfl (lv_at hl 0 rfl) ?_
  refine lv_iconst (v := (0 : Int32)) hx hb dX12_turret_1 (by decide) ?_
  obtain ⟨U1, e2, hF⟩ := nw_s hF
  refine k_put (W8 := fl [g12 q o0 a0 U1]) C fp_X12_1 hP hD hS 0 rfl rfl rfl (Nat.le_of_ble_eq_true rfl) dX12_turret_2 (by rw [e2]; rfl) (fun H locs hP hD hS => ?_)
  refine lv_aload_n hx hb dX12_turret_5 rfl (lv_at hl 0 rfl) ?_
  refine lv_iload_n hx hb dX12_turret_6 rfl (lv_at hl 1 rfl) ?_
  obtain ⟨r4, hc3, hF⟩ := ob1_s hF
  refine k_isame C (k_rV (As := [.int x1]) (rest := []) C (c_X12_isTurret l D q o0 a0 U1 _ x1 hc3) kc_X12_isTurret ml_X12_331 rfl rfl (by decide) hP hD hS (va_recv hK hP (ci := 12) (q0 := 0) rfl rfl) rfl hl.1 rfl (Nat.le_of_ble_eq_true rfl) dX12_turret_7 (by decide)) hP hD hS (fun H locs hP hD hS => ?_)
  refine lv_if_ne (tgt := 15) hx hb dX12_turret_10 (by decide) (fun c5 => ?_) (fun c5 => ?_)
  · have hF := op_f hF c5
    refine lv_iload_n hx hb dX12_turret_15 rfl (lv_at hl 2 rfl) ?_
    by_cases c6 : x2 = (0 : Int32)
    · have hF := op_t hF c6
      refine lv_tableIn (tgt := 60) hx hb dX12_turret_16 (by rw [c6]; decide) (by rw [c6]; decide) (by rw [c6]; rfl) (by decide) ?_
      refine lv_aload_n hx hb dX12_turret_60 rfl (lv_at hl 0 rfl) ?_
      refine k_get (v := .ref (a0 7)) C fg_X12_33 hP 0 rfl rfl dX12_turret_61 ?_
      refine lv_iconst (v := (2 : Int32)) hx hb dX12_turret_64 (by decide) ?_
      refine lv_iload_n hx hb dX12_turret_65 rfl (lv_at hl 1 rfl) ?_
      refine lv_iadd hx hb dX12_turret_66 ?_
      obtain ⟨h7, hF⟩ := op_ck hF
      refine k_ild (f := U1.2.2.1 6) C hP 2 rfl h7 dX12_turret_67 ?_
      cases hF
      exact k_iret C hP hS dX12_turret_68
    have hF := op_f hF c6
    by_cases c8 : x2 = (1 : Int32)
    · have hF := op_t hF c8
      refine lv_tableIn (tgt := 69) hx hb dX12_turret_16 (by rw [c8]; decide) (by rw [c8]; decide) (by rw [c8]; rfl) (by decide) ?_
      refine lv_aload_n hx hb dX12_turret_69 rfl (lv_at hl 0 rfl) ?_
      refine k_get (v := .ref (a0 7)) C fg_X12_33 hP 0 rfl rfl dX12_turret_70 ?_
      refine lv_bipush (v := (45 : Int32)) hx hb dX12_turret_73 (by decide) ?_
      refine lv_iload_n hx hb dX12_turret_75 rfl (lv_at hl 1 rfl) ?_
      refine lv_iadd hx hb dX12_turret_76 ?_
      obtain ⟨h9, hF⟩ := op_ck hF
      refine k_ild (f := U1.2.2.1 6) C hP 2 rfl h9 dX12_turret_77 ?_
      cases hF
      exact k_iret C hP hS dX12_turret_78
    have hF := op_f hF c8
    by_cases c10 : x2 = (2 : Int32)
    · have hF := op_t hF c10
      refine lv_tableIn (tgt := 79) hx hb dX12_turret_16 (by rw [c10]; decide) (by rw [c10]; decide) (by rw [c10]; rfl) (by decide) ?_
      refine lv_aload_n hx hb dX12_turret_79 rfl (lv_at hl 0 rfl) ?_
      refine k_get (v := .ref (a0 7)) C fg_X12_33 hP 0 rfl rfl dX12_turret_80 ?_
      refine lv_bipush (v := (52 : Int32)) hx hb dX12_turret_83 (by decide) ?_
      refine lv_iload_n hx hb dX12_turret_85 rfl (lv_at hl 1 rfl) ?_
      refine lv_iadd hx hb dX12_turret_86 ?_
      obtain ⟨h11, hF⟩ := op_ck hF
      refine k_ild (f := U1.2.2.1 6) C hP 2 rfl h11 dX12_turret_87 ?_
      cases hF
      exact k_iret C hP hS dX12_turret_88
    have hF := op_f hF c10
    by_cases c12 : x2 = (3 : Int32)
    · have hF := op_t hF c12
      refine lv_tableIn (tgt := 89) hx hb dX12_turret_16 (by rw [c12]; decide) (by rw [c12]; decide) (by rw [c12]; rfl) (by decide) ?_
      refine lv_aload_n hx hb dX12_turret_89 rfl (lv_at hl 0 rfl) ?_
      refine k_get (v := .ref (a0 7)) C fg_X12_33 hP 0 rfl rfl dX12_turret_90 ?_
      refine lv_bipush (v := (23 : Int32)) hx hb dX12_turret_93 (by decide) ?_
      obtain ⟨h13, hF⟩ := op_ck hF
      refine k_ild (f := U1.2.2.1 6) C hP 2 rfl h13 dX12_turret_95 ?_
      refine lv_iload_n hx hb dX12_turret_96 rfl (lv_at hl 1 rfl) ?_
      refine lv_ishr hx hb dX12_turret_97 ?_
      refine lv_iconst (v := (1 : Int32)) hx hb dX12_turret_98 (by decide) ?_
      refine lv_iand hx hb dX12_turret_99 ?_
      cases hF
      exact k_iret C hP hS dX12_turret_100
    have hF := op_f hF c12
    by_cases c14 : x2 = (4 : Int32)
    · have hF := op_t hF c14
      refine lv_tableIn (tgt := 101) hx hb dX12_turret_16 (by rw [c14]; decide) (by rw [c14]; decide) (by rw [c14]; rfl) (by decide) ?_
      refine lv_aload_n hx hb dX12_turret_101 rfl (lv_at hl 0 rfl) ?_
      refine lv_iload_n hx hb dX12_turret_102 rfl (lv_at hl 1 rfl) ?_
      obtain ⟨r16, hc15, hF⟩ := ob1_s hF
      refine k_isame C (k_rV (As := [.int x1]) (rest := []) C (c_X12_isWalled l D q o0 a0 U1 _ x1 hc15) kc_X12_isWalled ml_X12_303 rfl rfl (by decide) hP hD hS (va_recv hK hP (ci := 12) (q0 := 0) rfl rfl) rfl hl.1 rfl (Nat.le_of_ble_eq_true rfl) dX12_turret_103 (by decide)) hP hD hS (fun H locs hP hD hS => ?_)
      refine lv_if_eq (tgt := 113) hx hb dX12_turret_106 (by decide) (fun c17 => ?_) (fun c17 => ?_)
      · have hF := op_t hF c17
        refine lv_iconst (v := (0 : Int32)) hx hb dX12_turret_113 (by decide) ?_
        cases hF
        exact k_iret C hP hS dX12_turret_114
      · have hF := op_f hF c17
        refine lv_iconst (v := (1 : Int32)) hx hb dX12_turret_109 (by decide) ?_
        refine lv_goto (tgt := 114) hx hb dX12_turret_110 (by decide) ?_
        cases hF
        exact k_iret C hP hS dX12_turret_114
    have hF := op_f hF c14
    by_cases c18 : x2 = (5 : Int32)
    · have hF := op_t hF c18
      refine lv_tableIn (tgt := 115) hx hb dX12_turret_16 (by rw [c18]; decide) (by rw [c18]; decide) (by rw [c18]; rfl) (by decide) ?_
      refine lv_aload_n hx hb dX12_turret_115 rfl (lv_at hl 0 rfl) ?_
      refine lv_iload_n hx hb dX12_turret_116 rfl (lv_at hl 1 rfl) ?_
      obtain ⟨r20, hc19, hF⟩ := ob1_s hF
      refine k_isame C (k_rV (As := [.int x1]) (rest := []) C (c_X12_whoIsUp l D q o0 a0 U1 _ x1 hc19) kc_X12_whoIsUp ml_X12_306 rfl rfl (by decide) hP hD hS (va_recv hK hP (ci := 12) (q0 := 0) rfl rfl) rfl hl.1 rfl (Nat.le_of_ble_eq_true rfl) dX12_turret_117 (by decide)) hP hD hS (fun H locs hP hD hS => ?_)
      cases hF
      exact k_iret C hP hS dX12_turret_120
    have hF := op_f hF c18
    by_cases c21 : x2 = (6 : Int32)
    · have hF := op_t hF c21
      refine lv_tableIn (tgt := 121) hx hb dX12_turret_16 (by rw [c21]; decide) (by rw [c21]; decide) (by rw [c21]; rfl) (by decide) ?_
      refine lv_aload_n hx hb dX12_turret_121 rfl (lv_at hl 0 rfl) ?_
      refine lv_iload_n hx hb dX12_turret_122 rfl (lv_at hl 1 rfl) ?_
      obtain ⟨r23, hc22, hF⟩ := ob1_s hF
      refine k_isame C (k_rV (As := [.int x1]) (rest := []) C (c_X12_looksOf l D q o0 a0 U1 _ x1 hc22) kc_X12_looksOf ml_X12_334 rfl rfl (by decide) hP hD hS (va_recv hK hP (ci := 12) (q0 := 0) rfl rfl) rfl hl.1 rfl (Nat.le_of_ble_eq_true rfl) dX12_turret_123 (by decide)) hP hD hS (fun H locs hP hD hS => ?_)
      cases hF
      exact k_iret C hP hS dX12_turret_126
    have hF := op_f hF c21
    have nc6 := lv_neT (a := 0) c6 (by decide)
    have nc8 := lv_neT (a := 1) c8 (by decide)
    have nc10 := lv_neT (a := 2) c10 (by decide)
    have nc12 := lv_neT (a := 3) c12 (by decide)
    have nc14 := lv_neT (a := 4) c14 (by decide)
    have nc18 := lv_neT (a := 5) c18 (by decide)
    have nc21 := lv_neT (a := 6) c21 (by decide)
    refine lv_tableOut (tgt := 127) hx hb dX12_turret_16 (by omega) (by decide) ?_
    refine lv_iconst (v := (-1 : Int32)) hx hb dX12_turret_127 (by decide) ?_
    cases hF
    exact k_iret C hP hS dX12_turret_128
  · have hF := op_t hF c5
    refine lv_iconst (v := (-1 : Int32)) hx hb dX12_turret_13 (by decide) ?_
    cases hF
    exact k_iret C hP hS dX12_turret_14

abbrev rm_X12_looks : Room := ({ frames := 2, cells := 0, slots := 0, locals := 43 } : Room)
def F_X12_looks (S0 : St) (x1 : Int32) (x2 : Int32) : Option (Int32 × St) := nw (sI S0 0 (0 : Int32)) fun U1 => ob1 (F_X12_isTurret U1 x1) fun r4 => if r4 = 0 then (some ((-1 : Int32), U1)) else (ob1 (F_X12_manyOf U1 x1) fun r7 => ob1 (F_X12_isIn x2 (0 : Int32) (r7 - (1 : Int32))) fun r9 => if r9 = 0 then (some ((-1 : Int32), U1)) else (ob1 (F_X12_lookOf U1 x1 x2) fun r12 => some (r12, U1)))
set_option maxRecDepth 100000 in
set_option maxHeartbeats 4000000 in
theorem c_X12_looks (l : Launch) (D : va_G) (q : Nat → ClassId) (o0 : Nat) (a0 : Nat → Nat) (S0 : St) (sz : Nat) (x1 : Int32) (x2 : Int32) {r : Int32} {T0 : St} (hF : F_X12_looks S0 x1 x2 = some (r, T0)) : Met l yX12_looks (Cond.code yX12_looks cX12_looks 3 (some .int) :: TB) rm_X12_looks (PC D q [.ref o0, .int x1, .int x2] (fl [g12 q o0 a0 S0]) sz) ((fun A => QI D A r (fl [g12 q o0 a0 T0])) (va_A (fl [g12 q o0 a0 S0]) sz)) 0 0 (va_A (fl [g12 q o0 a0 S0]) sz) := by
  refine k_met (w0 := fl [g12 q o0 a0 S0]) (Q := fun A => QI D A r (fl [g12 q o0 a0 T0])) (by decide +kernel) (Nat.le_of_ble_eq_true rfl) ?_
  intro p e s m args below meth c A ls C hP hD hS hl
  have hl : lv_has ls 3 [(0, .ref o0), (1, .int x1), (2, .int x2)] := hl
  unfold F_X12_looks at hF
  have C : cx p s m args meth c cX12_looks 3 (some .int) RX12 D q A := C
  obtain ⟨hx, hb, hr, hml, hown, hts, hlk, hA, hK, hN, hV⟩ := id C
  refine lv_aload_n hx hb dX12_looks_0 rfl (lv_at hl 0 rfl) ?_
  refine lv_iconst (v := (0 : Int32)) hx hb dX12_looks_1 (by decide) ?_
  obtain ⟨U1, e2, hF⟩ := nw_s hF
  refine k_put (W8 := fl [g12 q o0 a0 U1]) C fp_X12_1 hP hD hS 0 rfl rfl rfl (Nat.le_of_ble_eq_true rfl) dX12_looks_2 (by rw [e2]; rfl) (fun H locs hP hD hS => ?_)
  refine lv_aload_n hx hb dX12_looks_5 rfl (lv_at hl 0 rfl) ?_
  refine lv_iload_n hx hb dX12_looks_6 rfl (lv_at hl 1 rfl) ?_
  obtain ⟨r4, hc3, hF⟩ := ob1_s hF
  refine k_isame C (k_rV (As := [.int x1]) (rest := []) C (c_X12_isTurret l D q o0 a0 U1 _ x1 hc3) kc_X12_isTurret ml_X12_331 rfl rfl (by decide) hP hD hS (va_recv hK hP (ci := 12) (q0 := 0) rfl rfl) rfl hl.1 rfl (Nat.le_of_ble_eq_true rfl) dX12_looks_7 (by decide)) hP hD hS (fun H locs hP hD hS => ?_)
  refine lv_if_eq (tgt := 37) hx hb dX12_looks_10 (by decide) (fun c5 => ?_) (fun c5 => ?_)
  · have hF := op_t hF c5
    refine lv_iconst (v := (-1 : Int32)) hx hb dX12_looks_37 (by decide) ?_
    cases hF
    exact k_iret C hP hS dX12_looks_38
  · have hF := op_f hF c5
    refine lv_iload_n hx hb dX12_looks_13 rfl (lv_at hl 2 rfl) ?_
    refine lv_iconst (v := (0 : Int32)) hx hb dX12_looks_14 (by decide) ?_
    refine lv_aload_n hx hb dX12_looks_15 rfl (lv_at hl 0 rfl) ?_
    refine lv_iload_n hx hb dX12_looks_16 rfl (lv_at hl 1 rfl) ?_
    obtain ⟨r7, hc6, hF⟩ := ob1_s hF
    refine k_isame C (k_rV (As := [.int x1]) (rest := [.int (0 : Int32), .int x2]) C (c_X12_manyOf l D q o0 a0 U1 _ x1 hc6) kc_X12_manyOf ml_X12_293 rfl rfl (by decide) hP hD hS (va_recv hK hP (ci := 12) (q0 := 0) rfl rfl) rfl hl.1 rfl (Nat.le_of_ble_eq_true rfl) dX12_looks_17 (by decide)) hP hD hS (fun H locs hP hD hS => ?_)
    refine lv_iconst (v := (1 : Int32)) hx hb dX12_looks_20 (by decide) ?_
    refine lv_isub hx hb dX12_looks_21 ?_
    obtain ⟨r9, hc8, hF⟩ := ob1_s hF
    refine k_inil C (k_rS (As := [.int x2, .int (0 : Int32), .int (r7 - (1 : Int32))]) (rest := []) C (c_X12_isIn l D q _ x2 (0 : Int32) (r7 - (1 : Int32)) hc8) kc_X12_isIn ml_X12_225 rfl rfl (by decide) (fun k x h => by simp at h) (⟨fun i j x y h => by simp at h, fun k x h => by simp at h⟩ : va_D A []) hS rfl hl.1 rfl (Nat.le_of_ble_eq_true rfl) dX12_looks_22 (by decide)) hP hD hS (fun H locs hP hD hS => ?_)
    refine lv_if_eq (tgt := 37) hx hb dX12_looks_25 (by decide) (fun c10 => ?_) (fun c10 => ?_)
    · have hF := op_t hF c10
      refine lv_iconst (v := (-1 : Int32)) hx hb dX12_looks_37 (by decide) ?_
      cases hF
      exact k_iret C hP hS dX12_looks_38
    · have hF := op_f hF c10
      refine lv_aload_n hx hb dX12_looks_28 rfl (lv_at hl 0 rfl) ?_
      refine lv_iload_n hx hb dX12_looks_29 rfl (lv_at hl 1 rfl) ?_
      refine lv_iload_n hx hb dX12_looks_30 rfl (lv_at hl 2 rfl) ?_
      obtain ⟨r12, hc11, hF⟩ := ob1_s hF
      refine k_isame C (k_rV (As := [.int x1, .int x2]) (rest := []) C (c_X12_lookOf l D q o0 a0 U1 _ x1 x2 hc11) kc_X12_lookOf ml_X12_297 rfl rfl (by decide) hP hD hS (va_recv hK hP (ci := 12) (q0 := 0) rfl rfl) rfl hl.1 rfl (Nat.le_of_ble_eq_true rfl) dX12_looks_31 (by decide)) hP hD hS (fun H locs hP hD hS => ?_)
      refine lv_goto (tgt := 38) hx hb dX12_looks_34 (by decide) ?_
      cases hF
      exact k_iret C hP hS dX12_looks_38

abbrev rm_X12_now : Room := ({ frames := 2, cells := 0, slots := 0, locals := 44 } : Room)
def F_X12_now_68 (k15 : Int32 × Int32 × Int32 × Int32 × Int32 × St → Option (Int32 × St)) (x1 : Int32) (x2 : Int32) (x4 : Int32) (x5 : Int32) (s0 : Int32) (s1 : Int32) (S0 : St) : Option (Int32 × St) := if oob ((59 : Int32) + x5) 258 then none else ob1 (F_X12_bits (S0.2.2.1 6 ((59 : Int32) + x5).toNatClampNeg)) fun r3 => k15 (x1, x2, (s0 ||| s1), (x4 + r3), (x5 + 1), S0)
def F_X12_now_44 (k15 : Int32 × Int32 × Int32 × Int32 × Int32 × St → Option (Int32 × St)) (x1 : Int32) (x3 : Int32) (x4 : Int32) (x5 : Int32) (s0 : Int32) (s1 : Int32) (S0 : St) : Option (Int32 × St) := if oob ((59 : Int32) + x5) 258 then none else if (S0.2.2.1 6 ((59 : Int32) + x5).toNatClampNeg) = 0 then (F_X12_now_68 k15 x1 (s0 ||| s1) x4 x5 x3 ((1 : Int32) <<< (x5 &&& 31)) S0) else (F_X12_now_68 k15 x1 (s0 ||| s1) x4 x5 x3 (0 : Int32) S0)
def F_X12_now_15 (k15 : Int32 × Int32 × Int32 × Int32 × Int32 × St → Option (Int32 × St)) (x1 : Int32) (x2 : Int32) (x3 : Int32) (x4 : Int32) (x5 : Int32) (S0 : St) : Option (Int32 × St) := if oob (1 : Int32) 258 then none else if (S0.2.2.1 6 (1 : Int32).toNatClampNeg) ≤ x5 then (if x1 = (0 : Int32) then (if oob (42 : Int32) 258 then none else some ((S0.2.2.1 6 (42 : Int32).toNatClampNeg), S0)) else if x1 = (1 : Int32) then (some (x2, S0)) else if x1 = (2 : Int32) then (some (x3, S0)) else if x1 = (3 : Int32) then (ob1 (F_X12_pleased S0) fun r9 => some (r9, S0)) else if x1 = (4 : Int32) then (if oob (44 : Int32) 258 then none else some ((S0.2.2.1 6 (44 : Int32).toNatClampNeg), S0)) else if x1 = (5 : Int32) then (if oob (43 : Int32) 258 then none else some ((S0.2.2.1 6 (43 : Int32).toNatClampNeg), S0)) else if x1 = (6 : Int32) then (some (x4, S0)) else some ((-1 : Int32), S0)) else (ob1 (F_X12_isUp S0 x5) fun r16 => if r16 = 0 then (F_X12_now_44 k15 x1 x3 x4 x5 x2 (0 : Int32) S0) else (F_X12_now_44 k15 x1 x3 x4 x5 x2 ((1 : Int32) <<< (x5 &&& 31)) S0))
def L_X12_now_15 (x1 : Int32) (x2 : Int32) (x3 : Int32) (x4 : Int32) (x5 : Int32) (S0 : St) : Option (Int32 × St) := lp (fun kz z => F_X12_now_15 kz z.1 z.2.1 z.2.2.1 z.2.2.2.1 z.2.2.2.2.1 z.2.2.2.2.2) FU (x1, x2, x3, x4, x5, S0)
def F_X12_now (S0 : St) (x1 : Int32) : Option (Int32 × St) := nw (sI S0 0 (0 : Int32)) fun U1 => L_X12_now_15 x1 (0 : Int32) (0 : Int32) (0 : Int32) (0 : Int32) U1
set_option maxRecDepth 100000 in
set_option maxHeartbeats 4000000 in
theorem b_X12_now_68 {p : Program} {l : Launch} {e : Env} {s : State} {m : MethodId} {args : Array Value} {below : List Frame} {meth : Method} {c : Code} {D : va_G} {q : Nat → ClassId} {A : Nat → Prop} {o0 : Nat} {a0 : Nat → Nat} {r : Int32} {T0 : St} (C : cx p s m args meth c cX12_now 6 (some .int) RX12 D q A) {k15 : Int32 × Int32 × Int32 × Int32 × Int32 × St → Option (Int32 × St)} (hk15 : ∀ (x1 : Int32) (x2 : Int32) (x3 : Int32) (x4 : Int32) (x5 : Int32) (S0 : St), k15 (x1, x2, x3, x4, x5, S0) = some (r, T0) → ∀ (H : Heap) (locs : List Loc) (ls : Array Slot), va_P D vwCl (fl [g12 q o0 a0 S0]) H → va_D A (fl [g12 q o0 a0 S0]) → va_S A s.heap H locs → lv_has ls 6 [(0, .ref o0), (1, .int x1), (2, .int x2), (3, .int x3), (4, .int x4), (5, .int x5)] → W p l e rm_X12_now s m args below meth c H locs 0 0 (MQ below (QI D A r (fl [g12 q o0 a0 T0])) args s 0 0 A) (F0 m 15 ls [])) {x1 : Int32} {x2 : Int32} {x4 : Int32} {x5 : Int32} {s0 : Int32} {s1 : Int32} {S0 : St} (hF : F_X12_now_68 k15 x1 x2 x4 x5 s0 s1 S0 = some (r, T0)) {H : Heap} {locs : List Loc} (hP : va_P D vwCl (fl [g12 q o0 a0 S0]) H) (hD : va_D A (fl [g12 q o0 a0 S0])) (hS : va_S A s.heap H locs) {ls : Array Slot} (hl : lv_has ls 6 [(0, .ref o0), (1, .int x1), (2, .int x2), (4, .int x4), (5, .int x5)]) : W p l e rm_X12_now s m args below meth c H locs 0 0 (MQ below (QI D A r (fl [g12 q o0 a0 T0])) args s 0 0 A) (F0 m 68 ls [.int s1, .int s0]) := by
  unfold F_X12_now_68 at hF
  obtain ⟨hx, hb, hr, hml, hown, hts, hlk, hA, hK, hN, hV⟩ := id C
  refine lv_ior hx hb dX12_now_68 ?_
  refine lv_istore_n (lv' := [(3, .int (s0 ||| s1)), (0, .ref o0), (1, .int x1), (2, .int x2), (4, .int x4), (5, .int x5)]) hx hb dX12_now_69 rfl hl (by decide) rfl (fun ls hl => ?_)
  refine lv_iload hx hb dX12_now_70 (lv_at hl 4 rfl) ?_
  refine lv_aload_n hx hb dX12_now_72 rfl (lv_at hl 1 rfl) ?_
  refine k_get (v := .ref (a0 7)) C fg_X12_33 hP 0 rfl rfl dX12_now_73 ?_
  refine lv_bipush (v := (59 : Int32)) hx hb dX12_now_76 (by decide) ?_
  refine lv_iload hx hb dX12_now_78 (lv_at hl 5 rfl) ?_
  refine lv_iadd hx hb dX12_now_80 ?_
  obtain ⟨h1, hF⟩ := op_ck hF
  refine k_ild (f := S0.2.2.1 6) C hP 2 rfl h1 dX12_now_81 ?_
  obtain ⟨r3, hc2, hF⟩ := ob1_s hF
  refine k_inil C (k_rS (As := [.int (S0.2.2.1 6 ((59 : Int32) + x5).toNatClampNeg)]) (rest := [.int x4]) C (c_X12_bits l D q _ (S0.2.2.1 6 ((59 : Int32) + x5).toNatClampNeg) hc2) kc_X12_bits ml_X12_340 rfl rfl (by decide) (fun k x h => by simp at h) (⟨fun i j x y h => by simp at h, fun k x h => by simp at h⟩ : va_D A []) hS rfl hl.1 rfl (Nat.le_of_ble_eq_true rfl) dX12_now_82 (by decide)) hP hD hS (fun H locs hP hD hS => ?_)
  refine lv_iadd hx hb dX12_now_85 ?_
  refine lv_istore (lv' := [(4, .int (x4 + r3)), (3, .int (s0 ||| s1)), (0, .ref o0), (1, .int x1), (2, .int x2), (5, .int x5)]) hx hb dX12_now_86 hl (by decide) rfl (fun ls hl => ?_)
  refine lv_iinc (v := (x5 + 1)) (lv' := [(5, .int (x5 + 1)), (4, .int (x4 + r3)), (3, .int (s0 ||| s1)), (0, .ref o0), (1, .int x1), (2, .int x2)]) hx hb dX12_now_88 hl (k := 5) rfl rfl (by decide) rfl (fun ls hl => ?_)
  refine lv_goto (tgt := 15) hx hb dX12_now_91 (by decide) ?_
  exact hk15 x1 x2 (s0 ||| s1) (x4 + r3) (x5 + 1) S0 hF _ _ _ hP hD hS (lv_sub hl [3, 4, 5, 2, 1, 0] rfl)
set_option maxRecDepth 100000 in
set_option maxHeartbeats 4000000 in
theorem b_X12_now_44 {p : Program} {l : Launch} {e : Env} {s : State} {m : MethodId} {args : Array Value} {below : List Frame} {meth : Method} {c : Code} {D : va_G} {q : Nat → ClassId} {A : Nat → Prop} {o0 : Nat} {a0 : Nat → Nat} {r : Int32} {T0 : St} (C : cx p s m args meth c cX12_now 6 (some .int) RX12 D q A) {k15 : Int32 × Int32 × Int32 × Int32 × Int32 × St → Option (Int32 × St)} (hk15 : ∀ (x1 : Int32) (x2 : Int32) (x3 : Int32) (x4 : Int32) (x5 : Int32) (S0 : St), k15 (x1, x2, x3, x4, x5, S0) = some (r, T0) → ∀ (H : Heap) (locs : List Loc) (ls : Array Slot), va_P D vwCl (fl [g12 q o0 a0 S0]) H → va_D A (fl [g12 q o0 a0 S0]) → va_S A s.heap H locs → lv_has ls 6 [(0, .ref o0), (1, .int x1), (2, .int x2), (3, .int x3), (4, .int x4), (5, .int x5)] → W p l e rm_X12_now s m args below meth c H locs 0 0 (MQ below (QI D A r (fl [g12 q o0 a0 T0])) args s 0 0 A) (F0 m 15 ls [])) {x1 : Int32} {x3 : Int32} {x4 : Int32} {x5 : Int32} {s0 : Int32} {s1 : Int32} {S0 : St} (hF : F_X12_now_44 k15 x1 x3 x4 x5 s0 s1 S0 = some (r, T0)) {H : Heap} {locs : List Loc} (hP : va_P D vwCl (fl [g12 q o0 a0 S0]) H) (hD : va_D A (fl [g12 q o0 a0 S0])) (hS : va_S A s.heap H locs) {ls : Array Slot} (hl : lv_has ls 6 [(0, .ref o0), (1, .int x1), (3, .int x3), (4, .int x4), (5, .int x5)]) : W p l e rm_X12_now s m args below meth c H locs 0 0 (MQ below (QI D A r (fl [g12 q o0 a0 T0])) args s 0 0 A) (F0 m 44 ls [.int s1, .int s0]) := by
  unfold F_X12_now_44 at hF
  obtain ⟨hx, hb, hr, hml, hown, hts, hlk, hA, hK, hN, hV⟩ := id C
  refine lv_ior hx hb dX12_now_44 ?_
  refine lv_istore_n (lv' := [(2, .int (s0 ||| s1)), (0, .ref o0), (1, .int x1), (3, .int x3), (4, .int x4), (5, .int x5)]) hx hb dX12_now_45 rfl hl (by decide) rfl (fun ls hl => ?_)
  refine lv_iload_n hx hb dX12_now_46 rfl (lv_at hl 3 rfl) ?_
  refine lv_aload_n hx hb dX12_now_47 rfl (lv_at hl 1 rfl) ?_
  refine k_get (v := .ref (a0 7)) C fg_X12_33 hP 0 rfl rfl dX12_now_48 ?_
  refine lv_bipush (v := (59 : Int32)) hx hb dX12_now_51 (by decide) ?_
  refine lv_iload hx hb dX12_now_53 (lv_at hl 5 rfl) ?_
  refine lv_iadd hx hb dX12_now_55 ?_
  obtain ⟨h1, hF⟩ := op_ck hF
  refine k_ild (f := S0.2.2.1 6) C hP 2 rfl h1 dX12_now_56 ?_
  refine lv_if_ne (tgt := 67) hx hb dX12_now_57 (by decide) (fun c2 => ?_) (fun c2 => ?_)
  · have hF := op_f hF c2
    refine lv_iconst (v := (0 : Int32)) hx hb dX12_now_67 (by decide) ?_
    exact b_X12_now_68 C hk15 hF hP hD hS (lv_sub hl [1, 2, 0, 4, 5] rfl)
  · have hF := op_t hF c2
    refine lv_iconst (v := (1 : Int32)) hx hb dX12_now_60 (by decide) ?_
    refine lv_iload hx hb dX12_now_61 (lv_at hl 5 rfl) ?_
    refine lv_ishl hx hb dX12_now_63 ?_
    refine lv_goto (tgt := 68) hx hb dX12_now_64 (by decide) ?_
    exact b_X12_now_68 C hk15 hF hP hD hS (lv_sub hl [1, 2, 0, 4, 5] rfl)
set_option maxRecDepth 100000 in
set_option maxHeartbeats 4000000 in
theorem b_X12_now_15 {p : Program} {l : Launch} {e : Env} {s : State} {m : MethodId} {args : Array Value} {below : List Frame} {meth : Method} {c : Code} {D : va_G} {q : Nat → ClassId} {A : Nat → Prop} {o0 : Nat} {a0 : Nat → Nat} {r : Int32} {T0 : St} (C : cx p s m args meth c cX12_now 6 (some .int) RX12 D q A) {k15 : Int32 × Int32 × Int32 × Int32 × Int32 × St → Option (Int32 × St)} (hk15 : ∀ (x1 : Int32) (x2 : Int32) (x3 : Int32) (x4 : Int32) (x5 : Int32) (S0 : St), k15 (x1, x2, x3, x4, x5, S0) = some (r, T0) → ∀ (H : Heap) (locs : List Loc) (ls : Array Slot), va_P D vwCl (fl [g12 q o0 a0 S0]) H → va_D A (fl [g12 q o0 a0 S0]) → va_S A s.heap H locs → lv_has ls 6 [(0, .ref o0), (1, .int x1), (2, .int x2), (3, .int x3), (4, .int x4), (5, .int x5)] → W p l e rm_X12_now s m args below meth c H locs 0 0 (MQ below (QI D A r (fl [g12 q o0 a0 T0])) args s 0 0 A) (F0 m 15 ls [])) {x1 : Int32} {x2 : Int32} {x3 : Int32} {x4 : Int32} {x5 : Int32} {S0 : St} (hF : F_X12_now_15 k15 x1 x2 x3 x4 x5 S0 = some (r, T0)) {H : Heap} {locs : List Loc} (hP : va_P D vwCl (fl [g12 q o0 a0 S0]) H) (hD : va_D A (fl [g12 q o0 a0 S0])) (hS : va_S A s.heap H locs) {ls : Array Slot} (hl : lv_has ls 6 [(0, .ref o0), (1, .int x1), (2, .int x2), (3, .int x3), (4, .int x4), (5, .int x5)]) : W p l e rm_X12_now s m args below meth c H locs 0 0 (MQ below (QI D A r (fl [g12 q o0 a0 T0])) args s 0 0 A) (F0 m 15 ls []) := by
  unfold F_X12_now_15 at hF
  obtain ⟨hx, hb, hr, hml, hown, hts, hlk, hA, hK, hN, hV⟩ := id C
  refine lv_iload hx hb dX12_now_15 (lv_at hl 5 rfl) ?_
  refine lv_aload_n hx hb dX12_now_17 rfl (lv_at hl 0 rfl) ?_
  refine k_get (v := .ref (a0 7)) C fg_X12_33 hP 0 rfl rfl dX12_now_18 ?_
  refine lv_iconst (v := (1 : Int32)) hx hb dX12_now_21 (by decide) ?_
  obtain ⟨h1, hF⟩ := op_ck hF
  refine k_ild (f := S0.2.2.1 6) C hP 2 rfl h1 dX12_now_22 ?_
  refine lv_icmp_ge (tgt := 94) hx hb dX12_now_23 (by decide) (fun c2 => ?_) (fun c2 => ?_)
  · have hF := op_t hF c2
    refine lv_iload_n hx hb dX12_now_94 rfl (lv_at hl 1 rfl) ?_
    by_cases c3 : x1 = (0 : Int32)
    · have hF := op_t hF c3
      refine lv_tableIn (tgt := 136) hx hb dX12_now_95 (by rw [c3]; decide) (by rw [c3]; decide) (by rw [c3]; rfl) (by decide) ?_
      refine lv_aload_n hx hb dX12_now_136 rfl (lv_at hl 0 rfl) ?_
      refine k_get (v := .ref (a0 7)) C fg_X12_33 hP 0 rfl rfl dX12_now_137 ?_
      refine lv_bipush (v := (42 : Int32)) hx hb dX12_now_140 (by decide) ?_
      obtain ⟨h4, hF⟩ := op_ck hF
      refine k_ild (f := S0.2.2.1 6) C hP 2 rfl h4 dX12_now_142 ?_
      cases hF
      exact k_iret C hP hS dX12_now_143
    have hF := op_f hF c3
    by_cases c5 : x1 = (1 : Int32)
    · have hF := op_t hF c5
      refine lv_tableIn (tgt := 144) hx hb dX12_now_95 (by rw [c5]; decide) (by rw [c5]; decide) (by rw [c5]; rfl) (by decide) ?_
      refine lv_iload_n hx hb dX12_now_144 rfl (lv_at hl 2 rfl) ?_
      cases hF
      exact k_iret C hP hS dX12_now_145
    have hF := op_f hF c5
    by_cases c6 : x1 = (2 : Int32)
    · have hF := op_t hF c6
      refine lv_tableIn (tgt := 146) hx hb dX12_now_95 (by rw [c6]; decide) (by rw [c6]; decide) (by rw [c6]; rfl) (by decide) ?_
      refine lv_iload_n hx hb dX12_now_146 rfl (lv_at hl 3 rfl) ?_
      cases hF
      exact k_iret C hP hS dX12_now_147
    have hF := op_f hF c6
    by_cases c7 : x1 = (3 : Int32)
    · have hF := op_t hF c7
      refine lv_tableIn (tgt := 148) hx hb dX12_now_95 (by rw [c7]; decide) (by rw [c7]; decide) (by rw [c7]; rfl) (by decide) ?_
      refine lv_aload_n hx hb dX12_now_148 rfl (lv_at hl 0 rfl) ?_
      obtain ⟨r9, hc8, hF⟩ := ob1_s hF
      refine k_isame C (k_rV (As := []) (rest := []) C (c_X12_pleased l D q o0 a0 S0 _ hc8) kc_X12_pleased ml_X12_343 rfl rfl (by decide) hP hD hS (va_recv hK hP (ci := 12) (q0 := 0) rfl rfl) rfl hl.1 rfl (Nat.le_of_ble_eq_true rfl) dX12_now_149 (by decide)) hP hD hS (fun H locs hP hD hS => ?_)
      cases hF
      exact k_iret C hP hS dX12_now_152
    have hF := op_f hF c7
    by_cases c10 : x1 = (4 : Int32)
    · have hF := op_t hF c10
      refine lv_tableIn (tgt := 153) hx hb dX12_now_95 (by rw [c10]; decide) (by rw [c10]; decide) (by rw [c10]; rfl) (by decide) ?_
      refine lv_aload_n hx hb dX12_now_153 rfl (lv_at hl 0 rfl) ?_
      refine k_get (v := .ref (a0 7)) C fg_X12_33 hP 0 rfl rfl dX12_now_154 ?_
      refine lv_bipush (v := (44 : Int32)) hx hb dX12_now_157 (by decide) ?_
      obtain ⟨h11, hF⟩ := op_ck hF
      refine k_ild (f := S0.2.2.1 6) C hP 2 rfl h11 dX12_now_159 ?_
      cases hF
      exact k_iret C hP hS dX12_now_160
    have hF := op_f hF c10
    by_cases c12 : x1 = (5 : Int32)
    · have hF := op_t hF c12
      refine lv_tableIn (tgt := 161) hx hb dX12_now_95 (by rw [c12]; decide) (by rw [c12]; decide) (by rw [c12]; rfl) (by decide) ?_
      refine lv_aload_n hx hb dX12_now_161 rfl (lv_at hl 0 rfl) ?_
      refine k_get (v := .ref (a0 7)) C fg_X12_33 hP 0 rfl rfl dX12_now_162 ?_
      refine lv_bipush (v := (43 : Int32)) hx hb dX12_now_165 (by decide) ?_
      obtain ⟨h13, hF⟩ := op_ck hF
      refine k_ild (f := S0.2.2.1 6) C hP 2 rfl h13 dX12_now_167 ?_
      cases hF
      exact k_iret C hP hS dX12_now_168
    have hF := op_f hF c12
    by_cases c14 : x1 = (6 : Int32)
    · have hF := op_t hF c14
      refine lv_tableIn (tgt := 169) hx hb dX12_now_95 (by rw [c14]; decide) (by rw [c14]; decide) (by rw [c14]; rfl) (by decide) ?_
      refine lv_iload hx hb dX12_now_169 (lv_at hl 4 rfl) ?_
      cases hF
      exact k_iret C hP hS dX12_now_171
    have hF := op_f hF c14
    have nc3 := lv_neT (a := 0) c3 (by decide)
    have nc5 := lv_neT (a := 1) c5 (by decide)
    have nc6 := lv_neT (a := 2) c6 (by decide)
    have nc7 := lv_neT (a := 3) c7 (by decide)
    have nc10 := lv_neT (a := 4) c10 (by decide)
    have nc12 := lv_neT (a := 5) c12 (by decide)
    have nc14 := lv_neT (a := 6) c14 (by decide)
    refine lv_tableOut (tgt := 172) hx hb dX12_now_95 (by omega) (by decide) ?_
    refine lv_iconst (v := (-1 : Int32)) hx hb dX12_now_172 (by decide) ?_
    cases hF
    exact k_iret C hP hS dX12_now_173
  · have hF := op_f hF c2
    refine lv_iload_n hx hb dX12_now_26 rfl (lv_at hl 2 rfl) ?_
    refine lv_aload_n hx hb dX12_now_27 rfl (lv_at hl 0 rfl) ?_
    refine lv_iload hx hb dX12_now_28 (lv_at hl 5 rfl) ?_
    obtain ⟨r16, hc15, hF⟩ := ob1_s hF
    refine k_isame C (k_rV (As := [.int x5]) (rest := [.int x2]) C (c_X12_isUp l D q o0 a0 S0 _ x5 hc15) kc_X12_isUp ml_X12_337 rfl rfl (by decide) hP hD hS (va_recv hK hP (ci := 12) (q0 := 0) rfl rfl) rfl hl.1 rfl (Nat.le_of_ble_eq_true rfl) dX12_now_30 (by decide)) hP hD hS (fun H locs hP hD hS => ?_)
    refine lv_if_eq (tgt := 43) hx hb dX12_now_33 (by decide) (fun c17 => ?_) (fun c17 => ?_)
    · have hF := op_t hF c17
      refine lv_iconst (v := (0 : Int32)) hx hb dX12_now_43 (by decide) ?_
      exact b_X12_now_44 C hk15 hF hP hD hS (lv_sub hl [0, 1, 3, 4, 5] rfl)
    · have hF := op_f hF c17
      refine lv_iconst (v := (1 : Int32)) hx hb dX12_now_36 (by decide) ?_
      refine lv_iload hx hb dX12_now_37 (lv_at hl 5 rfl) ?_
      refine lv_ishl hx hb dX12_now_39 ?_
      refine lv_goto (tgt := 44) hx hb dX12_now_40 (by decide) ?_
      exact b_X12_now_44 C hk15 hF hP hD hS (lv_sub hl [0, 1, 3, 4, 5] rfl)
set_option maxRecDepth 100000 in
set_option maxHeartbeats 4000000 in
theorem l_X12_now_15 {p : Program} {l : Launch} {e : Env} {s : State} {m : MethodId} {args : Array Value} {below : List Frame} {meth : Method} {c : Code} {D : va_G} {q : Nat → ClassId} {A : Nat → Prop} {o0 : Nat} {a0 : Nat → Nat} {r : Int32} {T0 : St} (C : cx p s m args meth c cX12_now 6 (some .int) RX12 D q A) {x1 : Int32} {x2 : Int32} {x3 : Int32} {x4 : Int32} {x5 : Int32} {S0 : St} (hF : L_X12_now_15 x1 x2 x3 x4 x5 S0 = some (r, T0)) : ∀ (H : Heap) (locs : List Loc) (ls : Array Slot), va_P D vwCl (fl [g12 q o0 a0 S0]) H → va_D A (fl [g12 q o0 a0 S0]) → va_S A s.heap H locs → lv_has ls 6 [(0, .ref o0), (1, .int x1), (2, .int x2), (3, .int x3), (4, .int x4), (5, .int x5)] → W p l e rm_X12_now s m args below meth c H locs 0 0 (MQ below (QI D A r (fl [g12 q o0 a0 T0])) args s 0 0 A) (F0 m 15 ls []) :=
  lp_G _ _ (fun z => ∀ (H : Heap) (locs : List Loc) (ls : Array Slot), va_P D vwCl (fl [g12 q o0 a0 z.2.2.2.2.2]) H → va_D A (fl [g12 q o0 a0 z.2.2.2.2.2]) → va_S A s.heap H locs → lv_has ls 6 [(0, .ref o0), (1, .int z.1), (2, .int z.2.1), (3, .int z.2.2.1), (4, .int z.2.2.2.1), (5, .int z.2.2.2.2.1)] → W p l e rm_X12_now s m args below meth c H locs 0 0 (MQ below (QI D A r (fl [g12 q o0 a0 T0])) args s 0 0 A) (F0 m 15 ls [])) (fun kz hkz z hz H locs ls hP hD hS hl => b_X12_now_15 C (fun x1 x2 x3 x4 x5 S0 hz => hkz (x1, x2, x3, x4, x5, S0) hz) hz hP hD hS hl) FU (x1, x2, x3, x4, x5, S0) hF
set_option maxRecDepth 100000 in
set_option maxHeartbeats 4000000 in
theorem c_X12_now (l : Launch) (D : va_G) (q : Nat → ClassId) (o0 : Nat) (a0 : Nat → Nat) (S0 : St) (sz : Nat) (x1 : Int32) {r : Int32} {T0 : St} (hF : F_X12_now S0 x1 = some (r, T0)) : Met l yX12_now (Cond.code yX12_now cX12_now 6 (some .int) :: TB) rm_X12_now (PC D q [.ref o0, .int x1] (fl [g12 q o0 a0 S0]) sz) ((fun A => QI D A r (fl [g12 q o0 a0 T0])) (va_A (fl [g12 q o0 a0 S0]) sz)) 0 0 (va_A (fl [g12 q o0 a0 S0]) sz) := by
  refine k_met (w0 := fl [g12 q o0 a0 S0]) (Q := fun A => QI D A r (fl [g12 q o0 a0 T0])) (by decide +kernel) (Nat.le_of_ble_eq_true rfl) ?_
  intro p e s m args below meth c A ls C hP hD hS hl
  have hl : lv_has ls 6 [(0, .ref o0), (1, .int x1)] := hl
  unfold F_X12_now at hF
  have C : cx p s m args meth c cX12_now 6 (some .int) RX12 D q A := C
  obtain ⟨hx, hb, hr, hml, hown, hts, hlk, hA, hK, hN, hV⟩ := id C
  refine lv_aload_n hx hb dX12_now_0 rfl (lv_at hl 0 rfl) ?_
  refine lv_iconst (v := (0 : Int32)) hx hb dX12_now_1 (by decide) ?_
  obtain ⟨U1, e2, hF⟩ := nw_s hF
  refine k_put (W8 := fl [g12 q o0 a0 U1]) C fp_X12_1 hP hD hS 0 rfl rfl rfl (Nat.le_of_ble_eq_true rfl) dX12_now_2 (by rw [e2]; rfl) (fun H locs hP hD hS => ?_)
  refine lv_iconst (v := (0 : Int32)) hx hb dX12_now_5 (by decide) ?_
  refine lv_istore_n (lv' := [(2, .int (0 : Int32)), (0, .ref o0), (1, .int x1)]) hx hb dX12_now_6 rfl hl (by decide) rfl (fun ls hl => ?_)
  refine lv_iconst (v := (0 : Int32)) hx hb dX12_now_7 (by decide) ?_
  refine lv_istore_n (lv' := [(3, .int (0 : Int32)), (2, .int (0 : Int32)), (0, .ref o0), (1, .int x1)]) hx hb dX12_now_8 rfl hl (by decide) rfl (fun ls hl => ?_)
  refine lv_iconst (v := (0 : Int32)) hx hb dX12_now_9 (by decide) ?_
  refine lv_istore (lv' := [(4, .int (0 : Int32)), (3, .int (0 : Int32)), (2, .int (0 : Int32)), (0, .ref o0), (1, .int x1)]) hx hb dX12_now_10 hl (by decide) rfl (fun ls hl => ?_)
  refine lv_iconst (v := (0 : Int32)) hx hb dX12_now_12 (by decide) ?_
  refine lv_istore (lv' := [(5, .int (0 : Int32)), (4, .int (0 : Int32)), (3, .int (0 : Int32)), (2, .int (0 : Int32)), (0, .ref o0), (1, .int x1)]) hx hb dX12_now_13 hl (by decide) rfl (fun ls hl => ?_)
  exact l_X12_now_15 C hF _ _ _ hP hD hS (lv_sub hl [4, 5, 3, 2, 1, 0] rfl)

abbrev rm_X12_whyClimb : Room := ({ frames := 2, cells := 0, slots := 0, locals := 42 } : Room)
def F_X12_whyClimb (S0 : St) (x1 : Int32) (x2 : Int32) : Option (Int32) := ob1 (F_X12_isUp S0 x1) fun r2 => if r2 = 0 then (ob1 (F_X12_whoIsUp S0 x2) fun r5 => if r5 < 0 then (ob1 (F_X12_isWalled S0 x2) fun r8 => if r8 = 0 then (if oob ((52 : Int32) + x2) 258 then none else if oob ((24 : Int32) + x1) 258 then none else if (S0.2.2.1 6 ((52 : Int32) + x2).toNatClampNeg) ≤ (S0.2.2.1 6 ((24 : Int32) + x1).toNatClampNeg) then (some ((0 : Int32))) else (some ((4 : Int32)))) else (some ((3 : Int32)))) else (some ((2 : Int32)))) else (some ((1 : Int32)))
set_option maxRecDepth 100000 in
set_option maxHeartbeats 4000000 in
theorem c_X12_whyClimb (l : Launch) (D : va_G) (q : Nat → ClassId) (o0 : Nat) (a0 : Nat → Nat) (S0 : St) (sz : Nat) (x1 : Int32) (x2 : Int32) {r : Int32} (hF : F_X12_whyClimb S0 x1 x2 = some (r)) : Met l yX12_whyClimb (Cond.code yX12_whyClimb cX12_whyClimb 3 (some .int) :: TB) rm_X12_whyClimb (PC D q [.ref o0, .int x1, .int x2] (fl [g12 q o0 a0 S0]) sz) ((fun A => QI D A r (fl [g12 q o0 a0 S0])) (va_A (fl [g12 q o0 a0 S0]) sz)) 0 0 (va_A (fl [g12 q o0 a0 S0]) sz) := by
  refine k_met (w0 := fl [g12 q o0 a0 S0]) (Q := fun A => QI D A r (fl [g12 q o0 a0 S0])) (by decide +kernel) (Nat.le_of_ble_eq_true rfl) ?_
  intro p e s m args below meth c A ls C hP hD hS hl
  have hl : lv_has ls 3 [(0, .ref o0), (1, .int x1), (2, .int x2)] := hl
  unfold F_X12_whyClimb at hF
  have C : cx p s m args meth c cX12_whyClimb 3 (some .int) RX12 D q A := C
  obtain ⟨hx, hb, hr, hml, hown, hts, hlk, hA, hK, hN, hV⟩ := id C
  refine lv_aload_n hx hb dX12_whyClimb_0 rfl (lv_at hl 0 rfl) ?_
  refine lv_iload_n hx hb dX12_whyClimb_1 rfl (lv_at hl 1 rfl) ?_
  obtain ⟨r2, hc1, hF⟩ := ob1_s hF
  refine k_isame C (k_rV (As := [.int x1]) (rest := []) C (c_X12_isUp l D q o0 a0 S0 _ x1 hc1) kc_X12_isUp ml_X12_337 rfl rfl (by decide) hP hD hS (va_recv hK hP (ci := 12) (q0 := 0) rfl rfl) rfl hl.1 rfl (Nat.le_of_ble_eq_true rfl) dX12_whyClimb_2 (by decide)) hP hD hS (fun H locs hP hD hS => ?_)
  refine lv_if_eq (tgt := 12) hx hb dX12_whyClimb_5 (by decide) (fun c3 => ?_) (fun c3 => ?_)
  · have hF := op_t hF c3
    refine lv_aload_n hx hb dX12_whyClimb_12 rfl (lv_at hl 0 rfl) ?_
    refine lv_iload_n hx hb dX12_whyClimb_13 rfl (lv_at hl 2 rfl) ?_
    obtain ⟨r5, hc4, hF⟩ := ob1_s hF
    refine k_isame C (k_rV (As := [.int x2]) (rest := []) C (c_X12_whoIsUp l D q o0 a0 S0 _ x2 hc4) kc_X12_whoIsUp ml_X12_306 rfl rfl (by decide) hP hD hS (va_recv hK hP (ci := 12) (q0 := 0) rfl rfl) rfl hl.1 rfl (Nat.le_of_ble_eq_true rfl) dX12_whyClimb_14 (by decide)) hP hD hS (fun H locs hP hD hS => ?_)
    refine lv_if_lt (tgt := 24) hx hb dX12_whyClimb_17 (by decide) (fun c6 => ?_) (fun c6 => ?_)
    · have hF := op_t hF c6
      refine lv_aload_n hx hb dX12_whyClimb_24 rfl (lv_at hl 0 rfl) ?_
      refine lv_iload_n hx hb dX12_whyClimb_25 rfl (lv_at hl 2 rfl) ?_
      obtain ⟨r8, hc7, hF⟩ := ob1_s hF
      refine k_isame C (k_rV (As := [.int x2]) (rest := []) C (c_X12_isWalled l D q o0 a0 S0 _ x2 hc7) kc_X12_isWalled ml_X12_303 rfl rfl (by decide) hP hD hS (va_recv hK hP (ci := 12) (q0 := 0) rfl rfl) rfl hl.1 rfl (Nat.le_of_ble_eq_true rfl) dX12_whyClimb_26 (by decide)) hP hD hS (fun H locs hP hD hS => ?_)
      refine lv_if_eq (tgt := 36) hx hb dX12_whyClimb_29 (by decide) (fun c9 => ?_) (fun c9 => ?_)
      · have hF := op_t hF c9
        refine lv_aload_n hx hb dX12_whyClimb_36 rfl (lv_at hl 0 rfl) ?_
        refine k_get (v := .ref (a0 7)) C fg_X12_33 hP 0 rfl rfl dX12_whyClimb_37 ?_
        refine lv_bipush (v := (52 : Int32)) hx hb dX12_whyClimb_40 (by decide) ?_
        refine lv_iload_n hx hb dX12_whyClimb_42 rfl (lv_at hl 2 rfl) ?_
        refine lv_iadd hx hb dX12_whyClimb_43 ?_
        obtain ⟨h10, hF⟩ := op_ck hF
        refine k_ild (f := S0.2.2.1 6) C hP 2 rfl h10 dX12_whyClimb_44 ?_
        refine lv_aload_n hx hb dX12_whyClimb_45 rfl (lv_at hl 0 rfl) ?_
        refine k_get (v := .ref (a0 7)) C fg_X12_33 hP 0 rfl rfl dX12_whyClimb_46 ?_
        refine lv_bipush (v := (24 : Int32)) hx hb dX12_whyClimb_49 (by decide) ?_
        refine lv_iload_n hx hb dX12_whyClimb_51 rfl (lv_at hl 1 rfl) ?_
        refine lv_iadd hx hb dX12_whyClimb_52 ?_
        obtain ⟨h11, hF⟩ := op_ck hF
        refine k_ild (f := S0.2.2.1 6) C hP 2 rfl h11 dX12_whyClimb_53 ?_
        refine lv_icmp_le (tgt := 61) hx hb dX12_whyClimb_54 (by decide) (fun c12 => ?_) (fun c12 => ?_)
        · have hF := op_t hF c12
          refine lv_iconst (v := (0 : Int32)) hx hb dX12_whyClimb_61 (by decide) ?_
          cases hF
          exact k_iret C hP hS dX12_whyClimb_62
        · have hF := op_f hF c12
          refine lv_iconst (v := (4 : Int32)) hx hb dX12_whyClimb_57 (by decide) ?_
          refine lv_goto (tgt := 62) hx hb dX12_whyClimb_58 (by decide) ?_
          cases hF
          exact k_iret C hP hS dX12_whyClimb_62
      · have hF := op_f hF c9
        refine lv_iconst (v := (3 : Int32)) hx hb dX12_whyClimb_32 (by decide) ?_
        refine lv_goto (tgt := 62) hx hb dX12_whyClimb_33 (by decide) ?_
        cases hF
        exact k_iret C hP hS dX12_whyClimb_62
    · have hF := op_f hF c6
      refine lv_iconst (v := (2 : Int32)) hx hb dX12_whyClimb_20 (by decide) ?_
      refine lv_goto (tgt := 62) hx hb dX12_whyClimb_21 (by decide) ?_
      cases hF
      exact k_iret C hP hS dX12_whyClimb_62
  · have hF := op_f hF c3
    refine lv_iconst (v := (1 : Int32)) hx hb dX12_whyClimb_8 (by decide) ?_
    refine lv_goto (tgt := 62) hx hb dX12_whyClimb_9 (by decide) ?_
    cases hF
    exact k_iret C hP hS dX12_whyClimb_62

abbrev rm_X12_climbs : Room := ({ frames := 2, cells := 0, slots := 0, locals := 47 } : Room)
def F_X12_climbs (S0 : St) (x1 : Int32) (x2 : Int32) : Option (St) := if oob ((65 : Int32) + x1) 258 then none else nw (sA S0 6 ((65 : Int32) + x1) (x2 + (1 : Int32))) fun U2 => if oob ((59 : Int32) + x1) 258 then none else ob1 (F_X12_behindOf U2 (U2.2.2.1 6 ((59 : Int32) + x1).toNatClampNeg) x2) fun r6 => if oob ((59 : Int32) + x1) 258 then none else nw (sA U2 6 ((59 : Int32) + x1) r6) fun U8 => if oob ((71 : Int32) + x1) 258 then none else if oob ((71 : Int32) + x1) 258 then none else nw (sA U8 6 ((71 : Int32) + x1) ((U8.2.2.1 6 ((71 : Int32) + x1).toNatClampNeg) + (1 : Int32))) fun U12 => if oob (43 : Int32) 258 then none else if oob (43 : Int32) 258 then none else nw (sA U12 6 (43 : Int32) ((U12.2.2.1 6 (43 : Int32).toNatClampNeg) + (1 : Int32))) fun U16 => some (U16)
set_option maxRecDepth 100000 in
set_option maxHeartbeats 4000000 in
theorem c_X12_climbs (l : Launch) (D : va_G) (q : Nat → ClassId) (o0 : Nat) (a0 : Nat → Nat) (S0 : St) (sz : Nat) (x1 : Int32) (x2 : Int32) {T0 : St} (hF : F_X12_climbs S0 x1 x2 = some (T0)) : Met l yX12_climbs (Cond.code yX12_climbs cX12_climbs 3 none :: TB) rm_X12_climbs (PC D q [.ref o0, .int x1, .int x2] (fl [g12 q o0 a0 S0]) sz) ((fun A => QV D A (fl [g12 q o0 a0 T0])) (va_A (fl [g12 q o0 a0 S0]) sz)) 0 0 (va_A (fl [g12 q o0 a0 S0]) sz) := by
  refine k_met (w0 := fl [g12 q o0 a0 S0]) (Q := fun A => QV D A (fl [g12 q o0 a0 T0])) (by decide +kernel) (Nat.le_of_ble_eq_true rfl) ?_
  intro p e s m args below meth c A ls C hP hD hS hl
  have hl : lv_has ls 3 [(0, .ref o0), (1, .int x1), (2, .int x2)] := hl
  unfold F_X12_climbs at hF
  have C : cx p s m args meth c cX12_climbs 3 none RX12 D q A := C
  obtain ⟨hx, hb, hr, hml, hown, hts, hlk, hA, hK, hN, hV⟩ := id C
  refine lv_aload_n hx hb dX12_climbs_0 rfl (lv_at hl 0 rfl) ?_
  refine k_get (v := .ref (a0 7)) C fg_X12_33 hP 0 rfl rfl dX12_climbs_1 ?_
  refine lv_bipush (v := (65 : Int32)) hx hb dX12_climbs_4 (by decide) ?_
  refine lv_iload_n hx hb dX12_climbs_6 rfl (lv_at hl 1 rfl) ?_
  refine lv_iadd hx hb dX12_climbs_7 ?_
  refine lv_iload_n hx hb dX12_climbs_8 rfl (lv_at hl 2 rfl) ?_
  refine lv_iconst (v := (1 : Int32)) hx hb dX12_climbs_9 (by decide) ?_
  refine lv_iadd hx hb dX12_climbs_10 ?_
  obtain ⟨h1, hF⟩ := op_ck hF
  obtain ⟨U2, e3, hF⟩ := nw_s hF
  refine k_ist (f := S0.2.2.1 6) (W8 := fl [g12 q o0 a0 U2]) C hP hD hS 2 rfl h1 dX12_climbs_11 (by rw [e3]; rfl) (fun H locs hP hD hS => ?_)
  refine lv_aload_n hx hb dX12_climbs_12 rfl (lv_at hl 0 rfl) ?_
  refine k_get (v := .ref (a0 7)) C fg_X12_33 hP 0 rfl rfl dX12_climbs_13 ?_
  refine lv_bipush (v := (59 : Int32)) hx hb dX12_climbs_16 (by decide) ?_
  refine lv_iload_n hx hb dX12_climbs_18 rfl (lv_at hl 1 rfl) ?_
  refine lv_iadd hx hb dX12_climbs_19 ?_
  refine lv_aload_n hx hb dX12_climbs_20 rfl (lv_at hl 0 rfl) ?_
  refine lv_aload_n hx hb dX12_climbs_21 rfl (lv_at hl 0 rfl) ?_
  refine k_get (v := .ref (a0 7)) C fg_X12_33 hP 0 rfl rfl dX12_climbs_22 ?_
  refine lv_bipush (v := (59 : Int32)) hx hb dX12_climbs_25 (by decide) ?_
  refine lv_iload_n hx hb dX12_climbs_27 rfl (lv_at hl 1 rfl) ?_
  refine lv_iadd hx hb dX12_climbs_28 ?_
  obtain ⟨h4, hF⟩ := op_ck hF
  refine k_ild (f := U2.2.2.1 6) C hP 2 rfl h4 dX12_climbs_29 ?_
  refine lv_iload_n hx hb dX12_climbs_30 rfl (lv_at hl 2 rfl) ?_
  obtain ⟨r6, hc5, hF⟩ := ob1_s hF
  refine k_isame C (k_rV (As := [.int (U2.2.2.1 6 ((59 : Int32) + x1).toNatClampNeg), .int x2]) (rest := [.int ((59 : Int32) + x1), .ref (a0 7)]) C (c_X12_behindOf l D q o0 a0 U2 _ (U2.2.2.1 6 ((59 : Int32) + x1).toNatClampNeg) x2 hc5) kc_X12_behindOf ml_X12_346 rfl rfl (by decide) hP hD hS (va_recv hK hP (ci := 12) (q0 := 0) rfl rfl) rfl hl.1 rfl (Nat.le_of_ble_eq_true rfl) dX12_climbs_31 (by decide)) hP hD hS (fun H locs hP hD hS => ?_)
  obtain ⟨h7, hF⟩ := op_ck hF
  obtain ⟨U8, e9, hF⟩ := nw_s hF
  refine k_ist (f := U2.2.2.1 6) (W8 := fl [g12 q o0 a0 U8]) C hP hD hS 2 rfl h7 dX12_climbs_34 (by rw [e9]; rfl) (fun H locs hP hD hS => ?_)
  refine lv_aload_n hx hb dX12_climbs_35 rfl (lv_at hl 0 rfl) ?_
  refine k_get (v := .ref (a0 7)) C fg_X12_33 hP 0 rfl rfl dX12_climbs_36 ?_
  refine lv_bipush (v := (71 : Int32)) hx hb dX12_climbs_39 (by decide) ?_
  refine lv_iload_n hx hb dX12_climbs_41 rfl (lv_at hl 1 rfl) ?_
  refine lv_iadd hx hb dX12_climbs_42 ?_
  refine lv_dup2_11 hx hb dX12_climbs_43 rfl rfl ?_
  obtain ⟨h10, hF⟩ := op_ck hF
  refine k_ild (f := U8.2.2.1 6) C hP 2 rfl h10 dX12_climbs_44 ?_
  refine lv_iconst (v := (1 : Int32)) hx hb dX12_climbs_45 (by decide) ?_
  refine lv_iadd hx hb dX12_climbs_46 ?_
  obtain ⟨h11, hF⟩ := op_ck hF
  obtain ⟨U12, e13, hF⟩ := nw_s hF
  refine k_ist (f := U8.2.2.1 6) (W8 := fl [g12 q o0 a0 U12]) C hP hD hS 2 rfl h11 dX12_climbs_47 (by rw [e13]; rfl) (fun H locs hP hD hS => ?_)
  refine lv_aload_n hx hb dX12_climbs_48 rfl (lv_at hl 0 rfl) ?_
  refine k_get (v := .ref (a0 7)) C fg_X12_33 hP 0 rfl rfl dX12_climbs_49 ?_
  refine lv_bipush (v := (43 : Int32)) hx hb dX12_climbs_52 (by decide) ?_
  refine lv_dup2_11 hx hb dX12_climbs_54 rfl rfl ?_
  obtain ⟨h14, hF⟩ := op_ck hF
  refine k_ild (f := U12.2.2.1 6) C hP 2 rfl h14 dX12_climbs_55 ?_
  refine lv_iconst (v := (1 : Int32)) hx hb dX12_climbs_56 (by decide) ?_
  refine lv_iadd hx hb dX12_climbs_57 ?_
  obtain ⟨h15, hF⟩ := op_ck hF
  obtain ⟨U16, e17, hF⟩ := nw_s hF
  refine k_ist (f := U12.2.2.1 6) (W8 := fl [g12 q o0 a0 U16]) C hP hD hS 2 rfl h15 dX12_climbs_58 (by rw [e17]; rfl) (fun H locs hP hD hS => ?_)
  cases hF
  exact k_vret C hP hS dX12_climbs_59

abbrev rm_X12_whyTell : Room := ({ frames := 1, cells := 0, slots := 0, locals := 21 } : Room)
def F_X12_whyTell_21 (S0 : St) : Option (Int32) := some ((1 : Int32))
def F_X12_whyTell (S0 : St) (x1 : Int32) (x2 : Int32) (x3 : Int32) : Option (Int32) := if x1 = x2 then (F_X12_whyTell_21 S0) else (ob1 (F_X12_isUp S0 x1) fun r3 => if r3 = 0 then (ob1 (F_X12_isUp S0 x2) fun r6 => if r6 = 0 then (if oob ((59 : Int32) + x1) 258 then none else ob1 (F_X12_bitOf (S0.2.2.1 6 ((59 : Int32) + x1).toNatClampNeg) x3) fun r10 => if r10 = 0 then (some ((2 : Int32))) else (if oob ((59 : Int32) + x2) 258 then none else ob1 (F_X12_bitOf (S0.2.2.1 6 ((59 : Int32) + x2).toNatClampNeg) x3) fun r14 => if r14 = 0 then (some ((0 : Int32))) else (some ((3 : Int32))))) else (F_X12_whyTell_21 S0)) else (F_X12_whyTell_21 S0))
set_option maxRecDepth 100000 in
set_option maxHeartbeats 4000000 in
theorem b_X12_whyTell_21 {p : Program} {l : Launch} {e : Env} {s : State} {m : MethodId} {args : Array Value} {below : List Frame} {meth : Method} {c : Code} {D : va_G} {q : Nat → ClassId} {A : Nat → Prop} {o0 : Nat} {a0 : Nat → Nat} {r : Int32} (C : cx p s m args meth c cX12_whyTell 4 (some .int) RX12 D q A) {S0 : St} (hF : F_X12_whyTell_21 S0 = some (r)) {H : Heap} {locs : List Loc} (hP : va_P D vwCl (fl [g12 q o0 a0 S0]) H) (hD : va_D A (fl [g12 q o0 a0 S0])) (hS : va_S A s.heap H locs) {ls : Array Slot} (hl : lv_has ls 4 []) : W p l e rm_X12_whyTell s m args below meth c H locs 0 0 (MQ below (QI D A r (fl [g12 q o0 a0 S0])) args s 0 0 A) (F0 m 21 ls []) := by
  unfold F_X12_whyTell_21 at hF
  obtain ⟨hx, hb, hr, hml, hown, hts, hlk, hA, hK, hN, hV⟩ := id C
  refine lv_iconst (v := (1 : Int32)) hx hb dX12_whyTell_21 (by decide) ?_
  refine lv_goto (tgt := 66) hx hb dX12_whyTell_22 (by decide) ?_
  cases hF
  exact k_iret C hP hS dX12_whyTell_66
set_option maxRecDepth 100000 in
set_option maxHeartbeats 4000000 in
theorem c_X12_whyTell (l : Launch) (D : va_G) (q : Nat → ClassId) (o0 : Nat) (a0 : Nat → Nat) (S0 : St) (sz : Nat) (x1 : Int32) (x2 : Int32) (x3 : Int32) {r : Int32} (hF : F_X12_whyTell S0 x1 x2 x3 = some (r)) : Met l yX12_whyTell (Cond.code yX12_whyTell cX12_whyTell 4 (some .int) :: TB) rm_X12_whyTell (PC D q [.ref o0, .int x1, .int x2, .int x3] (fl [g12 q o0 a0 S0]) sz) ((fun A => QI D A r (fl [g12 q o0 a0 S0])) (va_A (fl [g12 q o0 a0 S0]) sz)) 0 0 (va_A (fl [g12 q o0 a0 S0]) sz) := by
  refine k_met (w0 := fl [g12 q o0 a0 S0]) (Q := fun A => QI D A r (fl [g12 q o0 a0 S0])) (by decide +kernel) (Nat.le_of_ble_eq_true rfl) ?_
  intro p e s m args below meth c A ls C hP hD hS hl
  have hl : lv_has ls 4 [(0, .ref o0), (1, .int x1), (2, .int x2), (3, .int x3)] := hl
  unfold F_X12_whyTell at hF
  have C : cx p s m args meth c cX12_whyTell 4 (some .int) RX12 D q A := C
  obtain ⟨hx, hb, hr, hml, hown, hts, hlk, hA, hK, hN, hV⟩ := id C
  refine lv_iload_n hx hb dX12_whyTell_0 rfl (lv_at hl 1 rfl) ?_
  refine lv_iload_n hx hb dX12_whyTell_1 rfl (lv_at hl 2 rfl) ?_
  refine lv_icmp_eq (tgt := 21) hx hb dX12_whyTell_2 (by decide) (fun c1 => ?_) (fun c1 => ?_)
  · have hF := op_t hF c1
    exact b_X12_whyTell_21 C hF hP hD hS (lv_sub hl [] rfl)
  · have hF := op_f hF c1
    refine lv_aload_n hx hb dX12_whyTell_5 rfl (lv_at hl 0 rfl) ?_
    refine lv_iload_n hx hb dX12_whyTell_6 rfl (lv_at hl 1 rfl) ?_
    obtain ⟨r3, hc2, hF⟩ := ob1_s hF
    refine k_isame C (k_rV (As := [.int x1]) (rest := []) C (c_X12_isUp l D q o0 a0 S0 _ x1 hc2) kc_X12_isUp ml_X12_337 rfl rfl (by decide) hP hD hS (va_recv hK hP (ci := 12) (q0 := 0) rfl rfl) rfl hl.1 rfl (Nat.le_of_ble_eq_true rfl) dX12_whyTell_7 (by decide)) hP hD hS (fun H locs hP hD hS => ?_)
    refine lv_if_ne (tgt := 21) hx hb dX12_whyTell_10 (by decide) (fun c4 => ?_) (fun c4 => ?_)
    · have hF := op_f hF c4
      exact b_X12_whyTell_21 C hF hP hD hS (lv_sub hl [] rfl)
    · have hF := op_t hF c4
      refine lv_aload_n hx hb dX12_whyTell_13 rfl (lv_at hl 0 rfl) ?_
      refine lv_iload_n hx hb dX12_whyTell_14 rfl (lv_at hl 2 rfl) ?_
      obtain ⟨r6, hc5, hF⟩ := ob1_s hF
      refine k_isame C (k_rV (As := [.int x2]) (rest := []) C (c_X12_isUp l D q o0 a0 S0 _ x2 hc5) kc_X12_isUp ml_X12_337 rfl rfl (by decide) hP hD hS (va_recv hK hP (ci := 12) (q0 := 0) rfl rfl) rfl hl.1 rfl (Nat.le_of_ble_eq_true rfl) dX12_whyTell_15 (by decide)) hP hD hS (fun H locs hP hD hS => ?_)
      refine lv_if_eq (tgt := 25) hx hb dX12_whyTell_18 (by decide) (fun c7 => ?_) (fun c7 => ?_)
      · have hF := op_t hF c7
        refine lv_aload_n hx hb dX12_whyTell_25 rfl (lv_at hl 0 rfl) ?_
        refine k_get (v := .ref (a0 7)) C fg_X12_33 hP 0 rfl rfl dX12_whyTell_26 ?_
        refine lv_bipush (v := (59 : Int32)) hx hb dX12_whyTell_29 (by decide) ?_
        refine lv_iload_n hx hb dX12_whyTell_31 rfl (lv_at hl 1 rfl) ?_
        refine lv_iadd hx hb dX12_whyTell_32 ?_
        obtain ⟨h8, hF⟩ := op_ck hF
        refine k_ild (f := S0.2.2.1 6) C hP 2 rfl h8 dX12_whyTell_33 ?_
        refine lv_iload_n hx hb dX12_whyTell_34 rfl (lv_at hl 3 rfl) ?_
        obtain ⟨r10, hc9, hF⟩ := ob1_s hF
        refine k_inil C (k_rS (As := [.int (S0.2.2.1 6 ((59 : Int32) + x1).toNatClampNeg), .int x3]) (rest := []) C (c_X12_bitOf l D q _ (S0.2.2.1 6 ((59 : Int32) + x1).toNatClampNeg) x3 hc9) kc_X12_bitOf ml_X12_275 rfl rfl (by decide) (fun k x h => by simp at h) (⟨fun i j x y h => by simp at h, fun k x h => by simp at h⟩ : va_D A []) hS rfl hl.1 rfl (Nat.le_of_ble_eq_true rfl) dX12_whyTell_35 (by decide)) hP hD hS (fun H locs hP hD hS => ?_)
        refine lv_if_ne (tgt := 45) hx hb dX12_whyTell_38 (by decide) (fun c11 => ?_) (fun c11 => ?_)
        · have hF := op_f hF c11
          refine lv_aload_n hx hb dX12_whyTell_45 rfl (lv_at hl 0 rfl) ?_
          refine k_get (v := .ref (a0 7)) C fg_X12_33 hP 0 rfl rfl dX12_whyTell_46 ?_
          refine lv_bipush (v := (59 : Int32)) hx hb dX12_whyTell_49 (by decide) ?_
          refine lv_iload_n hx hb dX12_whyTell_51 rfl (lv_at hl 2 rfl) ?_
          refine lv_iadd hx hb dX12_whyTell_52 ?_
          obtain ⟨h12, hF⟩ := op_ck hF
          refine k_ild (f := S0.2.2.1 6) C hP 2 rfl h12 dX12_whyTell_53 ?_
          refine lv_iload_n hx hb dX12_whyTell_54 rfl (lv_at hl 3 rfl) ?_
          obtain ⟨r14, hc13, hF⟩ := ob1_s hF
          refine k_inil C (k_rS (As := [.int (S0.2.2.1 6 ((59 : Int32) + x2).toNatClampNeg), .int x3]) (rest := []) C (c_X12_bitOf l D q _ (S0.2.2.1 6 ((59 : Int32) + x2).toNatClampNeg) x3 hc13) kc_X12_bitOf ml_X12_275 rfl rfl (by decide) (fun k x h => by simp at h) (⟨fun i j x y h => by simp at h, fun k x h => by simp at h⟩ : va_D A []) hS rfl hl.1 rfl (Nat.le_of_ble_eq_true rfl) dX12_whyTell_55 (by decide)) hP hD hS (fun H locs hP hD hS => ?_)
          refine lv_if_eq (tgt := 65) hx hb dX12_whyTell_58 (by decide) (fun c15 => ?_) (fun c15 => ?_)
          · have hF := op_t hF c15
            refine lv_iconst (v := (0 : Int32)) hx hb dX12_whyTell_65 (by decide) ?_
            cases hF
            exact k_iret C hP hS dX12_whyTell_66
          · have hF := op_f hF c15
            refine lv_iconst (v := (3 : Int32)) hx hb dX12_whyTell_61 (by decide) ?_
            refine lv_goto (tgt := 66) hx hb dX12_whyTell_62 (by decide) ?_
            cases hF
            exact k_iret C hP hS dX12_whyTell_66
        · have hF := op_t hF c11
          refine lv_iconst (v := (2 : Int32)) hx hb dX12_whyTell_41 (by decide) ?_
          refine lv_goto (tgt := 66) hx hb dX12_whyTell_42 (by decide) ?_
          cases hF
          exact k_iret C hP hS dX12_whyTell_66
      · have hF := op_f hF c7
        exact b_X12_whyTell_21 C hF hP hD hS (lv_sub hl [] rfl)

abbrev rm_X12_whyStorm : Room := ({ frames := 0, cells := 0, slots := 0, locals := 0 } : Room)
def F_X12_whyStorm_2 (k2 : Int32 × Int32 × St → Option (Int32)) (x1 : Int32) (x2 : Int32) (S0 : St) : Option (Int32) := if oob (0 : Int32) 258 then none else if (S0.2.2.1 6 (0 : Int32).toNatClampNeg) ≤ x2 then (some ((1 : Int32))) else (if oob ((52 : Int32) + x2) 258 then none else if (S0.2.2.1 6 ((52 : Int32) + x2).toNatClampNeg) ≤ x1 then (k2 (x1, (x2 + 1), S0)) else (some ((0 : Int32))))
def L_X12_whyStorm_2 (x1 : Int32) (x2 : Int32) (S0 : St) : Option (Int32) := lp (fun kz z => F_X12_whyStorm_2 kz z.1 z.2.1 z.2.2) FU (x1, x2, S0)
def F_X12_whyStorm (S0 : St) (x1 : Int32) : Option (Int32) := L_X12_whyStorm_2 x1 (0 : Int32) S0
set_option maxRecDepth 100000 in
set_option maxHeartbeats 4000000 in
theorem b_X12_whyStorm_2 {p : Program} {l : Launch} {e : Env} {s : State} {m : MethodId} {args : Array Value} {below : List Frame} {meth : Method} {c : Code} {D : va_G} {q : Nat → ClassId} {A : Nat → Prop} {o0 : Nat} {a0 : Nat → Nat} {r : Int32} (C : cx p s m args meth c cX12_whyStorm 3 (some .int) RX12 D q A) {k2 : Int32 × Int32 × St → Option (Int32)} (hk2 : ∀ (x1 : Int32) (x2 : Int32) (S0 : St), k2 (x1, x2, S0) = some (r) → ∀ (H : Heap) (locs : List Loc) (ls : Array Slot), va_P D vwCl (fl [g12 q o0 a0 S0]) H → va_D A (fl [g12 q o0 a0 S0]) → va_S A s.heap H locs → lv_has ls 3 [(0, .ref o0), (1, .int x1), (2, .int x2)] → W p l e rm_X12_whyStorm s m args below meth c H locs 0 0 (MQ below (QI D A r (fl [g12 q o0 a0 S0])) args s 0 0 A) (F0 m 2 ls [])) {x1 : Int32} {x2 : Int32} {S0 : St} (hF : F_X12_whyStorm_2 k2 x1 x2 S0 = some (r)) {H : Heap} {locs : List Loc} (hP : va_P D vwCl (fl [g12 q o0 a0 S0]) H) (hD : va_D A (fl [g12 q o0 a0 S0])) (hS : va_S A s.heap H locs) {ls : Array Slot} (hl : lv_has ls 3 [(0, .ref o0), (1, .int x1), (2, .int x2)]) : W p l e rm_X12_whyStorm s m args below meth c H locs 0 0 (MQ below (QI D A r (fl [g12 q o0 a0 S0])) args s 0 0 A) (F0 m 2 ls []) := by
  unfold F_X12_whyStorm_2 at hF
  obtain ⟨hx, hb, hr, hml, hown, hts, hlk, hA, hK, hN, hV⟩ := id C
  refine lv_iload_n hx hb dX12_whyStorm_2 rfl (lv_at hl 2 rfl) ?_
  refine lv_aload_n hx hb dX12_whyStorm_3 rfl (lv_at hl 0 rfl) ?_
  refine k_get (v := .ref (a0 7)) C fg_X12_33 hP 0 rfl rfl dX12_whyStorm_4 ?_
  refine lv_iconst (v := (0 : Int32)) hx hb dX12_whyStorm_7 (by decide) ?_
  obtain ⟨h1, hF⟩ := op_ck hF
  refine k_ild (f := S0.2.2.1 6) C hP 2 rfl h1 dX12_whyStorm_8 ?_
  refine lv_icmp_ge (tgt := 33) hx hb dX12_whyStorm_9 (by decide) (fun c2 => ?_) (fun c2 => ?_)
  · have hF := op_t hF c2
    refine lv_iconst (v := (1 : Int32)) hx hb dX12_whyStorm_33 (by decide) ?_
    cases hF
    exact k_iret C hP hS dX12_whyStorm_34
  · have hF := op_f hF c2
    refine lv_aload_n hx hb dX12_whyStorm_12 rfl (lv_at hl 0 rfl) ?_
    refine k_get (v := .ref (a0 7)) C fg_X12_33 hP 0 rfl rfl dX12_whyStorm_13 ?_
    refine lv_bipush (v := (52 : Int32)) hx hb dX12_whyStorm_16 (by decide) ?_
    refine lv_iload_n hx hb dX12_whyStorm_18 rfl (lv_at hl 2 rfl) ?_
    refine lv_iadd hx hb dX12_whyStorm_19 ?_
    obtain ⟨h3, hF⟩ := op_ck hF
    refine k_ild (f := S0.2.2.1 6) C hP 2 rfl h3 dX12_whyStorm_20 ?_
    refine lv_iload_n hx hb dX12_whyStorm_21 rfl (lv_at hl 1 rfl) ?_
    refine lv_icmp_le (tgt := 27) hx hb dX12_whyStorm_22 (by decide) (fun c4 => ?_) (fun c4 => ?_)
    · have hF := op_t hF c4
      refine lv_iinc (v := (x2 + 1)) (lv' := [(2, .int (x2 + 1)), (0, .ref o0), (1, .int x1)]) hx hb dX12_whyStorm_27 hl (k := 2) rfl rfl (by decide) rfl (fun ls hl => ?_)
      refine lv_goto (tgt := 2) hx hb dX12_whyStorm_30 (by decide) ?_
      exact hk2 x1 (x2 + 1) S0 hF _ _ _ hP hD hS (lv_sub hl [1, 2, 0] rfl)
    · have hF := op_f hF c4
      refine lv_iconst (v := (0 : Int32)) hx hb dX12_whyStorm_25 (by decide) ?_
      cases hF
      exact k_iret C hP hS dX12_whyStorm_26
set_option maxRecDepth 100000 in
set_option maxHeartbeats 4000000 in
theorem l_X12_whyStorm_2 {p : Program} {l : Launch} {e : Env} {s : State} {m : MethodId} {args : Array Value} {below : List Frame} {meth : Method} {c : Code} {D : va_G} {q : Nat → ClassId} {A : Nat → Prop} {o0 : Nat} {a0 : Nat → Nat} {r : Int32} (C : cx p s m args meth c cX12_whyStorm 3 (some .int) RX12 D q A) {x1 : Int32} {x2 : Int32} {S0 : St} (hF : L_X12_whyStorm_2 x1 x2 S0 = some (r)) : ∀ (H : Heap) (locs : List Loc) (ls : Array Slot), va_P D vwCl (fl [g12 q o0 a0 S0]) H → va_D A (fl [g12 q o0 a0 S0]) → va_S A s.heap H locs → lv_has ls 3 [(0, .ref o0), (1, .int x1), (2, .int x2)] → W p l e rm_X12_whyStorm s m args below meth c H locs 0 0 (MQ below (QI D A r (fl [g12 q o0 a0 S0])) args s 0 0 A) (F0 m 2 ls []) :=
  lp_G _ _ (fun z => ∀ (H : Heap) (locs : List Loc) (ls : Array Slot), va_P D vwCl (fl [g12 q o0 a0 z.2.2]) H → va_D A (fl [g12 q o0 a0 z.2.2]) → va_S A s.heap H locs → lv_has ls 3 [(0, .ref o0), (1, .int z.1), (2, .int z.2.1)] → W p l e rm_X12_whyStorm s m args below meth c H locs 0 0 (MQ below (QI D A r (fl [g12 q o0 a0 z.2.2])) args s 0 0 A) (F0 m 2 ls [])) (fun kz hkz z hz H locs ls hP hD hS hl => b_X12_whyStorm_2 C (fun x1 x2 S0 hz => hkz (x1, x2, S0) hz) hz hP hD hS hl) FU (x1, x2, S0) hF
set_option maxRecDepth 100000 in
set_option maxHeartbeats 4000000 in
theorem c_X12_whyStorm (l : Launch) (D : va_G) (q : Nat → ClassId) (o0 : Nat) (a0 : Nat → Nat) (S0 : St) (sz : Nat) (x1 : Int32) {r : Int32} (hF : F_X12_whyStorm S0 x1 = some (r)) : Met l yX12_whyStorm (Cond.code yX12_whyStorm cX12_whyStorm 3 (some .int) :: TB) rm_X12_whyStorm (PC D q [.ref o0, .int x1] (fl [g12 q o0 a0 S0]) sz) ((fun A => QI D A r (fl [g12 q o0 a0 S0])) (va_A (fl [g12 q o0 a0 S0]) sz)) 0 0 (va_A (fl [g12 q o0 a0 S0]) sz) := by
  refine k_met (w0 := fl [g12 q o0 a0 S0]) (Q := fun A => QI D A r (fl [g12 q o0 a0 S0])) (by decide +kernel) (Nat.le_of_ble_eq_true rfl) ?_
  intro p e s m args below meth c A ls C hP hD hS hl
  have hl : lv_has ls 3 [(0, .ref o0), (1, .int x1)] := hl
  unfold F_X12_whyStorm at hF
  have C : cx p s m args meth c cX12_whyStorm 3 (some .int) RX12 D q A := C
  obtain ⟨hx, hb, hr, hml, hown, hts, hlk, hA, hK, hN, hV⟩ := id C
  refine lv_iconst (v := (0 : Int32)) hx hb dX12_whyStorm_0 (by decide) ?_
  refine lv_istore_n (lv' := [(2, .int (0 : Int32)), (0, .ref o0), (1, .int x1)]) hx hb dX12_whyStorm_1 rfl hl (by decide) rfl (fun ls hl => ?_)
  exact l_X12_whyStorm_2 C hF _ _ _ hP hD hS (lv_sub hl [1, 2, 0] rfl)

abbrev rm_X12_storms : Room := ({ frames := 0, cells := 0, slots := 0, locals := 0 } : Room)
def F_X12_storms_35 (k2 : Int32 × Int32 × St → Option (St)) (x1 : Int32) (x2 : Int32) (S0 : St) : Option (St) := k2 (x1, (x2 + 1), S0)
def F_X12_storms_2 (k2 : Int32 × Int32 × St → Option (St)) (x1 : Int32) (x2 : Int32) (S0 : St) : Option (St) := if oob (0 : Int32) 258 then none else if (S0.2.2.1 6 (0 : Int32).toNatClampNeg) ≤ x2 then (some (S0)) else (if oob ((52 : Int32) + x2) 258 then none else if (S0.2.2.1 6 ((52 : Int32) + x2).toNatClampNeg) ≤ x1 then (F_X12_storms_35 k2 x1 x2 S0) else (if oob ((52 : Int32) + x2) 258 then none else nw (sA S0 6 ((52 : Int32) + x2) x1) fun U6 => F_X12_storms_35 k2 x1 x2 U6))
def L_X12_storms_2 (x1 : Int32) (x2 : Int32) (S0 : St) : Option (St) := lp (fun kz z => F_X12_storms_2 kz z.1 z.2.1 z.2.2) FU (x1, x2, S0)
def F_X12_storms (S0 : St) (x1 : Int32) : Option (St) := L_X12_storms_2 x1 (0 : Int32) S0
set_option maxRecDepth 100000 in
set_option maxHeartbeats 4000000 in
theorem b_X12_storms_35 {p : Program} {l : Launch} {e : Env} {s : State} {m : MethodId} {args : Array Value} {below : List Frame} {meth : Method} {c : Code} {D : va_G} {q : Nat → ClassId} {A : Nat → Prop} {o0 : Nat} {a0 : Nat → Nat} {T0 : St} (C : cx p s m args meth c cX12_storms 3 none RX12 D q A) {k2 : Int32 × Int32 × St → Option (St)} (hk2 : ∀ (x1 : Int32) (x2 : Int32) (S0 : St), k2 (x1, x2, S0) = some (T0) → ∀ (H : Heap) (locs : List Loc) (ls : Array Slot), va_P D vwCl (fl [g12 q o0 a0 S0]) H → va_D A (fl [g12 q o0 a0 S0]) → va_S A s.heap H locs → lv_has ls 3 [(0, .ref o0), (1, .int x1), (2, .int x2)] → W p l e rm_X12_storms s m args below meth c H locs 0 0 (MQ below (QV D A (fl [g12 q o0 a0 T0])) args s 0 0 A) (F0 m 2 ls [])) {x1 : Int32} {x2 : Int32} {S0 : St} (hF : F_X12_storms_35 k2 x1 x2 S0 = some (T0)) {H : Heap} {locs : List Loc} (hP : va_P D vwCl (fl [g12 q o0 a0 S0]) H) (hD : va_D A (fl [g12 q o0 a0 S0])) (hS : va_S A s.heap H locs) {ls : Array Slot} (hl : lv_has ls 3 [(0, .ref o0), (1, .int x1), (2, .int x2)]) : W p l e rm_X12_storms s m args below meth c H locs 0 0 (MQ below (QV D A (fl [g12 q o0 a0 T0])) args s 0 0 A) (F0 m 35 ls []) := by
  unfold F_X12_storms_35 at hF
  obtain ⟨hx, hb, hr, hml, hown, hts, hlk, hA, hK, hN, hV⟩ := id C
  refine lv_iinc (v := (x2 + 1)) (lv' := [(2, .int (x2 + 1)), (0, .ref o0), (1, .int x1)]) hx hb dX12_storms_35 hl (k := 2) rfl rfl (by decide) rfl (fun ls hl => ?_)
  refine lv_goto (tgt := 2) hx hb dX12_storms_38 (by decide) ?_
  exact hk2 x1 (x2 + 1) S0 hF _ _ _ hP hD hS (lv_sub hl [1, 2, 0] rfl)
set_option maxRecDepth 100000 in
set_option maxHeartbeats 4000000 in
theorem b_X12_storms_2 {p : Program} {l : Launch} {e : Env} {s : State} {m : MethodId} {args : Array Value} {below : List Frame} {meth : Method} {c : Code} {D : va_G} {q : Nat → ClassId} {A : Nat → Prop} {o0 : Nat} {a0 : Nat → Nat} {T0 : St} (C : cx p s m args meth c cX12_storms 3 none RX12 D q A) {k2 : Int32 × Int32 × St → Option (St)} (hk2 : ∀ (x1 : Int32) (x2 : Int32) (S0 : St), k2 (x1, x2, S0) = some (T0) → ∀ (H : Heap) (locs : List Loc) (ls : Array Slot), va_P D vwCl (fl [g12 q o0 a0 S0]) H → va_D A (fl [g12 q o0 a0 S0]) → va_S A s.heap H locs → lv_has ls 3 [(0, .ref o0), (1, .int x1), (2, .int x2)] → W p l e rm_X12_storms s m args below meth c H locs 0 0 (MQ below (QV D A (fl [g12 q o0 a0 T0])) args s 0 0 A) (F0 m 2 ls [])) {x1 : Int32} {x2 : Int32} {S0 : St} (hF : F_X12_storms_2 k2 x1 x2 S0 = some (T0)) {H : Heap} {locs : List Loc} (hP : va_P D vwCl (fl [g12 q o0 a0 S0]) H) (hD : va_D A (fl [g12 q o0 a0 S0])) (hS : va_S A s.heap H locs) {ls : Array Slot} (hl : lv_has ls 3 [(0, .ref o0), (1, .int x1), (2, .int x2)]) : W p l e rm_X12_storms s m args below meth c H locs 0 0 (MQ below (QV D A (fl [g12 q o0 a0 T0])) args s 0 0 A) (F0 m 2 ls []) := by
  unfold F_X12_storms_2 at hF
  obtain ⟨hx, hb, hr, hml, hown, hts, hlk, hA, hK, hN, hV⟩ := id C
  refine lv_iload_n hx hb dX12_storms_2 rfl (lv_at hl 2 rfl) ?_
  refine lv_aload_n hx hb dX12_storms_3 rfl (lv_at hl 0 rfl) ?_
  refine k_get (v := .ref (a0 7)) C fg_X12_33 hP 0 rfl rfl dX12_storms_4 ?_
  refine lv_iconst (v := (0 : Int32)) hx hb dX12_storms_7 (by decide) ?_
  obtain ⟨h1, hF⟩ := op_ck hF
  refine k_ild (f := S0.2.2.1 6) C hP 2 rfl h1 dX12_storms_8 ?_
  refine lv_icmp_ge (tgt := 41) hx hb dX12_storms_9 (by decide) (fun c2 => ?_) (fun c2 => ?_)
  · have hF := op_t hF c2
    cases hF
    exact k_vret C hP hS dX12_storms_41
  · have hF := op_f hF c2
    refine lv_aload_n hx hb dX12_storms_12 rfl (lv_at hl 0 rfl) ?_
    refine k_get (v := .ref (a0 7)) C fg_X12_33 hP 0 rfl rfl dX12_storms_13 ?_
    refine lv_bipush (v := (52 : Int32)) hx hb dX12_storms_16 (by decide) ?_
    refine lv_iload_n hx hb dX12_storms_18 rfl (lv_at hl 2 rfl) ?_
    refine lv_iadd hx hb dX12_storms_19 ?_
    obtain ⟨h3, hF⟩ := op_ck hF
    refine k_ild (f := S0.2.2.1 6) C hP 2 rfl h3 dX12_storms_20 ?_
    refine lv_iload_n hx hb dX12_storms_21 rfl (lv_at hl 1 rfl) ?_
    refine lv_icmp_le (tgt := 35) hx hb dX12_storms_22 (by decide) (fun c4 => ?_) (fun c4 => ?_)
    · have hF := op_t hF c4
      exact b_X12_storms_35 C hk2 hF hP hD hS (lv_sub hl [0, 1, 2] rfl)
    · have hF := op_f hF c4
      refine lv_aload_n hx hb dX12_storms_25 rfl (lv_at hl 0 rfl) ?_
      refine k_get (v := .ref (a0 7)) C fg_X12_33 hP 0 rfl rfl dX12_storms_26 ?_
      refine lv_bipush (v := (52 : Int32)) hx hb dX12_storms_29 (by decide) ?_
      refine lv_iload_n hx hb dX12_storms_31 rfl (lv_at hl 2 rfl) ?_
      refine lv_iadd hx hb dX12_storms_32 ?_
      refine lv_iload_n hx hb dX12_storms_33 rfl (lv_at hl 1 rfl) ?_
      obtain ⟨h5, hF⟩ := op_ck hF
      obtain ⟨U6, e7, hF⟩ := nw_s hF
      refine k_ist (f := S0.2.2.1 6) (W8 := fl [g12 q o0 a0 U6]) C hP hD hS 2 rfl h5 dX12_storms_34 (by rw [e7]; rfl) (fun H locs hP hD hS => ?_)
      exact b_X12_storms_35 C hk2 hF hP hD hS (lv_sub hl [0, 1, 2] rfl)
set_option maxRecDepth 100000 in
set_option maxHeartbeats 4000000 in
theorem l_X12_storms_2 {p : Program} {l : Launch} {e : Env} {s : State} {m : MethodId} {args : Array Value} {below : List Frame} {meth : Method} {c : Code} {D : va_G} {q : Nat → ClassId} {A : Nat → Prop} {o0 : Nat} {a0 : Nat → Nat} {T0 : St} (C : cx p s m args meth c cX12_storms 3 none RX12 D q A) {x1 : Int32} {x2 : Int32} {S0 : St} (hF : L_X12_storms_2 x1 x2 S0 = some (T0)) : ∀ (H : Heap) (locs : List Loc) (ls : Array Slot), va_P D vwCl (fl [g12 q o0 a0 S0]) H → va_D A (fl [g12 q o0 a0 S0]) → va_S A s.heap H locs → lv_has ls 3 [(0, .ref o0), (1, .int x1), (2, .int x2)] → W p l e rm_X12_storms s m args below meth c H locs 0 0 (MQ below (QV D A (fl [g12 q o0 a0 T0])) args s 0 0 A) (F0 m 2 ls []) :=
  lp_G _ _ (fun z => ∀ (H : Heap) (locs : List Loc) (ls : Array Slot), va_P D vwCl (fl [g12 q o0 a0 z.2.2]) H → va_D A (fl [g12 q o0 a0 z.2.2]) → va_S A s.heap H locs → lv_has ls 3 [(0, .ref o0), (1, .int z.1), (2, .int z.2.1)] → W p l e rm_X12_storms s m args below meth c H locs 0 0 (MQ below (QV D A (fl [g12 q o0 a0 T0])) args s 0 0 A) (F0 m 2 ls [])) (fun kz hkz z hz H locs ls hP hD hS hl => b_X12_storms_2 C (fun x1 x2 S0 hz => hkz (x1, x2, S0) hz) hz hP hD hS hl) FU (x1, x2, S0) hF
set_option maxRecDepth 100000 in
set_option maxHeartbeats 4000000 in
theorem c_X12_storms (l : Launch) (D : va_G) (q : Nat → ClassId) (o0 : Nat) (a0 : Nat → Nat) (S0 : St) (sz : Nat) (x1 : Int32) {T0 : St} (hF : F_X12_storms S0 x1 = some (T0)) : Met l yX12_storms (Cond.code yX12_storms cX12_storms 3 none :: TB) rm_X12_storms (PC D q [.ref o0, .int x1] (fl [g12 q o0 a0 S0]) sz) ((fun A => QV D A (fl [g12 q o0 a0 T0])) (va_A (fl [g12 q o0 a0 S0]) sz)) 0 0 (va_A (fl [g12 q o0 a0 S0]) sz) := by
  refine k_met (w0 := fl [g12 q o0 a0 S0]) (Q := fun A => QV D A (fl [g12 q o0 a0 T0])) (by decide +kernel) (Nat.le_of_ble_eq_true rfl) ?_
  intro p e s m args below meth c A ls C hP hD hS hl
  have hl : lv_has ls 3 [(0, .ref o0), (1, .int x1)] := hl
  unfold F_X12_storms at hF
  have C : cx p s m args meth c cX12_storms 3 none RX12 D q A := C
  obtain ⟨hx, hb, hr, hml, hown, hts, hlk, hA, hK, hN, hV⟩ := id C
  refine lv_iconst (v := (0 : Int32)) hx hb dX12_storms_0 (by decide) ?_
  refine lv_istore_n (lv' := [(2, .int (0 : Int32)), (0, .ref o0), (1, .int x1)]) hx hb dX12_storms_1 rfl hl (by decide) rfl (fun ls hl => ?_)
  exact l_X12_storms_2 C hF _ _ _ hP hD hS (lv_sub hl [1, 2, 0] rfl)

abbrev rm_X12_whyWall : Room := ({ frames := 2, cells := 0, slots := 0, locals := 42 } : Room)
def F_X12_whyWall (S0 : St) (x1 : Int32) : Option (Int32) := ob1 (F_X12_isWalled S0 x1) fun r2 => if r2 = 0 then (ob1 (F_X12_whoIsUp S0 x1) fun r5 => if r5 < 0 then (some ((0 : Int32))) else (some ((2 : Int32)))) else (some ((1 : Int32)))
set_option maxRecDepth 100000 in
set_option maxHeartbeats 4000000 in
theorem c_X12_whyWall (l : Launch) (D : va_G) (q : Nat → ClassId) (o0 : Nat) (a0 : Nat → Nat) (S0 : St) (sz : Nat) (x1 : Int32) {r : Int32} (hF : F_X12_whyWall S0 x1 = some (r)) : Met l yX12_whyWall (Cond.code yX12_whyWall cX12_whyWall 2 (some .int) :: TB) rm_X12_whyWall (PC D q [.ref o0, .int x1] (fl [g12 q o0 a0 S0]) sz) ((fun A => QI D A r (fl [g12 q o0 a0 S0])) (va_A (fl [g12 q o0 a0 S0]) sz)) 0 0 (va_A (fl [g12 q o0 a0 S0]) sz) := by
  refine k_met (w0 := fl [g12 q o0 a0 S0]) (Q := fun A => QI D A r (fl [g12 q o0 a0 S0])) (by decide +kernel) (Nat.le_of_ble_eq_true rfl) ?_
  intro p e s m args below meth c A ls C hP hD hS hl
  have hl : lv_has ls 2 [(0, .ref o0), (1, .int x1)] := hl
  unfold F_X12_whyWall at hF
  have C : cx p s m args meth c cX12_whyWall 2 (some .int) RX12 D q A := C
  obtain ⟨hx, hb, hr, hml, hown, hts, hlk, hA, hK, hN, hV⟩ := id C
  refine lv_aload_n hx hb dX12_whyWall_0 rfl (lv_at hl 0 rfl) ?_
  refine lv_iload_n hx hb dX12_whyWall_1 rfl (lv_at hl 1 rfl) ?_
  obtain ⟨r2, hc1, hF⟩ := ob1_s hF
  refine k_isame C (k_rV (As := [.int x1]) (rest := []) C (c_X12_isWalled l D q o0 a0 S0 _ x1 hc1) kc_X12_isWalled ml_X12_303 rfl rfl (by decide) hP hD hS (va_recv hK hP (ci := 12) (q0 := 0) rfl rfl) rfl hl.1 rfl (Nat.le_of_ble_eq_true rfl) dX12_whyWall_2 (by decide)) hP hD hS (fun H locs hP hD hS => ?_)
  refine lv_if_eq (tgt := 12) hx hb dX12_whyWall_5 (by decide) (fun c3 => ?_) (fun c3 => ?_)
  · have hF := op_t hF c3
    refine lv_aload_n hx hb dX12_whyWall_12 rfl (lv_at hl 0 rfl) ?_
    refine lv_iload_n hx hb dX12_whyWall_13 rfl (lv_at hl 1 rfl) ?_
    obtain ⟨r5, hc4, hF⟩ := ob1_s hF
    refine k_isame C (k_rV (As := [.int x1]) (rest := []) C (c_X12_whoIsUp l D q o0 a0 S0 _ x1 hc4) kc_X12_whoIsUp ml_X12_306 rfl rfl (by decide) hP hD hS (va_recv hK hP (ci := 12) (q0 := 0) rfl rfl) rfl hl.1 rfl (Nat.le_of_ble_eq_true rfl) dX12_whyWall_14 (by decide)) hP hD hS (fun H locs hP hD hS => ?_)
    refine lv_if_lt (tgt := 24) hx hb dX12_whyWall_17 (by decide) (fun c6 => ?_) (fun c6 => ?_)
    · have hF := op_t hF c6
      refine lv_iconst (v := (0 : Int32)) hx hb dX12_whyWall_24 (by decide) ?_
      cases hF
      exact k_iret C hP hS dX12_whyWall_25
    · have hF := op_f hF c6
      refine lv_iconst (v := (2 : Int32)) hx hb dX12_whyWall_20 (by decide) ?_
      refine lv_goto (tgt := 25) hx hb dX12_whyWall_21 (by decide) ?_
      cases hF
      exact k_iret C hP hS dX12_whyWall_25
  · have hF := op_f hF c3
    refine lv_iconst (v := (1 : Int32)) hx hb dX12_whyWall_8 (by decide) ?_
    refine lv_goto (tgt := 25) hx hb dX12_whyWall_9 (by decide) ?_
    cases hF
    exact k_iret C hP hS dX12_whyWall_25

abbrev rm_X12_day : Room := ({ frames := 0, cells := 0, slots := 0, locals := 0 } : Room)
def F_X12_day_2 (k2 : Int32 × St → Option (St)) (x1 : Int32) (S0 : St) : Option (St) := if oob (0 : Int32) 258 then none else if (S0.2.2.1 6 (0 : Int32).toNatClampNeg) ≤ x1 then (if oob (42 : Int32) 258 then none else if oob (42 : Int32) 258 then none else nw (sA S0 6 (42 : Int32) ((S0.2.2.1 6 (42 : Int32).toNatClampNeg) + (1 : Int32))) fun U5 => some (U5)) else (if oob ((45 : Int32) + x1) 258 then none else if oob (23 : Int32) 258 then none else if oob ((45 : Int32) + x1) 258 then none else nw (sA S0 6 ((45 : Int32) + x1) (((S0.2.2.1 6 ((45 : Int32) + x1).toNatClampNeg) + (((S0.2.2.1 6 (23 : Int32).toNatClampNeg) >>> (x1 &&& 31)) &&& (1 : Int32))) &&& (7 : Int32))) fun U10 => k2 ((x1 + 1), U10))
def L_X12_day_2 (x1 : Int32) (S0 : St) : Option (St) := lp (fun kz z => F_X12_day_2 kz z.1 z.2) FU (x1, S0)
def F_X12_day (S0 : St) : Option (St) := L_X12_day_2 (0 : Int32) S0
set_option maxRecDepth 100000 in
set_option maxHeartbeats 4000000 in
theorem b_X12_day_2 {p : Program} {l : Launch} {e : Env} {s : State} {m : MethodId} {args : Array Value} {below : List Frame} {meth : Method} {c : Code} {D : va_G} {q : Nat → ClassId} {A : Nat → Prop} {o0 : Nat} {a0 : Nat → Nat} {T0 : St} (C : cx p s m args meth c cX12_day 2 none RX12 D q A) {k2 : Int32 × St → Option (St)} (hk2 : ∀ (x1 : Int32) (S0 : St), k2 (x1, S0) = some (T0) → ∀ (H : Heap) (locs : List Loc) (ls : Array Slot), va_P D vwCl (fl [g12 q o0 a0 S0]) H → va_D A (fl [g12 q o0 a0 S0]) → va_S A s.heap H locs → lv_has ls 2 [(0, .ref o0), (1, .int x1)] → W p l e rm_X12_day s m args below meth c H locs 0 0 (MQ below (QV D A (fl [g12 q o0 a0 T0])) args s 0 0 A) (F0 m 2 ls [])) {x1 : Int32} {S0 : St} (hF : F_X12_day_2 k2 x1 S0 = some (T0)) {H : Heap} {locs : List Loc} (hP : va_P D vwCl (fl [g12 q o0 a0 S0]) H) (hD : va_D A (fl [g12 q o0 a0 S0])) (hS : va_S A s.heap H locs) {ls : Array Slot} (hl : lv_has ls 2 [(0, .ref o0), (1, .int x1)]) : W p l e rm_X12_day s m args below meth c H locs 0 0 (MQ below (QV D A (fl [g12 q o0 a0 T0])) args s 0 0 A) (F0 m 2 ls []) := by
  unfold F_X12_day_2 at hF
  obtain ⟨hx, hb, hr, hml, hown, hts, hlk, hA, hK, hN, hV⟩ := id C
  refine lv_iload_n hx hb dX12_day_2 rfl (lv_at hl 1 rfl) ?_
  refine lv_aload_n hx hb dX12_day_3 rfl (lv_at hl 0 rfl) ?_
  refine k_get (v := .ref (a0 7)) C fg_X12_33 hP 0 rfl rfl dX12_day_4 ?_
  refine lv_iconst (v := (0 : Int32)) hx hb dX12_day_7 (by decide) ?_
  obtain ⟨h1, hF⟩ := op_ck hF
  refine k_ild (f := S0.2.2.1 6) C hP 2 rfl h1 dX12_day_8 ?_
  refine lv_icmp_ge (tgt := 51) hx hb dX12_day_9 (by decide) (fun c2 => ?_) (fun c2 => ?_)
  · have hF := op_t hF c2
    refine lv_aload_n hx hb dX12_day_51 rfl (lv_at hl 0 rfl) ?_
    refine k_get (v := .ref (a0 7)) C fg_X12_33 hP 0 rfl rfl dX12_day_52 ?_
    refine lv_bipush (v := (42 : Int32)) hx hb dX12_day_55 (by decide) ?_
    refine lv_dup2_11 hx hb dX12_day_57 rfl rfl ?_
    obtain ⟨h3, hF⟩ := op_ck hF
    refine k_ild (f := S0.2.2.1 6) C hP 2 rfl h3 dX12_day_58 ?_
    refine lv_iconst (v := (1 : Int32)) hx hb dX12_day_59 (by decide) ?_
    refine lv_iadd hx hb dX12_day_60 ?_
    obtain ⟨h4, hF⟩ := op_ck hF
    obtain ⟨U5, e6, hF⟩ := nw_s hF
    refine k_ist (f := S0.2.2.1 6) (W8 := fl [g12 q o0 a0 U5]) C hP hD hS 2 rfl h4 dX12_day_61 (by rw [e6]; rfl) (fun H locs hP hD hS => ?_)
    cases hF
    exact k_vret C hP hS dX12_day_62
  · have hF := op_f hF c2
    refine lv_aload_n hx hb dX12_day_12 rfl (lv_at hl 0 rfl) ?_
    refine k_get (v := .ref (a0 7)) C fg_X12_33 hP 0 rfl rfl dX12_day_13 ?_
    refine lv_bipush (v := (45 : Int32)) hx hb dX12_day_16 (by decide) ?_
    refine lv_iload_n hx hb dX12_day_18 rfl (lv_at hl 1 rfl) ?_
    refine lv_iadd hx hb dX12_day_19 ?_
    refine lv_aload_n hx hb dX12_day_20 rfl (lv_at hl 0 rfl) ?_
    refine k_get (v := .ref (a0 7)) C fg_X12_33 hP 0 rfl rfl dX12_day_21 ?_
    refine lv_bipush (v := (45 : Int32)) hx hb dX12_day_24 (by decide) ?_
    refine lv_iload_n hx hb dX12_day_26 rfl (lv_at hl 1 rfl) ?_
    refine lv_iadd hx hb dX12_day_27 ?_
    obtain ⟨h7, hF⟩ := op_ck hF
    refine k_ild (f := S0.2.2.1 6) C hP 2 rfl h7 dX12_day_28 ?_
    refine lv_aload_n hx hb dX12_day_29 rfl (lv_at hl 0 rfl) ?_
    refine k_get (v := .ref (a0 7)) C fg_X12_33 hP 0 rfl rfl dX12_day_30 ?_
    refine lv_bipush (v := (23 : Int32)) hx hb dX12_day_33 (by decide) ?_
    obtain ⟨h8, hF⟩ := op_ck hF
    refine k_ild (f := S0.2.2.1 6) C hP 2 rfl h8 dX12_day_35 ?_
    refine lv_iload_n hx hb dX12_day_36 rfl (lv_at hl 1 rfl) ?_
    refine lv_ishr hx hb dX12_day_37 ?_
    refine lv_iconst (v := (1 : Int32)) hx hb dX12_day_38 (by decide) ?_
    refine lv_iand hx hb dX12_day_39 ?_
    refine lv_iadd hx hb dX12_day_40 ?_
    refine lv_bipush (v := (7 : Int32)) hx hb dX12_day_41 (by decide) ?_
    refine lv_iand hx hb dX12_day_43 ?_
    obtain ⟨h9, hF⟩ := op_ck hF
    obtain ⟨U10, e11, hF⟩ := nw_s hF
    refine k_ist (f := S0.2.2.1 6) (W8 := fl [g12 q o0 a0 U10]) C hP hD hS 2 rfl h9 dX12_day_44 (by rw [e11]; rfl) (fun H locs hP hD hS => ?_)
    refine lv_iinc (v := (x1 + 1)) (lv' := [(1, .int (x1 + 1)), (0, .ref o0)]) hx hb dX12_day_45 hl (k := 1) rfl rfl (by decide) rfl (fun ls hl => ?_)
    refine lv_goto (tgt := 2) hx hb dX12_day_48 (by decide) ?_
    exact hk2 (x1 + 1) U10 hF _ _ _ hP hD hS (lv_sub hl [1, 0] rfl)
set_option maxRecDepth 100000 in
set_option maxHeartbeats 4000000 in
theorem l_X12_day_2 {p : Program} {l : Launch} {e : Env} {s : State} {m : MethodId} {args : Array Value} {below : List Frame} {meth : Method} {c : Code} {D : va_G} {q : Nat → ClassId} {A : Nat → Prop} {o0 : Nat} {a0 : Nat → Nat} {T0 : St} (C : cx p s m args meth c cX12_day 2 none RX12 D q A) {x1 : Int32} {S0 : St} (hF : L_X12_day_2 x1 S0 = some (T0)) : ∀ (H : Heap) (locs : List Loc) (ls : Array Slot), va_P D vwCl (fl [g12 q o0 a0 S0]) H → va_D A (fl [g12 q o0 a0 S0]) → va_S A s.heap H locs → lv_has ls 2 [(0, .ref o0), (1, .int x1)] → W p l e rm_X12_day s m args below meth c H locs 0 0 (MQ below (QV D A (fl [g12 q o0 a0 T0])) args s 0 0 A) (F0 m 2 ls []) :=
  lp_G _ _ (fun z => ∀ (H : Heap) (locs : List Loc) (ls : Array Slot), va_P D vwCl (fl [g12 q o0 a0 z.2]) H → va_D A (fl [g12 q o0 a0 z.2]) → va_S A s.heap H locs → lv_has ls 2 [(0, .ref o0), (1, .int z.1)] → W p l e rm_X12_day s m args below meth c H locs 0 0 (MQ below (QV D A (fl [g12 q o0 a0 T0])) args s 0 0 A) (F0 m 2 ls [])) (fun kz hkz z hz H locs ls hP hD hS hl => b_X12_day_2 C (fun x1 S0 hz => hkz (x1, S0) hz) hz hP hD hS hl) FU (x1, S0) hF
set_option maxRecDepth 100000 in
set_option maxHeartbeats 4000000 in
theorem c_X12_day (l : Launch) (D : va_G) (q : Nat → ClassId) (o0 : Nat) (a0 : Nat → Nat) (S0 : St) (sz : Nat) {T0 : St} (hF : F_X12_day S0 = some (T0)) : Met l yX12_day (Cond.code yX12_day cX12_day 2 none :: TB) rm_X12_day (PC D q [.ref o0] (fl [g12 q o0 a0 S0]) sz) ((fun A => QV D A (fl [g12 q o0 a0 T0])) (va_A (fl [g12 q o0 a0 S0]) sz)) 0 0 (va_A (fl [g12 q o0 a0 S0]) sz) := by
  refine k_met (w0 := fl [g12 q o0 a0 S0]) (Q := fun A => QV D A (fl [g12 q o0 a0 T0])) (by decide +kernel) (Nat.le_of_ble_eq_true rfl) ?_
  intro p e s m args below meth c A ls C hP hD hS hl
  have hl : lv_has ls 2 [(0, .ref o0)] := hl
  unfold F_X12_day at hF
  have C : cx p s m args meth c cX12_day 2 none RX12 D q A := C
  obtain ⟨hx, hb, hr, hml, hown, hts, hlk, hA, hK, hN, hV⟩ := id C
  refine lv_iconst (v := (0 : Int32)) hx hb dX12_day_0 (by decide) ?_
  refine lv_istore_n (lv' := [(1, .int (0 : Int32)), (0, .ref o0)]) hx hb dX12_day_1 rfl hl (by decide) rfl (fun ls hl => ?_)
  exact l_X12_day_2 C hF _ _ _ hP hD hS (lv_sub hl [1, 0] rfl)

abbrev rm_X12_goesOn : Room := ({ frames := 1, cells := 0, slots := 0, locals := 21 } : Room)
def F_X12_goesOn_2 (k2 : Int32 × Int32 × St → Option (Int32 × St)) (x1 : Int32) (x2 : Int32) (S0 : St) : Option (Int32 × St) := if x1 ≤ x2 then (some (x2, S0)) else (if oob (42 : Int32) 258 then none else if (400 : Int32) ≤ (S0.2.2.1 6 (42 : Int32).toNatClampNeg) then (some (x2, S0)) else (ob1 (F_X12_day S0) fun U5 => k2 (x1, (x2 + 1), U5)))
def L_X12_goesOn_2 (x1 : Int32) (x2 : Int32) (S0 : St) : Option (Int32 × St) := lp (fun kz z => F_X12_goesOn_2 kz z.1 z.2.1 z.2.2) FU (x1, x2, S0)
def F_X12_goesOn (S0 : St) (x1 : Int32) : Option (Int32 × St) := L_X12_goesOn_2 x1 (0 : Int32) S0
set_option maxRecDepth 100000 in
set_option maxHeartbeats 4000000 in
theorem b_X12_goesOn_2 {p : Program} {l : Launch} {e : Env} {s : State} {m : MethodId} {args : Array Value} {below : List Frame} {meth : Method} {c : Code} {D : va_G} {q : Nat → ClassId} {A : Nat → Prop} {o0 : Nat} {a0 : Nat → Nat} {r : Int32} {T0 : St} (C : cx p s m args meth c cX12_goesOn 3 (some .int) RX12 D q A) {k2 : Int32 × Int32 × St → Option (Int32 × St)} (hk2 : ∀ (x1 : Int32) (x2 : Int32) (S0 : St), k2 (x1, x2, S0) = some (r, T0) → ∀ (H : Heap) (locs : List Loc) (ls : Array Slot), va_P D vwCl (fl [g12 q o0 a0 S0]) H → va_D A (fl [g12 q o0 a0 S0]) → va_S A s.heap H locs → lv_has ls 3 [(0, .ref o0), (1, .int x1), (2, .int x2)] → W p l e rm_X12_goesOn s m args below meth c H locs 0 0 (MQ below (QI D A r (fl [g12 q o0 a0 T0])) args s 0 0 A) (F0 m 2 ls [])) {x1 : Int32} {x2 : Int32} {S0 : St} (hF : F_X12_goesOn_2 k2 x1 x2 S0 = some (r, T0)) {H : Heap} {locs : List Loc} (hP : va_P D vwCl (fl [g12 q o0 a0 S0]) H) (hD : va_D A (fl [g12 q o0 a0 S0])) (hS : va_S A s.heap H locs) {ls : Array Slot} (hl : lv_has ls 3 [(0, .ref o0), (1, .int x1), (2, .int x2)]) : W p l e rm_X12_goesOn s m args below meth c H locs 0 0 (MQ below (QI D A r (fl [g12 q o0 a0 T0])) args s 0 0 A) (F0 m 2 ls []) := by
  unfold F_X12_goesOn_2 at hF
  obtain ⟨hx, hb, hr, hml, hown, hts, hlk, hA, hK, hN, hV⟩ := id C
  refine lv_iload_n hx hb dX12_goesOn_2 rfl (lv_at hl 2 rfl) ?_
  refine lv_iload_n hx hb dX12_goesOn_3 rfl (lv_at hl 1 rfl) ?_
  refine lv_icmp_ge (tgt := 30) hx hb dX12_goesOn_4 (by decide) (fun c1 => ?_) (fun c1 => ?_)
  · have hF := op_t hF c1
    refine lv_iload_n hx hb dX12_goesOn_30 rfl (lv_at hl 2 rfl) ?_
    cases hF
    exact k_iret C hP hS dX12_goesOn_31
  · have hF := op_f hF c1
    refine lv_aload_n hx hb dX12_goesOn_7 rfl (lv_at hl 0 rfl) ?_
    refine k_get (v := .ref (a0 7)) C fg_X12_33 hP 0 rfl rfl dX12_goesOn_8 ?_
    refine lv_bipush (v := (42 : Int32)) hx hb dX12_goesOn_11 (by decide) ?_
    obtain ⟨h2, hF⟩ := op_ck hF
    refine k_ild (f := S0.2.2.1 6) C hP 2 rfl h2 dX12_goesOn_13 ?_
    refine lv_sipush (v := (400 : Int32)) hx hb dX12_goesOn_14 (by decide) ?_
    refine lv_icmp_ge (tgt := 30) hx hb dX12_goesOn_17 (by decide) (fun c3 => ?_) (fun c3 => ?_)
    · have hF := op_t hF c3
      refine lv_iload_n hx hb dX12_goesOn_30 rfl (lv_at hl 2 rfl) ?_
      cases hF
      exact k_iret C hP hS dX12_goesOn_31
    · have hF := op_f hF c3
      refine lv_aload_n hx hb dX12_goesOn_20 rfl (lv_at hl 0 rfl) ?_
      obtain ⟨U5, hc4, hF⟩ := ob1_s hF
      refine k_vall C (k_rV (As := []) (rest := []) C (c_X12_day l D q o0 a0 S0 _ hc4) kc_X12_day ml_X12_349 rfl rfl (by decide) hP hD hS (va_recv hK hP (ci := 12) (q0 := 0) rfl rfl) rfl hl.1 rfl (Nat.le_of_ble_eq_true rfl) dX12_goesOn_21 (by decide)) hP hD hS (by simp only [List.map_cons, List.map_nil, gad12]) (fun H locs hP hD hS => ?_)
      refine lv_iinc (v := (x2 + 1)) (lv' := [(2, .int (x2 + 1)), (0, .ref o0), (1, .int x1)]) hx hb dX12_goesOn_24 hl (k := 2) rfl rfl (by decide) rfl (fun ls hl => ?_)
      refine lv_goto (tgt := 2) hx hb dX12_goesOn_27 (by decide) ?_
      exact hk2 x1 (x2 + 1) U5 hF _ _ _ hP hD hS (lv_sub hl [1, 2, 0] rfl)
set_option maxRecDepth 100000 in
set_option maxHeartbeats 4000000 in
theorem l_X12_goesOn_2 {p : Program} {l : Launch} {e : Env} {s : State} {m : MethodId} {args : Array Value} {below : List Frame} {meth : Method} {c : Code} {D : va_G} {q : Nat → ClassId} {A : Nat → Prop} {o0 : Nat} {a0 : Nat → Nat} {r : Int32} {T0 : St} (C : cx p s m args meth c cX12_goesOn 3 (some .int) RX12 D q A) {x1 : Int32} {x2 : Int32} {S0 : St} (hF : L_X12_goesOn_2 x1 x2 S0 = some (r, T0)) : ∀ (H : Heap) (locs : List Loc) (ls : Array Slot), va_P D vwCl (fl [g12 q o0 a0 S0]) H → va_D A (fl [g12 q o0 a0 S0]) → va_S A s.heap H locs → lv_has ls 3 [(0, .ref o0), (1, .int x1), (2, .int x2)] → W p l e rm_X12_goesOn s m args below meth c H locs 0 0 (MQ below (QI D A r (fl [g12 q o0 a0 T0])) args s 0 0 A) (F0 m 2 ls []) :=
  lp_G _ _ (fun z => ∀ (H : Heap) (locs : List Loc) (ls : Array Slot), va_P D vwCl (fl [g12 q o0 a0 z.2.2]) H → va_D A (fl [g12 q o0 a0 z.2.2]) → va_S A s.heap H locs → lv_has ls 3 [(0, .ref o0), (1, .int z.1), (2, .int z.2.1)] → W p l e rm_X12_goesOn s m args below meth c H locs 0 0 (MQ below (QI D A r (fl [g12 q o0 a0 T0])) args s 0 0 A) (F0 m 2 ls [])) (fun kz hkz z hz H locs ls hP hD hS hl => b_X12_goesOn_2 C (fun x1 x2 S0 hz => hkz (x1, x2, S0) hz) hz hP hD hS hl) FU (x1, x2, S0) hF
set_option maxRecDepth 100000 in
set_option maxHeartbeats 4000000 in
theorem c_X12_goesOn (l : Launch) (D : va_G) (q : Nat → ClassId) (o0 : Nat) (a0 : Nat → Nat) (S0 : St) (sz : Nat) (x1 : Int32) {r : Int32} {T0 : St} (hF : F_X12_goesOn S0 x1 = some (r, T0)) : Met l yX12_goesOn (Cond.code yX12_goesOn cX12_goesOn 3 (some .int) :: TB) rm_X12_goesOn (PC D q [.ref o0, .int x1] (fl [g12 q o0 a0 S0]) sz) ((fun A => QI D A r (fl [g12 q o0 a0 T0])) (va_A (fl [g12 q o0 a0 S0]) sz)) 0 0 (va_A (fl [g12 q o0 a0 S0]) sz) := by
  refine k_met (w0 := fl [g12 q o0 a0 S0]) (Q := fun A => QI D A r (fl [g12 q o0 a0 T0])) (by decide +kernel) (Nat.le_of_ble_eq_true rfl) ?_
  intro p e s m args below meth c A ls C hP hD hS hl
  have hl : lv_has ls 3 [(0, .ref o0), (1, .int x1)] := hl
  unfold F_X12_goesOn at hF
  have C : cx p s m args meth c cX12_goesOn 3 (some .int) RX12 D q A := C
  obtain ⟨hx, hb, hr, hml, hown, hts, hlk, hA, hK, hN, hV⟩ := id C
  refine lv_iconst (v := (0 : Int32)) hx hb dX12_goesOn_0 (by decide) ?_
  refine lv_istore_n (lv' := [(2, .int (0 : Int32)), (0, .ref o0), (1, .int x1)]) hx hb dX12_goesOn_1 rfl hl (by decide) rfl (fun ls hl => ?_)
  exact l_X12_goesOn_2 C hF _ _ _ hP hD hS (lv_sub hl [1, 2, 0] rfl)

abbrev rm_X12_keep : Room := ({ frames := 0, cells := 0, slots := 0, locals := 0 } : Room)
def F_X12_keep_47 (k47 : Int32 × St → Option (St)) (x1 : Int32) (S0 : St) : Option (St) := if (35 : Int32) ≤ x1 then (nw (sI S0 22 ((S0.1 22) + (1 : Int32))) fun U2 => some (U2)) else (if oob ((42 : Int32) + x1) 258 then none else if oob (((35 : Int32) * (S0.1 22)) + x1) 280 then none else nw (sA S0 20 (((35 : Int32) * (S0.1 22)) + x1) (S0.2.2.1 6 ((42 : Int32) + x1).toNatClampNeg)) fun U6 => k47 ((x1 + 1), U6))
def L_X12_keep_47 (x1 : Int32) (S0 : St) : Option (St) := lp (fun kz z => F_X12_keep_47 kz z.1 z.2) FU (x1, S0)
def F_X12_keep_45 (S0 : St) : Option (St) := L_X12_keep_47 (0 : Int32) S0
def F_X12_keep_11 (k11 : Int32 × St → Option (St)) (x1 : Int32) (S0 : St) : Option (St) := if (245 : Int32) ≤ x1 then (nw (sI S0 22 (7 : Int32)) fun U2 => F_X12_keep_45 U2) else (if oob (x1 + (35 : Int32)) 280 then none else if oob x1 280 then none else nw (sA S0 20 x1 (S0.2.2.1 20 (x1 + (35 : Int32)).toNatClampNeg)) fun U6 => k11 ((x1 + 1), U6))
def L_X12_keep_11 (x1 : Int32) (S0 : St) : Option (St) := lp (fun kz z => F_X12_keep_11 kz z.1 z.2) FU (x1, S0)
def F_X12_keep (S0 : St) : Option (St) := if (S0.1 22) = (8 : Int32) then (L_X12_keep_11 (0 : Int32) S0) else (F_X12_keep_45 S0)
set_option maxRecDepth 100000 in
set_option maxHeartbeats 4000000 in
theorem b_X12_keep_47 {p : Program} {l : Launch} {e : Env} {s : State} {m : MethodId} {args : Array Value} {below : List Frame} {meth : Method} {c : Code} {D : va_G} {q : Nat → ClassId} {A : Nat → Prop} {o0 : Nat} {a0 : Nat → Nat} {T0 : St} (C : cx p s m args meth c cX12_keep 2 none RX12 D q A) {k47 : Int32 × St → Option (St)} (hk47 : ∀ (x1 : Int32) (S0 : St), k47 (x1, S0) = some (T0) → ∀ (H : Heap) (locs : List Loc) (ls : Array Slot), va_P D vwCl (fl [g12 q o0 a0 S0]) H → va_D A (fl [g12 q o0 a0 S0]) → va_S A s.heap H locs → lv_has ls 2 [(0, .ref o0), (1, .int x1)] → W p l e rm_X12_keep s m args below meth c H locs 0 0 (MQ below (QV D A (fl [g12 q o0 a0 T0])) args s 0 0 A) (F0 m 47 ls [])) {x1 : Int32} {S0 : St} (hF : F_X12_keep_47 k47 x1 S0 = some (T0)) {H : Heap} {locs : List Loc} (hP : va_P D vwCl (fl [g12 q o0 a0 S0]) H) (hD : va_D A (fl [g12 q o0 a0 S0])) (hS : va_S A s.heap H locs) {ls : Array Slot} (hl : lv_has ls 2 [(0, .ref o0), (1, .int x1)]) : W p l e rm_X12_keep s m args below meth c H locs 0 0 (MQ below (QV D A (fl [g12 q o0 a0 T0])) args s 0 0 A) (F0 m 47 ls []) := by
  unfold F_X12_keep_47 at hF
  obtain ⟨hx, hb, hr, hml, hown, hts, hlk, hA, hK, hN, hV⟩ := id C
  refine lv_iload_n hx hb dX12_keep_47 rfl (lv_at hl 1 rfl) ?_
  refine lv_bipush (v := (35 : Int32)) hx hb dX12_keep_48 (by decide) ?_
  refine lv_icmp_ge (tgt := 82) hx hb dX12_keep_50 (by decide) (fun c1 => ?_) (fun c1 => ?_)
  · have hF := op_t hF c1
    refine lv_aload_n hx hb dX12_keep_82 rfl (lv_at hl 0 rfl) ?_
    refine lv_dup hx hb dX12_keep_83 rfl ?_
    refine k_get (v := .int (S0.1 22)) C fg_X12_290 hP 0 rfl rfl dX12_keep_84 ?_
    refine lv_iconst (v := (1 : Int32)) hx hb dX12_keep_87 (by decide) ?_
    refine lv_iadd hx hb dX12_keep_88 ?_
    obtain ⟨U2, e3, hF⟩ := nw_s hF
    refine k_put (W8 := fl [g12 q o0 a0 U2]) C fp_X12_290 hP hD hS 0 rfl rfl rfl (Nat.le_of_ble_eq_true rfl) dX12_keep_89 (by rw [e3]; rfl) (fun H locs hP hD hS => ?_)
    cases hF
    exact k_vret C hP hS dX12_keep_92
  · have hF := op_f hF c1
    refine lv_aload_n hx hb dX12_keep_53 rfl (lv_at hl 0 rfl) ?_
    refine k_get (v := .ref (a0 21)) C fg_X12_50 hP 0 rfl rfl dX12_keep_54 ?_
    refine lv_bipush (v := (35 : Int32)) hx hb dX12_keep_57 (by decide) ?_
    refine lv_aload_n hx hb dX12_keep_59 rfl (lv_at hl 0 rfl) ?_
    refine k_get (v := .int (S0.1 22)) C fg_X12_290 hP 0 rfl rfl dX12_keep_60 ?_
    refine lv_imul hx hb dX12_keep_63 ?_
    refine lv_iload_n hx hb dX12_keep_64 rfl (lv_at hl 1 rfl) ?_
    refine lv_iadd hx hb dX12_keep_65 ?_
    refine lv_aload_n hx hb dX12_keep_66 rfl (lv_at hl 0 rfl) ?_
    refine k_get (v := .ref (a0 7)) C fg_X12_33 hP 0 rfl rfl dX12_keep_67 ?_
    refine lv_bipush (v := (42 : Int32)) hx hb dX12_keep_70 (by decide) ?_
    refine lv_iload_n hx hb dX12_keep_72 rfl (lv_at hl 1 rfl) ?_
    refine lv_iadd hx hb dX12_keep_73 ?_
    obtain ⟨h4, hF⟩ := op_ck hF
    refine k_ild (f := S0.2.2.1 6) C hP 2 rfl h4 dX12_keep_74 ?_
    obtain ⟨h5, hF⟩ := op_ck hF
    obtain ⟨U6, e7, hF⟩ := nw_s hF
    refine k_ist (f := S0.2.2.1 20) (W8 := fl [g12 q o0 a0 U6]) C hP hD hS 7 rfl h5 dX12_keep_75 (by rw [e7]; rfl) (fun H locs hP hD hS => ?_)
    refine lv_iinc (v := (x1 + 1)) (lv' := [(1, .int (x1 + 1)), (0, .ref o0)]) hx hb dX12_keep_76 hl (k := 1) rfl rfl (by decide) rfl (fun ls hl => ?_)
    refine lv_goto (tgt := 47) hx hb dX12_keep_79 (by decide) ?_
    exact hk47 (x1 + 1) U6 hF _ _ _ hP hD hS (lv_sub hl [1, 0] rfl)
set_option maxRecDepth 100000 in
set_option maxHeartbeats 4000000 in
theorem l_X12_keep_47 {p : Program} {l : Launch} {e : Env} {s : State} {m : MethodId} {args : Array Value} {below : List Frame} {meth : Method} {c : Code} {D : va_G} {q : Nat → ClassId} {A : Nat → Prop} {o0 : Nat} {a0 : Nat → Nat} {T0 : St} (C : cx p s m args meth c cX12_keep 2 none RX12 D q A) {x1 : Int32} {S0 : St} (hF : L_X12_keep_47 x1 S0 = some (T0)) : ∀ (H : Heap) (locs : List Loc) (ls : Array Slot), va_P D vwCl (fl [g12 q o0 a0 S0]) H → va_D A (fl [g12 q o0 a0 S0]) → va_S A s.heap H locs → lv_has ls 2 [(0, .ref o0), (1, .int x1)] → W p l e rm_X12_keep s m args below meth c H locs 0 0 (MQ below (QV D A (fl [g12 q o0 a0 T0])) args s 0 0 A) (F0 m 47 ls []) :=
  lp_G _ _ (fun z => ∀ (H : Heap) (locs : List Loc) (ls : Array Slot), va_P D vwCl (fl [g12 q o0 a0 z.2]) H → va_D A (fl [g12 q o0 a0 z.2]) → va_S A s.heap H locs → lv_has ls 2 [(0, .ref o0), (1, .int z.1)] → W p l e rm_X12_keep s m args below meth c H locs 0 0 (MQ below (QV D A (fl [g12 q o0 a0 T0])) args s 0 0 A) (F0 m 47 ls [])) (fun kz hkz z hz H locs ls hP hD hS hl => b_X12_keep_47 C (fun x1 S0 hz => hkz (x1, S0) hz) hz hP hD hS hl) FU (x1, S0) hF
set_option maxRecDepth 100000 in
set_option maxHeartbeats 4000000 in
theorem b_X12_keep_45 {p : Program} {l : Launch} {e : Env} {s : State} {m : MethodId} {args : Array Value} {below : List Frame} {meth : Method} {c : Code} {D : va_G} {q : Nat → ClassId} {A : Nat → Prop} {o0 : Nat} {a0 : Nat → Nat} {T0 : St} (C : cx p s m args meth c cX12_keep 2 none RX12 D q A) {S0 : St} (hF : F_X12_keep_45 S0 = some (T0)) {H : Heap} {locs : List Loc} (hP : va_P D vwCl (fl [g12 q o0 a0 S0]) H) (hD : va_D A (fl [g12 q o0 a0 S0])) (hS : va_S A s.heap H locs) {ls : Array Slot} (hl : lv_has ls 2 [(0, .ref o0)]) : W p l e rm_X12_keep s m args below meth c H locs 0 0 (MQ below (QV D A (fl [g12 q o0 a0 T0])) args s 0 0 A) (F0 m 45 ls []) := by
  unfold F_X12_keep_45 at hF
  obtain ⟨hx, hb, hr, hml, hown, hts, hlk, hA, hK, hN, hV⟩ := id C
  refine lv_iconst (v := (0 : Int32)) hx hb dX12_keep_45 (by decide) ?_
  refine lv_istore_n (lv' := [(1, .int (0 : Int32)), (0, .ref o0)]) hx hb dX12_keep_46 rfl hl (by decide) rfl (fun ls hl => ?_)
  exact l_X12_keep_47 C hF _ _ _ hP hD hS (lv_sub hl [1, 0] rfl)
set_option maxRecDepth 100000 in
set_option maxHeartbeats 4000000 in
theorem b_X12_keep_11 {p : Program} {l : Launch} {e : Env} {s : State} {m : MethodId} {args : Array Value} {below : List Frame} {meth : Method} {c : Code} {D : va_G} {q : Nat → ClassId} {A : Nat → Prop} {o0 : Nat} {a0 : Nat → Nat} {T0 : St} (C : cx p s m args meth c cX12_keep 2 none RX12 D q A) {k11 : Int32 × St → Option (St)} (hk11 : ∀ (x1 : Int32) (S0 : St), k11 (x1, S0) = some (T0) → ∀ (H : Heap) (locs : List Loc) (ls : Array Slot), va_P D vwCl (fl [g12 q o0 a0 S0]) H → va_D A (fl [g12 q o0 a0 S0]) → va_S A s.heap H locs → lv_has ls 2 [(0, .ref o0), (1, .int x1)] → W p l e rm_X12_keep s m args below meth c H locs 0 0 (MQ below (QV D A (fl [g12 q o0 a0 T0])) args s 0 0 A) (F0 m 11 ls [])) {x1 : Int32} {S0 : St} (hF : F_X12_keep_11 k11 x1 S0 = some (T0)) {H : Heap} {locs : List Loc} (hP : va_P D vwCl (fl [g12 q o0 a0 S0]) H) (hD : va_D A (fl [g12 q o0 a0 S0])) (hS : va_S A s.heap H locs) {ls : Array Slot} (hl : lv_has ls 2 [(0, .ref o0), (1, .int x1)]) : W p l e rm_X12_keep s m args below meth c H locs 0 0 (MQ below (QV D A (fl [g12 q o0 a0 T0])) args s 0 0 A) (F0 m 11 ls []) := by
  unfold F_X12_keep_11 at hF
  obtain ⟨hx, hb, hr, hml, hown, hts, hlk, hA, hK, hN, hV⟩ := id C
  refine lv_iload_n hx hb dX12_keep_11 rfl (lv_at hl 1 rfl) ?_
  refine lv_sipush (v := (245 : Int32)) hx hb dX12_keep_12 (by decide) ?_
  refine lv_icmp_ge (tgt := 39) hx hb dX12_keep_15 (by decide) (fun c1 => ?_) (fun c1 => ?_)
  · have hF := op_t hF c1
    refine lv_aload_n hx hb dX12_keep_39 rfl (lv_at hl 0 rfl) ?_
    refine lv_bipush (v := (7 : Int32)) hx hb dX12_keep_40 (by decide) ?_
    obtain ⟨U2, e3, hF⟩ := nw_s hF
    refine k_put (W8 := fl [g12 q o0 a0 U2]) C fp_X12_290 hP hD hS 0 rfl rfl rfl (Nat.le_of_ble_eq_true rfl) dX12_keep_42 (by rw [e3]; rfl) (fun H locs hP hD hS => ?_)
    exact b_X12_keep_45 C hF hP hD hS (lv_sub hl [0] rfl)
  · have hF := op_f hF c1
    refine lv_aload_n hx hb dX12_keep_18 rfl (lv_at hl 0 rfl) ?_
    refine k_get (v := .ref (a0 21)) C fg_X12_50 hP 0 rfl rfl dX12_keep_19 ?_
    refine lv_iload_n hx hb dX12_keep_22 rfl (lv_at hl 1 rfl) ?_
    refine lv_aload_n hx hb dX12_keep_23 rfl (lv_at hl 0 rfl) ?_
    refine k_get (v := .ref (a0 21)) C fg_X12_50 hP 0 rfl rfl dX12_keep_24 ?_
    refine lv_iload_n hx hb dX12_keep_27 rfl (lv_at hl 1 rfl) ?_
    refine lv_bipush (v := (35 : Int32)) hx hb dX12_keep_28 (by decide) ?_
    refine lv_iadd hx hb dX12_keep_30 ?_
    obtain ⟨h4, hF⟩ := op_ck hF
    refine k_ild (f := S0.2.2.1 20) C hP 7 rfl h4 dX12_keep_31 ?_
    obtain ⟨h5, hF⟩ := op_ck hF
    obtain ⟨U6, e7, hF⟩ := nw_s hF
    refine k_ist (f := S0.2.2.1 20) (W8 := fl [g12 q o0 a0 U6]) C hP hD hS 7 rfl h5 dX12_keep_32 (by rw [e7]; rfl) (fun H locs hP hD hS => ?_)
    refine lv_iinc (v := (x1 + 1)) (lv' := [(1, .int (x1 + 1)), (0, .ref o0)]) hx hb dX12_keep_33 hl (k := 1) rfl rfl (by decide) rfl (fun ls hl => ?_)
    refine lv_goto (tgt := 11) hx hb dX12_keep_36 (by decide) ?_
    exact hk11 (x1 + 1) U6 hF _ _ _ hP hD hS (lv_sub hl [1, 0] rfl)
set_option maxRecDepth 100000 in
set_option maxHeartbeats 4000000 in
theorem l_X12_keep_11 {p : Program} {l : Launch} {e : Env} {s : State} {m : MethodId} {args : Array Value} {below : List Frame} {meth : Method} {c : Code} {D : va_G} {q : Nat → ClassId} {A : Nat → Prop} {o0 : Nat} {a0 : Nat → Nat} {T0 : St} (C : cx p s m args meth c cX12_keep 2 none RX12 D q A) {x1 : Int32} {S0 : St} (hF : L_X12_keep_11 x1 S0 = some (T0)) : ∀ (H : Heap) (locs : List Loc) (ls : Array Slot), va_P D vwCl (fl [g12 q o0 a0 S0]) H → va_D A (fl [g12 q o0 a0 S0]) → va_S A s.heap H locs → lv_has ls 2 [(0, .ref o0), (1, .int x1)] → W p l e rm_X12_keep s m args below meth c H locs 0 0 (MQ below (QV D A (fl [g12 q o0 a0 T0])) args s 0 0 A) (F0 m 11 ls []) :=
  lp_G _ _ (fun z => ∀ (H : Heap) (locs : List Loc) (ls : Array Slot), va_P D vwCl (fl [g12 q o0 a0 z.2]) H → va_D A (fl [g12 q o0 a0 z.2]) → va_S A s.heap H locs → lv_has ls 2 [(0, .ref o0), (1, .int z.1)] → W p l e rm_X12_keep s m args below meth c H locs 0 0 (MQ below (QV D A (fl [g12 q o0 a0 T0])) args s 0 0 A) (F0 m 11 ls [])) (fun kz hkz z hz H locs ls hP hD hS hl => b_X12_keep_11 C (fun x1 S0 hz => hkz (x1, S0) hz) hz hP hD hS hl) FU (x1, S0) hF
set_option maxRecDepth 100000 in
set_option maxHeartbeats 4000000 in
theorem c_X12_keep (l : Launch) (D : va_G) (q : Nat → ClassId) (o0 : Nat) (a0 : Nat → Nat) (S0 : St) (sz : Nat) {T0 : St} (hF : F_X12_keep S0 = some (T0)) : Met l yX12_keep (Cond.code yX12_keep cX12_keep 2 none :: TB) rm_X12_keep (PC D q [.ref o0] (fl [g12 q o0 a0 S0]) sz) ((fun A => QV D A (fl [g12 q o0 a0 T0])) (va_A (fl [g12 q o0 a0 S0]) sz)) 0 0 (va_A (fl [g12 q o0 a0 S0]) sz) := by
  refine k_met (w0 := fl [g12 q o0 a0 S0]) (Q := fun A => QV D A (fl [g12 q o0 a0 T0])) (by decide +kernel) (Nat.le_of_ble_eq_true rfl) ?_
  intro p e s m args below meth c A ls C hP hD hS hl
  have hl : lv_has ls 2 [(0, .ref o0)] := hl
  unfold F_X12_keep at hF
  have C : cx p s m args meth c cX12_keep 2 none RX12 D q A := C
  obtain ⟨hx, hb, hr, hml, hown, hts, hlk, hA, hK, hN, hV⟩ := id C
  refine lv_aload_n hx hb dX12_keep_0 rfl (lv_at hl 0 rfl) ?_
  refine k_get (v := .int (S0.1 22)) C fg_X12_290 hP 0 rfl rfl dX12_keep_1 ?_
  refine lv_bipush (v := (8 : Int32)) hx hb dX12_keep_4 (by decide) ?_
  refine lv_icmp_ne (tgt := 45) hx hb dX12_keep_6 (by decide) (fun c1 => ?_) (fun c1 => ?_)
  · have hF := op_f hF c1
    exact b_X12_keep_45 C hF hP hD hS (lv_sub hl [0] rfl)
  · have hF := op_t hF c1
    refine lv_iconst (v := (0 : Int32)) hx hb dX12_keep_9 (by decide) ?_
    refine lv_istore_n (lv' := [(1, .int (0 : Int32)), (0, .ref o0)]) hx hb dX12_keep_10 rfl hl (by decide) rfl (fun ls hl => ?_)
    exact l_X12_keep_11 C hF _ _ _ hP hD hS (lv_sub hl [1, 0] rfl)

abbrev rm_X12_climb : Room := ({ frames := 3, cells := 0, slots := 0, locals := 69 } : Room)
def F_X12_climb (S0 : St) (x1 : Int32) (x2 : Int32) : Option (Int32 × St) := nw (sI S0 0 (0 : Int32)) fun U1 => ob1 (F_X12_isPerson U1 x1) fun r4 => if r4 = 0 then (some ((-1 : Int32), U1)) else (ob1 (F_X12_isTurret U1 x2) fun r7 => if r7 = 0 then (some ((-1 : Int32), U1)) else (ob1 (F_X12_whyClimb U1 x1 x2) fun r10 => if r10 ≤ 0 then (ob1 (F_X12_keep U1) fun U13 => ob1 (F_X12_climbs U13 x1 x2) fun U15 => some ((0 : Int32), U15)) else (some (r10, U1))))
set_option maxRecDepth 100000 in
set_option maxHeartbeats 4000000 in
theorem c_X12_climb (l : Launch) (D : va_G) (q : Nat → ClassId) (o0 : Nat) (a0 : Nat → Nat) (S0 : St) (sz : Nat) (x1 : Int32) (x2 : Int32) {r : Int32} {T0 : St} (hF : F_X12_climb S0 x1 x2 = some (r, T0)) : Met l yX12_climb (Cond.code yX12_climb cX12_climb 4 (some .int) :: TB) rm_X12_climb (PC D q [.ref o0, .int x1, .int x2] (fl [g12 q o0 a0 S0]) sz) ((fun A => QI D A r (fl [g12 q o0 a0 T0])) (va_A (fl [g12 q o0 a0 S0]) sz)) 0 0 (va_A (fl [g12 q o0 a0 S0]) sz) := by
  refine k_met (w0 := fl [g12 q o0 a0 S0]) (Q := fun A => QI D A r (fl [g12 q o0 a0 T0])) (by decide +kernel) (Nat.le_of_ble_eq_true rfl) ?_
  intro p e s m args below meth c A ls C hP hD hS hl
  have hl : lv_has ls 4 [(0, .ref o0), (1, .int x1), (2, .int x2)] := hl
  unfold F_X12_climb at hF
  have C : cx p s m args meth c cX12_climb 4 (some .int) RX12 D q A := C
  obtain ⟨hx, hb, hr, hml, hown, hts, hlk, hA, hK, hN, hV⟩ := id C
  refine lv_aload_n hx hb dX12_climb_0 rfl (lv_at hl 0 rfl) ?_
  refine lv_iconst (v := (0 : Int32)) hx hb dX12_climb_1 (by decide) ?_
  obtain ⟨U1, e2, hF⟩ := nw_s hF
  refine k_put (W8 := fl [g12 q o0 a0 U1]) C fp_X12_1 hP hD hS 0 rfl rfl rfl (Nat.le_of_ble_eq_true rfl) dX12_climb_2 (by rw [e2]; rfl) (fun H locs hP hD hS => ?_)
  refine lv_aload_n hx hb dX12_climb_5 rfl (lv_at hl 0 rfl) ?_
  refine lv_iload_n hx hb dX12_climb_6 rfl (lv_at hl 1 rfl) ?_
  obtain ⟨r4, hc3, hF⟩ := ob1_s hF
  refine k_isame C (k_rV (As := [.int x1]) (rest := []) C (c_X12_isPerson l D q o0 a0 U1 _ x1 hc3) kc_X12_isPerson ml_X12_318 rfl rfl (by decide) hP hD hS (va_recv hK hP (ci := 12) (q0 := 0) rfl rfl) rfl hl.1 rfl (Nat.le_of_ble_eq_true rfl) dX12_climb_7 (by decide)) hP hD hS (fun H locs hP hD hS => ?_)
  refine lv_if_eq (tgt := 21) hx hb dX12_climb_10 (by decide) (fun c5 => ?_) (fun c5 => ?_)
  · have hF := op_t hF c5
    refine lv_iconst (v := (-1 : Int32)) hx hb dX12_climb_21 (by decide) ?_
    cases hF
    exact k_iret C hP hS dX12_climb_22
  · have hF := op_f hF c5
    refine lv_aload_n hx hb dX12_climb_13 rfl (lv_at hl 0 rfl) ?_
    refine lv_iload_n hx hb dX12_climb_14 rfl (lv_at hl 2 rfl) ?_
    obtain ⟨r7, hc6, hF⟩ := ob1_s hF
    refine k_isame C (k_rV (As := [.int x2]) (rest := []) C (c_X12_isTurret l D q o0 a0 U1 _ x2 hc6) kc_X12_isTurret ml_X12_331 rfl rfl (by decide) hP hD hS (va_recv hK hP (ci := 12) (q0 := 0) rfl rfl) rfl hl.1 rfl (Nat.le_of_ble_eq_true rfl) dX12_climb_15 (by decide)) hP hD hS (fun H locs hP hD hS => ?_)
    refine lv_if_ne (tgt := 23) hx hb dX12_climb_18 (by decide) (fun c8 => ?_) (fun c8 => ?_)
    · have hF := op_f hF c8
      refine lv_aload_n hx hb dX12_climb_23 rfl (lv_at hl 0 rfl) ?_
      refine lv_iload_n hx hb dX12_climb_24 rfl (lv_at hl 1 rfl) ?_
      refine lv_iload_n hx hb dX12_climb_25 rfl (lv_at hl 2 rfl) ?_
      obtain ⟨r10, hc9, hF⟩ := ob1_s hF
      refine k_isame C (k_rV (As := [.int x1, .int x2]) (rest := []) C (c_X12_whyClimb l D q o0 a0 U1 _ x1 x2 hc9) kc_X12_whyClimb ml_X12_352 rfl rfl (by decide) hP hD hS (va_recv hK hP (ci := 12) (q0 := 0) rfl rfl) rfl hl.1 rfl (Nat.le_of_ble_eq_true rfl) dX12_climb_26 (by decide)) hP hD hS (fun H locs hP hD hS => ?_)
      refine lv_istore_n (lv' := [(3, .int r10), (0, .ref o0), (1, .int x1), (2, .int x2)]) hx hb dX12_climb_29 rfl hl (by decide) rfl (fun ls hl => ?_)
      refine lv_iload_n hx hb dX12_climb_30 rfl (lv_at hl 0 rfl) ?_
      refine lv_if_le (tgt := 36) hx hb dX12_climb_31 (by decide) (fun c11 => ?_) (fun c11 => ?_)
      · have hF := op_t hF c11
        refine lv_aload_n hx hb dX12_climb_36 rfl (lv_at hl 1 rfl) ?_
        obtain ⟨U13, hc12, hF⟩ := ob1_s hF
        refine k_vall C (k_rV (As := []) (rest := []) C (c_X12_keep l D q o0 a0 U1 _ hc12) kc_X12_keep ml_X12_355 rfl rfl (by decide) hP hD hS (va_recv hK hP (ci := 12) (q0 := 0) rfl rfl) rfl hl.1 rfl (Nat.le_of_ble_eq_true rfl) dX12_climb_37 (by decide)) hP hD hS (by simp only [List.map_cons, List.map_nil, gad12]) (fun H locs hP hD hS => ?_)
        refine lv_aload_n hx hb dX12_climb_40 rfl (lv_at hl 1 rfl) ?_
        refine lv_iload_n hx hb dX12_climb_41 rfl (lv_at hl 2 rfl) ?_
        refine lv_iload_n hx hb dX12_climb_42 rfl (lv_at hl 3 rfl) ?_
        obtain ⟨U15, hc14, hF⟩ := ob1_s hF
        refine k_vall C (k_rV (As := [.int x1, .int x2]) (rest := []) C (c_X12_climbs l D q o0 a0 U13 _ x1 x2 hc14) kc_X12_climbs ml_X12_358 rfl rfl (by decide) hP hD hS (va_recv hK hP (ci := 12) (q0 := 0) rfl rfl) rfl hl.1 rfl (Nat.le_of_ble_eq_true rfl) dX12_climb_43 (by decide)) hP hD hS (by simp only [List.map_cons, List.map_nil, gad12]) (fun H locs hP hD hS => ?_)
        refine lv_iconst (v := (0 : Int32)) hx hb dX12_climb_46 (by decide) ?_
        cases hF
        exact k_iret C hP hS dX12_climb_47
      · have hF := op_f hF c11
        refine lv_iload_n hx hb dX12_climb_34 rfl (lv_at hl 0 rfl) ?_
        cases hF
        exact k_iret C hP hS dX12_climb_35
    · have hF := op_t hF c8
      refine lv_iconst (v := (-1 : Int32)) hx hb dX12_climb_21 (by decide) ?_
      cases hF
      exact k_iret C hP hS dX12_climb_22

abbrev rm_X12_land : Room := ({ frames := 2, cells := 0, slots := 0, locals := 43 } : Room)
def F_X12_land (S0 : St) (x1 : Int32) : Option (Int32 × St) := nw (sI S0 0 (0 : Int32)) fun U1 => ob1 (F_X12_isPerson U1 x1) fun r4 => if r4 = 0 then (some ((-1 : Int32), U1)) else (ob1 (F_X12_isUp U1 x1) fun r7 => if r7 = 0 then (some ((1 : Int32), U1)) else (ob1 (F_X12_keep U1) fun U10 => if oob ((65 : Int32) + x1) 258 then none else nw (sA U10 6 ((65 : Int32) + x1) (0 : Int32)) fun U12 => some ((0 : Int32), U12)))
set_option maxRecDepth 100000 in
set_option maxHeartbeats 4000000 in
theorem c_X12_land (l : Launch) (D : va_G) (q : Nat → ClassId) (o0 : Nat) (a0 : Nat → Nat) (S0 : St) (sz : Nat) (x1 : Int32) {r : Int32} {T0 : St} (hF : F_X12_land S0 x1 = some (r, T0)) : Met l yX12_land (Cond.code yX12_land cX12_land 2 (some .int) :: TB) rm_X12_land (PC D q [.ref o0, .int x1] (fl [g12 q o0 a0 S0]) sz) ((fun A => QI D A r (fl [g12 q o0 a0 T0])) (va_A (fl [g12 q o0 a0 S0]) sz)) 0 0 (va_A (fl [g12 q o0 a0 S0]) sz) := by
  refine k_met (w0 := fl [g12 q o0 a0 S0]) (Q := fun A => QI D A r (fl [g12 q o0 a0 T0])) (by decide +kernel) (Nat.le_of_ble_eq_true rfl) ?_
  intro p e s m args below meth c A ls C hP hD hS hl
  have hl : lv_has ls 2 [(0, .ref o0), (1, .int x1)] := hl
  unfold F_X12_land at hF
  have C : cx p s m args meth c cX12_land 2 (some .int) RX12 D q A := C
  obtain ⟨hx, hb, hr, hml, hown, hts, hlk, hA, hK, hN, hV⟩ := id C
  refine lv_aload_n hx hb dX12_land_0 rfl (lv_at hl 0 rfl) ?_
  refine lv_iconst (v := (0 : Int32)) hx hb dX12_land_1 (by decide) ?_
  obtain ⟨U1, e2, hF⟩ := nw_s hF
  refine k_put (W8 := fl [g12 q o0 a0 U1]) C fp_X12_1 hP hD hS 0 rfl rfl rfl (Nat.le_of_ble_eq_true rfl) dX12_land_2 (by rw [e2]; rfl) (fun H locs hP hD hS => ?_)
  refine lv_aload_n hx hb dX12_land_5 rfl (lv_at hl 0 rfl) ?_
  refine lv_iload_n hx hb dX12_land_6 rfl (lv_at hl 1 rfl) ?_
  obtain ⟨r4, hc3, hF⟩ := ob1_s hF
  refine k_isame C (k_rV (As := [.int x1]) (rest := []) C (c_X12_isPerson l D q o0 a0 U1 _ x1 hc3) kc_X12_isPerson ml_X12_318 rfl rfl (by decide) hP hD hS (va_recv hK hP (ci := 12) (q0 := 0) rfl rfl) rfl hl.1 rfl (Nat.le_of_ble_eq_true rfl) dX12_land_7 (by decide)) hP hD hS (fun H locs hP hD hS => ?_)
  refine lv_if_ne (tgt := 15) hx hb dX12_land_10 (by decide) (fun c5 => ?_) (fun c5 => ?_)
  · have hF := op_f hF c5
    refine lv_aload_n hx hb dX12_land_15 rfl (lv_at hl 0 rfl) ?_
    refine lv_iload_n hx hb dX12_land_16 rfl (lv_at hl 1 rfl) ?_
    obtain ⟨r7, hc6, hF⟩ := ob1_s hF
    refine k_isame C (k_rV (As := [.int x1]) (rest := []) C (c_X12_isUp l D q o0 a0 U1 _ x1 hc6) kc_X12_isUp ml_X12_337 rfl rfl (by decide) hP hD hS (va_recv hK hP (ci := 12) (q0 := 0) rfl rfl) rfl hl.1 rfl (Nat.le_of_ble_eq_true rfl) dX12_land_17 (by decide)) hP hD hS (fun H locs hP hD hS => ?_)
    refine lv_if_ne (tgt := 25) hx hb dX12_land_20 (by decide) (fun c8 => ?_) (fun c8 => ?_)
    · have hF := op_f hF c8
      refine lv_aload_n hx hb dX12_land_25 rfl (lv_at hl 0 rfl) ?_
      obtain ⟨U10, hc9, hF⟩ := ob1_s hF
      refine k_vall C (k_rV (As := []) (rest := []) C (c_X12_keep l D q o0 a0 U1 _ hc9) kc_X12_keep ml_X12_355 rfl rfl (by decide) hP hD hS (va_recv hK hP (ci := 12) (q0 := 0) rfl rfl) rfl hl.1 rfl (Nat.le_of_ble_eq_true rfl) dX12_land_26 (by decide)) hP hD hS (by simp only [List.map_cons, List.map_nil, gad12]) (fun H locs hP hD hS => ?_)
      refine lv_aload_n hx hb dX12_land_29 rfl (lv_at hl 0 rfl) ?_
      refine k_get (v := .ref (a0 7)) C fg_X12_33 hP 0 rfl rfl dX12_land_30 ?_
      refine lv_bipush (v := (65 : Int32)) hx hb dX12_land_33 (by decide) ?_
      refine lv_iload_n hx hb dX12_land_35 rfl (lv_at hl 1 rfl) ?_
      refine lv_iadd hx hb dX12_land_36 ?_
      refine lv_iconst (v := (0 : Int32)) hx hb dX12_land_37 (by decide) ?_
      obtain ⟨h11, hF⟩ := op_ck hF
      obtain ⟨U12, e13, hF⟩ := nw_s hF
      refine k_ist (f := U10.2.2.1 6) (W8 := fl [g12 q o0 a0 U12]) C hP hD hS 2 rfl h11 dX12_land_38 (by rw [e13]; rfl) (fun H locs hP hD hS => ?_)
      refine lv_iconst (v := (0 : Int32)) hx hb dX12_land_39 (by decide) ?_
      cases hF
      exact k_iret C hP hS dX12_land_40
    · have hF := op_t hF c8
      refine lv_iconst (v := (1 : Int32)) hx hb dX12_land_23 (by decide) ?_
      cases hF
      exact k_iret C hP hS dX12_land_24
  · have hF := op_t hF c5
    refine lv_iconst (v := (-1 : Int32)) hx hb dX12_land_13 (by decide) ?_
    cases hF
    exact k_iret C hP hS dX12_land_14

abbrev rm_X12_tell : Room := ({ frames := 2, cells := 0, slots := 0, locals := 44 } : Room)
def F_X12_tell (S0 : St) (x1 : Int32) (x2 : Int32) (x3 : Int32) : Option (Int32 × St) := nw (sI S0 0 (0 : Int32)) fun U1 => ob1 (F_X12_isPerson U1 x1) fun r4 => if r4 = 0 then (some ((-1 : Int32), U1)) else (ob1 (F_X12_isPerson U1 x2) fun r7 => if r7 = 0 then (some ((-1 : Int32), U1)) else (ob1 (F_X12_isView U1 x3) fun r10 => if r10 = 0 then (some ((-1 : Int32), U1)) else (ob1 (F_X12_whyTell U1 x1 x2 x3) fun r13 => if r13 ≤ 0 then (ob1 (F_X12_keep U1) fun U16 => if oob ((59 : Int32) + x2) 258 then none else ob1 (F_X12_having (U16.2.2.1 6 ((59 : Int32) + x2).toNatClampNeg) x3) fun r19 => if oob ((59 : Int32) + x2) 258 then none else nw (sA U16 6 ((59 : Int32) + x2) r19) fun U21 => some ((0 : Int32), U21)) else (some (r13, U1)))))
set_option maxRecDepth 100000 in
set_option maxHeartbeats 4000000 in
theorem c_X12_tell (l : Launch) (D : va_G) (q : Nat → ClassId) (o0 : Nat) (a0 : Nat → Nat) (S0 : St) (sz : Nat) (x1 : Int32) (x2 : Int32) (x3 : Int32) {r : Int32} {T0 : St} (hF : F_X12_tell S0 x1 x2 x3 = some (r, T0)) : Met l yX12_tell (Cond.code yX12_tell cX12_tell 5 (some .int) :: TB) rm_X12_tell (PC D q [.ref o0, .int x1, .int x2, .int x3] (fl [g12 q o0 a0 S0]) sz) ((fun A => QI D A r (fl [g12 q o0 a0 T0])) (va_A (fl [g12 q o0 a0 S0]) sz)) 0 0 (va_A (fl [g12 q o0 a0 S0]) sz) := by
  refine k_met (w0 := fl [g12 q o0 a0 S0]) (Q := fun A => QI D A r (fl [g12 q o0 a0 T0])) (by decide +kernel) (Nat.le_of_ble_eq_true rfl) ?_
  intro p e s m args below meth c A ls C hP hD hS hl
  have hl : lv_has ls 5 [(0, .ref o0), (1, .int x1), (2, .int x2), (3, .int x3)] := hl
  unfold F_X12_tell at hF
  have C : cx p s m args meth c cX12_tell 5 (some .int) RX12 D q A := C
  obtain ⟨hx, hb, hr, hml, hown, hts, hlk, hA, hK, hN, hV⟩ := id C
  refine lv_aload_n hx hb dX12_tell_0 rfl (lv_at hl 0 rfl) ?_
  refine lv_iconst (v := (0 : Int32)) hx hb dX12_tell_1 (by decide) ?_
  obtain ⟨U1, e2, hF⟩ := nw_s hF
  refine k_put (W8 := fl [g12 q o0 a0 U1]) C fp_X12_1 hP hD hS 0 rfl rfl rfl (Nat.le_of_ble_eq_true rfl) dX12_tell_2 (by rw [e2]; rfl) (fun H locs hP hD hS => ?_)
  refine lv_aload_n hx hb dX12_tell_5 rfl (lv_at hl 0 rfl) ?_
  refine lv_iload_n hx hb dX12_tell_6 rfl (lv_at hl 1 rfl) ?_
  obtain ⟨r4, hc3, hF⟩ := ob1_s hF
  refine k_isame C (k_rV (As := [.int x1]) (rest := []) C (c_X12_isPerson l D q o0 a0 U1 _ x1 hc3) kc_X12_isPerson ml_X12_318 rfl rfl (by decide) hP hD hS (va_recv hK hP (ci := 12) (q0 := 0) rfl rfl) rfl hl.1 rfl (Nat.le_of_ble_eq_true rfl) dX12_tell_7 (by decide)) hP hD hS (fun H locs hP hD hS => ?_)
  refine lv_if_eq (tgt := 29) hx hb dX12_tell_10 (by decide) (fun c5 => ?_) (fun c5 => ?_)
  · have hF := op_t hF c5
    refine lv_iconst (v := (-1 : Int32)) hx hb dX12_tell_29 (by decide) ?_
    cases hF
    exact k_iret C hP hS dX12_tell_30
  · have hF := op_f hF c5
    refine lv_aload_n hx hb dX12_tell_13 rfl (lv_at hl 0 rfl) ?_
    refine lv_iload_n hx hb dX12_tell_14 rfl (lv_at hl 2 rfl) ?_
    obtain ⟨r7, hc6, hF⟩ := ob1_s hF
    refine k_isame C (k_rV (As := [.int x2]) (rest := []) C (c_X12_isPerson l D q o0 a0 U1 _ x2 hc6) kc_X12_isPerson ml_X12_318 rfl rfl (by decide) hP hD hS (va_recv hK hP (ci := 12) (q0 := 0) rfl rfl) rfl hl.1 rfl (Nat.le_of_ble_eq_true rfl) dX12_tell_15 (by decide)) hP hD hS (fun H locs hP hD hS => ?_)
    refine lv_if_eq (tgt := 29) hx hb dX12_tell_18 (by decide) (fun c8 => ?_) (fun c8 => ?_)
    · have hF := op_t hF c8
      refine lv_iconst (v := (-1 : Int32)) hx hb dX12_tell_29 (by decide) ?_
      cases hF
      exact k_iret C hP hS dX12_tell_30
    · have hF := op_f hF c8
      refine lv_aload_n hx hb dX12_tell_21 rfl (lv_at hl 0 rfl) ?_
      refine lv_iload_n hx hb dX12_tell_22 rfl (lv_at hl 3 rfl) ?_
      obtain ⟨r10, hc9, hF⟩ := ob1_s hF
      refine k_isame C (k_rV (As := [.int x3]) (rest := []) C (c_X12_isView l D q o0 a0 U1 _ x3 hc9) kc_X12_isView ml_X12_362 rfl rfl (by decide) hP hD hS (va_recv hK hP (ci := 12) (q0 := 0) rfl rfl) rfl hl.1 rfl (Nat.le_of_ble_eq_true rfl) dX12_tell_23 (by decide)) hP hD hS (fun H locs hP hD hS => ?_)
      refine lv_if_ne (tgt := 31) hx hb dX12_tell_26 (by decide) (fun c11 => ?_) (fun c11 => ?_)
      · have hF := op_f hF c11
        refine lv_aload_n hx hb dX12_tell_31 rfl (lv_at hl 0 rfl) ?_
        refine lv_iload_n hx hb dX12_tell_32 rfl (lv_at hl 1 rfl) ?_
        refine lv_iload_n hx hb dX12_tell_33 rfl (lv_at hl 2 rfl) ?_
        refine lv_iload_n hx hb dX12_tell_34 rfl (lv_at hl 3 rfl) ?_
        obtain ⟨r13, hc12, hF⟩ := ob1_s hF
        refine k_isame C (k_rV (As := [.int x1, .int x2, .int x3]) (rest := []) C (c_X12_whyTell l D q o0 a0 U1 _ x1 x2 x3 hc12) kc_X12_whyTell ml_X12_365 rfl rfl (by decide) hP hD hS (va_recv hK hP (ci := 12) (q0 := 0) rfl rfl) rfl hl.1 rfl (Nat.le_of_ble_eq_true rfl) dX12_tell_35 (by decide)) hP hD hS (fun H locs hP hD hS => ?_)
        refine lv_istore (lv' := [(4, .int r13), (0, .ref o0), (1, .int x1), (2, .int x2), (3, .int x3)]) hx hb dX12_tell_38 hl (by decide) rfl (fun ls hl => ?_)
        refine lv_iload hx hb dX12_tell_40 (lv_at hl 0 rfl) ?_
        refine lv_if_le (tgt := 48) hx hb dX12_tell_42 (by decide) (fun c14 => ?_) (fun c14 => ?_)
        · have hF := op_t hF c14
          refine lv_aload_n hx hb dX12_tell_48 rfl (lv_at hl 1 rfl) ?_
          obtain ⟨U16, hc15, hF⟩ := ob1_s hF
          refine k_vall C (k_rV (As := []) (rest := []) C (c_X12_keep l D q o0 a0 U1 _ hc15) kc_X12_keep ml_X12_355 rfl rfl (by decide) hP hD hS (va_recv hK hP (ci := 12) (q0 := 0) rfl rfl) rfl hl.1 rfl (Nat.le_of_ble_eq_true rfl) dX12_tell_49 (by decide)) hP hD hS (by simp only [List.map_cons, List.map_nil, gad12]) (fun H locs hP hD hS => ?_)
          refine lv_aload_n hx hb dX12_tell_52 rfl (lv_at hl 1 rfl) ?_
          refine k_get (v := .ref (a0 7)) C fg_X12_33 hP 0 rfl rfl dX12_tell_53 ?_
          refine lv_bipush (v := (59 : Int32)) hx hb dX12_tell_56 (by decide) ?_
          refine lv_iload_n hx hb dX12_tell_58 rfl (lv_at hl 3 rfl) ?_
          refine lv_iadd hx hb dX12_tell_59 ?_
          refine lv_aload_n hx hb dX12_tell_60 rfl (lv_at hl 1 rfl) ?_
          refine k_get (v := .ref (a0 7)) C fg_X12_33 hP 0 rfl rfl dX12_tell_61 ?_
          refine lv_bipush (v := (59 : Int32)) hx hb dX12_tell_64 (by decide) ?_
          refine lv_iload_n hx hb dX12_tell_66 rfl (lv_at hl 3 rfl) ?_
          refine lv_iadd hx hb dX12_tell_67 ?_
          obtain ⟨h17, hF⟩ := op_ck hF
          refine k_ild (f := U16.2.2.1 6) C hP 2 rfl h17 dX12_tell_68 ?_
          refine lv_iload_n hx hb dX12_tell_69 rfl (lv_at hl 4 rfl) ?_
          obtain ⟨r19, hc18, hF⟩ := ob1_s hF
          refine k_inil C (k_rS (As := [.int (U16.2.2.1 6 ((59 : Int32) + x2).toNatClampNeg), .int x3]) (rest := [.int ((59 : Int32) + x2), .ref (a0 7)]) C (c_X12_having l D q _ (U16.2.2.1 6 ((59 : Int32) + x2).toNatClampNeg) x3 hc18) kc_X12_having ml_X12_300 rfl rfl (by decide) (fun k x h => by simp at h) (⟨fun i j x y h => by simp at h, fun k x h => by simp at h⟩ : va_D A []) hS rfl hl.1 rfl (Nat.le_of_ble_eq_true rfl) dX12_tell_70 (by decide)) hP hD hS (fun H locs hP hD hS => ?_)
          obtain ⟨h20, hF⟩ := op_ck hF
          obtain ⟨U21, e22, hF⟩ := nw_s hF
          refine k_ist (f := U16.2.2.1 6) (W8 := fl [g12 q o0 a0 U21]) C hP hD hS 2 rfl h20 dX12_tell_73 (by rw [e22]; rfl) (fun H locs hP hD hS => ?_)
          refine lv_iconst (v := (0 : Int32)) hx hb dX12_tell_74 (by decide) ?_
          cases hF
          exact k_iret C hP hS dX12_tell_75
        · have hF := op_f hF c14
          refine lv_iload hx hb dX12_tell_45 (lv_at hl 0 rfl) ?_
          cases hF
          exact k_iret C hP hS dX12_tell_47
      · have hF := op_t hF c11
        refine lv_iconst (v := (-1 : Int32)) hx hb dX12_tell_29 (by decide) ?_
        cases hF
        exact k_iret C hP hS dX12_tell_30

abbrev rm_X12_storm : Room := ({ frames := 1, cells := 0, slots := 0, locals := 22 } : Room)
def F_X12_storm (S0 : St) (x1 : Int32) : Option (Int32 × St) := nw (sI S0 0 (0 : Int32)) fun U1 => ob1 (F_X12_isIn x1 (1 : Int32) (60 : Int32)) fun r4 => if r4 = 0 then (some ((-1 : Int32), U1)) else (ob1 (F_X12_whyStorm U1 x1) fun r7 => if r7 ≤ 0 then (ob1 (F_X12_keep U1) fun U10 => ob1 (F_X12_storms U10 x1) fun U12 => some ((0 : Int32), U12)) else (some ((1 : Int32), U1)))
set_option maxRecDepth 100000 in
set_option maxHeartbeats 4000000 in
theorem c_X12_storm (l : Launch) (D : va_G) (q : Nat → ClassId) (o0 : Nat) (a0 : Nat → Nat) (S0 : St) (sz : Nat) (x1 : Int32) {r : Int32} {T0 : St} (hF : F_X12_storm S0 x1 = some (r, T0)) : Met l yX12_storm (Cond.code yX12_storm cX12_storm 2 (some .int) :: TB) rm_X12_storm (PC D q [.ref o0, .int x1] (fl [g12 q o0 a0 S0]) sz) ((fun A => QI D A r (fl [g12 q o0 a0 T0])) (va_A (fl [g12 q o0 a0 S0]) sz)) 0 0 (va_A (fl [g12 q o0 a0 S0]) sz) := by
  refine k_met (w0 := fl [g12 q o0 a0 S0]) (Q := fun A => QI D A r (fl [g12 q o0 a0 T0])) (by decide +kernel) (Nat.le_of_ble_eq_true rfl) ?_
  intro p e s m args below meth c A ls C hP hD hS hl
  have hl : lv_has ls 2 [(0, .ref o0), (1, .int x1)] := hl
  unfold F_X12_storm at hF
  have C : cx p s m args meth c cX12_storm 2 (some .int) RX12 D q A := C
  obtain ⟨hx, hb, hr, hml, hown, hts, hlk, hA, hK, hN, hV⟩ := id C
  refine lv_aload_n hx hb dX12_storm_0 rfl (lv_at hl 0 rfl) ?_
  refine lv_iconst (v := (0 : Int32)) hx hb dX12_storm_1 (by decide) ?_
  obtain ⟨U1, e2, hF⟩ := nw_s hF
  refine k_put (W8 := fl [g12 q o0 a0 U1]) C fp_X12_1 hP hD hS 0 rfl rfl rfl (Nat.le_of_ble_eq_true rfl) dX12_storm_2 (by rw [e2]; rfl) (fun H locs hP hD hS => ?_)
  refine lv_iload_n hx hb dX12_storm_5 rfl (lv_at hl 1 rfl) ?_
  refine lv_iconst (v := (1 : Int32)) hx hb dX12_storm_6 (by decide) ?_
  refine lv_bipush (v := (60 : Int32)) hx hb dX12_storm_7 (by decide) ?_
  obtain ⟨r4, hc3, hF⟩ := ob1_s hF
  refine k_inil C (k_rS (As := [.int x1, .int (1 : Int32), .int (60 : Int32)]) (rest := []) C (c_X12_isIn l D q _ x1 (1 : Int32) (60 : Int32) hc3) kc_X12_isIn ml_X12_225 rfl rfl (by decide) (fun k x h => by simp at h) (⟨fun i j x y h => by simp at h, fun k x h => by simp at h⟩ : va_D A []) hS rfl hl.1 rfl (Nat.le_of_ble_eq_true rfl) dX12_storm_9 (by decide)) hP hD hS (fun H locs hP hD hS => ?_)
  refine lv_if_ne (tgt := 17) hx hb dX12_storm_12 (by decide) (fun c5 => ?_) (fun c5 => ?_)
  · have hF := op_f hF c5
    refine lv_aload_n hx hb dX12_storm_17 rfl (lv_at hl 0 rfl) ?_
    refine lv_iload_n hx hb dX12_storm_18 rfl (lv_at hl 1 rfl) ?_
    obtain ⟨r7, hc6, hF⟩ := ob1_s hF
    refine k_isame C (k_rV (As := [.int x1]) (rest := []) C (c_X12_whyStorm l D q o0 a0 U1 _ x1 hc6) kc_X12_whyStorm ml_X12_369 rfl rfl (by decide) hP hD hS (va_recv hK hP (ci := 12) (q0 := 0) rfl rfl) rfl hl.1 rfl (Nat.le_of_ble_eq_true rfl) dX12_storm_19 (by decide)) hP hD hS (fun H locs hP hD hS => ?_)
    refine lv_if_le (tgt := 27) hx hb dX12_storm_22 (by decide) (fun c8 => ?_) (fun c8 => ?_)
    · have hF := op_t hF c8
      refine lv_aload_n hx hb dX12_storm_27 rfl (lv_at hl 0 rfl) ?_
      obtain ⟨U10, hc9, hF⟩ := ob1_s hF
      refine k_vall C (k_rV (As := []) (rest := []) C (c_X12_keep l D q o0 a0 U1 _ hc9) kc_X12_keep ml_X12_355 rfl rfl (by decide) hP hD hS (va_recv hK hP (ci := 12) (q0 := 0) rfl rfl) rfl hl.1 rfl (Nat.le_of_ble_eq_true rfl) dX12_storm_28 (by decide)) hP hD hS (by simp only [List.map_cons, List.map_nil, gad12]) (fun H locs hP hD hS => ?_)
      refine lv_aload_n hx hb dX12_storm_31 rfl (lv_at hl 0 rfl) ?_
      refine lv_iload_n hx hb dX12_storm_32 rfl (lv_at hl 1 rfl) ?_
      obtain ⟨U12, hc11, hF⟩ := ob1_s hF
      refine k_vall C (k_rV (As := [.int x1]) (rest := []) C (c_X12_storms l D q o0 a0 U10 _ x1 hc11) kc_X12_storms ml_X12_372 rfl rfl (by decide) hP hD hS (va_recv hK hP (ci := 12) (q0 := 0) rfl rfl) rfl hl.1 rfl (Nat.le_of_ble_eq_true rfl) dX12_storm_33 (by decide)) hP hD hS (by simp only [List.map_cons, List.map_nil, gad12]) (fun H locs hP hD hS => ?_)
      refine lv_iconst (v := (0 : Int32)) hx hb dX12_storm_36 (by decide) ?_
      cases hF
      exact k_iret C hP hS dX12_storm_37
    · have hF := op_f hF c8
      refine lv_iconst (v := (1 : Int32)) hx hb dX12_storm_25 (by decide) ?_
      cases hF
      exact k_iret C hP hS dX12_storm_26
  · have hF := op_t hF c5
    refine lv_iconst (v := (-1 : Int32)) hx hb dX12_storm_15 (by decide) ?_
    cases hF
    exact k_iret C hP hS dX12_storm_16

abbrev rm_X12_wall : Room := ({ frames := 3, cells := 0, slots := 0, locals := 63 } : Room)
def F_X12_wall (S0 : St) (x1 : Int32) : Option (Int32 × St) := nw (sI S0 0 (0 : Int32)) fun U1 => ob1 (F_X12_isTurret U1 x1) fun r4 => if r4 = 0 then (some ((-1 : Int32), U1)) else (ob1 (F_X12_whyWall U1 x1) fun r7 => if r7 ≤ 0 then (ob1 (F_X12_keep U1) fun U10 => if oob (44 : Int32) 258 then none else if oob (44 : Int32) 258 then none else nw (sA U10 6 (44 : Int32) ((U10.2.2.1 6 (44 : Int32).toNatClampNeg) ||| ((1 : Int32) <<< (x1 &&& 31)))) fun U13 => some ((0 : Int32), U13)) else (some (r7, U1)))
set_option maxRecDepth 100000 in
set_option maxHeartbeats 4000000 in
theorem c_X12_wall (l : Launch) (D : va_G) (q : Nat → ClassId) (o0 : Nat) (a0 : Nat → Nat) (S0 : St) (sz : Nat) (x1 : Int32) {r : Int32} {T0 : St} (hF : F_X12_wall S0 x1 = some (r, T0)) : Met l yX12_wall (Cond.code yX12_wall cX12_wall 3 (some .int) :: TB) rm_X12_wall (PC D q [.ref o0, .int x1] (fl [g12 q o0 a0 S0]) sz) ((fun A => QI D A r (fl [g12 q o0 a0 T0])) (va_A (fl [g12 q o0 a0 S0]) sz)) 0 0 (va_A (fl [g12 q o0 a0 S0]) sz) := by
  refine k_met (w0 := fl [g12 q o0 a0 S0]) (Q := fun A => QI D A r (fl [g12 q o0 a0 T0])) (by decide +kernel) (Nat.le_of_ble_eq_true rfl) ?_
  intro p e s m args below meth c A ls C hP hD hS hl
  have hl : lv_has ls 3 [(0, .ref o0), (1, .int x1)] := hl
  unfold F_X12_wall at hF
  have C : cx p s m args meth c cX12_wall 3 (some .int) RX12 D q A := C
  obtain ⟨hx, hb, hr, hml, hown, hts, hlk, hA, hK, hN, hV⟩ := id C
  refine lv_aload_n hx hb dX12_wall_0 rfl (lv_at hl 0 rfl) ?_
  refine lv_iconst (v := (0 : Int32)) hx hb dX12_wall_1 (by decide) ?_
  obtain ⟨U1, e2, hF⟩ := nw_s hF
  refine k_put (W8 := fl [g12 q o0 a0 U1]) C fp_X12_1 hP hD hS 0 rfl rfl rfl (Nat.le_of_ble_eq_true rfl) dX12_wall_2 (by rw [e2]; rfl) (fun H locs hP hD hS => ?_)
  refine lv_aload_n hx hb dX12_wall_5 rfl (lv_at hl 0 rfl) ?_
  refine lv_iload_n hx hb dX12_wall_6 rfl (lv_at hl 1 rfl) ?_
  obtain ⟨r4, hc3, hF⟩ := ob1_s hF
  refine k_isame C (k_rV (As := [.int x1]) (rest := []) C (c_X12_isTurret l D q o0 a0 U1 _ x1 hc3) kc_X12_isTurret ml_X12_331 rfl rfl (by decide) hP hD hS (va_recv hK hP (ci := 12) (q0 := 0) rfl rfl) rfl hl.1 rfl (Nat.le_of_ble_eq_true rfl) dX12_wall_7 (by decide)) hP hD hS (fun H locs hP hD hS => ?_)
  refine lv_if_ne (tgt := 15) hx hb dX12_wall_10 (by decide) (fun c5 => ?_) (fun c5 => ?_)
  · have hF := op_f hF c5
    refine lv_aload_n hx hb dX12_wall_15 rfl (lv_at hl 0 rfl) ?_
    refine lv_iload_n hx hb dX12_wall_16 rfl (lv_at hl 1 rfl) ?_
    obtain ⟨r7, hc6, hF⟩ := ob1_s hF
    refine k_isame C (k_rV (As := [.int x1]) (rest := []) C (c_X12_whyWall l D q o0 a0 U1 _ x1 hc6) kc_X12_whyWall ml_X12_375 rfl rfl (by decide) hP hD hS (va_recv hK hP (ci := 12) (q0 := 0) rfl rfl) rfl hl.1 rfl (Nat.le_of_ble_eq_true rfl) dX12_wall_17 (by decide)) hP hD hS (fun H locs hP hD hS => ?_)
    refine lv_istore_n (lv' := [(2, .int r7), (0, .ref o0), (1, .int x1)]) hx hb dX12_wall_20 rfl hl (by decide) rfl (fun ls hl => ?_)
    refine lv_iload_n hx hb dX12_wall_21 rfl (lv_at hl 0 rfl) ?_
    refine lv_if_le (tgt := 27) hx hb dX12_wall_22 (by decide) (fun c8 => ?_) (fun c8 => ?_)
    · have hF := op_t hF c8
      refine lv_aload_n hx hb dX12_wall_27 rfl (lv_at hl 1 rfl) ?_
      obtain ⟨U10, hc9, hF⟩ := ob1_s hF
      refine k_vall C (k_rV (As := []) (rest := []) C (c_X12_keep l D q o0 a0 U1 _ hc9) kc_X12_keep ml_X12_355 rfl rfl (by decide) hP hD hS (va_recv hK hP (ci := 12) (q0 := 0) rfl rfl) rfl hl.1 rfl (Nat.le_of_ble_eq_true rfl) dX12_wall_28 (by decide)) hP hD hS (by simp only [List.map_cons, List.map_nil, gad12]) (fun H locs hP hD hS => ?_)
      refine lv_aload_n hx hb dX12_wall_31 rfl (lv_at hl 1 rfl) ?_
      refine k_get (v := .ref (a0 7)) C fg_X12_33 hP 0 rfl rfl dX12_wall_32 ?_
      refine lv_bipush (v := (44 : Int32)) hx hb dX12_wall_35 (by decide) ?_
      refine lv_dup2_11 hx hb dX12_wall_37 rfl rfl ?_
      obtain ⟨h11, hF⟩ := op_ck hF
      refine k_ild (f := U10.2.2.1 6) C hP 2 rfl h11 dX12_wall_38 ?_
      refine lv_iconst (v := (1 : Int32)) hx hb dX12_wall_39 (by decide) ?_
      refine lv_iload_n hx hb dX12_wall_40 rfl (lv_at hl 2 rfl) ?_
      refine lv_ishl hx hb dX12_wall_41 ?_
      refine lv_ior hx hb dX12_wall_42 ?_
      obtain ⟨h12, hF⟩ := op_ck hF
      obtain ⟨U13, e14, hF⟩ := nw_s hF
      refine k_ist (f := U10.2.2.1 6) (W8 := fl [g12 q o0 a0 U13]) C hP hD hS 2 rfl h12 dX12_wall_43 (by rw [e14]; rfl) (fun H locs hP hD hS => ?_)
      refine lv_iconst (v := (0 : Int32)) hx hb dX12_wall_44 (by decide) ?_
      cases hF
      exact k_iret C hP hS dX12_wall_45
    · have hF := op_f hF c8
      refine lv_iload_n hx hb dX12_wall_25 rfl (lv_at hl 0 rfl) ?_
      cases hF
      exact k_iret C hP hS dX12_wall_26
  · have hF := op_t hF c5
    refine lv_iconst (v := (-1 : Int32)) hx hb dX12_wall_13 (by decide) ?_
    cases hF
    exact k_iret C hP hS dX12_wall_14

abbrev rm_X12_unwall : Room := ({ frames := 2, cells := 0, slots := 0, locals := 43 } : Room)
def F_X12_unwall (S0 : St) (x1 : Int32) : Option (Int32 × St) := nw (sI S0 0 (0 : Int32)) fun U1 => ob1 (F_X12_isTurret U1 x1) fun r4 => if r4 = 0 then (some ((-1 : Int32), U1)) else (ob1 (F_X12_isWalled U1 x1) fun r7 => if r7 = 0 then (some ((1 : Int32), U1)) else (ob1 (F_X12_keep U1) fun U10 => if oob (44 : Int32) 258 then none else if oob (44 : Int32) 258 then none else nw (sA U10 6 (44 : Int32) ((U10.2.2.1 6 (44 : Int32).toNatClampNeg) ^^^ ((1 : Int32) <<< (x1 &&& 31)))) fun U13 => some ((0 : Int32), U13)))
set_option maxRecDepth 100000 in
set_option maxHeartbeats 4000000 in
theorem c_X12_unwall (l : Launch) (D : va_G) (q : Nat → ClassId) (o0 : Nat) (a0 : Nat → Nat) (S0 : St) (sz : Nat) (x1 : Int32) {r : Int32} {T0 : St} (hF : F_X12_unwall S0 x1 = some (r, T0)) : Met l yX12_unwall (Cond.code yX12_unwall cX12_unwall 2 (some .int) :: TB) rm_X12_unwall (PC D q [.ref o0, .int x1] (fl [g12 q o0 a0 S0]) sz) ((fun A => QI D A r (fl [g12 q o0 a0 T0])) (va_A (fl [g12 q o0 a0 S0]) sz)) 0 0 (va_A (fl [g12 q o0 a0 S0]) sz) := by
  refine k_met (w0 := fl [g12 q o0 a0 S0]) (Q := fun A => QI D A r (fl [g12 q o0 a0 T0])) (by decide +kernel) (Nat.le_of_ble_eq_true rfl) ?_
  intro p e s m args below meth c A ls C hP hD hS hl
  have hl : lv_has ls 2 [(0, .ref o0), (1, .int x1)] := hl
  unfold F_X12_unwall at hF
  have C : cx p s m args meth c cX12_unwall 2 (some .int) RX12 D q A := C
  obtain ⟨hx, hb, hr, hml, hown, hts, hlk, hA, hK, hN, hV⟩ := id C
  refine lv_aload_n hx hb dX12_unwall_0 rfl (lv_at hl 0 rfl) ?_
  refine lv_iconst (v := (0 : Int32)) hx hb dX12_unwall_1 (by decide) ?_
  obtain ⟨U1, e2, hF⟩ := nw_s hF
  refine k_put (W8 := fl [g12 q o0 a0 U1]) C fp_X12_1 hP hD hS 0 rfl rfl rfl (Nat.le_of_ble_eq_true rfl) dX12_unwall_2 (by rw [e2]; rfl) (fun H locs hP hD hS => ?_)
  refine lv_aload_n hx hb dX12_unwall_5 rfl (lv_at hl 0 rfl) ?_
  refine lv_iload_n hx hb dX12_unwall_6 rfl (lv_at hl 1 rfl) ?_
  obtain ⟨r4, hc3, hF⟩ := ob1_s hF
  refine k_isame C (k_rV (As := [.int x1]) (rest := []) C (c_X12_isTurret l D q o0 a0 U1 _ x1 hc3) kc_X12_isTurret ml_X12_331 rfl rfl (by decide) hP hD hS (va_recv hK hP (ci := 12) (q0 := 0) rfl rfl) rfl hl.1 rfl (Nat.le_of_ble_eq_true rfl) dX12_unwall_7 (by decide)) hP hD hS (fun H locs hP hD hS => ?_)
  refine lv_if_ne (tgt := 15) hx hb dX12_unwall_10 (by decide) (fun c5 => ?_) (fun c5 => ?_)
  · have hF := op_f hF c5
    refine lv_aload_n hx hb dX12_unwall_15 rfl (lv_at hl 0 rfl) ?_
    refine lv_iload_n hx hb dX12_unwall_16 rfl (lv_at hl 1 rfl) ?_
    obtain ⟨r7, hc6, hF⟩ := ob1_s hF
    refine k_isame C (k_rV (As := [.int x1]) (rest := []) C (c_X12_isWalled l D q o0 a0 U1 _ x1 hc6) kc_X12_isWalled ml_X12_303 rfl rfl (by decide) hP hD hS (va_recv hK hP (ci := 12) (q0 := 0) rfl rfl) rfl hl.1 rfl (Nat.le_of_ble_eq_true rfl) dX12_unwall_17 (by decide)) hP hD hS (fun H locs hP hD hS => ?_)
    refine lv_if_ne (tgt := 25) hx hb dX12_unwall_20 (by decide) (fun c8 => ?_) (fun c8 => ?_)
    · have hF := op_f hF c8
      refine lv_aload_n hx hb dX12_unwall_25 rfl (lv_at hl 0 rfl) ?_
      obtain ⟨U10, hc9, hF⟩ := ob1_s hF
      refine k_vall C (k_rV (As := []) (rest := []) C (c_X12_keep l D q o0 a0 U1 _ hc9) kc_X12_keep ml_X12_355 rfl rfl (by decide) hP hD hS (va_recv hK hP (ci := 12) (q0 := 0) rfl rfl) rfl hl.1 rfl (Nat.le_of_ble_eq_true rfl) dX12_unwall_26 (by decide)) hP hD hS (by simp only [List.map_cons, List.map_nil, gad12]) (fun H locs hP hD hS => ?_)
      refine lv_aload_n hx hb dX12_unwall_29 rfl (lv_at hl 0 rfl) ?_
      refine k_get (v := .ref (a0 7)) C fg_X12_33 hP 0 rfl rfl dX12_unwall_30 ?_
      refine lv_bipush (v := (44 : Int32)) hx hb dX12_unwall_33 (by decide) ?_
      refine lv_dup2_11 hx hb dX12_unwall_35 rfl rfl ?_
      obtain ⟨h11, hF⟩ := op_ck hF
      refine k_ild (f := U10.2.2.1 6) C hP 2 rfl h11 dX12_unwall_36 ?_
      refine lv_iconst (v := (1 : Int32)) hx hb dX12_unwall_37 (by decide) ?_
      refine lv_iload_n hx hb dX12_unwall_38 rfl (lv_at hl 1 rfl) ?_
      refine lv_ishl hx hb dX12_unwall_39 ?_
      refine lv_ixor hx hb dX12_unwall_40 ?_
      obtain ⟨h12, hF⟩ := op_ck hF
      obtain ⟨U13, e14, hF⟩ := nw_s hF
      refine k_ist (f := U10.2.2.1 6) (W8 := fl [g12 q o0 a0 U13]) C hP hD hS 2 rfl h12 dX12_unwall_41 (by rw [e14]; rfl) (fun H locs hP hD hS => ?_)
      refine lv_iconst (v := (0 : Int32)) hx hb dX12_unwall_42 (by decide) ?_
      cases hF
      exact k_iret C hP hS dX12_unwall_43
    · have hF := op_t hF c8
      refine lv_iconst (v := (1 : Int32)) hx hb dX12_unwall_23 (by decide) ?_
      cases hF
      exact k_iret C hP hS dX12_unwall_24
  · have hF := op_t hF c5
    refine lv_iconst (v := (-1 : Int32)) hx hb dX12_unwall_13 (by decide) ?_
    cases hF
    exact k_iret C hP hS dX12_unwall_14

abbrev rm_X12_days : Room := ({ frames := 2, cells := 0, slots := 0, locals := 43 } : Room)
def F_X12_days (S0 : St) (x1 : Int32) : Option (Int32 × St) := nw (sI S0 0 (0 : Int32)) fun U1 => ob1 (F_X12_isIn x1 (1 : Int32) (60 : Int32)) fun r4 => if r4 = 0 then (some ((-1 : Int32), U1)) else (if oob (42 : Int32) 258 then none else if (U1.2.2.1 6 (42 : Int32).toNatClampNeg) = (400 : Int32) then (some ((0 : Int32), U1)) else (ob1 (F_X12_keep U1) fun U9 => ob2 (F_X12_goesOn U9 x1) fun r11 U12 => some (r11, U12)))
set_option maxRecDepth 100000 in
set_option maxHeartbeats 4000000 in
theorem c_X12_days (l : Launch) (D : va_G) (q : Nat → ClassId) (o0 : Nat) (a0 : Nat → Nat) (S0 : St) (sz : Nat) (x1 : Int32) {r : Int32} {T0 : St} (hF : F_X12_days S0 x1 = some (r, T0)) : Met l yX12_days (Cond.code yX12_days cX12_days 2 (some .int) :: TB) rm_X12_days (PC D q [.ref o0, .int x1] (fl [g12 q o0 a0 S0]) sz) ((fun A => QI D A r (fl [g12 q o0 a0 T0])) (va_A (fl [g12 q o0 a0 S0]) sz)) 0 0 (va_A (fl [g12 q o0 a0 S0]) sz) := by
  refine k_met (w0 := fl [g12 q o0 a0 S0]) (Q := fun A => QI D A r (fl [g12 q o0 a0 T0])) (by decide +kernel) (Nat.le_of_ble_eq_true rfl) ?_
  intro p e s m args below meth c A ls C hP hD hS hl
  have hl : lv_has ls 2 [(0, .ref o0), (1, .int x1)] := hl
  unfold F_X12_days at hF
  have C : cx p s m args meth c cX12_days 2 (some .int) RX12 D q A := C
  obtain ⟨hx, hb, hr, hml, hown, hts, hlk, hA, hK, hN, hV⟩ := id C
  refine lv_aload_n hx hb dX12_days_0 rfl (lv_at hl 0 rfl) ?_
  refine lv_iconst (v := (0 : Int32)) hx hb dX12_days_1 (by decide) ?_
  obtain ⟨U1, e2, hF⟩ := nw_s hF
  refine k_put (W8 := fl [g12 q o0 a0 U1]) C fp_X12_1 hP hD hS 0 rfl rfl rfl (Nat.le_of_ble_eq_true rfl) dX12_days_2 (by rw [e2]; rfl) (fun H locs hP hD hS => ?_)
  refine lv_iload_n hx hb dX12_days_5 rfl (lv_at hl 1 rfl) ?_
  refine lv_iconst (v := (1 : Int32)) hx hb dX12_days_6 (by decide) ?_
  refine lv_bipush (v := (60 : Int32)) hx hb dX12_days_7 (by decide) ?_
  obtain ⟨r4, hc3, hF⟩ := ob1_s hF
  refine k_inil C (k_rS (As := [.int x1, .int (1 : Int32), .int (60 : Int32)]) (rest := []) C (c_X12_isIn l D q _ x1 (1 : Int32) (60 : Int32) hc3) kc_X12_isIn ml_X12_225 rfl rfl (by decide) (fun k x h => by simp at h) (⟨fun i j x y h => by simp at h, fun k x h => by simp at h⟩ : va_D A []) hS rfl hl.1 rfl (Nat.le_of_ble_eq_true rfl) dX12_days_9 (by decide)) hP hD hS (fun H locs hP hD hS => ?_)
  refine lv_if_ne (tgt := 17) hx hb dX12_days_12 (by decide) (fun c5 => ?_) (fun c5 => ?_)
  · have hF := op_f hF c5
    refine lv_aload_n hx hb dX12_days_17 rfl (lv_at hl 0 rfl) ?_
    refine k_get (v := .ref (a0 7)) C fg_X12_33 hP 0 rfl rfl dX12_days_18 ?_
    refine lv_bipush (v := (42 : Int32)) hx hb dX12_days_21 (by decide) ?_
    obtain ⟨h6, hF⟩ := op_ck hF
    refine k_ild (f := U1.2.2.1 6) C hP 2 rfl h6 dX12_days_23 ?_
    refine lv_sipush (v := (400 : Int32)) hx hb dX12_days_24 (by decide) ?_
    refine lv_icmp_ne (tgt := 32) hx hb dX12_days_27 (by decide) (fun c7 => ?_) (fun c7 => ?_)
    · have hF := op_f hF c7
      refine lv_aload_n hx hb dX12_days_32 rfl (lv_at hl 0 rfl) ?_
      obtain ⟨U9, hc8, hF⟩ := ob1_s hF
      refine k_vall C (k_rV (As := []) (rest := []) C (c_X12_keep l D q o0 a0 U1 _ hc8) kc_X12_keep ml_X12_355 rfl rfl (by decide) hP hD hS (va_recv hK hP (ci := 12) (q0 := 0) rfl rfl) rfl hl.1 rfl (Nat.le_of_ble_eq_true rfl) dX12_days_33 (by decide)) hP hD hS (by simp only [List.map_cons, List.map_nil, gad12]) (fun H locs hP hD hS => ?_)
      refine lv_aload_n hx hb dX12_days_36 rfl (lv_at hl 0 rfl) ?_
      refine lv_iload_n hx hb dX12_days_37 rfl (lv_at hl 1 rfl) ?_
      obtain ⟨r11, U12, hc10, hF⟩ := ob2_s hF
      refine k_iall C (k_rV (As := [.int x1]) (rest := []) C (c_X12_goesOn l D q o0 a0 U9 _ x1 hc10) kc_X12_goesOn ml_X12_378 rfl rfl (by decide) hP hD hS (va_recv hK hP (ci := 12) (q0 := 0) rfl rfl) rfl hl.1 rfl (Nat.le_of_ble_eq_true rfl) dX12_days_38 (by decide)) hP hD hS (by simp only [List.map_cons, List.map_nil, gad12]) (fun H locs hP hD hS => ?_)
      cases hF
      exact k_iret C hP hS dX12_days_41
    · have hF := op_t hF c7
      refine lv_iconst (v := (0 : Int32)) hx hb dX12_days_30 (by decide) ?_
      cases hF
      exact k_iret C hP hS dX12_days_31
  · have hF := op_t hF c5
    refine lv_iconst (v := (-1 : Int32)) hx hb dX12_days_15 (by decide) ?_
    cases hF
    exact k_iret C hP hS dX12_days_16

abbrev rm_X12_undo : Room := ({ frames := 0, cells := 0, slots := 0, locals := 0 } : Room)
def F_X12_undo_26 (k26 : Int32 × St → Option (Int32 × St)) (x1 : Int32) (S0 : St) : Option (Int32 × St) := if (35 : Int32) ≤ x1 then (some ((S0.1 22), S0)) else (if oob (((35 : Int32) * (S0.1 22)) + x1) 280 then none else if oob ((42 : Int32) + x1) 258 then none else nw (sA S0 6 ((42 : Int32) + x1) (S0.2.2.1 20 (((35 : Int32) * (S0.1 22)) + x1).toNatClampNeg)) fun U4 => k26 ((x1 + 1), U4))
def L_X12_undo_26 (x1 : Int32) (S0 : St) : Option (Int32 × St) := lp (fun kz z => F_X12_undo_26 kz z.1 z.2) FU (x1, S0)
def F_X12_undo (S0 : St) : Option (Int32 × St) := nw (sI S0 0 (0 : Int32)) fun U1 => if (U1.1 22) = 0 then (some ((-1 : Int32), U1)) else (nw (sI U1 22 ((U1.1 22) - (1 : Int32))) fun U4 => L_X12_undo_26 (0 : Int32) U4)
set_option maxRecDepth 100000 in
set_option maxHeartbeats 4000000 in
theorem b_X12_undo_26 {p : Program} {l : Launch} {e : Env} {s : State} {m : MethodId} {args : Array Value} {below : List Frame} {meth : Method} {c : Code} {D : va_G} {q : Nat → ClassId} {A : Nat → Prop} {o0 : Nat} {a0 : Nat → Nat} {r : Int32} {T0 : St} (C : cx p s m args meth c cX12_undo 2 (some .int) RX12 D q A) {k26 : Int32 × St → Option (Int32 × St)} (hk26 : ∀ (x1 : Int32) (S0 : St), k26 (x1, S0) = some (r, T0) → ∀ (H : Heap) (locs : List Loc) (ls : Array Slot), va_P D vwCl (fl [g12 q o0 a0 S0]) H → va_D A (fl [g12 q o0 a0 S0]) → va_S A s.heap H locs → lv_has ls 2 [(0, .ref o0), (1, .int x1)] → W p l e rm_X12_undo s m args below meth c H locs 0 0 (MQ below (QI D A r (fl [g12 q o0 a0 T0])) args s 0 0 A) (F0 m 26 ls [])) {x1 : Int32} {S0 : St} (hF : F_X12_undo_26 k26 x1 S0 = some (r, T0)) {H : Heap} {locs : List Loc} (hP : va_P D vwCl (fl [g12 q o0 a0 S0]) H) (hD : va_D A (fl [g12 q o0 a0 S0])) (hS : va_S A s.heap H locs) {ls : Array Slot} (hl : lv_has ls 2 [(0, .ref o0), (1, .int x1)]) : W p l e rm_X12_undo s m args below meth c H locs 0 0 (MQ below (QI D A r (fl [g12 q o0 a0 T0])) args s 0 0 A) (F0 m 26 ls []) := by
  unfold F_X12_undo_26 at hF
  obtain ⟨hx, hb, hr, hml, hown, hts, hlk, hA, hK, hN, hV⟩ := id C
  refine lv_iload_n hx hb dX12_undo_26 rfl (lv_at hl 1 rfl) ?_
  refine lv_bipush (v := (35 : Int32)) hx hb dX12_undo_27 (by decide) ?_
  refine lv_icmp_ge (tgt := 61) hx hb dX12_undo_29 (by decide) (fun c1 => ?_) (fun c1 => ?_)
  · have hF := op_t hF c1
    refine lv_aload_n hx hb dX12_undo_61 rfl (lv_at hl 0 rfl) ?_
    refine k_get (v := .int (S0.1 22)) C fg_X12_290 hP 0 rfl rfl dX12_undo_62 ?_
    cases hF
    exact k_iret C hP hS dX12_undo_65
  · have hF := op_f hF c1
    refine lv_aload_n hx hb dX12_undo_32 rfl (lv_at hl 0 rfl) ?_
    refine k_get (v := .ref (a0 7)) C fg_X12_33 hP 0 rfl rfl dX12_undo_33 ?_
    refine lv_bipush (v := (42 : Int32)) hx hb dX12_undo_36 (by decide) ?_
    refine lv_iload_n hx hb dX12_undo_38 rfl (lv_at hl 1 rfl) ?_
    refine lv_iadd hx hb dX12_undo_39 ?_
    refine lv_aload_n hx hb dX12_undo_40 rfl (lv_at hl 0 rfl) ?_
    refine k_get (v := .ref (a0 21)) C fg_X12_50 hP 0 rfl rfl dX12_undo_41 ?_
    refine lv_bipush (v := (35 : Int32)) hx hb dX12_undo_44 (by decide) ?_
    refine lv_aload_n hx hb dX12_undo_46 rfl (lv_at hl 0 rfl) ?_
    refine k_get (v := .int (S0.1 22)) C fg_X12_290 hP 0 rfl rfl dX12_undo_47 ?_
    refine lv_imul hx hb dX12_undo_50 ?_
    refine lv_iload_n hx hb dX12_undo_51 rfl (lv_at hl 1 rfl) ?_
    refine lv_iadd hx hb dX12_undo_52 ?_
    obtain ⟨h2, hF⟩ := op_ck hF
    refine k_ild (f := S0.2.2.1 20) C hP 7 rfl h2 dX12_undo_53 ?_
    obtain ⟨h3, hF⟩ := op_ck hF
    obtain ⟨U4, e5, hF⟩ := nw_s hF
    refine k_ist (f := S0.2.2.1 6) (W8 := fl [g12 q o0 a0 U4]) C hP hD hS 2 rfl h3 dX12_undo_54 (by rw [e5]; rfl) (fun H locs hP hD hS => ?_)
    refine lv_iinc (v := (x1 + 1)) (lv' := [(1, .int (x1 + 1)), (0, .ref o0)]) hx hb dX12_undo_55 hl (k := 1) rfl rfl (by decide) rfl (fun ls hl => ?_)
    refine lv_goto (tgt := 26) hx hb dX12_undo_58 (by decide) ?_
    exact hk26 (x1 + 1) U4 hF _ _ _ hP hD hS (lv_sub hl [1, 0] rfl)
set_option maxRecDepth 100000 in
set_option maxHeartbeats 4000000 in
theorem l_X12_undo_26 {p : Program} {l : Launch} {e : Env} {s : State} {m : MethodId} {args : Array Value} {below : List Frame} {meth : Method} {c : Code} {D : va_G} {q : Nat → ClassId} {A : Nat → Prop} {o0 : Nat} {a0 : Nat → Nat} {r : Int32} {T0 : St} (C : cx p s m args meth c cX12_undo 2 (some .int) RX12 D q A) {x1 : Int32} {S0 : St} (hF : L_X12_undo_26 x1 S0 = some (r, T0)) : ∀ (H : Heap) (locs : List Loc) (ls : Array Slot), va_P D vwCl (fl [g12 q o0 a0 S0]) H → va_D A (fl [g12 q o0 a0 S0]) → va_S A s.heap H locs → lv_has ls 2 [(0, .ref o0), (1, .int x1)] → W p l e rm_X12_undo s m args below meth c H locs 0 0 (MQ below (QI D A r (fl [g12 q o0 a0 T0])) args s 0 0 A) (F0 m 26 ls []) :=
  lp_G _ _ (fun z => ∀ (H : Heap) (locs : List Loc) (ls : Array Slot), va_P D vwCl (fl [g12 q o0 a0 z.2]) H → va_D A (fl [g12 q o0 a0 z.2]) → va_S A s.heap H locs → lv_has ls 2 [(0, .ref o0), (1, .int z.1)] → W p l e rm_X12_undo s m args below meth c H locs 0 0 (MQ below (QI D A r (fl [g12 q o0 a0 T0])) args s 0 0 A) (F0 m 26 ls [])) (fun kz hkz z hz H locs ls hP hD hS hl => b_X12_undo_26 C (fun x1 S0 hz => hkz (x1, S0) hz) hz hP hD hS hl) FU (x1, S0) hF
set_option maxRecDepth 100000 in
set_option maxHeartbeats 4000000 in
theorem c_X12_undo (l : Launch) (D : va_G) (q : Nat → ClassId) (o0 : Nat) (a0 : Nat → Nat) (S0 : St) (sz : Nat) {r : Int32} {T0 : St} (hF : F_X12_undo S0 = some (r, T0)) : Met l yX12_undo (Cond.code yX12_undo cX12_undo 2 (some .int) :: TB) rm_X12_undo (PC D q [.ref o0] (fl [g12 q o0 a0 S0]) sz) ((fun A => QI D A r (fl [g12 q o0 a0 T0])) (va_A (fl [g12 q o0 a0 S0]) sz)) 0 0 (va_A (fl [g12 q o0 a0 S0]) sz) := by
  refine k_met (w0 := fl [g12 q o0 a0 S0]) (Q := fun A => QI D A r (fl [g12 q o0 a0 T0])) (by decide +kernel) (Nat.le_of_ble_eq_true rfl) ?_
  intro p e s m args below meth c A ls C hP hD hS hl
  have hl : lv_has ls 2 [(0, .ref o0)] := hl
  unfold F_X12_undo at hF
  have C : cx p s m args meth c cX12_undo 2 (some .int) RX12 D q A := C
  obtain ⟨hx, hb, hr, hml, hown, hts, hlk, hA, hK, hN, hV⟩ := id C
  refine lv_aload_n hx hb dX12_undo_0 rfl (lv_at hl 0 rfl) ?_
  refine lv_iconst (v := (0 : Int32)) hx hb dX12_undo_1 (by decide) ?_
  obtain ⟨U1, e2, hF⟩ := nw_s hF
  refine k_put (W8 := fl [g12 q o0 a0 U1]) C fp_X12_1 hP hD hS 0 rfl rfl rfl (Nat.le_of_ble_eq_true rfl) dX12_undo_2 (by rw [e2]; rfl) (fun H locs hP hD hS => ?_)
  refine lv_aload_n hx hb dX12_undo_5 rfl (lv_at hl 0 rfl) ?_
  refine k_get (v := .int (U1.1 22)) C fg_X12_290 hP 0 rfl rfl dX12_undo_6 ?_
  refine lv_if_ne (tgt := 14) hx hb dX12_undo_9 (by decide) (fun c3 => ?_) (fun c3 => ?_)
  · have hF := op_f hF c3
    refine lv_aload_n hx hb dX12_undo_14 rfl (lv_at hl 0 rfl) ?_
    refine lv_dup hx hb dX12_undo_15 rfl ?_
    refine k_get (v := .int (U1.1 22)) C fg_X12_290 hP 0 rfl rfl dX12_undo_16 ?_
    refine lv_iconst (v := (1 : Int32)) hx hb dX12_undo_19 (by decide) ?_
    refine lv_isub hx hb dX12_undo_20 ?_
    obtain ⟨U4, e5, hF⟩ := nw_s hF
    refine k_put (W8 := fl [g12 q o0 a0 U4]) C fp_X12_290 hP hD hS 0 rfl rfl rfl (Nat.le_of_ble_eq_true rfl) dX12_undo_21 (by rw [e5]; rfl) (fun H locs hP hD hS => ?_)
    refine lv_iconst (v := (0 : Int32)) hx hb dX12_undo_24 (by decide) ?_
    refine lv_istore_n (lv' := [(1, .int (0 : Int32)), (0, .ref o0)]) hx hb dX12_undo_25 rfl hl (by decide) rfl (fun ls hl => ?_)
    exact l_X12_undo_26 C hF _ _ _ hP hD hS (lv_sub hl [1, 0] rfl)
  · have hF := op_t hF c3
    refine lv_iconst (v := (-1 : Int32)) hx hb dX12_undo_12 (by decide) ?_
    cases hF
    exact k_iret C hP hS dX12_undo_13

abbrev rm_X12_tries : Room := ({ frames := 0, cells := 0, slots := 0, locals := 0 } : Room)
def F_X12_tries_2 (k2 : Int32 × St → Option (St)) (x1 : Int32) (S0 : St) : Option (St) := if (35 : Int32) ≤ x1 then (some (S0)) else (if oob ((42 : Int32) + x1) 258 then none else if oob x1 35 then none else nw (sA S0 21 x1 (S0.2.2.1 6 ((42 : Int32) + x1).toNatClampNeg)) fun U4 => k2 ((x1 + 1), U4))
def L_X12_tries_2 (x1 : Int32) (S0 : St) : Option (St) := lp (fun kz z => F_X12_tries_2 kz z.1 z.2) FU (x1, S0)
def F_X12_tries (S0 : St) : Option (St) := L_X12_tries_2 (0 : Int32) S0
set_option maxRecDepth 100000 in
set_option maxHeartbeats 4000000 in
theorem b_X12_tries_2 {p : Program} {l : Launch} {e : Env} {s : State} {m : MethodId} {args : Array Value} {below : List Frame} {meth : Method} {c : Code} {D : va_G} {q : Nat → ClassId} {A : Nat → Prop} {o0 : Nat} {a0 : Nat → Nat} {T0 : St} (C : cx p s m args meth c cX12_tries 2 none RX12 D q A) {k2 : Int32 × St → Option (St)} (hk2 : ∀ (x1 : Int32) (S0 : St), k2 (x1, S0) = some (T0) → ∀ (H : Heap) (locs : List Loc) (ls : Array Slot), va_P D vwCl (fl [g12 q o0 a0 S0]) H → va_D A (fl [g12 q o0 a0 S0]) → va_S A s.heap H locs → lv_has ls 2 [(0, .ref o0), (1, .int x1)] → W p l e rm_X12_tries s m args below meth c H locs 0 0 (MQ below (QV D A (fl [g12 q o0 a0 T0])) args s 0 0 A) (F0 m 2 ls [])) {x1 : Int32} {S0 : St} (hF : F_X12_tries_2 k2 x1 S0 = some (T0)) {H : Heap} {locs : List Loc} (hP : va_P D vwCl (fl [g12 q o0 a0 S0]) H) (hD : va_D A (fl [g12 q o0 a0 S0])) (hS : va_S A s.heap H locs) {ls : Array Slot} (hl : lv_has ls 2 [(0, .ref o0), (1, .int x1)]) : W p l e rm_X12_tries s m args below meth c H locs 0 0 (MQ below (QV D A (fl [g12 q o0 a0 T0])) args s 0 0 A) (F0 m 2 ls []) := by
  unfold F_X12_tries_2 at hF
  obtain ⟨hx, hb, hr, hml, hown, hts, hlk, hA, hK, hN, hV⟩ := id C
  refine lv_iload_n hx hb dX12_tries_2 rfl (lv_at hl 1 rfl) ?_
  refine lv_bipush (v := (35 : Int32)) hx hb dX12_tries_3 (by decide) ?_
  refine lv_icmp_ge (tgt := 29) hx hb dX12_tries_5 (by decide) (fun c1 => ?_) (fun c1 => ?_)
  · have hF := op_t hF c1
    cases hF
    exact k_vret C hP hS dX12_tries_29
  · have hF := op_f hF c1
    refine lv_aload_n hx hb dX12_tries_8 rfl (lv_at hl 0 rfl) ?_
    refine k_get (v := .ref (a0 22)) C fg_X12_53 hP 0 rfl rfl dX12_tries_9 ?_
    refine lv_iload_n hx hb dX12_tries_12 rfl (lv_at hl 1 rfl) ?_
    refine lv_aload_n hx hb dX12_tries_13 rfl (lv_at hl 0 rfl) ?_
    refine k_get (v := .ref (a0 7)) C fg_X12_33 hP 0 rfl rfl dX12_tries_14 ?_
    refine lv_bipush (v := (42 : Int32)) hx hb dX12_tries_17 (by decide) ?_
    refine lv_iload_n hx hb dX12_tries_19 rfl (lv_at hl 1 rfl) ?_
    refine lv_iadd hx hb dX12_tries_20 ?_
    obtain ⟨h2, hF⟩ := op_ck hF
    refine k_ild (f := S0.2.2.1 6) C hP 2 rfl h2 dX12_tries_21 ?_
    obtain ⟨h3, hF⟩ := op_ck hF
    obtain ⟨U4, e5, hF⟩ := nw_s hF
    refine k_ist (f := S0.2.2.1 21) (W8 := fl [g12 q o0 a0 U4]) C hP hD hS 8 rfl h3 dX12_tries_22 (by rw [e5]; rfl) (fun H locs hP hD hS => ?_)
    refine lv_iinc (v := (x1 + 1)) (lv' := [(1, .int (x1 + 1)), (0, .ref o0)]) hx hb dX12_tries_23 hl (k := 1) rfl rfl (by decide) rfl (fun ls hl => ?_)
    refine lv_goto (tgt := 2) hx hb dX12_tries_26 (by decide) ?_
    exact hk2 (x1 + 1) U4 hF _ _ _ hP hD hS (lv_sub hl [1, 0] rfl)
set_option maxRecDepth 100000 in
set_option maxHeartbeats 4000000 in
theorem l_X12_tries_2 {p : Program} {l : Launch} {e : Env} {s : State} {m : MethodId} {args : Array Value} {below : List Frame} {meth : Method} {c : Code} {D : va_G} {q : Nat → ClassId} {A : Nat → Prop} {o0 : Nat} {a0 : Nat → Nat} {T0 : St} (C : cx p s m args meth c cX12_tries 2 none RX12 D q A) {x1 : Int32} {S0 : St} (hF : L_X12_tries_2 x1 S0 = some (T0)) : ∀ (H : Heap) (locs : List Loc) (ls : Array Slot), va_P D vwCl (fl [g12 q o0 a0 S0]) H → va_D A (fl [g12 q o0 a0 S0]) → va_S A s.heap H locs → lv_has ls 2 [(0, .ref o0), (1, .int x1)] → W p l e rm_X12_tries s m args below meth c H locs 0 0 (MQ below (QV D A (fl [g12 q o0 a0 T0])) args s 0 0 A) (F0 m 2 ls []) :=
  lp_G _ _ (fun z => ∀ (H : Heap) (locs : List Loc) (ls : Array Slot), va_P D vwCl (fl [g12 q o0 a0 z.2]) H → va_D A (fl [g12 q o0 a0 z.2]) → va_S A s.heap H locs → lv_has ls 2 [(0, .ref o0), (1, .int z.1)] → W p l e rm_X12_tries s m args below meth c H locs 0 0 (MQ below (QV D A (fl [g12 q o0 a0 T0])) args s 0 0 A) (F0 m 2 ls [])) (fun kz hkz z hz H locs ls hP hD hS hl => b_X12_tries_2 C (fun x1 S0 hz => hkz (x1, S0) hz) hz hP hD hS hl) FU (x1, S0) hF
set_option maxRecDepth 100000 in
set_option maxHeartbeats 4000000 in
theorem c_X12_tries (l : Launch) (D : va_G) (q : Nat → ClassId) (o0 : Nat) (a0 : Nat → Nat) (S0 : St) (sz : Nat) {T0 : St} (hF : F_X12_tries S0 = some (T0)) : Met l yX12_tries (Cond.code yX12_tries cX12_tries 2 none :: TB) rm_X12_tries (PC D q [.ref o0] (fl [g12 q o0 a0 S0]) sz) ((fun A => QV D A (fl [g12 q o0 a0 T0])) (va_A (fl [g12 q o0 a0 S0]) sz)) 0 0 (va_A (fl [g12 q o0 a0 S0]) sz) := by
  refine k_met (w0 := fl [g12 q o0 a0 S0]) (Q := fun A => QV D A (fl [g12 q o0 a0 T0])) (by decide +kernel) (Nat.le_of_ble_eq_true rfl) ?_
  intro p e s m args below meth c A ls C hP hD hS hl
  have hl : lv_has ls 2 [(0, .ref o0)] := hl
  unfold F_X12_tries at hF
  have C : cx p s m args meth c cX12_tries 2 none RX12 D q A := C
  obtain ⟨hx, hb, hr, hml, hown, hts, hlk, hA, hK, hN, hV⟩ := id C
  refine lv_iconst (v := (0 : Int32)) hx hb dX12_tries_0 (by decide) ?_
  refine lv_istore_n (lv' := [(1, .int (0 : Int32)), (0, .ref o0)]) hx hb dX12_tries_1 rfl hl (by decide) rfl (fun ls hl => ?_)
  exact l_X12_tries_2 C hF _ _ _ hP hD hS (lv_sub hl [1, 0] rfl)

abbrev rm_X12_back : Room := ({ frames := 0, cells := 0, slots := 0, locals := 0 } : Room)
def F_X12_back_2 (k2 : Int32 × St → Option (St)) (x1 : Int32) (S0 : St) : Option (St) := if (35 : Int32) ≤ x1 then (some (S0)) else (if oob x1 35 then none else if oob ((42 : Int32) + x1) 258 then none else nw (sA S0 6 ((42 : Int32) + x1) (S0.2.2.1 21 x1.toNatClampNeg)) fun U4 => k2 ((x1 + 1), U4))
def L_X12_back_2 (x1 : Int32) (S0 : St) : Option (St) := lp (fun kz z => F_X12_back_2 kz z.1 z.2) FU (x1, S0)
def F_X12_back (S0 : St) : Option (St) := L_X12_back_2 (0 : Int32) S0
set_option maxRecDepth 100000 in
set_option maxHeartbeats 4000000 in
theorem b_X12_back_2 {p : Program} {l : Launch} {e : Env} {s : State} {m : MethodId} {args : Array Value} {below : List Frame} {meth : Method} {c : Code} {D : va_G} {q : Nat → ClassId} {A : Nat → Prop} {o0 : Nat} {a0 : Nat → Nat} {T0 : St} (C : cx p s m args meth c cX12_back 2 none RX12 D q A) {k2 : Int32 × St → Option (St)} (hk2 : ∀ (x1 : Int32) (S0 : St), k2 (x1, S0) = some (T0) → ∀ (H : Heap) (locs : List Loc) (ls : Array Slot), va_P D vwCl (fl [g12 q o0 a0 S0]) H → va_D A (fl [g12 q o0 a0 S0]) → va_S A s.heap H locs → lv_has ls 2 [(0, .ref o0), (1, .int x1)] → W p l e rm_X12_back s m args below meth c H locs 0 0 (MQ below (QV D A (fl [g12 q o0 a0 T0])) args s 0 0 A) (F0 m 2 ls [])) {x1 : Int32} {S0 : St} (hF : F_X12_back_2 k2 x1 S0 = some (T0)) {H : Heap} {locs : List Loc} (hP : va_P D vwCl (fl [g12 q o0 a0 S0]) H) (hD : va_D A (fl [g12 q o0 a0 S0])) (hS : va_S A s.heap H locs) {ls : Array Slot} (hl : lv_has ls 2 [(0, .ref o0), (1, .int x1)]) : W p l e rm_X12_back s m args below meth c H locs 0 0 (MQ below (QV D A (fl [g12 q o0 a0 T0])) args s 0 0 A) (F0 m 2 ls []) := by
  unfold F_X12_back_2 at hF
  obtain ⟨hx, hb, hr, hml, hown, hts, hlk, hA, hK, hN, hV⟩ := id C
  refine lv_iload_n hx hb dX12_back_2 rfl (lv_at hl 1 rfl) ?_
  refine lv_bipush (v := (35 : Int32)) hx hb dX12_back_3 (by decide) ?_
  refine lv_icmp_ge (tgt := 29) hx hb dX12_back_5 (by decide) (fun c1 => ?_) (fun c1 => ?_)
  · have hF := op_t hF c1
    cases hF
    exact k_vret C hP hS dX12_back_29
  · have hF := op_f hF c1
    refine lv_aload_n hx hb dX12_back_8 rfl (lv_at hl 0 rfl) ?_
    refine k_get (v := .ref (a0 7)) C fg_X12_33 hP 0 rfl rfl dX12_back_9 ?_
    refine lv_bipush (v := (42 : Int32)) hx hb dX12_back_12 (by decide) ?_
    refine lv_iload_n hx hb dX12_back_14 rfl (lv_at hl 1 rfl) ?_
    refine lv_iadd hx hb dX12_back_15 ?_
    refine lv_aload_n hx hb dX12_back_16 rfl (lv_at hl 0 rfl) ?_
    refine k_get (v := .ref (a0 22)) C fg_X12_53 hP 0 rfl rfl dX12_back_17 ?_
    refine lv_iload_n hx hb dX12_back_20 rfl (lv_at hl 1 rfl) ?_
    obtain ⟨h2, hF⟩ := op_ck hF
    refine k_ild (f := S0.2.2.1 21) C hP 8 rfl h2 dX12_back_21 ?_
    obtain ⟨h3, hF⟩ := op_ck hF
    obtain ⟨U4, e5, hF⟩ := nw_s hF
    refine k_ist (f := S0.2.2.1 6) (W8 := fl [g12 q o0 a0 U4]) C hP hD hS 2 rfl h3 dX12_back_22 (by rw [e5]; rfl) (fun H locs hP hD hS => ?_)
    refine lv_iinc (v := (x1 + 1)) (lv' := [(1, .int (x1 + 1)), (0, .ref o0)]) hx hb dX12_back_23 hl (k := 1) rfl rfl (by decide) rfl (fun ls hl => ?_)
    refine lv_goto (tgt := 2) hx hb dX12_back_26 (by decide) ?_
    exact hk2 (x1 + 1) U4 hF _ _ _ hP hD hS (lv_sub hl [1, 0] rfl)
set_option maxRecDepth 100000 in
set_option maxHeartbeats 4000000 in
theorem l_X12_back_2 {p : Program} {l : Launch} {e : Env} {s : State} {m : MethodId} {args : Array Value} {below : List Frame} {meth : Method} {c : Code} {D : va_G} {q : Nat → ClassId} {A : Nat → Prop} {o0 : Nat} {a0 : Nat → Nat} {T0 : St} (C : cx p s m args meth c cX12_back 2 none RX12 D q A) {x1 : Int32} {S0 : St} (hF : L_X12_back_2 x1 S0 = some (T0)) : ∀ (H : Heap) (locs : List Loc) (ls : Array Slot), va_P D vwCl (fl [g12 q o0 a0 S0]) H → va_D A (fl [g12 q o0 a0 S0]) → va_S A s.heap H locs → lv_has ls 2 [(0, .ref o0), (1, .int x1)] → W p l e rm_X12_back s m args below meth c H locs 0 0 (MQ below (QV D A (fl [g12 q o0 a0 T0])) args s 0 0 A) (F0 m 2 ls []) :=
  lp_G _ _ (fun z => ∀ (H : Heap) (locs : List Loc) (ls : Array Slot), va_P D vwCl (fl [g12 q o0 a0 z.2]) H → va_D A (fl [g12 q o0 a0 z.2]) → va_S A s.heap H locs → lv_has ls 2 [(0, .ref o0), (1, .int z.1)] → W p l e rm_X12_back s m args below meth c H locs 0 0 (MQ below (QV D A (fl [g12 q o0 a0 T0])) args s 0 0 A) (F0 m 2 ls [])) (fun kz hkz z hz H locs ls hP hD hS hl => b_X12_back_2 C (fun x1 S0 hz => hkz (x1, S0) hz) hz hP hD hS hl) FU (x1, S0) hF
set_option maxRecDepth 100000 in
set_option maxHeartbeats 4000000 in
theorem c_X12_back (l : Launch) (D : va_G) (q : Nat → ClassId) (o0 : Nat) (a0 : Nat → Nat) (S0 : St) (sz : Nat) {T0 : St} (hF : F_X12_back S0 = some (T0)) : Met l yX12_back (Cond.code yX12_back cX12_back 2 none :: TB) rm_X12_back (PC D q [.ref o0] (fl [g12 q o0 a0 S0]) sz) ((fun A => QV D A (fl [g12 q o0 a0 T0])) (va_A (fl [g12 q o0 a0 S0]) sz)) 0 0 (va_A (fl [g12 q o0 a0 S0]) sz) := by
  refine k_met (w0 := fl [g12 q o0 a0 S0]) (Q := fun A => QV D A (fl [g12 q o0 a0 T0])) (by decide +kernel) (Nat.le_of_ble_eq_true rfl) ?_
  intro p e s m args below meth c A ls C hP hD hS hl
  have hl : lv_has ls 2 [(0, .ref o0)] := hl
  unfold F_X12_back at hF
  have C : cx p s m args meth c cX12_back 2 none RX12 D q A := C
  obtain ⟨hx, hb, hr, hml, hown, hts, hlk, hA, hK, hN, hV⟩ := id C
  refine lv_iconst (v := (0 : Int32)) hx hb dX12_back_0 (by decide) ?_
  refine lv_istore_n (lv' := [(1, .int (0 : Int32)), (0, .ref o0)]) hx hb dX12_back_1 rfl hl (by decide) rfl (fun ls hl => ?_)
  exact l_X12_back_2 C hF _ _ _ hP hD hS (lv_sub hl [1, 0] rfl)

abbrev rm_X12_behind : Room := ({ frames := 2, cells := 0, slots := 0, locals := 47 } : Room)
def F_X12_behind (S0 : St) (x1 : Int32) (x2 : Int32) : Option (Int32 × St) := nw (sI S0 0 (0 : Int32)) fun U1 => ob1 (F_X12_isIn x1 (0 : Int32) (255 : Int32)) fun r4 => if r4 = 0 then (some ((-1 : Int32), U1)) else (ob1 (F_X12_isTurret U1 x2) fun r7 => if r7 = 0 then (some ((-1 : Int32), U1)) else (ob1 (F_X12_behindOf U1 x1 x2) fun r10 => some (r10, U1)))
set_option maxRecDepth 100000 in
set_option maxHeartbeats 4000000 in
theorem c_X12_behind (l : Launch) (D : va_G) (q : Nat → ClassId) (o0 : Nat) (a0 : Nat → Nat) (S0 : St) (sz : Nat) (x1 : Int32) (x2 : Int32) {r : Int32} {T0 : St} (hF : F_X12_behind S0 x1 x2 = some (r, T0)) : Met l yX12_behind (Cond.code yX12_behind cX12_behind 3 (some .int) :: TB) rm_X12_behind (PC D q [.ref o0, .int x1, .int x2] (fl [g12 q o0 a0 S0]) sz) ((fun A => QI D A r (fl [g12 q o0 a0 T0])) (va_A (fl [g12 q o0 a0 S0]) sz)) 0 0 (va_A (fl [g12 q o0 a0 S0]) sz) := by
  refine k_met (w0 := fl [g12 q o0 a0 S0]) (Q := fun A => QI D A r (fl [g12 q o0 a0 T0])) (by decide +kernel) (Nat.le_of_ble_eq_true rfl) ?_
  intro p e s m args below meth c A ls C hP hD hS hl
  have hl : lv_has ls 3 [(0, .ref o0), (1, .int x1), (2, .int x2)] := hl
  unfold F_X12_behind at hF
  have C : cx p s m args meth c cX12_behind 3 (some .int) RX12 D q A := C
  obtain ⟨hx, hb, hr, hml, hown, hts, hlk, hA, hK, hN, hV⟩ := id C
  refine lv_aload_n hx hb dX12_behind_0 rfl (lv_at hl 0 rfl) ?_
  refine lv_iconst (v := (0 : Int32)) hx hb dX12_behind_1 (by decide) ?_
  obtain ⟨U1, e2, hF⟩ := nw_s hF
  refine k_put (W8 := fl [g12 q o0 a0 U1]) C fp_X12_1 hP hD hS 0 rfl rfl rfl (Nat.le_of_ble_eq_true rfl) dX12_behind_2 (by rw [e2]; rfl) (fun H locs hP hD hS => ?_)
  refine lv_iload_n hx hb dX12_behind_5 rfl (lv_at hl 1 rfl) ?_
  refine lv_iconst (v := (0 : Int32)) hx hb dX12_behind_6 (by decide) ?_
  refine lv_sipush (v := (255 : Int32)) hx hb dX12_behind_7 (by decide) ?_
  obtain ⟨r4, hc3, hF⟩ := ob1_s hF
  refine k_inil C (k_rS (As := [.int x1, .int (0 : Int32), .int (255 : Int32)]) (rest := []) C (c_X12_isIn l D q _ x1 (0 : Int32) (255 : Int32) hc3) kc_X12_isIn ml_X12_225 rfl rfl (by decide) (fun k x h => by simp at h) (⟨fun i j x y h => by simp at h, fun k x h => by simp at h⟩ : va_D A []) hS rfl hl.1 rfl (Nat.le_of_ble_eq_true rfl) dX12_behind_10 (by decide)) hP hD hS (fun H locs hP hD hS => ?_)
  refine lv_if_eq (tgt := 33) hx hb dX12_behind_13 (by decide) (fun c5 => ?_) (fun c5 => ?_)
  · have hF := op_t hF c5
    refine lv_iconst (v := (-1 : Int32)) hx hb dX12_behind_33 (by decide) ?_
    cases hF
    exact k_iret C hP hS dX12_behind_34
  · have hF := op_f hF c5
    refine lv_aload_n hx hb dX12_behind_16 rfl (lv_at hl 0 rfl) ?_
    refine lv_iload_n hx hb dX12_behind_17 rfl (lv_at hl 2 rfl) ?_
    obtain ⟨r7, hc6, hF⟩ := ob1_s hF
    refine k_isame C (k_rV (As := [.int x2]) (rest := []) C (c_X12_isTurret l D q o0 a0 U1 _ x2 hc6) kc_X12_isTurret ml_X12_331 rfl rfl (by decide) hP hD hS (va_recv hK hP (ci := 12) (q0 := 0) rfl rfl) rfl hl.1 rfl (Nat.le_of_ble_eq_true rfl) dX12_behind_18 (by decide)) hP hD hS (fun H locs hP hD hS => ?_)
    refine lv_if_eq (tgt := 33) hx hb dX12_behind_21 (by decide) (fun c8 => ?_) (fun c8 => ?_)
    · have hF := op_t hF c8
      refine lv_iconst (v := (-1 : Int32)) hx hb dX12_behind_33 (by decide) ?_
      cases hF
      exact k_iret C hP hS dX12_behind_34
    · have hF := op_f hF c8
      refine lv_aload_n hx hb dX12_behind_24 rfl (lv_at hl 0 rfl) ?_
      refine lv_iload_n hx hb dX12_behind_25 rfl (lv_at hl 1 rfl) ?_
      refine lv_iload_n hx hb dX12_behind_26 rfl (lv_at hl 2 rfl) ?_
      obtain ⟨r10, hc9, hF⟩ := ob1_s hF
      refine k_isame C (k_rV (As := [.int x1, .int x2]) (rest := []) C (c_X12_behindOf l D q o0 a0 U1 _ x1 x2 hc9) kc_X12_behindOf ml_X12_346 rfl rfl (by decide) hP hD hS (va_recv hK hP (ci := 12) (q0 := 0) rfl rfl) rfl hl.1 rfl (Nat.le_of_ble_eq_true rfl) dX12_behind_27 (by decide)) hP hD hS (fun H locs hP hD hS => ?_)
      refine lv_goto (tgt := 34) hx hb dX12_behind_30 (by decide) ?_
      cases hF
      exact k_iret C hP hS dX12_behind_34

abbrev rm_X12_laysFew : Room := ({ frames := 2, cells := 0, slots := 0, locals := 47 } : Room)
def F_X12_laysFew_131 (k39 : Int32 × Int32 × St → Option (St)) (k48 : Int32 × Int32 × Int32 × St → Option (St)) (k59 : Int32 × Int32 × Int32 × Int32 × St → Option (St)) (x2 : Int32) (x3 : Int32) (x4 : Int32) (x5 : Int32) (S0 : St) : Option (St) := k59 (x2, x3, x4, (x5 + 1), S0)
def F_X12_laysFew_59 (k39 : Int32 × Int32 × St → Option (St)) (k48 : Int32 × Int32 × Int32 × St → Option (St)) (k59 : Int32 × Int32 × Int32 × Int32 × St → Option (St)) (x2 : Int32) (x3 : Int32) (x4 : Int32) (x5 : Int32) (S0 : St) : Option (St) := if oob (0 : Int32) 258 then none else if (S0.2.2.1 6 (0 : Int32).toNatClampNeg) ≤ x5 then (k48 (x2, x3, (x4 + 1), S0)) else (ob1 (F_X12_bitOf x2 x5) fun r4 => if r4 = 0 then (F_X12_laysFew_131 k39 k48 k59 x2 x3 x4 x5 S0) else (ob1 (F_X12_behindOf S0 x4 x5) fun r7 => if oob r7 256 then none else if oob x4 256 then none else if ((S0.2.2.1 23 r7.toNatClampNeg) + (1 : Int32)) < (S0.2.2.1 23 x4.toNatClampNeg) then (ob1 (F_X12_behindOf S0 x4 x5) fun r12 => if oob r12 256 then none else if oob x4 256 then none else nw (sA S0 23 x4 ((S0.2.2.1 23 r12.toNatClampNeg) + (1 : Int32))) fun U15 => F_X12_laysFew_131 k39 k48 k59 x2 (1 : Int32) x4 x5 U15) else (F_X12_laysFew_131 k39 k48 k59 x2 x3 x4 x5 S0)))
def L_X12_laysFew_59 (k39 : Int32 × Int32 × St → Option (St)) (k48 : Int32 × Int32 × Int32 × St → Option (St)) (x2 : Int32) (x3 : Int32) (x4 : Int32) (x5 : Int32) (S0 : St) : Option (St) := lp (fun kz z => F_X12_laysFew_59 k39 k48 kz z.1 z.2.1 z.2.2.1 z.2.2.2.1 z.2.2.2.2) FU (x2, x3, x4, x5, S0)
def F_X12_laysFew_48 (k39 : Int32 × Int32 × St → Option (St)) (k48 : Int32 × Int32 × Int32 × St → Option (St)) (x2 : Int32) (x3 : Int32) (x4 : Int32) (S0 : St) : Option (St) := if (256 : Int32) ≤ x4 then (k39 (x2, x3, S0)) else (L_X12_laysFew_59 k39 k48 x2 x3 x4 (0 : Int32) S0)
def L_X12_laysFew_48 (k39 : Int32 × Int32 × St → Option (St)) (x2 : Int32) (x3 : Int32) (x4 : Int32) (S0 : St) : Option (St) := lp (fun kz z => F_X12_laysFew_48 k39 kz z.1 z.2.1 z.2.2.1 z.2.2.2) FU (x2, x3, x4, S0)
def F_X12_laysFew_39 (k39 : Int32 × Int32 × St → Option (St)) (x2 : Int32) (x3 : Int32) (S0 : St) : Option (St) := if x3 = 0 then (some (S0)) else (L_X12_laysFew_48 k39 x2 (0 : Int32) (0 : Int32) S0)
def L_X12_laysFew_39 (x2 : Int32) (x3 : Int32) (S0 : St) : Option (St) := lp (fun kz z => F_X12_laysFew_39 kz z.1 z.2.1 z.2.2) FU (x2, x3, S0)
def F_X12_laysFew_30 (k2 : Int32 × Int32 × Int32 × St → Option (St)) (x1 : Int32) (x2 : Int32) (x3 : Int32) (s1 : Int32) (s2 : Int32) (S0 : St) : Option (St) := if oob s1 256 then none else nw (sA S0 23 s1 s2) fun U2 => k2 (x1, x2, (x3 + 1), U2)
def F_X12_laysFew_2 (k2 : Int32 × Int32 × Int32 × St → Option (St)) (x1 : Int32) (x2 : Int32) (x3 : Int32) (S0 : St) : Option (St) := if (256 : Int32) ≤ x3 then (L_X12_laysFew_39 x2 (1 : Int32) S0) else (ob1 (F_X12_isPleased S0 x1 x3) fun r3 => if r3 = 0 then (F_X12_laysFew_30 k2 x1 x2 x3 x3 (1000000 : Int32) S0) else (F_X12_laysFew_30 k2 x1 x2 x3 x3 (0 : Int32) S0))
def L_X12_laysFew_2 (x1 : Int32) (x2 : Int32) (x3 : Int32) (S0 : St) : Option (St) := lp (fun kz z => F_X12_laysFew_2 kz z.1 z.2.1 z.2.2.1 z.2.2.2) FU (x1, x2, x3, S0)
def F_X12_laysFew (S0 : St) (x1 : Int32) (x2 : Int32) : Option (St) := L_X12_laysFew_2 x1 x2 (0 : Int32) S0
set_option maxRecDepth 100000 in
set_option maxHeartbeats 4000000 in
theorem b_X12_laysFew_131 {p : Program} {l : Launch} {e : Env} {s : State} {m : MethodId} {args : Array Value} {below : List Frame} {meth : Method} {c : Code} {D : va_G} {q : Nat → ClassId} {A : Nat → Prop} {o0 : Nat} {a0 : Nat → Nat} {T0 : St} (C : cx p s m args meth c cX12_laysFew 6 none RX12 D q A) {k39 : Int32 × Int32 × St → Option (St)} (hk39 : ∀ (x2 : Int32) (x3 : Int32) (S0 : St), k39 (x2, x3, S0) = some (T0) → ∀ (H : Heap) (locs : List Loc) (ls : Array Slot), va_P D vwCl (fl [g12 q o0 a0 S0]) H → va_D A (fl [g12 q o0 a0 S0]) → va_S A s.heap H locs → lv_has ls 6 [(0, .ref o0), (2, .int x2), (3, .int x3)] → W p l e rm_X12_laysFew s m args below meth c H locs 0 0 (MQ below (QV D A (fl [g12 q o0 a0 T0])) args s 0 0 A) (F0 m 39 ls [])) {k48 : Int32 × Int32 × Int32 × St → Option (St)} (hk48 : ∀ (x2 : Int32) (x3 : Int32) (x4 : Int32) (S0 : St), k48 (x2, x3, x4, S0) = some (T0) → ∀ (H : Heap) (locs : List Loc) (ls : Array Slot), va_P D vwCl (fl [g12 q o0 a0 S0]) H → va_D A (fl [g12 q o0 a0 S0]) → va_S A s.heap H locs → lv_has ls 6 [(0, .ref o0), (2, .int x2), (3, .int x3), (4, .int x4)] → W p l e rm_X12_laysFew s m args below meth c H locs 0 0 (MQ below (QV D A (fl [g12 q o0 a0 T0])) args s 0 0 A) (F0 m 48 ls [])) {k59 : Int32 × Int32 × Int32 × Int32 × St → Option (St)} (hk59 : ∀ (x2 : Int32) (x3 : Int32) (x4 : Int32) (x5 : Int32) (S0 : St), k59 (x2, x3, x4, x5, S0) = some (T0) → ∀ (H : Heap) (locs : List Loc) (ls : Array Slot), va_P D vwCl (fl [g12 q o0 a0 S0]) H → va_D A (fl [g12 q o0 a0 S0]) → va_S A s.heap H locs → lv_has ls 6 [(0, .ref o0), (2, .int x2), (3, .int x3), (4, .int x4), (5, .int x5)] → W p l e rm_X12_laysFew s m args below meth c H locs 0 0 (MQ below (QV D A (fl [g12 q o0 a0 T0])) args s 0 0 A) (F0 m 59 ls [])) {x2 : Int32} {x3 : Int32} {x4 : Int32} {x5 : Int32} {S0 : St} (hF : F_X12_laysFew_131 k39 k48 k59 x2 x3 x4 x5 S0 = some (T0)) {H : Heap} {locs : List Loc} (hP : va_P D vwCl (fl [g12 q o0 a0 S0]) H) (hD : va_D A (fl [g12 q o0 a0 S0])) (hS : va_S A s.heap H locs) {ls : Array Slot} (hl : lv_has ls 6 [(0, .ref o0), (2, .int x2), (3, .int x3), (4, .int x4), (5, .int x5)]) : W p l e rm_X12_laysFew s m args below meth c H locs 0 0 (MQ below (QV D A (fl [g12 q o0 a0 T0])) args s 0 0 A) (F0 m 131 ls []) := by
  unfold F_X12_laysFew_131 at hF
  obtain ⟨hx, hb, hr, hml, hown, hts, hlk, hA, hK, hN, hV⟩ := id C
  refine lv_iinc (v := (x5 + 1)) (lv' := [(5, .int (x5 + 1)), (0, .ref o0), (2, .int x2), (3, .int x3), (4, .int x4)]) hx hb dX12_laysFew_131 hl (k := 4) rfl rfl (by decide) rfl (fun ls hl => ?_)
  refine lv_goto (tgt := 59) hx hb dX12_laysFew_134 (by decide) ?_
  exact hk59 x2 x3 x4 (x5 + 1) S0 hF _ _ _ hP hD hS (lv_sub hl [1, 2, 3, 4, 0] rfl)
set_option maxRecDepth 100000 in
set_option maxHeartbeats 4000000 in
theorem b_X12_laysFew_59 {p : Program} {l : Launch} {e : Env} {s : State} {m : MethodId} {args : Array Value} {below : List Frame} {meth : Method} {c : Code} {D : va_G} {q : Nat → ClassId} {A : Nat → Prop} {o0 : Nat} {a0 : Nat → Nat} {T0 : St} (C : cx p s m args meth c cX12_laysFew 6 none RX12 D q A) {k39 : Int32 × Int32 × St → Option (St)} (hk39 : ∀ (x2 : Int32) (x3 : Int32) (S0 : St), k39 (x2, x3, S0) = some (T0) → ∀ (H : Heap) (locs : List Loc) (ls : Array Slot), va_P D vwCl (fl [g12 q o0 a0 S0]) H → va_D A (fl [g12 q o0 a0 S0]) → va_S A s.heap H locs → lv_has ls 6 [(0, .ref o0), (2, .int x2), (3, .int x3)] → W p l e rm_X12_laysFew s m args below meth c H locs 0 0 (MQ below (QV D A (fl [g12 q o0 a0 T0])) args s 0 0 A) (F0 m 39 ls [])) {k48 : Int32 × Int32 × Int32 × St → Option (St)} (hk48 : ∀ (x2 : Int32) (x3 : Int32) (x4 : Int32) (S0 : St), k48 (x2, x3, x4, S0) = some (T0) → ∀ (H : Heap) (locs : List Loc) (ls : Array Slot), va_P D vwCl (fl [g12 q o0 a0 S0]) H → va_D A (fl [g12 q o0 a0 S0]) → va_S A s.heap H locs → lv_has ls 6 [(0, .ref o0), (2, .int x2), (3, .int x3), (4, .int x4)] → W p l e rm_X12_laysFew s m args below meth c H locs 0 0 (MQ below (QV D A (fl [g12 q o0 a0 T0])) args s 0 0 A) (F0 m 48 ls [])) {k59 : Int32 × Int32 × Int32 × Int32 × St → Option (St)} (hk59 : ∀ (x2 : Int32) (x3 : Int32) (x4 : Int32) (x5 : Int32) (S0 : St), k59 (x2, x3, x4, x5, S0) = some (T0) → ∀ (H : Heap) (locs : List Loc) (ls : Array Slot), va_P D vwCl (fl [g12 q o0 a0 S0]) H → va_D A (fl [g12 q o0 a0 S0]) → va_S A s.heap H locs → lv_has ls 6 [(0, .ref o0), (2, .int x2), (3, .int x3), (4, .int x4), (5, .int x5)] → W p l e rm_X12_laysFew s m args below meth c H locs 0 0 (MQ below (QV D A (fl [g12 q o0 a0 T0])) args s 0 0 A) (F0 m 59 ls [])) {x2 : Int32} {x3 : Int32} {x4 : Int32} {x5 : Int32} {S0 : St} (hF : F_X12_laysFew_59 k39 k48 k59 x2 x3 x4 x5 S0 = some (T0)) {H : Heap} {locs : List Loc} (hP : va_P D vwCl (fl [g12 q o0 a0 S0]) H) (hD : va_D A (fl [g12 q o0 a0 S0])) (hS : va_S A s.heap H locs) {ls : Array Slot} (hl : lv_has ls 6 [(0, .ref o0), (2, .int x2), (3, .int x3), (4, .int x4), (5, .int x5)]) : W p l e rm_X12_laysFew s m args below meth c H locs 0 0 (MQ below (QV D A (fl [g12 q o0 a0 T0])) args s 0 0 A) (F0 m 59 ls []) := by
  unfold F_X12_laysFew_59 at hF
  obtain ⟨hx, hb, hr, hml, hown, hts, hlk, hA, hK, hN, hV⟩ := id C
  refine lv_iload hx hb dX12_laysFew_59 (lv_at hl 4 rfl) ?_
  refine lv_aload_n hx hb dX12_laysFew_61 rfl (lv_at hl 0 rfl) ?_
  refine k_get (v := .ref (a0 7)) C fg_X12_33 hP 0 rfl rfl dX12_laysFew_62 ?_
  refine lv_iconst (v := (0 : Int32)) hx hb dX12_laysFew_65 (by decide) ?_
  obtain ⟨h1, hF⟩ := op_ck hF
  refine k_ild (f := S0.2.2.1 6) C hP 2 rfl h1 dX12_laysFew_66 ?_
  refine lv_icmp_ge (tgt := 137) hx hb dX12_laysFew_67 (by decide) (fun c2 => ?_) (fun c2 => ?_)
  · have hF := op_t hF c2
    refine lv_iinc (v := (x4 + 1)) (lv' := [(4, .int (x4 + 1)), (0, .ref o0), (2, .int x2), (3, .int x3), (5, .int x5)]) hx hb dX12_laysFew_137 hl (k := 3) rfl rfl (by decide) rfl (fun ls hl => ?_)
    refine lv_goto (tgt := 48) hx hb dX12_laysFew_140 (by decide) ?_
    exact hk48 x2 x3 (x4 + 1) S0 hF _ _ _ hP hD hS (lv_sub hl [1, 2, 3, 0] rfl)
  · have hF := op_f hF c2
    refine lv_iload_n hx hb dX12_laysFew_70 rfl (lv_at hl 1 rfl) ?_
    refine lv_iload hx hb dX12_laysFew_71 (lv_at hl 4 rfl) ?_
    obtain ⟨r4, hc3, hF⟩ := ob1_s hF
    refine k_inil C (k_rS (As := [.int x2, .int x5]) (rest := []) C (c_X12_bitOf l D q _ x2 x5 hc3) kc_X12_bitOf ml_X12_275 rfl rfl (by decide) (fun k x h => by simp at h) (⟨fun i j x y h => by simp at h, fun k x h => by simp at h⟩ : va_D A []) hS rfl hl.1 rfl (Nat.le_of_ble_eq_true rfl) dX12_laysFew_73 (by decide)) hP hD hS (fun H locs hP hD hS => ?_)
    refine lv_if_eq (tgt := 131) hx hb dX12_laysFew_76 (by decide) (fun c5 => ?_) (fun c5 => ?_)
    · have hF := op_t hF c5
      exact b_X12_laysFew_131 C hk39 hk48 hk59 hF hP hD hS (lv_sub hl [0, 1, 2, 3, 4] rfl)
    · have hF := op_f hF c5
      refine lv_aload_n hx hb dX12_laysFew_79 rfl (lv_at hl 0 rfl) ?_
      refine k_get (v := .ref (a0 24)) C fg_X12_56 hP 0 rfl rfl dX12_laysFew_80 ?_
      refine lv_aload_n hx hb dX12_laysFew_83 rfl (lv_at hl 0 rfl) ?_
      refine lv_iload hx hb dX12_laysFew_84 (lv_at hl 3 rfl) ?_
      refine lv_iload hx hb dX12_laysFew_86 (lv_at hl 4 rfl) ?_
      obtain ⟨r7, hc6, hF⟩ := ob1_s hF
      refine k_isame C (k_rV (As := [.int x4, .int x5]) (rest := [.ref (a0 24)]) C (c_X12_behindOf l D q o0 a0 S0 _ x4 x5 hc6) kc_X12_behindOf ml_X12_346 rfl rfl (by decide) hP hD hS (va_recv hK hP (ci := 12) (q0 := 0) rfl rfl) rfl hl.1 rfl (Nat.le_of_ble_eq_true rfl) dX12_laysFew_88 (by decide)) hP hD hS (fun H locs hP hD hS => ?_)
      obtain ⟨h8, hF⟩ := op_ck hF
      refine k_ild (f := S0.2.2.1 23) C hP 9 rfl h8 dX12_laysFew_91 ?_
      refine lv_iconst (v := (1 : Int32)) hx hb dX12_laysFew_92 (by decide) ?_
      refine lv_iadd hx hb dX12_laysFew_93 ?_
      refine lv_aload_n hx hb dX12_laysFew_94 rfl (lv_at hl 0 rfl) ?_
      refine k_get (v := .ref (a0 24)) C fg_X12_56 hP 0 rfl rfl dX12_laysFew_95 ?_
      refine lv_iload hx hb dX12_laysFew_98 (lv_at hl 3 rfl) ?_
      obtain ⟨h9, hF⟩ := op_ck hF
      refine k_ild (f := S0.2.2.1 23) C hP 9 rfl h9 dX12_laysFew_100 ?_
      refine lv_icmp_lt (tgt := 107) hx hb dX12_laysFew_101 (by decide) (fun c10 => ?_) (fun c10 => ?_)
      · have hF := op_t hF c10
        refine lv_aload_n hx hb dX12_laysFew_107 rfl (lv_at hl 0 rfl) ?_
        refine k_get (v := .ref (a0 24)) C fg_X12_56 hP 0 rfl rfl dX12_laysFew_108 ?_
        refine lv_iload hx hb dX12_laysFew_111 (lv_at hl 3 rfl) ?_
        refine lv_aload_n hx hb dX12_laysFew_113 rfl (lv_at hl 0 rfl) ?_
        refine k_get (v := .ref (a0 24)) C fg_X12_56 hP 0 rfl rfl dX12_laysFew_114 ?_
        refine lv_aload_n hx hb dX12_laysFew_117 rfl (lv_at hl 0 rfl) ?_
        refine lv_iload hx hb dX12_laysFew_118 (lv_at hl 3 rfl) ?_
        refine lv_iload hx hb dX12_laysFew_120 (lv_at hl 4 rfl) ?_
        obtain ⟨r12, hc11, hF⟩ := ob1_s hF
        refine k_isame C (k_rV (As := [.int x4, .int x5]) (rest := [.ref (a0 24), .int x4, .ref (a0 24)]) C (c_X12_behindOf l D q o0 a0 S0 _ x4 x5 hc11) kc_X12_behindOf ml_X12_346 rfl rfl (by decide) hP hD hS (va_recv hK hP (ci := 12) (q0 := 0) rfl rfl) rfl hl.1 rfl (Nat.le_of_ble_eq_true rfl) dX12_laysFew_122 (by decide)) hP hD hS (fun H locs hP hD hS => ?_)
        obtain ⟨h13, hF⟩ := op_ck hF
        refine k_ild (f := S0.2.2.1 23) C hP 9 rfl h13 dX12_laysFew_125 ?_
        refine lv_iconst (v := (1 : Int32)) hx hb dX12_laysFew_126 (by decide) ?_
        refine lv_iadd hx hb dX12_laysFew_127 ?_
        obtain ⟨h14, hF⟩ := op_ck hF
        obtain ⟨U15, e16, hF⟩ := nw_s hF
        refine k_ist (f := S0.2.2.1 23) (W8 := fl [g12 q o0 a0 U15]) C hP hD hS 9 rfl h14 dX12_laysFew_128 (by rw [e16]; rfl) (fun H locs hP hD hS => ?_)
        refine lv_iconst (v := (1 : Int32)) hx hb dX12_laysFew_129 (by decide) ?_
        refine lv_istore_n (lv' := [(3, .int (1 : Int32)), (0, .ref o0), (2, .int x2), (4, .int x4), (5, .int x5)]) hx hb dX12_laysFew_130 rfl hl (by decide) rfl (fun ls hl => ?_)
        exact b_X12_laysFew_131 C hk39 hk48 hk59 hF hP hD hS (lv_sub hl [1, 2, 0, 3, 4] rfl)
      · have hF := op_f hF c10
        refine lv_goto (tgt := 131) hx hb dX12_laysFew_104 (by decide) ?_
        exact b_X12_laysFew_131 C hk39 hk48 hk59 hF hP hD hS (lv_sub hl [0, 1, 2, 3, 4] rfl)
set_option maxRecDepth 100000 in
set_option maxHeartbeats 4000000 in
theorem l_X12_laysFew_59 {p : Program} {l : Launch} {e : Env} {s : State} {m : MethodId} {args : Array Value} {below : List Frame} {meth : Method} {c : Code} {D : va_G} {q : Nat → ClassId} {A : Nat → Prop} {o0 : Nat} {a0 : Nat → Nat} {T0 : St} (C : cx p s m args meth c cX12_laysFew 6 none RX12 D q A) {k39 : Int32 × Int32 × St → Option (St)} (hk39 : ∀ (x2 : Int32) (x3 : Int32) (S0 : St), k39 (x2, x3, S0) = some (T0) → ∀ (H : Heap) (locs : List Loc) (ls : Array Slot), va_P D vwCl (fl [g12 q o0 a0 S0]) H → va_D A (fl [g12 q o0 a0 S0]) → va_S A s.heap H locs → lv_has ls 6 [(0, .ref o0), (2, .int x2), (3, .int x3)] → W p l e rm_X12_laysFew s m args below meth c H locs 0 0 (MQ below (QV D A (fl [g12 q o0 a0 T0])) args s 0 0 A) (F0 m 39 ls [])) {k48 : Int32 × Int32 × Int32 × St → Option (St)} (hk48 : ∀ (x2 : Int32) (x3 : Int32) (x4 : Int32) (S0 : St), k48 (x2, x3, x4, S0) = some (T0) → ∀ (H : Heap) (locs : List Loc) (ls : Array Slot), va_P D vwCl (fl [g12 q o0 a0 S0]) H → va_D A (fl [g12 q o0 a0 S0]) → va_S A s.heap H locs → lv_has ls 6 [(0, .ref o0), (2, .int x2), (3, .int x3), (4, .int x4)] → W p l e rm_X12_laysFew s m args below meth c H locs 0 0 (MQ below (QV D A (fl [g12 q o0 a0 T0])) args s 0 0 A) (F0 m 48 ls [])) {x2 : Int32} {x3 : Int32} {x4 : Int32} {x5 : Int32} {S0 : St} (hF : L_X12_laysFew_59 k39 k48 x2 x3 x4 x5 S0 = some (T0)) : ∀ (H : Heap) (locs : List Loc) (ls : Array Slot), va_P D vwCl (fl [g12 q o0 a0 S0]) H → va_D A (fl [g12 q o0 a0 S0]) → va_S A s.heap H locs → lv_has ls 6 [(0, .ref o0), (2, .int x2), (3, .int x3), (4, .int x4), (5, .int x5)] → W p l e rm_X12_laysFew s m args below meth c H locs 0 0 (MQ below (QV D A (fl [g12 q o0 a0 T0])) args s 0 0 A) (F0 m 59 ls []) :=
  lp_G _ _ (fun z => ∀ (H : Heap) (locs : List Loc) (ls : Array Slot), va_P D vwCl (fl [g12 q o0 a0 z.2.2.2.2]) H → va_D A (fl [g12 q o0 a0 z.2.2.2.2]) → va_S A s.heap H locs → lv_has ls 6 [(0, .ref o0), (2, .int z.1), (3, .int z.2.1), (4, .int z.2.2.1), (5, .int z.2.2.2.1)] → W p l e rm_X12_laysFew s m args below meth c H locs 0 0 (MQ below (QV D A (fl [g12 q o0 a0 T0])) args s 0 0 A) (F0 m 59 ls [])) (fun kz hkz z hz H locs ls hP hD hS hl => b_X12_laysFew_59 C hk39 hk48 (fun x2 x3 x4 x5 S0 hz => hkz (x2, x3, x4, x5, S0) hz) hz hP hD hS hl) FU (x2, x3, x4, x5, S0) hF
set_option maxRecDepth 100000 in
set_option maxHeartbeats 4000000 in
theorem b_X12_laysFew_48 {p : Program} {l : Launch} {e : Env} {s : State} {m : MethodId} {args : Array Value} {below : List Frame} {meth : Method} {c : Code} {D : va_G} {q : Nat → ClassId} {A : Nat → Prop} {o0 : Nat} {a0 : Nat → Nat} {T0 : St} (C : cx p s m args meth c cX12_laysFew 6 none RX12 D q A) {k39 : Int32 × Int32 × St → Option (St)} (hk39 : ∀ (x2 : Int32) (x3 : Int32) (S0 : St), k39 (x2, x3, S0) = some (T0) → ∀ (H : Heap) (locs : List Loc) (ls : Array Slot), va_P D vwCl (fl [g12 q o0 a0 S0]) H → va_D A (fl [g12 q o0 a0 S0]) → va_S A s.heap H locs → lv_has ls 6 [(0, .ref o0), (2, .int x2), (3, .int x3)] → W p l e rm_X12_laysFew s m args below meth c H locs 0 0 (MQ below (QV D A (fl [g12 q o0 a0 T0])) args s 0 0 A) (F0 m 39 ls [])) {k48 : Int32 × Int32 × Int32 × St → Option (St)} (hk48 : ∀ (x2 : Int32) (x3 : Int32) (x4 : Int32) (S0 : St), k48 (x2, x3, x4, S0) = some (T0) → ∀ (H : Heap) (locs : List Loc) (ls : Array Slot), va_P D vwCl (fl [g12 q o0 a0 S0]) H → va_D A (fl [g12 q o0 a0 S0]) → va_S A s.heap H locs → lv_has ls 6 [(0, .ref o0), (2, .int x2), (3, .int x3), (4, .int x4)] → W p l e rm_X12_laysFew s m args below meth c H locs 0 0 (MQ below (QV D A (fl [g12 q o0 a0 T0])) args s 0 0 A) (F0 m 48 ls [])) {x2 : Int32} {x3 : Int32} {x4 : Int32} {S0 : St} (hF : F_X12_laysFew_48 k39 k48 x2 x3 x4 S0 = some (T0)) {H : Heap} {locs : List Loc} (hP : va_P D vwCl (fl [g12 q o0 a0 S0]) H) (hD : va_D A (fl [g12 q o0 a0 S0])) (hS : va_S A s.heap H locs) {ls : Array Slot} (hl : lv_has ls 6 [(0, .ref o0), (2, .int x2), (3, .int x3), (4, .int x4)]) : W p l e rm_X12_laysFew s m args below meth c H locs 0 0 (MQ below (QV D A (fl [g12 q o0 a0 T0])) args s 0 0 A) (F0 m 48 ls []) := by
  unfold F_X12_laysFew_48 at hF
  obtain ⟨hx, hb, hr, hml, hown, hts, hlk, hA, hK, hN, hV⟩ := id C
  refine lv_iload hx hb dX12_laysFew_48 (lv_at hl 3 rfl) ?_
  refine lv_sipush (v := (256 : Int32)) hx hb dX12_laysFew_50 (by decide) ?_
  refine lv_icmp_ge (tgt := 143) hx hb dX12_laysFew_53 (by decide) (fun c1 => ?_) (fun c1 => ?_)
  · have hF := op_t hF c1
    refine lv_goto (tgt := 39) hx hb dX12_laysFew_143 (by decide) ?_
    exact hk39 x2 x3 S0 hF _ _ _ hP hD hS (lv_sub hl [0, 1, 2] rfl)
  · have hF := op_f hF c1
    refine lv_iconst (v := (0 : Int32)) hx hb dX12_laysFew_56 (by decide) ?_
    refine lv_istore (lv' := [(5, .int (0 : Int32)), (0, .ref o0), (2, .int x2), (3, .int x3), (4, .int x4)]) hx hb dX12_laysFew_57 hl (by decide) rfl (fun ls hl => ?_)
    exact l_X12_laysFew_59 C hk39 hk48 hF _ _ _ hP hD hS (lv_sub hl [1, 2, 3, 4, 0] rfl)
set_option maxRecDepth 100000 in
set_option maxHeartbeats 4000000 in
theorem l_X12_laysFew_48 {p : Program} {l : Launch} {e : Env} {s : State} {m : MethodId} {args : Array Value} {below : List Frame} {meth : Method} {c : Code} {D : va_G} {q : Nat → ClassId} {A : Nat → Prop} {o0 : Nat} {a0 : Nat → Nat} {T0 : St} (C : cx p s m args meth c cX12_laysFew 6 none RX12 D q A) {k39 : Int32 × Int32 × St → Option (St)} (hk39 : ∀ (x2 : Int32) (x3 : Int32) (S0 : St), k39 (x2, x3, S0) = some (T0) → ∀ (H : Heap) (locs : List Loc) (ls : Array Slot), va_P D vwCl (fl [g12 q o0 a0 S0]) H → va_D A (fl [g12 q o0 a0 S0]) → va_S A s.heap H locs → lv_has ls 6 [(0, .ref o0), (2, .int x2), (3, .int x3)] → W p l e rm_X12_laysFew s m args below meth c H locs 0 0 (MQ below (QV D A (fl [g12 q o0 a0 T0])) args s 0 0 A) (F0 m 39 ls [])) {x2 : Int32} {x3 : Int32} {x4 : Int32} {S0 : St} (hF : L_X12_laysFew_48 k39 x2 x3 x4 S0 = some (T0)) : ∀ (H : Heap) (locs : List Loc) (ls : Array Slot), va_P D vwCl (fl [g12 q o0 a0 S0]) H → va_D A (fl [g12 q o0 a0 S0]) → va_S A s.heap H locs → lv_has ls 6 [(0, .ref o0), (2, .int x2), (3, .int x3), (4, .int x4)] → W p l e rm_X12_laysFew s m args below meth c H locs 0 0 (MQ below (QV D A (fl [g12 q o0 a0 T0])) args s 0 0 A) (F0 m 48 ls []) :=
  lp_G _ _ (fun z => ∀ (H : Heap) (locs : List Loc) (ls : Array Slot), va_P D vwCl (fl [g12 q o0 a0 z.2.2.2]) H → va_D A (fl [g12 q o0 a0 z.2.2.2]) → va_S A s.heap H locs → lv_has ls 6 [(0, .ref o0), (2, .int z.1), (3, .int z.2.1), (4, .int z.2.2.1)] → W p l e rm_X12_laysFew s m args below meth c H locs 0 0 (MQ below (QV D A (fl [g12 q o0 a0 T0])) args s 0 0 A) (F0 m 48 ls [])) (fun kz hkz z hz H locs ls hP hD hS hl => b_X12_laysFew_48 C hk39 (fun x2 x3 x4 S0 hz => hkz (x2, x3, x4, S0) hz) hz hP hD hS hl) FU (x2, x3, x4, S0) hF
set_option maxRecDepth 100000 in
set_option maxHeartbeats 4000000 in
theorem b_X12_laysFew_39 {p : Program} {l : Launch} {e : Env} {s : State} {m : MethodId} {args : Array Value} {below : List Frame} {meth : Method} {c : Code} {D : va_G} {q : Nat → ClassId} {A : Nat → Prop} {o0 : Nat} {a0 : Nat → Nat} {T0 : St} (C : cx p s m args meth c cX12_laysFew 6 none RX12 D q A) {k39 : Int32 × Int32 × St → Option (St)} (hk39 : ∀ (x2 : Int32) (x3 : Int32) (S0 : St), k39 (x2, x3, S0) = some (T0) → ∀ (H : Heap) (locs : List Loc) (ls : Array Slot), va_P D vwCl (fl [g12 q o0 a0 S0]) H → va_D A (fl [g12 q o0 a0 S0]) → va_S A s.heap H locs → lv_has ls 6 [(0, .ref o0), (2, .int x2), (3, .int x3)] → W p l e rm_X12_laysFew s m args below meth c H locs 0 0 (MQ below (QV D A (fl [g12 q o0 a0 T0])) args s 0 0 A) (F0 m 39 ls [])) {x2 : Int32} {x3 : Int32} {S0 : St} (hF : F_X12_laysFew_39 k39 x2 x3 S0 = some (T0)) {H : Heap} {locs : List Loc} (hP : va_P D vwCl (fl [g12 q o0 a0 S0]) H) (hD : va_D A (fl [g12 q o0 a0 S0])) (hS : va_S A s.heap H locs) {ls : Array Slot} (hl : lv_has ls 6 [(0, .ref o0), (2, .int x2), (3, .int x3)]) : W p l e rm_X12_laysFew s m args below meth c H locs 0 0 (MQ below (QV D A (fl [g12 q o0 a0 T0])) args s 0 0 A) (F0 m 39 ls []) := by
  unfold F_X12_laysFew_39 at hF
  obtain ⟨hx, hb, hr, hml, hown, hts, hlk, hA, hK, hN, hV⟩ := id C
  refine lv_iload_n hx hb dX12_laysFew_39 rfl (lv_at hl 2 rfl) ?_
  refine lv_if_eq (tgt := 146) hx hb dX12_laysFew_40 (by decide) (fun c1 => ?_) (fun c1 => ?_)
  · have hF := op_t hF c1
    cases hF
    exact k_vret C hP hS dX12_laysFew_146
  · have hF := op_f hF c1
    refine lv_iconst (v := (0 : Int32)) hx hb dX12_laysFew_43 (by decide) ?_
    refine lv_istore_n (lv' := [(3, .int (0 : Int32)), (0, .ref o0), (2, .int x2)]) hx hb dX12_laysFew_44 rfl hl (by decide) rfl (fun ls hl => ?_)
    refine lv_iconst (v := (0 : Int32)) hx hb dX12_laysFew_45 (by decide) ?_
    refine lv_istore (lv' := [(4, .int (0 : Int32)), (3, .int (0 : Int32)), (0, .ref o0), (2, .int x2)]) hx hb dX12_laysFew_46 hl (by decide) rfl (fun ls hl => ?_)
    exact l_X12_laysFew_48 C hk39 hF _ _ _ hP hD hS (lv_sub hl [2, 3, 1, 0] rfl)
set_option maxRecDepth 100000 in
set_option maxHeartbeats 4000000 in
theorem l_X12_laysFew_39 {p : Program} {l : Launch} {e : Env} {s : State} {m : MethodId} {args : Array Value} {below : List Frame} {meth : Method} {c : Code} {D : va_G} {q : Nat → ClassId} {A : Nat → Prop} {o0 : Nat} {a0 : Nat → Nat} {T0 : St} (C : cx p s m args meth c cX12_laysFew 6 none RX12 D q A) {x2 : Int32} {x3 : Int32} {S0 : St} (hF : L_X12_laysFew_39 x2 x3 S0 = some (T0)) : ∀ (H : Heap) (locs : List Loc) (ls : Array Slot), va_P D vwCl (fl [g12 q o0 a0 S0]) H → va_D A (fl [g12 q o0 a0 S0]) → va_S A s.heap H locs → lv_has ls 6 [(0, .ref o0), (2, .int x2), (3, .int x3)] → W p l e rm_X12_laysFew s m args below meth c H locs 0 0 (MQ below (QV D A (fl [g12 q o0 a0 T0])) args s 0 0 A) (F0 m 39 ls []) :=
  lp_G _ _ (fun z => ∀ (H : Heap) (locs : List Loc) (ls : Array Slot), va_P D vwCl (fl [g12 q o0 a0 z.2.2]) H → va_D A (fl [g12 q o0 a0 z.2.2]) → va_S A s.heap H locs → lv_has ls 6 [(0, .ref o0), (2, .int z.1), (3, .int z.2.1)] → W p l e rm_X12_laysFew s m args below meth c H locs 0 0 (MQ below (QV D A (fl [g12 q o0 a0 T0])) args s 0 0 A) (F0 m 39 ls [])) (fun kz hkz z hz H locs ls hP hD hS hl => b_X12_laysFew_39 C (fun x2 x3 S0 hz => hkz (x2, x3, S0) hz) hz hP hD hS hl) FU (x2, x3, S0) hF
set_option maxRecDepth 100000 in
set_option maxHeartbeats 4000000 in
theorem b_X12_laysFew_30 {p : Program} {l : Launch} {e : Env} {s : State} {m : MethodId} {args : Array Value} {below : List Frame} {meth : Method} {c : Code} {D : va_G} {q : Nat → ClassId} {A : Nat → Prop} {o0 : Nat} {a0 : Nat → Nat} {T0 : St} (C : cx p s m args meth c cX12_laysFew 6 none RX12 D q A) {k2 : Int32 × Int32 × Int32 × St → Option (St)} (hk2 : ∀ (x1 : Int32) (x2 : Int32) (x3 : Int32) (S0 : St), k2 (x1, x2, x3, S0) = some (T0) → ∀ (H : Heap) (locs : List Loc) (ls : Array Slot), va_P D vwCl (fl [g12 q o0 a0 S0]) H → va_D A (fl [g12 q o0 a0 S0]) → va_S A s.heap H locs → lv_has ls 6 [(0, .ref o0), (1, .int x1), (2, .int x2), (3, .int x3)] → W p l e rm_X12_laysFew s m args below meth c H locs 0 0 (MQ below (QV D A (fl [g12 q o0 a0 T0])) args s 0 0 A) (F0 m 2 ls [])) {x1 : Int32} {x2 : Int32} {x3 : Int32} {s1 : Int32} {s2 : Int32} {S0 : St} (hF : F_X12_laysFew_30 k2 x1 x2 x3 s1 s2 S0 = some (T0)) {H : Heap} {locs : List Loc} (hP : va_P D vwCl (fl [g12 q o0 a0 S0]) H) (hD : va_D A (fl [g12 q o0 a0 S0])) (hS : va_S A s.heap H locs) {ls : Array Slot} (hl : lv_has ls 6 [(0, .ref o0), (1, .int x1), (2, .int x2), (3, .int x3)]) : W p l e rm_X12_laysFew s m args below meth c H locs 0 0 (MQ below (QV D A (fl [g12 q o0 a0 T0])) args s 0 0 A) (F0 m 30 ls [.int s2, .int s1, .ref (a0 24)]) := by
  unfold F_X12_laysFew_30 at hF
  obtain ⟨hx, hb, hr, hml, hown, hts, hlk, hA, hK, hN, hV⟩ := id C
  obtain ⟨h1, hF⟩ := op_ck hF
  obtain ⟨U2, e3, hF⟩ := nw_s hF
  refine k_ist (f := S0.2.2.1 23) (W8 := fl [g12 q o0 a0 U2]) C hP hD hS 9 rfl h1 dX12_laysFew_30 (by rw [e3]; rfl) (fun H locs hP hD hS => ?_)
  refine lv_iinc (v := (x3 + 1)) (lv' := [(3, .int (x3 + 1)), (0, .ref o0), (1, .int x1), (2, .int x2)]) hx hb dX12_laysFew_31 hl (k := 3) rfl rfl (by decide) rfl (fun ls hl => ?_)
  refine lv_goto (tgt := 2) hx hb dX12_laysFew_34 (by decide) ?_
  exact hk2 x1 x2 (x3 + 1) U2 hF _ _ _ hP hD hS (lv_sub hl [1, 2, 3, 0] rfl)
set_option maxRecDepth 100000 in
set_option maxHeartbeats 4000000 in
theorem b_X12_laysFew_2 {p : Program} {l : Launch} {e : Env} {s : State} {m : MethodId} {args : Array Value} {below : List Frame} {meth : Method} {c : Code} {D : va_G} {q : Nat → ClassId} {A : Nat → Prop} {o0 : Nat} {a0 : Nat → Nat} {T0 : St} (C : cx p s m args meth c cX12_laysFew 6 none RX12 D q A) {k2 : Int32 × Int32 × Int32 × St → Option (St)} (hk2 : ∀ (x1 : Int32) (x2 : Int32) (x3 : Int32) (S0 : St), k2 (x1, x2, x3, S0) = some (T0) → ∀ (H : Heap) (locs : List Loc) (ls : Array Slot), va_P D vwCl (fl [g12 q o0 a0 S0]) H → va_D A (fl [g12 q o0 a0 S0]) → va_S A s.heap H locs → lv_has ls 6 [(0, .ref o0), (1, .int x1), (2, .int x2), (3, .int x3)] → W p l e rm_X12_laysFew s m args below meth c H locs 0 0 (MQ below (QV D A (fl [g12 q o0 a0 T0])) args s 0 0 A) (F0 m 2 ls [])) {x1 : Int32} {x2 : Int32} {x3 : Int32} {S0 : St} (hF : F_X12_laysFew_2 k2 x1 x2 x3 S0 = some (T0)) {H : Heap} {locs : List Loc} (hP : va_P D vwCl (fl [g12 q o0 a0 S0]) H) (hD : va_D A (fl [g12 q o0 a0 S0])) (hS : va_S A s.heap H locs) {ls : Array Slot} (hl : lv_has ls 6 [(0, .ref o0), (1, .int x1), (2, .int x2), (3, .int x3)]) : W p l e rm_X12_laysFew s m args below meth c H locs 0 0 (MQ below (QV D A (fl [g12 q o0 a0 T0])) args s 0 0 A) (F0 m 2 ls []) := by
  unfold F_X12_laysFew_2 at hF
  obtain ⟨hx, hb, hr, hml, hown, hts, hlk, hA, hK, hN, hV⟩ := id C
  refine lv_iload_n hx hb dX12_laysFew_2 rfl (lv_at hl 3 rfl) ?_
  refine lv_sipush (v := (256 : Int32)) hx hb dX12_laysFew_3 (by decide) ?_
  refine lv_icmp_ge (tgt := 37) hx hb dX12_laysFew_6 (by decide) (fun c1 => ?_) (fun c1 => ?_)
  · have hF := op_t hF c1
    refine lv_iconst (v := (1 : Int32)) hx hb dX12_laysFew_37 (by decide) ?_
    refine lv_istore_n (lv' := [(3, .int (1 : Int32)), (0, .ref o0), (1, .int x1), (2, .int x2)]) hx hb dX12_laysFew_38 rfl hl (by decide) rfl (fun ls hl => ?_)
    exact l_X12_laysFew_39 C hF _ _ _ hP hD hS (lv_sub hl [1, 3, 0] rfl)
  · have hF := op_f hF c1
    refine lv_aload_n hx hb dX12_laysFew_9 rfl (lv_at hl 0 rfl) ?_
    refine k_get (v := .ref (a0 24)) C fg_X12_56 hP 0 rfl rfl dX12_laysFew_10 ?_
    refine lv_iload_n hx hb dX12_laysFew_13 rfl (lv_at hl 3 rfl) ?_
    refine lv_aload_n hx hb dX12_laysFew_14 rfl (lv_at hl 0 rfl) ?_
    refine lv_iload_n hx hb dX12_laysFew_15 rfl (lv_at hl 1 rfl) ?_
    refine lv_iload_n hx hb dX12_laysFew_16 rfl (lv_at hl 3 rfl) ?_
    obtain ⟨r3, hc2, hF⟩ := ob1_s hF
    refine k_isame C (k_rV (As := [.int x1, .int x3]) (rest := [.int x3, .ref (a0 24)]) C (c_X12_isPleased l D q o0 a0 S0 _ x1 x3 hc2) kc_X12_isPleased ml_X12_315 rfl rfl (by decide) hP hD hS (va_recv hK hP (ci := 12) (q0 := 0) rfl rfl) rfl hl.1 rfl (Nat.le_of_ble_eq_true rfl) dX12_laysFew_17 (by decide)) hP hD hS (fun H locs hP hD hS => ?_)
    refine lv_if_eq (tgt := 27) hx hb dX12_laysFew_20 (by decide) (fun c4 => ?_) (fun c4 => ?_)
    · have hF := op_t hF c4
      refine lv_ldcw (v := (1000000 : Int32)) hx hb hown (hts _ kn_X12_381) dX12_laysFew_27 ?_
      exact b_X12_laysFew_30 C hk2 hF hP hD hS (lv_sub hl [0, 1, 2, 3] rfl)
    · have hF := op_f hF c4
      refine lv_iconst (v := (0 : Int32)) hx hb dX12_laysFew_23 (by decide) ?_
      refine lv_goto (tgt := 30) hx hb dX12_laysFew_24 (by decide) ?_
      exact b_X12_laysFew_30 C hk2 hF hP hD hS (lv_sub hl [0, 1, 2, 3] rfl)
set_option maxRecDepth 100000 in
set_option maxHeartbeats 4000000 in
theorem l_X12_laysFew_2 {p : Program} {l : Launch} {e : Env} {s : State} {m : MethodId} {args : Array Value} {below : List Frame} {meth : Method} {c : Code} {D : va_G} {q : Nat → ClassId} {A : Nat → Prop} {o0 : Nat} {a0 : Nat → Nat} {T0 : St} (C : cx p s m args meth c cX12_laysFew 6 none RX12 D q A) {x1 : Int32} {x2 : Int32} {x3 : Int32} {S0 : St} (hF : L_X12_laysFew_2 x1 x2 x3 S0 = some (T0)) : ∀ (H : Heap) (locs : List Loc) (ls : Array Slot), va_P D vwCl (fl [g12 q o0 a0 S0]) H → va_D A (fl [g12 q o0 a0 S0]) → va_S A s.heap H locs → lv_has ls 6 [(0, .ref o0), (1, .int x1), (2, .int x2), (3, .int x3)] → W p l e rm_X12_laysFew s m args below meth c H locs 0 0 (MQ below (QV D A (fl [g12 q o0 a0 T0])) args s 0 0 A) (F0 m 2 ls []) :=
  lp_G _ _ (fun z => ∀ (H : Heap) (locs : List Loc) (ls : Array Slot), va_P D vwCl (fl [g12 q o0 a0 z.2.2.2]) H → va_D A (fl [g12 q o0 a0 z.2.2.2]) → va_S A s.heap H locs → lv_has ls 6 [(0, .ref o0), (1, .int z.1), (2, .int z.2.1), (3, .int z.2.2.1)] → W p l e rm_X12_laysFew s m args below meth c H locs 0 0 (MQ below (QV D A (fl [g12 q o0 a0 T0])) args s 0 0 A) (F0 m 2 ls [])) (fun kz hkz z hz H locs ls hP hD hS hl => b_X12_laysFew_2 C (fun x1 x2 x3 S0 hz => hkz (x1, x2, x3, S0) hz) hz hP hD hS hl) FU (x1, x2, x3, S0) hF
set_option maxRecDepth 100000 in
set_option maxHeartbeats 4000000 in
theorem c_X12_laysFew (l : Launch) (D : va_G) (q : Nat → ClassId) (o0 : Nat) (a0 : Nat → Nat) (S0 : St) (sz : Nat) (x1 : Int32) (x2 : Int32) {T0 : St} (hF : F_X12_laysFew S0 x1 x2 = some (T0)) : Met l yX12_laysFew (Cond.code yX12_laysFew cX12_laysFew 6 none :: TB) rm_X12_laysFew (PC D q [.ref o0, .int x1, .int x2] (fl [g12 q o0 a0 S0]) sz) ((fun A => QV D A (fl [g12 q o0 a0 T0])) (va_A (fl [g12 q o0 a0 S0]) sz)) 0 0 (va_A (fl [g12 q o0 a0 S0]) sz) := by
  refine k_met (w0 := fl [g12 q o0 a0 S0]) (Q := fun A => QV D A (fl [g12 q o0 a0 T0])) (by decide +kernel) (Nat.le_of_ble_eq_true rfl) ?_
  intro p e s m args below meth c A ls C hP hD hS hl
  have hl : lv_has ls 6 [(0, .ref o0), (1, .int x1), (2, .int x2)] := hl
  unfold F_X12_laysFew at hF
  have C : cx p s m args meth c cX12_laysFew 6 none RX12 D q A := C
  obtain ⟨hx, hb, hr, hml, hown, hts, hlk, hA, hK, hN, hV⟩ := id C
  refine lv_iconst (v := (0 : Int32)) hx hb dX12_laysFew_0 (by decide) ?_
  refine lv_istore_n (lv' := [(3, .int (0 : Int32)), (0, .ref o0), (1, .int x1), (2, .int x2)]) hx hb dX12_laysFew_1 rfl hl (by decide) rfl (fun ls hl => ?_)
  exact l_X12_laysFew_2 C hF _ _ _ hP hD hS (lv_sub hl [1, 2, 3, 0] rfl)

abbrev rm_X12_soonest : Room := ({ frames := 4, cells := 0, slots := 0, locals := 87 } : Room)
def F_X12_soonest_99 (k58 : Int32 × Int32 × Int32 × Int32 × St → Option (Int32 × St)) (k68 : Int32 × Int32 × Int32 × Int32 × Int32 × St → Option (Int32 × St)) (x2 : Int32) (x3 : Int32) (x4 : Int32) (x5 : Int32) (x6 : Int32) (S0 : St) : Option (Int32 × St) := k68 (x2, x3, x4, x5, (x6 + 1), S0)
def F_X12_soonest_68 (k58 : Int32 × Int32 × Int32 × Int32 × St → Option (Int32 × St)) (k68 : Int32 × Int32 × Int32 × Int32 × Int32 × St → Option (Int32 × St)) (x2 : Int32) (x3 : Int32) (x4 : Int32) (x5 : Int32) (x6 : Int32) (S0 : St) : Option (Int32 × St) := ob1 (F_X12_bitOf x2 x6) fun r2 => if r2 = 0 then (F_X12_soonest_99 k58 k68 x2 x3 x4 x5 x6 S0) else (ob1 (F_X12_behindOf S0 x3 x6) fun r5 => if oob r5 256 then none else if (S0.2.2.1 23 r5.toNatClampNeg) = ((x4 - (1 : Int32)) - x5) then (if oob x5 256 then none else nw (sA S0 24 x5 x6) fun U9 => ob1 (F_X12_behindOf U9 x3 x6) fun r12 => k58 (x2, r12, x4, (x5 + 1), U9)) else (F_X12_soonest_99 k58 k68 x2 x3 x4 x5 x6 S0))
def L_X12_soonest_68 (k58 : Int32 × Int32 × Int32 × Int32 × St → Option (Int32 × St)) (x2 : Int32) (x3 : Int32) (x4 : Int32) (x5 : Int32) (x6 : Int32) (S0 : St) : Option (Int32 × St) := lp (fun kz z => F_X12_soonest_68 k58 kz z.1 z.2.1 z.2.2.1 z.2.2.2.1 z.2.2.2.2.1 z.2.2.2.2.2) FU (x2, x3, x4, x5, x6, S0)
def F_X12_soonest_58 (k58 : Int32 × Int32 × Int32 × Int32 × St → Option (Int32 × St)) (x2 : Int32) (x3 : Int32) (x4 : Int32) (x5 : Int32) (S0 : St) : Option (Int32 × St) := if x4 ≤ x5 then (nw (sI S0 25 x4) fun U2 => some (x4, U2)) else (L_X12_soonest_68 k58 x2 x3 x4 x5 (0 : Int32) S0)
def L_X12_soonest_58 (x2 : Int32) (x3 : Int32) (x4 : Int32) (x5 : Int32) (S0 : St) : Option (Int32 × St) := lp (fun kz z => F_X12_soonest_58 kz z.1 z.2.1 z.2.2.1 z.2.2.2.1 z.2.2.2.2) FU (x2, x3, x4, x5, S0)
def F_X12_soonest (S0 : St) (x1 : Int32) : Option (Int32 × St) := nw (sI S0 0 (0 : Int32)) fun U1 => ob1 (F_X12_isPerson U1 x1) fun r4 => if r4 = 0 then (some ((-1 : Int32), U1)) else (ob1 (F_X12_canOf U1 x1) fun r7 => ob1 (F_X12_laysFew U1 x1 r7) fun U9 => if oob ((59 : Int32) + x1) 258 then none else nw (U9.2.2.1 6 ((59 : Int32) + x1).toNatClampNeg) fun v11 => if oob v11 256 then none else if (U9.2.2.1 23 v11.toNatClampNeg) < (1000000 : Int32) then (L_X12_soonest_58 r7 v11 (U9.2.2.1 23 v11.toNatClampNeg) (0 : Int32) U9) else (some ((-1 : Int32), U9)))
set_option maxRecDepth 100000 in
set_option maxHeartbeats 4000000 in
theorem b_X12_soonest_99 {p : Program} {l : Launch} {e : Env} {s : State} {m : MethodId} {args : Array Value} {below : List Frame} {meth : Method} {c : Code} {D : va_G} {q : Nat → ClassId} {A : Nat → Prop} {o0 : Nat} {a0 : Nat → Nat} {r : Int32} {T0 : St} (C : cx p s m args meth c cX12_soonest 7 (some .int) RX12 D q A) {k58 : Int32 × Int32 × Int32 × Int32 × St → Option (Int32 × St)} (hk58 : ∀ (x2 : Int32) (x3 : Int32) (x4 : Int32) (x5 : Int32) (S0 : St), k58 (x2, x3, x4, x5, S0) = some (r, T0) → ∀ (H : Heap) (locs : List Loc) (ls : Array Slot), va_P D vwCl (fl [g12 q o0 a0 S0]) H → va_D A (fl [g12 q o0 a0 S0]) → va_S A s.heap H locs → lv_has ls 7 [(0, .ref o0), (2, .int x2), (3, .int x3), (4, .int x4), (5, .int x5)] → W p l e rm_X12_soonest s m args below meth c H locs 0 0 (MQ below (QI D A r (fl [g12 q o0 a0 T0])) args s 0 0 A) (F0 m 58 ls [])) {k68 : Int32 × Int32 × Int32 × Int32 × Int32 × St → Option (Int32 × St)} (hk68 : ∀ (x2 : Int32) (x3 : Int32) (x4 : Int32) (x5 : Int32) (x6 : Int32) (S0 : St), k68 (x2, x3, x4, x5, x6, S0) = some (r, T0) → ∀ (H : Heap) (locs : List Loc) (ls : Array Slot), va_P D vwCl (fl [g12 q o0 a0 S0]) H → va_D A (fl [g12 q o0 a0 S0]) → va_S A s.heap H locs → lv_has ls 7 [(0, .ref o0), (2, .int x2), (3, .int x3), (4, .int x4), (5, .int x5), (6, .int x6)] → W p l e rm_X12_soonest s m args below meth c H locs 0 0 (MQ below (QI D A r (fl [g12 q o0 a0 T0])) args s 0 0 A) (F0 m 68 ls [])) {x2 : Int32} {x3 : Int32} {x4 : Int32} {x5 : Int32} {x6 : Int32} {S0 : St} (hF : F_X12_soonest_99 k58 k68 x2 x3 x4 x5 x6 S0 = some (r, T0)) {H : Heap} {locs : List Loc} (hP : va_P D vwCl (fl [g12 q o0 a0 S0]) H) (hD : va_D A (fl [g12 q o0 a0 S0])) (hS : va_S A s.heap H locs) {ls : Array Slot} (hl : lv_has ls 7 [(0, .ref o0), (2, .int x2), (3, .int x3), (4, .int x4), (5, .int x5), (6, .int x6)]) : W p l e rm_X12_soonest s m args below meth c H locs 0 0 (MQ below (QI D A r (fl [g12 q o0 a0 T0])) args s 0 0 A) (F0 m 99 ls []) := by
  unfold F_X12_soonest_99 at hF
  obtain ⟨hx, hb, hr, hml, hown, hts, hlk, hA, hK, hN, hV⟩ := id C
  refine lv_iinc (v := (x6 + 1)) (lv' := [(6, .int (x6 + 1)), (0, .ref o0), (2, .int x2), (3, .int x3), (4, .int x4), (5, .int x5)]) hx hb dX12_soonest_99 hl (k := 5) rfl rfl (by decide) rfl (fun ls hl => ?_)
  refine lv_goto (tgt := 68) hx hb dX12_soonest_102 (by decide) ?_
  exact hk68 x2 x3 x4 x5 (x6 + 1) S0 hF _ _ _ hP hD hS (lv_sub hl [1, 2, 3, 4, 5, 0] rfl)
set_option maxRecDepth 100000 in
set_option maxHeartbeats 4000000 in
theorem b_X12_soonest_68 {p : Program} {l : Launch} {e : Env} {s : State} {m : MethodId} {args : Array Value} {below : List Frame} {meth : Method} {c : Code} {D : va_G} {q : Nat → ClassId} {A : Nat → Prop} {o0 : Nat} {a0 : Nat → Nat} {r : Int32} {T0 : St} (C : cx p s m args meth c cX12_soonest 7 (some .int) RX12 D q A) {k58 : Int32 × Int32 × Int32 × Int32 × St → Option (Int32 × St)} (hk58 : ∀ (x2 : Int32) (x3 : Int32) (x4 : Int32) (x5 : Int32) (S0 : St), k58 (x2, x3, x4, x5, S0) = some (r, T0) → ∀ (H : Heap) (locs : List Loc) (ls : Array Slot), va_P D vwCl (fl [g12 q o0 a0 S0]) H → va_D A (fl [g12 q o0 a0 S0]) → va_S A s.heap H locs → lv_has ls 7 [(0, .ref o0), (2, .int x2), (3, .int x3), (4, .int x4), (5, .int x5)] → W p l e rm_X12_soonest s m args below meth c H locs 0 0 (MQ below (QI D A r (fl [g12 q o0 a0 T0])) args s 0 0 A) (F0 m 58 ls [])) {k68 : Int32 × Int32 × Int32 × Int32 × Int32 × St → Option (Int32 × St)} (hk68 : ∀ (x2 : Int32) (x3 : Int32) (x4 : Int32) (x5 : Int32) (x6 : Int32) (S0 : St), k68 (x2, x3, x4, x5, x6, S0) = some (r, T0) → ∀ (H : Heap) (locs : List Loc) (ls : Array Slot), va_P D vwCl (fl [g12 q o0 a0 S0]) H → va_D A (fl [g12 q o0 a0 S0]) → va_S A s.heap H locs → lv_has ls 7 [(0, .ref o0), (2, .int x2), (3, .int x3), (4, .int x4), (5, .int x5), (6, .int x6)] → W p l e rm_X12_soonest s m args below meth c H locs 0 0 (MQ below (QI D A r (fl [g12 q o0 a0 T0])) args s 0 0 A) (F0 m 68 ls [])) {x2 : Int32} {x3 : Int32} {x4 : Int32} {x5 : Int32} {x6 : Int32} {S0 : St} (hF : F_X12_soonest_68 k58 k68 x2 x3 x4 x5 x6 S0 = some (r, T0)) {H : Heap} {locs : List Loc} (hP : va_P D vwCl (fl [g12 q o0 a0 S0]) H) (hD : va_D A (fl [g12 q o0 a0 S0])) (hS : va_S A s.heap H locs) {ls : Array Slot} (hl : lv_has ls 7 [(0, .ref o0), (2, .int x2), (3, .int x3), (4, .int x4), (5, .int x5), (6, .int x6)]) : W p l e rm_X12_soonest s m args below meth c H locs 0 0 (MQ below (QI D A r (fl [g12 q o0 a0 T0])) args s 0 0 A) (F0 m 68 ls []) := by
  unfold F_X12_soonest_68 at hF
  obtain ⟨hx, hb, hr, hml, hown, hts, hlk, hA, hK, hN, hV⟩ := id C
  refine lv_iload_n hx hb dX12_soonest_68 rfl (lv_at hl 1 rfl) ?_
  refine lv_iload hx hb dX12_soonest_69 (lv_at hl 5 rfl) ?_
  obtain ⟨r2, hc1, hF⟩ := ob1_s hF
  refine k_inil C (k_rS (As := [.int x2, .int x6]) (rest := []) C (c_X12_bitOf l D q _ x2 x6 hc1) kc_X12_bitOf ml_X12_275 rfl rfl (by decide) (fun k x h => by simp at h) (⟨fun i j x y h => by simp at h, fun k x h => by simp at h⟩ : va_D A []) hS rfl hl.1 rfl (Nat.le_of_ble_eq_true rfl) dX12_soonest_71 (by decide)) hP hD hS (fun H locs hP hD hS => ?_)
  refine lv_if_eq (tgt := 99) hx hb dX12_soonest_74 (by decide) (fun c3 => ?_) (fun c3 => ?_)
  · have hF := op_t hF c3
    exact b_X12_soonest_99 C hk58 hk68 hF hP hD hS (lv_sub hl [0, 1, 2, 3, 4, 5] rfl)
  · have hF := op_f hF c3
    refine lv_aload_n hx hb dX12_soonest_77 rfl (lv_at hl 0 rfl) ?_
    refine k_get (v := .ref (a0 24)) C fg_X12_56 hP 0 rfl rfl dX12_soonest_78 ?_
    refine lv_aload_n hx hb dX12_soonest_81 rfl (lv_at hl 0 rfl) ?_
    refine lv_iload_n hx hb dX12_soonest_82 rfl (lv_at hl 2 rfl) ?_
    refine lv_iload hx hb dX12_soonest_83 (lv_at hl 5 rfl) ?_
    obtain ⟨r5, hc4, hF⟩ := ob1_s hF
    refine k_isame C (k_rV (As := [.int x3, .int x6]) (rest := [.ref (a0 24)]) C (c_X12_behindOf l D q o0 a0 S0 _ x3 x6 hc4) kc_X12_behindOf ml_X12_346 rfl rfl (by decide) hP hD hS (va_recv hK hP (ci := 12) (q0 := 0) rfl rfl) rfl hl.1 rfl (Nat.le_of_ble_eq_true rfl) dX12_soonest_85 (by decide)) hP hD hS (fun H locs hP hD hS => ?_)
    obtain ⟨h6, hF⟩ := op_ck hF
    refine k_ild (f := S0.2.2.1 23) C hP 9 rfl h6 dX12_soonest_88 ?_
    refine lv_iload hx hb dX12_soonest_89 (lv_at hl 3 rfl) ?_
    refine lv_iconst (v := (1 : Int32)) hx hb dX12_soonest_91 (by decide) ?_
    refine lv_isub hx hb dX12_soonest_92 ?_
    refine lv_iload hx hb dX12_soonest_93 (lv_at hl 4 rfl) ?_
    refine lv_isub hx hb dX12_soonest_95 ?_
    refine lv_icmp_eq (tgt := 105) hx hb dX12_soonest_96 (by decide) (fun c7 => ?_) (fun c7 => ?_)
    · have hF := op_t hF c7
      refine lv_aload_n hx hb dX12_soonest_105 rfl (lv_at hl 0 rfl) ?_
      refine k_get (v := .ref (a0 25)) C fg_X12_59 hP 0 rfl rfl dX12_soonest_106 ?_
      refine lv_iload hx hb dX12_soonest_109 (lv_at hl 4 rfl) ?_
      refine lv_iload hx hb dX12_soonest_111 (lv_at hl 5 rfl) ?_
      obtain ⟨h8, hF⟩ := op_ck hF
      obtain ⟨U9, e10, hF⟩ := nw_s hF
      refine k_ist (f := S0.2.2.1 24) (W8 := fl [g12 q o0 a0 U9]) C hP hD hS 10 rfl h8 dX12_soonest_113 (by rw [e10]; rfl) (fun H locs hP hD hS => ?_)
      refine lv_aload_n hx hb dX12_soonest_114 rfl (lv_at hl 0 rfl) ?_
      refine lv_iload_n hx hb dX12_soonest_115 rfl (lv_at hl 2 rfl) ?_
      refine lv_iload hx hb dX12_soonest_116 (lv_at hl 5 rfl) ?_
      obtain ⟨r12, hc11, hF⟩ := ob1_s hF
      refine k_isame C (k_rV (As := [.int x3, .int x6]) (rest := []) C (c_X12_behindOf l D q o0 a0 U9 _ x3 x6 hc11) kc_X12_behindOf ml_X12_346 rfl rfl (by decide) hP hD hS (va_recv hK hP (ci := 12) (q0 := 0) rfl rfl) rfl hl.1 rfl (Nat.le_of_ble_eq_true rfl) dX12_soonest_118 (by decide)) hP hD hS (fun H locs hP hD hS => ?_)
      refine lv_istore_n (lv' := [(3, .int r12), (0, .ref o0), (2, .int x2), (4, .int x4), (5, .int x5), (6, .int x6)]) hx hb dX12_soonest_121 rfl hl (by decide) rfl (fun ls hl => ?_)
      refine lv_iinc (v := (x5 + 1)) (lv' := [(5, .int (x5 + 1)), (3, .int r12), (0, .ref o0), (2, .int x2), (4, .int x4), (6, .int x6)]) hx hb dX12_soonest_122 hl (k := 4) rfl rfl (by decide) rfl (fun ls hl => ?_)
      refine lv_goto (tgt := 58) hx hb dX12_soonest_125 (by decide) ?_
      exact hk58 x2 r12 x4 (x5 + 1) U9 hF _ _ _ hP hD hS (lv_sub hl [2, 3, 1, 4, 0] rfl)
    · have hF := op_f hF c7
      exact b_X12_soonest_99 C hk58 hk68 hF hP hD hS (lv_sub hl [0, 1, 2, 3, 4, 5] rfl)
set_option maxRecDepth 100000 in
set_option maxHeartbeats 4000000 in
theorem l_X12_soonest_68 {p : Program} {l : Launch} {e : Env} {s : State} {m : MethodId} {args : Array Value} {below : List Frame} {meth : Method} {c : Code} {D : va_G} {q : Nat → ClassId} {A : Nat → Prop} {o0 : Nat} {a0 : Nat → Nat} {r : Int32} {T0 : St} (C : cx p s m args meth c cX12_soonest 7 (some .int) RX12 D q A) {k58 : Int32 × Int32 × Int32 × Int32 × St → Option (Int32 × St)} (hk58 : ∀ (x2 : Int32) (x3 : Int32) (x4 : Int32) (x5 : Int32) (S0 : St), k58 (x2, x3, x4, x5, S0) = some (r, T0) → ∀ (H : Heap) (locs : List Loc) (ls : Array Slot), va_P D vwCl (fl [g12 q o0 a0 S0]) H → va_D A (fl [g12 q o0 a0 S0]) → va_S A s.heap H locs → lv_has ls 7 [(0, .ref o0), (2, .int x2), (3, .int x3), (4, .int x4), (5, .int x5)] → W p l e rm_X12_soonest s m args below meth c H locs 0 0 (MQ below (QI D A r (fl [g12 q o0 a0 T0])) args s 0 0 A) (F0 m 58 ls [])) {x2 : Int32} {x3 : Int32} {x4 : Int32} {x5 : Int32} {x6 : Int32} {S0 : St} (hF : L_X12_soonest_68 k58 x2 x3 x4 x5 x6 S0 = some (r, T0)) : ∀ (H : Heap) (locs : List Loc) (ls : Array Slot), va_P D vwCl (fl [g12 q o0 a0 S0]) H → va_D A (fl [g12 q o0 a0 S0]) → va_S A s.heap H locs → lv_has ls 7 [(0, .ref o0), (2, .int x2), (3, .int x3), (4, .int x4), (5, .int x5), (6, .int x6)] → W p l e rm_X12_soonest s m args below meth c H locs 0 0 (MQ below (QI D A r (fl [g12 q o0 a0 T0])) args s 0 0 A) (F0 m 68 ls []) :=
  lp_G _ _ (fun z => ∀ (H : Heap) (locs : List Loc) (ls : Array Slot), va_P D vwCl (fl [g12 q o0 a0 z.2.2.2.2.2]) H → va_D A (fl [g12 q o0 a0 z.2.2.2.2.2]) → va_S A s.heap H locs → lv_has ls 7 [(0, .ref o0), (2, .int z.1), (3, .int z.2.1), (4, .int z.2.2.1), (5, .int z.2.2.2.1), (6, .int z.2.2.2.2.1)] → W p l e rm_X12_soonest s m args below meth c H locs 0 0 (MQ below (QI D A r (fl [g12 q o0 a0 T0])) args s 0 0 A) (F0 m 68 ls [])) (fun kz hkz z hz H locs ls hP hD hS hl => b_X12_soonest_68 C hk58 (fun x2 x3 x4 x5 x6 S0 hz => hkz (x2, x3, x4, x5, x6, S0) hz) hz hP hD hS hl) FU (x2, x3, x4, x5, x6, S0) hF
set_option maxRecDepth 100000 in
set_option maxHeartbeats 4000000 in
theorem b_X12_soonest_58 {p : Program} {l : Launch} {e : Env} {s : State} {m : MethodId} {args : Array Value} {below : List Frame} {meth : Method} {c : Code} {D : va_G} {q : Nat → ClassId} {A : Nat → Prop} {o0 : Nat} {a0 : Nat → Nat} {r : Int32} {T0 : St} (C : cx p s m args meth c cX12_soonest 7 (some .int) RX12 D q A) {k58 : Int32 × Int32 × Int32 × Int32 × St → Option (Int32 × St)} (hk58 : ∀ (x2 : Int32) (x3 : Int32) (x4 : Int32) (x5 : Int32) (S0 : St), k58 (x2, x3, x4, x5, S0) = some (r, T0) → ∀ (H : Heap) (locs : List Loc) (ls : Array Slot), va_P D vwCl (fl [g12 q o0 a0 S0]) H → va_D A (fl [g12 q o0 a0 S0]) → va_S A s.heap H locs → lv_has ls 7 [(0, .ref o0), (2, .int x2), (3, .int x3), (4, .int x4), (5, .int x5)] → W p l e rm_X12_soonest s m args below meth c H locs 0 0 (MQ below (QI D A r (fl [g12 q o0 a0 T0])) args s 0 0 A) (F0 m 58 ls [])) {x2 : Int32} {x3 : Int32} {x4 : Int32} {x5 : Int32} {S0 : St} (hF : F_X12_soonest_58 k58 x2 x3 x4 x5 S0 = some (r, T0)) {H : Heap} {locs : List Loc} (hP : va_P D vwCl (fl [g12 q o0 a0 S0]) H) (hD : va_D A (fl [g12 q o0 a0 S0])) (hS : va_S A s.heap H locs) {ls : Array Slot} (hl : lv_has ls 7 [(0, .ref o0), (2, .int x2), (3, .int x3), (4, .int x4), (5, .int x5)]) : W p l e rm_X12_soonest s m args below meth c H locs 0 0 (MQ below (QI D A r (fl [g12 q o0 a0 T0])) args s 0 0 A) (F0 m 58 ls []) := by
  unfold F_X12_soonest_58 at hF
  obtain ⟨hx, hb, hr, hml, hown, hts, hlk, hA, hK, hN, hV⟩ := id C
  refine lv_iload hx hb dX12_soonest_58 (lv_at hl 4 rfl) ?_
  refine lv_iload hx hb dX12_soonest_60 (lv_at hl 3 rfl) ?_
  refine lv_icmp_ge (tgt := 128) hx hb dX12_soonest_62 (by decide) (fun c1 => ?_) (fun c1 => ?_)
  · have hF := op_t hF c1
    refine lv_aload_n hx hb dX12_soonest_128 rfl (lv_at hl 0 rfl) ?_
    refine lv_iload hx hb dX12_soonest_129 (lv_at hl 3 rfl) ?_
    obtain ⟨U2, e3, hF⟩ := nw_s hF
    refine k_put (W8 := fl [g12 q o0 a0 U2]) C fp_X12_62 hP hD hS 0 rfl rfl rfl (Nat.le_of_ble_eq_true rfl) dX12_soonest_131 (by rw [e3]; rfl) (fun H locs hP hD hS => ?_)
    refine lv_iload hx hb dX12_soonest_134 (lv_at hl 3 rfl) ?_
    cases hF
    exact k_iret C hP hS dX12_soonest_136
  · have hF := op_f hF c1
    refine lv_iconst (v := (0 : Int32)) hx hb dX12_soonest_65 (by decide) ?_
    refine lv_istore (lv' := [(6, .int (0 : Int32)), (0, .ref o0), (2, .int x2), (3, .int x3), (4, .int x4), (5, .int x5)]) hx hb dX12_soonest_66 hl (by decide) rfl (fun ls hl => ?_)
    exact l_X12_soonest_68 C hk58 hF _ _ _ hP hD hS (lv_sub hl [1, 2, 3, 4, 5, 0] rfl)
set_option maxRecDepth 100000 in
set_option maxHeartbeats 4000000 in
theorem l_X12_soonest_58 {p : Program} {l : Launch} {e : Env} {s : State} {m : MethodId} {args : Array Value} {below : List Frame} {meth : Method} {c : Code} {D : va_G} {q : Nat → ClassId} {A : Nat → Prop} {o0 : Nat} {a0 : Nat → Nat} {r : Int32} {T0 : St} (C : cx p s m args meth c cX12_soonest 7 (some .int) RX12 D q A) {x2 : Int32} {x3 : Int32} {x4 : Int32} {x5 : Int32} {S0 : St} (hF : L_X12_soonest_58 x2 x3 x4 x5 S0 = some (r, T0)) : ∀ (H : Heap) (locs : List Loc) (ls : Array Slot), va_P D vwCl (fl [g12 q o0 a0 S0]) H → va_D A (fl [g12 q o0 a0 S0]) → va_S A s.heap H locs → lv_has ls 7 [(0, .ref o0), (2, .int x2), (3, .int x3), (4, .int x4), (5, .int x5)] → W p l e rm_X12_soonest s m args below meth c H locs 0 0 (MQ below (QI D A r (fl [g12 q o0 a0 T0])) args s 0 0 A) (F0 m 58 ls []) :=
  lp_G _ _ (fun z => ∀ (H : Heap) (locs : List Loc) (ls : Array Slot), va_P D vwCl (fl [g12 q o0 a0 z.2.2.2.2]) H → va_D A (fl [g12 q o0 a0 z.2.2.2.2]) → va_S A s.heap H locs → lv_has ls 7 [(0, .ref o0), (2, .int z.1), (3, .int z.2.1), (4, .int z.2.2.1), (5, .int z.2.2.2.1)] → W p l e rm_X12_soonest s m args below meth c H locs 0 0 (MQ below (QI D A r (fl [g12 q o0 a0 T0])) args s 0 0 A) (F0 m 58 ls [])) (fun kz hkz z hz H locs ls hP hD hS hl => b_X12_soonest_58 C (fun x2 x3 x4 x5 S0 hz => hkz (x2, x3, x4, x5, S0) hz) hz hP hD hS hl) FU (x2, x3, x4, x5, S0) hF
set_option maxRecDepth 100000 in
set_option maxHeartbeats 4000000 in
theorem c_X12_soonest (l : Launch) (D : va_G) (q : Nat → ClassId) (o0 : Nat) (a0 : Nat → Nat) (S0 : St) (sz : Nat) (x1 : Int32) {r : Int32} {T0 : St} (hF : F_X12_soonest S0 x1 = some (r, T0)) : Met l yX12_soonest (Cond.code yX12_soonest cX12_soonest 7 (some .int) :: TB) rm_X12_soonest (PC D q [.ref o0, .int x1] (fl [g12 q o0 a0 S0]) sz) ((fun A => QI D A r (fl [g12 q o0 a0 T0])) (va_A (fl [g12 q o0 a0 S0]) sz)) 0 0 (va_A (fl [g12 q o0 a0 S0]) sz) := by
  refine k_met (w0 := fl [g12 q o0 a0 S0]) (Q := fun A => QI D A r (fl [g12 q o0 a0 T0])) (by decide +kernel) (Nat.le_of_ble_eq_true rfl) ?_
  intro p e s m args below meth c A ls C hP hD hS hl
  have hl : lv_has ls 7 [(0, .ref o0), (1, .int x1)] := hl
  unfold F_X12_soonest at hF
  have C : cx p s m args meth c cX12_soonest 7 (some .int) RX12 D q A := C
  obtain ⟨hx, hb, hr, hml, hown, hts, hlk, hA, hK, hN, hV⟩ := id C
  refine lv_aload_n hx hb dX12_soonest_0 rfl (lv_at hl 0 rfl) ?_
  refine lv_iconst (v := (0 : Int32)) hx hb dX12_soonest_1 (by decide) ?_
  obtain ⟨U1, e2, hF⟩ := nw_s hF
  refine k_put (W8 := fl [g12 q o0 a0 U1]) C fp_X12_1 hP hD hS 0 rfl rfl rfl (Nat.le_of_ble_eq_true rfl) dX12_soonest_2 (by rw [e2]; rfl) (fun H locs hP hD hS => ?_)
  refine lv_aload_n hx hb dX12_soonest_5 rfl (lv_at hl 0 rfl) ?_
  refine lv_iload_n hx hb dX12_soonest_6 rfl (lv_at hl 1 rfl) ?_
  obtain ⟨r4, hc3, hF⟩ := ob1_s hF
  refine k_isame C (k_rV (As := [.int x1]) (rest := []) C (c_X12_isPerson l D q o0 a0 U1 _ x1 hc3) kc_X12_isPerson ml_X12_318 rfl rfl (by decide) hP hD hS (va_recv hK hP (ci := 12) (q0 := 0) rfl rfl) rfl hl.1 rfl (Nat.le_of_ble_eq_true rfl) dX12_soonest_7 (by decide)) hP hD hS (fun H locs hP hD hS => ?_)
  refine lv_if_ne (tgt := 15) hx hb dX12_soonest_10 (by decide) (fun c5 => ?_) (fun c5 => ?_)
  · have hF := op_f hF c5
    refine lv_aload_n hx hb dX12_soonest_15 rfl (lv_at hl 0 rfl) ?_
    refine lv_iload_n hx hb dX12_soonest_16 rfl (lv_at hl 1 rfl) ?_
    obtain ⟨r7, hc6, hF⟩ := ob1_s hF
    refine k_isame C (k_rV (As := [.int x1]) (rest := []) C (c_X12_canOf l D q o0 a0 U1 _ x1 hc6) kc_X12_canOf ml_X12_325 rfl rfl (by decide) hP hD hS (va_recv hK hP (ci := 12) (q0 := 0) rfl rfl) rfl hl.1 rfl (Nat.le_of_ble_eq_true rfl) dX12_soonest_17 (by decide)) hP hD hS (fun H locs hP hD hS => ?_)
    refine lv_istore_n (lv' := [(2, .int r7), (0, .ref o0), (1, .int x1)]) hx hb dX12_soonest_20 rfl hl (by decide) rfl (fun ls hl => ?_)
    refine lv_aload_n hx hb dX12_soonest_21 rfl (lv_at hl 1 rfl) ?_
    refine lv_iload_n hx hb dX12_soonest_22 rfl (lv_at hl 2 rfl) ?_
    refine lv_iload_n hx hb dX12_soonest_23 rfl (lv_at hl 0 rfl) ?_
    obtain ⟨U9, hc8, hF⟩ := ob1_s hF
    refine k_vall C (k_rV (As := [.int x1, .int r7]) (rest := []) C (c_X12_laysFew l D q o0 a0 U1 _ x1 r7 hc8) kc_X12_laysFew ml_X12_382 rfl rfl (by decide) hP hD hS (va_recv hK hP (ci := 12) (q0 := 0) rfl rfl) rfl hl.1 rfl (Nat.le_of_ble_eq_true rfl) dX12_soonest_24 (by decide)) hP hD hS (by simp only [List.map_cons, List.map_nil, gad12]) (fun H locs hP hD hS => ?_)
    refine lv_aload_n hx hb dX12_soonest_27 rfl (lv_at hl 1 rfl) ?_
    refine k_get (v := .ref (a0 7)) C fg_X12_33 hP 0 rfl rfl dX12_soonest_28 ?_
    refine lv_bipush (v := (59 : Int32)) hx hb dX12_soonest_31 (by decide) ?_
    refine lv_iload_n hx hb dX12_soonest_33 rfl (lv_at hl 2 rfl) ?_
    refine lv_iadd hx hb dX12_soonest_34 ?_
    obtain ⟨h10, hF⟩ := op_ck hF
    refine k_ild (f := U9.2.2.1 6) C hP 2 rfl h10 dX12_soonest_35 ?_
    obtain ⟨v11, e12, hF⟩ := nw_s hF
    refine k_rni e12 ?_
    refine lv_istore_n (lv' := [(3, .int v11), (2, .int r7), (0, .ref o0), (1, .int x1)]) hx hb dX12_soonest_36 rfl hl (by decide) rfl (fun ls hl => ?_)
    refine lv_aload_n hx hb dX12_soonest_37 rfl (lv_at hl 2 rfl) ?_
    refine k_get (v := .ref (a0 24)) C fg_X12_56 hP 0 rfl rfl dX12_soonest_38 ?_
    refine lv_iload_n hx hb dX12_soonest_41 rfl (lv_at hl 0 rfl) ?_
    obtain ⟨h13, hF⟩ := op_ck hF
    refine k_ild (f := U9.2.2.1 23) C hP 9 rfl h13 dX12_soonest_42 ?_
    refine lv_istore (lv' := [(4, .int (U9.2.2.1 23 v11.toNatClampNeg)), (3, .int v11), (2, .int r7), (0, .ref o0), (1, .int x1)]) hx hb dX12_soonest_43 hl (by decide) rfl (fun ls hl => ?_)
    refine lv_iload hx hb dX12_soonest_45 (lv_at hl 0 rfl) ?_
    refine lv_ldcw (v := (1000000 : Int32)) hx hb hown (hts _ kn_X12_381) dX12_soonest_47 ?_
    refine lv_icmp_lt (tgt := 55) hx hb dX12_soonest_50 (by decide) (fun c14 => ?_) (fun c14 => ?_)
    · have hF := op_t hF c14
      refine lv_iconst (v := (0 : Int32)) hx hb dX12_soonest_55 (by decide) ?_
      refine lv_istore (lv' := [(5, .int (0 : Int32)), (4, .int (U9.2.2.1 23 v11.toNatClampNeg)), (3, .int v11), (2, .int r7), (0, .ref o0), (1, .int x1)]) hx hb dX12_soonest_56 hl (by decide) rfl (fun ls hl => ?_)
      exact l_X12_soonest_58 C hF _ _ _ hP hD hS (lv_sub hl [4, 3, 2, 1, 0] rfl)
    · have hF := op_f hF c14
      refine lv_iconst (v := (-1 : Int32)) hx hb dX12_soonest_53 (by decide) ?_
      cases hF
      exact k_iret C hP hS dX12_soonest_54
  · have hF := op_t hF c5
    refine lv_iconst (v := (-1 : Int32)) hx hb dX12_soonest_13 (by decide) ?_
    cases hF
    exact k_iret C hP hS dX12_soonest_14

abbrev rm_X12_soonestAt : Room := ({ frames := 1, cells := 0, slots := 0, locals := 22 } : Room)
def F_X12_soonestAt (S0 : St) (x1 : Int32) : Option (Int32 × St) := nw (sI S0 0 (0 : Int32)) fun U1 => ob1 (F_X12_isIn x1 (0 : Int32) ((U1.1 25) - (1 : Int32))) fun r4 => if r4 = 0 then (some ((-1 : Int32), U1)) else (if oob x1 256 then none else some ((U1.2.2.1 24 x1.toNatClampNeg), U1))
set_option maxRecDepth 100000 in
set_option maxHeartbeats 4000000 in
theorem c_X12_soonestAt (l : Launch) (D : va_G) (q : Nat → ClassId) (o0 : Nat) (a0 : Nat → Nat) (S0 : St) (sz : Nat) (x1 : Int32) {r : Int32} {T0 : St} (hF : F_X12_soonestAt S0 x1 = some (r, T0)) : Met l yX12_soonestAt (Cond.code yX12_soonestAt cX12_soonestAt 2 (some .int) :: TB) rm_X12_soonestAt (PC D q [.ref o0, .int x1] (fl [g12 q o0 a0 S0]) sz) ((fun A => QI D A r (fl [g12 q o0 a0 T0])) (va_A (fl [g12 q o0 a0 S0]) sz)) 0 0 (va_A (fl [g12 q o0 a0 S0]) sz) := by
  refine k_met (w0 := fl [g12 q o0 a0 S0]) (Q := fun A => QI D A r (fl [g12 q o0 a0 T0])) (by decide +kernel) (Nat.le_of_ble_eq_true rfl) ?_
  intro p e s m args below meth c A ls C hP hD hS hl
  have hl : lv_has ls 2 [(0, .ref o0), (1, .int x1)] := hl
  unfold F_X12_soonestAt at hF
  have C : cx p s m args meth c cX12_soonestAt 2 (some .int) RX12 D q A := C
  obtain ⟨hx, hb, hr, hml, hown, hts, hlk, hA, hK, hN, hV⟩ := id C
  refine lv_aload_n hx hb dX12_soonestAt_0 rfl (lv_at hl 0 rfl) ?_
  refine lv_iconst (v := (0 : Int32)) hx hb dX12_soonestAt_1 (by decide) ?_
  obtain ⟨U1, e2, hF⟩ := nw_s hF
  refine k_put (W8 := fl [g12 q o0 a0 U1]) C fp_X12_1 hP hD hS 0 rfl rfl rfl (Nat.le_of_ble_eq_true rfl) dX12_soonestAt_2 (by rw [e2]; rfl) (fun H locs hP hD hS => ?_)
  refine lv_iload_n hx hb dX12_soonestAt_5 rfl (lv_at hl 1 rfl) ?_
  refine lv_iconst (v := (0 : Int32)) hx hb dX12_soonestAt_6 (by decide) ?_
  refine lv_aload_n hx hb dX12_soonestAt_7 rfl (lv_at hl 0 rfl) ?_
  refine k_get (v := .int (U1.1 25)) C fg_X12_62 hP 0 rfl rfl dX12_soonestAt_8 ?_
  refine lv_iconst (v := (1 : Int32)) hx hb dX12_soonestAt_11 (by decide) ?_
  refine lv_isub hx hb dX12_soonestAt_12 ?_
  obtain ⟨r4, hc3, hF⟩ := ob1_s hF
  refine k_inil C (k_rS (As := [.int x1, .int (0 : Int32), .int ((U1.1 25) - (1 : Int32))]) (rest := []) C (c_X12_isIn l D q _ x1 (0 : Int32) ((U1.1 25) - (1 : Int32)) hc3) kc_X12_isIn ml_X12_225 rfl rfl (by decide) (fun k x h => by simp at h) (⟨fun i j x y h => by simp at h, fun k x h => by simp at h⟩ : va_D A []) hS rfl hl.1 rfl (Nat.le_of_ble_eq_true rfl) dX12_soonestAt_13 (by decide)) hP hD hS (fun H locs hP hD hS => ?_)
  refine lv_if_eq (tgt := 28) hx hb dX12_soonestAt_16 (by decide) (fun c5 => ?_) (fun c5 => ?_)
  · have hF := op_t hF c5
    refine lv_iconst (v := (-1 : Int32)) hx hb dX12_soonestAt_28 (by decide) ?_
    cases hF
    exact k_iret C hP hS dX12_soonestAt_29
  · have hF := op_f hF c5
    refine lv_aload_n hx hb dX12_soonestAt_19 rfl (lv_at hl 0 rfl) ?_
    refine k_get (v := .ref (a0 25)) C fg_X12_59 hP 0 rfl rfl dX12_soonestAt_20 ?_
    refine lv_iload_n hx hb dX12_soonestAt_23 rfl (lv_at hl 1 rfl) ?_
    obtain ⟨h6, hF⟩ := op_ck hF
    refine k_ild (f := U1.2.2.1 24) C hP 10 rfl h6 dX12_soonestAt_24 ?_
    refine lv_goto (tgt := 29) hx hb dX12_soonestAt_25 (by decide) ?_
    cases hF
    exact k_iret C hP hS dX12_soonestAt_29
