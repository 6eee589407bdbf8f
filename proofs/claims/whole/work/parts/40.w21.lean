abbrev rm_X8_copyFrom : Room := ({ frames := 1, cells := 0, slots := 0, locals := 80 } : Room)
def F_X8_copyFrom (S0 : St) (S1 : St) : Option (St) := nw (sI S0 0 (S1.1 0)) fun U1 => nw (sG U1 1 (S1.2.2.2 1)) fun U3 => nw (sF U3 2 (S1.2.2.1 2)) fun U5 => nw (sF U5 3 (S1.2.2.1 3)) fun U7 => nw (sF U7 4 (S1.2.2.1 4)) fun U9 => nw (sI U9 5 (S1.1 5)) fun U11 => nw (sI U11 6 (S1.1 6)) fun U13 => nw (sI U13 7 (S1.1 7)) fun U15 => nw (sG U15 8 (S1.2.2.2 8)) fun U17 => nw (sF U17 9 (S1.2.2.1 9)) fun U19 => nw (sF U19 10 (S1.2.2.1 10)) fun U21 => nw (sF U21 11 (S1.2.2.1 11)) fun U23 => nw (sF U23 12 (S1.2.2.1 12)) fun U25 => nw (sF U25 13 (S1.2.2.1 13)) fun U27 => nw (sI U27 14 (S1.1 14)) fun U29 => some (U29)
set_option maxRecDepth 100000 in
set_option maxHeartbeats 4000000 in
theorem c_X8_copyFrom (l : Launch) (D : va_G) (q : Nat → ClassId) (o0 : Nat) (a0 : Nat → Nat) (S0 : St) (o1 : Nat) (a1 : Nat → Nat) (S1 : St) (sz : Nat) {T0 : St} (hF : F_X8_copyFrom S0 S1 = some (T0)) : Met l yX8_copyFrom (Cond.code yX8_copyFrom cX8_copyFrom 2 none :: TB) rm_X8_copyFrom (PC D q [.ref o0, .ref o1] (g8 q o0 a0 S0 ++ g8 q o1 a1 S1) sz) ((fun A => QV D A (g8 q o0 a0 T0 ++ g8 q o1 a1 S1)) (va_A (g8 q o0 a0 S0 ++ g8 q o1 a1 S1) sz)) 0 0 (va_A (g8 q o0 a0 S0 ++ g8 q o1 a1 S1) sz) := by
  refine k_met (w0 := g8 q o0 a0 S0 ++ g8 q o1 a1 S1) (Q := fun A => QV D A (g8 q o0 a0 T0 ++ g8 q o1 a1 S1)) (by decide +kernel) (Nat.le_of_ble_eq_true rfl) ?_
  intro p e s m args below meth c A ls C hP hD hS hl
  have hl : lv_has ls 2 [(0, .ref o0), (1, .ref o1)] := hl
  unfold F_X8_copyFrom at hF
  have C : cx p s m args meth c cX8_copyFrom 2 none RX8 D q A := C
  obtain ⟨hx, hb, hr, hml, hown, hts, hlk, hA, hK, hN, hV⟩ := id C
  refine lv_aload_n hx hb dX8_copyFrom_0 rfl (lv_at hl 0 rfl) ?_
  refine lv_aload_n hx hb dX8_copyFrom_1 rfl (lv_at hl 1 rfl) ?_
  refine k_get (v := .int (S1.1 0)) C fg_X8_43 hP 11 rfl rfl dX8_copyFrom_2 ?_
  obtain ⟨U1, e2, hF⟩ := nw_s hF
  refine k_put (W8 := g8 q o0 a0 U1 ++ g8 q o1 a1 S1) C fp_X8_43 hP hD hS 0 rfl rfl rfl (Nat.le_of_ble_eq_true rfl) dX8_copyFrom_5 (by rw [e2]; rfl) (fun H locs hP hD hS => ?_)
  refine lv_aload_n hx hb dX8_copyFrom_8 rfl (lv_at hl 1 rfl) ?_
  refine k_get (v := .ref (a1 2)) C fg_X8_9 hP 11 rfl rfl dX8_copyFrom_9 ?_
  refine lv_iconst (v := (0 : Int32)) hx hb dX8_copyFrom_12 (by decide) ?_
  refine lv_aload_n hx hb dX8_copyFrom_13 rfl (lv_at hl 0 rfl) ?_
  refine k_get (v := .ref (a0 2)) C fg_X8_9 hP 0 rfl rfl dX8_copyFrom_14 ?_
  refine lv_iconst (v := (0 : Int32)) hx hb dX8_copyFrom_17 (by decide) ?_
  refine lv_bipush (v := (7 : Int32)) hx hb dX8_copyFrom_18 (by decide) ?_
  obtain ⟨U3, e4, hF⟩ := nw_s hF
  refine k_cpl (f := S1.2.2.2 1) (g := U1.2.2.2 1) (W8 := g8 q o0 a0 U3 ++ g8 q o1 a1 S1) C ml_X8_47 hl.1 hP hD hS 12 1 rfl rfl ⟨by decide, by decide⟩ (Nat.le_of_ble_eq_true rfl) ⟨by decide, by decide⟩ dX8_copyFrom_20 (by rw [e4]; rfl) (fun H locs hP hD hS => ?_)
  refine lv_aload_n hx hb dX8_copyFrom_23 rfl (lv_at hl 1 rfl) ?_
  refine k_get (v := .ref (a1 3)) C fg_X8_15 hP 11 rfl rfl dX8_copyFrom_24 ?_
  refine lv_iconst (v := (0 : Int32)) hx hb dX8_copyFrom_27 (by decide) ?_
  refine lv_aload_n hx hb dX8_copyFrom_28 rfl (lv_at hl 0 rfl) ?_
  refine k_get (v := .ref (a0 3)) C fg_X8_15 hP 0 rfl rfl dX8_copyFrom_29 ?_
  refine lv_iconst (v := (0 : Int32)) hx hb dX8_copyFrom_32 (by decide) ?_
  refine lv_bipush (v := (7 : Int32)) hx hb dX8_copyFrom_33 (by decide) ?_
  obtain ⟨U5, e6, hF⟩ := nw_s hF
  refine k_cpi (f := S1.2.2.1 2) (g := U3.2.2.1 2) (W8 := g8 q o0 a0 U5 ++ g8 q o1 a1 S1) C ml_X8_47 hl.1 hP hD hS 13 2 rfl rfl ⟨by decide, by decide⟩ (Nat.le_of_ble_eq_true rfl) ⟨by decide, by decide⟩ dX8_copyFrom_35 (by rw [e6]; rfl) (fun H locs hP hD hS => ?_)
  refine lv_aload_n hx hb dX8_copyFrom_38 rfl (lv_at hl 1 rfl) ?_
  refine k_get (v := .ref (a1 4)) C fg_X8_19 hP 11 rfl rfl dX8_copyFrom_39 ?_
  refine lv_iconst (v := (0 : Int32)) hx hb dX8_copyFrom_42 (by decide) ?_
  refine lv_aload_n hx hb dX8_copyFrom_43 rfl (lv_at hl 0 rfl) ?_
  refine k_get (v := .ref (a0 4)) C fg_X8_19 hP 0 rfl rfl dX8_copyFrom_44 ?_
  refine lv_iconst (v := (0 : Int32)) hx hb dX8_copyFrom_47 (by decide) ?_
  refine lv_bipush (v := (7 : Int32)) hx hb dX8_copyFrom_48 (by decide) ?_
  obtain ⟨U7, e8, hF⟩ := nw_s hF
  refine k_cpi (f := S1.2.2.1 3) (g := U5.2.2.1 3) (W8 := g8 q o0 a0 U7 ++ g8 q o1 a1 S1) C ml_X8_47 hl.1 hP hD hS 14 3 rfl rfl ⟨by decide, by decide⟩ (Nat.le_of_ble_eq_true rfl) ⟨by decide, by decide⟩ dX8_copyFrom_50 (by rw [e8]; rfl) (fun H locs hP hD hS => ?_)
  refine lv_aload_n hx hb dX8_copyFrom_53 rfl (lv_at hl 1 rfl) ?_
  refine k_get (v := .ref (a1 5)) C fg_X8_22 hP 11 rfl rfl dX8_copyFrom_54 ?_
  refine lv_iconst (v := (0 : Int32)) hx hb dX8_copyFrom_57 (by decide) ?_
  refine lv_aload_n hx hb dX8_copyFrom_58 rfl (lv_at hl 0 rfl) ?_
  refine k_get (v := .ref (a0 5)) C fg_X8_22 hP 0 rfl rfl dX8_copyFrom_59 ?_
  refine lv_iconst (v := (0 : Int32)) hx hb dX8_copyFrom_62 (by decide) ?_
  refine lv_bipush (v := (7 : Int32)) hx hb dX8_copyFrom_63 (by decide) ?_
  obtain ⟨U9, e10, hF⟩ := nw_s hF
  refine k_cpi (f := S1.2.2.1 4) (g := U7.2.2.1 4) (W8 := g8 q o0 a0 U9 ++ g8 q o1 a1 S1) C ml_X8_47 hl.1 hP hD hS 15 4 rfl rfl ⟨by decide, by decide⟩ (Nat.le_of_ble_eq_true rfl) ⟨by decide, by decide⟩ dX8_copyFrom_65 (by rw [e10]; rfl) (fun H locs hP hD hS => ?_)
  refine lv_aload_n hx hb dX8_copyFrom_68 rfl (lv_at hl 0 rfl) ?_
  refine lv_aload_n hx hb dX8_copyFrom_69 rfl (lv_at hl 1 rfl) ?_
  refine k_get (v := .int (S1.1 5)) C fg_X8_53 hP 11 rfl rfl dX8_copyFrom_70 ?_
  obtain ⟨U11, e12, hF⟩ := nw_s hF
  refine k_put (W8 := g8 q o0 a0 U11 ++ g8 q o1 a1 S1) C fp_X8_53 hP hD hS 0 rfl rfl rfl (Nat.le_of_ble_eq_true rfl) dX8_copyFrom_73 (by rw [e12]; rfl) (fun H locs hP hD hS => ?_)
  refine lv_aload_n hx hb dX8_copyFrom_76 rfl (lv_at hl 0 rfl) ?_
  refine lv_aload_n hx hb dX8_copyFrom_77 rfl (lv_at hl 1 rfl) ?_
  refine k_get (v := .int (S1.1 6)) C fg_X8_56 hP 11 rfl rfl dX8_copyFrom_78 ?_
  obtain ⟨U13, e14, hF⟩ := nw_s hF
  refine k_put (W8 := g8 q o0 a0 U13 ++ g8 q o1 a1 S1) C fp_X8_56 hP hD hS 0 rfl rfl rfl (Nat.le_of_ble_eq_true rfl) dX8_copyFrom_81 (by rw [e14]; rfl) (fun H locs hP hD hS => ?_)
  refine lv_aload_n hx hb dX8_copyFrom_84 rfl (lv_at hl 0 rfl) ?_
  refine lv_aload_n hx hb dX8_copyFrom_85 rfl (lv_at hl 1 rfl) ?_
  refine k_get (v := .int (S1.1 7)) C fg_X8_59 hP 11 rfl rfl dX8_copyFrom_86 ?_
  obtain ⟨U15, e16, hF⟩ := nw_s hF
  refine k_put (W8 := g8 q o0 a0 U15 ++ g8 q o1 a1 S1) C fp_X8_59 hP hD hS 0 rfl rfl rfl (Nat.le_of_ble_eq_true rfl) dX8_copyFrom_89 (by rw [e16]; rfl) (fun H locs hP hD hS => ?_)
  refine lv_aload_n hx hb dX8_copyFrom_92 rfl (lv_at hl 1 rfl) ?_
  refine k_get (v := .ref (a1 9)) C fg_X8_25 hP 11 rfl rfl dX8_copyFrom_93 ?_
  refine lv_iconst (v := (0 : Int32)) hx hb dX8_copyFrom_96 (by decide) ?_
  refine lv_aload_n hx hb dX8_copyFrom_97 rfl (lv_at hl 0 rfl) ?_
  refine k_get (v := .ref (a0 9)) C fg_X8_25 hP 0 rfl rfl dX8_copyFrom_98 ?_
  refine lv_iconst (v := (0 : Int32)) hx hb dX8_copyFrom_101 (by decide) ?_
  refine lv_bipush (v := (6 : Int32)) hx hb dX8_copyFrom_102 (by decide) ?_
  obtain ⟨U17, e18, hF⟩ := nw_s hF
  refine k_cpl (f := S1.2.2.2 8) (g := U15.2.2.2 8) (W8 := g8 q o0 a0 U17 ++ g8 q o1 a1 S1) C ml_X8_47 hl.1 hP hD hS 16 5 rfl rfl ⟨by decide, by decide⟩ (Nat.le_of_ble_eq_true rfl) ⟨by decide, by decide⟩ dX8_copyFrom_104 (by rw [e18]; rfl) (fun H locs hP hD hS => ?_)
  refine lv_aload_n hx hb dX8_copyFrom_107 rfl (lv_at hl 1 rfl) ?_
  refine k_get (v := .ref (a1 10)) C fg_X8_28 hP 11 rfl rfl dX8_copyFrom_108 ?_
  refine lv_iconst (v := (0 : Int32)) hx hb dX8_copyFrom_111 (by decide) ?_
  refine lv_aload_n hx hb dX8_copyFrom_112 rfl (lv_at hl 0 rfl) ?_
  refine k_get (v := .ref (a0 10)) C fg_X8_28 hP 0 rfl rfl dX8_copyFrom_113 ?_
  refine lv_iconst (v := (0 : Int32)) hx hb dX8_copyFrom_116 (by decide) ?_
  refine lv_bipush (v := (6 : Int32)) hx hb dX8_copyFrom_117 (by decide) ?_
  obtain ⟨U19, e20, hF⟩ := nw_s hF
  refine k_cpi (f := S1.2.2.1 9) (g := U17.2.2.1 9) (W8 := g8 q o0 a0 U19 ++ g8 q o1 a1 S1) C ml_X8_47 hl.1 hP hD hS 17 6 rfl rfl ⟨by decide, by decide⟩ (Nat.le_of_ble_eq_true rfl) ⟨by decide, by decide⟩ dX8_copyFrom_119 (by rw [e20]; rfl) (fun H locs hP hD hS => ?_)
  refine lv_aload_n hx hb dX8_copyFrom_122 rfl (lv_at hl 1 rfl) ?_
  refine k_get (v := .ref (a1 11)) C fg_X8_31 hP 11 rfl rfl dX8_copyFrom_123 ?_
  refine lv_iconst (v := (0 : Int32)) hx hb dX8_copyFrom_126 (by decide) ?_
  refine lv_aload_n hx hb dX8_copyFrom_127 rfl (lv_at hl 0 rfl) ?_
  refine k_get (v := .ref (a0 11)) C fg_X8_31 hP 0 rfl rfl dX8_copyFrom_128 ?_
  refine lv_iconst (v := (0 : Int32)) hx hb dX8_copyFrom_131 (by decide) ?_
  refine lv_bipush (v := (6 : Int32)) hx hb dX8_copyFrom_132 (by decide) ?_
  obtain ⟨U21, e22, hF⟩ := nw_s hF
  refine k_cpi (f := S1.2.2.1 10) (g := U19.2.2.1 10) (W8 := g8 q o0 a0 U21 ++ g8 q o1 a1 S1) C ml_X8_47 hl.1 hP hD hS 18 7 rfl rfl ⟨by decide, by decide⟩ (Nat.le_of_ble_eq_true rfl) ⟨by decide, by decide⟩ dX8_copyFrom_134 (by rw [e22]; rfl) (fun H locs hP hD hS => ?_)
  refine lv_aload_n hx hb dX8_copyFrom_137 rfl (lv_at hl 1 rfl) ?_
  refine k_get (v := .ref (a1 12)) C fg_X8_34 hP 11 rfl rfl dX8_copyFrom_138 ?_
  refine lv_iconst (v := (0 : Int32)) hx hb dX8_copyFrom_141 (by decide) ?_
  refine lv_aload_n hx hb dX8_copyFrom_142 rfl (lv_at hl 0 rfl) ?_
  refine k_get (v := .ref (a0 12)) C fg_X8_34 hP 0 rfl rfl dX8_copyFrom_143 ?_
  refine lv_iconst (v := (0 : Int32)) hx hb dX8_copyFrom_146 (by decide) ?_
  refine lv_bipush (v := (6 : Int32)) hx hb dX8_copyFrom_147 (by decide) ?_
  obtain ⟨U23, e24, hF⟩ := nw_s hF
  refine k_cpi (f := S1.2.2.1 11) (g := U21.2.2.1 11) (W8 := g8 q o0 a0 U23 ++ g8 q o1 a1 S1) C ml_X8_47 hl.1 hP hD hS 19 8 rfl rfl ⟨by decide, by decide⟩ (Nat.le_of_ble_eq_true rfl) ⟨by decide, by decide⟩ dX8_copyFrom_149 (by rw [e24]; rfl) (fun H locs hP hD hS => ?_)
  refine lv_aload_n hx hb dX8_copyFrom_152 rfl (lv_at hl 1 rfl) ?_
  refine k_get (v := .ref (a1 13)) C fg_X8_37 hP 11 rfl rfl dX8_copyFrom_153 ?_
  refine lv_iconst (v := (0 : Int32)) hx hb dX8_copyFrom_156 (by decide) ?_
  refine lv_aload_n hx hb dX8_copyFrom_157 rfl (lv_at hl 0 rfl) ?_
  refine k_get (v := .ref (a0 13)) C fg_X8_37 hP 0 rfl rfl dX8_copyFrom_158 ?_
  refine lv_iconst (v := (0 : Int32)) hx hb dX8_copyFrom_161 (by decide) ?_
  refine lv_bipush (v := (6 : Int32)) hx hb dX8_copyFrom_162 (by decide) ?_
  obtain ⟨U25, e26, hF⟩ := nw_s hF
  refine k_cpi (f := S1.2.2.1 12) (g := U23.2.2.1 12) (W8 := g8 q o0 a0 U25 ++ g8 q o1 a1 S1) C ml_X8_47 hl.1 hP hD hS 20 9 rfl rfl ⟨by decide, by decide⟩ (Nat.le_of_ble_eq_true rfl) ⟨by decide, by decide⟩ dX8_copyFrom_164 (by rw [e26]; rfl) (fun H locs hP hD hS => ?_)
  refine lv_aload_n hx hb dX8_copyFrom_167 rfl (lv_at hl 1 rfl) ?_
  refine k_get (v := .ref (a1 14)) C fg_X8_40 hP 11 rfl rfl dX8_copyFrom_168 ?_
  refine lv_iconst (v := (0 : Int32)) hx hb dX8_copyFrom_171 (by decide) ?_
  refine lv_aload_n hx hb dX8_copyFrom_172 rfl (lv_at hl 0 rfl) ?_
  refine k_get (v := .ref (a0 14)) C fg_X8_40 hP 0 rfl rfl dX8_copyFrom_173 ?_
  refine lv_iconst (v := (0 : Int32)) hx hb dX8_copyFrom_176 (by decide) ?_
  refine lv_bipush (v := (6 : Int32)) hx hb dX8_copyFrom_177 (by decide) ?_
  obtain ⟨U27, e28, hF⟩ := nw_s hF
  refine k_cpi (f := S1.2.2.1 13) (g := U25.2.2.1 13) (W8 := g8 q o0 a0 U27 ++ g8 q o1 a1 S1) C ml_X8_47 hl.1 hP hD hS 21 10 rfl rfl ⟨by decide, by decide⟩ (Nat.le_of_ble_eq_true rfl) ⟨by decide, by decide⟩ dX8_copyFrom_179 (by rw [e28]; rfl) (fun H locs hP hD hS => ?_)
  refine lv_aload_n hx hb dX8_copyFrom_182 rfl (lv_at hl 0 rfl) ?_
  refine lv_aload_n hx hb dX8_copyFrom_183 rfl (lv_at hl 1 rfl) ?_
  refine k_get (v := .int (S1.1 14)) C fg_X8_62 hP 11 rfl rfl dX8_copyFrom_184 ?_
  obtain ⟨U29, e30, hF⟩ := nw_s hF
  refine k_put (W8 := g8 q o0 a0 U29 ++ g8 q o1 a1 S1) C fp_X8_62 hP hD hS 0 rfl rfl rfl (Nat.le_of_ble_eq_true rfl) dX8_copyFrom_187 (by rw [e30]; rfl) (fun H locs hP hD hS => ?_)
  cases hF
  exact k_vret C hP hS dX8_copyFrom_190

abbrev rm_J7_fill_53178 : Room := ({ frames := 0, cells := 0, slots := 0, locals := 0 } : Room)
def F_J7_fill_53178_5 (k5 : Int32 × Int32 × Int32 × St → Option (St)) (x1 : Int32) (x2 : Int32) (x3 : Int32) (S0 : St) : Option (St) := if x3 ≤ x2 then (some (S0)) else (if oob x2 n0 then none else nw (sA S0 0 x2 x1) fun U3 => k5 (x1, (x2 + 1), x3, U3))
def L_J7_fill_53178_5 (x1 : Int32) (x2 : Int32) (x3 : Int32) (S0 : St) : Option (St) := lp (fun kz z => F_J7_fill_53178_5 kz z.1 z.2.1 z.2.2.1 z.2.2.2) FU (x1, x2, x3, S0)
def F_J7_fill_53178 (S0 : St) (x1 : Int32) : Option (St) := L_J7_fill_53178_5 x1 (0 : Int32) (Int32.ofNat n0) S0
set_option maxRecDepth 100000 in
set_option maxHeartbeats 4000000 in
theorem b_J7_fill_53178_5 {p : Program} {l : Launch} {e : Env} {s : State} {m : MethodId} {args : Array Value} {below : List Frame} {meth : Method} {c : Code} {D : va_G} {q : Nat → ClassId} {A : Nat → Prop} {o0 : Nat} {a0 : Nat → Nat} {n0 : Nat} {T0 : St} (C : cx p s m args meth c cJ7_fill_53178 4 none RJ7 D q A) {k5 : Int32 × Int32 × Int32 × St → Option (St)} (hk5 : ∀ (x1 : Int32) (x2 : Int32) (x3 : Int32) (S0 : St), k5 (x1, x2, x3, S0) = some (T0) → ∀ (H : Heap) (locs : List Loc) (ls : Array Slot), va_P D vwCl (g99 q o0 a0 n0 S0) H → va_D A (g99 q o0 a0 n0 S0) → va_S A s.heap H locs → lv_has ls 4 [(0, .ref o0), (1, .int x1), (2, .int x2), (3, .int x3)] → W p l e rm_J7_fill_53178 s m args below meth c H locs 0 0 (MQ below (QV D A (g99 q o0 a0 n0 T0)) args s 0 0 A) (F0 m 5 ls [])) {x1 : Int32} {x2 : Int32} {x3 : Int32} {S0 : St} (hF : F_J7_fill_53178_5 k5 x1 x2 x3 S0 = some (T0)) {H : Heap} {locs : List Loc} (hP : va_P D vwCl (g99 q o0 a0 n0 S0) H) (hD : va_D A (g99 q o0 a0 n0 S0)) (hS : va_S A s.heap H locs) {ls : Array Slot} (hl : lv_has ls 4 [(0, .ref o0), (1, .int x1), (2, .int x2), (3, .int x3)]) : W p l e rm_J7_fill_53178 s m args below meth c H locs 0 0 (MQ below (QV D A (g99 q o0 a0 n0 T0)) args s 0 0 A) (F0 m 5 ls []) := by
  unfold F_J7_fill_53178_5 at hF
  obtain ⟨hx, hb, hr, hml, hown, hts, hlk, hA, hK, hN, hV⟩ := id C
  refine lv_iload_n hx hb dJ7_fill_53178_5 rfl (lv_at hl 2 rfl) ?_
  refine lv_iload_n hx hb dJ7_fill_53178_6 rfl (lv_at hl 3 rfl) ?_
  refine lv_icmp_ge (tgt := 20) hx hb dJ7_fill_53178_7 (by decide) (fun c1 => ?_) (fun c1 => ?_)
  · have hF := op_t hF c1
    cases hF
    exact k_vret C hP hS dJ7_fill_53178_20
  · have hF := op_f hF c1
    refine lv_aload_n hx hb dJ7_fill_53178_10 rfl (lv_at hl 0 rfl) ?_
    refine lv_iload_n hx hb dJ7_fill_53178_11 rfl (lv_at hl 2 rfl) ?_
    refine lv_iload_n hx hb dJ7_fill_53178_12 rfl (lv_at hl 1 rfl) ?_
    obtain ⟨h2, hF⟩ := op_ck hF
    obtain ⟨U3, e4, hF⟩ := nw_s hF
    refine k_ist (f := S0.2.2.1 0) (W8 := g99 q o0 a0 n0 U3) C hP hD hS 0 rfl h2 dJ7_fill_53178_13 (by rw [e4]; rfl) (fun H locs hP hD hS => ?_)
    refine lv_iinc (v := (x2 + 1)) (lv' := [(2, .int (x2 + 1)), (0, .ref o0), (1, .int x1), (3, .int x3)]) hx hb dJ7_fill_53178_14 hl (k := 2) rfl rfl (by decide) rfl (fun ls hl => ?_)
    refine lv_goto (tgt := 5) hx hb dJ7_fill_53178_17 (by decide) ?_
    exact hk5 x1 (x2 + 1) x3 U3 hF _ _ _ hP hD hS (lv_sub hl [1, 2, 0, 3] rfl)
set_option maxRecDepth 100000 in
set_option maxHeartbeats 4000000 in
theorem l_J7_fill_53178_5 {p : Program} {l : Launch} {e : Env} {s : State} {m : MethodId} {args : Array Value} {below : List Frame} {meth : Method} {c : Code} {D : va_G} {q : Nat → ClassId} {A : Nat → Prop} {o0 : Nat} {a0 : Nat → Nat} {n0 : Nat} {T0 : St} (C : cx p s m args meth c cJ7_fill_53178 4 none RJ7 D q A) {x1 : Int32} {x2 : Int32} {x3 : Int32} {S0 : St} (hF : L_J7_fill_53178_5 x1 x2 x3 S0 = some (T0)) : ∀ (H : Heap) (locs : List Loc) (ls : Array Slot), va_P D vwCl (g99 q o0 a0 n0 S0) H → va_D A (g99 q o0 a0 n0 S0) → va_S A s.heap H locs → lv_has ls 4 [(0, .ref o0), (1, .int x1), (2, .int x2), (3, .int x3)] → W p l e rm_J7_fill_53178 s m args below meth c H locs 0 0 (MQ below (QV D A (g99 q o0 a0 n0 T0)) args s 0 0 A) (F0 m 5 ls []) :=
  lp_G _ _ (fun z => ∀ (H : Heap) (locs : List Loc) (ls : Array Slot), va_P D vwCl (g99 q o0 a0 n0 z.2.2.2) H → va_D A (g99 q o0 a0 n0 z.2.2.2) → va_S A s.heap H locs → lv_has ls 4 [(0, .ref o0), (1, .int z.1), (2, .int z.2.1), (3, .int z.2.2.1)] → W p l e rm_J7_fill_53178 s m args below meth c H locs 0 0 (MQ below (QV D A (g99 q o0 a0 n0 T0)) args s 0 0 A) (F0 m 5 ls [])) (fun kz hkz z hz H locs ls hP hD hS hl => b_J7_fill_53178_5 C (fun x1 x2 x3 S0 hz => hkz (x1, x2, x3, S0) hz) hz hP hD hS hl) FU (x1, x2, x3, S0) hF
set_option maxRecDepth 100000 in
set_option maxHeartbeats 4000000 in
theorem c_J7_fill_53178 (l : Launch) (D : va_G) (q : Nat → ClassId) (o0 : Nat) (a0 : Nat → Nat) (n0 : Nat) (S0 : St) (sz : Nat) (x1 : Int32) {T0 : St} (hF : F_J7_fill_53178 S0 x1 = some (T0)) : Met l yJ7_fill_53178 (Cond.code yJ7_fill_53178 cJ7_fill_53178 4 none :: TB) rm_J7_fill_53178 (PC D q [.ref o0, .int x1] (g99 q o0 a0 n0 S0) sz) ((fun A => QV D A (g99 q o0 a0 n0 T0)) (va_A (g99 q o0 a0 n0 S0) sz)) 0 0 (va_A (g99 q o0 a0 n0 S0) sz) := by
  refine k_met (w0 := g99 q o0 a0 n0 S0) (Q := fun A => QV D A (g99 q o0 a0 n0 T0)) (by decide +kernel) (Nat.le_of_ble_eq_true rfl) ?_
  intro p e s m args below meth c A ls C hP hD hS hl
  have hl : lv_has ls 4 [(0, .ref o0), (1, .int x1)] := hl
  unfold F_J7_fill_53178 at hF
  have C : cx p s m args meth c cJ7_fill_53178 4 none RJ7 D q A := C
  obtain ⟨hx, hb, hr, hml, hown, hts, hlk, hA, hK, hN, hV⟩ := id C
  refine lv_iconst (v := (0 : Int32)) hx hb dJ7_fill_53178_0 (by decide) ?_
  refine lv_istore_n (lv' := [(2, .int (0 : Int32)), (0, .ref o0), (1, .int x1)]) hx hb dJ7_fill_53178_1 rfl hl (by decide) rfl (fun ls hl => ?_)
  refine lv_aload_n hx hb dJ7_fill_53178_2 rfl (lv_at hl 1 rfl) ?_
  refine k_len (v := (Int32.ofNat n0)) C hP 0 1 rfl rfl rfl dJ7_fill_53178_3 ?_
  refine lv_istore_n (lv' := [(3, .int (Int32.ofNat n0)), (2, .int (0 : Int32)), (0, .ref o0), (1, .int x1)]) hx hb dJ7_fill_53178_4 rfl hl (by decide) rfl (fun ls hl => ?_)
  exact l_J7_fill_53178_5 C hF _ _ _ hP hD hS (lv_sub hl [2, 3, 1, 0] rfl)

abbrev rm_X4_plan : Room := ({ frames := 4, cells := 0, slots := 0, locals := 92 } : Room)
def F_X4_plan_128 (k83 : Int32 × Int32 × Int32 × St × St → Option (Int32 × St)) (x2 : Int32) (x4 : Int32) (s0 : Int32) (s1 : Int32) (S0 : St) (S1 : St) : Option (Int32 × St) := k83 (x2, (s0 ||| s1), (x4 + 1), S0, S1)
def F_X4_plan_83 (k83 : Int32 × Int32 × Int32 × St × St → Option (Int32 × St)) (x2 : Int32) (x3 : Int32) (x4 : Int32) (S0 : St) (S1 : St) : Option (Int32 × St) := if x2 ≤ x4 then (if oob (0 : Int32) 896 then none else some ((S0.2.2.1 0 (0 : Int32).toNatClampNeg), S0)) else (ob1 (F_X4_firstBest S0 x4 x3) fun r4 => if oob x4 6 then none else nw (sA S0 4 x4 r4) fun U6 => if oob x4 6 then none else if (U6.2.2.1 4 x4.toNatClampNeg) = (-1 : Int32) then (F_X4_plan_128 k83 x2 x4 x3 (0 : Int32) U6 S1) else (if oob x4 6 then none else F_X4_plan_128 k83 x2 x4 x3 ((1 : Int32) <<< ((U6.2.2.1 4 x4.toNatClampNeg) &&& 31)) U6 S1))
def L_X4_plan_83 (x2 : Int32) (x3 : Int32) (x4 : Int32) (S0 : St) (S1 : St) : Option (Int32 × St) := lp (fun kz z => F_X4_plan_83 kz z.1 z.2.1 z.2.2.1 z.2.2.2.1 z.2.2.2.2) FU (x2, x3, x4, S0, S1)
def F_X4_plan_38 (k25 : Int32 × Int32 × St × St → Option (Int32 × St)) (k38 : Int32 × Int32 × Int32 × St × St → Option (Int32 × St)) (x2 : Int32) (x3 : Int32) (x4 : Int32) (S0 : St) (S1 : St) : Option (Int32 × St) := if (128 : Int32) ≤ x4 then (k25 (x2, (x3 + (-1)), S0, S1)) else (ob1 (F_X4_bestOf S0 x3 x4) fun r3 => if oob ((x3 * (128 : Int32)) + x4) 896 then none else nw (sA S0 0 ((x3 * (128 : Int32)) + x4) r3) fun U5 => k38 (x2, x3, (x4 + 1), U5, S1))
def L_X4_plan_38 (k25 : Int32 × Int32 × St × St → Option (Int32 × St)) (x2 : Int32) (x3 : Int32) (x4 : Int32) (S0 : St) (S1 : St) : Option (Int32 × St) := lp (fun kz z => F_X4_plan_38 k25 kz z.1 z.2.1 z.2.2.1 z.2.2.2.1 z.2.2.2.2) FU (x2, x3, x4, S0, S1)
def F_X4_plan_25 (k25 : Int32 × Int32 × St × St → Option (Int32 × St)) (x2 : Int32) (x3 : Int32) (S0 : St) (S1 : St) : Option (Int32 × St) := if x3 < 0 then (L_X4_plan_83 x2 (0 : Int32) (0 : Int32) S0 S1) else (ob1 (F_X4_weigh S0 S1 x3) fun U3 => L_X4_plan_38 k25 x2 x3 (0 : Int32) U3 S1)
def L_X4_plan_25 (x2 : Int32) (x3 : Int32) (S0 : St) (S1 : St) : Option (Int32 × St) := lp (fun kz z => F_X4_plan_25 kz z.1 z.2.1 z.2.2.1 z.2.2.2) FU (x2, x3, S0, S1)
def F_X4_plan (S0 : St) (S1 : St) : Option (Int32 × St) := nw (sF S0 4 (fun _ => (-1 : Int32))) fun U1 => nw (sF U1 0 (fun _ => (0 : Int32))) fun U3 => L_X4_plan_25 (S1.1 7) ((S1.1 7) - (1 : Int32)) U3 S1
set_option maxRecDepth 100000 in
set_option maxHeartbeats 4000000 in
theorem b_X4_plan_128 {p : Program} {l : Launch} {e : Env} {s : State} {m : MethodId} {args : Array Value} {below : List Frame} {meth : Method} {c : Code} {D : va_G} {q : Nat → ClassId} {A : Nat → Prop} {o0 : Nat} {a0 : Nat → Nat} {o1 : Nat} {a1 : Nat → Nat} {r : Int32} {T0 : St} (C : cx p s m args meth c cX4_plan 5 (some .int) RX4 D q A) {k83 : Int32 × Int32 × Int32 × St × St → Option (Int32 × St)} (hk83 : ∀ (x2 : Int32) (x3 : Int32) (x4 : Int32) (S0 : St) (S1 : St), k83 (x2, x3, x4, S0, S1) = some (r, T0) → ∀ (H : Heap) (locs : List Loc) (ls : Array Slot), va_P D vwCl (g4 q o0 a0 S0 ++ g8 q o1 a1 S1) H → va_D A (g4 q o0 a0 S0 ++ g8 q o1 a1 S1) → va_S A s.heap H locs → lv_has ls 5 [(0, .ref o0), (2, .int x2), (3, .int x3), (4, .int x4)] → W p l e rm_X4_plan s m args below meth c H locs 0 0 (MQ below (QI D A r (g4 q o0 a0 T0 ++ g8 q o1 a1 S1)) args s 0 0 A) (F0 m 83 ls [])) {x2 : Int32} {x4 : Int32} {s0 : Int32} {s1 : Int32} {S0 : St} {S1 : St} (hF : F_X4_plan_128 k83 x2 x4 s0 s1 S0 S1 = some (r, T0)) {H : Heap} {locs : List Loc} (hP : va_P D vwCl (g4 q o0 a0 S0 ++ g8 q o1 a1 S1) H) (hD : va_D A (g4 q o0 a0 S0 ++ g8 q o1 a1 S1)) (hS : va_S A s.heap H locs) {ls : Array Slot} (hl : lv_has ls 5 [(0, .ref o0), (2, .int x2), (4, .int x4)]) : W p l e rm_X4_plan s m args below meth c H locs 0 0 (MQ below (QI D A r (g4 q o0 a0 T0 ++ g8 q o1 a1 S1)) args s 0 0 A) (F0 m 128 ls [.int s1, .int s0]) := by
  unfold F_X4_plan_128 at hF
  obtain ⟨hx, hb, hr, hml, hown, hts, hlk, hA, hK, hN, hV⟩ := id C
  refine lv_ior hx hb dX4_plan_128 ?_
  refine lv_istore_n (lv' := [(3, .int (s0 ||| s1)), (0, .ref o0), (2, .int x2), (4, .int x4)]) hx hb dX4_plan_129 rfl hl (by decide) rfl (fun ls hl => ?_)
  refine lv_iinc (v := (x4 + 1)) (lv' := [(4, .int (x4 + 1)), (3, .int (s0 ||| s1)), (0, .ref o0), (2, .int x2)]) hx hb dX4_plan_130 hl (k := 3) rfl rfl (by decide) rfl (fun ls hl => ?_)
  refine lv_goto (tgt := 83) hx hb dX4_plan_133 (by decide) ?_
  exact hk83 x2 (s0 ||| s1) (x4 + 1) S0 S1 hF _ _ _ hP hD hS (lv_sub hl [2, 3, 1, 0] rfl)
set_option maxRecDepth 100000 in
set_option maxHeartbeats 4000000 in
theorem b_X4_plan_83 {p : Program} {l : Launch} {e : Env} {s : State} {m : MethodId} {args : Array Value} {below : List Frame} {meth : Method} {c : Code} {D : va_G} {q : Nat → ClassId} {A : Nat → Prop} {o0 : Nat} {a0 : Nat → Nat} {o1 : Nat} {a1 : Nat → Nat} {r : Int32} {T0 : St} (C : cx p s m args meth c cX4_plan 5 (some .int) RX4 D q A) {k83 : Int32 × Int32 × Int32 × St × St → Option (Int32 × St)} (hk83 : ∀ (x2 : Int32) (x3 : Int32) (x4 : Int32) (S0 : St) (S1 : St), k83 (x2, x3, x4, S0, S1) = some (r, T0) → ∀ (H : Heap) (locs : List Loc) (ls : Array Slot), va_P D vwCl (g4 q o0 a0 S0 ++ g8 q o1 a1 S1) H → va_D A (g4 q o0 a0 S0 ++ g8 q o1 a1 S1) → va_S A s.heap H locs → lv_has ls 5 [(0, .ref o0), (2, .int x2), (3, .int x3), (4, .int x4)] → W p l e rm_X4_plan s m args below meth c H locs 0 0 (MQ below (QI D A r (g4 q o0 a0 T0 ++ g8 q o1 a1 S1)) args s 0 0 A) (F0 m 83 ls [])) {x2 : Int32} {x3 : Int32} {x4 : Int32} {S0 : St} {S1 : St} (hF : F_X4_plan_83 k83 x2 x3 x4 S0 S1 = some (r, T0)) {H : Heap} {locs : List Loc} (hP : va_P D vwCl (g4 q o0 a0 S0 ++ g8 q o1 a1 S1) H) (hD : va_D A (g4 q o0 a0 S0 ++ g8 q o1 a1 S1)) (hS : va_S A s.heap H locs) {ls : Array Slot} (hl : lv_has ls 5 [(0, .ref o0), (2, .int x2), (3, .int x3), (4, .int x4)]) : W p l e rm_X4_plan s m args below meth c H locs 0 0 (MQ below (QI D A r (g4 q o0 a0 T0 ++ g8 q o1 a1 S1)) args s 0 0 A) (F0 m 83 ls []) := by
  unfold F_X4_plan_83 at hF
  obtain ⟨hx, hb, hr, hml, hown, hts, hlk, hA, hK, hN, hV⟩ := id C
  refine lv_iload hx hb dX4_plan_83 (lv_at hl 3 rfl) ?_
  refine lv_iload_n hx hb dX4_plan_85 rfl (lv_at hl 1 rfl) ?_
  refine lv_icmp_ge (tgt := 136) hx hb dX4_plan_86 (by decide) (fun c1 => ?_) (fun c1 => ?_)
  · have hF := op_t hF c1
    refine lv_aload_n hx hb dX4_plan_136 rfl (lv_at hl 0 rfl) ?_
    refine k_get (v := .ref (a0 1)) C fg_X4_9 hP 0 rfl rfl dX4_plan_137 ?_
    refine lv_iconst (v := (0 : Int32)) hx hb dX4_plan_140 (by decide) ?_
    obtain ⟨h2, hF⟩ := op_ck hF
    refine k_ild (f := S0.2.2.1 0) C hP 1 rfl h2 dX4_plan_141 ?_
    cases hF
    exact k_iret C hP hS dX4_plan_142
  · have hF := op_f hF c1
    refine lv_aload_n hx hb dX4_plan_89 rfl (lv_at hl 0 rfl) ?_
    refine k_get (v := .ref (a0 5)) C fg_X4_24 hP 0 rfl rfl dX4_plan_90 ?_
    refine lv_iload hx hb dX4_plan_93 (lv_at hl 3 rfl) ?_
    refine lv_aload_n hx hb dX4_plan_95 rfl (lv_at hl 0 rfl) ?_
    refine lv_iload hx hb dX4_plan_96 (lv_at hl 3 rfl) ?_
    refine lv_iload_n hx hb dX4_plan_98 rfl (lv_at hl 2 rfl) ?_
    obtain ⟨r4, hc3, hF⟩ := ob1_s hF
    refine k_iro C (k_rV (As := [.int x4, .int x3]) (rest := [.int x4, .ref (a0 5)]) C (c_X4_firstBest l D q o0 a0 S0 _ x4 x3 hc3) kc_X4_firstBest ml_X4_47 rfl rfl (by decide) (hP.sub (ws' := g4 q o0 a0 S0) [0, 1, 2, 3, 4, 5] rfl) (hD.sub (ws' := g4 q o0 a0 S0) [0, 1, 2, 3, 4, 5] (by decide) rfl) hS (va_recv hK hP (ci := 4) (q0 := 0) rfl rfl) rfl hl.1 rfl (Nat.le_of_ble_eq_true rfl) dX4_plan_99 (by decide)) hP hD hS [0, 1, 2, 3, 4, 5] rfl (fun H locs hP hD hS => ?_)
    obtain ⟨h5, hF⟩ := op_ck hF
    obtain ⟨U6, e7, hF⟩ := nw_s hF
    refine k_ist (f := S0.2.2.1 4) (W8 := g4 q o0 a0 U6 ++ g8 q o1 a1 S1) C hP hD hS 5 rfl h5 dX4_plan_102 (by rw [e7]; rfl) (fun H locs hP hD hS => ?_)
    refine lv_iload_n hx hb dX4_plan_103 rfl (lv_at hl 2 rfl) ?_
    refine lv_aload_n hx hb dX4_plan_104 rfl (lv_at hl 0 rfl) ?_
    refine k_get (v := .ref (a0 5)) C fg_X4_24 hP 0 rfl rfl dX4_plan_105 ?_
    refine lv_iload hx hb dX4_plan_108 (lv_at hl 3 rfl) ?_
    obtain ⟨h8, hF⟩ := op_ck hF
    refine k_ild (f := U6.2.2.1 4) C hP 5 rfl h8 dX4_plan_110 ?_
    refine lv_iconst (v := (-1 : Int32)) hx hb dX4_plan_111 (by decide) ?_
    refine lv_icmp_ne (tgt := 119) hx hb dX4_plan_112 (by decide) (fun c9 => ?_) (fun c9 => ?_)
    · have hF := op_f hF c9
      refine lv_iconst (v := (1 : Int32)) hx hb dX4_plan_119 (by decide) ?_
      refine lv_aload_n hx hb dX4_plan_120 rfl (lv_at hl 0 rfl) ?_
      refine k_get (v := .ref (a0 5)) C fg_X4_24 hP 0 rfl rfl dX4_plan_121 ?_
      refine lv_iload hx hb dX4_plan_124 (lv_at hl 3 rfl) ?_
      obtain ⟨h10, hF⟩ := op_ck hF
      refine k_ild (f := U6.2.2.1 4) C hP 5 rfl h10 dX4_plan_126 ?_
      refine lv_ishl hx hb dX4_plan_127 ?_
      exact b_X4_plan_128 C hk83 hF hP hD hS (lv_sub hl [0, 1, 3] rfl)
    · have hF := op_t hF c9
      refine lv_iconst (v := (0 : Int32)) hx hb dX4_plan_115 (by decide) ?_
      refine lv_goto (tgt := 128) hx hb dX4_plan_116 (by decide) ?_
      exact b_X4_plan_128 C hk83 hF hP hD hS (lv_sub hl [0, 1, 3] rfl)
set_option maxRecDepth 100000 in
set_option maxHeartbeats 4000000 in
theorem l_X4_plan_83 {p : Program} {l : Launch} {e : Env} {s : State} {m : MethodId} {args : Array Value} {below : List Frame} {meth : Method} {c : Code} {D : va_G} {q : Nat → ClassId} {A : Nat → Prop} {o0 : Nat} {a0 : Nat → Nat} {o1 : Nat} {a1 : Nat → Nat} {r : Int32} {T0 : St} (C : cx p s m args meth c cX4_plan 5 (some .int) RX4 D q A) {x2 : Int32} {x3 : Int32} {x4 : Int32} {S0 : St} {S1 : St} (hF : L_X4_plan_83 x2 x3 x4 S0 S1 = some (r, T0)) : ∀ (H : Heap) (locs : List Loc) (ls : Array Slot), va_P D vwCl (g4 q o0 a0 S0 ++ g8 q o1 a1 S1) H → va_D A (g4 q o0 a0 S0 ++ g8 q o1 a1 S1) → va_S A s.heap H locs → lv_has ls 5 [(0, .ref o0), (2, .int x2), (3, .int x3), (4, .int x4)] → W p l e rm_X4_plan s m args below meth c H locs 0 0 (MQ below (QI D A r (g4 q o0 a0 T0 ++ g8 q o1 a1 S1)) args s 0 0 A) (F0 m 83 ls []) :=
  lp_G _ _ (fun z => ∀ (H : Heap) (locs : List Loc) (ls : Array Slot), va_P D vwCl (g4 q o0 a0 z.2.2.2.1 ++ g8 q o1 a1 z.2.2.2.2) H → va_D A (g4 q o0 a0 z.2.2.2.1 ++ g8 q o1 a1 z.2.2.2.2) → va_S A s.heap H locs → lv_has ls 5 [(0, .ref o0), (2, .int z.1), (3, .int z.2.1), (4, .int z.2.2.1)] → W p l e rm_X4_plan s m args below meth c H locs 0 0 (MQ below (QI D A r (g4 q o0 a0 T0 ++ g8 q o1 a1 z.2.2.2.2)) args s 0 0 A) (F0 m 83 ls [])) (fun kz hkz z hz H locs ls hP hD hS hl => b_X4_plan_83 C (fun x2 x3 x4 S0 S1 hz => hkz (x2, x3, x4, S0, S1) hz) hz hP hD hS hl) FU (x2, x3, x4, S0, S1) hF
set_option maxRecDepth 100000 in
set_option maxHeartbeats 4000000 in
theorem b_X4_plan_38 {p : Program} {l : Launch} {e : Env} {s : State} {m : MethodId} {args : Array Value} {below : List Frame} {meth : Method} {c : Code} {D : va_G} {q : Nat → ClassId} {A : Nat → Prop} {o0 : Nat} {a0 : Nat → Nat} {o1 : Nat} {a1 : Nat → Nat} {r : Int32} {T0 : St} (C : cx p s m args meth c cX4_plan 5 (some .int) RX4 D q A) {k25 : Int32 × Int32 × St × St → Option (Int32 × St)} (hk25 : ∀ (x2 : Int32) (x3 : Int32) (S0 : St) (S1 : St), k25 (x2, x3, S0, S1) = some (r, T0) → ∀ (H : Heap) (locs : List Loc) (ls : Array Slot), va_P D vwCl (g4 q o0 a0 S0 ++ g8 q o1 a1 S1) H → va_D A (g4 q o0 a0 S0 ++ g8 q o1 a1 S1) → va_S A s.heap H locs → lv_has ls 5 [(0, .ref o0), (1, .ref o1), (2, .int x2), (3, .int x3)] → W p l e rm_X4_plan s m args below meth c H locs 0 0 (MQ below (QI D A r (g4 q o0 a0 T0 ++ g8 q o1 a1 S1)) args s 0 0 A) (F0 m 25 ls [])) {k38 : Int32 × Int32 × Int32 × St × St → Option (Int32 × St)} (hk38 : ∀ (x2 : Int32) (x3 : Int32) (x4 : Int32) (S0 : St) (S1 : St), k38 (x2, x3, x4, S0, S1) = some (r, T0) → ∀ (H : Heap) (locs : List Loc) (ls : Array Slot), va_P D vwCl (g4 q o0 a0 S0 ++ g8 q o1 a1 S1) H → va_D A (g4 q o0 a0 S0 ++ g8 q o1 a1 S1) → va_S A s.heap H locs → lv_has ls 5 [(0, .ref o0), (1, .ref o1), (2, .int x2), (3, .int x3), (4, .int x4)] → W p l e rm_X4_plan s m args below meth c H locs 0 0 (MQ below (QI D A r (g4 q o0 a0 T0 ++ g8 q o1 a1 S1)) args s 0 0 A) (F0 m 38 ls [])) {x2 : Int32} {x3 : Int32} {x4 : Int32} {S0 : St} {S1 : St} (hF : F_X4_plan_38 k25 k38 x2 x3 x4 S0 S1 = some (r, T0)) {H : Heap} {locs : List Loc} (hP : va_P D vwCl (g4 q o0 a0 S0 ++ g8 q o1 a1 S1) H) (hD : va_D A (g4 q o0 a0 S0 ++ g8 q o1 a1 S1)) (hS : va_S A s.heap H locs) {ls : Array Slot} (hl : lv_has ls 5 [(0, .ref o0), (1, .ref o1), (2, .int x2), (3, .int x3), (4, .int x4)]) : W p l e rm_X4_plan s m args below meth c H locs 0 0 (MQ below (QI D A r (g4 q o0 a0 T0 ++ g8 q o1 a1 S1)) args s 0 0 A) (F0 m 38 ls []) := by
  unfold F_X4_plan_38 at hF
  obtain ⟨hx, hb, hr, hml, hown, hts, hlk, hA, hK, hN, hV⟩ := id C
  refine lv_iload hx hb dX4_plan_38 (lv_at hl 4 rfl) ?_
  refine lv_sipush (v := (128 : Int32)) hx hb dX4_plan_40 (by decide) ?_
  refine lv_icmp_ge (tgt := 72) hx hb dX4_plan_43 (by decide) (fun c1 => ?_) (fun c1 => ?_)
  · have hF := op_t hF c1
    refine lv_iinc (v := (x3 + (-1))) (lv' := [(3, .int (x3 + (-1))), (0, .ref o0), (1, .ref o1), (2, .int x2), (4, .int x4)]) hx hb dX4_plan_72 hl (k := 3) rfl rfl (by decide) rfl (fun ls hl => ?_)
    refine lv_goto (tgt := 25) hx hb dX4_plan_75 (by decide) ?_
    exact hk25 x2 (x3 + (-1)) S0 S1 hF _ _ _ hP hD hS (lv_sub hl [1, 2, 3, 0] rfl)
  · have hF := op_f hF c1
    refine lv_aload_n hx hb dX4_plan_46 rfl (lv_at hl 0 rfl) ?_
    refine k_get (v := .ref (a0 1)) C fg_X4_9 hP 0 rfl rfl dX4_plan_47 ?_
    refine lv_iload_n hx hb dX4_plan_50 rfl (lv_at hl 3 rfl) ?_
    refine lv_sipush (v := (128 : Int32)) hx hb dX4_plan_51 (by decide) ?_
    refine lv_imul hx hb dX4_plan_54 ?_
    refine lv_iload hx hb dX4_plan_55 (lv_at hl 4 rfl) ?_
    refine lv_iadd hx hb dX4_plan_57 ?_
    refine lv_aload_n hx hb dX4_plan_58 rfl (lv_at hl 0 rfl) ?_
    refine lv_iload_n hx hb dX4_plan_59 rfl (lv_at hl 3 rfl) ?_
    refine lv_iload hx hb dX4_plan_60 (lv_at hl 4 rfl) ?_
    obtain ⟨r3, hc2, hF⟩ := ob1_s hF
    refine k_iro C (k_rV (As := [.int x3, .int x4]) (rest := [.int ((x3 * (128 : Int32)) + x4), .ref (a0 1)]) C (c_X4_bestOf l D q o0 a0 S0 _ x3 x4 hc2) kc_X4_bestOf ml_X4_43 rfl rfl (by decide) (hP.sub (ws' := g4 q o0 a0 S0) [0, 1, 2, 3, 4, 5] rfl) (hD.sub (ws' := g4 q o0 a0 S0) [0, 1, 2, 3, 4, 5] (by decide) rfl) hS (va_recv hK hP (ci := 4) (q0 := 0) rfl rfl) rfl hl.1 rfl (Nat.le_of_ble_eq_true rfl) dX4_plan_62 (by decide)) hP hD hS [0, 1, 2, 3, 4, 5] rfl (fun H locs hP hD hS => ?_)
    obtain ⟨h4, hF⟩ := op_ck hF
    obtain ⟨U5, e6, hF⟩ := nw_s hF
    refine k_ist (f := S0.2.2.1 0) (W8 := g4 q o0 a0 U5 ++ g8 q o1 a1 S1) C hP hD hS 1 rfl h4 dX4_plan_65 (by rw [e6]; rfl) (fun H locs hP hD hS => ?_)
    refine lv_iinc (v := (x4 + 1)) (lv' := [(4, .int (x4 + 1)), (0, .ref o0), (1, .ref o1), (2, .int x2), (3, .int x3)]) hx hb dX4_plan_66 hl (k := 4) rfl rfl (by decide) rfl (fun ls hl => ?_)
    refine lv_goto (tgt := 38) hx hb dX4_plan_69 (by decide) ?_
    exact hk38 x2 x3 (x4 + 1) U5 S1 hF _ _ _ hP hD hS (lv_sub hl [1, 2, 3, 4, 0] rfl)
set_option maxRecDepth 100000 in
set_option maxHeartbeats 4000000 in
theorem l_X4_plan_38 {p : Program} {l : Launch} {e : Env} {s : State} {m : MethodId} {args : Array Value} {below : List Frame} {meth : Method} {c : Code} {D : va_G} {q : Nat → ClassId} {A : Nat → Prop} {o0 : Nat} {a0 : Nat → Nat} {o1 : Nat} {a1 : Nat → Nat} {r : Int32} {T0 : St} (C : cx p s m args meth c cX4_plan 5 (some .int) RX4 D q A) {k25 : Int32 × Int32 × St × St → Option (Int32 × St)} (hk25 : ∀ (x2 : Int32) (x3 : Int32) (S0 : St) (S1 : St), k25 (x2, x3, S0, S1) = some (r, T0) → ∀ (H : Heap) (locs : List Loc) (ls : Array Slot), va_P D vwCl (g4 q o0 a0 S0 ++ g8 q o1 a1 S1) H → va_D A (g4 q o0 a0 S0 ++ g8 q o1 a1 S1) → va_S A s.heap H locs → lv_has ls 5 [(0, .ref o0), (1, .ref o1), (2, .int x2), (3, .int x3)] → W p l e rm_X4_plan s m args below meth c H locs 0 0 (MQ below (QI D A r (g4 q o0 a0 T0 ++ g8 q o1 a1 S1)) args s 0 0 A) (F0 m 25 ls [])) {x2 : Int32} {x3 : Int32} {x4 : Int32} {S0 : St} {S1 : St} (hF : L_X4_plan_38 k25 x2 x3 x4 S0 S1 = some (r, T0)) : ∀ (H : Heap) (locs : List Loc) (ls : Array Slot), va_P D vwCl (g4 q o0 a0 S0 ++ g8 q o1 a1 S1) H → va_D A (g4 q o0 a0 S0 ++ g8 q o1 a1 S1) → va_S A s.heap H locs → lv_has ls 5 [(0, .ref o0), (1, .ref o1), (2, .int x2), (3, .int x3), (4, .int x4)] → W p l e rm_X4_plan s m args below meth c H locs 0 0 (MQ below (QI D A r (g4 q o0 a0 T0 ++ g8 q o1 a1 S1)) args s 0 0 A) (F0 m 38 ls []) :=
  lp_G _ _ (fun z => ∀ (H : Heap) (locs : List Loc) (ls : Array Slot), va_P D vwCl (g4 q o0 a0 z.2.2.2.1 ++ g8 q o1 a1 z.2.2.2.2) H → va_D A (g4 q o0 a0 z.2.2.2.1 ++ g8 q o1 a1 z.2.2.2.2) → va_S A s.heap H locs → lv_has ls 5 [(0, .ref o0), (1, .ref o1), (2, .int z.1), (3, .int z.2.1), (4, .int z.2.2.1)] → W p l e rm_X4_plan s m args below meth c H locs 0 0 (MQ below (QI D A r (g4 q o0 a0 T0 ++ g8 q o1 a1 z.2.2.2.2)) args s 0 0 A) (F0 m 38 ls [])) (fun kz hkz z hz H locs ls hP hD hS hl => b_X4_plan_38 C hk25 (fun x2 x3 x4 S0 S1 hz => hkz (x2, x3, x4, S0, S1) hz) hz hP hD hS hl) FU (x2, x3, x4, S0, S1) hF
set_option maxRecDepth 100000 in
set_option maxHeartbeats 4000000 in
theorem b_X4_plan_25 {p : Program} {l : Launch} {e : Env} {s : State} {m : MethodId} {args : Array Value} {below : List Frame} {meth : Method} {c : Code} {D : va_G} {q : Nat → ClassId} {A : Nat → Prop} {o0 : Nat} {a0 : Nat → Nat} {o1 : Nat} {a1 : Nat → Nat} {r : Int32} {T0 : St} (C : cx p s m args meth c cX4_plan 5 (some .int) RX4 D q A) {k25 : Int32 × Int32 × St × St → Option (Int32 × St)} (hk25 : ∀ (x2 : Int32) (x3 : Int32) (S0 : St) (S1 : St), k25 (x2, x3, S0, S1) = some (r, T0) → ∀ (H : Heap) (locs : List Loc) (ls : Array Slot), va_P D vwCl (g4 q o0 a0 S0 ++ g8 q o1 a1 S1) H → va_D A (g4 q o0 a0 S0 ++ g8 q o1 a1 S1) → va_S A s.heap H locs → lv_has ls 5 [(0, .ref o0), (1, .ref o1), (2, .int x2), (3, .int x3)] → W p l e rm_X4_plan s m args below meth c H locs 0 0 (MQ below (QI D A r (g4 q o0 a0 T0 ++ g8 q o1 a1 S1)) args s 0 0 A) (F0 m 25 ls [])) {x2 : Int32} {x3 : Int32} {S0 : St} {S1 : St} (hF : F_X4_plan_25 k25 x2 x3 S0 S1 = some (r, T0)) {H : Heap} {locs : List Loc} (hP : va_P D vwCl (g4 q o0 a0 S0 ++ g8 q o1 a1 S1) H) (hD : va_D A (g4 q o0 a0 S0 ++ g8 q o1 a1 S1)) (hS : va_S A s.heap H locs) {ls : Array Slot} (hl : lv_has ls 5 [(0, .ref o0), (1, .ref o1), (2, .int x2), (3, .int x3)]) : W p l e rm_X4_plan s m args below meth c H locs 0 0 (MQ below (QI D A r (g4 q o0 a0 T0 ++ g8 q o1 a1 S1)) args s 0 0 A) (F0 m 25 ls []) := by
  unfold F_X4_plan_25 at hF
  obtain ⟨hx, hb, hr, hml, hown, hts, hlk, hA, hK, hN, hV⟩ := id C
  refine lv_iload_n hx hb dX4_plan_25 rfl (lv_at hl 3 rfl) ?_
  refine lv_if_lt (tgt := 78) hx hb dX4_plan_26 (by decide) (fun c1 => ?_) (fun c1 => ?_)
  · have hF := op_t hF c1
    refine lv_iconst (v := (0 : Int32)) hx hb dX4_plan_78 (by decide) ?_
    refine lv_istore_n (lv' := [(3, .int (0 : Int32)), (0, .ref o0), (1, .ref o1), (2, .int x2)]) hx hb dX4_plan_79 rfl hl (by decide) rfl (fun ls hl => ?_)
    refine lv_iconst (v := (0 : Int32)) hx hb dX4_plan_80 (by decide) ?_
    refine lv_istore (lv' := [(4, .int (0 : Int32)), (3, .int (0 : Int32)), (0, .ref o0), (1, .ref o1), (2, .int x2)]) hx hb dX4_plan_81 hl (by decide) rfl (fun ls hl => ?_)
    exact l_X4_plan_83 C hF _ _ _ hP hD hS (lv_sub hl [2, 4, 1, 0] rfl)
  · have hF := op_f hF c1
    refine lv_aload_n hx hb dX4_plan_29 rfl (lv_at hl 0 rfl) ?_
    refine lv_aload_n hx hb dX4_plan_30 rfl (lv_at hl 1 rfl) ?_
    refine lv_iload_n hx hb dX4_plan_31 rfl (lv_at hl 3 rfl) ?_
    obtain ⟨U3, hc2, hF⟩ := ob1_s hF
    refine k_vall C (k_rV (As := [.ref o1, .int x3]) (rest := []) C (c_X4_weigh l D q o0 a0 S0 o1 a1 S1 _ x3 hc2) kc_X4_weigh ml_X4_39 rfl rfl (by decide) hP hD hS (va_recv hK hP (ci := 4) (q0 := 0) rfl rfl) rfl hl.1 rfl (Nat.le_of_ble_eq_true rfl) dX4_plan_32 (by decide)) hP hD hS rfl (fun H locs hP hD hS => ?_)
    refine lv_iconst (v := (0 : Int32)) hx hb dX4_plan_35 (by decide) ?_
    refine lv_istore (lv' := [(4, .int (0 : Int32)), (0, .ref o0), (1, .ref o1), (2, .int x2), (3, .int x3)]) hx hb dX4_plan_36 hl (by decide) rfl (fun ls hl => ?_)
    exact l_X4_plan_38 C hk25 hF _ _ _ hP hD hS (lv_sub hl [1, 2, 3, 4, 0] rfl)
set_option maxRecDepth 100000 in
set_option maxHeartbeats 4000000 in
theorem l_X4_plan_25 {p : Program} {l : Launch} {e : Env} {s : State} {m : MethodId} {args : Array Value} {below : List Frame} {meth : Method} {c : Code} {D : va_G} {q : Nat → ClassId} {A : Nat → Prop} {o0 : Nat} {a0 : Nat → Nat} {o1 : Nat} {a1 : Nat → Nat} {r : Int32} {T0 : St} (C : cx p s m args meth c cX4_plan 5 (some .int) RX4 D q A) {x2 : Int32} {x3 : Int32} {S0 : St} {S1 : St} (hF : L_X4_plan_25 x2 x3 S0 S1 = some (r, T0)) : ∀ (H : Heap) (locs : List Loc) (ls : Array Slot), va_P D vwCl (g4 q o0 a0 S0 ++ g8 q o1 a1 S1) H → va_D A (g4 q o0 a0 S0 ++ g8 q o1 a1 S1) → va_S A s.heap H locs → lv_has ls 5 [(0, .ref o0), (1, .ref o1), (2, .int x2), (3, .int x3)] → W p l e rm_X4_plan s m args below meth c H locs 0 0 (MQ below (QI D A r (g4 q o0 a0 T0 ++ g8 q o1 a1 S1)) args s 0 0 A) (F0 m 25 ls []) :=
  lp_G _ _ (fun z => ∀ (H : Heap) (locs : List Loc) (ls : Array Slot), va_P D vwCl (g4 q o0 a0 z.2.2.1 ++ g8 q o1 a1 z.2.2.2) H → va_D A (g4 q o0 a0 z.2.2.1 ++ g8 q o1 a1 z.2.2.2) → va_S A s.heap H locs → lv_has ls 5 [(0, .ref o0), (1, .ref o1), (2, .int z.1), (3, .int z.2.1)] → W p l e rm_X4_plan s m args below meth c H locs 0 0 (MQ below (QI D A r (g4 q o0 a0 T0 ++ g8 q o1 a1 z.2.2.2)) args s 0 0 A) (F0 m 25 ls [])) (fun kz hkz z hz H locs ls hP hD hS hl => b_X4_plan_25 C (fun x2 x3 S0 S1 hz => hkz (x2, x3, S0, S1) hz) hz hP hD hS hl) FU (x2, x3, S0, S1) hF
set_option maxRecDepth 100000 in
set_option maxHeartbeats 4000000 in
theorem c_X4_plan (l : Launch) (D : va_G) (q : Nat → ClassId) (o0 : Nat) (a0 : Nat → Nat) (S0 : St) (o1 : Nat) (a1 : Nat → Nat) (S1 : St) (sz : Nat) {r : Int32} {T0 : St} (hF : F_X4_plan S0 S1 = some (r, T0)) : Met l yX4_plan (Cond.code yX4_plan cX4_plan 5 (some .int) :: TB) rm_X4_plan (PC D q [.ref o0, .ref o1] (g4 q o0 a0 S0 ++ g8 q o1 a1 S1) sz) ((fun A => QI D A r (g4 q o0 a0 T0 ++ g8 q o1 a1 S1)) (va_A (g4 q o0 a0 S0 ++ g8 q o1 a1 S1) sz)) 0 0 (va_A (g4 q o0 a0 S0 ++ g8 q o1 a1 S1) sz) := by
  refine k_met (w0 := g4 q o0 a0 S0 ++ g8 q o1 a1 S1) (Q := fun A => QI D A r (g4 q o0 a0 T0 ++ g8 q o1 a1 S1)) (by decide +kernel) (Nat.le_of_ble_eq_true rfl) ?_
  intro p e s m args below meth c A ls C hP hD hS hl
  have hl : lv_has ls 5 [(0, .ref o0), (1, .ref o1)] := hl
  unfold F_X4_plan at hF
  have C : cx p s m args meth c cX4_plan 5 (some .int) RX4 D q A := C
  obtain ⟨hx, hb, hr, hml, hown, hts, hlk, hA, hK, hN, hV⟩ := id C
  refine lv_aload_n hx hb dX4_plan_0 rfl (lv_at hl 1 rfl) ?_
  refine k_get (v := .int (S1.1 7)) C fg_X4_33 hP 6 rfl rfl dX4_plan_1 ?_
  refine lv_istore_n (lv' := [(2, .int (S1.1 7)), (0, .ref o0), (1, .ref o1)]) hx hb dX4_plan_4 rfl hl (by decide) rfl (fun ls hl => ?_)
  refine lv_aload_n hx hb dX4_plan_5 rfl (lv_at hl 1 rfl) ?_
  refine k_get (v := .ref (a0 5)) C fg_X4_24 hP 0 rfl rfl dX4_plan_6 ?_
  refine lv_iconst (v := (-1 : Int32)) hx hb dX4_plan_9 (by decide) ?_
  obtain ⟨U1, e2, hF⟩ := nw_s hF
  refine k_vpart (W8 := g4 q o0 a0 U1 ++ g8 q o1 a1 S1) C (k_rS (As := [.ref (a0 5), .int (-1 : Int32)]) (rest := []) C (c_fill l D q (a0 5) 6 (S0.2.2.1 4) _ (-1 : Int32) (by decide)) kc_J7_fill_53178 ml_X4_27 rfl rfl (by decide) (hP.sub (ws' := [((a0 5), .inl (q 1, 6, .inl (S0.2.2.1 4)))]) [5] rfl) (hD.sub (ws' := [((a0 5), .inl (q 1, 6, .inl (S0.2.2.1 4)))]) [5] (by decide) rfl) hS rfl hl.1 rfl (Nat.le_of_ble_eq_true rfl) dX4_plan_10 (by decide)) hP hD hS [5] [0, 1, 2, 3, 4, 6, 7, 8, 9, 10, 11, 12, 13, 14, 15, 16] rfl (by rw [e2]; rfl) (by rw [e2]; rfl) rfl (by rw [e2]; rfl) rfl (fun H locs hP hD hS => ?_)
  refine lv_aload_n hx hb dX4_plan_13 rfl (lv_at hl 1 rfl) ?_
  refine k_get (v := .ref (a0 1)) C fg_X4_9 hP 0 rfl rfl dX4_plan_14 ?_
  refine lv_iconst (v := (0 : Int32)) hx hb dX4_plan_17 (by decide) ?_
  obtain ⟨U3, e4, hF⟩ := nw_s hF
  refine k_vpart (W8 := g4 q o0 a0 U3 ++ g8 q o1 a1 S1) C (k_rS (As := [.ref (a0 1), .int (0 : Int32)]) (rest := []) C (c_fill l D q (a0 1) 896 (U1.2.2.1 0) _ (0 : Int32) (by decide)) kc_J7_fill_53178 ml_X4_27 rfl rfl (by decide) (hP.sub (ws' := [((a0 1), .inl (q 1, 896, .inl (U1.2.2.1 0)))]) [1] rfl) (hD.sub (ws' := [((a0 1), .inl (q 1, 896, .inl (U1.2.2.1 0)))]) [1] (by decide) rfl) hS rfl hl.1 rfl (Nat.le_of_ble_eq_true rfl) dX4_plan_18 (by decide)) hP hD hS [1] [0, 2, 3, 4, 5, 6, 7, 8, 9, 10, 11, 12, 13, 14, 15, 16] rfl (by rw [e4]; rfl) (by rw [e4]; rfl) rfl (by rw [e4]; rfl) rfl (fun H locs hP hD hS => ?_)
  refine lv_iload_n hx hb dX4_plan_21 rfl (lv_at hl 0 rfl) ?_
  refine lv_iconst (v := (1 : Int32)) hx hb dX4_plan_22 (by decide) ?_
  refine lv_isub hx hb dX4_plan_23 ?_
  refine lv_istore_n (lv' := [(3, .int ((S1.1 7) - (1 : Int32))), (2, .int (S1.1 7)), (0, .ref o0), (1, .ref o1)]) hx hb dX4_plan_24 rfl hl (by decide) rfl (fun ls hl => ?_)
  exact l_X4_plan_25 C hF _ _ _ hP hD hS (lv_sub hl [2, 3, 1, 0] rfl)

abbrev rm_X6_findSoonest : Room := ({ frames := 3, cells := 0, slots := 0, locals := 68 } : Room)
def F_X6_findSoonest_180 (k53 : Int32 × Int32 × Int32 × Int32 × St × St → Option (Int32 × St)) (k101 : Int32 × Int32 × Int32 × Int32 × Int32 × Int32 × St × St → Option (Int32 × St)) (x3 : Int32) (x4 : Int32) (x5 : Int32) (x6 : Int32) (x7 : Int32) (x8 : Int32) (S0 : St) (S1 : St) : Option (Int32 × St) := k101 (x3, x4, x5, x6, x7, (x8 + 1), S0, S1)
def F_X6_findSoonest_101 (k53 : Int32 × Int32 × Int32 × Int32 × St × St → Option (Int32 × St)) (k101 : Int32 × Int32 × Int32 × Int32 × Int32 × Int32 × St × St → Option (Int32 × St)) (x3 : Int32) (x4 : Int32) (x5 : Int32) (x6 : Int32) (x7 : Int32) (x8 : Int32) (S0 : St) (S1 : St) : Option (Int32 × St) := if (S1.1 0) ≤ x8 then (k53 (x3, x4, x5, (x6 + 1), S0, S1)) else (ob1 (F_X8_afterClimb S1 x7 x8) fun r3 => if ((x3 >>> (x8 &&& 31)) &&& (1 : Int32)) = (1 : Int32) then (if oob r3 256 then none else if (S0.2.2.1 2 r3.toNatClampNeg) = (-2 : Int32) then (if (256 : Int32) ≤ x5 then (F_X6_findSoonest_180 k53 k101 x3 x4 x5 x6 x7 x8 S0 S1) else (if oob r3 256 then none else nw (sA S0 2 r3 x8) fun U9 => if oob r3 256 then none else nw (sA U9 1 r3 x7) fun U12 => if oob x5 256 then none else nw (sA U12 0 x5 r3) fun U15 => F_X6_findSoonest_180 k53 k101 x3 x4 (x5 + 1) x6 x7 x8 U15 S1)) else (F_X6_findSoonest_180 k53 k101 x3 x4 x5 x6 x7 x8 S0 S1)) else (F_X6_findSoonest_180 k53 k101 x3 x4 x5 x6 x7 x8 S0 S1))
def L_X6_findSoonest_101 (k53 : Int32 × Int32 × Int32 × Int32 × St × St → Option (Int32 × St)) (x3 : Int32) (x4 : Int32) (x5 : Int32) (x6 : Int32) (x7 : Int32) (x8 : Int32) (S0 : St) (S1 : St) : Option (Int32 × St) := lp (fun kz z => F_X6_findSoonest_101 k53 kz z.1 z.2.1 z.2.2.1 z.2.2.2.1 z.2.2.2.2.1 z.2.2.2.2.2.1 z.2.2.2.2.2.2.1 z.2.2.2.2.2.2.2) FU (x3, x4, x5, x6, x7, x8, S0, S1)
def F_X6_findSoonest_53 (k53 : Int32 × Int32 × Int32 × Int32 × St × St → Option (Int32 × St)) (x3 : Int32) (x4 : Int32) (x5 : Int32) (x6 : Int32) (S0 : St) (S1 : St) : Option (Int32 × St) := if x5 ≤ x6 then (some ((-1 : Int32), S0)) else (if (256 : Int32) ≤ x6 then (some ((-1 : Int32), S0)) else (if oob x6 256 then none else if ((S0.2.2.1 0 x6.toNatClampNeg) &&& x4) = x4 then (ob1 (F_X6_keepSoonest S0 (S0.2.2.1 0 x6.toNatClampNeg)) fun U6 => some ((U6.1 4), U6)) else (L_X6_findSoonest_101 k53 x3 x4 x5 x6 (S0.2.2.1 0 x6.toNatClampNeg) (0 : Int32) S0 S1)))
def L_X6_findSoonest_53 (x3 : Int32) (x4 : Int32) (x5 : Int32) (x6 : Int32) (S0 : St) (S1 : St) : Option (Int32 × St) := lp (fun kz z => F_X6_findSoonest_53 kz z.1 z.2.1 z.2.2.1 z.2.2.2.1 z.2.2.2.2.1 z.2.2.2.2.2) FU (x3, x4, x5, x6, S0, S1)
def F_X6_findSoonest (S0 : St) (S1 : St) (x2 : Int32) : Option (Int32 × St) := ob1 (F_X8_climbable S1 x2) fun r2 => if oob x2 6 then none else nw (sF S0 2 (fun _ => (-2 : Int32))) fun U4 => if oob x2 6 then none else if oob (0 : Int32) 256 then none else nw (sA U4 0 (0 : Int32) (S1.2.2.1 9 x2.toNatClampNeg)) fun U8 => if oob (0 : Int32) 256 then none else if oob (U8.2.2.1 0 (0 : Int32).toNatClampNeg) 256 then none else nw (sA U8 2 (U8.2.2.1 0 (0 : Int32).toNatClampNeg) (-1 : Int32)) fun U12 => L_X6_findSoonest_53 r2 (S1.2.2.1 10 x2.toNatClampNeg) (1 : Int32) (0 : Int32) U12 S1
set_option maxRecDepth 100000 in
set_option maxHeartbeats 4000000 in
theorem b_X6_findSoonest_180 {p : Program} {l : Launch} {e : Env} {s : State} {m : MethodId} {args : Array Value} {below : List Frame} {meth : Method} {c : Code} {D : va_G} {q : Nat → ClassId} {A : Nat → Prop} {o0 : Nat} {a0 : Nat → Nat} {o1 : Nat} {a1 : Nat → Nat} {r : Int32} {T0 : St} (C : cx p s m args meth c cX6_findSoonest 10 (some .int) RX6 D q A) {k53 : Int32 × Int32 × Int32 × Int32 × St × St → Option (Int32 × St)} (hk53 : ∀ (x3 : Int32) (x4 : Int32) (x5 : Int32) (x6 : Int32) (S0 : St) (S1 : St), k53 (x3, x4, x5, x6, S0, S1) = some (r, T0) → ∀ (H : Heap) (locs : List Loc) (ls : Array Slot), va_P D vwCl (g6 q o0 a0 S0 ++ g8 q o1 a1 S1) H → va_D A (g6 q o0 a0 S0 ++ g8 q o1 a1 S1) → va_S A s.heap H locs → lv_has ls 10 [(0, .ref o0), (1, .ref o1), (3, .int x3), (4, .int x4), (5, .int x5), (6, .int x6)] → W p l e rm_X6_findSoonest s m args below meth c H locs 0 0 (MQ below (QI D A r (g6 q o0 a0 T0 ++ g8 q o1 a1 S1)) args s 0 0 A) (F0 m 53 ls [])) {k101 : Int32 × Int32 × Int32 × Int32 × Int32 × Int32 × St × St → Option (Int32 × St)} (hk101 : ∀ (x3 : Int32) (x4 : Int32) (x5 : Int32) (x6 : Int32) (x7 : Int32) (x8 : Int32) (S0 : St) (S1 : St), k101 (x3, x4, x5, x6, x7, x8, S0, S1) = some (r, T0) → ∀ (H : Heap) (locs : List Loc) (ls : Array Slot), va_P D vwCl (g6 q o0 a0 S0 ++ g8 q o1 a1 S1) H → va_D A (g6 q o0 a0 S0 ++ g8 q o1 a1 S1) → va_S A s.heap H locs → lv_has ls 10 [(0, .ref o0), (1, .ref o1), (3, .int x3), (4, .int x4), (5, .int x5), (6, .int x6), (7, .int x7), (8, .int x8)] → W p l e rm_X6_findSoonest s m args below meth c H locs 0 0 (MQ below (QI D A r (g6 q o0 a0 T0 ++ g8 q o1 a1 S1)) args s 0 0 A) (F0 m 101 ls [])) {x3 : Int32} {x4 : Int32} {x5 : Int32} {x6 : Int32} {x7 : Int32} {x8 : Int32} {S0 : St} {S1 : St} (hF : F_X6_findSoonest_180 k53 k101 x3 x4 x5 x6 x7 x8 S0 S1 = some (r, T0)) {H : Heap} {locs : List Loc} (hP : va_P D vwCl (g6 q o0 a0 S0 ++ g8 q o1 a1 S1) H) (hD : va_D A (g6 q o0 a0 S0 ++ g8 q o1 a1 S1)) (hS : va_S A s.heap H locs) {ls : Array Slot} (hl : lv_has ls 10 [(0, .ref o0), (1, .ref o1), (3, .int x3), (4, .int x4), (5, .int x5), (6, .int x6), (7, .int x7), (8, .int x8)]) : W p l e rm_X6_findSoonest s m args below meth c H locs 0 0 (MQ below (QI D A r (g6 q o0 a0 T0 ++ g8 q o1 a1 S1)) args s 0 0 A) (F0 m 180 ls []) := by
  unfold F_X6_findSoonest_180 at hF
  obtain ⟨hx, hb, hr, hml, hown, hts, hlk, hA, hK, hN, hV⟩ := id C
  refine lv_iinc (v := (x8 + 1)) (lv' := [(8, .int (x8 + 1)), (0, .ref o0), (1, .ref o1), (3, .int x3), (4, .int x4), (5, .int x5), (6, .int x6), (7, .int x7)]) hx hb dX6_findSoonest_180 hl (k := 7) rfl rfl (by decide) rfl (fun ls hl => ?_)
  refine lv_goto (tgt := 101) hx hb dX6_findSoonest_183 (by decide) ?_
  exact hk101 x3 x4 x5 x6 x7 (x8 + 1) S0 S1 hF _ _ _ hP hD hS (lv_sub hl [1, 2, 3, 4, 5, 6, 7, 0] rfl)
set_option maxRecDepth 100000 in
set_option maxHeartbeats 4000000 in
theorem b_X6_findSoonest_101 {p : Program} {l : Launch} {e : Env} {s : State} {m : MethodId} {args : Array Value} {below : List Frame} {meth : Method} {c : Code} {D : va_G} {q : Nat → ClassId} {A : Nat → Prop} {o0 : Nat} {a0 : Nat → Nat} {o1 : Nat} {a1 : Nat → Nat} {r : Int32} {T0 : St} (C : cx p s m args meth c cX6_findSoonest 10 (some .int) RX6 D q A) {k53 : Int32 × Int32 × Int32 × Int32 × St × St → Option (Int32 × St)} (hk53 : ∀ (x3 : Int32) (x4 : Int32) (x5 : Int32) (x6 : Int32) (S0 : St) (S1 : St), k53 (x3, x4, x5, x6, S0, S1) = some (r, T0) → ∀ (H : Heap) (locs : List Loc) (ls : Array Slot), va_P D vwCl (g6 q o0 a0 S0 ++ g8 q o1 a1 S1) H → va_D A (g6 q o0 a0 S0 ++ g8 q o1 a1 S1) → va_S A s.heap H locs → lv_has ls 10 [(0, .ref o0), (1, .ref o1), (3, .int x3), (4, .int x4), (5, .int x5), (6, .int x6)] → W p l e rm_X6_findSoonest s m args below meth c H locs 0 0 (MQ below (QI D A r (g6 q o0 a0 T0 ++ g8 q o1 a1 S1)) args s 0 0 A) (F0 m 53 ls [])) {k101 : Int32 × Int32 × Int32 × Int32 × Int32 × Int32 × St × St → Option (Int32 × St)} (hk101 : ∀ (x3 : Int32) (x4 : Int32) (x5 : Int32) (x6 : Int32) (x7 : Int32) (x8 : Int32) (S0 : St) (S1 : St), k101 (x3, x4, x5, x6, x7, x8, S0, S1) = some (r, T0) → ∀ (H : Heap) (locs : List Loc) (ls : Array Slot), va_P D vwCl (g6 q o0 a0 S0 ++ g8 q o1 a1 S1) H → va_D A (g6 q o0 a0 S0 ++ g8 q o1 a1 S1) → va_S A s.heap H locs → lv_has ls 10 [(0, .ref o0), (1, .ref o1), (3, .int x3), (4, .int x4), (5, .int x5), (6, .int x6), (7, .int x7), (8, .int x8)] → W p l e rm_X6_findSoonest s m args below meth c H locs 0 0 (MQ below (QI D A r (g6 q o0 a0 T0 ++ g8 q o1 a1 S1)) args s 0 0 A) (F0 m 101 ls [])) {x3 : Int32} {x4 : Int32} {x5 : Int32} {x6 : Int32} {x7 : Int32} {x8 : Int32} {S0 : St} {S1 : St} (hF : F_X6_findSoonest_101 k53 k101 x3 x4 x5 x6 x7 x8 S0 S1 = some (r, T0)) {H : Heap} {locs : List Loc} (hP : va_P D vwCl (g6 q o0 a0 S0 ++ g8 q o1 a1 S1) H) (hD : va_D A (g6 q o0 a0 S0 ++ g8 q o1 a1 S1)) (hS : va_S A s.heap H locs) {ls : Array Slot} (hl : lv_has ls 10 [(0, .ref o0), (1, .ref o1), (3, .int x3), (4, .int x4), (5, .int x5), (6, .int x6), (7, .int x7), (8, .int x8)]) : W p l e rm_X6_findSoonest s m args below meth c H locs 0 0 (MQ below (QI D A r (g6 q o0 a0 T0 ++ g8 q o1 a1 S1)) args s 0 0 A) (F0 m 101 ls []) := by
  unfold F_X6_findSoonest_101 at hF
  obtain ⟨hx, hb, hr, hml, hown, hts, hlk, hA, hK, hN, hV⟩ := id C
  refine lv_iload hx hb dX6_findSoonest_101 (lv_at hl 7 rfl) ?_
  refine lv_aload_n hx hb dX6_findSoonest_103 rfl (lv_at hl 1 rfl) ?_
  refine k_get (v := .int (S1.1 0)) C fg_X6_56 hP 7 rfl rfl dX6_findSoonest_104 ?_
  refine lv_icmp_ge (tgt := 186) hx hb dX6_findSoonest_107 (by decide) (fun c1 => ?_) (fun c1 => ?_)
  · have hF := op_t hF c1
    refine lv_iinc (v := (x6 + 1)) (lv' := [(6, .int (x6 + 1)), (0, .ref o0), (1, .ref o1), (3, .int x3), (4, .int x4), (5, .int x5), (7, .int x7), (8, .int x8)]) hx hb dX6_findSoonest_186 hl (k := 5) rfl rfl (by decide) rfl (fun ls hl => ?_)
    refine lv_goto (tgt := 53) hx hb dX6_findSoonest_189 (by decide) ?_
    exact hk53 x3 x4 x5 (x6 + 1) S0 S1 hF _ _ _ hP hD hS (lv_sub hl [1, 2, 3, 4, 5, 0] rfl)
  · have hF := op_f hF c1
    refine lv_aload_n hx hb dX6_findSoonest_110 rfl (lv_at hl 1 rfl) ?_
    refine lv_iload hx hb dX6_findSoonest_111 (lv_at hl 6 rfl) ?_
    refine lv_iload hx hb dX6_findSoonest_113 (lv_at hl 7 rfl) ?_
    obtain ⟨r3, hc2, hF⟩ := ob1_s hF
    refine k_iro C (k_rV (As := [.int x7, .int x8]) (rest := []) C (c_X8_afterClimb l D q o1 a1 S1 _ x7 x8 hc2) kc_X8_afterClimb ml_X6_59 rfl rfl (by decide) (hP.sub (ws' := g8 q o1 a1 S1) [7, 8, 9, 10, 11, 12, 13, 14, 15, 16, 17] rfl) (hD.sub (ws' := g8 q o1 a1 S1) [7, 8, 9, 10, 11, 12, 13, 14, 15, 16, 17] (by decide) rfl) hS (va_recv hK hP (ci := 8) (q0 := 7) rfl rfl) rfl hl.1 rfl (Nat.le_of_ble_eq_true rfl) dX6_findSoonest_115 (by decide)) hP hD hS [7, 8, 9, 10, 11, 12, 13, 14, 15, 16, 17] rfl (fun H locs hP hD hS => ?_)
    refine lv_istore (lv' := [(9, .int r3), (0, .ref o0), (1, .ref o1), (3, .int x3), (4, .int x4), (5, .int x5), (6, .int x6), (7, .int x7), (8, .int x8)]) hx hb dX6_findSoonest_118 hl (by decide) rfl (fun ls hl => ?_)
    refine lv_iload_n hx hb dX6_findSoonest_120 rfl (lv_at hl 3 rfl) ?_
    refine lv_iload hx hb dX6_findSoonest_121 (lv_at hl 8 rfl) ?_
    refine lv_ishr hx hb dX6_findSoonest_123 ?_
    refine lv_iconst (v := (1 : Int32)) hx hb dX6_findSoonest_124 (by decide) ?_
    refine lv_iand hx hb dX6_findSoonest_125 ?_
    refine lv_iconst (v := (1 : Int32)) hx hb dX6_findSoonest_126 (by decide) ?_
    refine lv_icmp_ne (tgt := 180) hx hb dX6_findSoonest_127 (by decide) (fun c4 => ?_) (fun c4 => ?_)
    · have hF := op_f hF c4
      exact b_X6_findSoonest_180 C hk53 hk101 hF hP hD hS (lv_sub hl [1, 2, 3, 4, 5, 6, 7, 8] rfl)
    · have hF := op_t hF c4
      refine lv_aload_n hx hb dX6_findSoonest_130 rfl (lv_at hl 1 rfl) ?_
      refine k_get (v := .ref (a0 3)) C fg_X6_18 hP 0 rfl rfl dX6_findSoonest_131 ?_
      refine lv_iload hx hb dX6_findSoonest_134 (lv_at hl 0 rfl) ?_
      obtain ⟨h5, hF⟩ := op_ck hF
      refine k_ild (f := S0.2.2.1 2) C hP 3 rfl h5 dX6_findSoonest_136 ?_
      refine lv_bipush (v := (-2 : Int32)) hx hb dX6_findSoonest_137 (by decide) ?_
      refine lv_icmp_ne (tgt := 180) hx hb dX6_findSoonest_139 (by decide) (fun c6 => ?_) (fun c6 => ?_)
      · have hF := op_f hF c6
        exact b_X6_findSoonest_180 C hk53 hk101 hF hP hD hS (lv_sub hl [1, 2, 3, 4, 5, 6, 7, 8] rfl)
      · have hF := op_t hF c6
        refine lv_iload hx hb dX6_findSoonest_142 (lv_at hl 5 rfl) ?_
        refine lv_sipush (v := (256 : Int32)) hx hb dX6_findSoonest_144 (by decide) ?_
        refine lv_icmp_ge (tgt := 180) hx hb dX6_findSoonest_147 (by decide) (fun c7 => ?_) (fun c7 => ?_)
        · have hF := op_t hF c7
          exact b_X6_findSoonest_180 C hk53 hk101 hF hP hD hS (lv_sub hl [1, 2, 3, 4, 5, 6, 7, 8] rfl)
        · have hF := op_f hF c7
          refine lv_aload_n hx hb dX6_findSoonest_150 rfl (lv_at hl 1 rfl) ?_
          refine k_get (v := .ref (a0 3)) C fg_X6_18 hP 0 rfl rfl dX6_findSoonest_151 ?_
          refine lv_iload hx hb dX6_findSoonest_154 (lv_at hl 0 rfl) ?_
          refine lv_iload hx hb dX6_findSoonest_156 (lv_at hl 8 rfl) ?_
          obtain ⟨h8, hF⟩ := op_ck hF
          obtain ⟨U9, e10, hF⟩ := nw_s hF
          refine k_ist (f := S0.2.2.1 2) (W8 := g6 q o0 a0 U9 ++ g8 q o1 a1 S1) C hP hD hS 3 rfl h8 dX6_findSoonest_158 (by rw [e10]; rfl) (fun H locs hP hD hS => ?_)
          refine lv_aload_n hx hb dX6_findSoonest_159 rfl (lv_at hl 1 rfl) ?_
          refine k_get (v := .ref (a0 2)) C fg_X6_15 hP 0 rfl rfl dX6_findSoonest_160 ?_
          refine lv_iload hx hb dX6_findSoonest_163 (lv_at hl 0 rfl) ?_
          refine lv_iload hx hb dX6_findSoonest_165 (lv_at hl 7 rfl) ?_
          obtain ⟨h11, hF⟩ := op_ck hF
          obtain ⟨U12, e13, hF⟩ := nw_s hF
          refine k_ist (f := U9.2.2.1 1) (W8 := g6 q o0 a0 U12 ++ g8 q o1 a1 S1) C hP hD hS 2 rfl h11 dX6_findSoonest_167 (by rw [e13]; rfl) (fun H locs hP hD hS => ?_)
          refine lv_aload_n hx hb dX6_findSoonest_168 rfl (lv_at hl 1 rfl) ?_
          refine k_get (v := .ref (a0 1)) C fg_X6_9 hP 0 rfl rfl dX6_findSoonest_169 ?_
          refine lv_iload hx hb dX6_findSoonest_172 (lv_at hl 5 rfl) ?_
          refine lv_iload hx hb dX6_findSoonest_174 (lv_at hl 0 rfl) ?_
          obtain ⟨h14, hF⟩ := op_ck hF
          obtain ⟨U15, e16, hF⟩ := nw_s hF
          refine k_ist (f := U12.2.2.1 0) (W8 := g6 q o0 a0 U15 ++ g8 q o1 a1 S1) C hP hD hS 1 rfl h14 dX6_findSoonest_176 (by rw [e16]; rfl) (fun H locs hP hD hS => ?_)
          refine lv_iinc (v := (x5 + 1)) (lv' := [(5, .int (x5 + 1)), (9, .int r3), (0, .ref o0), (1, .ref o1), (3, .int x3), (4, .int x4), (6, .int x6), (7, .int x7), (8, .int x8)]) hx hb dX6_findSoonest_177 hl (k := 5) rfl rfl (by decide) rfl (fun ls hl => ?_)
          exact b_X6_findSoonest_180 C hk53 hk101 hF hP hD hS (lv_sub hl [2, 3, 4, 5, 0, 6, 7, 8] rfl)
set_option maxRecDepth 100000 in
set_option maxHeartbeats 4000000 in
theorem l_X6_findSoonest_101 {p : Program} {l : Launch} {e : Env} {s : State} {m : MethodId} {args : Array Value} {below : List Frame} {meth : Method} {c : Code} {D : va_G} {q : Nat → ClassId} {A : Nat → Prop} {o0 : Nat} {a0 : Nat → Nat} {o1 : Nat} {a1 : Nat → Nat} {r : Int32} {T0 : St} (C : cx p s m args meth c cX6_findSoonest 10 (some .int) RX6 D q A) {k53 : Int32 × Int32 × Int32 × Int32 × St × St → Option (Int32 × St)} (hk53 : ∀ (x3 : Int32) (x4 : Int32) (x5 : Int32) (x6 : Int32) (S0 : St) (S1 : St), k53 (x3, x4, x5, x6, S0, S1) = some (r, T0) → ∀ (H : Heap) (locs : List Loc) (ls : Array Slot), va_P D vwCl (g6 q o0 a0 S0 ++ g8 q o1 a1 S1) H → va_D A (g6 q o0 a0 S0 ++ g8 q o1 a1 S1) → va_S A s.heap H locs → lv_has ls 10 [(0, .ref o0), (1, .ref o1), (3, .int x3), (4, .int x4), (5, .int x5), (6, .int x6)] → W p l e rm_X6_findSoonest s m args below meth c H locs 0 0 (MQ below (QI D A r (g6 q o0 a0 T0 ++ g8 q o1 a1 S1)) args s 0 0 A) (F0 m 53 ls [])) {x3 : Int32} {x4 : Int32} {x5 : Int32} {x6 : Int32} {x7 : Int32} {x8 : Int32} {S0 : St} {S1 : St} (hF : L_X6_findSoonest_101 k53 x3 x4 x5 x6 x7 x8 S0 S1 = some (r, T0)) : ∀ (H : Heap) (locs : List Loc) (ls : Array Slot), va_P D vwCl (g6 q o0 a0 S0 ++ g8 q o1 a1 S1) H → va_D A (g6 q o0 a0 S0 ++ g8 q o1 a1 S1) → va_S A s.heap H locs → lv_has ls 10 [(0, .ref o0), (1, .ref o1), (3, .int x3), (4, .int x4), (5, .int x5), (6, .int x6), (7, .int x7), (8, .int x8)] → W p l e rm_X6_findSoonest s m args below meth c H locs 0 0 (MQ below (QI D A r (g6 q o0 a0 T0 ++ g8 q o1 a1 S1)) args s 0 0 A) (F0 m 101 ls []) :=
  lp_G _ _ (fun z => ∀ (H : Heap) (locs : List Loc) (ls : Array Slot), va_P D vwCl (g6 q o0 a0 z.2.2.2.2.2.2.1 ++ g8 q o1 a1 z.2.2.2.2.2.2.2) H → va_D A (g6 q o0 a0 z.2.2.2.2.2.2.1 ++ g8 q o1 a1 z.2.2.2.2.2.2.2) → va_S A s.heap H locs → lv_has ls 10 [(0, .ref o0), (1, .ref o1), (3, .int z.1), (4, .int z.2.1), (5, .int z.2.2.1), (6, .int z.2.2.2.1), (7, .int z.2.2.2.2.1), (8, .int z.2.2.2.2.2.1)] → W p l e rm_X6_findSoonest s m args below meth c H locs 0 0 (MQ below (QI D A r (g6 q o0 a0 T0 ++ g8 q o1 a1 z.2.2.2.2.2.2.2)) args s 0 0 A) (F0 m 101 ls [])) (fun kz hkz z hz H locs ls hP hD hS hl => b_X6_findSoonest_101 C hk53 (fun x3 x4 x5 x6 x7 x8 S0 S1 hz => hkz (x3, x4, x5, x6, x7, x8, S0, S1) hz) hz hP hD hS hl) FU (x3, x4, x5, x6, x7, x8, S0, S1) hF
set_option maxRecDepth 100000 in
set_option maxHeartbeats 4000000 in
theorem b_X6_findSoonest_53 {p : Program} {l : Launch} {e : Env} {s : State} {m : MethodId} {args : Array Value} {below : List Frame} {meth : Method} {c : Code} {D : va_G} {q : Nat → ClassId} {A : Nat → Prop} {o0 : Nat} {a0 : Nat → Nat} {o1 : Nat} {a1 : Nat → Nat} {r : Int32} {T0 : St} (C : cx p s m args meth c cX6_findSoonest 10 (some .int) RX6 D q A) {k53 : Int32 × Int32 × Int32 × Int32 × St × St → Option (Int32 × St)} (hk53 : ∀ (x3 : Int32) (x4 : Int32) (x5 : Int32) (x6 : Int32) (S0 : St) (S1 : St), k53 (x3, x4, x5, x6, S0, S1) = some (r, T0) → ∀ (H : Heap) (locs : List Loc) (ls : Array Slot), va_P D vwCl (g6 q o0 a0 S0 ++ g8 q o1 a1 S1) H → va_D A (g6 q o0 a0 S0 ++ g8 q o1 a1 S1) → va_S A s.heap H locs → lv_has ls 10 [(0, .ref o0), (1, .ref o1), (3, .int x3), (4, .int x4), (5, .int x5), (6, .int x6)] → W p l e rm_X6_findSoonest s m args below meth c H locs 0 0 (MQ below (QI D A r (g6 q o0 a0 T0 ++ g8 q o1 a1 S1)) args s 0 0 A) (F0 m 53 ls [])) {x3 : Int32} {x4 : Int32} {x5 : Int32} {x6 : Int32} {S0 : St} {S1 : St} (hF : F_X6_findSoonest_53 k53 x3 x4 x5 x6 S0 S1 = some (r, T0)) {H : Heap} {locs : List Loc} (hP : va_P D vwCl (g6 q o0 a0 S0 ++ g8 q o1 a1 S1) H) (hD : va_D A (g6 q o0 a0 S0 ++ g8 q o1 a1 S1)) (hS : va_S A s.heap H locs) {ls : Array Slot} (hl : lv_has ls 10 [(0, .ref o0), (1, .ref o1), (3, .int x3), (4, .int x4), (5, .int x5), (6, .int x6)]) : W p l e rm_X6_findSoonest s m args below meth c H locs 0 0 (MQ below (QI D A r (g6 q o0 a0 T0 ++ g8 q o1 a1 S1)) args s 0 0 A) (F0 m 53 ls []) := by
  unfold F_X6_findSoonest_53 at hF
  obtain ⟨hx, hb, hr, hml, hown, hts, hlk, hA, hK, hN, hV⟩ := id C
  refine lv_iload hx hb dX6_findSoonest_53 (lv_at hl 5 rfl) ?_
  refine lv_iload hx hb dX6_findSoonest_55 (lv_at hl 4 rfl) ?_
  refine lv_icmp_ge (tgt := 192) hx hb dX6_findSoonest_57 (by decide) (fun c1 => ?_) (fun c1 => ?_)
  · have hF := op_t hF c1
    refine lv_iconst (v := (-1 : Int32)) hx hb dX6_findSoonest_192 (by decide) ?_
    cases hF
    exact k_iret C hP hS dX6_findSoonest_193
  · have hF := op_f hF c1
    refine lv_iload hx hb dX6_findSoonest_60 (lv_at hl 5 rfl) ?_
    refine lv_sipush (v := (256 : Int32)) hx hb dX6_findSoonest_62 (by decide) ?_
    refine lv_icmp_ge (tgt := 192) hx hb dX6_findSoonest_65 (by decide) (fun c2 => ?_) (fun c2 => ?_)
    · have hF := op_t hF c2
      refine lv_iconst (v := (-1 : Int32)) hx hb dX6_findSoonest_192 (by decide) ?_
      cases hF
      exact k_iret C hP hS dX6_findSoonest_193
    · have hF := op_f hF c2
      refine lv_aload_n hx hb dX6_findSoonest_68 rfl (lv_at hl 0 rfl) ?_
      refine k_get (v := .ref (a0 1)) C fg_X6_9 hP 0 rfl rfl dX6_findSoonest_69 ?_
      refine lv_iload hx hb dX6_findSoonest_72 (lv_at hl 5 rfl) ?_
      obtain ⟨h3, hF⟩ := op_ck hF
      refine k_ild (f := S0.2.2.1 0) C hP 1 rfl h3 dX6_findSoonest_74 ?_
      refine lv_istore (lv' := [(7, .int (S0.2.2.1 0 x6.toNatClampNeg)), (0, .ref o0), (1, .ref o1), (3, .int x3), (4, .int x4), (5, .int x5), (6, .int x6)]) hx hb dX6_findSoonest_75 hl (by decide) rfl (fun ls hl => ?_)
      refine lv_iload hx hb dX6_findSoonest_77 (lv_at hl 0 rfl) ?_
      refine lv_iload hx hb dX6_findSoonest_79 (lv_at hl 4 rfl) ?_
      refine lv_iand hx hb dX6_findSoonest_81 ?_
      refine lv_iload hx hb dX6_findSoonest_82 (lv_at hl 4 rfl) ?_
      refine lv_icmp_ne (tgt := 98) hx hb dX6_findSoonest_84 (by decide) (fun c4 => ?_) (fun c4 => ?_)
      · have hF := op_f hF c4
        refine lv_iconst (v := (0 : Int32)) hx hb dX6_findSoonest_98 (by decide) ?_
        refine lv_istore (lv' := [(8, .int (0 : Int32)), (7, .int (S0.2.2.1 0 x6.toNatClampNeg)), (0, .ref o0), (1, .ref o1), (3, .int x3), (4, .int x4), (5, .int x5), (6, .int x6)]) hx hb dX6_findSoonest_99 hl (by decide) rfl (fun ls hl => ?_)
        exact l_X6_findSoonest_101 C hk53 hF _ _ _ hP hD hS (lv_sub hl [2, 3, 4, 5, 6, 7, 1, 0] rfl)
      · have hF := op_t hF c4
        refine lv_aload_n hx hb dX6_findSoonest_87 rfl (lv_at hl 1 rfl) ?_
        refine lv_iload hx hb dX6_findSoonest_88 (lv_at hl 0 rfl) ?_
        obtain ⟨U6, hc5, hF⟩ := ob1_s hF
        refine k_vpart (W8 := g6 q o0 a0 U6 ++ g8 q o1 a1 S1) C (k_rV (As := [.int (S0.2.2.1 0 x6.toNatClampNeg)]) (rest := []) C (c_X6_keepSoonest l D q o0 a0 S0 _ (S0.2.2.1 0 x6.toNatClampNeg) hc5) kc_X6_keepSoonest ml_X6_48 rfl rfl (by decide) (hP.sub (ws' := g6 q o0 a0 S0) [0, 1, 2, 3, 4, 5, 6] rfl) (hD.sub (ws' := g6 q o0 a0 S0) [0, 1, 2, 3, 4, 5, 6] (by decide) rfl) hS (va_recv hK hP (ci := 6) (q0 := 0) rfl rfl) rfl hl.1 rfl (Nat.le_of_ble_eq_true rfl) dX6_findSoonest_90 (by decide)) hP hD hS [0, 1, 2, 3, 4, 5, 6] [7, 8, 9, 10, 11, 12, 13, 14, 15, 16, 17] rfl rfl rfl rfl rfl rfl (fun H locs hP hD hS => ?_)
        refine lv_aload_n hx hb dX6_findSoonest_93 rfl (lv_at hl 1 rfl) ?_
        refine k_get (v := .int (U6.1 4)) C fg_X6_52 hP 0 rfl rfl dX6_findSoonest_94 ?_
        cases hF
        exact k_iret C hP hS dX6_findSoonest_97
set_option maxRecDepth 100000 in
set_option maxHeartbeats 4000000 in
theorem l_X6_findSoonest_53 {p : Program} {l : Launch} {e : Env} {s : State} {m : MethodId} {args : Array Value} {below : List Frame} {meth : Method} {c : Code} {D : va_G} {q : Nat → ClassId} {A : Nat → Prop} {o0 : Nat} {a0 : Nat → Nat} {o1 : Nat} {a1 : Nat → Nat} {r : Int32} {T0 : St} (C : cx p s m args meth c cX6_findSoonest 10 (some .int) RX6 D q A) {x3 : Int32} {x4 : Int32} {x5 : Int32} {x6 : Int32} {S0 : St} {S1 : St} (hF : L_X6_findSoonest_53 x3 x4 x5 x6 S0 S1 = some (r, T0)) : ∀ (H : Heap) (locs : List Loc) (ls : Array Slot), va_P D vwCl (g6 q o0 a0 S0 ++ g8 q o1 a1 S1) H → va_D A (g6 q o0 a0 S0 ++ g8 q o1 a1 S1) → va_S A s.heap H locs → lv_has ls 10 [(0, .ref o0), (1, .ref o1), (3, .int x3), (4, .int x4), (5, .int x5), (6, .int x6)] → W p l e rm_X6_findSoonest s m args below meth c H locs 0 0 (MQ below (QI D A r (g6 q o0 a0 T0 ++ g8 q o1 a1 S1)) args s 0 0 A) (F0 m 53 ls []) :=
  lp_G _ _ (fun z => ∀ (H : Heap) (locs : List Loc) (ls : Array Slot), va_P D vwCl (g6 q o0 a0 z.2.2.2.2.1 ++ g8 q o1 a1 z.2.2.2.2.2) H → va_D A (g6 q o0 a0 z.2.2.2.2.1 ++ g8 q o1 a1 z.2.2.2.2.2) → va_S A s.heap H locs → lv_has ls 10 [(0, .ref o0), (1, .ref o1), (3, .int z.1), (4, .int z.2.1), (5, .int z.2.2.1), (6, .int z.2.2.2.1)] → W p l e rm_X6_findSoonest s m args below meth c H locs 0 0 (MQ below (QI D A r (g6 q o0 a0 T0 ++ g8 q o1 a1 z.2.2.2.2.2)) args s 0 0 A) (F0 m 53 ls [])) (fun kz hkz z hz H locs ls hP hD hS hl => b_X6_findSoonest_53 C (fun x3 x4 x5 x6 S0 S1 hz => hkz (x3, x4, x5, x6, S0, S1) hz) hz hP hD hS hl) FU (x3, x4, x5, x6, S0, S1) hF
set_option maxRecDepth 100000 in
set_option maxHeartbeats 4000000 in
theorem c_X6_findSoonest (l : Launch) (D : va_G) (q : Nat → ClassId) (o0 : Nat) (a0 : Nat → Nat) (S0 : St) (o1 : Nat) (a1 : Nat → Nat) (S1 : St) (sz : Nat) (x2 : Int32) {r : Int32} {T0 : St} (hF : F_X6_findSoonest S0 S1 x2 = some (r, T0)) : Met l yX6_findSoonest (Cond.code yX6_findSoonest cX6_findSoonest 10 (some .int) :: TB) rm_X6_findSoonest (PC D q [.ref o0, .ref o1, .int x2] (g6 q o0 a0 S0 ++ g8 q o1 a1 S1) sz) ((fun A => QI D A r (g6 q o0 a0 T0 ++ g8 q o1 a1 S1)) (va_A (g6 q o0 a0 S0 ++ g8 q o1 a1 S1) sz)) 0 0 (va_A (g6 q o0 a0 S0 ++ g8 q o1 a1 S1) sz) := by
  refine k_met (w0 := g6 q o0 a0 S0 ++ g8 q o1 a1 S1) (Q := fun A => QI D A r (g6 q o0 a0 T0 ++ g8 q o1 a1 S1)) (by decide +kernel) (Nat.le_of_ble_eq_true rfl) ?_
  intro p e s m args below meth c A ls C hP hD hS hl
  have hl : lv_has ls 10 [(0, .ref o0), (1, .ref o1), (2, .int x2)] := hl
  unfold F_X6_findSoonest at hF
  have C : cx p s m args meth c cX6_findSoonest 10 (some .int) RX6 D q A := C
  obtain ⟨hx, hb, hr, hml, hown, hts, hlk, hA, hK, hN, hV⟩ := id C
  refine lv_aload_n hx hb dX6_findSoonest_0 rfl (lv_at hl 1 rfl) ?_
  refine lv_iload_n hx hb dX6_findSoonest_1 rfl (lv_at hl 2 rfl) ?_
  obtain ⟨r2, hc1, hF⟩ := ob1_s hF
  refine k_iro C (k_rV (As := [.int x2]) (rest := []) C (c_X8_climbable l D q o1 a1 S1 _ x2 hc1) kc_X8_climbable ml_X6_30 rfl rfl (by decide) (hP.sub (ws' := g8 q o1 a1 S1) [7, 8, 9, 10, 11, 12, 13, 14, 15, 16, 17] rfl) (hD.sub (ws' := g8 q o1 a1 S1) [7, 8, 9, 10, 11, 12, 13, 14, 15, 16, 17] (by decide) rfl) hS (va_recv hK hP (ci := 8) (q0 := 7) rfl rfl) rfl hl.1 rfl (Nat.le_of_ble_eq_true rfl) dX6_findSoonest_2 (by decide)) hP hD hS [7, 8, 9, 10, 11, 12, 13, 14, 15, 16, 17] rfl (fun H locs hP hD hS => ?_)
  refine lv_istore_n (lv' := [(3, .int r2), (0, .ref o0), (1, .ref o1), (2, .int x2)]) hx hb dX6_findSoonest_5 rfl hl (by decide) rfl (fun ls hl => ?_)
  refine lv_aload_n hx hb dX6_findSoonest_6 rfl (lv_at hl 2 rfl) ?_
  refine k_get (v := .ref (a1 11)) C fg_X6_36 hP 7 rfl rfl dX6_findSoonest_7 ?_
  refine lv_iload_n hx hb dX6_findSoonest_10 rfl (lv_at hl 3 rfl) ?_
  obtain ⟨h3, hF⟩ := op_ck hF
  refine k_ild (f := S1.2.2.1 10) C hP 14 rfl h3 dX6_findSoonest_11 ?_
  refine lv_istore (lv' := [(4, .int (S1.2.2.1 10 x2.toNatClampNeg)), (3, .int r2), (0, .ref o0), (1, .ref o1), (2, .int x2)]) hx hb dX6_findSoonest_12 hl (by decide) rfl (fun ls hl => ?_)
  refine lv_aload_n hx hb dX6_findSoonest_14 rfl (lv_at hl 2 rfl) ?_
  refine k_get (v := .ref (a0 3)) C fg_X6_18 hP 0 rfl rfl dX6_findSoonest_15 ?_
  refine lv_bipush (v := (-2 : Int32)) hx hb dX6_findSoonest_18 (by decide) ?_
  obtain ⟨U4, e5, hF⟩ := nw_s hF
  refine k_vpart (W8 := g6 q o0 a0 U4 ++ g8 q o1 a1 S1) C (k_rS (As := [.ref (a0 3), .int (-2 : Int32)]) (rest := []) C (c_fill l D q (a0 3) 256 (S0.2.2.1 2) _ (-2 : Int32) (by decide)) kc_J7_fill_53178 ml_X6_39 rfl rfl (by decide) (hP.sub (ws' := [((a0 3), .inl (q 1, 256, .inl (S0.2.2.1 2)))]) [3] rfl) (hD.sub (ws' := [((a0 3), .inl (q 1, 256, .inl (S0.2.2.1 2)))]) [3] (by decide) rfl) hS rfl hl.1 rfl (Nat.le_of_ble_eq_true rfl) dX6_findSoonest_20 (by decide)) hP hD hS [3] [0, 1, 2, 4, 5, 6, 7, 8, 9, 10, 11, 12, 13, 14, 15, 16, 17] rfl (by rw [e5]; rfl) (by rw [e5]; rfl) rfl (by rw [e5]; rfl) rfl (fun H locs hP hD hS => ?_)
  refine lv_aload_n hx hb dX6_findSoonest_23 rfl (lv_at hl 2 rfl) ?_
  refine k_get (v := .ref (a0 1)) C fg_X6_9 hP 0 rfl rfl dX6_findSoonest_24 ?_
  refine lv_iconst (v := (0 : Int32)) hx hb dX6_findSoonest_27 (by decide) ?_
  refine lv_aload_n hx hb dX6_findSoonest_28 rfl (lv_at hl 3 rfl) ?_
  refine k_get (v := .ref (a1 10)) C fg_X6_45 hP 7 rfl rfl dX6_findSoonest_29 ?_
  refine lv_iload_n hx hb dX6_findSoonest_32 rfl (lv_at hl 4 rfl) ?_
  obtain ⟨h6, hF⟩ := op_ck hF
  refine k_ild (f := S1.2.2.1 9) C hP 13 rfl h6 dX6_findSoonest_33 ?_
  obtain ⟨h7, hF⟩ := op_ck hF
  obtain ⟨U8, e9, hF⟩ := nw_s hF
  refine k_ist (f := U4.2.2.1 0) (W8 := g6 q o0 a0 U8 ++ g8 q o1 a1 S1) C hP hD hS 1 rfl h7 dX6_findSoonest_34 (by rw [e9]; rfl) (fun H locs hP hD hS => ?_)
  refine lv_aload_n hx hb dX6_findSoonest_35 rfl (lv_at hl 2 rfl) ?_
  refine k_get (v := .ref (a0 3)) C fg_X6_18 hP 0 rfl rfl dX6_findSoonest_36 ?_
  refine lv_aload_n hx hb dX6_findSoonest_39 rfl (lv_at hl 2 rfl) ?_
  refine k_get (v := .ref (a0 1)) C fg_X6_9 hP 0 rfl rfl dX6_findSoonest_40 ?_
  refine lv_iconst (v := (0 : Int32)) hx hb dX6_findSoonest_43 (by decide) ?_
  obtain ⟨h10, hF⟩ := op_ck hF
  refine k_ild (f := U8.2.2.1 0) C hP 1 rfl h10 dX6_findSoonest_44 ?_
  refine lv_iconst (v := (-1 : Int32)) hx hb dX6_findSoonest_45 (by decide) ?_
  obtain ⟨h11, hF⟩ := op_ck hF
  obtain ⟨U12, e13, hF⟩ := nw_s hF
  refine k_ist (f := U8.2.2.1 2) (W8 := g6 q o0 a0 U12 ++ g8 q o1 a1 S1) C hP hD hS 3 rfl h11 dX6_findSoonest_46 (by rw [e13]; rfl) (fun H locs hP hD hS => ?_)
  refine lv_iconst (v := (1 : Int32)) hx hb dX6_findSoonest_47 (by decide) ?_
  refine lv_istore (lv' := [(5, .int (1 : Int32)), (4, .int (S1.2.2.1 10 x2.toNatClampNeg)), (3, .int r2), (0, .ref o0), (1, .ref o1), (2, .int x2)]) hx hb dX6_findSoonest_48 hl (by decide) rfl (fun ls hl => ?_)
  refine lv_iconst (v := (0 : Int32)) hx hb dX6_findSoonest_50 (by decide) ?_
  refine lv_istore (lv' := [(6, .int (0 : Int32)), (5, .int (1 : Int32)), (4, .int (S1.2.2.1 10 x2.toNatClampNeg)), (3, .int r2), (0, .ref o0), (1, .ref o1), (2, .int x2)]) hx hb dX6_findSoonest_51 hl (by decide) rfl (fun ls hl => ?_)
  exact l_X6_findSoonest_53 C hF _ _ _ hP hD hS (lv_sub hl [4, 5, 3, 2, 1, 0] rfl)

abbrev rm_X6_countMade : Room := ({ frames := 4, cells := 0, slots := 0, locals := 96 } : Room)
def F_X6_countMade_76 (k9 : Int32 × Int32 × Int32 × Int32 × Int32 × St × St → Option (Int32 × St)) (k27 : Int32 × Int32 × Int32 × Int32 × Int32 × Int32 × St × St → Option (Int32 × St)) (x2 : Int32) (x3 : Int32) (x4 : Int32) (x5 : Int32) (x6 : Int32) (x7 : Int32) (S0 : St) (S1 : St) : Option (Int32 × St) := k27 (x2, x3, x4, x5, x6, (x7 + 1), S0, S1)
def F_X6_countMade_73 (k9 : Int32 × Int32 × Int32 × Int32 × Int32 × St × St → Option (Int32 × St)) (k27 : Int32 × Int32 × Int32 × Int32 × Int32 × Int32 × St × St → Option (Int32 × St)) (x2 : Int32) (x3 : Int32) (x4 : Int32) (x5 : Int32) (x6 : Int32) (x7 : Int32) (S0 : St) (S1 : St) : Option (Int32 × St) := F_X6_countMade_76 k9 k27 x2 x3 (x4 + 1) x5 x6 x7 S0 S1
def F_X6_countMade_27 (k9 : Int32 × Int32 × Int32 × Int32 × Int32 × St × St → Option (Int32 × St)) (k27 : Int32 × Int32 × Int32 × Int32 × Int32 × Int32 × St × St → Option (Int32 × St)) (x2 : Int32) (x3 : Int32) (x4 : Int32) (x5 : Int32) (x6 : Int32) (x7 : Int32) (S0 : St) (S1 : St) : Option (Int32 × St) := if x5 ≤ x7 then (k9 (x2, x3, x4, x5, (x6 + 1), S0, S1)) else (ob2 (F_X6_climbTried S0 S1 x2 x6 x7) fun r3 U4 => if r3 = x3 then (if x4 = 0 then (nw (sF U4 6 (U4.2.2.1 5)) fun U7 => nw (sI U7 7 x6) fun U9 => F_X6_countMade_73 k9 k27 x2 x3 x4 x5 x6 x7 U9 S1) else (F_X6_countMade_73 k9 k27 x2 x3 x4 x5 x6 x7 U4 S1)) else (F_X6_countMade_76 k9 k27 x2 x3 x4 x5 x6 x7 U4 S1))
def L_X6_countMade_27 (k9 : Int32 × Int32 × Int32 × Int32 × Int32 × St × St → Option (Int32 × St)) (x2 : Int32) (x3 : Int32) (x4 : Int32) (x5 : Int32) (x6 : Int32) (x7 : Int32) (S0 : St) (S1 : St) : Option (Int32 × St) := lp (fun kz z => F_X6_countMade_27 k9 kz z.1 z.2.1 z.2.2.1 z.2.2.2.1 z.2.2.2.2.1 z.2.2.2.2.2.1 z.2.2.2.2.2.2.1 z.2.2.2.2.2.2.2) FU (x2, x3, x4, x5, x6, x7, S0, S1)
def F_X6_countMade_9 (k9 : Int32 × Int32 × Int32 × Int32 × Int32 × St × St → Option (Int32 × St)) (x2 : Int32) (x3 : Int32) (x4 : Int32) (x5 : Int32) (x6 : Int32) (S0 : St) (S1 : St) : Option (Int32 × St) := if (3 : Int32) < x6 then (some (x4, S0)) else (L_X6_countMade_27 k9 x2 x3 x4 (x5 * (S1.1 0)) x6 (0 : Int32) S0 S1)
def L_X6_countMade_9 (x2 : Int32) (x3 : Int32) (x4 : Int32) (x5 : Int32) (x6 : Int32) (S0 : St) (S1 : St) : Option (Int32 × St) := lp (fun kz z => F_X6_countMade_9 kz z.1 z.2.1 z.2.2.1 z.2.2.2.1 z.2.2.2.2.1 z.2.2.2.2.2.1 z.2.2.2.2.2.2) FU (x2, x3, x4, x5, x6, S0, S1)
def F_X6_countMade (S0 : St) (S1 : St) (x2 : Int32) (x3 : Int32) : Option (Int32 × St) := L_X6_countMade_9 x2 x3 (0 : Int32) (1 : Int32) (1 : Int32) S0 S1
set_option maxRecDepth 100000 in
set_option maxHeartbeats 4000000 in
theorem b_X6_countMade_76 {p : Program} {l : Launch} {e : Env} {s : State} {m : MethodId} {args : Array Value} {below : List Frame} {meth : Method} {c : Code} {D : va_G} {q : Nat → ClassId} {A : Nat → Prop} {o0 : Nat} {a0 : Nat → Nat} {o1 : Nat} {a1 : Nat → Nat} {r : Int32} {T0 : St} (C : cx p s m args meth c cX6_countMade 8 (some .int) RX6 D q A) {k9 : Int32 × Int32 × Int32 × Int32 × Int32 × St × St → Option (Int32 × St)} (hk9 : ∀ (x2 : Int32) (x3 : Int32) (x4 : Int32) (x5 : Int32) (x6 : Int32) (S0 : St) (S1 : St), k9 (x2, x3, x4, x5, x6, S0, S1) = some (r, T0) → ∀ (H : Heap) (locs : List Loc) (ls : Array Slot), va_P D vwCl (g6 q o0 a0 S0 ++ g8 q o1 a1 S1) H → va_D A (g6 q o0 a0 S0 ++ g8 q o1 a1 S1) → va_S A s.heap H locs → lv_has ls 8 [(0, .ref o0), (1, .ref o1), (2, .int x2), (3, .int x3), (4, .int x4), (5, .int x5), (6, .int x6)] → W p l e rm_X6_countMade s m args below meth c H locs 0 0 (MQ below (QI D A r (g6 q o0 a0 T0 ++ g8 q o1 a1 S1)) args s 0 0 A) (F0 m 9 ls [])) {k27 : Int32 × Int32 × Int32 × Int32 × Int32 × Int32 × St × St → Option (Int32 × St)} (hk27 : ∀ (x2 : Int32) (x3 : Int32) (x4 : Int32) (x5 : Int32) (x6 : Int32) (x7 : Int32) (S0 : St) (S1 : St), k27 (x2, x3, x4, x5, x6, x7, S0, S1) = some (r, T0) → ∀ (H : Heap) (locs : List Loc) (ls : Array Slot), va_P D vwCl (g6 q o0 a0 S0 ++ g8 q o1 a1 S1) H → va_D A (g6 q o0 a0 S0 ++ g8 q o1 a1 S1) → va_S A s.heap H locs → lv_has ls 8 [(0, .ref o0), (1, .ref o1), (2, .int x2), (3, .int x3), (4, .int x4), (5, .int x5), (6, .int x6), (7, .int x7)] → W p l e rm_X6_countMade s m args below meth c H locs 0 0 (MQ below (QI D A r (g6 q o0 a0 T0 ++ g8 q o1 a1 S1)) args s 0 0 A) (F0 m 27 ls [])) {x2 : Int32} {x3 : Int32} {x4 : Int32} {x5 : Int32} {x6 : Int32} {x7 : Int32} {S0 : St} {S1 : St} (hF : F_X6_countMade_76 k9 k27 x2 x3 x4 x5 x6 x7 S0 S1 = some (r, T0)) {H : Heap} {locs : List Loc} (hP : va_P D vwCl (g6 q o0 a0 S0 ++ g8 q o1 a1 S1) H) (hD : va_D A (g6 q o0 a0 S0 ++ g8 q o1 a1 S1)) (hS : va_S A s.heap H locs) {ls : Array Slot} (hl : lv_has ls 8 [(0, .ref o0), (1, .ref o1), (2, .int x2), (3, .int x3), (4, .int x4), (5, .int x5), (6, .int x6), (7, .int x7)]) : W p l e rm_X6_countMade s m args below meth c H locs 0 0 (MQ below (QI D A r (g6 q o0 a0 T0 ++ g8 q o1 a1 S1)) args s 0 0 A) (F0 m 76 ls []) := by
  unfold F_X6_countMade_76 at hF
  obtain ⟨hx, hb, hr, hml, hown, hts, hlk, hA, hK, hN, hV⟩ := id C
  refine lv_iinc (v := (x7 + 1)) (lv' := [(7, .int (x7 + 1)), (0, .ref o0), (1, .ref o1), (2, .int x2), (3, .int x3), (4, .int x4), (5, .int x5), (6, .int x6)]) hx hb dX6_countMade_76 hl (k := 7) rfl rfl (by decide) rfl (fun ls hl => ?_)
  refine lv_goto (tgt := 27) hx hb dX6_countMade_79 (by decide) ?_
  exact hk27 x2 x3 x4 x5 x6 (x7 + 1) S0 S1 hF _ _ _ hP hD hS (lv_sub hl [1, 2, 3, 4, 5, 6, 7, 0] rfl)
set_option maxRecDepth 100000 in
set_option maxHeartbeats 4000000 in
theorem b_X6_countMade_73 {p : Program} {l : Launch} {e : Env} {s : State} {m : MethodId} {args : Array Value} {below : List Frame} {meth : Method} {c : Code} {D : va_G} {q : Nat → ClassId} {A : Nat → Prop} {o0 : Nat} {a0 : Nat → Nat} {o1 : Nat} {a1 : Nat → Nat} {r : Int32} {T0 : St} (C : cx p s m args meth c cX6_countMade 8 (some .int) RX6 D q A) {k9 : Int32 × Int32 × Int32 × Int32 × Int32 × St × St → Option (Int32 × St)} (hk9 : ∀ (x2 : Int32) (x3 : Int32) (x4 : Int32) (x5 : Int32) (x6 : Int32) (S0 : St) (S1 : St), k9 (x2, x3, x4, x5, x6, S0, S1) = some (r, T0) → ∀ (H : Heap) (locs : List Loc) (ls : Array Slot), va_P D vwCl (g6 q o0 a0 S0 ++ g8 q o1 a1 S1) H → va_D A (g6 q o0 a0 S0 ++ g8 q o1 a1 S1) → va_S A s.heap H locs → lv_has ls 8 [(0, .ref o0), (1, .ref o1), (2, .int x2), (3, .int x3), (4, .int x4), (5, .int x5), (6, .int x6)] → W p l e rm_X6_countMade s m args below meth c H locs 0 0 (MQ below (QI D A r (g6 q o0 a0 T0 ++ g8 q o1 a1 S1)) args s 0 0 A) (F0 m 9 ls [])) {k27 : Int32 × Int32 × Int32 × Int32 × Int32 × Int32 × St × St → Option (Int32 × St)} (hk27 : ∀ (x2 : Int32) (x3 : Int32) (x4 : Int32) (x5 : Int32) (x6 : Int32) (x7 : Int32) (S0 : St) (S1 : St), k27 (x2, x3, x4, x5, x6, x7, S0, S1) = some (r, T0) → ∀ (H : Heap) (locs : List Loc) (ls : Array Slot), va_P D vwCl (g6 q o0 a0 S0 ++ g8 q o1 a1 S1) H → va_D A (g6 q o0 a0 S0 ++ g8 q o1 a1 S1) → va_S A s.heap H locs → lv_has ls 8 [(0, .ref o0), (1, .ref o1), (2, .int x2), (3, .int x3), (4, .int x4), (5, .int x5), (6, .int x6), (7, .int x7)] → W p l e rm_X6_countMade s m args below meth c H locs 0 0 (MQ below (QI D A r (g6 q o0 a0 T0 ++ g8 q o1 a1 S1)) args s 0 0 A) (F0 m 27 ls [])) {x2 : Int32} {x3 : Int32} {x4 : Int32} {x5 : Int32} {x6 : Int32} {x7 : Int32} {S0 : St} {S1 : St} (hF : F_X6_countMade_73 k9 k27 x2 x3 x4 x5 x6 x7 S0 S1 = some (r, T0)) {H : Heap} {locs : List Loc} (hP : va_P D vwCl (g6 q o0 a0 S0 ++ g8 q o1 a1 S1) H) (hD : va_D A (g6 q o0 a0 S0 ++ g8 q o1 a1 S1)) (hS : va_S A s.heap H locs) {ls : Array Slot} (hl : lv_has ls 8 [(0, .ref o0), (1, .ref o1), (2, .int x2), (3, .int x3), (4, .int x4), (5, .int x5), (6, .int x6), (7, .int x7)]) : W p l e rm_X6_countMade s m args below meth c H locs 0 0 (MQ below (QI D A r (g6 q o0 a0 T0 ++ g8 q o1 a1 S1)) args s 0 0 A) (F0 m 73 ls []) := by
  unfold F_X6_countMade_73 at hF
  obtain ⟨hx, hb, hr, hml, hown, hts, hlk, hA, hK, hN, hV⟩ := id C
  refine lv_iinc (v := (x4 + 1)) (lv' := [(4, .int (x4 + 1)), (0, .ref o0), (1, .ref o1), (2, .int x2), (3, .int x3), (5, .int x5), (6, .int x6), (7, .int x7)]) hx hb dX6_countMade_73 hl (k := 4) rfl rfl (by decide) rfl (fun ls hl => ?_)
  exact b_X6_countMade_76 C hk9 hk27 hF hP hD hS (lv_sub hl [1, 2, 3, 4, 0, 5, 6, 7] rfl)
set_option maxRecDepth 100000 in
set_option maxHeartbeats 4000000 in
theorem b_X6_countMade_27 {p : Program} {l : Launch} {e : Env} {s : State} {m : MethodId} {args : Array Value} {below : List Frame} {meth : Method} {c : Code} {D : va_G} {q : Nat → ClassId} {A : Nat → Prop} {o0 : Nat} {a0 : Nat → Nat} {o1 : Nat} {a1 : Nat → Nat} {r : Int32} {T0 : St} (C : cx p s m args meth c cX6_countMade 8 (some .int) RX6 D q A) {k9 : Int32 × Int32 × Int32 × Int32 × Int32 × St × St → Option (Int32 × St)} (hk9 : ∀ (x2 : Int32) (x3 : Int32) (x4 : Int32) (x5 : Int32) (x6 : Int32) (S0 : St) (S1 : St), k9 (x2, x3, x4, x5, x6, S0, S1) = some (r, T0) → ∀ (H : Heap) (locs : List Loc) (ls : Array Slot), va_P D vwCl (g6 q o0 a0 S0 ++ g8 q o1 a1 S1) H → va_D A (g6 q o0 a0 S0 ++ g8 q o1 a1 S1) → va_S A s.heap H locs → lv_has ls 8 [(0, .ref o0), (1, .ref o1), (2, .int x2), (3, .int x3), (4, .int x4), (5, .int x5), (6, .int x6)] → W p l e rm_X6_countMade s m args below meth c H locs 0 0 (MQ below (QI D A r (g6 q o0 a0 T0 ++ g8 q o1 a1 S1)) args s 0 0 A) (F0 m 9 ls [])) {k27 : Int32 × Int32 × Int32 × Int32 × Int32 × Int32 × St × St → Option (Int32 × St)} (hk27 : ∀ (x2 : Int32) (x3 : Int32) (x4 : Int32) (x5 : Int32) (x6 : Int32) (x7 : Int32) (S0 : St) (S1 : St), k27 (x2, x3, x4, x5, x6, x7, S0, S1) = some (r, T0) → ∀ (H : Heap) (locs : List Loc) (ls : Array Slot), va_P D vwCl (g6 q o0 a0 S0 ++ g8 q o1 a1 S1) H → va_D A (g6 q o0 a0 S0 ++ g8 q o1 a1 S1) → va_S A s.heap H locs → lv_has ls 8 [(0, .ref o0), (1, .ref o1), (2, .int x2), (3, .int x3), (4, .int x4), (5, .int x5), (6, .int x6), (7, .int x7)] → W p l e rm_X6_countMade s m args below meth c H locs 0 0 (MQ below (QI D A r (g6 q o0 a0 T0 ++ g8 q o1 a1 S1)) args s 0 0 A) (F0 m 27 ls [])) {x2 : Int32} {x3 : Int32} {x4 : Int32} {x5 : Int32} {x6 : Int32} {x7 : Int32} {S0 : St} {S1 : St} (hF : F_X6_countMade_27 k9 k27 x2 x3 x4 x5 x6 x7 S0 S1 = some (r, T0)) {H : Heap} {locs : List Loc} (hP : va_P D vwCl (g6 q o0 a0 S0 ++ g8 q o1 a1 S1) H) (hD : va_D A (g6 q o0 a0 S0 ++ g8 q o1 a1 S1)) (hS : va_S A s.heap H locs) {ls : Array Slot} (hl : lv_has ls 8 [(0, .ref o0), (1, .ref o1), (2, .int x2), (3, .int x3), (4, .int x4), (5, .int x5), (6, .int x6), (7, .int x7)]) : W p l e rm_X6_countMade s m args below meth c H locs 0 0 (MQ below (QI D A r (g6 q o0 a0 T0 ++ g8 q o1 a1 S1)) args s 0 0 A) (F0 m 27 ls []) := by
  unfold F_X6_countMade_27 at hF
  obtain ⟨hx, hb, hr, hml, hown, hts, hlk, hA, hK, hN, hV⟩ := id C
  refine lv_iload hx hb dX6_countMade_27 (lv_at hl 7 rfl) ?_
  refine lv_iload hx hb dX6_countMade_29 (lv_at hl 5 rfl) ?_
  refine lv_icmp_ge (tgt := 82) hx hb dX6_countMade_31 (by decide) (fun c1 => ?_) (fun c1 => ?_)
  · have hF := op_t hF c1
    refine lv_iinc (v := (x6 + 1)) (lv' := [(6, .int (x6 + 1)), (0, .ref o0), (1, .ref o1), (2, .int x2), (3, .int x3), (4, .int x4), (5, .int x5), (7, .int x7)]) hx hb dX6_countMade_82 hl (k := 6) rfl rfl (by decide) rfl (fun ls hl => ?_)
    refine lv_goto (tgt := 9) hx hb dX6_countMade_85 (by decide) ?_
    exact hk9 x2 x3 x4 x5 (x6 + 1) S0 S1 hF _ _ _ hP hD hS (lv_sub hl [1, 2, 3, 4, 5, 6, 0] rfl)
  · have hF := op_f hF c1
    refine lv_aload_n hx hb dX6_countMade_34 rfl (lv_at hl 0 rfl) ?_
    refine lv_aload_n hx hb dX6_countMade_35 rfl (lv_at hl 1 rfl) ?_
    refine lv_iload_n hx hb dX6_countMade_36 rfl (lv_at hl 2 rfl) ?_
    refine lv_iload hx hb dX6_countMade_37 (lv_at hl 6 rfl) ?_
    refine lv_iload hx hb dX6_countMade_39 (lv_at hl 7 rfl) ?_
    obtain ⟨r3, U4, hc2, hF⟩ := ob2_s hF
    refine k_iall C (k_rV (As := [.ref o1, .int x2, .int x6, .int x7]) (rest := []) C (c_X6_climbTried l D q o0 a0 S0 o1 a1 S1 _ x2 x6 x7 hc2) kc_X6_climbTried ml_X6_63 rfl rfl (by decide) hP hD hS (va_recv hK hP (ci := 6) (q0 := 0) rfl rfl) rfl hl.1 rfl (Nat.le_of_ble_eq_true rfl) dX6_countMade_41 (by decide)) hP hD hS rfl (fun H locs hP hD hS => ?_)
    refine lv_iload_n hx hb dX6_countMade_44 rfl (lv_at hl 3 rfl) ?_
    refine lv_icmp_ne (tgt := 76) hx hb dX6_countMade_45 (by decide) (fun c5 => ?_) (fun c5 => ?_)
    · have hF := op_f hF c5
      exact b_X6_countMade_76 C hk9 hk27 hF hP hD hS (lv_sub hl [0, 1, 2, 3, 4, 5, 6, 7] rfl)
    · have hF := op_t hF c5
      refine lv_iload hx hb dX6_countMade_48 (lv_at hl 4 rfl) ?_
      refine lv_if_ne (tgt := 73) hx hb dX6_countMade_50 (by decide) (fun c6 => ?_) (fun c6 => ?_)
      · have hF := op_f hF c6
        exact b_X6_countMade_73 C hk9 hk27 hF hP hD hS (lv_sub hl [0, 1, 2, 3, 4, 5, 6, 7] rfl)
      · have hF := op_t hF c6
        refine lv_aload_n hx hb dX6_countMade_53 rfl (lv_at hl 0 rfl) ?_
        refine k_get (v := .ref (a0 6)) C fg_X6_24 hP 0 rfl rfl dX6_countMade_54 ?_
        refine lv_iconst (v := (0 : Int32)) hx hb dX6_countMade_57 (by decide) ?_
        refine lv_aload_n hx hb dX6_countMade_58 rfl (lv_at hl 0 rfl) ?_
        refine k_get (v := .ref (a0 7)) C fg_X6_27 hP 0 rfl rfl dX6_countMade_59 ?_
        refine lv_iconst (v := (0 : Int32)) hx hb dX6_countMade_62 (by decide) ?_
        refine lv_iconst (v := (3 : Int32)) hx hb dX6_countMade_63 (by decide) ?_
        obtain ⟨U7, e8, hF⟩ := nw_s hF
        refine k_cpi (f := U4.2.2.1 5) (g := U4.2.2.1 6) (W8 := g6 q o0 a0 U7 ++ g8 q o1 a1 S1) C ml_X6_67 hl.1 hP hD hS 5 6 rfl rfl ⟨by decide, by decide⟩ (Nat.le_of_ble_eq_true rfl) ⟨by decide, by decide⟩ dX6_countMade_64 (by rw [e8]; rfl) (fun H locs hP hD hS => ?_)
        refine lv_aload_n hx hb dX6_countMade_67 rfl (lv_at hl 0 rfl) ?_
        refine lv_iload hx hb dX6_countMade_68 (lv_at hl 6 rfl) ?_
        obtain ⟨U9, e10, hF⟩ := nw_s hF
        refine k_put (W8 := g6 q o0 a0 U9 ++ g8 q o1 a1 S1) C fp_X6_73 hP hD hS 0 rfl rfl rfl (Nat.le_of_ble_eq_true rfl) dX6_countMade_70 (by rw [e10]; rfl) (fun H locs hP hD hS => ?_)
        exact b_X6_countMade_73 C hk9 hk27 hF hP hD hS (lv_sub hl [0, 1, 2, 3, 4, 5, 6, 7] rfl)
set_option maxRecDepth 100000 in
set_option maxHeartbeats 4000000 in
theorem l_X6_countMade_27 {p : Program} {l : Launch} {e : Env} {s : State} {m : MethodId} {args : Array Value} {below : List Frame} {meth : Method} {c : Code} {D : va_G} {q : Nat → ClassId} {A : Nat → Prop} {o0 : Nat} {a0 : Nat → Nat} {o1 : Nat} {a1 : Nat → Nat} {r : Int32} {T0 : St} (C : cx p s m args meth c cX6_countMade 8 (some .int) RX6 D q A) {k9 : Int32 × Int32 × Int32 × Int32 × Int32 × St × St → Option (Int32 × St)} (hk9 : ∀ (x2 : Int32) (x3 : Int32) (x4 : Int32) (x5 : Int32) (x6 : Int32) (S0 : St) (S1 : St), k9 (x2, x3, x4, x5, x6, S0, S1) = some (r, T0) → ∀ (H : Heap) (locs : List Loc) (ls : Array Slot), va_P D vwCl (g6 q o0 a0 S0 ++ g8 q o1 a1 S1) H → va_D A (g6 q o0 a0 S0 ++ g8 q o1 a1 S1) → va_S A s.heap H locs → lv_has ls 8 [(0, .ref o0), (1, .ref o1), (2, .int x2), (3, .int x3), (4, .int x4), (5, .int x5), (6, .int x6)] → W p l e rm_X6_countMade s m args below meth c H locs 0 0 (MQ below (QI D A r (g6 q o0 a0 T0 ++ g8 q o1 a1 S1)) args s 0 0 A) (F0 m 9 ls [])) {x2 : Int32} {x3 : Int32} {x4 : Int32} {x5 : Int32} {x6 : Int32} {x7 : Int32} {S0 : St} {S1 : St} (hF : L_X6_countMade_27 k9 x2 x3 x4 x5 x6 x7 S0 S1 = some (r, T0)) : ∀ (H : Heap) (locs : List Loc) (ls : Array Slot), va_P D vwCl (g6 q o0 a0 S0 ++ g8 q o1 a1 S1) H → va_D A (g6 q o0 a0 S0 ++ g8 q o1 a1 S1) → va_S A s.heap H locs → lv_has ls 8 [(0, .ref o0), (1, .ref o1), (2, .int x2), (3, .int x3), (4, .int x4), (5, .int x5), (6, .int x6), (7, .int x7)] → W p l e rm_X6_countMade s m args below meth c H locs 0 0 (MQ below (QI D A r (g6 q o0 a0 T0 ++ g8 q o1 a1 S1)) args s 0 0 A) (F0 m 27 ls []) :=
  lp_G _ _ (fun z => ∀ (H : Heap) (locs : List Loc) (ls : Array Slot), va_P D vwCl (g6 q o0 a0 z.2.2.2.2.2.2.1 ++ g8 q o1 a1 z.2.2.2.2.2.2.2) H → va_D A (g6 q o0 a0 z.2.2.2.2.2.2.1 ++ g8 q o1 a1 z.2.2.2.2.2.2.2) → va_S A s.heap H locs → lv_has ls 8 [(0, .ref o0), (1, .ref o1), (2, .int z.1), (3, .int z.2.1), (4, .int z.2.2.1), (5, .int z.2.2.2.1), (6, .int z.2.2.2.2.1), (7, .int z.2.2.2.2.2.1)] → W p l e rm_X6_countMade s m args below meth c H locs 0 0 (MQ below (QI D A r (g6 q o0 a0 T0 ++ g8 q o1 a1 z.2.2.2.2.2.2.2)) args s 0 0 A) (F0 m 27 ls [])) (fun kz hkz z hz H locs ls hP hD hS hl => b_X6_countMade_27 C hk9 (fun x2 x3 x4 x5 x6 x7 S0 S1 hz => hkz (x2, x3, x4, x5, x6, x7, S0, S1) hz) hz hP hD hS hl) FU (x2, x3, x4, x5, x6, x7, S0, S1) hF
set_option maxRecDepth 100000 in
set_option maxHeartbeats 4000000 in
theorem b_X6_countMade_9 {p : Program} {l : Launch} {e : Env} {s : State} {m : MethodId} {args : Array Value} {below : List Frame} {meth : Method} {c : Code} {D : va_G} {q : Nat → ClassId} {A : Nat → Prop} {o0 : Nat} {a0 : Nat → Nat} {o1 : Nat} {a1 : Nat → Nat} {r : Int32} {T0 : St} (C : cx p s m args meth c cX6_countMade 8 (some .int) RX6 D q A) {k9 : Int32 × Int32 × Int32 × Int32 × Int32 × St × St → Option (Int32 × St)} (hk9 : ∀ (x2 : Int32) (x3 : Int32) (x4 : Int32) (x5 : Int32) (x6 : Int32) (S0 : St) (S1 : St), k9 (x2, x3, x4, x5, x6, S0, S1) = some (r, T0) → ∀ (H : Heap) (locs : List Loc) (ls : Array Slot), va_P D vwCl (g6 q o0 a0 S0 ++ g8 q o1 a1 S1) H → va_D A (g6 q o0 a0 S0 ++ g8 q o1 a1 S1) → va_S A s.heap H locs → lv_has ls 8 [(0, .ref o0), (1, .ref o1), (2, .int x2), (3, .int x3), (4, .int x4), (5, .int x5), (6, .int x6)] → W p l e rm_X6_countMade s m args below meth c H locs 0 0 (MQ below (QI D A r (g6 q o0 a0 T0 ++ g8 q o1 a1 S1)) args s 0 0 A) (F0 m 9 ls [])) {x2 : Int32} {x3 : Int32} {x4 : Int32} {x5 : Int32} {x6 : Int32} {S0 : St} {S1 : St} (hF : F_X6_countMade_9 k9 x2 x3 x4 x5 x6 S0 S1 = some (r, T0)) {H : Heap} {locs : List Loc} (hP : va_P D vwCl (g6 q o0 a0 S0 ++ g8 q o1 a1 S1) H) (hD : va_D A (g6 q o0 a0 S0 ++ g8 q o1 a1 S1)) (hS : va_S A s.heap H locs) {ls : Array Slot} (hl : lv_has ls 8 [(0, .ref o0), (1, .ref o1), (2, .int x2), (3, .int x3), (4, .int x4), (5, .int x5), (6, .int x6)]) : W p l e rm_X6_countMade s m args below meth c H locs 0 0 (MQ below (QI D A r (g6 q o0 a0 T0 ++ g8 q o1 a1 S1)) args s 0 0 A) (F0 m 9 ls []) := by
  unfold F_X6_countMade_9 at hF
  obtain ⟨hx, hb, hr, hml, hown, hts, hlk, hA, hK, hN, hV⟩ := id C
  refine lv_iload hx hb dX6_countMade_9 (lv_at hl 6 rfl) ?_
  refine lv_iconst (v := (3 : Int32)) hx hb dX6_countMade_11 (by decide) ?_
  refine lv_icmp_gt (tgt := 88) hx hb dX6_countMade_12 (by decide) (fun c1 => ?_) (fun c1 => ?_)
  · have hF := op_t hF c1
    refine lv_iload hx hb dX6_countMade_88 (lv_at hl 4 rfl) ?_
    cases hF
    exact k_iret C hP hS dX6_countMade_90
  · have hF := op_f hF c1
    refine lv_iload hx hb dX6_countMade_15 (lv_at hl 5 rfl) ?_
    refine lv_aload_n hx hb dX6_countMade_17 rfl (lv_at hl 1 rfl) ?_
    refine k_get (v := .int (S1.1 0)) C fg_X6_56 hP 7 rfl rfl dX6_countMade_18 ?_
    refine lv_imul hx hb dX6_countMade_21 ?_
    refine lv_istore (lv' := [(5, .int (x5 * (S1.1 0))), (0, .ref o0), (1, .ref o1), (2, .int x2), (3, .int x3), (4, .int x4), (6, .int x6)]) hx hb dX6_countMade_22 hl (by decide) rfl (fun ls hl => ?_)
    refine lv_iconst (v := (0 : Int32)) hx hb dX6_countMade_24 (by decide) ?_
    refine lv_istore (lv' := [(7, .int (0 : Int32)), (5, .int (x5 * (S1.1 0))), (0, .ref o0), (1, .ref o1), (2, .int x2), (3, .int x3), (4, .int x4), (6, .int x6)]) hx hb dX6_countMade_25 hl (by decide) rfl (fun ls hl => ?_)
    exact l_X6_countMade_27 C hk9 hF _ _ _ hP hD hS (lv_sub hl [2, 3, 4, 5, 6, 1, 7, 0] rfl)
set_option maxRecDepth 100000 in
set_option maxHeartbeats 4000000 in
theorem l_X6_countMade_9 {p : Program} {l : Launch} {e : Env} {s : State} {m : MethodId} {args : Array Value} {below : List Frame} {meth : Method} {c : Code} {D : va_G} {q : Nat → ClassId} {A : Nat → Prop} {o0 : Nat} {a0 : Nat → Nat} {o1 : Nat} {a1 : Nat → Nat} {r : Int32} {T0 : St} (C : cx p s m args meth c cX6_countMade 8 (some .int) RX6 D q A) {x2 : Int32} {x3 : Int32} {x4 : Int32} {x5 : Int32} {x6 : Int32} {S0 : St} {S1 : St} (hF : L_X6_countMade_9 x2 x3 x4 x5 x6 S0 S1 = some (r, T0)) : ∀ (H : Heap) (locs : List Loc) (ls : Array Slot), va_P D vwCl (g6 q o0 a0 S0 ++ g8 q o1 a1 S1) H → va_D A (g6 q o0 a0 S0 ++ g8 q o1 a1 S1) → va_S A s.heap H locs → lv_has ls 8 [(0, .ref o0), (1, .ref o1), (2, .int x2), (3, .int x3), (4, .int x4), (5, .int x5), (6, .int x6)] → W p l e rm_X6_countMade s m args below meth c H locs 0 0 (MQ below (QI D A r (g6 q o0 a0 T0 ++ g8 q o1 a1 S1)) args s 0 0 A) (F0 m 9 ls []) :=
  lp_G _ _ (fun z => ∀ (H : Heap) (locs : List Loc) (ls : Array Slot), va_P D vwCl (g6 q o0 a0 z.2.2.2.2.2.1 ++ g8 q o1 a1 z.2.2.2.2.2.2) H → va_D A (g6 q o0 a0 z.2.2.2.2.2.1 ++ g8 q o1 a1 z.2.2.2.2.2.2) → va_S A s.heap H locs → lv_has ls 8 [(0, .ref o0), (1, .ref o1), (2, .int z.1), (3, .int z.2.1), (4, .int z.2.2.1), (5, .int z.2.2.2.1), (6, .int z.2.2.2.2.1)] → W p l e rm_X6_countMade s m args below meth c H locs 0 0 (MQ below (QI D A r (g6 q o0 a0 T0 ++ g8 q o1 a1 z.2.2.2.2.2.2)) args s 0 0 A) (F0 m 9 ls [])) (fun kz hkz z hz H locs ls hP hD hS hl => b_X6_countMade_9 C (fun x2 x3 x4 x5 x6 S0 S1 hz => hkz (x2, x3, x4, x5, x6, S0, S1) hz) hz hP hD hS hl) FU (x2, x3, x4, x5, x6, S0, S1) hF
set_option maxRecDepth 100000 in
set_option maxHeartbeats 4000000 in
theorem c_X6_countMade (l : Launch) (D : va_G) (q : Nat → ClassId) (o0 : Nat) (a0 : Nat → Nat) (S0 : St) (o1 : Nat) (a1 : Nat → Nat) (S1 : St) (sz : Nat) (x2 : Int32) (x3 : Int32) {r : Int32} {T0 : St} (hF : F_X6_countMade S0 S1 x2 x3 = some (r, T0)) : Met l yX6_countMade (Cond.code yX6_countMade cX6_countMade 8 (some .int) :: TB) rm_X6_countMade (PC D q [.ref o0, .ref o1, .int x2, .int x3] (g6 q o0 a0 S0 ++ g8 q o1 a1 S1) sz) ((fun A => QI D A r (g6 q o0 a0 T0 ++ g8 q o1 a1 S1)) (va_A (g6 q o0 a0 S0 ++ g8 q o1 a1 S1) sz)) 0 0 (va_A (g6 q o0 a0 S0 ++ g8 q o1 a1 S1) sz) := by
  refine k_met (w0 := g6 q o0 a0 S0 ++ g8 q o1 a1 S1) (Q := fun A => QI D A r (g6 q o0 a0 T0 ++ g8 q o1 a1 S1)) (by decide +kernel) (Nat.le_of_ble_eq_true rfl) ?_
  intro p e s m args below meth c A ls C hP hD hS hl
  have hl : lv_has ls 8 [(0, .ref o0), (1, .ref o1), (2, .int x2), (3, .int x3)] := hl
  unfold F_X6_countMade at hF
  have C : cx p s m args meth c cX6_countMade 8 (some .int) RX6 D q A := C
  obtain ⟨hx, hb, hr, hml, hown, hts, hlk, hA, hK, hN, hV⟩ := id C
  refine lv_iconst (v := (0 : Int32)) hx hb dX6_countMade_0 (by decide) ?_
  refine lv_istore (lv' := [(4, .int (0 : Int32)), (0, .ref o0), (1, .ref o1), (2, .int x2), (3, .int x3)]) hx hb dX6_countMade_1 hl (by decide) rfl (fun ls hl => ?_)
  refine lv_iconst (v := (1 : Int32)) hx hb dX6_countMade_3 (by decide) ?_
  refine lv_istore (lv' := [(5, .int (1 : Int32)), (4, .int (0 : Int32)), (0, .ref o0), (1, .ref o1), (2, .int x2), (3, .int x3)]) hx hb dX6_countMade_4 hl (by decide) rfl (fun ls hl => ?_)
  refine lv_iconst (v := (1 : Int32)) hx hb dX6_countMade_6 (by decide) ?_
  refine lv_istore (lv' := [(6, .int (1 : Int32)), (5, .int (1 : Int32)), (4, .int (0 : Int32)), (0, .ref o0), (1, .ref o1), (2, .int x2), (3, .int x3)]) hx hb dX6_countMade_7 hl (by decide) rfl (fun ls hl => ?_)
  exact l_X6_countMade_9 C hF _ _ _ hP hD hS (lv_sub hl [3, 4, 5, 6, 2, 1, 0] rfl)

abbrev rm_X7_copyFrom : Room := ({ frames := 1, cells := 0, slots := 0, locals := 80 } : Room)
def F_X7_copyFrom (S0 : St) (S1 : St) : Option (St) := nw (sF S0 0 (S1.2.2.1 0)) fun U1 => nw (sF U1 1 (S1.2.2.1 1)) fun U3 => nw (sF U3 2 (S1.2.2.1 2)) fun U5 => nw (sI U5 3 (S1.1 3)) fun U7 => nw (sI U7 4 (S1.1 4)) fun U9 => some (U9)
set_option maxRecDepth 100000 in
set_option maxHeartbeats 4000000 in
theorem c_X7_copyFrom (l : Launch) (D : va_G) (q : Nat → ClassId) (o0 : Nat) (a0 : Nat → Nat) (S0 : St) (o1 : Nat) (a1 : Nat → Nat) (S1 : St) (sz : Nat) {T0 : St} (hF : F_X7_copyFrom S0 S1 = some (T0)) : Met l yX7_copyFrom (Cond.code yX7_copyFrom cX7_copyFrom 2 none :: TB) rm_X7_copyFrom (PC D q [.ref o0, .ref o1] (g7 q o0 a0 S0 ++ g7 q o1 a1 S1) sz) ((fun A => QV D A (g7 q o0 a0 T0 ++ g7 q o1 a1 S1)) (va_A (g7 q o0 a0 S0 ++ g7 q o1 a1 S1) sz)) 0 0 (va_A (g7 q o0 a0 S0 ++ g7 q o1 a1 S1) sz) := by
  refine k_met (w0 := g7 q o0 a0 S0 ++ g7 q o1 a1 S1) (Q := fun A => QV D A (g7 q o0 a0 T0 ++ g7 q o1 a1 S1)) (by decide +kernel) (Nat.le_of_ble_eq_true rfl) ?_
  intro p e s m args below meth c A ls C hP hD hS hl
  have hl : lv_has ls 2 [(0, .ref o0), (1, .ref o1)] := hl
  unfold F_X7_copyFrom at hF
  have C : cx p s m args meth c cX7_copyFrom 2 none RX7 D q A := C
  obtain ⟨hx, hb, hr, hml, hown, hts, hlk, hA, hK, hN, hV⟩ := id C
  refine lv_aload_n hx hb dX7_copyFrom_0 rfl (lv_at hl 1 rfl) ?_
  refine k_get (v := .ref (a1 1)) C fg_X7_9 hP 4 rfl rfl dX7_copyFrom_1 ?_
  refine lv_iconst (v := (0 : Int32)) hx hb dX7_copyFrom_4 (by decide) ?_
  refine lv_aload_n hx hb dX7_copyFrom_5 rfl (lv_at hl 0 rfl) ?_
  refine k_get (v := .ref (a0 1)) C fg_X7_9 hP 0 rfl rfl dX7_copyFrom_6 ?_
  refine lv_iconst (v := (0 : Int32)) hx hb dX7_copyFrom_9 (by decide) ?_
  refine lv_bipush (v := (40 : Int32)) hx hb dX7_copyFrom_10 (by decide) ?_
  obtain ⟨U1, e2, hF⟩ := nw_s hF
  refine k_cpi (f := S1.2.2.1 0) (g := S0.2.2.1 0) (W8 := g7 q o0 a0 U1 ++ g7 q o1 a1 S1) C ml_X7_28 hl.1 hP hD hS 5 1 rfl rfl ⟨by decide, by decide⟩ (Nat.le_of_ble_eq_true rfl) ⟨by decide, by decide⟩ dX7_copyFrom_12 (by rw [e2]; rfl) (fun H locs hP hD hS => ?_)
  refine lv_aload_n hx hb dX7_copyFrom_15 rfl (lv_at hl 1 rfl) ?_
  refine k_get (v := .ref (a1 2)) C fg_X7_15 hP 4 rfl rfl dX7_copyFrom_16 ?_
  refine lv_iconst (v := (0 : Int32)) hx hb dX7_copyFrom_19 (by decide) ?_
  refine lv_aload_n hx hb dX7_copyFrom_20 rfl (lv_at hl 0 rfl) ?_
  refine k_get (v := .ref (a0 2)) C fg_X7_15 hP 0 rfl rfl dX7_copyFrom_21 ?_
  refine lv_iconst (v := (0 : Int32)) hx hb dX7_copyFrom_24 (by decide) ?_
  refine lv_bipush (v := (40 : Int32)) hx hb dX7_copyFrom_25 (by decide) ?_
  obtain ⟨U3, e4, hF⟩ := nw_s hF
  refine k_cpi (f := S1.2.2.1 1) (g := U1.2.2.1 1) (W8 := g7 q o0 a0 U3 ++ g7 q o1 a1 S1) C ml_X7_28 hl.1 hP hD hS 6 2 rfl rfl ⟨by decide, by decide⟩ (Nat.le_of_ble_eq_true rfl) ⟨by decide, by decide⟩ dX7_copyFrom_27 (by rw [e4]; rfl) (fun H locs hP hD hS => ?_)
  refine lv_aload_n hx hb dX7_copyFrom_30 rfl (lv_at hl 1 rfl) ?_
  refine k_get (v := .ref (a1 3)) C fg_X7_18 hP 4 rfl rfl dX7_copyFrom_31 ?_
  refine lv_iconst (v := (0 : Int32)) hx hb dX7_copyFrom_34 (by decide) ?_
  refine lv_aload_n hx hb dX7_copyFrom_35 rfl (lv_at hl 0 rfl) ?_
  refine k_get (v := .ref (a0 3)) C fg_X7_18 hP 0 rfl rfl dX7_copyFrom_36 ?_
  refine lv_iconst (v := (0 : Int32)) hx hb dX7_copyFrom_39 (by decide) ?_
  refine lv_bipush (v := (40 : Int32)) hx hb dX7_copyFrom_40 (by decide) ?_
  obtain ⟨U5, e6, hF⟩ := nw_s hF
  refine k_cpi (f := S1.2.2.1 2) (g := U3.2.2.1 2) (W8 := g7 q o0 a0 U5 ++ g7 q o1 a1 S1) C ml_X7_28 hl.1 hP hD hS 7 3 rfl rfl ⟨by decide, by decide⟩ (Nat.le_of_ble_eq_true rfl) ⟨by decide, by decide⟩ dX7_copyFrom_42 (by rw [e6]; rfl) (fun H locs hP hD hS => ?_)
  refine lv_aload_n hx hb dX7_copyFrom_45 rfl (lv_at hl 0 rfl) ?_
  refine lv_aload_n hx hb dX7_copyFrom_46 rfl (lv_at hl 1 rfl) ?_
  refine k_get (v := .int (S1.1 3)) C fg_X7_21 hP 4 rfl rfl dX7_copyFrom_47 ?_
  obtain ⟨U7, e8, hF⟩ := nw_s hF
  refine k_put (W8 := g7 q o0 a0 U7 ++ g7 q o1 a1 S1) C fp_X7_21 hP hD hS 0 rfl rfl rfl (Nat.le_of_ble_eq_true rfl) dX7_copyFrom_50 (by rw [e8]; rfl) (fun H locs hP hD hS => ?_)
  refine lv_aload_n hx hb dX7_copyFrom_53 rfl (lv_at hl 0 rfl) ?_
  refine lv_aload_n hx hb dX7_copyFrom_54 rfl (lv_at hl 1 rfl) ?_
  refine k_get (v := .int (S1.1 4)) C fg_X7_25 hP 4 rfl rfl dX7_copyFrom_55 ?_
  obtain ⟨U9, e10, hF⟩ := nw_s hF
  refine k_put (W8 := g7 q o0 a0 U9 ++ g7 q o1 a1 S1) C fp_X7_25 hP hD hS 0 rfl rfl rfl (Nat.le_of_ble_eq_true rfl) dX7_copyFrom_58 (by rw [e10]; rfl) (fun H locs hP hD hS => ?_)
  cases hF
  exact k_vret C hP hS dX7_copyFrom_61

abbrev rm_X7_readOne : Room := ({ frames := 3, cells := 0, slots := 0, locals := 70 } : Room)
def F_X7_readOne_48 (f_X7_readCond : St → St → St → Int32 → Option (St × St)) (f_X7_readOne : St → St → St → Int32 → Option (St × St)) (x3 : Int32) (S0 : St) (S1 : St) (S2 : St) : Option (St × St) := if (S1.1 8) = 0 then (nw (sI S0 4 ((S0.1 4) + (1 : Int32))) fun U2 => ob2 (F_X5_takeMark S1 (40 : Int32)) fun r5 U6 => if r5 = 0 then (ob2 (F_X5_takeWord U6 (26 : Int32)) fun r9 U10 => if r9 = 0 then (ob2 (F_X7_readPlain U2 U10 S2) fun U13 U14 => some (U13, U14)) else (ob2 (f_X7_readOne U2 U10 S2 (x3 + (1 : Int32))) fun U16 U17 => ob1 (F_X7_addStep U16 (26 : Int32) (0 : Int32) (0 : Int32)) fun U19 => some (U19, U17))) else (ob2 (f_X7_readCond U2 U6 S2 (x3 + (1 : Int32))) fun U21 U22 => ob1 (F_X5_needMark U22 (41 : Int32)) fun U24 => some (U21, U24))) else (some (S0, S1))
def F_X7_readOne_43 (f_X7_readCond : St → St → St → Int32 → Option (St × St)) (f_X7_readOne : St → St → St → Int32 → Option (St × St)) (x3 : Int32) (S0 : St) (S1 : St) (S2 : St) : Option (St × St) := ob1 (F_X5_fail S1 (4 : Int32)) fun U2 => F_X7_readOne_48 f_X7_readCond f_X7_readOne x3 S0 U2 S2
def F_X7_readOne_28 (f_X7_readCond : St → St → St → Int32 → Option (St × St)) (f_X7_readOne : St → St → St → Int32 → Option (St × St)) (x3 : Int32) (S0 : St) (S1 : St) (S2 : St) : Option (St × St) := if (20 : Int32) ≤ (S0.1 4) then (F_X7_readOne_43 f_X7_readCond f_X7_readOne x3 S0 S1 S2) else (if x3 ≤ (8 : Int32) then (F_X7_readOne_48 f_X7_readCond f_X7_readOne x3 S0 S1 S2) else (F_X7_readOne_43 f_X7_readCond f_X7_readOne x3 S0 S1 S2))
def F_X7_readOne (f_X7_readCond : St → St → St → Int32 → Option (St × St)) (f_X7_readOne : St → St → St → Int32 → Option (St × St)) (S0 : St) (S1 : St) (S2 : St) (x3 : Int32) : Option (St × St) := ob1 (F_X5_isMark S1 (40 : Int32)) fun r2 => if r2 = 0 then (ob1 (F_X5_isWordFrom S1 (26 : Int32) (10 : Int32)) fun r5 => if r5 = 0 then (ob1 (F_X5_fail S1 (1 : Int32)) fun U8 => F_X7_readOne_48 f_X7_readCond f_X7_readOne x3 S0 U8 S2) else (F_X7_readOne_28 f_X7_readCond f_X7_readOne x3 S0 S1 S2)) else (F_X7_readOne_28 f_X7_readCond f_X7_readOne x3 S0 S1 S2)
set_option maxRecDepth 100000 in
set_option maxHeartbeats 4000000 in
theorem b_X7_readOne_48 {p : Program} {l : Launch} {e : Env} {s : State} {m : MethodId} {args : Array Value} {below : List Frame} {meth : Method} {c : Code} {D : va_G} {q : Nat → ClassId} {A : Nat → Prop} {tp : Nat} {o0 : Nat} {a0 : Nat → Nat} {o1 : Nat} {a1 : Nat → Nat} {o2 : Nat} {a2 : Nat → Nat} {T0 : St} {T1 : St} (C : cx p s m args meth c cX7_readOne 4 none RX7 D q A) {R : Room} (hR0 : 3 ≤ R.frames ∧ 70 ≤ R.locals) {f_X7_readCond : St → St → St → Int32 → Option (St × St)} {rm_X7_readCond : Room} (hm_X7_readCond : ∀ (sz : Nat) (S0 S1 S2 : St) (x3 : Int32) (T0 T1 : St), f_X7_readCond S0 S1 S2 x3 = some (T0, T1) → Met l yX7_readCond (Cond.code yX7_readCond cX7_readCond 5 none :: TB) rm_X7_readCond (PC D q [.ref o0, .ref o1, .ref o2, .int x3] (g7 q o0 a0 S0 ++ g5 q o1 a1 tp S1 ++ g8 q o2 a2 S2) sz) (QV D (va_A (g7 q o0 a0 S0 ++ g5 q o1 a1 tp S1 ++ g8 q o2 a2 S2) sz) (g7 q o0 a0 T0 ++ g5 q o1 a1 tp T1 ++ g8 q o2 a2 S2)) 0 0 (va_A (g7 q o0 a0 S0 ++ g5 q o1 a1 tp S1 ++ g8 q o2 a2 S2) sz)) (hz_X7_readCond : rm_X7_readCond.cells = 0 ∧ rm_X7_readCond.slots = 0) (hr_X7_readCond : rm_X7_readCond.frames + 1 ≤ R.frames ∧ 8 + (5 + 11) + rm_X7_readCond.locals ≤ R.locals) {f_X7_readOne : St → St → St → Int32 → Option (St × St)} {rm_X7_readOne : Room} (hm_X7_readOne : ∀ (sz : Nat) (S0 S1 S2 : St) (x3 : Int32) (T0 T1 : St), f_X7_readOne S0 S1 S2 x3 = some (T0, T1) → Met l yX7_readOne (Cond.code yX7_readOne cX7_readOne 4 none :: TB) rm_X7_readOne (PC D q [.ref o0, .ref o1, .ref o2, .int x3] (g7 q o0 a0 S0 ++ g5 q o1 a1 tp S1 ++ g8 q o2 a2 S2) sz) (QV D (va_A (g7 q o0 a0 S0 ++ g5 q o1 a1 tp S1 ++ g8 q o2 a2 S2) sz) (g7 q o0 a0 T0 ++ g5 q o1 a1 tp T1 ++ g8 q o2 a2 S2)) 0 0 (va_A (g7 q o0 a0 S0 ++ g5 q o1 a1 tp S1 ++ g8 q o2 a2 S2) sz)) (hz_X7_readOne : rm_X7_readOne.cells = 0 ∧ rm_X7_readOne.slots = 0) (hr_X7_readOne : rm_X7_readOne.frames + 1 ≤ R.frames ∧ 8 + (4 + 11) + rm_X7_readOne.locals ≤ R.locals) {x3 : Int32} {S0 : St} {S1 : St} {S2 : St} (hF : F_X7_readOne_48 f_X7_readCond f_X7_readOne x3 S0 S1 S2 = some (T0, T1)) {H : Heap} {locs : List Loc} (hP : va_P D vwCl (g7 q o0 a0 S0 ++ g5 q o1 a1 tp S1 ++ g8 q o2 a2 S2) H) (hD : va_D A (g7 q o0 a0 S0 ++ g5 q o1 a1 tp S1 ++ g8 q o2 a2 S2)) (hS : va_S A s.heap H locs) {ls : Array Slot} (hl : lv_has ls 4 [(0, .ref o0), (1, .ref o1), (2, .ref o2), (3, .int x3)]) : W p l e R s m args below meth c H locs 0 0 (MQ below (QV D A (g7 q o0 a0 T0 ++ g5 q o1 a1 tp T1 ++ g8 q o2 a2 S2)) args s 0 0 A) (F0 m 48 ls []) := by
  unfold F_X7_readOne_48 at hF
  obtain ⟨hx, hb, hr, hml, hown, hts, hlk, hA, hK, hN, hV⟩ := id C
  refine lv_aload_n hx hb dX7_readOne_48 rfl (lv_at hl 1 rfl) ?_
  refine k_get (v := .int (S1.1 8)) C fg_X7_76 hP 4 rfl rfl dX7_readOne_49 ?_
  refine lv_if_eq (tgt := 56) hx hb dX7_readOne_52 (by decide) (fun c1 => ?_) (fun c1 => ?_)
  · have hF := op_t hF c1
    refine lv_aload_n hx hb dX7_readOne_56 rfl (lv_at hl 0 rfl) ?_
    refine lv_dup hx hb dX7_readOne_57 rfl ?_
    refine k_get (v := .int (S0.1 4)) C fg_X7_25 hP 0 rfl rfl dX7_readOne_58 ?_
    refine lv_iconst (v := (1 : Int32)) hx hb dX7_readOne_61 (by decide) ?_
    refine lv_iadd hx hb dX7_readOne_62 ?_
    obtain ⟨U2, e3, hF⟩ := nw_s hF
    refine k_put (W8 := g7 q o0 a0 U2 ++ g5 q o1 a1 tp S1 ++ g8 q o2 a2 S2) C fp_X7_25 hP hD hS 0 rfl rfl rfl (Nat.le_of_ble_eq_true rfl) dX7_readOne_63 (by rw [e3]; rfl) (fun H locs hP hD hS => ?_)
    refine lv_aload_n hx hb dX7_readOne_66 rfl (lv_at hl 1 rfl) ?_
    refine lv_bipush (v := (40 : Int32)) hx hb dX7_readOne_67 (by decide) ?_
    obtain ⟨r5, U6, hc4, hF⟩ := ob2_s hF
    refine k_ipart (W8 := g7 q o0 a0 U2 ++ g5 q o1 a1 tp U6 ++ g8 q o2 a2 S2) C (k_rV (As := [.int (40 : Int32)]) (rest := []) C (c_X5_takeMark l D q tp o1 a1 S1 _ (40 : Int32) hc4) kc_X5_takeMark ml_X7_79 rfl rfl ⟨Nat.le_trans (Nat.le_of_ble_eq_true rfl) hR0.1, Nat.le_trans (Nat.le_of_ble_eq_true rfl) hR0.2⟩ (hP.sub (ws' := g5 q o1 a1 tp S1) [4, 5, 6, 7, 8] rfl) (hD.sub (ws' := g5 q o1 a1 tp S1) [4, 5, 6, 7, 8] (by decide) rfl) hS (va_recv hK hP (ci := 5) (q0 := 4) rfl rfl) rfl hl.1 rfl (Nat.le_of_ble_eq_true rfl) dX7_readOne_69 ⟨Nat.zero_le _, Nat.zero_le _⟩) hP hD hS [4, 5, 6, 7, 8] [0, 1, 2, 3, 9, 10, 11, 12, 13, 14, 15, 16, 17, 18, 19] rfl rfl rfl rfl rfl rfl (fun H locs hP hD hS => ?_)
    refine lv_if_eq (tgt := 93) hx hb dX7_readOne_72 (by decide) (fun c7 => ?_) (fun c7 => ?_)
    · have hF := op_t hF c7
      refine lv_aload_n hx hb dX7_readOne_93 rfl (lv_at hl 1 rfl) ?_
      refine lv_bipush (v := (26 : Int32)) hx hb dX7_readOne_94 (by decide) ?_
      obtain ⟨r9, U10, hc8, hF⟩ := ob2_s hF
      refine k_ipart (W8 := g7 q o0 a0 U2 ++ g5 q o1 a1 tp U10 ++ g8 q o2 a2 S2) C (k_rV (As := [.int (26 : Int32)]) (rest := []) C (c_X5_takeWord l D q tp o1 a1 U6 _ (26 : Int32) hc8) kc_X5_takeWord ml_X7_54 rfl rfl ⟨Nat.le_trans (Nat.le_of_ble_eq_true rfl) hR0.1, Nat.le_trans (Nat.le_of_ble_eq_true rfl) hR0.2⟩ (hP.sub (ws' := g5 q o1 a1 tp U6) [4, 5, 6, 7, 8] rfl) (hD.sub (ws' := g5 q o1 a1 tp U6) [4, 5, 6, 7, 8] (by decide) rfl) hS (va_recv hK hP (ci := 5) (q0 := 4) rfl rfl) rfl hl.1 rfl (Nat.le_of_ble_eq_true rfl) dX7_readOne_96 ⟨Nat.zero_le _, Nat.zero_le _⟩) hP hD hS [4, 5, 6, 7, 8] [0, 1, 2, 3, 9, 10, 11, 12, 13, 14, 15, 16, 17, 18, 19] rfl rfl rfl rfl rfl rfl (fun H locs hP hD hS => ?_)
      refine lv_if_eq (tgt := 122) hx hb dX7_readOne_99 (by decide) (fun c11 => ?_) (fun c11 => ?_)
      · have hF := op_t hF c11
        refine lv_aload_n hx hb dX7_readOne_122 rfl (lv_at hl 0 rfl) ?_
        refine lv_aload_n hx hb dX7_readOne_123 rfl (lv_at hl 1 rfl) ?_
        refine lv_aload_n hx hb dX7_readOne_124 rfl (lv_at hl 2 rfl) ?_
        obtain ⟨U13, U14, hc12, hF⟩ := ob2_s hF
        refine k_vall C (k_rV (As := [.ref o1, .ref o2]) (rest := []) C (c_X7_readPlain l D q tp o0 a0 U2 o1 a1 U10 o2 a2 S2 _ hc12) kc_X7_readPlain ml_X7_86 rfl rfl ⟨Nat.le_trans (Nat.le_of_ble_eq_true rfl) hR0.1, Nat.le_trans (Nat.le_of_ble_eq_true rfl) hR0.2⟩ hP hD hS (va_recv hK hP (ci := 7) (q0 := 0) rfl rfl) rfl hl.1 rfl (Nat.le_of_ble_eq_true rfl) dX7_readOne_125 ⟨Nat.zero_le _, Nat.zero_le _⟩) hP hD hS rfl (fun H locs hP hD hS => ?_)
        cases hF
        exact k_vret C hP hS dX7_readOne_128
      · have hF := op_f hF c11
        refine lv_aload_n hx hb dX7_readOne_102 rfl (lv_at hl 0 rfl) ?_
        refine lv_aload_n hx hb dX7_readOne_103 rfl (lv_at hl 1 rfl) ?_
        refine lv_aload_n hx hb dX7_readOne_104 rfl (lv_at hl 2 rfl) ?_
        refine lv_iload_n hx hb dX7_readOne_105 rfl (lv_at hl 3 rfl) ?_
        refine lv_iconst (v := (1 : Int32)) hx hb dX7_readOne_106 (by decide) ?_
        refine lv_iadd hx hb dX7_readOne_107 ?_
        obtain ⟨U16, U17, hc15, hF⟩ := ob2_s hF
        refine k_vall C (k_rV (As := [.ref o1, .ref o2, .int (x3 + (1 : Int32))]) (rest := []) C (hm_X7_readOne _ U2 U10 S2 (x3 + (1 : Int32)) U16 U17 hc15) kc_X7_readOne ml_X7_62 hz_X7_readOne.1 hz_X7_readOne.2 hr_X7_readOne hP hD hS (va_recv hK hP (ci := 7) (q0 := 0) rfl rfl) rfl hl.1 rfl (Nat.le_of_ble_eq_true rfl) dX7_readOne_108 ⟨Nat.zero_le _, Nat.zero_le _⟩) hP hD hS rfl (fun H locs hP hD hS => ?_)
        refine lv_aload_n hx hb dX7_readOne_111 rfl (lv_at hl 0 rfl) ?_
        refine lv_bipush (v := (26 : Int32)) hx hb dX7_readOne_112 (by decide) ?_
        refine lv_iconst (v := (0 : Int32)) hx hb dX7_readOne_114 (by decide) ?_
        refine lv_iconst (v := (0 : Int32)) hx hb dX7_readOne_115 (by decide) ?_
        obtain ⟨U19, hc18, hF⟩ := ob1_s hF
        refine k_vpart (W8 := g7 q o0 a0 U19 ++ g5 q o1 a1 tp U17 ++ g8 q o2 a2 S2) C (k_rV (As := [.int (26 : Int32), .int (0 : Int32), .int (0 : Int32)]) (rest := []) C (c_X7_addStep l D q o0 a0 U16 _ (26 : Int32) (0 : Int32) (0 : Int32) hc18) kc_X7_addStep ml_X7_58 rfl rfl ⟨Nat.le_trans (Nat.le_of_ble_eq_true rfl) hR0.1, Nat.le_trans (Nat.le_of_ble_eq_true rfl) hR0.2⟩ (hP.sub (ws' := g7 q o0 a0 U16) [0, 1, 2, 3] rfl) (hD.sub (ws' := g7 q o0 a0 U16) [0, 1, 2, 3] (by decide) rfl) hS (va_recv hK hP (ci := 7) (q0 := 0) rfl rfl) rfl hl.1 rfl (Nat.le_of_ble_eq_true rfl) dX7_readOne_116 ⟨Nat.zero_le _, Nat.zero_le _⟩) hP hD hS [0, 1, 2, 3] [4, 5, 6, 7, 8, 9, 10, 11, 12, 13, 14, 15, 16, 17, 18, 19] rfl rfl rfl rfl rfl rfl (fun H locs hP hD hS => ?_)
        refine lv_goto (tgt := 128) hx hb dX7_readOne_119 (by decide) ?_
        cases hF
        exact k_vret C hP hS dX7_readOne_128
    · have hF := op_f hF c7
      refine lv_aload_n hx hb dX7_readOne_75 rfl (lv_at hl 0 rfl) ?_
      refine lv_aload_n hx hb dX7_readOne_76 rfl (lv_at hl 1 rfl) ?_
      refine lv_aload_n hx hb dX7_readOne_77 rfl (lv_at hl 2 rfl) ?_
      refine lv_iload_n hx hb dX7_readOne_78 rfl (lv_at hl 3 rfl) ?_
      refine lv_iconst (v := (1 : Int32)) hx hb dX7_readOne_79 (by decide) ?_
      refine lv_iadd hx hb dX7_readOne_80 ?_
      obtain ⟨U21, U22, hc20, hF⟩ := ob2_s hF
      refine k_vall C (k_rV (As := [.ref o1, .ref o2, .int (x3 + (1 : Int32))]) (rest := []) C (hm_X7_readCond _ U2 U6 S2 (x3 + (1 : Int32)) U21 U22 hc20) kc_X7_readCond ml_X7_43 hz_X7_readCond.1 hz_X7_readCond.2 hr_X7_readCond hP hD hS (va_recv hK hP (ci := 7) (q0 := 0) rfl rfl) rfl hl.1 rfl (Nat.le_of_ble_eq_true rfl) dX7_readOne_81 ⟨Nat.zero_le _, Nat.zero_le _⟩) hP hD hS rfl (fun H locs hP hD hS => ?_)
      refine lv_aload_n hx hb dX7_readOne_84 rfl (lv_at hl 1 rfl) ?_
      refine lv_bipush (v := (41 : Int32)) hx hb dX7_readOne_85 (by decide) ?_
      obtain ⟨U24, hc23, hF⟩ := ob1_s hF
      refine k_vpart (W8 := g7 q o0 a0 U21 ++ g5 q o1 a1 tp U24 ++ g8 q o2 a2 S2) C (k_rV (As := [.int (41 : Int32)]) (rest := []) C (c_X5_needMark l D q tp o1 a1 U22 _ (41 : Int32) hc23) kc_X5_needMark ml_X7_82 rfl rfl ⟨Nat.le_trans (Nat.le_of_ble_eq_true rfl) hR0.1, Nat.le_trans (Nat.le_of_ble_eq_true rfl) hR0.2⟩ (hP.sub (ws' := g5 q o1 a1 tp U22) [4, 5, 6, 7, 8] rfl) (hD.sub (ws' := g5 q o1 a1 tp U22) [4, 5, 6, 7, 8] (by decide) rfl) hS (va_recv hK hP (ci := 5) (q0 := 4) rfl rfl) rfl hl.1 rfl (Nat.le_of_ble_eq_true rfl) dX7_readOne_87 ⟨Nat.zero_le _, Nat.zero_le _⟩) hP hD hS [4, 5, 6, 7, 8] [0, 1, 2, 3, 9, 10, 11, 12, 13, 14, 15, 16, 17, 18, 19] rfl rfl rfl rfl rfl rfl (fun H locs hP hD hS => ?_)
      refine lv_goto (tgt := 128) hx hb dX7_readOne_90 (by decide) ?_
      cases hF
      exact k_vret C hP hS dX7_readOne_128
  · have hF := op_f hF c1
    cases hF
    exact k_vret C hP hS dX7_readOne_55
set_option maxRecDepth 100000 in
set_option maxHeartbeats 4000000 in
theorem b_X7_readOne_43 {p : Program} {l : Launch} {e : Env} {s : State} {m : MethodId} {args : Array Value} {below : List Frame} {meth : Method} {c : Code} {D : va_G} {q : Nat → ClassId} {A : Nat → Prop} {tp : Nat} {o0 : Nat} {a0 : Nat → Nat} {o1 : Nat} {a1 : Nat → Nat} {o2 : Nat} {a2 : Nat → Nat} {T0 : St} {T1 : St} (C : cx p s m args meth c cX7_readOne 4 none RX7 D q A) {R : Room} (hR0 : 3 ≤ R.frames ∧ 70 ≤ R.locals) {f_X7_readCond : St → St → St → Int32 → Option (St × St)} {rm_X7_readCond : Room} (hm_X7_readCond : ∀ (sz : Nat) (S0 S1 S2 : St) (x3 : Int32) (T0 T1 : St), f_X7_readCond S0 S1 S2 x3 = some (T0, T1) → Met l yX7_readCond (Cond.code yX7_readCond cX7_readCond 5 none :: TB) rm_X7_readCond (PC D q [.ref o0, .ref o1, .ref o2, .int x3] (g7 q o0 a0 S0 ++ g5 q o1 a1 tp S1 ++ g8 q o2 a2 S2) sz) (QV D (va_A (g7 q o0 a0 S0 ++ g5 q o1 a1 tp S1 ++ g8 q o2 a2 S2) sz) (g7 q o0 a0 T0 ++ g5 q o1 a1 tp T1 ++ g8 q o2 a2 S2)) 0 0 (va_A (g7 q o0 a0 S0 ++ g5 q o1 a1 tp S1 ++ g8 q o2 a2 S2) sz)) (hz_X7_readCond : rm_X7_readCond.cells = 0 ∧ rm_X7_readCond.slots = 0) (hr_X7_readCond : rm_X7_readCond.frames + 1 ≤ R.frames ∧ 8 + (5 + 11) + rm_X7_readCond.locals ≤ R.locals) {f_X7_readOne : St → St → St → Int32 → Option (St × St)} {rm_X7_readOne : Room} (hm_X7_readOne : ∀ (sz : Nat) (S0 S1 S2 : St) (x3 : Int32) (T0 T1 : St), f_X7_readOne S0 S1 S2 x3 = some (T0, T1) → Met l yX7_readOne (Cond.code yX7_readOne cX7_readOne 4 none :: TB) rm_X7_readOne (PC D q [.ref o0, .ref o1, .ref o2, .int x3] (g7 q o0 a0 S0 ++ g5 q o1 a1 tp S1 ++ g8 q o2 a2 S2) sz) (QV D (va_A (g7 q o0 a0 S0 ++ g5 q o1 a1 tp S1 ++ g8 q o2 a2 S2) sz) (g7 q o0 a0 T0 ++ g5 q o1 a1 tp T1 ++ g8 q o2 a2 S2)) 0 0 (va_A (g7 q o0 a0 S0 ++ g5 q o1 a1 tp S1 ++ g8 q o2 a2 S2) sz)) (hz_X7_readOne : rm_X7_readOne.cells = 0 ∧ rm_X7_readOne.slots = 0) (hr_X7_readOne : rm_X7_readOne.frames + 1 ≤ R.frames ∧ 8 + (4 + 11) + rm_X7_readOne.locals ≤ R.locals) {x3 : Int32} {S0 : St} {S1 : St} {S2 : St} (hF : F_X7_readOne_43 f_X7_readCond f_X7_readOne x3 S0 S1 S2 = some (T0, T1)) {H : Heap} {locs : List Loc} (hP : va_P D vwCl (g7 q o0 a0 S0 ++ g5 q o1 a1 tp S1 ++ g8 q o2 a2 S2) H) (hD : va_D A (g7 q o0 a0 S0 ++ g5 q o1 a1 tp S1 ++ g8 q o2 a2 S2)) (hS : va_S A s.heap H locs) {ls : Array Slot} (hl : lv_has ls 4 [(0, .ref o0), (1, .ref o1), (2, .ref o2), (3, .int x3)]) : W p l e R s m args below meth c H locs 0 0 (MQ below (QV D A (g7 q o0 a0 T0 ++ g5 q o1 a1 tp T1 ++ g8 q o2 a2 S2)) args s 0 0 A) (F0 m 43 ls []) := by
  unfold F_X7_readOne_43 at hF
  obtain ⟨hx, hb, hr, hml, hown, hts, hlk, hA, hK, hN, hV⟩ := id C
  refine lv_aload_n hx hb dX7_readOne_43 rfl (lv_at hl 1 rfl) ?_
  refine lv_iconst (v := (4 : Int32)) hx hb dX7_readOne_44 (by decide) ?_
  obtain ⟨U2, hc1, hF⟩ := ob1_s hF
  refine k_vpart (W8 := g7 q o0 a0 S0 ++ g5 q o1 a1 tp U2 ++ g8 q o2 a2 S2) C (k_rV (As := [.int (4 : Int32)]) (rest := []) C (c_X5_fail l D q tp o1 a1 S1 _ (4 : Int32) hc1) kc_X5_fail ml_X7_73 rfl rfl ⟨Nat.le_trans (Nat.le_of_ble_eq_true rfl) hR0.1, Nat.le_trans (Nat.le_of_ble_eq_true rfl) hR0.2⟩ (hP.sub (ws' := g5 q o1 a1 tp S1) [4, 5, 6, 7, 8] rfl) (hD.sub (ws' := g5 q o1 a1 tp S1) [4, 5, 6, 7, 8] (by decide) rfl) hS (va_recv hK hP (ci := 5) (q0 := 4) rfl rfl) rfl hl.1 rfl (Nat.le_of_ble_eq_true rfl) dX7_readOne_45 ⟨Nat.zero_le _, Nat.zero_le _⟩) hP hD hS [4, 5, 6, 7, 8] [0, 1, 2, 3, 9, 10, 11, 12, 13, 14, 15, 16, 17, 18, 19] rfl rfl rfl rfl rfl rfl (fun H locs hP hD hS => ?_)
  exact b_X7_readOne_48 C hR0 hm_X7_readCond hz_X7_readCond hr_X7_readCond hm_X7_readOne hz_X7_readOne hr_X7_readOne hF hP hD hS (lv_sub hl [0, 1, 2, 3] rfl)
set_option maxRecDepth 100000 in
set_option maxHeartbeats 4000000 in
theorem b_X7_readOne_28 {p : Program} {l : Launch} {e : Env} {s : State} {m : MethodId} {args : Array Value} {below : List Frame} {meth : Method} {c : Code} {D : va_G} {q : Nat → ClassId} {A : Nat → Prop} {tp : Nat} {o0 : Nat} {a0 : Nat → Nat} {o1 : Nat} {a1 : Nat → Nat} {o2 : Nat} {a2 : Nat → Nat} {T0 : St} {T1 : St} (C : cx p s m args meth c cX7_readOne 4 none RX7 D q A) {R : Room} (hR0 : 3 ≤ R.frames ∧ 70 ≤ R.locals) {f_X7_readCond : St → St → St → Int32 → Option (St × St)} {rm_X7_readCond : Room} (hm_X7_readCond : ∀ (sz : Nat) (S0 S1 S2 : St) (x3 : Int32) (T0 T1 : St), f_X7_readCond S0 S1 S2 x3 = some (T0, T1) → Met l yX7_readCond (Cond.code yX7_readCond cX7_readCond 5 none :: TB) rm_X7_readCond (PC D q [.ref o0, .ref o1, .ref o2, .int x3] (g7 q o0 a0 S0 ++ g5 q o1 a1 tp S1 ++ g8 q o2 a2 S2) sz) (QV D (va_A (g7 q o0 a0 S0 ++ g5 q o1 a1 tp S1 ++ g8 q o2 a2 S2) sz) (g7 q o0 a0 T0 ++ g5 q o1 a1 tp T1 ++ g8 q o2 a2 S2)) 0 0 (va_A (g7 q o0 a0 S0 ++ g5 q o1 a1 tp S1 ++ g8 q o2 a2 S2) sz)) (hz_X7_readCond : rm_X7_readCond.cells = 0 ∧ rm_X7_readCond.slots = 0) (hr_X7_readCond : rm_X7_readCond.frames + 1 ≤ R.frames ∧ 8 + (5 + 11) + rm_X7_readCond.locals ≤ R.locals) {f_X7_readOne : St → St → St → Int32 → Option (St × St)} {rm_X7_readOne : Room} (hm_X7_readOne : ∀ (sz : Nat) (S0 S1 S2 : St) (x3 : Int32) (T0 T1 : St), f_X7_readOne S0 S1 S2 x3 = some (T0, T1) → Met l yX7_readOne (Cond.code yX7_readOne cX7_readOne 4 none :: TB) rm_X7_readOne (PC D q [.ref o0, .ref o1, .ref o2, .int x3] (g7 q o0 a0 S0 ++ g5 q o1 a1 tp S1 ++ g8 q o2 a2 S2) sz) (QV D (va_A (g7 q o0 a0 S0 ++ g5 q o1 a1 tp S1 ++ g8 q o2 a2 S2) sz) (g7 q o0 a0 T0 ++ g5 q o1 a1 tp T1 ++ g8 q o2 a2 S2)) 0 0 (va_A (g7 q o0 a0 S0 ++ g5 q o1 a1 tp S1 ++ g8 q o2 a2 S2) sz)) (hz_X7_readOne : rm_X7_readOne.cells = 0 ∧ rm_X7_readOne.slots = 0) (hr_X7_readOne : rm_X7_readOne.frames + 1 ≤ R.frames ∧ 8 + (4 + 11) + rm_X7_readOne.locals ≤ R.locals) {x3 : Int32} {S0 : St} {S1 : St} {S2 : St} (hF : F_X7_readOne_28 f_X7_readCond f_X7_readOne x3 S0 S1 S2 = some (T0, T1)) {H : Heap} {locs : List Loc} (hP : va_P D vwCl (g7 q o0 a0 S0 ++ g5 q o1 a1 tp S1 ++ g8 q o2 a2 S2) H) (hD : va_D A (g7 q o0 a0 S0 ++ g5 q o1 a1 tp S1 ++ g8 q o2 a2 S2)) (hS : va_S A s.heap H locs) {ls : Array Slot} (hl : lv_has ls 4 [(0, .ref o0), (1, .ref o1), (2, .ref o2), (3, .int x3)]) : W p l e R s m args below meth c H locs 0 0 (MQ below (QV D A (g7 q o0 a0 T0 ++ g5 q o1 a1 tp T1 ++ g8 q o2 a2 S2)) args s 0 0 A) (F0 m 28 ls []) := by
  unfold F_X7_readOne_28 at hF
  obtain ⟨hx, hb, hr, hml, hown, hts, hlk, hA, hK, hN, hV⟩ := id C
  refine lv_aload_n hx hb dX7_readOne_28 rfl (lv_at hl 0 rfl) ?_
  refine k_get (v := .int (S0.1 4)) C fg_X7_25 hP 0 rfl rfl dX7_readOne_29 ?_
  refine lv_bipush (v := (20 : Int32)) hx hb dX7_readOne_32 (by decide) ?_
  refine lv_icmp_ge (tgt := 43) hx hb dX7_readOne_34 (by decide) (fun c1 => ?_) (fun c1 => ?_)
  · have hF := op_t hF c1
    exact b_X7_readOne_43 C hR0 hm_X7_readCond hz_X7_readCond hr_X7_readCond hm_X7_readOne hz_X7_readOne hr_X7_readOne hF hP hD hS (lv_sub hl [0, 1, 2, 3] rfl)
  · have hF := op_f hF c1
    refine lv_iload_n hx hb dX7_readOne_37 rfl (lv_at hl 3 rfl) ?_
    refine lv_bipush (v := (8 : Int32)) hx hb dX7_readOne_38 (by decide) ?_
    refine lv_icmp_le (tgt := 48) hx hb dX7_readOne_40 (by decide) (fun c2 => ?_) (fun c2 => ?_)
    · have hF := op_t hF c2
      exact b_X7_readOne_48 C hR0 hm_X7_readCond hz_X7_readCond hr_X7_readCond hm_X7_readOne hz_X7_readOne hr_X7_readOne hF hP hD hS (lv_sub hl [0, 1, 2, 3] rfl)
    · have hF := op_f hF c2
      exact b_X7_readOne_43 C hR0 hm_X7_readCond hz_X7_readCond hr_X7_readCond hm_X7_readOne hz_X7_readOne hr_X7_readOne hF hP hD hS (lv_sub hl [0, 1, 2, 3] rfl)
set_option maxRecDepth 100000 in
set_option maxHeartbeats 4000000 in
theorem c_X7_readOne (l : Launch) (D : va_G) (q : Nat → ClassId) (tp : Nat) (o0 : Nat) (a0 : Nat → Nat) (S0 : St) (o1 : Nat) (a1 : Nat → Nat) (S1 : St) (o2 : Nat) (a2 : Nat → Nat) (S2 : St) (sz : Nat) (x3 : Int32) {T0 : St} {T1 : St} {R : Room} (hR0 : 3 ≤ R.frames ∧ 70 ≤ R.locals) {f_X7_readCond : St → St → St → Int32 → Option (St × St)} {rm_X7_readCond : Room} (hm_X7_readCond : ∀ (sz : Nat) (S0 S1 S2 : St) (x3 : Int32) (T0 T1 : St), f_X7_readCond S0 S1 S2 x3 = some (T0, T1) → Met l yX7_readCond (Cond.code yX7_readCond cX7_readCond 5 none :: TB) rm_X7_readCond (PC D q [.ref o0, .ref o1, .ref o2, .int x3] (g7 q o0 a0 S0 ++ g5 q o1 a1 tp S1 ++ g8 q o2 a2 S2) sz) (QV D (va_A (g7 q o0 a0 S0 ++ g5 q o1 a1 tp S1 ++ g8 q o2 a2 S2) sz) (g7 q o0 a0 T0 ++ g5 q o1 a1 tp T1 ++ g8 q o2 a2 S2)) 0 0 (va_A (g7 q o0 a0 S0 ++ g5 q o1 a1 tp S1 ++ g8 q o2 a2 S2) sz)) (hz_X7_readCond : rm_X7_readCond.cells = 0 ∧ rm_X7_readCond.slots = 0) (hr_X7_readCond : rm_X7_readCond.frames + 1 ≤ R.frames ∧ 8 + (5 + 11) + rm_X7_readCond.locals ≤ R.locals) {f_X7_readOne : St → St → St → Int32 → Option (St × St)} {rm_X7_readOne : Room} (hm_X7_readOne : ∀ (sz : Nat) (S0 S1 S2 : St) (x3 : Int32) (T0 T1 : St), f_X7_readOne S0 S1 S2 x3 = some (T0, T1) → Met l yX7_readOne (Cond.code yX7_readOne cX7_readOne 4 none :: TB) rm_X7_readOne (PC D q [.ref o0, .ref o1, .ref o2, .int x3] (g7 q o0 a0 S0 ++ g5 q o1 a1 tp S1 ++ g8 q o2 a2 S2) sz) (QV D (va_A (g7 q o0 a0 S0 ++ g5 q o1 a1 tp S1 ++ g8 q o2 a2 S2) sz) (g7 q o0 a0 T0 ++ g5 q o1 a1 tp T1 ++ g8 q o2 a2 S2)) 0 0 (va_A (g7 q o0 a0 S0 ++ g5 q o1 a1 tp S1 ++ g8 q o2 a2 S2) sz)) (hz_X7_readOne : rm_X7_readOne.cells = 0 ∧ rm_X7_readOne.slots = 0) (hr_X7_readOne : rm_X7_readOne.frames + 1 ≤ R.frames ∧ 8 + (4 + 11) + rm_X7_readOne.locals ≤ R.locals) (hF : F_X7_readOne f_X7_readCond f_X7_readOne S0 S1 S2 x3 = some (T0, T1)) : Met l yX7_readOne (Cond.code yX7_readOne cX7_readOne 4 none :: TB) R (PC D q [.ref o0, .ref o1, .ref o2, .int x3] (g7 q o0 a0 S0 ++ g5 q o1 a1 tp S1 ++ g8 q o2 a2 S2) sz) ((fun A => QV D A (g7 q o0 a0 T0 ++ g5 q o1 a1 tp T1 ++ g8 q o2 a2 S2)) (va_A (g7 q o0 a0 S0 ++ g5 q o1 a1 tp S1 ++ g8 q o2 a2 S2) sz)) 0 0 (va_A (g7 q o0 a0 S0 ++ g5 q o1 a1 tp S1 ++ g8 q o2 a2 S2) sz) := by
  refine k_met (w0 := g7 q o0 a0 S0 ++ g5 q o1 a1 tp S1 ++ g8 q o2 a2 S2) (Q := fun A => QV D A (g7 q o0 a0 T0 ++ g5 q o1 a1 tp T1 ++ g8 q o2 a2 S2)) (by decide +kernel) (Nat.le_of_ble_eq_true rfl) ?_
  intro p e s m args below meth c A ls C hP hD hS hl
  have hl : lv_has ls 4 [(0, .ref o0), (1, .ref o1), (2, .ref o2), (3, .int x3)] := hl
  unfold F_X7_readOne at hF
  have C : cx p s m args meth c cX7_readOne 4 none RX7 D q A := C
  obtain ⟨hx, hb, hr, hml, hown, hts, hlk, hA, hK, hN, hV⟩ := id C
  refine lv_aload_n hx hb dX7_readOne_0 rfl (lv_at hl 1 rfl) ?_
  refine lv_bipush (v := (40 : Int32)) hx hb dX7_readOne_1 (by decide) ?_
  obtain ⟨r2, hc1, hF⟩ := ob1_s hF
  refine k_iro C (k_rV (As := [.int (40 : Int32)]) (rest := []) C (c_X5_isMark l D q tp o1 a1 S1 _ (40 : Int32) hc1) kc_X5_isMark ml_X7_65 rfl rfl ⟨Nat.le_trans (Nat.le_of_ble_eq_true rfl) hR0.1, Nat.le_trans (Nat.le_of_ble_eq_true rfl) hR0.2⟩ (hP.sub (ws' := g5 q o1 a1 tp S1) [4, 5, 6, 7, 8] rfl) (hD.sub (ws' := g5 q o1 a1 tp S1) [4, 5, 6, 7, 8] (by decide) rfl) hS (va_recv hK hP (ci := 5) (q0 := 4) rfl rfl) rfl hl.1 rfl (Nat.le_of_ble_eq_true rfl) dX7_readOne_3 ⟨Nat.zero_le _, Nat.zero_le _⟩) hP hD hS [4, 5, 6, 7, 8] rfl (fun H locs hP hD hS => ?_)
  refine lv_if_ne (tgt := 28) hx hb dX7_readOne_6 (by decide) (fun c3 => ?_) (fun c3 => ?_)
  · have hF := op_f hF c3
    exact b_X7_readOne_28 C hR0 hm_X7_readCond hz_X7_readCond hr_X7_readCond hm_X7_readOne hz_X7_readOne hr_X7_readOne hF hP hD hS (lv_sub hl [0, 1, 2, 3] rfl)
  · have hF := op_t hF c3
    refine lv_aload_n hx hb dX7_readOne_9 rfl (lv_at hl 1 rfl) ?_
    refine lv_bipush (v := (26 : Int32)) hx hb dX7_readOne_10 (by decide) ?_
    refine lv_bipush (v := (10 : Int32)) hx hb dX7_readOne_12 (by decide) ?_
    obtain ⟨r5, hc4, hF⟩ := ob1_s hF
    refine k_iro C (k_rV (As := [.int (26 : Int32), .int (10 : Int32)]) (rest := []) C (c_X5_isWordFrom l D q tp o1 a1 S1 _ (26 : Int32) (10 : Int32) hc4) kc_X5_isWordFrom ml_X7_69 rfl rfl ⟨Nat.le_trans (Nat.le_of_ble_eq_true rfl) hR0.1, Nat.le_trans (Nat.le_of_ble_eq_true rfl) hR0.2⟩ (hP.sub (ws' := g5 q o1 a1 tp S1) [4, 5, 6, 7, 8] rfl) (hD.sub (ws' := g5 q o1 a1 tp S1) [4, 5, 6, 7, 8] (by decide) rfl) hS (va_recv hK hP (ci := 5) (q0 := 4) rfl rfl) rfl hl.1 rfl (Nat.le_of_ble_eq_true rfl) dX7_readOne_14 ⟨Nat.zero_le _, Nat.zero_le _⟩) hP hD hS [4, 5, 6, 7, 8] rfl (fun H locs hP hD hS => ?_)
    refine lv_if_ne (tgt := 28) hx hb dX7_readOne_17 (by decide) (fun c6 => ?_) (fun c6 => ?_)
    · have hF := op_f hF c6
      exact b_X7_readOne_28 C hR0 hm_X7_readCond hz_X7_readCond hr_X7_readCond hm_X7_readOne hz_X7_readOne hr_X7_readOne hF hP hD hS (lv_sub hl [0, 1, 2, 3] rfl)
    · have hF := op_t hF c6
      refine lv_aload_n hx hb dX7_readOne_20 rfl (lv_at hl 1 rfl) ?_
      refine lv_iconst (v := (1 : Int32)) hx hb dX7_readOne_21 (by decide) ?_
      obtain ⟨U8, hc7, hF⟩ := ob1_s hF
      refine k_vpart (W8 := g7 q o0 a0 S0 ++ g5 q o1 a1 tp U8 ++ g8 q o2 a2 S2) C (k_rV (As := [.int (1 : Int32)]) (rest := []) C (c_X5_fail l D q tp o1 a1 S1 _ (1 : Int32) hc7) kc_X5_fail ml_X7_73 rfl rfl ⟨Nat.le_trans (Nat.le_of_ble_eq_true rfl) hR0.1, Nat.le_trans (Nat.le_of_ble_eq_true rfl) hR0.2⟩ (hP.sub (ws' := g5 q o1 a1 tp S1) [4, 5, 6, 7, 8] rfl) (hD.sub (ws' := g5 q o1 a1 tp S1) [4, 5, 6, 7, 8] (by decide) rfl) hS (va_recv hK hP (ci := 5) (q0 := 4) rfl rfl) rfl hl.1 rfl (Nat.le_of_ble_eq_true rfl) dX7_readOne_22 ⟨Nat.zero_le _, Nat.zero_le _⟩) hP hD hS [4, 5, 6, 7, 8] [0, 1, 2, 3, 9, 10, 11, 12, 13, 14, 15, 16, 17, 18, 19] rfl rfl rfl rfl rfl rfl (fun H locs hP hD hS => ?_)
      refine lv_goto (tgt := 48) hx hb dX7_readOne_25 (by decide) ?_
      exact b_X7_readOne_48 C hR0 hm_X7_readCond hz_X7_readCond hr_X7_readCond hm_X7_readOne hz_X7_readOne hr_X7_readOne hF hP hD hS (lv_sub hl [0, 1, 2, 3] rfl)

abbrev rm_X7_readAll : Room := ({ frames := 2, cells := 0, slots := 0, locals := 43 } : Room)
def F_X7_readAll_10 (f_X7_readOne : St → St → St → Int32 → Option (St × St)) (k10 : Int32 × Int32 × St × St × St → Option (St × St)) (x3 : Int32) (x4 : Int32) (S0 : St) (S1 : St) (S2 : St) : Option (St × St) := if (20 : Int32) ≤ x4 then (some (S0, S1)) else (ob2 (F_X5_takeWord S1 (25 : Int32)) fun r3 U4 => if r3 = 0 then (some (S0, U4)) else (ob2 (f_X7_readOne S0 U4 S2 x3) fun U7 U8 => ob1 (F_X7_addStep U7 (25 : Int32) (0 : Int32) (0 : Int32)) fun U10 => k10 (x3, (x4 + 1), U10, U8, S2)))
def L_X7_readAll_10 (f_X7_readOne : St → St → St → Int32 → Option (St × St)) (x3 : Int32) (x4 : Int32) (S0 : St) (S1 : St) (S2 : St) : Option (St × St) := lp (fun kz z => F_X7_readAll_10 f_X7_readOne kz z.1 z.2.1 z.2.2.1 z.2.2.2.1 z.2.2.2.2) FU (x3, x4, S0, S1, S2)
def F_X7_readAll (f_X7_readOne : St → St → St → Int32 → Option (St × St)) (S0 : St) (S1 : St) (S2 : St) (x3 : Int32) : Option (St × St) := ob2 (f_X7_readOne S0 S1 S2 x3) fun U2 U3 => L_X7_readAll_10 f_X7_readOne x3 (0 : Int32) U2 U3 S2
set_option maxRecDepth 100000 in
set_option maxHeartbeats 4000000 in
theorem b_X7_readAll_10 {p : Program} {l : Launch} {e : Env} {s : State} {m : MethodId} {args : Array Value} {below : List Frame} {meth : Method} {c : Code} {D : va_G} {q : Nat → ClassId} {A : Nat → Prop} {tp : Nat} {o0 : Nat} {a0 : Nat → Nat} {o1 : Nat} {a1 : Nat → Nat} {o2 : Nat} {a2 : Nat → Nat} {T0 : St} {T1 : St} (C : cx p s m args meth c cX7_readAll 5 none RX7 D q A) {R : Room} (hR0 : 2 ≤ R.frames ∧ 43 ≤ R.locals) {f_X7_readOne : St → St → St → Int32 → Option (St × St)} {rm_X7_readOne : Room} (hm_X7_readOne : ∀ (sz : Nat) (S0 S1 S2 : St) (x3 : Int32) (T0 T1 : St), f_X7_readOne S0 S1 S2 x3 = some (T0, T1) → Met l yX7_readOne (Cond.code yX7_readOne cX7_readOne 4 none :: TB) rm_X7_readOne (PC D q [.ref o0, .ref o1, .ref o2, .int x3] (g7 q o0 a0 S0 ++ g5 q o1 a1 tp S1 ++ g8 q o2 a2 S2) sz) (QV D (va_A (g7 q o0 a0 S0 ++ g5 q o1 a1 tp S1 ++ g8 q o2 a2 S2) sz) (g7 q o0 a0 T0 ++ g5 q o1 a1 tp T1 ++ g8 q o2 a2 S2)) 0 0 (va_A (g7 q o0 a0 S0 ++ g5 q o1 a1 tp S1 ++ g8 q o2 a2 S2) sz)) (hz_X7_readOne : rm_X7_readOne.cells = 0 ∧ rm_X7_readOne.slots = 0) (hr_X7_readOne : rm_X7_readOne.frames + 1 ≤ R.frames ∧ 8 + (4 + 11) + rm_X7_readOne.locals ≤ R.locals) {k10 : Int32 × Int32 × St × St × St → Option (St × St)} (hk10 : ∀ (x3 : Int32) (x4 : Int32) (S0 : St) (S1 : St) (S2 : St), k10 (x3, x4, S0, S1, S2) = some (T0, T1) → ∀ (H : Heap) (locs : List Loc) (ls : Array Slot), va_P D vwCl (g7 q o0 a0 S0 ++ g5 q o1 a1 tp S1 ++ g8 q o2 a2 S2) H → va_D A (g7 q o0 a0 S0 ++ g5 q o1 a1 tp S1 ++ g8 q o2 a2 S2) → va_S A s.heap H locs → lv_has ls 5 [(0, .ref o0), (1, .ref o1), (2, .ref o2), (3, .int x3), (4, .int x4)] → W p l e R s m args below meth c H locs 0 0 (MQ below (QV D A (g7 q o0 a0 T0 ++ g5 q o1 a1 tp T1 ++ g8 q o2 a2 S2)) args s 0 0 A) (F0 m 10 ls [])) {x3 : Int32} {x4 : Int32} {S0 : St} {S1 : St} {S2 : St} (hF : F_X7_readAll_10 f_X7_readOne k10 x3 x4 S0 S1 S2 = some (T0, T1)) {H : Heap} {locs : List Loc} (hP : va_P D vwCl (g7 q o0 a0 S0 ++ g5 q o1 a1 tp S1 ++ g8 q o2 a2 S2) H) (hD : va_D A (g7 q o0 a0 S0 ++ g5 q o1 a1 tp S1 ++ g8 q o2 a2 S2)) (hS : va_S A s.heap H locs) {ls : Array Slot} (hl : lv_has ls 5 [(0, .ref o0), (1, .ref o1), (2, .ref o2), (3, .int x3), (4, .int x4)]) : W p l e R s m args below meth c H locs 0 0 (MQ below (QV D A (g7 q o0 a0 T0 ++ g5 q o1 a1 tp T1 ++ g8 q o2 a2 S2)) args s 0 0 A) (F0 m 10 ls []) := by
  unfold F_X7_readAll_10 at hF
  obtain ⟨hx, hb, hr, hml, hown, hts, hlk, hA, hK, hN, hV⟩ := id C
  refine lv_iload hx hb dX7_readAll_10 (lv_at hl 4 rfl) ?_
  refine lv_bipush (v := (20 : Int32)) hx hb dX7_readAll_12 (by decide) ?_
  refine lv_icmp_ge (tgt := 47) hx hb dX7_readAll_14 (by decide) (fun c1 => ?_) (fun c1 => ?_)
  · have hF := op_t hF c1
    cases hF
    exact k_vret C hP hS dX7_readAll_47
  · have hF := op_f hF c1
    refine lv_aload_n hx hb dX7_readAll_17 rfl (lv_at hl 1 rfl) ?_
    refine lv_bipush (v := (25 : Int32)) hx hb dX7_readAll_18 (by decide) ?_
    obtain ⟨r3, U4, hc2, hF⟩ := ob2_s hF
    refine k_ipart (W8 := g7 q o0 a0 S0 ++ g5 q o1 a1 tp U4 ++ g8 q o2 a2 S2) C (k_rV (As := [.int (25 : Int32)]) (rest := []) C (c_X5_takeWord l D q tp o1 a1 S1 _ (25 : Int32) hc2) kc_X5_takeWord ml_X7_54 rfl rfl ⟨Nat.le_trans (Nat.le_of_ble_eq_true rfl) hR0.1, Nat.le_trans (Nat.le_of_ble_eq_true rfl) hR0.2⟩ (hP.sub (ws' := g5 q o1 a1 tp S1) [4, 5, 6, 7, 8] rfl) (hD.sub (ws' := g5 q o1 a1 tp S1) [4, 5, 6, 7, 8] (by decide) rfl) hS (va_recv hK hP (ci := 5) (q0 := 4) rfl rfl) rfl hl.1 rfl (Nat.le_of_ble_eq_true rfl) dX7_readAll_20 ⟨Nat.zero_le _, Nat.zero_le _⟩) hP hD hS [4, 5, 6, 7, 8] [0, 1, 2, 3, 9, 10, 11, 12, 13, 14, 15, 16, 17, 18, 19] rfl rfl rfl rfl rfl rfl (fun H locs hP hD hS => ?_)
    refine lv_if_eq (tgt := 47) hx hb dX7_readAll_23 (by decide) (fun c5 => ?_) (fun c5 => ?_)
    · have hF := op_t hF c5
      cases hF
      exact k_vret C hP hS dX7_readAll_47
    · have hF := op_f hF c5
      refine lv_aload_n hx hb dX7_readAll_26 rfl (lv_at hl 0 rfl) ?_
      refine lv_aload_n hx hb dX7_readAll_27 rfl (lv_at hl 1 rfl) ?_
      refine lv_aload_n hx hb dX7_readAll_28 rfl (lv_at hl 2 rfl) ?_
      refine lv_iload_n hx hb dX7_readAll_29 rfl (lv_at hl 3 rfl) ?_
      obtain ⟨U7, U8, hc6, hF⟩ := ob2_s hF
      refine k_vall C (k_rV (As := [.ref o1, .ref o2, .int x3]) (rest := []) C (hm_X7_readOne _ S0 U4 S2 x3 U7 U8 hc6) kc_X7_readOne ml_X7_62 hz_X7_readOne.1 hz_X7_readOne.2 hr_X7_readOne hP hD hS (va_recv hK hP (ci := 7) (q0 := 0) rfl rfl) rfl hl.1 rfl (Nat.le_of_ble_eq_true rfl) dX7_readAll_30 ⟨Nat.zero_le _, Nat.zero_le _⟩) hP hD hS rfl (fun H locs hP hD hS => ?_)
      refine lv_aload_n hx hb dX7_readAll_33 rfl (lv_at hl 0 rfl) ?_
      refine lv_bipush (v := (25 : Int32)) hx hb dX7_readAll_34 (by decide) ?_
      refine lv_iconst (v := (0 : Int32)) hx hb dX7_readAll_36 (by decide) ?_
      refine lv_iconst (v := (0 : Int32)) hx hb dX7_readAll_37 (by decide) ?_
      obtain ⟨U10, hc9, hF⟩ := ob1_s hF
      refine k_vpart (W8 := g7 q o0 a0 U10 ++ g5 q o1 a1 tp U8 ++ g8 q o2 a2 S2) C (k_rV (As := [.int (25 : Int32), .int (0 : Int32), .int (0 : Int32)]) (rest := []) C (c_X7_addStep l D q o0 a0 U7 _ (25 : Int32) (0 : Int32) (0 : Int32) hc9) kc_X7_addStep ml_X7_58 rfl rfl ⟨Nat.le_trans (Nat.le_of_ble_eq_true rfl) hR0.1, Nat.le_trans (Nat.le_of_ble_eq_true rfl) hR0.2⟩ (hP.sub (ws' := g7 q o0 a0 U7) [0, 1, 2, 3] rfl) (hD.sub (ws' := g7 q o0 a0 U7) [0, 1, 2, 3] (by decide) rfl) hS (va_recv hK hP (ci := 7) (q0 := 0) rfl rfl) rfl hl.1 rfl (Nat.le_of_ble_eq_true rfl) dX7_readAll_38 ⟨Nat.zero_le _, Nat.zero_le _⟩) hP hD hS [0, 1, 2, 3] [4, 5, 6, 7, 8, 9, 10, 11, 12, 13, 14, 15, 16, 17, 18, 19] rfl rfl rfl rfl rfl rfl (fun H locs hP hD hS => ?_)
      refine lv_iinc (v := (x4 + 1)) (lv' := [(4, .int (x4 + 1)), (0, .ref o0), (1, .ref o1), (2, .ref o2), (3, .int x3)]) hx hb dX7_readAll_41 hl (k := 4) rfl rfl (by decide) rfl (fun ls hl => ?_)
      refine lv_goto (tgt := 10) hx hb dX7_readAll_44 (by decide) ?_
      exact hk10 x3 (x4 + 1) U10 U8 S2 hF _ _ _ hP hD hS (lv_sub hl [1, 2, 3, 4, 0] rfl)
set_option maxRecDepth 100000 in
set_option maxHeartbeats 4000000 in
theorem l_X7_readAll_10 {p : Program} {l : Launch} {e : Env} {s : State} {m : MethodId} {args : Array Value} {below : List Frame} {meth : Method} {c : Code} {D : va_G} {q : Nat → ClassId} {A : Nat → Prop} {tp : Nat} {o0 : Nat} {a0 : Nat → Nat} {o1 : Nat} {a1 : Nat → Nat} {o2 : Nat} {a2 : Nat → Nat} {T0 : St} {T1 : St} (C : cx p s m args meth c cX7_readAll 5 none RX7 D q A) {R : Room} (hR0 : 2 ≤ R.frames ∧ 43 ≤ R.locals) {f_X7_readOne : St → St → St → Int32 → Option (St × St)} {rm_X7_readOne : Room} (hm_X7_readOne : ∀ (sz : Nat) (S0 S1 S2 : St) (x3 : Int32) (T0 T1 : St), f_X7_readOne S0 S1 S2 x3 = some (T0, T1) → Met l yX7_readOne (Cond.code yX7_readOne cX7_readOne 4 none :: TB) rm_X7_readOne (PC D q [.ref o0, .ref o1, .ref o2, .int x3] (g7 q o0 a0 S0 ++ g5 q o1 a1 tp S1 ++ g8 q o2 a2 S2) sz) (QV D (va_A (g7 q o0 a0 S0 ++ g5 q o1 a1 tp S1 ++ g8 q o2 a2 S2) sz) (g7 q o0 a0 T0 ++ g5 q o1 a1 tp T1 ++ g8 q o2 a2 S2)) 0 0 (va_A (g7 q o0 a0 S0 ++ g5 q o1 a1 tp S1 ++ g8 q o2 a2 S2) sz)) (hz_X7_readOne : rm_X7_readOne.cells = 0 ∧ rm_X7_readOne.slots = 0) (hr_X7_readOne : rm_X7_readOne.frames + 1 ≤ R.frames ∧ 8 + (4 + 11) + rm_X7_readOne.locals ≤ R.locals) {x3 : Int32} {x4 : Int32} {S0 : St} {S1 : St} {S2 : St} (hF : L_X7_readAll_10 f_X7_readOne x3 x4 S0 S1 S2 = some (T0, T1)) : ∀ (H : Heap) (locs : List Loc) (ls : Array Slot), va_P D vwCl (g7 q o0 a0 S0 ++ g5 q o1 a1 tp S1 ++ g8 q o2 a2 S2) H → va_D A (g7 q o0 a0 S0 ++ g5 q o1 a1 tp S1 ++ g8 q o2 a2 S2) → va_S A s.heap H locs → lv_has ls 5 [(0, .ref o0), (1, .ref o1), (2, .ref o2), (3, .int x3), (4, .int x4)] → W p l e R s m args below meth c H locs 0 0 (MQ below (QV D A (g7 q o0 a0 T0 ++ g5 q o1 a1 tp T1 ++ g8 q o2 a2 S2)) args s 0 0 A) (F0 m 10 ls []) :=
  lp_G _ _ (fun z => ∀ (H : Heap) (locs : List Loc) (ls : Array Slot), va_P D vwCl (g7 q o0 a0 z.2.2.1 ++ g5 q o1 a1 tp z.2.2.2.1 ++ g8 q o2 a2 z.2.2.2.2) H → va_D A (g7 q o0 a0 z.2.2.1 ++ g5 q o1 a1 tp z.2.2.2.1 ++ g8 q o2 a2 z.2.2.2.2) → va_S A s.heap H locs → lv_has ls 5 [(0, .ref o0), (1, .ref o1), (2, .ref o2), (3, .int z.1), (4, .int z.2.1)] → W p l e R s m args below meth c H locs 0 0 (MQ below (QV D A (g7 q o0 a0 T0 ++ g5 q o1 a1 tp T1 ++ g8 q o2 a2 z.2.2.2.2)) args s 0 0 A) (F0 m 10 ls [])) (fun kz hkz z hz H locs ls hP hD hS hl => b_X7_readAll_10 C hR0 hm_X7_readOne hz_X7_readOne hr_X7_readOne (fun x3 x4 S0 S1 S2 hz => hkz (x3, x4, S0, S1, S2) hz) hz hP hD hS hl) FU (x3, x4, S0, S1, S2) hF
set_option maxRecDepth 100000 in
set_option maxHeartbeats 4000000 in
theorem c_X7_readAll (l : Launch) (D : va_G) (q : Nat → ClassId) (tp : Nat) (o0 : Nat) (a0 : Nat → Nat) (S0 : St) (o1 : Nat) (a1 : Nat → Nat) (S1 : St) (o2 : Nat) (a2 : Nat → Nat) (S2 : St) (sz : Nat) (x3 : Int32) {T0 : St} {T1 : St} {R : Room} (hR0 : 2 ≤ R.frames ∧ 43 ≤ R.locals) {f_X7_readOne : St → St → St → Int32 → Option (St × St)} {rm_X7_readOne : Room} (hm_X7_readOne : ∀ (sz : Nat) (S0 S1 S2 : St) (x3 : Int32) (T0 T1 : St), f_X7_readOne S0 S1 S2 x3 = some (T0, T1) → Met l yX7_readOne (Cond.code yX7_readOne cX7_readOne 4 none :: TB) rm_X7_readOne (PC D q [.ref o0, .ref o1, .ref o2, .int x3] (g7 q o0 a0 S0 ++ g5 q o1 a1 tp S1 ++ g8 q o2 a2 S2) sz) (QV D (va_A (g7 q o0 a0 S0 ++ g5 q o1 a1 tp S1 ++ g8 q o2 a2 S2) sz) (g7 q o0 a0 T0 ++ g5 q o1 a1 tp T1 ++ g8 q o2 a2 S2)) 0 0 (va_A (g7 q o0 a0 S0 ++ g5 q o1 a1 tp S1 ++ g8 q o2 a2 S2) sz)) (hz_X7_readOne : rm_X7_readOne.cells = 0 ∧ rm_X7_readOne.slots = 0) (hr_X7_readOne : rm_X7_readOne.frames + 1 ≤ R.frames ∧ 8 + (4 + 11) + rm_X7_readOne.locals ≤ R.locals) (hF : F_X7_readAll f_X7_readOne S0 S1 S2 x3 = some (T0, T1)) : Met l yX7_readAll (Cond.code yX7_readAll cX7_readAll 5 none :: TB) R (PC D q [.ref o0, .ref o1, .ref o2, .int x3] (g7 q o0 a0 S0 ++ g5 q o1 a1 tp S1 ++ g8 q o2 a2 S2) sz) ((fun A => QV D A (g7 q o0 a0 T0 ++ g5 q o1 a1 tp T1 ++ g8 q o2 a2 S2)) (va_A (g7 q o0 a0 S0 ++ g5 q o1 a1 tp S1 ++ g8 q o2 a2 S2) sz)) 0 0 (va_A (g7 q o0 a0 S0 ++ g5 q o1 a1 tp S1 ++ g8 q o2 a2 S2) sz) := by
  refine k_met (w0 := g7 q o0 a0 S0 ++ g5 q o1 a1 tp S1 ++ g8 q o2 a2 S2) (Q := fun A => QV D A (g7 q o0 a0 T0 ++ g5 q o1 a1 tp T1 ++ g8 q o2 a2 S2)) (by decide +kernel) (Nat.le_of_ble_eq_true rfl) ?_
  intro p e s m args below meth c A ls C hP hD hS hl
  have hl : lv_has ls 5 [(0, .ref o0), (1, .ref o1), (2, .ref o2), (3, .int x3)] := hl
  unfold F_X7_readAll at hF
  have C : cx p s m args meth c cX7_readAll 5 none RX7 D q A := C
  obtain ⟨hx, hb, hr, hml, hown, hts, hlk, hA, hK, hN, hV⟩ := id C
  refine lv_aload_n hx hb dX7_readAll_0 rfl (lv_at hl 0 rfl) ?_
  refine lv_aload_n hx hb dX7_readAll_1 rfl (lv_at hl 1 rfl) ?_
  refine lv_aload_n hx hb dX7_readAll_2 rfl (lv_at hl 2 rfl) ?_
  refine lv_iload_n hx hb dX7_readAll_3 rfl (lv_at hl 3 rfl) ?_
  obtain ⟨U2, U3, hc1, hF⟩ := ob2_s hF
  refine k_vall C (k_rV (As := [.ref o1, .ref o2, .int x3]) (rest := []) C (hm_X7_readOne _ S0 S1 S2 x3 U2 U3 hc1) kc_X7_readOne ml_X7_62 hz_X7_readOne.1 hz_X7_readOne.2 hr_X7_readOne hP hD hS (va_recv hK hP (ci := 7) (q0 := 0) rfl rfl) rfl hl.1 rfl (Nat.le_of_ble_eq_true rfl) dX7_readAll_4 ⟨Nat.zero_le _, Nat.zero_le _⟩) hP hD hS rfl (fun H locs hP hD hS => ?_)
  refine lv_iconst (v := (0 : Int32)) hx hb dX7_readAll_7 (by decide) ?_
  refine lv_istore (lv' := [(4, .int (0 : Int32)), (0, .ref o0), (1, .ref o1), (2, .ref o2), (3, .int x3)]) hx hb dX7_readAll_8 hl (by decide) rfl (fun ls hl => ?_)
  exact l_X7_readAll_10 C hR0 hm_X7_readOne hz_X7_readOne hr_X7_readOne hF _ _ _ hP hD hS (lv_sub hl [1, 2, 3, 4, 0] rfl)

abbrev rm_X7_readCond : Room := ({ frames := 2, cells := 0, slots := 0, locals := 43 } : Room)
def F_X7_readCond_10 (f_X7_readAll : St → St → St → Int32 → Option (St × St)) (k10 : Int32 × Int32 × St × St × St → Option (St × St)) (x3 : Int32) (x4 : Int32) (S0 : St) (S1 : St) (S2 : St) : Option (St × St) := if (20 : Int32) ≤ x4 then (some (S0, S1)) else (ob2 (F_X5_takeWord S1 (24 : Int32)) fun r3 U4 => if r3 = 0 then (some (S0, U4)) else (ob2 (f_X7_readAll S0 U4 S2 x3) fun U7 U8 => ob1 (F_X7_addStep U7 (24 : Int32) (0 : Int32) (0 : Int32)) fun U10 => k10 (x3, (x4 + 1), U10, U8, S2)))
def L_X7_readCond_10 (f_X7_readAll : St → St → St → Int32 → Option (St × St)) (x3 : Int32) (x4 : Int32) (S0 : St) (S1 : St) (S2 : St) : Option (St × St) := lp (fun kz z => F_X7_readCond_10 f_X7_readAll kz z.1 z.2.1 z.2.2.1 z.2.2.2.1 z.2.2.2.2) FU (x3, x4, S0, S1, S2)
def F_X7_readCond (f_X7_readAll : St → St → St → Int32 → Option (St × St)) (S0 : St) (S1 : St) (S2 : St) (x3 : Int32) : Option (St × St) := ob2 (f_X7_readAll S0 S1 S2 x3) fun U2 U3 => L_X7_readCond_10 f_X7_readAll x3 (0 : Int32) U2 U3 S2
set_option maxRecDepth 100000 in
set_option maxHeartbeats 4000000 in
theorem b_X7_readCond_10 {p : Program} {l : Launch} {e : Env} {s : State} {m : MethodId} {args : Array Value} {below : List Frame} {meth : Method} {c : Code} {D : va_G} {q : Nat → ClassId} {A : Nat → Prop} {tp : Nat} {o0 : Nat} {a0 : Nat → Nat} {o1 : Nat} {a1 : Nat → Nat} {o2 : Nat} {a2 : Nat → Nat} {T0 : St} {T1 : St} (C : cx p s m args meth c cX7_readCond 5 none RX7 D q A) {R : Room} (hR0 : 2 ≤ R.frames ∧ 43 ≤ R.locals) {f_X7_readAll : St → St → St → Int32 → Option (St × St)} {rm_X7_readAll : Room} (hm_X7_readAll : ∀ (sz : Nat) (S0 S1 S2 : St) (x3 : Int32) (T0 T1 : St), f_X7_readAll S0 S1 S2 x3 = some (T0, T1) → Met l yX7_readAll (Cond.code yX7_readAll cX7_readAll 5 none :: TB) rm_X7_readAll (PC D q [.ref o0, .ref o1, .ref o2, .int x3] (g7 q o0 a0 S0 ++ g5 q o1 a1 tp S1 ++ g8 q o2 a2 S2) sz) (QV D (va_A (g7 q o0 a0 S0 ++ g5 q o1 a1 tp S1 ++ g8 q o2 a2 S2) sz) (g7 q o0 a0 T0 ++ g5 q o1 a1 tp T1 ++ g8 q o2 a2 S2)) 0 0 (va_A (g7 q o0 a0 S0 ++ g5 q o1 a1 tp S1 ++ g8 q o2 a2 S2) sz)) (hz_X7_readAll : rm_X7_readAll.cells = 0 ∧ rm_X7_readAll.slots = 0) (hr_X7_readAll : rm_X7_readAll.frames + 1 ≤ R.frames ∧ 8 + (5 + 11) + rm_X7_readAll.locals ≤ R.locals) {k10 : Int32 × Int32 × St × St × St → Option (St × St)} (hk10 : ∀ (x3 : Int32) (x4 : Int32) (S0 : St) (S1 : St) (S2 : St), k10 (x3, x4, S0, S1, S2) = some (T0, T1) → ∀ (H : Heap) (locs : List Loc) (ls : Array Slot), va_P D vwCl (g7 q o0 a0 S0 ++ g5 q o1 a1 tp S1 ++ g8 q o2 a2 S2) H → va_D A (g7 q o0 a0 S0 ++ g5 q o1 a1 tp S1 ++ g8 q o2 a2 S2) → va_S A s.heap H locs → lv_has ls 5 [(0, .ref o0), (1, .ref o1), (2, .ref o2), (3, .int x3), (4, .int x4)] → W p l e R s m args below meth c H locs 0 0 (MQ below (QV D A (g7 q o0 a0 T0 ++ g5 q o1 a1 tp T1 ++ g8 q o2 a2 S2)) args s 0 0 A) (F0 m 10 ls [])) {x3 : Int32} {x4 : Int32} {S0 : St} {S1 : St} {S2 : St} (hF : F_X7_readCond_10 f_X7_readAll k10 x3 x4 S0 S1 S2 = some (T0, T1)) {H : Heap} {locs : List Loc} (hP : va_P D vwCl (g7 q o0 a0 S0 ++ g5 q o1 a1 tp S1 ++ g8 q o2 a2 S2) H) (hD : va_D A (g7 q o0 a0 S0 ++ g5 q o1 a1 tp S1 ++ g8 q o2 a2 S2)) (hS : va_S A s.heap H locs) {ls : Array Slot} (hl : lv_has ls 5 [(0, .ref o0), (1, .ref o1), (2, .ref o2), (3, .int x3), (4, .int x4)]) : W p l e R s m args below meth c H locs 0 0 (MQ below (QV D A (g7 q o0 a0 T0 ++ g5 q o1 a1 tp T1 ++ g8 q o2 a2 S2)) args s 0 0 A) (F0 m 10 ls []) := by
  unfold F_X7_readCond_10 at hF
  obtain ⟨hx, hb, hr, hml, hown, hts, hlk, hA, hK, hN, hV⟩ := id C
  refine lv_iload hx hb dX7_readCond_10 (lv_at hl 4 rfl) ?_
  refine lv_bipush (v := (20 : Int32)) hx hb dX7_readCond_12 (by decide) ?_
  refine lv_icmp_ge (tgt := 47) hx hb dX7_readCond_14 (by decide) (fun c1 => ?_) (fun c1 => ?_)
  · have hF := op_t hF c1
    cases hF
    exact k_vret C hP hS dX7_readCond_47
  · have hF := op_f hF c1
    refine lv_aload_n hx hb dX7_readCond_17 rfl (lv_at hl 1 rfl) ?_
    refine lv_bipush (v := (24 : Int32)) hx hb dX7_readCond_18 (by decide) ?_
    obtain ⟨r3, U4, hc2, hF⟩ := ob2_s hF
    refine k_ipart (W8 := g7 q o0 a0 S0 ++ g5 q o1 a1 tp U4 ++ g8 q o2 a2 S2) C (k_rV (As := [.int (24 : Int32)]) (rest := []) C (c_X5_takeWord l D q tp o1 a1 S1 _ (24 : Int32) hc2) kc_X5_takeWord ml_X7_54 rfl rfl ⟨Nat.le_trans (Nat.le_of_ble_eq_true rfl) hR0.1, Nat.le_trans (Nat.le_of_ble_eq_true rfl) hR0.2⟩ (hP.sub (ws' := g5 q o1 a1 tp S1) [4, 5, 6, 7, 8] rfl) (hD.sub (ws' := g5 q o1 a1 tp S1) [4, 5, 6, 7, 8] (by decide) rfl) hS (va_recv hK hP (ci := 5) (q0 := 4) rfl rfl) rfl hl.1 rfl (Nat.le_of_ble_eq_true rfl) dX7_readCond_20 ⟨Nat.zero_le _, Nat.zero_le _⟩) hP hD hS [4, 5, 6, 7, 8] [0, 1, 2, 3, 9, 10, 11, 12, 13, 14, 15, 16, 17, 18, 19] rfl rfl rfl rfl rfl rfl (fun H locs hP hD hS => ?_)
    refine lv_if_eq (tgt := 47) hx hb dX7_readCond_23 (by decide) (fun c5 => ?_) (fun c5 => ?_)
    · have hF := op_t hF c5
      cases hF
      exact k_vret C hP hS dX7_readCond_47
    · have hF := op_f hF c5
      refine lv_aload_n hx hb dX7_readCond_26 rfl (lv_at hl 0 rfl) ?_
      refine lv_aload_n hx hb dX7_readCond_27 rfl (lv_at hl 1 rfl) ?_
      refine lv_aload_n hx hb dX7_readCond_28 rfl (lv_at hl 2 rfl) ?_
      refine lv_iload_n hx hb dX7_readCond_29 rfl (lv_at hl 3 rfl) ?_
      obtain ⟨U7, U8, hc6, hF⟩ := ob2_s hF
      refine k_vall C (k_rV (As := [.ref o1, .ref o2, .int x3]) (rest := []) C (hm_X7_readAll _ S0 U4 S2 x3 U7 U8 hc6) kc_X7_readAll ml_X7_51 hz_X7_readAll.1 hz_X7_readAll.2 hr_X7_readAll hP hD hS (va_recv hK hP (ci := 7) (q0 := 0) rfl rfl) rfl hl.1 rfl (Nat.le_of_ble_eq_true rfl) dX7_readCond_30 ⟨Nat.zero_le _, Nat.zero_le _⟩) hP hD hS rfl (fun H locs hP hD hS => ?_)
      refine lv_aload_n hx hb dX7_readCond_33 rfl (lv_at hl 0 rfl) ?_
      refine lv_bipush (v := (24 : Int32)) hx hb dX7_readCond_34 (by decide) ?_
      refine lv_iconst (v := (0 : Int32)) hx hb dX7_readCond_36 (by decide) ?_
      refine lv_iconst (v := (0 : Int32)) hx hb dX7_readCond_37 (by decide) ?_
      obtain ⟨U10, hc9, hF⟩ := ob1_s hF
      refine k_vpart (W8 := g7 q o0 a0 U10 ++ g5 q o1 a1 tp U8 ++ g8 q o2 a2 S2) C (k_rV (As := [.int (24 : Int32), .int (0 : Int32), .int (0 : Int32)]) (rest := []) C (c_X7_addStep l D q o0 a0 U7 _ (24 : Int32) (0 : Int32) (0 : Int32) hc9) kc_X7_addStep ml_X7_58 rfl rfl ⟨Nat.le_trans (Nat.le_of_ble_eq_true rfl) hR0.1, Nat.le_trans (Nat.le_of_ble_eq_true rfl) hR0.2⟩ (hP.sub (ws' := g7 q o0 a0 U7) [0, 1, 2, 3] rfl) (hD.sub (ws' := g7 q o0 a0 U7) [0, 1, 2, 3] (by decide) rfl) hS (va_recv hK hP (ci := 7) (q0 := 0) rfl rfl) rfl hl.1 rfl (Nat.le_of_ble_eq_true rfl) dX7_readCond_38 ⟨Nat.zero_le _, Nat.zero_le _⟩) hP hD hS [0, 1, 2, 3] [4, 5, 6, 7, 8, 9, 10, 11, 12, 13, 14, 15, 16, 17, 18, 19] rfl rfl rfl rfl rfl rfl (fun H locs hP hD hS => ?_)
      refine lv_iinc (v := (x4 + 1)) (lv' := [(4, .int (x4 + 1)), (0, .ref o0), (1, .ref o1), (2, .ref o2), (3, .int x3)]) hx hb dX7_readCond_41 hl (k := 4) rfl rfl (by decide) rfl (fun ls hl => ?_)
      refine lv_goto (tgt := 10) hx hb dX7_readCond_44 (by decide) ?_
      exact hk10 x3 (x4 + 1) U10 U8 S2 hF _ _ _ hP hD hS (lv_sub hl [1, 2, 3, 4, 0] rfl)
set_option maxRecDepth 100000 in
set_option maxHeartbeats 4000000 in
theorem l_X7_readCond_10 {p : Program} {l : Launch} {e : Env} {s : State} {m : MethodId} {args : Array Value} {below : List Frame} {meth : Method} {c : Code} {D : va_G} {q : Nat → ClassId} {A : Nat → Prop} {tp : Nat} {o0 : Nat} {a0 : Nat → Nat} {o1 : Nat} {a1 : Nat → Nat} {o2 : Nat} {a2 : Nat → Nat} {T0 : St} {T1 : St} (C : cx p s m args meth c cX7_readCond 5 none RX7 D q A) {R : Room} (hR0 : 2 ≤ R.frames ∧ 43 ≤ R.locals) {f_X7_readAll : St → St → St → Int32 → Option (St × St)} {rm_X7_readAll : Room} (hm_X7_readAll : ∀ (sz : Nat) (S0 S1 S2 : St) (x3 : Int32) (T0 T1 : St), f_X7_readAll S0 S1 S2 x3 = some (T0, T1) → Met l yX7_readAll (Cond.code yX7_readAll cX7_readAll 5 none :: TB) rm_X7_readAll (PC D q [.ref o0, .ref o1, .ref o2, .int x3] (g7 q o0 a0 S0 ++ g5 q o1 a1 tp S1 ++ g8 q o2 a2 S2) sz) (QV D (va_A (g7 q o0 a0 S0 ++ g5 q o1 a1 tp S1 ++ g8 q o2 a2 S2) sz) (g7 q o0 a0 T0 ++ g5 q o1 a1 tp T1 ++ g8 q o2 a2 S2)) 0 0 (va_A (g7 q o0 a0 S0 ++ g5 q o1 a1 tp S1 ++ g8 q o2 a2 S2) sz)) (hz_X7_readAll : rm_X7_readAll.cells = 0 ∧ rm_X7_readAll.slots = 0) (hr_X7_readAll : rm_X7_readAll.frames + 1 ≤ R.frames ∧ 8 + (5 + 11) + rm_X7_readAll.locals ≤ R.locals) {x3 : Int32} {x4 : Int32} {S0 : St} {S1 : St} {S2 : St} (hF : L_X7_readCond_10 f_X7_readAll x3 x4 S0 S1 S2 = some (T0, T1)) : ∀ (H : Heap) (locs : List Loc) (ls : Array Slot), va_P D vwCl (g7 q o0 a0 S0 ++ g5 q o1 a1 tp S1 ++ g8 q o2 a2 S2) H → va_D A (g7 q o0 a0 S0 ++ g5 q o1 a1 tp S1 ++ g8 q o2 a2 S2) → va_S A s.heap H locs → lv_has ls 5 [(0, .ref o0), (1, .ref o1), (2, .ref o2), (3, .int x3), (4, .int x4)] → W p l e R s m args below meth c H locs 0 0 (MQ below (QV D A (g7 q o0 a0 T0 ++ g5 q o1 a1 tp T1 ++ g8 q o2 a2 S2)) args s 0 0 A) (F0 m 10 ls []) :=
  lp_G _ _ (fun z => ∀ (H : Heap) (locs : List Loc) (ls : Array Slot), va_P D vwCl (g7 q o0 a0 z.2.2.1 ++ g5 q o1 a1 tp z.2.2.2.1 ++ g8 q o2 a2 z.2.2.2.2) H → va_D A (g7 q o0 a0 z.2.2.1 ++ g5 q o1 a1 tp z.2.2.2.1 ++ g8 q o2 a2 z.2.2.2.2) → va_S A s.heap H locs → lv_has ls 5 [(0, .ref o0), (1, .ref o1), (2, .ref o2), (3, .int z.1), (4, .int z.2.1)] → W p l e R s m args below meth c H locs 0 0 (MQ below (QV D A (g7 q o0 a0 T0 ++ g5 q o1 a1 tp T1 ++ g8 q o2 a2 z.2.2.2.2)) args s 0 0 A) (F0 m 10 ls [])) (fun kz hkz z hz H locs ls hP hD hS hl => b_X7_readCond_10 C hR0 hm_X7_readAll hz_X7_readAll hr_X7_readAll (fun x3 x4 S0 S1 S2 hz => hkz (x3, x4, S0, S1, S2) hz) hz hP hD hS hl) FU (x3, x4, S0, S1, S2) hF
set_option maxRecDepth 100000 in
set_option maxHeartbeats 4000000 in
theorem c_X7_readCond (l : Launch) (D : va_G) (q : Nat → ClassId) (tp : Nat) (o0 : Nat) (a0 : Nat → Nat) (S0 : St) (o1 : Nat) (a1 : Nat → Nat) (S1 : St) (o2 : Nat) (a2 : Nat → Nat) (S2 : St) (sz : Nat) (x3 : Int32) {T0 : St} {T1 : St} {R : Room} (hR0 : 2 ≤ R.frames ∧ 43 ≤ R.locals) {f_X7_readAll : St → St → St → Int32 → Option (St × St)} {rm_X7_readAll : Room} (hm_X7_readAll : ∀ (sz : Nat) (S0 S1 S2 : St) (x3 : Int32) (T0 T1 : St), f_X7_readAll S0 S1 S2 x3 = some (T0, T1) → Met l yX7_readAll (Cond.code yX7_readAll cX7_readAll 5 none :: TB) rm_X7_readAll (PC D q [.ref o0, .ref o1, .ref o2, .int x3] (g7 q o0 a0 S0 ++ g5 q o1 a1 tp S1 ++ g8 q o2 a2 S2) sz) (QV D (va_A (g7 q o0 a0 S0 ++ g5 q o1 a1 tp S1 ++ g8 q o2 a2 S2) sz) (g7 q o0 a0 T0 ++ g5 q o1 a1 tp T1 ++ g8 q o2 a2 S2)) 0 0 (va_A (g7 q o0 a0 S0 ++ g5 q o1 a1 tp S1 ++ g8 q o2 a2 S2) sz)) (hz_X7_readAll : rm_X7_readAll.cells = 0 ∧ rm_X7_readAll.slots = 0) (hr_X7_readAll : rm_X7_readAll.frames + 1 ≤ R.frames ∧ 8 + (5 + 11) + rm_X7_readAll.locals ≤ R.locals) (hF : F_X7_readCond f_X7_readAll S0 S1 S2 x3 = some (T0, T1)) : Met l yX7_readCond (Cond.code yX7_readCond cX7_readCond 5 none :: TB) R (PC D q [.ref o0, .ref o1, .ref o2, .int x3] (g7 q o0 a0 S0 ++ g5 q o1 a1 tp S1 ++ g8 q o2 a2 S2) sz) ((fun A => QV D A (g7 q o0 a0 T0 ++ g5 q o1 a1 tp T1 ++ g8 q o2 a2 S2)) (va_A (g7 q o0 a0 S0 ++ g5 q o1 a1 tp S1 ++ g8 q o2 a2 S2) sz)) 0 0 (va_A (g7 q o0 a0 S0 ++ g5 q o1 a1 tp S1 ++ g8 q o2 a2 S2) sz) := by
  refine k_met (w0 := g7 q o0 a0 S0 ++ g5 q o1 a1 tp S1 ++ g8 q o2 a2 S2) (Q := fun A => QV D A (g7 q o0 a0 T0 ++ g5 q o1 a1 tp T1 ++ g8 q o2 a2 S2)) (by decide +kernel) (Nat.le_of_ble_eq_true rfl) ?_
  intro p e s m args below meth c A ls C hP hD hS hl
  have hl : lv_has ls 5 [(0, .ref o0), (1, .ref o1), (2, .ref o2), (3, .int x3)] := hl
  unfold F_X7_readCond at hF
  have C : cx p s m args meth c cX7_readCond 5 none RX7 D q A := C
  obtain ⟨hx, hb, hr, hml, hown, hts, hlk, hA, hK, hN, hV⟩ := id C
  refine lv_aload_n hx hb dX7_readCond_0 rfl (lv_at hl 0 rfl) ?_
  refine lv_aload_n hx hb dX7_readCond_1 rfl (lv_at hl 1 rfl) ?_
  refine lv_aload_n hx hb dX7_readCond_2 rfl (lv_at hl 2 rfl) ?_
  refine lv_iload_n hx hb dX7_readCond_3 rfl (lv_at hl 3 rfl) ?_
  obtain ⟨U2, U3, hc1, hF⟩ := ob2_s hF
  refine k_vall C (k_rV (As := [.ref o1, .ref o2, .int x3]) (rest := []) C (hm_X7_readAll _ S0 S1 S2 x3 U2 U3 hc1) kc_X7_readAll ml_X7_51 hz_X7_readAll.1 hz_X7_readAll.2 hr_X7_readAll hP hD hS (va_recv hK hP (ci := 7) (q0 := 0) rfl rfl) rfl hl.1 rfl (Nat.le_of_ble_eq_true rfl) dX7_readCond_4 ⟨Nat.zero_le _, Nat.zero_le _⟩) hP hD hS rfl (fun H locs hP hD hS => ?_)
  refine lv_iconst (v := (0 : Int32)) hx hb dX7_readCond_7 (by decide) ?_
  refine lv_istore (lv' := [(4, .int (0 : Int32)), (0, .ref o0), (1, .ref o1), (2, .ref o2), (3, .int x3)]) hx hb dX7_readCond_8 hl (by decide) rfl (fun ls hl => ?_)
  exact l_X7_readCond_10 C hR0 hm_X7_readAll hz_X7_readAll hr_X7_readAll hF _ _ _ hP hD hS (lv_sub hl [1, 2, 3, 4, 0] rfl)

abbrev rm_X10_sit : Room := ({ frames := 4, cells := 0, slots := 0, locals := 89 } : Room)
def F_X10_sit_46 (k46 : Int32 × Int32 × St × St → Option (Int32 × St)) (x2 : Int32) (x3 : Int32) (S0 : St) (S1 : St) : Option (Int32 × St) := if x3 = 0 then (some (x2, S0)) else (if (10 : Int32) ≤ x2 then (some (x2, S0)) else (ob2 (F_X10_goRound S0) fun r4 U5 => k46 ((x2 + 1), r4, U5, S1)))
def L_X10_sit_46 (x2 : Int32) (x3 : Int32) (S0 : St) (S1 : St) : Option (Int32 × St) := lp (fun kz z => F_X10_sit_46 kz z.1 z.2.1 z.2.2.1 z.2.2.2) FU (x2, x3, S0, S1)
def F_X10_sit (S0 : St) (S1 : St) : Option (Int32 × St) := nw (sI S0 1 (S1.1 7)) fun U1 => ob1 (F_X8_upBits S1) fun r4 => nw (sI U1 2 ((((1 : Int32) <<< ((U1.1 1) &&& 31)) - (1 : Int32)) &&& (r4 ^^^ (-1 : Int32)))) fun U5 => nw (sF U5 0 (S1.2.2.1 9)) fun U7 => L_X10_sit_46 (0 : Int32) (1 : Int32) U7 S1
set_option maxRecDepth 100000 in
set_option maxHeartbeats 4000000 in
theorem b_X10_sit_46 {p : Program} {l : Launch} {e : Env} {s : State} {m : MethodId} {args : Array Value} {below : List Frame} {meth : Method} {c : Code} {D : va_G} {q : Nat → ClassId} {A : Nat → Prop} {o0 : Nat} {a0 : Nat → Nat} {o1 : Nat} {a1 : Nat → Nat} {r : Int32} {T0 : St} (C : cx p s m args meth c cX10_sit 4 (some .int) RX10 D q A) {k46 : Int32 × Int32 × St × St → Option (Int32 × St)} (hk46 : ∀ (x2 : Int32) (x3 : Int32) (S0 : St) (S1 : St), k46 (x2, x3, S0, S1) = some (r, T0) → ∀ (H : Heap) (locs : List Loc) (ls : Array Slot), va_P D vwCl (g10 q o0 a0 S0 ++ g8 q o1 a1 S1) H → va_D A (g10 q o0 a0 S0 ++ g8 q o1 a1 S1) → va_S A s.heap H locs → lv_has ls 4 [(0, .ref o0), (2, .int x2), (3, .int x3)] → W p l e rm_X10_sit s m args below meth c H locs 0 0 (MQ below (QI D A r (g10 q o0 a0 T0 ++ g8 q o1 a1 S1)) args s 0 0 A) (F0 m 46 ls [])) {x2 : Int32} {x3 : Int32} {S0 : St} {S1 : St} (hF : F_X10_sit_46 k46 x2 x3 S0 S1 = some (r, T0)) {H : Heap} {locs : List Loc} (hP : va_P D vwCl (g10 q o0 a0 S0 ++ g8 q o1 a1 S1) H) (hD : va_D A (g10 q o0 a0 S0 ++ g8 q o1 a1 S1)) (hS : va_S A s.heap H locs) {ls : Array Slot} (hl : lv_has ls 4 [(0, .ref o0), (2, .int x2), (3, .int x3)]) : W p l e rm_X10_sit s m args below meth c H locs 0 0 (MQ below (QI D A r (g10 q o0 a0 T0 ++ g8 q o1 a1 S1)) args s 0 0 A) (F0 m 46 ls []) := by
  unfold F_X10_sit_46 at hF
  obtain ⟨hx, hb, hr, hml, hown, hts, hlk, hA, hK, hN, hV⟩ := id C
  refine lv_iload_n hx hb dX10_sit_46 rfl (lv_at hl 2 rfl) ?_
  refine lv_if_eq (tgt := 67) hx hb dX10_sit_47 (by decide) (fun c1 => ?_) (fun c1 => ?_)
  · have hF := op_t hF c1
    refine lv_iload_n hx hb dX10_sit_67 rfl (lv_at hl 1 rfl) ?_
    cases hF
    exact k_iret C hP hS dX10_sit_68
  · have hF := op_f hF c1
    refine lv_iload_n hx hb dX10_sit_50 rfl (lv_at hl 1 rfl) ?_
    refine lv_bipush (v := (10 : Int32)) hx hb dX10_sit_51 (by decide) ?_
    refine lv_icmp_ge (tgt := 67) hx hb dX10_sit_53 (by decide) (fun c2 => ?_) (fun c2 => ?_)
    · have hF := op_t hF c2
      refine lv_iload_n hx hb dX10_sit_67 rfl (lv_at hl 1 rfl) ?_
      cases hF
      exact k_iret C hP hS dX10_sit_68
    · have hF := op_f hF c2
      refine lv_aload_n hx hb dX10_sit_56 rfl (lv_at hl 0 rfl) ?_
      obtain ⟨r4, U5, hc3, hF⟩ := ob2_s hF
      refine k_ipart (W8 := g10 q o0 a0 U5 ++ g8 q o1 a1 S1) C (k_rV (As := []) (rest := []) C (c_X10_goRound l D q o0 a0 S0 _ hc3) kc_X10_goRound ml_X10_36 rfl rfl (by decide) (hP.sub (ws' := g10 q o0 a0 S0) [0, 1] rfl) (hD.sub (ws' := g10 q o0 a0 S0) [0, 1] (by decide) rfl) hS (va_recv hK hP (ci := 10) (q0 := 0) rfl rfl) rfl hl.1 rfl (Nat.le_of_ble_eq_true rfl) dX10_sit_57 (by decide)) hP hD hS [0, 1] [2, 3, 4, 5, 6, 7, 8, 9, 10, 11, 12] rfl rfl rfl rfl rfl rfl (fun H locs hP hD hS => ?_)
      refine lv_istore_n (lv' := [(3, .int r4), (0, .ref o0), (2, .int x2)]) hx hb dX10_sit_60 rfl hl (by decide) rfl (fun ls hl => ?_)
      refine lv_iinc (v := (x2 + 1)) (lv' := [(2, .int (x2 + 1)), (3, .int r4), (0, .ref o0)]) hx hb dX10_sit_61 hl (k := 2) rfl rfl (by decide) rfl (fun ls hl => ?_)
      refine lv_goto (tgt := 46) hx hb dX10_sit_64 (by decide) ?_
      exact hk46 (x2 + 1) r4 U5 S1 hF _ _ _ hP hD hS (lv_sub hl [2, 0, 1] rfl)
set_option maxRecDepth 100000 in
set_option maxHeartbeats 4000000 in
theorem l_X10_sit_46 {p : Program} {l : Launch} {e : Env} {s : State} {m : MethodId} {args : Array Value} {below : List Frame} {meth : Method} {c : Code} {D : va_G} {q : Nat → ClassId} {A : Nat → Prop} {o0 : Nat} {a0 : Nat → Nat} {o1 : Nat} {a1 : Nat → Nat} {r : Int32} {T0 : St} (C : cx p s m args meth c cX10_sit 4 (some .int) RX10 D q A) {x2 : Int32} {x3 : Int32} {S0 : St} {S1 : St} (hF : L_X10_sit_46 x2 x3 S0 S1 = some (r, T0)) : ∀ (H : Heap) (locs : List Loc) (ls : Array Slot), va_P D vwCl (g10 q o0 a0 S0 ++ g8 q o1 a1 S1) H → va_D A (g10 q o0 a0 S0 ++ g8 q o1 a1 S1) → va_S A s.heap H locs → lv_has ls 4 [(0, .ref o0), (2, .int x2), (3, .int x3)] → W p l e rm_X10_sit s m args below meth c H locs 0 0 (MQ below (QI D A r (g10 q o0 a0 T0 ++ g8 q o1 a1 S1)) args s 0 0 A) (F0 m 46 ls []) :=
  lp_G _ _ (fun z => ∀ (H : Heap) (locs : List Loc) (ls : Array Slot), va_P D vwCl (g10 q o0 a0 z.2.2.1 ++ g8 q o1 a1 z.2.2.2) H → va_D A (g10 q o0 a0 z.2.2.1 ++ g8 q o1 a1 z.2.2.2) → va_S A s.heap H locs → lv_has ls 4 [(0, .ref o0), (2, .int z.1), (3, .int z.2.1)] → W p l e rm_X10_sit s m args below meth c H locs 0 0 (MQ below (QI D A r (g10 q o0 a0 T0 ++ g8 q o1 a1 z.2.2.2)) args s 0 0 A) (F0 m 46 ls [])) (fun kz hkz z hz H locs ls hP hD hS hl => b_X10_sit_46 C (fun x2 x3 S0 S1 hz => hkz (x2, x3, S0, S1) hz) hz hP hD hS hl) FU (x2, x3, S0, S1) hF
set_option maxRecDepth 100000 in
set_option maxHeartbeats 4000000 in
theorem c_X10_sit (l : Launch) (D : va_G) (q : Nat → ClassId) (o0 : Nat) (a0 : Nat → Nat) (S0 : St) (o1 : Nat) (a1 : Nat → Nat) (S1 : St) (sz : Nat) {r : Int32} {T0 : St} (hF : F_X10_sit S0 S1 = some (r, T0)) : Met l yX10_sit (Cond.code yX10_sit cX10_sit 4 (some .int) :: TB) rm_X10_sit (PC D q [.ref o0, .ref o1] (g10 q o0 a0 S0 ++ g8 q o1 a1 S1) sz) ((fun A => QI D A r (g10 q o0 a0 T0 ++ g8 q o1 a1 S1)) (va_A (g10 q o0 a0 S0 ++ g8 q o1 a1 S1) sz)) 0 0 (va_A (g10 q o0 a0 S0 ++ g8 q o1 a1 S1) sz) := by
  refine k_met (w0 := g10 q o0 a0 S0 ++ g8 q o1 a1 S1) (Q := fun A => QI D A r (g10 q o0 a0 T0 ++ g8 q o1 a1 S1)) (by decide +kernel) (Nat.le_of_ble_eq_true rfl) ?_
  intro p e s m args below meth c A ls C hP hD hS hl
  have hl : lv_has ls 4 [(0, .ref o0), (1, .ref o1)] := hl
  unfold F_X10_sit at hF
  have C : cx p s m args meth c cX10_sit 4 (some .int) RX10 D q A := C
  obtain ⟨hx, hb, hr, hml, hown, hts, hlk, hA, hK, hN, hV⟩ := id C
  refine lv_aload_n hx hb dX10_sit_0 rfl (lv_at hl 0 rfl) ?_
  refine lv_aload_n hx hb dX10_sit_1 rfl (lv_at hl 1 rfl) ?_
  refine k_get (v := .int (S1.1 7)) C fg_X10_19 hP 2 rfl rfl dX10_sit_2 ?_
  obtain ⟨U1, e2, hF⟩ := nw_s hF
  refine k_put (W8 := g10 q o0 a0 U1 ++ g8 q o1 a1 S1) C fp_X10_15 hP hD hS 0 rfl rfl rfl (Nat.le_of_ble_eq_true rfl) dX10_sit_5 (by rw [e2]; rfl) (fun H locs hP hD hS => ?_)
  refine lv_aload_n hx hb dX10_sit_8 rfl (lv_at hl 0 rfl) ?_
  refine lv_iconst (v := (1 : Int32)) hx hb dX10_sit_9 (by decide) ?_
  refine lv_aload_n hx hb dX10_sit_10 rfl (lv_at hl 0 rfl) ?_
  refine k_get (v := .int (U1.1 1)) C fg_X10_15 hP 0 rfl rfl dX10_sit_11 ?_
  refine lv_ishl hx hb dX10_sit_14 ?_
  refine lv_iconst (v := (1 : Int32)) hx hb dX10_sit_15 (by decide) ?_
  refine lv_isub hx hb dX10_sit_16 ?_
  refine lv_aload_n hx hb dX10_sit_17 rfl (lv_at hl 1 rfl) ?_
  obtain ⟨r4, hc3, hF⟩ := ob1_s hF
  refine k_iro C (k_rV (As := []) (rest := [.int (((1 : Int32) <<< ((U1.1 1) &&& 31)) - (1 : Int32)), .ref o0]) C (c_X8_upBits l D q o1 a1 S1 _ hc3) kc_X8_upBits ml_X10_22 rfl rfl (by decide) (hP.sub (ws' := g8 q o1 a1 S1) [2, 3, 4, 5, 6, 7, 8, 9, 10, 11, 12] rfl) (hD.sub (ws' := g8 q o1 a1 S1) [2, 3, 4, 5, 6, 7, 8, 9, 10, 11, 12] (by decide) rfl) hS (va_recv hK hP (ci := 8) (q0 := 2) rfl rfl) rfl hl.1 rfl (Nat.le_of_ble_eq_true rfl) dX10_sit_18 (by decide)) hP hD hS [2, 3, 4, 5, 6, 7, 8, 9, 10, 11, 12] rfl (fun H locs hP hD hS => ?_)
  refine lv_iconst (v := (-1 : Int32)) hx hb dX10_sit_21 (by decide) ?_
  refine lv_ixor hx hb dX10_sit_22 ?_
  refine lv_iand hx hb dX10_sit_23 ?_
  obtain ⟨U5, e6, hF⟩ := nw_s hF
  refine k_put (W8 := g10 q o0 a0 U5 ++ g8 q o1 a1 S1) C fp_X10_26 hP hD hS 0 rfl rfl rfl (Nat.le_of_ble_eq_true rfl) dX10_sit_24 (by rw [e6]; rfl) (fun H locs hP hD hS => ?_)
  refine lv_aload_n hx hb dX10_sit_27 rfl (lv_at hl 1 rfl) ?_
  refine k_get (v := .ref (a1 10)) C fg_X10_29 hP 2 rfl rfl dX10_sit_28 ?_
  refine lv_iconst (v := (0 : Int32)) hx hb dX10_sit_31 (by decide) ?_
  refine lv_aload_n hx hb dX10_sit_32 rfl (lv_at hl 0 rfl) ?_
  refine k_get (v := .ref (a0 1)) C fg_X10_9 hP 0 rfl rfl dX10_sit_33 ?_
  refine lv_iconst (v := (0 : Int32)) hx hb dX10_sit_36 (by decide) ?_
  refine lv_bipush (v := (6 : Int32)) hx hb dX10_sit_37 (by decide) ?_
  obtain ⟨U7, e8, hF⟩ := nw_s hF
  refine k_cpi (f := S1.2.2.1 9) (g := U5.2.2.1 0) (W8 := g10 q o0 a0 U7 ++ g8 q o1 a1 S1) C ml_X10_30 hl.1 hP hD hS 8 1 rfl rfl ⟨by decide, by decide⟩ (Nat.le_of_ble_eq_true rfl) ⟨by decide, by decide⟩ dX10_sit_39 (by rw [e8]; rfl) (fun H locs hP hD hS => ?_)
  refine lv_iconst (v := (0 : Int32)) hx hb dX10_sit_42 (by decide) ?_
  refine lv_istore_n (lv' := [(2, .int (0 : Int32)), (0, .ref o0), (1, .ref o1)]) hx hb dX10_sit_43 rfl hl (by decide) rfl (fun ls hl => ?_)
  refine lv_iconst (v := (1 : Int32)) hx hb dX10_sit_44 (by decide) ?_
  refine lv_istore_n (lv' := [(3, .int (1 : Int32)), (2, .int (0 : Int32)), (0, .ref o0), (1, .ref o1)]) hx hb dX10_sit_45 rfl hl (by decide) rfl (fun ls hl => ?_)
  exact l_X10_sit_46 C hF _ _ _ hP hD hS (lv_sub hl [2, 1, 0] rfl)

abbrev rm_X11_suburb : Room := ({ frames := 6, cells := 0, slots := 0, locals := 134 } : Room)
def F_X11_suburb (S0 : St) (S1 : St) (S2 : St) (S3 : St) (S4 : St) (S5 : St) (S6 : St) : Option (Int32 × St × St × St × St × St × St × St) := ob3 (F_X8_readFrom S4 S2 S6) fun r2 U3 U4 => ob2 (F_X11_closeText S0 U4 S6) fun U6 U7 => if r2 = (-1 : Int32) then (some (((-1 : Int32) - (U4.1 9)), U6, S1, U4, S3, U3, S5, U7)) else (ob1 (F_X8_copyFrom S5 U3) fun U10 => ob1 (F_X7_empty S3) fun U12 => ob1 (F_X2_forget S1) fun U14 => some (r2, U6, U14, U4, U12, U3, U10, U7))
set_option maxRecDepth 100000 in
set_option maxHeartbeats 4000000 in
theorem c_X11_suburb (l : Launch) (D : va_G) (q : Nat → ClassId) (tp : Nat) (o0 : Nat) (a0 : Nat → Nat) (S0 : St) (a1 : Nat → Nat) (S1 : St) (a2 : Nat → Nat) (S2 : St) (a3 : Nat → Nat) (S3 : St) (a4 : Nat → Nat) (S4 : St) (a5 : Nat → Nat) (S5 : St) (a6 : Nat → Nat) (S6 : St) (sz : Nat) {r : Int32} {T0 : St} {T1 : St} {T2 : St} {T3 : St} {T4 : St} {T5 : St} {T6 : St} (hF : F_X11_suburb S0 S1 S2 S3 S4 S5 S6 = some (r, T0, T1, T2, T3, T4, T5, T6)) : Met l yX11_suburb (Cond.code yX11_suburb cX11_suburb 2 (some .int) :: TB) rm_X11_suburb (PC D q [.ref o0] (g11 q o0 a0 tp S0 ++ g2 q (a0 8) a1 S1 ++ g5 q (a0 1) a2 tp S2 ++ g7 q (a0 5) a3 S3 ++ g8 q (a0 4) a4 S4 ++ g8 q (a0 3) a5 S5 ++ g9 q tp a6 940 S6) sz) ((fun A => QI D A r (g11 q o0 a0 tp T0 ++ g2 q (a0 8) a1 T1 ++ g5 q (a0 1) a2 tp T2 ++ g7 q (a0 5) a3 T3 ++ g8 q (a0 4) a4 T4 ++ g8 q (a0 3) a5 T5 ++ g9 q tp a6 940 T6)) (va_A (g11 q o0 a0 tp S0 ++ g2 q (a0 8) a1 S1 ++ g5 q (a0 1) a2 tp S2 ++ g7 q (a0 5) a3 S3 ++ g8 q (a0 4) a4 S4 ++ g8 q (a0 3) a5 S5 ++ g9 q tp a6 940 S6) sz)) 0 0 (va_A (g11 q o0 a0 tp S0 ++ g2 q (a0 8) a1 S1 ++ g5 q (a0 1) a2 tp S2 ++ g7 q (a0 5) a3 S3 ++ g8 q (a0 4) a4 S4 ++ g8 q (a0 3) a5 S5 ++ g9 q tp a6 940 S6) sz) := by
  refine k_met (w0 := g11 q o0 a0 tp S0 ++ g2 q (a0 8) a1 S1 ++ g5 q (a0 1) a2 tp S2 ++ g7 q (a0 5) a3 S3 ++ g8 q (a0 4) a4 S4 ++ g8 q (a0 3) a5 S5 ++ g9 q tp a6 940 S6) (Q := fun A => QI D A r (g11 q o0 a0 tp T0 ++ g2 q (a0 8) a1 T1 ++ g5 q (a0 1) a2 tp T2 ++ g7 q (a0 5) a3 T3 ++ g8 q (a0 4) a4 T4 ++ g8 q (a0 3) a5 T5 ++ g9 q tp a6 940 T6)) (by decide +kernel) (Nat.le_of_ble_eq_true rfl) ?_
  intro p e s m args below meth c A ls C hP hD hS hl
  have hl : lv_has ls 2 [(0, .ref o0)] := hl
  unfold F_X11_suburb at hF
  have C : cx p s m args meth c cX11_suburb 2 (some .int) RX11 D q A := C
  obtain ⟨hx, hb, hr, hml, hown, hts, hlk, hA, hK, hN, hV⟩ := id C
  refine lv_aload_n hx hb dX11_suburb_0 rfl (lv_at hl 0 rfl) ?_
  refine k_get (v := .ref (a0 4)) C fg_X11_30 hP 0 rfl rfl dX11_suburb_1 ?_
  refine lv_aload_n hx hb dX11_suburb_4 rfl (lv_at hl 0 rfl) ?_
  refine k_get (v := .ref (a0 1)) C fg_X11_10 hP 0 rfl rfl dX11_suburb_5 ?_
  obtain ⟨r2, U3, U4, hc1, hF⟩ := ob3_s hF
  refine k_ipart (W8 := g11 q o0 a0 tp S0 ++ g2 q (a0 8) a1 S1 ++ g5 q (a0 1) a2 tp U4 ++ g7 q (a0 5) a3 S3 ++ g8 q (a0 4) a4 U3 ++ g8 q (a0 3) a5 S5 ++ g9 q tp a6 940 S6) C (k_rV (As := [.ref (a0 1)]) (rest := []) C (c_X8_readFrom l D q tp (a0 4) a4 S4 (a0 1) a2 S2 a6 S6 _ hc1) kc_X8_readFrom ml_X11_117 rfl rfl (by decide) (hP.sub (ws' := g8 q (a0 4) a4 S4 ++ g5 q (a0 1) a2 tp S2 ++ g9 q tp a6 940 S6) [12, 13, 14, 15, 16, 17, 18, 19, 20, 21, 22, 3, 4, 5, 6, 7, 34, 35] rfl) (hD.sub (ws' := g8 q (a0 4) a4 S4 ++ g5 q (a0 1) a2 tp S2 ++ g9 q tp a6 940 S6) [12, 13, 14, 15, 16, 17, 18, 19, 20, 21, 22, 3, 4, 5, 6, 7, 34, 35] (by decide) rfl) hS (va_recv hK hP (ci := 8) (q0 := 12) rfl rfl) rfl hl.1 rfl (Nat.le_of_ble_eq_true rfl) dX11_suburb_8 (by decide)) hP hD hS [12, 13, 14, 15, 16, 17, 18, 19, 20, 21, 22, 3, 4, 5, 6, 7, 34, 35] [0, 1, 2, 8, 9, 10, 11, 23, 24, 25, 26, 27, 28, 29, 30, 31, 32, 33] rfl rfl rfl rfl rfl rfl (fun H locs hP hD hS => ?_)
  refine lv_istore_n (lv' := [(1, .int r2), (0, .ref o0)]) hx hb dX11_suburb_11 rfl hl (by decide) rfl (fun ls hl => ?_)
  refine lv_aload_n hx hb dX11_suburb_12 rfl (lv_at hl 1 rfl) ?_
  obtain ⟨U6, U7, hc5, hF⟩ := ob2_s hF
  refine k_vpart (W8 := g11 q o0 a0 tp U6 ++ g2 q (a0 8) a1 S1 ++ g5 q (a0 1) a2 tp U4 ++ g7 q (a0 5) a3 S3 ++ g8 q (a0 4) a4 U3 ++ g8 q (a0 3) a5 S5 ++ g9 q tp a6 940 U7) C (k_rV (As := []) (rest := []) C (c_X11_closeText l D q tp o0 a0 S0 a2 U4 a6 S6 _ hc5) kc_X11_closeText ml_X11_121 rfl rfl (by decide) (hP.sub (ws' := g11 q o0 a0 tp S0 ++ g5 q (a0 1) a2 tp U4 ++ g9 q tp a6 940 S6) [0, 1, 3, 4, 5, 6, 7, 34, 35] rfl) (hD.sub (ws' := g11 q o0 a0 tp S0 ++ g5 q (a0 1) a2 tp U4 ++ g9 q tp a6 940 S6) [0, 1, 3, 4, 5, 6, 7, 34, 35] (by decide) rfl) hS (va_recv hK hP (ci := 11) (q0 := 0) rfl rfl) rfl hl.1 rfl (Nat.le_of_ble_eq_true rfl) dX11_suburb_13 (by decide)) hP hD hS [0, 1, 3, 4, 5, 6, 7, 34, 35] [2, 8, 9, 10, 11, 12, 13, 14, 15, 16, 17, 18, 19, 20, 21, 22, 23, 24, 25, 26, 27, 28, 29, 30, 31, 32, 33] rfl rfl rfl rfl rfl rfl (fun H locs hP hD hS => ?_)
  refine lv_iload_n hx hb dX11_suburb_16 rfl (lv_at hl 0 rfl) ?_
  refine lv_iconst (v := (-1 : Int32)) hx hb dX11_suburb_17 (by decide) ?_
  refine lv_icmp_ne (tgt := 31) hx hb dX11_suburb_18 (by decide) (fun c8 => ?_) (fun c8 => ?_)
  · have hF := op_f hF c8
    refine lv_aload_n hx hb dX11_suburb_31 rfl (lv_at hl 1 rfl) ?_
    refine k_get (v := .ref (a0 3)) C fg_X11_26 hP 0 rfl rfl dX11_suburb_32 ?_
    refine lv_aload_n hx hb dX11_suburb_35 rfl (lv_at hl 1 rfl) ?_
    refine k_get (v := .ref (a0 4)) C fg_X11_30 hP 0 rfl rfl dX11_suburb_36 ?_
    obtain ⟨U10, hc9, hF⟩ := ob1_s hF
    refine k_vpart (W8 := g11 q o0 a0 tp U6 ++ g2 q (a0 8) a1 S1 ++ g5 q (a0 1) a2 tp U4 ++ g7 q (a0 5) a3 S3 ++ g8 q (a0 4) a4 U3 ++ g8 q (a0 3) a5 U10 ++ g9 q tp a6 940 U7) C (k_rV (As := [.ref (a0 4)]) (rest := []) C (c_X8_copyFrom l D q (a0 3) a5 S5 (a0 4) a4 U3 _ hc9) kc_X8_copyFrom ml_X11_127 rfl rfl (by decide) (hP.sub (ws' := g8 q (a0 3) a5 S5 ++ g8 q (a0 4) a4 U3) [23, 24, 25, 26, 27, 28, 29, 30, 31, 32, 33, 12, 13, 14, 15, 16, 17, 18, 19, 20, 21, 22] rfl) (hD.sub (ws' := g8 q (a0 3) a5 S5 ++ g8 q (a0 4) a4 U3) [23, 24, 25, 26, 27, 28, 29, 30, 31, 32, 33, 12, 13, 14, 15, 16, 17, 18, 19, 20, 21, 22] (by decide) rfl) hS (va_recv hK hP (ci := 8) (q0 := 23) rfl rfl) rfl hl.1 rfl (Nat.le_of_ble_eq_true rfl) dX11_suburb_39 (by decide)) hP hD hS [23, 24, 25, 26, 27, 28, 29, 30, 31, 32, 33, 12, 13, 14, 15, 16, 17, 18, 19, 20, 21, 22] [0, 1, 2, 3, 4, 5, 6, 7, 8, 9, 10, 11, 34, 35] rfl rfl rfl rfl rfl rfl (fun H locs hP hD hS => ?_)
    refine lv_aload_n hx hb dX11_suburb_42 rfl (lv_at hl 1 rfl) ?_
    refine k_get (v := .ref (a0 5)) C fg_X11_36 hP 0 rfl rfl dX11_suburb_43 ?_
    obtain ⟨U12, hc11, hF⟩ := ob1_s hF
    refine k_vpart (W8 := g11 q o0 a0 tp U6 ++ g2 q (a0 8) a1 S1 ++ g5 q (a0 1) a2 tp U4 ++ g7 q (a0 5) a3 U12 ++ g8 q (a0 4) a4 U3 ++ g8 q (a0 3) a5 U10 ++ g9 q tp a6 940 U7) C (k_rV (As := []) (rest := []) C (c_X7_empty l D q (a0 5) a3 S3 _ hc11) kc_X7_empty ml_X11_131 rfl rfl (by decide) (hP.sub (ws' := g7 q (a0 5) a3 S3) [8, 9, 10, 11] rfl) (hD.sub (ws' := g7 q (a0 5) a3 S3) [8, 9, 10, 11] (by decide) rfl) hS (va_recv hK hP (ci := 7) (q0 := 8) rfl rfl) rfl hl.1 rfl (Nat.le_of_ble_eq_true rfl) dX11_suburb_46 (by decide)) hP hD hS [8, 9, 10, 11] [0, 1, 2, 3, 4, 5, 6, 7, 12, 13, 14, 15, 16, 17, 18, 19, 20, 21, 22, 23, 24, 25, 26, 27, 28, 29, 30, 31, 32, 33, 34, 35] rfl rfl rfl rfl rfl rfl (fun H locs hP hD hS => ?_)
    refine lv_aload_n hx hb dX11_suburb_49 rfl (lv_at hl 1 rfl) ?_
    refine k_get (v := .ref (a0 8)) C fg_X11_53 hP 0 rfl rfl dX11_suburb_50 ?_
    obtain ⟨U14, hc13, hF⟩ := ob1_s hF
    refine k_vpart (W8 := g11 q o0 a0 tp U6 ++ g2 q (a0 8) a1 U14 ++ g5 q (a0 1) a2 tp U4 ++ g7 q (a0 5) a3 U12 ++ g8 q (a0 4) a4 U3 ++ g8 q (a0 3) a5 U10 ++ g9 q tp a6 940 U7) C (k_rV (As := []) (rest := []) C (c_X2_forget l D q (a0 8) a1 S1 _ hc13) kc_X2_forget ml_X11_134 rfl rfl (by decide) (hP.sub (ws' := g2 q (a0 8) a1 S1) [2] rfl) (hD.sub (ws' := g2 q (a0 8) a1 S1) [2] (by decide) rfl) hS (va_recv hK hP (ci := 2) (q0 := 2) rfl rfl) rfl hl.1 rfl (Nat.le_of_ble_eq_true rfl) dX11_suburb_53 (by decide)) hP hD hS [2] [0, 1, 3, 4, 5, 6, 7, 8, 9, 10, 11, 12, 13, 14, 15, 16, 17, 18, 19, 20, 21, 22, 23, 24, 25, 26, 27, 28, 29, 30, 31, 32, 33, 34, 35] rfl rfl rfl rfl rfl rfl (fun H locs hP hD hS => ?_)
    refine lv_iload_n hx hb dX11_suburb_56 rfl (lv_at hl 0 rfl) ?_
    cases hF
    exact k_iret C hP hS dX11_suburb_57
  · have hF := op_t hF c8
    refine lv_iconst (v := (-1 : Int32)) hx hb dX11_suburb_21 (by decide) ?_
    refine lv_aload_n hx hb dX11_suburb_22 rfl (lv_at hl 1 rfl) ?_
    refine k_get (v := .ref (a0 1)) C fg_X11_10 hP 0 rfl rfl dX11_suburb_23 ?_
    refine k_get (v := .int (U4.1 9)) C fg_X11_124 hP 3 rfl rfl dX11_suburb_26 ?_
    refine lv_isub hx hb dX11_suburb_29 ?_
    cases hF
    exact k_iret C hP hS dX11_suburb_30

abbrev rm_X11_soonest : Room := ({ frames := 4, cells := 0, slots := 0, locals := 97 } : Room)
def F_X11_soonest (S0 : St) (S1 : St) (S2 : St) (x1 : Int32) : Option (Int32 × St) := ob1 (F_X8_hasPerson S2 x1) fun r2 => if r2 = 0 then (some ((-1 : Int32), S1)) else (ob2 (F_X6_findSoonest S1 S2 x1) fun r5 U6 => some (r5, U6))
set_option maxRecDepth 100000 in
set_option maxHeartbeats 4000000 in
theorem c_X11_soonest (l : Launch) (D : va_G) (q : Nat → ClassId) (tp : Nat) (o0 : Nat) (a0 : Nat → Nat) (S0 : St) (a1 : Nat → Nat) (S1 : St) (a2 : Nat → Nat) (S2 : St) (sz : Nat) (x1 : Int32) {r : Int32} {T1 : St} (hF : F_X11_soonest S0 S1 S2 x1 = some (r, T1)) : Met l yX11_soonest (Cond.code yX11_soonest cX11_soonest 2 (some .int) :: TB) rm_X11_soonest (PC D q [.ref o0, .int x1] (g11 q o0 a0 tp S0 ++ g6 q (a0 10) a1 S1 ++ g8 q (a0 3) a2 S2) sz) ((fun A => QI D A r (g11 q o0 a0 tp S0 ++ g6 q (a0 10) a1 T1 ++ g8 q (a0 3) a2 S2)) (va_A (g11 q o0 a0 tp S0 ++ g6 q (a0 10) a1 S1 ++ g8 q (a0 3) a2 S2) sz)) 0 0 (va_A (g11 q o0 a0 tp S0 ++ g6 q (a0 10) a1 S1 ++ g8 q (a0 3) a2 S2) sz) := by
  refine k_met (w0 := g11 q o0 a0 tp S0 ++ g6 q (a0 10) a1 S1 ++ g8 q (a0 3) a2 S2) (Q := fun A => QI D A r (g11 q o0 a0 tp S0 ++ g6 q (a0 10) a1 T1 ++ g8 q (a0 3) a2 S2)) (by decide +kernel) (Nat.le_of_ble_eq_true rfl) ?_
  intro p e s m args below meth c A ls C hP hD hS hl
  have hl : lv_has ls 2 [(0, .ref o0), (1, .int x1)] := hl
  unfold F_X11_soonest at hF
  have C : cx p s m args meth c cX11_soonest 2 (some .int) RX11 D q A := C
  obtain ⟨hx, hb, hr, hml, hown, hts, hlk, hA, hK, hN, hV⟩ := id C
  refine lv_aload_n hx hb dX11_soonest_0 rfl (lv_at hl 0 rfl) ?_
  refine k_get (v := .ref (a0 3)) C fg_X11_26 hP 0 rfl rfl dX11_soonest_1 ?_
  refine lv_iload_n hx hb dX11_soonest_4 rfl (lv_at hl 1 rfl) ?_
  obtain ⟨r2, hc1, hF⟩ := ob1_s hF
  refine k_iro C (k_rV (As := [.int x1]) (rest := []) C (c_X8_hasPerson l D q (a0 3) a2 S2 _ x1 hc1) kc_X8_hasPerson ml_X11_137 rfl rfl (by decide) (hP.sub (ws' := g8 q (a0 3) a2 S2) [9, 10, 11, 12, 13, 14, 15, 16, 17, 18, 19] rfl) (hD.sub (ws' := g8 q (a0 3) a2 S2) [9, 10, 11, 12, 13, 14, 15, 16, 17, 18, 19] (by decide) rfl) hS (va_recv hK hP (ci := 8) (q0 := 9) rfl rfl) rfl hl.1 rfl (Nat.le_of_ble_eq_true rfl) dX11_soonest_5 (by decide)) hP hD hS [9, 10, 11, 12, 13, 14, 15, 16, 17, 18, 19] rfl (fun H locs hP hD hS => ?_)
  refine lv_if_eq (tgt := 26) hx hb dX11_soonest_8 (by decide) (fun c3 => ?_) (fun c3 => ?_)
  · have hF := op_t hF c3
    refine lv_iconst (v := (-1 : Int32)) hx hb dX11_soonest_26 (by decide) ?_
    cases hF
    exact k_iret C hP hS dX11_soonest_27
  · have hF := op_f hF c3
    refine lv_aload_n hx hb dX11_soonest_11 rfl (lv_at hl 0 rfl) ?_
    refine k_get (v := .ref (a0 10)) C fg_X11_67 hP 0 rfl rfl dX11_soonest_12 ?_
    refine lv_aload_n hx hb dX11_soonest_15 rfl (lv_at hl 0 rfl) ?_
    refine k_get (v := .ref (a0 3)) C fg_X11_26 hP 0 rfl rfl dX11_soonest_16 ?_
    refine lv_iload_n hx hb dX11_soonest_19 rfl (lv_at hl 1 rfl) ?_
    obtain ⟨r5, U6, hc4, hF⟩ := ob2_s hF
    refine k_ipart (W8 := g11 q o0 a0 tp S0 ++ g6 q (a0 10) a1 U6 ++ g8 q (a0 3) a2 S2) C (k_rV (As := [.ref (a0 3), .int x1]) (rest := []) C (c_X6_findSoonest l D q (a0 10) a1 S1 (a0 3) a2 S2 _ x1 hc4) kc_X6_findSoonest ml_X11_262 rfl rfl (by decide) (hP.sub (ws' := g6 q (a0 10) a1 S1 ++ g8 q (a0 3) a2 S2) [2, 3, 4, 5, 6, 7, 8, 9, 10, 11, 12, 13, 14, 15, 16, 17, 18, 19] rfl) (hD.sub (ws' := g6 q (a0 10) a1 S1 ++ g8 q (a0 3) a2 S2) [2, 3, 4, 5, 6, 7, 8, 9, 10, 11, 12, 13, 14, 15, 16, 17, 18, 19] (by decide) rfl) hS (va_recv hK hP (ci := 6) (q0 := 2) rfl rfl) rfl hl.1 rfl (Nat.le_of_ble_eq_true rfl) dX11_soonest_20 (by decide)) hP hD hS [2, 3, 4, 5, 6, 7, 8, 9, 10, 11, 12, 13, 14, 15, 16, 17, 18, 19] [0, 1] rfl rfl rfl rfl rfl rfl (fun H locs hP hD hS => ?_)
    refine lv_goto (tgt := 27) hx hb dX11_soonest_23 (by decide) ?_
    cases hF
    exact k_iret C hP hS dX11_soonest_27

abbrev rm_X11_made : Room := ({ frames := 5, cells := 0, slots := 0, locals := 123 } : Room)
def F_X11_made_16 (s0 : Int32) (S0 : St) (S1 : St) (S2 : St) (S3 : St) : Option (Int32 × St × St) := nw (sI S3 1 (0 : Int32)) fun U1 => if s0 = 0 then (some ((-1 : Int32), S1, U1)) else (if oob (0 : Int32) 940 then none else if oob (1 : Int32) 940 then none else ob2 (F_X6_countMade S1 S2 (U1.2.2.1 0 (0 : Int32).toNatClampNeg) (U1.2.2.1 0 (1 : Int32).toNatClampNeg)) fun r7 U8 => some (r7, U8, U1))
def F_X11_made (S0 : St) (S1 : St) (S2 : St) (S3 : St) : Option (Int32 × St × St) := if (S3.1 1) = (2 : Int32) then (F_X11_made_16 (1 : Int32) S0 S1 S2 S3) else (F_X11_made_16 (0 : Int32) S0 S1 S2 S3)
set_option maxRecDepth 100000 in
set_option maxHeartbeats 4000000 in
theorem b_X11_made_16 {p : Program} {l : Launch} {e : Env} {s : State} {m : MethodId} {args : Array Value} {below : List Frame} {meth : Method} {c : Code} {D : va_G} {q : Nat → ClassId} {A : Nat → Prop} {tp : Nat} {o0 : Nat} {a0 : Nat → Nat} {a1 : Nat → Nat} {a2 : Nat → Nat} {a3 : Nat → Nat} {r : Int32} {T1 : St} {T3 : St} (C : cx p s m args meth c cX11_made 2 (some .int) RX11 D q A) {s0 : Int32} {S0 : St} {S1 : St} {S2 : St} {S3 : St} (hF : F_X11_made_16 s0 S0 S1 S2 S3 = some (r, T1, T3)) {H : Heap} {locs : List Loc} (hP : va_P D vwCl (g11 q o0 a0 tp S0 ++ g6 q (a0 10) a1 S1 ++ g8 q (a0 3) a2 S2 ++ g9 q tp a3 940 S3) H) (hD : va_D A (g11 q o0 a0 tp S0 ++ g6 q (a0 10) a1 S1 ++ g8 q (a0 3) a2 S2 ++ g9 q tp a3 940 S3)) (hS : va_S A s.heap H locs) {ls : Array Slot} (hl : lv_has ls 2 [(0, .ref o0)]) : W p l e rm_X11_made s m args below meth c H locs 0 0 (MQ below (QI D A r (g11 q o0 a0 tp S0 ++ g6 q (a0 10) a1 T1 ++ g8 q (a0 3) a2 S2 ++ g9 q tp a3 940 T3)) args s 0 0 A) (F0 m 16 ls [.int s0]) := by
  unfold F_X11_made_16 at hF
  obtain ⟨hx, hb, hr, hml, hown, hts, hlk, hA, hK, hN, hV⟩ := id C
  refine lv_istore_n (lv' := [(1, .int s0), (0, .ref o0)]) hx hb dX11_made_16 rfl hl (by decide) rfl (fun ls hl => ?_)
  refine lv_aload_n hx hb dX11_made_17 rfl (lv_at hl 1 rfl) ?_
  refine k_get (v := .ref tp) C fg_X11_20 hP 0 rfl rfl dX11_made_18 ?_
  refine lv_iconst (v := (0 : Int32)) hx hb dX11_made_21 (by decide) ?_
  obtain ⟨U1, e2, hF⟩ := nw_s hF
  refine k_put (W8 := g11 q o0 a0 tp S0 ++ g6 q (a0 10) a1 S1 ++ g8 q (a0 3) a2 S2 ++ g9 q tp a3 940 U1) C fp_X11_111 hP hD hS 20 rfl rfl rfl (Nat.le_of_ble_eq_true rfl) dX11_made_22 (by rw [e2]; rfl) (fun H locs hP hD hS => ?_)
  refine lv_iload_n hx hb dX11_made_25 rfl (lv_at hl 0 rfl) ?_
  refine lv_if_eq (tgt := 61) hx hb dX11_made_26 (by decide) (fun c3 => ?_) (fun c3 => ?_)
  · have hF := op_t hF c3
    refine lv_iconst (v := (-1 : Int32)) hx hb dX11_made_61 (by decide) ?_
    cases hF
    exact k_iret C hP hS dX11_made_62
  · have hF := op_f hF c3
    refine lv_aload_n hx hb dX11_made_29 rfl (lv_at hl 1 rfl) ?_
    refine k_get (v := .ref (a0 10)) C fg_X11_67 hP 0 rfl rfl dX11_made_30 ?_
    refine lv_aload_n hx hb dX11_made_33 rfl (lv_at hl 1 rfl) ?_
    refine k_get (v := .ref (a0 3)) C fg_X11_26 hP 0 rfl rfl dX11_made_34 ?_
    refine lv_aload_n hx hb dX11_made_37 rfl (lv_at hl 1 rfl) ?_
    refine k_get (v := .ref tp) C fg_X11_20 hP 0 rfl rfl dX11_made_38 ?_
    refine k_get (v := .ref (a3 1)) C fg_X11_272 hP 20 rfl rfl dX11_made_41 ?_
    refine lv_iconst (v := (0 : Int32)) hx hb dX11_made_44 (by decide) ?_
    obtain ⟨h4, hF⟩ := op_ck hF
    refine k_ild (f := U1.2.2.1 0) C hP 21 rfl h4 dX11_made_45 ?_
    refine lv_aload_n hx hb dX11_made_46 rfl (lv_at hl 1 rfl) ?_
    refine k_get (v := .ref tp) C fg_X11_20 hP 0 rfl rfl dX11_made_47 ?_
    refine k_get (v := .ref (a3 1)) C fg_X11_272 hP 20 rfl rfl dX11_made_50 ?_
    refine lv_iconst (v := (1 : Int32)) hx hb dX11_made_53 (by decide) ?_
    obtain ⟨h5, hF⟩ := op_ck hF
    refine k_ild (f := U1.2.2.1 0) C hP 21 rfl h5 dX11_made_54 ?_
    obtain ⟨r7, U8, hc6, hF⟩ := ob2_s hF
    refine k_ipart (W8 := g11 q o0 a0 tp S0 ++ g6 q (a0 10) a1 U8 ++ g8 q (a0 3) a2 S2 ++ g9 q tp a3 940 U1) C (k_rV (As := [.ref (a0 3), .int (U1.2.2.1 0 (0 : Int32).toNatClampNeg), .int (U1.2.2.1 0 (1 : Int32).toNatClampNeg)]) (rest := []) C (c_X6_countMade l D q (a0 10) a1 S1 (a0 3) a2 S2 _ (U1.2.2.1 0 (0 : Int32).toNatClampNeg) (U1.2.2.1 0 (1 : Int32).toNatClampNeg) hc6) kc_X6_countMade ml_X11_275 rfl rfl (by decide) (hP.sub (ws' := g6 q (a0 10) a1 S1 ++ g8 q (a0 3) a2 S2) [2, 3, 4, 5, 6, 7, 8, 9, 10, 11, 12, 13, 14, 15, 16, 17, 18, 19] rfl) (hD.sub (ws' := g6 q (a0 10) a1 S1 ++ g8 q (a0 3) a2 S2) [2, 3, 4, 5, 6, 7, 8, 9, 10, 11, 12, 13, 14, 15, 16, 17, 18, 19] (by decide) rfl) hS (va_recv hK hP (ci := 6) (q0 := 2) rfl rfl) rfl hl.1 rfl (Nat.le_of_ble_eq_true rfl) dX11_made_55 (by decide)) hP hD hS [2, 3, 4, 5, 6, 7, 8, 9, 10, 11, 12, 13, 14, 15, 16, 17, 18, 19] [0, 1, 20, 21] rfl rfl rfl rfl rfl rfl (fun H locs hP hD hS => ?_)
    refine lv_goto (tgt := 62) hx hb dX11_made_58 (by decide) ?_
    cases hF
    exact k_iret C hP hS dX11_made_62
set_option maxRecDepth 100000 in
set_option maxHeartbeats 4000000 in
theorem c_X11_made (l : Launch) (D : va_G) (q : Nat → ClassId) (tp : Nat) (o0 : Nat) (a0 : Nat → Nat) (S0 : St) (a1 : Nat → Nat) (S1 : St) (a2 : Nat → Nat) (S2 : St) (a3 : Nat → Nat) (S3 : St) (sz : Nat) {r : Int32} {T1 : St} {T3 : St} (hF : F_X11_made S0 S1 S2 S3 = some (r, T1, T3)) : Met l yX11_made (Cond.code yX11_made cX11_made 2 (some .int) :: TB) rm_X11_made (PC D q [.ref o0] (g11 q o0 a0 tp S0 ++ g6 q (a0 10) a1 S1 ++ g8 q (a0 3) a2 S2 ++ g9 q tp a3 940 S3) sz) ((fun A => QI D A r (g11 q o0 a0 tp S0 ++ g6 q (a0 10) a1 T1 ++ g8 q (a0 3) a2 S2 ++ g9 q tp a3 940 T3)) (va_A (g11 q o0 a0 tp S0 ++ g6 q (a0 10) a1 S1 ++ g8 q (a0 3) a2 S2 ++ g9 q tp a3 940 S3) sz)) 0 0 (va_A (g11 q o0 a0 tp S0 ++ g6 q (a0 10) a1 S1 ++ g8 q (a0 3) a2 S2 ++ g9 q tp a3 940 S3) sz) := by
  refine k_met (w0 := g11 q o0 a0 tp S0 ++ g6 q (a0 10) a1 S1 ++ g8 q (a0 3) a2 S2 ++ g9 q tp a3 940 S3) (Q := fun A => QI D A r (g11 q o0 a0 tp S0 ++ g6 q (a0 10) a1 T1 ++ g8 q (a0 3) a2 S2 ++ g9 q tp a3 940 T3)) (by decide +kernel) (Nat.le_of_ble_eq_true rfl) ?_
  intro p e s m args below meth c A ls C hP hD hS hl
  have hl : lv_has ls 2 [(0, .ref o0)] := hl
  unfold F_X11_made at hF
  have C : cx p s m args meth c cX11_made 2 (some .int) RX11 D q A := C
  obtain ⟨hx, hb, hr, hml, hown, hts, hlk, hA, hK, hN, hV⟩ := id C
  refine lv_aload_n hx hb dX11_made_0 rfl (lv_at hl 0 rfl) ?_
  refine k_get (v := .ref tp) C fg_X11_20 hP 0 rfl rfl dX11_made_1 ?_
  refine k_get (v := .int (S3.1 1)) C fg_X11_111 hP 20 rfl rfl dX11_made_4 ?_
  refine lv_iconst (v := (2 : Int32)) hx hb dX11_made_7 (by decide) ?_
  refine lv_icmp_ne (tgt := 15) hx hb dX11_made_8 (by decide) (fun c1 => ?_) (fun c1 => ?_)
  · have hF := op_f hF c1
    refine lv_iconst (v := (0 : Int32)) hx hb dX11_made_15 (by decide) ?_
    exact b_X11_made_16 C hF hP hD hS (lv_sub hl [0] rfl)
  · have hF := op_t hF c1
    refine lv_iconst (v := (1 : Int32)) hx hb dX11_made_11 (by decide) ?_
    refine lv_goto (tgt := 16) hx hb dX11_made_12 (by decide) ?_
    exact b_X11_made_16 C hF hP hD hS (lv_sub hl [0] rfl)

abbrev rm_X11_party : Room := ({ frames := 5, cells := 0, slots := 0, locals := 116 } : Room)
def F_X11_party (S0 : St) (S1 : St) (S2 : St) : Option (Int32 × St) := ob2 (F_X4_plan S1 S2) fun r2 U3 => some (r2, U3)
set_option maxRecDepth 100000 in
set_option maxHeartbeats 4000000 in
theorem c_X11_party (l : Launch) (D : va_G) (q : Nat → ClassId) (tp : Nat) (o0 : Nat) (a0 : Nat → Nat) (S0 : St) (a1 : Nat → Nat) (S1 : St) (a2 : Nat → Nat) (S2 : St) (sz : Nat) {r : Int32} {T1 : St} (hF : F_X11_party S0 S1 S2 = some (r, T1)) : Met l yX11_party (Cond.code yX11_party cX11_party 1 (some .int) :: TB) rm_X11_party (PC D q [.ref o0] (g11 q o0 a0 tp S0 ++ g4 q (a0 11) a1 S1 ++ g8 q (a0 3) a2 S2) sz) ((fun A => QI D A r (g11 q o0 a0 tp S0 ++ g4 q (a0 11) a1 T1 ++ g8 q (a0 3) a2 S2)) (va_A (g11 q o0 a0 tp S0 ++ g4 q (a0 11) a1 S1 ++ g8 q (a0 3) a2 S2) sz)) 0 0 (va_A (g11 q o0 a0 tp S0 ++ g4 q (a0 11) a1 S1 ++ g8 q (a0 3) a2 S2) sz) := by
  refine k_met (w0 := g11 q o0 a0 tp S0 ++ g4 q (a0 11) a1 S1 ++ g8 q (a0 3) a2 S2) (Q := fun A => QI D A r (g11 q o0 a0 tp S0 ++ g4 q (a0 11) a1 T1 ++ g8 q (a0 3) a2 S2)) (by decide +kernel) (Nat.le_of_ble_eq_true rfl) ?_
  intro p e s m args below meth c A ls C hP hD hS hl
  have hl : lv_has ls 1 [(0, .ref o0)] := hl
  unfold F_X11_party at hF
  have C : cx p s m args meth c cX11_party 1 (some .int) RX11 D q A := C
  obtain ⟨hx, hb, hr, hml, hown, hts, hlk, hA, hK, hN, hV⟩ := id C
  refine lv_aload_n hx hb dX11_party_0 rfl (lv_at hl 0 rfl) ?_
  refine k_get (v := .ref (a0 11)) C fg_X11_74 hP 0 rfl rfl dX11_party_1 ?_
  refine lv_aload_n hx hb dX11_party_4 rfl (lv_at hl 0 rfl) ?_
  refine k_get (v := .ref (a0 3)) C fg_X11_26 hP 0 rfl rfl dX11_party_5 ?_
  obtain ⟨r2, U3, hc1, hF⟩ := ob2_s hF
  refine k_ipart (W8 := g11 q o0 a0 tp S0 ++ g4 q (a0 11) a1 U3 ++ g8 q (a0 3) a2 S2) C (k_rV (As := [.ref (a0 3)]) (rest := []) C (c_X4_plan l D q (a0 11) a1 S1 (a0 3) a2 S2 _ hc1) kc_X4_plan ml_X11_307 rfl rfl (by decide) (hP.sub (ws' := g4 q (a0 11) a1 S1 ++ g8 q (a0 3) a2 S2) [2, 3, 4, 5, 6, 7, 8, 9, 10, 11, 12, 13, 14, 15, 16, 17, 18] rfl) (hD.sub (ws' := g4 q (a0 11) a1 S1 ++ g8 q (a0 3) a2 S2) [2, 3, 4, 5, 6, 7, 8, 9, 10, 11, 12, 13, 14, 15, 16, 17, 18] (by decide) rfl) hS (va_recv hK hP (ci := 4) (q0 := 2) rfl rfl) rfl hl.1 rfl (Nat.le_of_ble_eq_true rfl) dX11_party_8 (by decide)) hP hD hS [2, 3, 4, 5, 6, 7, 8, 9, 10, 11, 12, 13, 14, 15, 16, 17, 18] [0, 1] rfl rfl rfl rfl rfl rfl (fun H locs hP hD hS => ?_)
  cases hF
  exact k_iret C hP hS dX11_party_11

abbrev rm_X11_tea : Room := ({ frames := 5, cells := 0, slots := 0, locals := 112 } : Room)
def F_X11_tea (S0 : St) (S1 : St) (S2 : St) : Option (Int32 × St) := ob2 (F_X10_sit S2 S1) fun r2 U3 => some (r2, U3)
set_option maxRecDepth 100000 in
set_option maxHeartbeats 4000000 in
theorem c_X11_tea (l : Launch) (D : va_G) (q : Nat → ClassId) (tp : Nat) (o0 : Nat) (a0 : Nat → Nat) (S0 : St) (a1 : Nat → Nat) (S1 : St) (a2 : Nat → Nat) (S2 : St) (sz : Nat) {r : Int32} {T2 : St} (hF : F_X11_tea S0 S1 S2 = some (r, T2)) : Met l yX11_tea (Cond.code yX11_tea cX11_tea 1 (some .int) :: TB) rm_X11_tea (PC D q [.ref o0] (g11 q o0 a0 tp S0 ++ g8 q (a0 3) a1 S1 ++ g10 q (a0 12) a2 S2) sz) ((fun A => QI D A r (g11 q o0 a0 tp S0 ++ g8 q (a0 3) a1 S1 ++ g10 q (a0 12) a2 T2)) (va_A (g11 q o0 a0 tp S0 ++ g8 q (a0 3) a1 S1 ++ g10 q (a0 12) a2 S2) sz)) 0 0 (va_A (g11 q o0 a0 tp S0 ++ g8 q (a0 3) a1 S1 ++ g10 q (a0 12) a2 S2) sz) := by
  refine k_met (w0 := g11 q o0 a0 tp S0 ++ g8 q (a0 3) a1 S1 ++ g10 q (a0 12) a2 S2) (Q := fun A => QI D A r (g11 q o0 a0 tp S0 ++ g8 q (a0 3) a1 S1 ++ g10 q (a0 12) a2 T2)) (by decide +kernel) (Nat.le_of_ble_eq_true rfl) ?_
  intro p e s m args below meth c A ls C hP hD hS hl
  have hl : lv_has ls 1 [(0, .ref o0)] := hl
  unfold F_X11_tea at hF
  have C : cx p s m args meth c cX11_tea 1 (some .int) RX11 D q A := C
  obtain ⟨hx, hb, hr, hml, hown, hts, hlk, hA, hK, hN, hV⟩ := id C
  refine lv_aload_n hx hb dX11_tea_0 rfl (lv_at hl 0 rfl) ?_
  refine k_get (v := .ref (a0 12)) C fg_X11_81 hP 0 rfl rfl dX11_tea_1 ?_
  refine lv_aload_n hx hb dX11_tea_4 rfl (lv_at hl 0 rfl) ?_
  refine k_get (v := .ref (a0 3)) C fg_X11_26 hP 0 rfl rfl dX11_tea_5 ?_
  obtain ⟨r2, U3, hc1, hF⟩ := ob2_s hF
  refine k_ipart (W8 := g11 q o0 a0 tp S0 ++ g8 q (a0 3) a1 S1 ++ g10 q (a0 12) a2 U3) C (k_rV (As := [.ref (a0 3)]) (rest := []) C (c_X10_sit l D q (a0 12) a2 S2 (a0 3) a1 S1 _ hc1) kc_X10_sit ml_X11_314 rfl rfl (by decide) (hP.sub (ws' := g10 q (a0 12) a2 S2 ++ g8 q (a0 3) a1 S1) [13, 14, 2, 3, 4, 5, 6, 7, 8, 9, 10, 11, 12] rfl) (hD.sub (ws' := g10 q (a0 12) a2 S2 ++ g8 q (a0 3) a1 S1) [13, 14, 2, 3, 4, 5, 6, 7, 8, 9, 10, 11, 12] (by decide) rfl) hS (va_recv hK hP (ci := 10) (q0 := 13) rfl rfl) rfl hl.1 rfl (Nat.le_of_ble_eq_true rfl) dX11_tea_8 (by decide)) hP hD hS [13, 14, 2, 3, 4, 5, 6, 7, 8, 9, 10, 11, 12] [0, 1] rfl rfl rfl rfl rfl rfl (fun H locs hP hD hS => ?_)
  cases hF
  exact k_iret C hP hS dX11_tea_11

abbrev rm_X11_odds : Room := ({ frames := 7, cells := 0, slots := 0, locals := 161 } : Room)
def F_X11_odds_79 (k30 : Int32 × Int32 × Int32 × Int32 × Int32 × St × St × St × St → Option (Int32 × St × St)) (x1 : Int32) (x2 : Int32) (x3 : Int32) (x4 : Int32) (x5 : Int32) (S0 : St) (S1 : St) (S2 : St) (S3 : St) : Option (Int32 × St × St) := k30 (x1, x2, x3, x4, (x5 + 1), S0, S1, S2, S3)
def F_X11_odds_30 (k30 : Int32 × Int32 × Int32 × Int32 × Int32 × St × St × St × St → Option (Int32 × St × St)) (x1 : Int32) (x2 : Int32) (x3 : Int32) (x4 : Int32) (x5 : Int32) (S0 : St) (S1 : St) (S2 : St) (S3 : St) : Option (Int32 × St × St) := if x2 ≤ x5 then (some (x4, S1, S2)) else (ob1 (F_X8_copyFrom S2 S3) fun U3 => ob3 (F_X1_drawDays S1 U3 (20 : Int32) (x3 + x5)) fun r5 U6 U7 => ob1 (F_X8_isPleased U7 x1) fun r9 => if r9 = 0 then (F_X11_odds_79 k30 x1 x2 x3 x4 x5 S0 U6 U7 S3) else (F_X11_odds_79 k30 x1 x2 x3 (x4 + 1) x5 S0 U6 U7 S3))
def L_X11_odds_30 (x1 : Int32) (x2 : Int32) (x3 : Int32) (x4 : Int32) (x5 : Int32) (S0 : St) (S1 : St) (S2 : St) (S3 : St) : Option (Int32 × St × St) := lp (fun kz z => F_X11_odds_30 kz z.1 z.2.1 z.2.2.1 z.2.2.2.1 z.2.2.2.2.1 z.2.2.2.2.2.1 z.2.2.2.2.2.2.1 z.2.2.2.2.2.2.2.1 z.2.2.2.2.2.2.2.2) FU (x1, x2, x3, x4, x5, S0, S1, S2, S3)
def F_X11_odds (S0 : St) (S1 : St) (S2 : St) (S3 : St) (x1 : Int32) (x2 : Int32) (x3 : Int32) : Option (Int32 × St × St) := ob1 (F_X8_hasPerson S3 x1) fun r2 => if r2 = 0 then (some ((-1 : Int32), S1, S2)) else (if x2 < (1 : Int32) then (some ((-1 : Int32), S1, S2)) else (if x2 ≤ (30 : Int32) then (L_X11_odds_30 x1 x2 x3 (0 : Int32) (0 : Int32) S0 S1 S2 S3) else (some ((-1 : Int32), S1, S2))))
set_option maxRecDepth 100000 in
set_option maxHeartbeats 4000000 in
theorem b_X11_odds_79 {p : Program} {l : Launch} {e : Env} {s : State} {m : MethodId} {args : Array Value} {below : List Frame} {meth : Method} {c : Code} {D : va_G} {q : Nat → ClassId} {A : Nat → Prop} {tp : Nat} {o0 : Nat} {a0 : Nat → Nat} {a1 : Nat → Nat} {a2 : Nat → Nat} {a3 : Nat → Nat} {r : Int32} {T1 : St} {T2 : St} (C : cx p s m args meth c cX11_odds 6 (some .int) RX11 D q A) {k30 : Int32 × Int32 × Int32 × Int32 × Int32 × St × St × St × St → Option (Int32 × St × St)} (hk30 : ∀ (x1 : Int32) (x2 : Int32) (x3 : Int32) (x4 : Int32) (x5 : Int32) (S0 : St) (S1 : St) (S2 : St) (S3 : St), k30 (x1, x2, x3, x4, x5, S0, S1, S2, S3) = some (r, T1, T2) → ∀ (H : Heap) (locs : List Loc) (ls : Array Slot), va_P D vwCl (g11 q o0 a0 tp S0 ++ g1 q (a0 13) a1 S1 ++ g8 q (a0 4) a2 S2 ++ g8 q (a0 3) a3 S3) H → va_D A (g11 q o0 a0 tp S0 ++ g1 q (a0 13) a1 S1 ++ g8 q (a0 4) a2 S2 ++ g8 q (a0 3) a3 S3) → va_S A s.heap H locs → lv_has ls 6 [(0, .ref o0), (1, .int x1), (2, .int x2), (3, .int x3), (4, .int x4), (5, .int x5)] → W p l e rm_X11_odds s m args below meth c H locs 0 0 (MQ below (QI D A r (g11 q o0 a0 tp S0 ++ g1 q (a0 13) a1 T1 ++ g8 q (a0 4) a2 T2 ++ g8 q (a0 3) a3 S3)) args s 0 0 A) (F0 m 30 ls [])) {x1 : Int32} {x2 : Int32} {x3 : Int32} {x4 : Int32} {x5 : Int32} {S0 : St} {S1 : St} {S2 : St} {S3 : St} (hF : F_X11_odds_79 k30 x1 x2 x3 x4 x5 S0 S1 S2 S3 = some (r, T1, T2)) {H : Heap} {locs : List Loc} (hP : va_P D vwCl (g11 q o0 a0 tp S0 ++ g1 q (a0 13) a1 S1 ++ g8 q (a0 4) a2 S2 ++ g8 q (a0 3) a3 S3) H) (hD : va_D A (g11 q o0 a0 tp S0 ++ g1 q (a0 13) a1 S1 ++ g8 q (a0 4) a2 S2 ++ g8 q (a0 3) a3 S3)) (hS : va_S A s.heap H locs) {ls : Array Slot} (hl : lv_has ls 6 [(0, .ref o0), (1, .int x1), (2, .int x2), (3, .int x3), (4, .int x4), (5, .int x5)]) : W p l e rm_X11_odds s m args below meth c H locs 0 0 (MQ below (QI D A r (g11 q o0 a0 tp S0 ++ g1 q (a0 13) a1 T1 ++ g8 q (a0 4) a2 T2 ++ g8 q (a0 3) a3 S3)) args s 0 0 A) (F0 m 79 ls []) := by
  unfold F_X11_odds_79 at hF
  obtain ⟨hx, hb, hr, hml, hown, hts, hlk, hA, hK, hN, hV⟩ := id C
  refine lv_iinc (v := (x5 + 1)) (lv' := [(5, .int (x5 + 1)), (0, .ref o0), (1, .int x1), (2, .int x2), (3, .int x3), (4, .int x4)]) hx hb dX11_odds_79 hl (k := 5) rfl rfl (by decide) rfl (fun ls hl => ?_)
  refine lv_goto (tgt := 30) hx hb dX11_odds_82 (by decide) ?_
  exact hk30 x1 x2 x3 x4 (x5 + 1) S0 S1 S2 S3 hF _ _ _ hP hD hS (lv_sub hl [1, 2, 3, 4, 5, 0] rfl)
set_option maxRecDepth 100000 in
set_option maxHeartbeats 4000000 in
theorem b_X11_odds_30 {p : Program} {l : Launch} {e : Env} {s : State} {m : MethodId} {args : Array Value} {below : List Frame} {meth : Method} {c : Code} {D : va_G} {q : Nat → ClassId} {A : Nat → Prop} {tp : Nat} {o0 : Nat} {a0 : Nat → Nat} {a1 : Nat → Nat} {a2 : Nat → Nat} {a3 : Nat → Nat} {r : Int32} {T1 : St} {T2 : St} (C : cx p s m args meth c cX11_odds 6 (some .int) RX11 D q A) {k30 : Int32 × Int32 × Int32 × Int32 × Int32 × St × St × St × St → Option (Int32 × St × St)} (hk30 : ∀ (x1 : Int32) (x2 : Int32) (x3 : Int32) (x4 : Int32) (x5 : Int32) (S0 : St) (S1 : St) (S2 : St) (S3 : St), k30 (x1, x2, x3, x4, x5, S0, S1, S2, S3) = some (r, T1, T2) → ∀ (H : Heap) (locs : List Loc) (ls : Array Slot), va_P D vwCl (g11 q o0 a0 tp S0 ++ g1 q (a0 13) a1 S1 ++ g8 q (a0 4) a2 S2 ++ g8 q (a0 3) a3 S3) H → va_D A (g11 q o0 a0 tp S0 ++ g1 q (a0 13) a1 S1 ++ g8 q (a0 4) a2 S2 ++ g8 q (a0 3) a3 S3) → va_S A s.heap H locs → lv_has ls 6 [(0, .ref o0), (1, .int x1), (2, .int x2), (3, .int x3), (4, .int x4), (5, .int x5)] → W p l e rm_X11_odds s m args below meth c H locs 0 0 (MQ below (QI D A r (g11 q o0 a0 tp S0 ++ g1 q (a0 13) a1 T1 ++ g8 q (a0 4) a2 T2 ++ g8 q (a0 3) a3 S3)) args s 0 0 A) (F0 m 30 ls [])) {x1 : Int32} {x2 : Int32} {x3 : Int32} {x4 : Int32} {x5 : Int32} {S0 : St} {S1 : St} {S2 : St} {S3 : St} (hF : F_X11_odds_30 k30 x1 x2 x3 x4 x5 S0 S1 S2 S3 = some (r, T1, T2)) {H : Heap} {locs : List Loc} (hP : va_P D vwCl (g11 q o0 a0 tp S0 ++ g1 q (a0 13) a1 S1 ++ g8 q (a0 4) a2 S2 ++ g8 q (a0 3) a3 S3) H) (hD : va_D A (g11 q o0 a0 tp S0 ++ g1 q (a0 13) a1 S1 ++ g8 q (a0 4) a2 S2 ++ g8 q (a0 3) a3 S3)) (hS : va_S A s.heap H locs) {ls : Array Slot} (hl : lv_has ls 6 [(0, .ref o0), (1, .int x1), (2, .int x2), (3, .int x3), (4, .int x4), (5, .int x5)]) : W p l e rm_X11_odds s m args below meth c H locs 0 0 (MQ below (QI D A r (g11 q o0 a0 tp S0 ++ g1 q (a0 13) a1 T1 ++ g8 q (a0 4) a2 T2 ++ g8 q (a0 3) a3 S3)) args s 0 0 A) (F0 m 30 ls []) := by
  unfold F_X11_odds_30 at hF
  obtain ⟨hx, hb, hr, hml, hown, hts, hlk, hA, hK, hN, hV⟩ := id C
  refine lv_iload hx hb dX11_odds_30 (lv_at hl 5 rfl) ?_
  refine lv_iload_n hx hb dX11_odds_32 rfl (lv_at hl 2 rfl) ?_
  refine lv_icmp_ge (tgt := 85) hx hb dX11_odds_33 (by decide) (fun c1 => ?_) (fun c1 => ?_)
  · have hF := op_t hF c1
    refine lv_iload hx hb dX11_odds_85 (lv_at hl 4 rfl) ?_
    cases hF
    exact k_iret C hP hS dX11_odds_87
  · have hF := op_f hF c1
    refine lv_aload_n hx hb dX11_odds_36 rfl (lv_at hl 0 rfl) ?_
    refine k_get (v := .ref (a0 4)) C fg_X11_30 hP 0 rfl rfl dX11_odds_37 ?_
    refine lv_aload_n hx hb dX11_odds_40 rfl (lv_at hl 0 rfl) ?_
    refine k_get (v := .ref (a0 3)) C fg_X11_26 hP 0 rfl rfl dX11_odds_41 ?_
    obtain ⟨U3, hc2, hF⟩ := ob1_s hF
    refine k_vpart (W8 := g11 q o0 a0 tp S0 ++ g1 q (a0 13) a1 S1 ++ g8 q (a0 4) a2 U3 ++ g8 q (a0 3) a3 S3) C (k_rV (As := [.ref (a0 3)]) (rest := []) C (c_X8_copyFrom l D q (a0 4) a2 S2 (a0 3) a3 S3 _ hc2) kc_X8_copyFrom ml_X11_127 rfl rfl (by decide) (hP.sub (ws' := g8 q (a0 4) a2 S2 ++ g8 q (a0 3) a3 S3) [3, 4, 5, 6, 7, 8, 9, 10, 11, 12, 13, 14, 15, 16, 17, 18, 19, 20, 21, 22, 23, 24] rfl) (hD.sub (ws' := g8 q (a0 4) a2 S2 ++ g8 q (a0 3) a3 S3) [3, 4, 5, 6, 7, 8, 9, 10, 11, 12, 13, 14, 15, 16, 17, 18, 19, 20, 21, 22, 23, 24] (by decide) rfl) hS (va_recv hK hP (ci := 8) (q0 := 3) rfl rfl) rfl hl.1 rfl (Nat.le_of_ble_eq_true rfl) dX11_odds_44 (by decide)) hP hD hS [3, 4, 5, 6, 7, 8, 9, 10, 11, 12, 13, 14, 15, 16, 17, 18, 19, 20, 21, 22, 23, 24] [0, 1, 2] rfl rfl rfl rfl rfl rfl (fun H locs hP hD hS => ?_)
    refine lv_aload_n hx hb dX11_odds_47 rfl (lv_at hl 0 rfl) ?_
    refine k_get (v := .ref (a0 13)) C fg_X11_88 hP 0 rfl rfl dX11_odds_48 ?_
    refine lv_aload_n hx hb dX11_odds_51 rfl (lv_at hl 0 rfl) ?_
    refine k_get (v := .ref (a0 4)) C fg_X11_30 hP 0 rfl rfl dX11_odds_52 ?_
    refine lv_bipush (v := (20 : Int32)) hx hb dX11_odds_55 (by decide) ?_
    refine lv_iload_n hx hb dX11_odds_57 rfl (lv_at hl 3 rfl) ?_
    refine lv_iload hx hb dX11_odds_58 (lv_at hl 5 rfl) ?_
    refine lv_iadd hx hb dX11_odds_60 ?_
    obtain ⟨r5, U6, U7, hc4, hF⟩ := ob3_s hF
    refine k_ipart (W8 := g11 q o0 a0 tp S0 ++ g1 q (a0 13) a1 U6 ++ g8 q (a0 4) a2 U7 ++ g8 q (a0 3) a3 S3) C (k_rV (As := [.ref (a0 4), .int (20 : Int32), .int (x3 + x5)]) (rest := []) C (c_X1_drawDays l D q (a0 13) a1 S1 (a0 4) a2 U3 _ (20 : Int32) (x3 + x5) hc4) kc_X1_drawDays ml_X11_343 rfl rfl (by decide) (hP.sub (ws' := g1 q (a0 13) a1 S1 ++ g8 q (a0 4) a2 U3) [2, 3, 4, 5, 6, 7, 8, 9, 10, 11, 12, 13] rfl) (hD.sub (ws' := g1 q (a0 13) a1 S1 ++ g8 q (a0 4) a2 U3) [2, 3, 4, 5, 6, 7, 8, 9, 10, 11, 12, 13] (by decide) rfl) hS (va_recv hK hP (ci := 1) (q0 := 2) rfl rfl) rfl hl.1 rfl (Nat.le_of_ble_eq_true rfl) dX11_odds_61 (by decide)) hP hD hS [2, 3, 4, 5, 6, 7, 8, 9, 10, 11, 12, 13] [0, 1, 14, 15, 16, 17, 18, 19, 20, 21, 22, 23, 24] rfl rfl rfl rfl rfl rfl (fun H locs hP hD hS => ?_)
    refine lv_pop hx hb dX11_odds_64 rfl ?_
    refine lv_aload_n hx hb dX11_odds_65 rfl (lv_at hl 0 rfl) ?_
    refine k_get (v := .ref (a0 4)) C fg_X11_30 hP 0 rfl rfl dX11_odds_66 ?_
    refine lv_iload_n hx hb dX11_odds_69 rfl (lv_at hl 1 rfl) ?_
    obtain ⟨r9, hc8, hF⟩ := ob1_s hF
    refine k_iro C (k_rV (As := [.int x1]) (rest := []) C (c_X8_isPleased l D q (a0 4) a2 U7 _ x1 hc8) kc_X8_isPleased ml_X11_346 rfl rfl (by decide) (hP.sub (ws' := g8 q (a0 4) a2 U7) [3, 4, 5, 6, 7, 8, 9, 10, 11, 12, 13] rfl) (hD.sub (ws' := g8 q (a0 4) a2 U7) [3, 4, 5, 6, 7, 8, 9, 10, 11, 12, 13] (by decide) rfl) hS (va_recv hK hP (ci := 8) (q0 := 3) rfl rfl) rfl hl.1 rfl (Nat.le_of_ble_eq_true rfl) dX11_odds_70 (by decide)) hP hD hS [3, 4, 5, 6, 7, 8, 9, 10, 11, 12, 13] rfl (fun H locs hP hD hS => ?_)
    refine lv_if_eq (tgt := 79) hx hb dX11_odds_73 (by decide) (fun c10 => ?_) (fun c10 => ?_)
    · have hF := op_t hF c10
      exact b_X11_odds_79 C hk30 hF hP hD hS (lv_sub hl [0, 1, 2, 3, 4, 5] rfl)
    · have hF := op_f hF c10
      refine lv_iinc (v := (x4 + 1)) (lv' := [(4, .int (x4 + 1)), (0, .ref o0), (1, .int x1), (2, .int x2), (3, .int x3), (5, .int x5)]) hx hb dX11_odds_76 hl (k := 4) rfl rfl (by decide) rfl (fun ls hl => ?_)
      exact b_X11_odds_79 C hk30 hF hP hD hS (lv_sub hl [1, 2, 3, 4, 0, 5] rfl)
set_option maxRecDepth 100000 in
set_option maxHeartbeats 4000000 in
theorem l_X11_odds_30 {p : Program} {l : Launch} {e : Env} {s : State} {m : MethodId} {args : Array Value} {below : List Frame} {meth : Method} {c : Code} {D : va_G} {q : Nat → ClassId} {A : Nat → Prop} {tp : Nat} {o0 : Nat} {a0 : Nat → Nat} {a1 : Nat → Nat} {a2 : Nat → Nat} {a3 : Nat → Nat} {r : Int32} {T1 : St} {T2 : St} (C : cx p s m args meth c cX11_odds 6 (some .int) RX11 D q A) {x1 : Int32} {x2 : Int32} {x3 : Int32} {x4 : Int32} {x5 : Int32} {S0 : St} {S1 : St} {S2 : St} {S3 : St} (hF : L_X11_odds_30 x1 x2 x3 x4 x5 S0 S1 S2 S3 = some (r, T1, T2)) : ∀ (H : Heap) (locs : List Loc) (ls : Array Slot), va_P D vwCl (g11 q o0 a0 tp S0 ++ g1 q (a0 13) a1 S1 ++ g8 q (a0 4) a2 S2 ++ g8 q (a0 3) a3 S3) H → va_D A (g11 q o0 a0 tp S0 ++ g1 q (a0 13) a1 S1 ++ g8 q (a0 4) a2 S2 ++ g8 q (a0 3) a3 S3) → va_S A s.heap H locs → lv_has ls 6 [(0, .ref o0), (1, .int x1), (2, .int x2), (3, .int x3), (4, .int x4), (5, .int x5)] → W p l e rm_X11_odds s m args below meth c H locs 0 0 (MQ below (QI D A r (g11 q o0 a0 tp S0 ++ g1 q (a0 13) a1 T1 ++ g8 q (a0 4) a2 T2 ++ g8 q (a0 3) a3 S3)) args s 0 0 A) (F0 m 30 ls []) :=
  lp_G _ _ (fun z => ∀ (H : Heap) (locs : List Loc) (ls : Array Slot), va_P D vwCl (g11 q o0 a0 tp z.2.2.2.2.2.1 ++ g1 q (a0 13) a1 z.2.2.2.2.2.2.1 ++ g8 q (a0 4) a2 z.2.2.2.2.2.2.2.1 ++ g8 q (a0 3) a3 z.2.2.2.2.2.2.2.2) H → va_D A (g11 q o0 a0 tp z.2.2.2.2.2.1 ++ g1 q (a0 13) a1 z.2.2.2.2.2.2.1 ++ g8 q (a0 4) a2 z.2.2.2.2.2.2.2.1 ++ g8 q (a0 3) a3 z.2.2.2.2.2.2.2.2) → va_S A s.heap H locs → lv_has ls 6 [(0, .ref o0), (1, .int z.1), (2, .int z.2.1), (3, .int z.2.2.1), (4, .int z.2.2.2.1), (5, .int z.2.2.2.2.1)] → W p l e rm_X11_odds s m args below meth c H locs 0 0 (MQ below (QI D A r (g11 q o0 a0 tp z.2.2.2.2.2.1 ++ g1 q (a0 13) a1 T1 ++ g8 q (a0 4) a2 T2 ++ g8 q (a0 3) a3 z.2.2.2.2.2.2.2.2)) args s 0 0 A) (F0 m 30 ls [])) (fun kz hkz z hz H locs ls hP hD hS hl => b_X11_odds_30 C (fun x1 x2 x3 x4 x5 S0 S1 S2 S3 hz => hkz (x1, x2, x3, x4, x5, S0, S1, S2, S3) hz) hz hP hD hS hl) FU (x1, x2, x3, x4, x5, S0, S1, S2, S3) hF
set_option maxRecDepth 100000 in
set_option maxHeartbeats 4000000 in
theorem c_X11_odds (l : Launch) (D : va_G) (q : Nat → ClassId) (tp : Nat) (o0 : Nat) (a0 : Nat → Nat) (S0 : St) (a1 : Nat → Nat) (S1 : St) (a2 : Nat → Nat) (S2 : St) (a3 : Nat → Nat) (S3 : St) (sz : Nat) (x1 : Int32) (x2 : Int32) (x3 : Int32) {r : Int32} {T1 : St} {T2 : St} (hF : F_X11_odds S0 S1 S2 S3 x1 x2 x3 = some (r, T1, T2)) : Met l yX11_odds (Cond.code yX11_odds cX11_odds 6 (some .int) :: TB) rm_X11_odds (PC D q [.ref o0, .int x1, .int x2, .int x3] (g11 q o0 a0 tp S0 ++ g1 q (a0 13) a1 S1 ++ g8 q (a0 4) a2 S2 ++ g8 q (a0 3) a3 S3) sz) ((fun A => QI D A r (g11 q o0 a0 tp S0 ++ g1 q (a0 13) a1 T1 ++ g8 q (a0 4) a2 T2 ++ g8 q (a0 3) a3 S3)) (va_A (g11 q o0 a0 tp S0 ++ g1 q (a0 13) a1 S1 ++ g8 q (a0 4) a2 S2 ++ g8 q (a0 3) a3 S3) sz)) 0 0 (va_A (g11 q o0 a0 tp S0 ++ g1 q (a0 13) a1 S1 ++ g8 q (a0 4) a2 S2 ++ g8 q (a0 3) a3 S3) sz) := by
  refine k_met (w0 := g11 q o0 a0 tp S0 ++ g1 q (a0 13) a1 S1 ++ g8 q (a0 4) a2 S2 ++ g8 q (a0 3) a3 S3) (Q := fun A => QI D A r (g11 q o0 a0 tp S0 ++ g1 q (a0 13) a1 T1 ++ g8 q (a0 4) a2 T2 ++ g8 q (a0 3) a3 S3)) (by decide +kernel) (Nat.le_of_ble_eq_true rfl) ?_
  intro p e s m args below meth c A ls C hP hD hS hl
  have hl : lv_has ls 6 [(0, .ref o0), (1, .int x1), (2, .int x2), (3, .int x3)] := hl
  unfold F_X11_odds at hF
  have C : cx p s m args meth c cX11_odds 6 (some .int) RX11 D q A := C
  obtain ⟨hx, hb, hr, hml, hown, hts, hlk, hA, hK, hN, hV⟩ := id C
  refine lv_aload_n hx hb dX11_odds_0 rfl (lv_at hl 0 rfl) ?_
  refine k_get (v := .ref (a0 3)) C fg_X11_26 hP 0 rfl rfl dX11_odds_1 ?_
  refine lv_iload_n hx hb dX11_odds_4 rfl (lv_at hl 1 rfl) ?_
  obtain ⟨r2, hc1, hF⟩ := ob1_s hF
  refine k_iro C (k_rV (As := [.int x1]) (rest := []) C (c_X8_hasPerson l D q (a0 3) a3 S3 _ x1 hc1) kc_X8_hasPerson ml_X11_137 rfl rfl (by decide) (hP.sub (ws' := g8 q (a0 3) a3 S3) [14, 15, 16, 17, 18, 19, 20, 21, 22, 23, 24] rfl) (hD.sub (ws' := g8 q (a0 3) a3 S3) [14, 15, 16, 17, 18, 19, 20, 21, 22, 23, 24] (by decide) rfl) hS (va_recv hK hP (ci := 8) (q0 := 14) rfl rfl) rfl hl.1 rfl (Nat.le_of_ble_eq_true rfl) dX11_odds_5 (by decide)) hP hD hS [14, 15, 16, 17, 18, 19, 20, 21, 22, 23, 24] rfl (fun H locs hP hD hS => ?_)
  refine lv_if_eq (tgt := 22) hx hb dX11_odds_8 (by decide) (fun c3 => ?_) (fun c3 => ?_)
  · have hF := op_t hF c3
    refine lv_iconst (v := (-1 : Int32)) hx hb dX11_odds_22 (by decide) ?_
    cases hF
    exact k_iret C hP hS dX11_odds_23
  · have hF := op_f hF c3
    refine lv_iload_n hx hb dX11_odds_11 rfl (lv_at hl 2 rfl) ?_
    refine lv_iconst (v := (1 : Int32)) hx hb dX11_odds_12 (by decide) ?_
    refine lv_icmp_lt (tgt := 22) hx hb dX11_odds_13 (by decide) (fun c4 => ?_) (fun c4 => ?_)
    · have hF := op_t hF c4
      refine lv_iconst (v := (-1 : Int32)) hx hb dX11_odds_22 (by decide) ?_
      cases hF
      exact k_iret C hP hS dX11_odds_23
    · have hF := op_f hF c4
      refine lv_iload_n hx hb dX11_odds_16 rfl (lv_at hl 2 rfl) ?_
      refine lv_bipush (v := (30 : Int32)) hx hb dX11_odds_17 (by decide) ?_
      refine lv_icmp_le (tgt := 24) hx hb dX11_odds_19 (by decide) (fun c5 => ?_) (fun c5 => ?_)
      · have hF := op_t hF c5
        refine lv_iconst (v := (0 : Int32)) hx hb dX11_odds_24 (by decide) ?_
        refine lv_istore (lv' := [(4, .int (0 : Int32)), (0, .ref o0), (1, .int x1), (2, .int x2), (3, .int x3)]) hx hb dX11_odds_25 hl (by decide) rfl (fun ls hl => ?_)
        refine lv_iconst (v := (0 : Int32)) hx hb dX11_odds_27 (by decide) ?_
        refine lv_istore (lv' := [(5, .int (0 : Int32)), (4, .int (0 : Int32)), (0, .ref o0), (1, .int x1), (2, .int x2), (3, .int x3)]) hx hb dX11_odds_28 hl (by decide) rfl (fun ls hl => ?_)
        exact l_X11_odds_30 C hF _ _ _ hP hD hS (lv_sub hl [2, 3, 4, 5, 1, 0] rfl)
      · have hF := op_f hF c5
        refine lv_iconst (v := (-1 : Int32)) hx hb dX11_odds_22 (by decide) ?_
        cases hF
        exact k_iret C hP hS dX11_odds_23
