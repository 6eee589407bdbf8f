abbrev rm_X12_isSaid : Room := ({ frames := 2, cells := 0, slots := 0, locals := 47 } : Room)
def F_X12_isSaid_204 (k4 : Int32 × Int32 × Int32 × St → Option (Int32 × St)) (x1 : Int32) (x2 : Int32) (x3 : Int32) (S0 : St) : Option (Int32 × St) := k4 (x1, x2, (x3 + 1), S0)
def F_X12_isSaid_161 (k4 : Int32 × Int32 × Int32 × St → Option (Int32 × St)) (x1 : Int32) (x2 : Int32) (x3 : Int32) (s1 : Int32) (s2 : Int32) (S0 : St) : Option (Int32 × St) := if oob s1 45 then none else nw (sA S0 47 s1 (vp_nar .boolean s2)) fun U2 => F_X12_isSaid_204 k4 x1 x2 x3 U2
def F_X12_isSaid_156 (k4 : Int32 × Int32 × Int32 × St → Option (Int32 × St)) (x1 : Int32) (x2 : Int32) (x3 : Int32) (s1 : Int32) (S0 : St) : Option (Int32 × St) := F_X12_isSaid_161 k4 x1 x2 x3 s1 (1 : Int32) S0
def F_X12_isSaid_132 (k4 : Int32 × Int32 × Int32 × St → Option (Int32 × St)) (x1 : Int32) (x2 : Int32) (x3 : Int32) (s1 : Int32) (S0 : St) : Option (Int32 × St) := F_X12_isSaid_161 k4 x1 x2 x3 s1 (0 : Int32) S0
def F_X12_isSaid_86 (k4 : Int32 × Int32 × Int32 × St → Option (Int32 × St)) (x1 : Int32) (x2 : Int32) (x3 : Int32) (x4 : Int32) (S0 : St) : Option (Int32 × St) := if oob x4 258 then none else if (S0.2.2.1 6 x4.toNatClampNeg) = (21 : Int32) then (if oob ((x2 + (-1)) - (1 : Int32)) 45 then none else if (S0.2.2.1 47 ((x2 + (-1)) - (1 : Int32)).toNatClampNeg) = 0 then (F_X12_isSaid_132 k4 x1 (x2 + (-1)) x3 ((x2 + (-1)) - (1 : Int32)) S0) else (if oob (x2 + (-1)) 45 then none else if (S0.2.2.1 47 (x2 + (-1)).toNatClampNeg) = 0 then (F_X12_isSaid_132 k4 x1 (x2 + (-1)) x3 ((x2 + (-1)) - (1 : Int32)) S0) else (F_X12_isSaid_161 k4 x1 (x2 + (-1)) x3 ((x2 + (-1)) - (1 : Int32)) (1 : Int32) S0))) else (if oob ((x2 + (-1)) - (1 : Int32)) 45 then none else if (S0.2.2.1 47 ((x2 + (-1)) - (1 : Int32)).toNatClampNeg) = 0 then (if oob (x2 + (-1)) 45 then none else if (S0.2.2.1 47 (x2 + (-1)).toNatClampNeg) = 0 then (F_X12_isSaid_161 k4 x1 (x2 + (-1)) x3 ((x2 + (-1)) - (1 : Int32)) (0 : Int32) S0) else (F_X12_isSaid_156 k4 x1 (x2 + (-1)) x3 ((x2 + (-1)) - (1 : Int32)) S0)) else (F_X12_isSaid_156 k4 x1 (x2 + (-1)) x3 ((x2 + (-1)) - (1 : Int32)) S0))
def F_X12_isSaid_58 (k4 : Int32 × Int32 × Int32 × St → Option (Int32 × St)) (x1 : Int32) (x2 : Int32) (x3 : Int32) (s1 : Int32) (s2 : Int32) (S0 : St) : Option (Int32 × St) := if oob s1 45 then none else nw (sA S0 47 s1 (vp_nar .boolean s2)) fun U2 => F_X12_isSaid_204 k4 x1 x2 x3 U2
def F_X12_isSaid_4 (k4 : Int32 × Int32 × Int32 × St → Option (Int32 × St)) (x1 : Int32) (x2 : Int32) (x3 : Int32) (S0 : St) : Option (Int32 × St) := if oob (77 : Int32) 258 then none else if (S0.2.2.1 6 (77 : Int32).toNatClampNeg) ≤ x3 then (if oob (0 : Int32) 45 then none else if nb (S0.2.2.1 47 (0 : Int32).toNatClampNeg) then none else some ((S0.2.2.1 47 (0 : Int32).toNatClampNeg), S0)) else (if oob ((78 : Int32) + ((3 : Int32) * x3)) 258 then none else if (S0.2.2.1 6 ((78 : Int32) + ((3 : Int32) * x3)).toNatClampNeg) = (20 : Int32) then (if oob (x2 - (1 : Int32)) 45 then none else if (S0.2.2.1 47 (x2 - (1 : Int32)).toNatClampNeg) = 0 then (F_X12_isSaid_58 k4 x1 x2 x3 (x2 - (1 : Int32)) (1 : Int32) S0) else (F_X12_isSaid_58 k4 x1 x2 x3 (x2 - (1 : Int32)) (0 : Int32) S0)) else (if oob ((78 : Int32) + ((3 : Int32) * x3)) 258 then none else if (S0.2.2.1 6 ((78 : Int32) + ((3 : Int32) * x3)).toNatClampNeg) = (21 : Int32) then (F_X12_isSaid_86 k4 x1 x2 x3 ((78 : Int32) + ((3 : Int32) * x3)) S0) else (if oob ((78 : Int32) + ((3 : Int32) * x3)) 258 then none else if (S0.2.2.1 6 ((78 : Int32) + ((3 : Int32) * x3)).toNatClampNeg) = (22 : Int32) then (F_X12_isSaid_86 k4 x1 x2 x3 ((78 : Int32) + ((3 : Int32) * x3)) S0) else (if oob ((78 : Int32) + ((3 : Int32) * x3)) 258 then none else if oob (((78 : Int32) + ((3 : Int32) * x3)) + (1 : Int32)) 258 then none else if oob (((78 : Int32) + ((3 : Int32) * x3)) + (2 : Int32)) 258 then none else ob1 (F_X12_isLeaf S0 x1 (S0.2.2.1 6 ((78 : Int32) + ((3 : Int32) * x3)).toNatClampNeg) (S0.2.2.1 6 (((78 : Int32) + ((3 : Int32) * x3)) + (1 : Int32)).toNatClampNeg) (S0.2.2.1 6 (((78 : Int32) + ((3 : Int32) * x3)) + (2 : Int32)).toNatClampNeg)) fun r15 => if oob x2 45 then none else nw (sA S0 47 x2 (vp_nar .boolean r15)) fun U17 => F_X12_isSaid_204 k4 x1 (x2 + 1) x3 U17))))
def L_X12_isSaid_4 (x1 : Int32) (x2 : Int32) (x3 : Int32) (S0 : St) : Option (Int32 × St) := lp (fun kz z => F_X12_isSaid_4 kz z.1 z.2.1 z.2.2.1 z.2.2.2) FU (x1, x2, x3, S0)
def F_X12_isSaid (S0 : St) (x1 : Int32) : Option (Int32 × St) := L_X12_isSaid_4 x1 (0 : Int32) (0 : Int32) S0
set_option maxRecDepth 100000 in
set_option maxHeartbeats 4000000 in
theorem b_X12_isSaid_204 {p : Program} {l : Launch} {e : Env} {s : State} {m : MethodId} {args : Array Value} {below : List Frame} {meth : Method} {c : Code} {D : va_G} {q : Nat → ClassId} {A : Nat → Prop} {o0 : Nat} {a0 : Nat → Nat} {r : Int32} {T0 : St} (C : cx p s m args meth c cX12_isSaid 5 (some .boolean) RX12 D q A) {k4 : Int32 × Int32 × Int32 × St → Option (Int32 × St)} (hk4 : ∀ (x1 : Int32) (x2 : Int32) (x3 : Int32) (S0 : St), k4 (x1, x2, x3, S0) = some (r, T0) → ∀ (H : Heap) (locs : List Loc) (ls : Array Slot), va_P D vwCl (g12 q o0 a0 S0) H → va_D A (g12 q o0 a0 S0) → va_S A s.heap H locs → lv_has ls 5 [(0, .ref o0), (1, .int x1), (2, .int x2), (3, .int x3)] → W p l e rm_X12_isSaid s m args below meth c H locs 0 0 (MQ below (QI D A r (g12 q o0 a0 T0)) args s 0 0 A) (F0 m 4 ls [])) {x1 : Int32} {x2 : Int32} {x3 : Int32} {S0 : St} (hF : F_X12_isSaid_204 k4 x1 x2 x3 S0 = some (r, T0)) {H : Heap} {locs : List Loc} (hP : va_P D vwCl (g12 q o0 a0 S0) H) (hD : va_D A (g12 q o0 a0 S0)) (hS : va_S A s.heap H locs) {ls : Array Slot} (hl : lv_has ls 5 [(0, .ref o0), (1, .int x1), (2, .int x2), (3, .int x3)]) : W p l e rm_X12_isSaid s m args below meth c H locs 0 0 (MQ below (QI D A r (g12 q o0 a0 T0)) args s 0 0 A) (F0 m 204 ls []) := by
  unfold F_X12_isSaid_204 at hF
  obtain ⟨hx, hb, hr, hml, hown, hts, hlk, hA, hK, hN, hV⟩ := id C
  refine lv_iinc (v := (x3 + 1)) (lv' := [(3, .int (x3 + 1)), (0, .ref o0), (1, .int x1), (2, .int x2)]) hx hb dX12_isSaid_204 hl (k := 3) rfl rfl (by decide) rfl (fun ls hl => ?_)
  refine lv_goto (tgt := 4) hx hb dX12_isSaid_207 (by decide) ?_
  exact hk4 x1 x2 (x3 + 1) S0 hF _ _ _ hP hD hS (lv_sub hl [1, 2, 3, 0] rfl)
set_option maxRecDepth 100000 in
set_option maxHeartbeats 4000000 in
theorem b_X12_isSaid_161 {p : Program} {l : Launch} {e : Env} {s : State} {m : MethodId} {args : Array Value} {below : List Frame} {meth : Method} {c : Code} {D : va_G} {q : Nat → ClassId} {A : Nat → Prop} {o0 : Nat} {a0 : Nat → Nat} {r : Int32} {T0 : St} (C : cx p s m args meth c cX12_isSaid 5 (some .boolean) RX12 D q A) {k4 : Int32 × Int32 × Int32 × St → Option (Int32 × St)} (hk4 : ∀ (x1 : Int32) (x2 : Int32) (x3 : Int32) (S0 : St), k4 (x1, x2, x3, S0) = some (r, T0) → ∀ (H : Heap) (locs : List Loc) (ls : Array Slot), va_P D vwCl (g12 q o0 a0 S0) H → va_D A (g12 q o0 a0 S0) → va_S A s.heap H locs → lv_has ls 5 [(0, .ref o0), (1, .int x1), (2, .int x2), (3, .int x3)] → W p l e rm_X12_isSaid s m args below meth c H locs 0 0 (MQ below (QI D A r (g12 q o0 a0 T0)) args s 0 0 A) (F0 m 4 ls [])) {x1 : Int32} {x2 : Int32} {x3 : Int32} {s1 : Int32} {s2 : Int32} {S0 : St} (hF : F_X12_isSaid_161 k4 x1 x2 x3 s1 s2 S0 = some (r, T0)) {H : Heap} {locs : List Loc} (hP : va_P D vwCl (g12 q o0 a0 S0) H) (hD : va_D A (g12 q o0 a0 S0)) (hS : va_S A s.heap H locs) {ls : Array Slot} (hl : lv_has ls 5 [(0, .ref o0), (1, .int x1), (2, .int x2), (3, .int x3)]) : W p l e rm_X12_isSaid s m args below meth c H locs 0 0 (MQ below (QI D A r (g12 q o0 a0 T0)) args s 0 0 A) (F0 m 161 ls [.int s2, .int s1, .ref (a0 48)]) := by
  unfold F_X12_isSaid_161 at hF
  obtain ⟨hx, hb, hr, hml, hown, hts, hlk, hA, hK, hN, hV⟩ := id C
  obtain ⟨h1, hF⟩ := op_ck hF
  obtain ⟨U2, e3, hF⟩ := nw_s hF
  refine k_zst (f := S0.2.2.1 47) (W8 := g12 q o0 a0 U2) C hP hD hS 18 rfl h1 dX12_isSaid_161 (by rw [e3]; rfl) (fun H locs hP hD hS => ?_)
  refine lv_goto (tgt := 204) hx hb dX12_isSaid_162 (by decide) ?_
  exact b_X12_isSaid_204 C hk4 hF hP hD hS (lv_sub hl [0, 1, 2, 3] rfl)
set_option maxRecDepth 100000 in
set_option maxHeartbeats 4000000 in
theorem b_X12_isSaid_156 {p : Program} {l : Launch} {e : Env} {s : State} {m : MethodId} {args : Array Value} {below : List Frame} {meth : Method} {c : Code} {D : va_G} {q : Nat → ClassId} {A : Nat → Prop} {o0 : Nat} {a0 : Nat → Nat} {r : Int32} {T0 : St} (C : cx p s m args meth c cX12_isSaid 5 (some .boolean) RX12 D q A) {k4 : Int32 × Int32 × Int32 × St → Option (Int32 × St)} (hk4 : ∀ (x1 : Int32) (x2 : Int32) (x3 : Int32) (S0 : St), k4 (x1, x2, x3, S0) = some (r, T0) → ∀ (H : Heap) (locs : List Loc) (ls : Array Slot), va_P D vwCl (g12 q o0 a0 S0) H → va_D A (g12 q o0 a0 S0) → va_S A s.heap H locs → lv_has ls 5 [(0, .ref o0), (1, .int x1), (2, .int x2), (3, .int x3)] → W p l e rm_X12_isSaid s m args below meth c H locs 0 0 (MQ below (QI D A r (g12 q o0 a0 T0)) args s 0 0 A) (F0 m 4 ls [])) {x1 : Int32} {x2 : Int32} {x3 : Int32} {s1 : Int32} {S0 : St} (hF : F_X12_isSaid_156 k4 x1 x2 x3 s1 S0 = some (r, T0)) {H : Heap} {locs : List Loc} (hP : va_P D vwCl (g12 q o0 a0 S0) H) (hD : va_D A (g12 q o0 a0 S0)) (hS : va_S A s.heap H locs) {ls : Array Slot} (hl : lv_has ls 5 [(0, .ref o0), (1, .int x1), (2, .int x2), (3, .int x3)]) : W p l e rm_X12_isSaid s m args below meth c H locs 0 0 (MQ below (QI D A r (g12 q o0 a0 T0)) args s 0 0 A) (F0 m 156 ls [.int s1, .ref (a0 48)]) := by
  unfold F_X12_isSaid_156 at hF
  obtain ⟨hx, hb, hr, hml, hown, hts, hlk, hA, hK, hN, hV⟩ := id C
  refine lv_iconst (v := (1 : Int32)) hx hb dX12_isSaid_156 (by decide) ?_
  refine lv_goto (tgt := 161) hx hb dX12_isSaid_157 (by decide) ?_
  exact b_X12_isSaid_161 C hk4 hF hP hD hS (lv_sub hl [0, 1, 2, 3] rfl)
set_option maxRecDepth 100000 in
set_option maxHeartbeats 4000000 in
theorem b_X12_isSaid_132 {p : Program} {l : Launch} {e : Env} {s : State} {m : MethodId} {args : Array Value} {below : List Frame} {meth : Method} {c : Code} {D : va_G} {q : Nat → ClassId} {A : Nat → Prop} {o0 : Nat} {a0 : Nat → Nat} {r : Int32} {T0 : St} (C : cx p s m args meth c cX12_isSaid 5 (some .boolean) RX12 D q A) {k4 : Int32 × Int32 × Int32 × St → Option (Int32 × St)} (hk4 : ∀ (x1 : Int32) (x2 : Int32) (x3 : Int32) (S0 : St), k4 (x1, x2, x3, S0) = some (r, T0) → ∀ (H : Heap) (locs : List Loc) (ls : Array Slot), va_P D vwCl (g12 q o0 a0 S0) H → va_D A (g12 q o0 a0 S0) → va_S A s.heap H locs → lv_has ls 5 [(0, .ref o0), (1, .int x1), (2, .int x2), (3, .int x3)] → W p l e rm_X12_isSaid s m args below meth c H locs 0 0 (MQ below (QI D A r (g12 q o0 a0 T0)) args s 0 0 A) (F0 m 4 ls [])) {x1 : Int32} {x2 : Int32} {x3 : Int32} {s1 : Int32} {S0 : St} (hF : F_X12_isSaid_132 k4 x1 x2 x3 s1 S0 = some (r, T0)) {H : Heap} {locs : List Loc} (hP : va_P D vwCl (g12 q o0 a0 S0) H) (hD : va_D A (g12 q o0 a0 S0)) (hS : va_S A s.heap H locs) {ls : Array Slot} (hl : lv_has ls 5 [(0, .ref o0), (1, .int x1), (2, .int x2), (3, .int x3)]) : W p l e rm_X12_isSaid s m args below meth c H locs 0 0 (MQ below (QI D A r (g12 q o0 a0 T0)) args s 0 0 A) (F0 m 132 ls [.int s1, .ref (a0 48)]) := by
  unfold F_X12_isSaid_132 at hF
  obtain ⟨hx, hb, hr, hml, hown, hts, hlk, hA, hK, hN, hV⟩ := id C
  refine lv_iconst (v := (0 : Int32)) hx hb dX12_isSaid_132 (by decide) ?_
  refine lv_goto (tgt := 161) hx hb dX12_isSaid_133 (by decide) ?_
  exact b_X12_isSaid_161 C hk4 hF hP hD hS (lv_sub hl [0, 1, 2, 3] rfl)
set_option maxRecDepth 100000 in
set_option maxHeartbeats 4000000 in
theorem b_X12_isSaid_86 {p : Program} {l : Launch} {e : Env} {s : State} {m : MethodId} {args : Array Value} {below : List Frame} {meth : Method} {c : Code} {D : va_G} {q : Nat → ClassId} {A : Nat → Prop} {o0 : Nat} {a0 : Nat → Nat} {r : Int32} {T0 : St} (C : cx p s m args meth c cX12_isSaid 5 (some .boolean) RX12 D q A) {k4 : Int32 × Int32 × Int32 × St → Option (Int32 × St)} (hk4 : ∀ (x1 : Int32) (x2 : Int32) (x3 : Int32) (S0 : St), k4 (x1, x2, x3, S0) = some (r, T0) → ∀ (H : Heap) (locs : List Loc) (ls : Array Slot), va_P D vwCl (g12 q o0 a0 S0) H → va_D A (g12 q o0 a0 S0) → va_S A s.heap H locs → lv_has ls 5 [(0, .ref o0), (1, .int x1), (2, .int x2), (3, .int x3)] → W p l e rm_X12_isSaid s m args below meth c H locs 0 0 (MQ below (QI D A r (g12 q o0 a0 T0)) args s 0 0 A) (F0 m 4 ls [])) {x1 : Int32} {x2 : Int32} {x3 : Int32} {x4 : Int32} {S0 : St} (hF : F_X12_isSaid_86 k4 x1 x2 x3 x4 S0 = some (r, T0)) {H : Heap} {locs : List Loc} (hP : va_P D vwCl (g12 q o0 a0 S0) H) (hD : va_D A (g12 q o0 a0 S0)) (hS : va_S A s.heap H locs) {ls : Array Slot} (hl : lv_has ls 5 [(0, .ref o0), (1, .int x1), (2, .int x2), (3, .int x3), (4, .int x4)]) : W p l e rm_X12_isSaid s m args below meth c H locs 0 0 (MQ below (QI D A r (g12 q o0 a0 T0)) args s 0 0 A) (F0 m 86 ls []) := by
  unfold F_X12_isSaid_86 at hF
  obtain ⟨hx, hb, hr, hml, hown, hts, hlk, hA, hK, hN, hV⟩ := id C
  refine lv_iinc (v := (x2 + (-1))) (lv' := [(2, .int (x2 + (-1))), (0, .ref o0), (1, .int x1), (3, .int x3), (4, .int x4)]) hx hb dX12_isSaid_86 hl (k := 2) rfl rfl (by decide) rfl (fun ls hl => ?_)
  refine lv_aload_n hx hb dX12_isSaid_89 rfl (lv_at hl 1 rfl) ?_
  refine k_get (v := .ref (a0 48)) C fg_X12_95 hP 0 rfl rfl dX12_isSaid_90 ?_
  refine lv_iload_n hx hb dX12_isSaid_93 rfl (lv_at hl 0 rfl) ?_
  refine lv_iconst (v := (1 : Int32)) hx hb dX12_isSaid_94 (by decide) ?_
  refine lv_isub hx hb dX12_isSaid_95 ?_
  refine lv_aload_n hx hb dX12_isSaid_96 rfl (lv_at hl 1 rfl) ?_
  refine k_get (v := .ref (a0 7)) C fg_X12_33 hP 0 rfl rfl dX12_isSaid_97 ?_
  refine lv_iload hx hb dX12_isSaid_100 (lv_at hl 4 rfl) ?_
  obtain ⟨h1, hF⟩ := op_ck hF
  refine k_ild (f := S0.2.2.1 6) C hP 2 rfl h1 dX12_isSaid_102 ?_
  refine lv_bipush (v := (21 : Int32)) hx hb dX12_isSaid_103 (by decide) ?_
  refine lv_icmp_ne (tgt := 136) hx hb dX12_isSaid_105 (by decide) (fun c2 => ?_) (fun c2 => ?_)
  · have hF := op_f hF c2
    refine lv_aload_n hx hb dX12_isSaid_136 rfl (lv_at hl 1 rfl) ?_
    refine k_get (v := .ref (a0 48)) C fg_X12_95 hP 0 rfl rfl dX12_isSaid_137 ?_
    refine lv_iload_n hx hb dX12_isSaid_140 rfl (lv_at hl 0 rfl) ?_
    refine lv_iconst (v := (1 : Int32)) hx hb dX12_isSaid_141 (by decide) ?_
    refine lv_isub hx hb dX12_isSaid_142 ?_
    obtain ⟨h3, hF⟩ := op_ck hF
    refine k_zld (f := S0.2.2.1 47) C hP 18 rfl h3 dX12_isSaid_143 ?_
    refine lv_if_ne (tgt := 156) hx hb dX12_isSaid_144 (by decide) (fun c4 => ?_) (fun c4 => ?_)
    · have hF := op_f hF c4
      exact b_X12_isSaid_156 C hk4 hF hP hD hS (lv_sub hl [1, 2, 0, 3] rfl)
    · have hF := op_t hF c4
      refine lv_aload_n hx hb dX12_isSaid_147 rfl (lv_at hl 1 rfl) ?_
      refine k_get (v := .ref (a0 48)) C fg_X12_95 hP 0 rfl rfl dX12_isSaid_148 ?_
      refine lv_iload_n hx hb dX12_isSaid_151 rfl (lv_at hl 0 rfl) ?_
      obtain ⟨h5, hF⟩ := op_ck hF
      refine k_zld (f := S0.2.2.1 47) C hP 18 rfl h5 dX12_isSaid_152 ?_
      refine lv_if_eq (tgt := 160) hx hb dX12_isSaid_153 (by decide) (fun c6 => ?_) (fun c6 => ?_)
      · have hF := op_t hF c6
        refine lv_iconst (v := (0 : Int32)) hx hb dX12_isSaid_160 (by decide) ?_
        exact b_X12_isSaid_161 C hk4 hF hP hD hS (lv_sub hl [1, 2, 0, 3] rfl)
      · have hF := op_f hF c6
        exact b_X12_isSaid_156 C hk4 hF hP hD hS (lv_sub hl [1, 2, 0, 3] rfl)
  · have hF := op_t hF c2
    refine lv_aload_n hx hb dX12_isSaid_108 rfl (lv_at hl 1 rfl) ?_
    refine k_get (v := .ref (a0 48)) C fg_X12_95 hP 0 rfl rfl dX12_isSaid_109 ?_
    refine lv_iload_n hx hb dX12_isSaid_112 rfl (lv_at hl 0 rfl) ?_
    refine lv_iconst (v := (1 : Int32)) hx hb dX12_isSaid_113 (by decide) ?_
    refine lv_isub hx hb dX12_isSaid_114 ?_
    obtain ⟨h7, hF⟩ := op_ck hF
    refine k_zld (f := S0.2.2.1 47) C hP 18 rfl h7 dX12_isSaid_115 ?_
    refine lv_if_eq (tgt := 132) hx hb dX12_isSaid_116 (by decide) (fun c8 => ?_) (fun c8 => ?_)
    · have hF := op_t hF c8
      exact b_X12_isSaid_132 C hk4 hF hP hD hS (lv_sub hl [1, 2, 0, 3] rfl)
    · have hF := op_f hF c8
      refine lv_aload_n hx hb dX12_isSaid_119 rfl (lv_at hl 1 rfl) ?_
      refine k_get (v := .ref (a0 48)) C fg_X12_95 hP 0 rfl rfl dX12_isSaid_120 ?_
      refine lv_iload_n hx hb dX12_isSaid_123 rfl (lv_at hl 0 rfl) ?_
      obtain ⟨h9, hF⟩ := op_ck hF
      refine k_zld (f := S0.2.2.1 47) C hP 18 rfl h9 dX12_isSaid_124 ?_
      refine lv_if_eq (tgt := 132) hx hb dX12_isSaid_125 (by decide) (fun c10 => ?_) (fun c10 => ?_)
      · have hF := op_t hF c10
        exact b_X12_isSaid_132 C hk4 hF hP hD hS (lv_sub hl [1, 2, 0, 3] rfl)
      · have hF := op_f hF c10
        refine lv_iconst (v := (1 : Int32)) hx hb dX12_isSaid_128 (by decide) ?_
        refine lv_goto (tgt := 161) hx hb dX12_isSaid_129 (by decide) ?_
        exact b_X12_isSaid_161 C hk4 hF hP hD hS (lv_sub hl [1, 2, 0, 3] rfl)
set_option maxRecDepth 100000 in
set_option maxHeartbeats 4000000 in
theorem b_X12_isSaid_58 {p : Program} {l : Launch} {e : Env} {s : State} {m : MethodId} {args : Array Value} {below : List Frame} {meth : Method} {c : Code} {D : va_G} {q : Nat → ClassId} {A : Nat → Prop} {o0 : Nat} {a0 : Nat → Nat} {r : Int32} {T0 : St} (C : cx p s m args meth c cX12_isSaid 5 (some .boolean) RX12 D q A) {k4 : Int32 × Int32 × Int32 × St → Option (Int32 × St)} (hk4 : ∀ (x1 : Int32) (x2 : Int32) (x3 : Int32) (S0 : St), k4 (x1, x2, x3, S0) = some (r, T0) → ∀ (H : Heap) (locs : List Loc) (ls : Array Slot), va_P D vwCl (g12 q o0 a0 S0) H → va_D A (g12 q o0 a0 S0) → va_S A s.heap H locs → lv_has ls 5 [(0, .ref o0), (1, .int x1), (2, .int x2), (3, .int x3)] → W p l e rm_X12_isSaid s m args below meth c H locs 0 0 (MQ below (QI D A r (g12 q o0 a0 T0)) args s 0 0 A) (F0 m 4 ls [])) {x1 : Int32} {x2 : Int32} {x3 : Int32} {s1 : Int32} {s2 : Int32} {S0 : St} (hF : F_X12_isSaid_58 k4 x1 x2 x3 s1 s2 S0 = some (r, T0)) {H : Heap} {locs : List Loc} (hP : va_P D vwCl (g12 q o0 a0 S0) H) (hD : va_D A (g12 q o0 a0 S0)) (hS : va_S A s.heap H locs) {ls : Array Slot} (hl : lv_has ls 5 [(0, .ref o0), (1, .int x1), (2, .int x2), (3, .int x3)]) : W p l e rm_X12_isSaid s m args below meth c H locs 0 0 (MQ below (QI D A r (g12 q o0 a0 T0)) args s 0 0 A) (F0 m 58 ls [.int s2, .int s1, .ref (a0 48)]) := by
  unfold F_X12_isSaid_58 at hF
  obtain ⟨hx, hb, hr, hml, hown, hts, hlk, hA, hK, hN, hV⟩ := id C
  obtain ⟨h1, hF⟩ := op_ck hF
  obtain ⟨U2, e3, hF⟩ := nw_s hF
  refine k_zst (f := S0.2.2.1 47) (W8 := g12 q o0 a0 U2) C hP hD hS 18 rfl h1 dX12_isSaid_58 (by rw [e3]; rfl) (fun H locs hP hD hS => ?_)
  refine lv_goto (tgt := 204) hx hb dX12_isSaid_59 (by decide) ?_
  exact b_X12_isSaid_204 C hk4 hF hP hD hS (lv_sub hl [0, 1, 2, 3] rfl)
set_option maxRecDepth 100000 in
set_option maxHeartbeats 4000000 in
theorem b_X12_isSaid_4 {p : Program} {l : Launch} {e : Env} {s : State} {m : MethodId} {args : Array Value} {below : List Frame} {meth : Method} {c : Code} {D : va_G} {q : Nat → ClassId} {A : Nat → Prop} {o0 : Nat} {a0 : Nat → Nat} {r : Int32} {T0 : St} (C : cx p s m args meth c cX12_isSaid 5 (some .boolean) RX12 D q A) {k4 : Int32 × Int32 × Int32 × St → Option (Int32 × St)} (hk4 : ∀ (x1 : Int32) (x2 : Int32) (x3 : Int32) (S0 : St), k4 (x1, x2, x3, S0) = some (r, T0) → ∀ (H : Heap) (locs : List Loc) (ls : Array Slot), va_P D vwCl (g12 q o0 a0 S0) H → va_D A (g12 q o0 a0 S0) → va_S A s.heap H locs → lv_has ls 5 [(0, .ref o0), (1, .int x1), (2, .int x2), (3, .int x3)] → W p l e rm_X12_isSaid s m args below meth c H locs 0 0 (MQ below (QI D A r (g12 q o0 a0 T0)) args s 0 0 A) (F0 m 4 ls [])) {x1 : Int32} {x2 : Int32} {x3 : Int32} {S0 : St} (hF : F_X12_isSaid_4 k4 x1 x2 x3 S0 = some (r, T0)) {H : Heap} {locs : List Loc} (hP : va_P D vwCl (g12 q o0 a0 S0) H) (hD : va_D A (g12 q o0 a0 S0)) (hS : va_S A s.heap H locs) {ls : Array Slot} (hl : lv_has ls 5 [(0, .ref o0), (1, .int x1), (2, .int x2), (3, .int x3)]) : W p l e rm_X12_isSaid s m args below meth c H locs 0 0 (MQ below (QI D A r (g12 q o0 a0 T0)) args s 0 0 A) (F0 m 4 ls []) := by
  unfold F_X12_isSaid_4 at hF
  obtain ⟨hx, hb, hr, hml, hown, hts, hlk, hA, hK, hN, hV⟩ := id C
  refine lv_iload_n hx hb dX12_isSaid_4 rfl (lv_at hl 3 rfl) ?_
  refine lv_aload_n hx hb dX12_isSaid_5 rfl (lv_at hl 0 rfl) ?_
  refine k_get (v := .ref (a0 7)) C fg_X12_33 hP 0 rfl rfl dX12_isSaid_6 ?_
  refine lv_bipush (v := (77 : Int32)) hx hb dX12_isSaid_9 (by decide) ?_
  obtain ⟨h1, hF⟩ := op_ck hF
  refine k_ild (f := S0.2.2.1 6) C hP 2 rfl h1 dX12_isSaid_11 ?_
  refine lv_icmp_ge (tgt := 210) hx hb dX12_isSaid_12 (by decide) (fun c2 => ?_) (fun c2 => ?_)
  · have hF := op_t hF c2
    refine lv_aload_n hx hb dX12_isSaid_210 rfl (lv_at hl 0 rfl) ?_
    refine k_get (v := .ref (a0 48)) C fg_X12_95 hP 0 rfl rfl dX12_isSaid_211 ?_
    refine lv_iconst (v := (0 : Int32)) hx hb dX12_isSaid_214 (by decide) ?_
    obtain ⟨h3, hF⟩ := op_ck hF
    refine k_zld (f := S0.2.2.1 47) C hP 18 rfl h3 dX12_isSaid_215 ?_
    obtain ⟨h4, hF⟩ := op_ck hF
    cases hF
    exact k_zret C h4 hP hS dX12_isSaid_216
  · have hF := op_f hF c2
    refine lv_bipush (v := (78 : Int32)) hx hb dX12_isSaid_15 (by decide) ?_
    refine lv_iconst (v := (3 : Int32)) hx hb dX12_isSaid_17 (by decide) ?_
    refine lv_iload_n hx hb dX12_isSaid_18 rfl (lv_at hl 3 rfl) ?_
    refine lv_imul hx hb dX12_isSaid_19 ?_
    refine lv_iadd hx hb dX12_isSaid_20 ?_
    refine lv_istore (lv' := [(4, .int ((78 : Int32) + ((3 : Int32) * x3))), (0, .ref o0), (1, .int x1), (2, .int x2), (3, .int x3)]) hx hb dX12_isSaid_21 hl (by decide) rfl (fun ls hl => ?_)
    refine lv_aload_n hx hb dX12_isSaid_23 rfl (lv_at hl 1 rfl) ?_
    refine k_get (v := .ref (a0 7)) C fg_X12_33 hP 0 rfl rfl dX12_isSaid_24 ?_
    refine lv_iload hx hb dX12_isSaid_27 (lv_at hl 0 rfl) ?_
    obtain ⟨h5, hF⟩ := op_ck hF
    refine k_ild (f := S0.2.2.1 6) C hP 2 rfl h5 dX12_isSaid_29 ?_
    refine lv_bipush (v := (20 : Int32)) hx hb dX12_isSaid_30 (by decide) ?_
    refine lv_icmp_ne (tgt := 62) hx hb dX12_isSaid_32 (by decide) (fun c6 => ?_) (fun c6 => ?_)
    · have hF := op_f hF c6
      refine lv_aload_n hx hb dX12_isSaid_62 rfl (lv_at hl 1 rfl) ?_
      refine k_get (v := .ref (a0 7)) C fg_X12_33 hP 0 rfl rfl dX12_isSaid_63 ?_
      refine lv_iload hx hb dX12_isSaid_66 (lv_at hl 0 rfl) ?_
      obtain ⟨h7, hF⟩ := op_ck hF
      refine k_ild (f := S0.2.2.1 6) C hP 2 rfl h7 dX12_isSaid_68 ?_
      refine lv_bipush (v := (21 : Int32)) hx hb dX12_isSaid_69 (by decide) ?_
      refine lv_icmp_eq (tgt := 86) hx hb dX12_isSaid_71 (by decide) (fun c8 => ?_) (fun c8 => ?_)
      · have hF := op_t hF c8
        exact b_X12_isSaid_86 C hk4 hF hP hD hS (lv_sub hl [1, 2, 3, 4, 0] rfl)
      · have hF := op_f hF c8
        refine lv_aload_n hx hb dX12_isSaid_74 rfl (lv_at hl 1 rfl) ?_
        refine k_get (v := .ref (a0 7)) C fg_X12_33 hP 0 rfl rfl dX12_isSaid_75 ?_
        refine lv_iload hx hb dX12_isSaid_78 (lv_at hl 0 rfl) ?_
        obtain ⟨h9, hF⟩ := op_ck hF
        refine k_ild (f := S0.2.2.1 6) C hP 2 rfl h9 dX12_isSaid_80 ?_
        refine lv_bipush (v := (22 : Int32)) hx hb dX12_isSaid_81 (by decide) ?_
        refine lv_icmp_ne (tgt := 165) hx hb dX12_isSaid_83 (by decide) (fun c10 => ?_) (fun c10 => ?_)
        · have hF := op_f hF c10
          refine lv_aload_n hx hb dX12_isSaid_165 rfl (lv_at hl 1 rfl) ?_
          refine k_get (v := .ref (a0 48)) C fg_X12_95 hP 0 rfl rfl dX12_isSaid_166 ?_
          refine lv_iload_n hx hb dX12_isSaid_169 rfl (lv_at hl 3 rfl) ?_
          refine lv_aload_n hx hb dX12_isSaid_170 rfl (lv_at hl 1 rfl) ?_
          refine lv_iload_n hx hb dX12_isSaid_171 rfl (lv_at hl 2 rfl) ?_
          refine lv_aload_n hx hb dX12_isSaid_172 rfl (lv_at hl 1 rfl) ?_
          refine k_get (v := .ref (a0 7)) C fg_X12_33 hP 0 rfl rfl dX12_isSaid_173 ?_
          refine lv_iload hx hb dX12_isSaid_176 (lv_at hl 0 rfl) ?_
          obtain ⟨h11, hF⟩ := op_ck hF
          refine k_ild (f := S0.2.2.1 6) C hP 2 rfl h11 dX12_isSaid_178 ?_
          refine lv_aload_n hx hb dX12_isSaid_179 rfl (lv_at hl 1 rfl) ?_
          refine k_get (v := .ref (a0 7)) C fg_X12_33 hP 0 rfl rfl dX12_isSaid_180 ?_
          refine lv_iload hx hb dX12_isSaid_183 (lv_at hl 0 rfl) ?_
          refine lv_iconst (v := (1 : Int32)) hx hb dX12_isSaid_185 (by decide) ?_
          refine lv_iadd hx hb dX12_isSaid_186 ?_
          obtain ⟨h12, hF⟩ := op_ck hF
          refine k_ild (f := S0.2.2.1 6) C hP 2 rfl h12 dX12_isSaid_187 ?_
          refine lv_aload_n hx hb dX12_isSaid_188 rfl (lv_at hl 1 rfl) ?_
          refine k_get (v := .ref (a0 7)) C fg_X12_33 hP 0 rfl rfl dX12_isSaid_189 ?_
          refine lv_iload hx hb dX12_isSaid_192 (lv_at hl 0 rfl) ?_
          refine lv_iconst (v := (2 : Int32)) hx hb dX12_isSaid_194 (by decide) ?_
          refine lv_iadd hx hb dX12_isSaid_195 ?_
          obtain ⟨h13, hF⟩ := op_ck hF
          refine k_ild (f := S0.2.2.1 6) C hP 2 rfl h13 dX12_isSaid_196 ?_
          obtain ⟨r15, hc14, hF⟩ := ob1_s hF
          refine k_iall C (k_rV (As := [.int x1, .int (S0.2.2.1 6 ((78 : Int32) + ((3 : Int32) * x3)).toNatClampNeg), .int (S0.2.2.1 6 (((78 : Int32) + ((3 : Int32) * x3)) + (1 : Int32)).toNatClampNeg), .int (S0.2.2.1 6 (((78 : Int32) + ((3 : Int32) * x3)) + (2 : Int32)).toNatClampNeg)]) (rest := [.int x2, .ref (a0 48)]) C (c_X12_isLeaf l D q o0 a0 S0 _ x1 (S0.2.2.1 6 ((78 : Int32) + ((3 : Int32) * x3)).toNatClampNeg) (S0.2.2.1 6 (((78 : Int32) + ((3 : Int32) * x3)) + (1 : Int32)).toNatClampNeg) (S0.2.2.1 6 (((78 : Int32) + ((3 : Int32) * x3)) + (2 : Int32)).toNatClampNeg) hc14) kc_X12_isLeaf ml_X12_493 rfl rfl (by decide) hP hD hS (va_recv hK hP (ci := 12) (q0 := 0) rfl rfl) rfl hl.1 rfl (Nat.le_of_ble_eq_true rfl) dX12_isSaid_197 (by decide)) hP hD hS ((gad12 q o0 a0 S0).trans (gad12 q o0 a0 S0).symm) (fun H locs hP hD hS => ?_)
          obtain ⟨h16, hF⟩ := op_ck hF
          obtain ⟨U17, e18, hF⟩ := nw_s hF
          refine k_zst (f := S0.2.2.1 47) (W8 := g12 q o0 a0 U17) C hP hD hS 18 rfl h16 dX12_isSaid_200 (by rw [e18]; rfl) (fun H locs hP hD hS => ?_)
          refine lv_iinc (v := (x2 + 1)) (lv' := [(2, .int (x2 + 1)), (4, .int ((78 : Int32) + ((3 : Int32) * x3))), (0, .ref o0), (1, .int x1), (3, .int x3)]) hx hb dX12_isSaid_201 hl (k := 3) rfl rfl (by decide) rfl (fun ls hl => ?_)
          exact b_X12_isSaid_204 C hk4 hF hP hD hS (lv_sub hl [2, 3, 0, 4] rfl)
        · have hF := op_t hF c10
          exact b_X12_isSaid_86 C hk4 hF hP hD hS (lv_sub hl [1, 2, 3, 4, 0] rfl)
    · have hF := op_t hF c6
      refine lv_aload_n hx hb dX12_isSaid_35 rfl (lv_at hl 1 rfl) ?_
      refine k_get (v := .ref (a0 48)) C fg_X12_95 hP 0 rfl rfl dX12_isSaid_36 ?_
      refine lv_iload_n hx hb dX12_isSaid_39 rfl (lv_at hl 3 rfl) ?_
      refine lv_iconst (v := (1 : Int32)) hx hb dX12_isSaid_40 (by decide) ?_
      refine lv_isub hx hb dX12_isSaid_41 ?_
      refine lv_aload_n hx hb dX12_isSaid_42 rfl (lv_at hl 1 rfl) ?_
      refine k_get (v := .ref (a0 48)) C fg_X12_95 hP 0 rfl rfl dX12_isSaid_43 ?_
      refine lv_iload_n hx hb dX12_isSaid_46 rfl (lv_at hl 3 rfl) ?_
      refine lv_iconst (v := (1 : Int32)) hx hb dX12_isSaid_47 (by decide) ?_
      refine lv_isub hx hb dX12_isSaid_48 ?_
      obtain ⟨h19, hF⟩ := op_ck hF
      refine k_zld (f := S0.2.2.1 47) C hP 18 rfl h19 dX12_isSaid_49 ?_
      refine lv_if_ne (tgt := 57) hx hb dX12_isSaid_50 (by decide) (fun c20 => ?_) (fun c20 => ?_)
      · have hF := op_f hF c20
        refine lv_iconst (v := (0 : Int32)) hx hb dX12_isSaid_57 (by decide) ?_
        exact b_X12_isSaid_58 C hk4 hF hP hD hS (lv_sub hl [1, 2, 3, 4] rfl)
      · have hF := op_t hF c20
        refine lv_iconst (v := (1 : Int32)) hx hb dX12_isSaid_53 (by decide) ?_
        refine lv_goto (tgt := 58) hx hb dX12_isSaid_54 (by decide) ?_
        exact b_X12_isSaid_58 C hk4 hF hP hD hS (lv_sub hl [1, 2, 3, 4] rfl)
set_option maxRecDepth 100000 in
set_option maxHeartbeats 4000000 in
theorem l_X12_isSaid_4 {p : Program} {l : Launch} {e : Env} {s : State} {m : MethodId} {args : Array Value} {below : List Frame} {meth : Method} {c : Code} {D : va_G} {q : Nat → ClassId} {A : Nat → Prop} {o0 : Nat} {a0 : Nat → Nat} {r : Int32} {T0 : St} (C : cx p s m args meth c cX12_isSaid 5 (some .boolean) RX12 D q A) {x1 : Int32} {x2 : Int32} {x3 : Int32} {S0 : St} (hF : L_X12_isSaid_4 x1 x2 x3 S0 = some (r, T0)) : ∀ (H : Heap) (locs : List Loc) (ls : Array Slot), va_P D vwCl (g12 q o0 a0 S0) H → va_D A (g12 q o0 a0 S0) → va_S A s.heap H locs → lv_has ls 5 [(0, .ref o0), (1, .int x1), (2, .int x2), (3, .int x3)] → W p l e rm_X12_isSaid s m args below meth c H locs 0 0 (MQ below (QI D A r (g12 q o0 a0 T0)) args s 0 0 A) (F0 m 4 ls []) :=
  lp_G _ _ (fun z => ∀ (H : Heap) (locs : List Loc) (ls : Array Slot), va_P D vwCl (g12 q o0 a0 z.2.2.2) H → va_D A (g12 q o0 a0 z.2.2.2) → va_S A s.heap H locs → lv_has ls 5 [(0, .ref o0), (1, .int z.1), (2, .int z.2.1), (3, .int z.2.2.1)] → W p l e rm_X12_isSaid s m args below meth c H locs 0 0 (MQ below (QI D A r (g12 q o0 a0 T0)) args s 0 0 A) (F0 m 4 ls [])) (fun kz hkz z hz H locs ls hP hD hS hl => b_X12_isSaid_4 C (fun x1 x2 x3 S0 hz => hkz (x1, x2, x3, S0) hz) hz hP hD hS hl) FU (x1, x2, x3, S0) hF
set_option maxRecDepth 100000 in
set_option maxHeartbeats 4000000 in
theorem c_X12_isSaid (l : Launch) (D : va_G) (q : Nat → ClassId) (o0 : Nat) (a0 : Nat → Nat) (S0 : St) (sz : Nat) (x1 : Int32) {r : Int32} {T0 : St} (hF : F_X12_isSaid S0 x1 = some (r, T0)) : Met l yX12_isSaid (Cond.code yX12_isSaid cX12_isSaid 5 (some .boolean) :: TB) rm_X12_isSaid (PC D q [.ref o0, .int x1] (g12 q o0 a0 S0) sz) ((fun A => QI D A r (g12 q o0 a0 T0)) (va_A (g12 q o0 a0 S0) sz)) 0 0 (va_A (g12 q o0 a0 S0) sz) := by
  refine k_met (w0 := g12 q o0 a0 S0) (Q := fun A => QI D A r (g12 q o0 a0 T0)) (by decide +kernel) (Nat.le_of_ble_eq_true rfl) ?_
  intro p e s m args below meth c A ls C hP hD hS hl
  have hl : lv_has ls 5 [(0, .ref o0), (1, .int x1)] := hl
  unfold F_X12_isSaid at hF
  have C : cx p s m args meth c cX12_isSaid 5 (some .boolean) RX12 D q A := C
  obtain ⟨hx, hb, hr, hml, hown, hts, hlk, hA, hK, hN, hV⟩ := id C
  refine lv_iconst (v := (0 : Int32)) hx hb dX12_isSaid_0 (by decide) ?_
  refine lv_istore_n (lv' := [(2, .int (0 : Int32)), (0, .ref o0), (1, .int x1)]) hx hb dX12_isSaid_1 rfl hl (by decide) rfl (fun ls hl => ?_)
  refine lv_iconst (v := (0 : Int32)) hx hb dX12_isSaid_2 (by decide) ?_
  refine lv_istore_n (lv' := [(3, .int (0 : Int32)), (2, .int (0 : Int32)), (0, .ref o0), (1, .int x1)]) hx hb dX12_isSaid_3 rfl hl (by decide) rfl (fun ls hl => ?_)
  exact l_X12_isSaid_4 C hF _ _ _ hP hD hS (lv_sub hl [2, 3, 1, 0] rfl)

abbrev rm_X12_said : Room := ({ frames := 3, cells := 0, slots := 0, locals := 71 } : Room)
def F_X12_said_57 (k26 : Int32 × Int32 × Int32 × St → Option (Int32 × St)) (x1 : Int32) (x2 : Int32) (x3 : Int32) (S0 : St) : Option (Int32 × St) := k26 (x1, x2, (x3 + 1), S0)
def F_X12_said_26 (k26 : Int32 × Int32 × Int32 × St → Option (Int32 × St)) (x1 : Int32) (x2 : Int32) (x3 : Int32) (S0 : St) : Option (Int32 × St) := if oob (1 : Int32) 258 then none else if (S0.2.2.1 6 (1 : Int32).toNatClampNeg) ≤ x3 then (if x1 = (-1 : Int32) then (some (x2, S0)) else (some ((-1 : Int32), S0))) else (ob2 (F_X12_isSaid S0 x3) fun r5 U6 => if r5 = 0 then (F_X12_said_57 k26 x1 x2 x3 U6) else (if x2 = x1 then (some (x3, U6)) else (F_X12_said_57 k26 x1 (x2 + 1) x3 U6)))
def L_X12_said_26 (x1 : Int32) (x2 : Int32) (x3 : Int32) (S0 : St) : Option (Int32 × St) := lp (fun kz z => F_X12_said_26 kz z.1 z.2.1 z.2.2.1 z.2.2.2) FU (x1, x2, x3, S0)
def F_X12_said (S0 : St) (x1 : Int32) : Option (Int32 × St) := nw (sI S0 0 (0 : Int32)) fun U1 => if oob (77 : Int32) 258 then none else if (U1.2.2.1 6 (77 : Int32).toNatClampNeg) = 0 then (some ((-1 : Int32), U1)) else (if (-1 : Int32) ≤ x1 then (L_X12_said_26 x1 (0 : Int32) (0 : Int32) U1) else (some ((-1 : Int32), U1)))
set_option maxRecDepth 100000 in
set_option maxHeartbeats 4000000 in
theorem b_X12_said_57 {p : Program} {l : Launch} {e : Env} {s : State} {m : MethodId} {args : Array Value} {below : List Frame} {meth : Method} {c : Code} {D : va_G} {q : Nat → ClassId} {A : Nat → Prop} {o0 : Nat} {a0 : Nat → Nat} {r : Int32} {T0 : St} (C : cx p s m args meth c cX12_said 4 (some .int) RX12 D q A) {k26 : Int32 × Int32 × Int32 × St → Option (Int32 × St)} (hk26 : ∀ (x1 : Int32) (x2 : Int32) (x3 : Int32) (S0 : St), k26 (x1, x2, x3, S0) = some (r, T0) → ∀ (H : Heap) (locs : List Loc) (ls : Array Slot), va_P D vwCl (g12 q o0 a0 S0) H → va_D A (g12 q o0 a0 S0) → va_S A s.heap H locs → lv_has ls 4 [(0, .ref o0), (1, .int x1), (2, .int x2), (3, .int x3)] → W p l e rm_X12_said s m args below meth c H locs 0 0 (MQ below (QI D A r (g12 q o0 a0 T0)) args s 0 0 A) (F0 m 26 ls [])) {x1 : Int32} {x2 : Int32} {x3 : Int32} {S0 : St} (hF : F_X12_said_57 k26 x1 x2 x3 S0 = some (r, T0)) {H : Heap} {locs : List Loc} (hP : va_P D vwCl (g12 q o0 a0 S0) H) (hD : va_D A (g12 q o0 a0 S0)) (hS : va_S A s.heap H locs) {ls : Array Slot} (hl : lv_has ls 4 [(0, .ref o0), (1, .int x1), (2, .int x2), (3, .int x3)]) : W p l e rm_X12_said s m args below meth c H locs 0 0 (MQ below (QI D A r (g12 q o0 a0 T0)) args s 0 0 A) (F0 m 57 ls []) := by
  unfold F_X12_said_57 at hF
  obtain ⟨hx, hb, hr, hml, hown, hts, hlk, hA, hK, hN, hV⟩ := id C
  refine lv_iinc (v := (x3 + 1)) (lv' := [(3, .int (x3 + 1)), (0, .ref o0), (1, .int x1), (2, .int x2)]) hx hb dX12_said_57 hl (k := 3) rfl rfl (by decide) rfl (fun ls hl => ?_)
  refine lv_goto (tgt := 26) hx hb dX12_said_60 (by decide) ?_
  exact hk26 x1 x2 (x3 + 1) S0 hF _ _ _ hP hD hS (lv_sub hl [1, 2, 3, 0] rfl)
set_option maxRecDepth 100000 in
set_option maxHeartbeats 4000000 in
theorem b_X12_said_26 {p : Program} {l : Launch} {e : Env} {s : State} {m : MethodId} {args : Array Value} {below : List Frame} {meth : Method} {c : Code} {D : va_G} {q : Nat → ClassId} {A : Nat → Prop} {o0 : Nat} {a0 : Nat → Nat} {r : Int32} {T0 : St} (C : cx p s m args meth c cX12_said 4 (some .int) RX12 D q A) {k26 : Int32 × Int32 × Int32 × St → Option (Int32 × St)} (hk26 : ∀ (x1 : Int32) (x2 : Int32) (x3 : Int32) (S0 : St), k26 (x1, x2, x3, S0) = some (r, T0) → ∀ (H : Heap) (locs : List Loc) (ls : Array Slot), va_P D vwCl (g12 q o0 a0 S0) H → va_D A (g12 q o0 a0 S0) → va_S A s.heap H locs → lv_has ls 4 [(0, .ref o0), (1, .int x1), (2, .int x2), (3, .int x3)] → W p l e rm_X12_said s m args below meth c H locs 0 0 (MQ below (QI D A r (g12 q o0 a0 T0)) args s 0 0 A) (F0 m 26 ls [])) {x1 : Int32} {x2 : Int32} {x3 : Int32} {S0 : St} (hF : F_X12_said_26 k26 x1 x2 x3 S0 = some (r, T0)) {H : Heap} {locs : List Loc} (hP : va_P D vwCl (g12 q o0 a0 S0) H) (hD : va_D A (g12 q o0 a0 S0)) (hS : va_S A s.heap H locs) {ls : Array Slot} (hl : lv_has ls 4 [(0, .ref o0), (1, .int x1), (2, .int x2), (3, .int x3)]) : W p l e rm_X12_said s m args below meth c H locs 0 0 (MQ below (QI D A r (g12 q o0 a0 T0)) args s 0 0 A) (F0 m 26 ls []) := by
  unfold F_X12_said_26 at hF
  obtain ⟨hx, hb, hr, hml, hown, hts, hlk, hA, hK, hN, hV⟩ := id C
  refine lv_iload_n hx hb dX12_said_26 rfl (lv_at hl 3 rfl) ?_
  refine lv_aload_n hx hb dX12_said_27 rfl (lv_at hl 0 rfl) ?_
  refine k_get (v := .ref (a0 7)) C fg_X12_33 hP 0 rfl rfl dX12_said_28 ?_
  refine lv_iconst (v := (1 : Int32)) hx hb dX12_said_31 (by decide) ?_
  obtain ⟨h1, hF⟩ := op_ck hF
  refine k_ild (f := S0.2.2.1 6) C hP 2 rfl h1 dX12_said_32 ?_
  refine lv_icmp_ge (tgt := 63) hx hb dX12_said_33 (by decide) (fun c2 => ?_) (fun c2 => ?_)
  · have hF := op_t hF c2
    refine lv_iload_n hx hb dX12_said_63 rfl (lv_at hl 1 rfl) ?_
    refine lv_iconst (v := (-1 : Int32)) hx hb dX12_said_64 (by decide) ?_
    refine lv_icmp_ne (tgt := 72) hx hb dX12_said_65 (by decide) (fun c3 => ?_) (fun c3 => ?_)
    · have hF := op_f hF c3
      refine lv_iconst (v := (-1 : Int32)) hx hb dX12_said_72 (by decide) ?_
      cases hF
      exact k_iret C hP hS dX12_said_73
    · have hF := op_t hF c3
      refine lv_iload_n hx hb dX12_said_68 rfl (lv_at hl 2 rfl) ?_
      refine lv_goto (tgt := 73) hx hb dX12_said_69 (by decide) ?_
      cases hF
      exact k_iret C hP hS dX12_said_73
  · have hF := op_f hF c2
    refine lv_aload_n hx hb dX12_said_36 rfl (lv_at hl 0 rfl) ?_
    refine lv_iload_n hx hb dX12_said_37 rfl (lv_at hl 3 rfl) ?_
    obtain ⟨r5, U6, hc4, hF⟩ := ob2_s hF
    refine k_iall C (k_rV (As := [.int x3]) (rest := []) C (c_X12_isSaid l D q o0 a0 S0 _ x3 hc4) kc_X12_isSaid ml_X12_497 rfl rfl (by decide) hP hD hS (va_recv hK hP (ci := 12) (q0 := 0) rfl rfl) rfl hl.1 rfl (Nat.le_of_ble_eq_true rfl) dX12_said_38 (by decide)) hP hD hS ((gad12 q o0 a0 U6).trans (gad12 q o0 a0 S0).symm) (fun H locs hP hD hS => ?_)
    refine lv_if_ne (tgt := 47) hx hb dX12_said_41 (by decide) (fun c7 => ?_) (fun c7 => ?_)
    · have hF := op_f hF c7
      refine lv_iload_n hx hb dX12_said_47 rfl (lv_at hl 2 rfl) ?_
      refine lv_iload_n hx hb dX12_said_48 rfl (lv_at hl 1 rfl) ?_
      refine lv_icmp_ne (tgt := 54) hx hb dX12_said_49 (by decide) (fun c8 => ?_) (fun c8 => ?_)
      · have hF := op_f hF c8
        refine lv_iinc (v := (x2 + 1)) (lv' := [(2, .int (x2 + 1)), (0, .ref o0), (1, .int x1), (3, .int x3)]) hx hb dX12_said_54 hl (k := 2) rfl rfl (by decide) rfl (fun ls hl => ?_)
        exact b_X12_said_57 C hk26 hF hP hD hS (lv_sub hl [1, 2, 0, 3] rfl)
      · have hF := op_t hF c8
        refine lv_iload_n hx hb dX12_said_52 rfl (lv_at hl 3 rfl) ?_
        cases hF
        exact k_iret C hP hS dX12_said_53
    · have hF := op_t hF c7
      refine lv_goto (tgt := 57) hx hb dX12_said_44 (by decide) ?_
      exact b_X12_said_57 C hk26 hF hP hD hS (lv_sub hl [0, 1, 2, 3] rfl)
set_option maxRecDepth 100000 in
set_option maxHeartbeats 4000000 in
theorem l_X12_said_26 {p : Program} {l : Launch} {e : Env} {s : State} {m : MethodId} {args : Array Value} {below : List Frame} {meth : Method} {c : Code} {D : va_G} {q : Nat → ClassId} {A : Nat → Prop} {o0 : Nat} {a0 : Nat → Nat} {r : Int32} {T0 : St} (C : cx p s m args meth c cX12_said 4 (some .int) RX12 D q A) {x1 : Int32} {x2 : Int32} {x3 : Int32} {S0 : St} (hF : L_X12_said_26 x1 x2 x3 S0 = some (r, T0)) : ∀ (H : Heap) (locs : List Loc) (ls : Array Slot), va_P D vwCl (g12 q o0 a0 S0) H → va_D A (g12 q o0 a0 S0) → va_S A s.heap H locs → lv_has ls 4 [(0, .ref o0), (1, .int x1), (2, .int x2), (3, .int x3)] → W p l e rm_X12_said s m args below meth c H locs 0 0 (MQ below (QI D A r (g12 q o0 a0 T0)) args s 0 0 A) (F0 m 26 ls []) :=
  lp_G _ _ (fun z => ∀ (H : Heap) (locs : List Loc) (ls : Array Slot), va_P D vwCl (g12 q o0 a0 z.2.2.2) H → va_D A (g12 q o0 a0 z.2.2.2) → va_S A s.heap H locs → lv_has ls 4 [(0, .ref o0), (1, .int z.1), (2, .int z.2.1), (3, .int z.2.2.1)] → W p l e rm_X12_said s m args below meth c H locs 0 0 (MQ below (QI D A r (g12 q o0 a0 T0)) args s 0 0 A) (F0 m 26 ls [])) (fun kz hkz z hz H locs ls hP hD hS hl => b_X12_said_26 C (fun x1 x2 x3 S0 hz => hkz (x1, x2, x3, S0) hz) hz hP hD hS hl) FU (x1, x2, x3, S0) hF
set_option maxRecDepth 100000 in
set_option maxHeartbeats 4000000 in
theorem c_X12_said (l : Launch) (D : va_G) (q : Nat → ClassId) (o0 : Nat) (a0 : Nat → Nat) (S0 : St) (sz : Nat) (x1 : Int32) {r : Int32} {T0 : St} (hF : F_X12_said S0 x1 = some (r, T0)) : Met l yX12_said (Cond.code yX12_said cX12_said 4 (some .int) :: TB) rm_X12_said (PC D q [.ref o0, .int x1] (g12 q o0 a0 S0) sz) ((fun A => QI D A r (g12 q o0 a0 T0)) (va_A (g12 q o0 a0 S0) sz)) 0 0 (va_A (g12 q o0 a0 S0) sz) := by
  refine k_met (w0 := g12 q o0 a0 S0) (Q := fun A => QI D A r (g12 q o0 a0 T0)) (by decide +kernel) (Nat.le_of_ble_eq_true rfl) ?_
  intro p e s m args below meth c A ls C hP hD hS hl
  have hl : lv_has ls 4 [(0, .ref o0), (1, .int x1)] := hl
  unfold F_X12_said at hF
  have C : cx p s m args meth c cX12_said 4 (some .int) RX12 D q A := C
  obtain ⟨hx, hb, hr, hml, hown, hts, hlk, hA, hK, hN, hV⟩ := id C
  refine lv_aload_n hx hb dX12_said_0 rfl (lv_at hl 0 rfl) ?_
  refine lv_iconst (v := (0 : Int32)) hx hb dX12_said_1 (by decide) ?_
  obtain ⟨U1, e2, hF⟩ := nw_s hF
  refine k_put (W8 := g12 q o0 a0 U1) C fp_X12_1 hP hD hS 0 rfl rfl rfl (Nat.le_of_ble_eq_true rfl) dX12_said_2 (by rw [e2]; rfl) (fun H locs hP hD hS => ?_)
  refine lv_aload_n hx hb dX12_said_5 rfl (lv_at hl 0 rfl) ?_
  refine k_get (v := .ref (a0 7)) C fg_X12_33 hP 0 rfl rfl dX12_said_6 ?_
  refine lv_bipush (v := (77 : Int32)) hx hb dX12_said_9 (by decide) ?_
  obtain ⟨h3, hF⟩ := op_ck hF
  refine k_ild (f := U1.2.2.1 6) C hP 2 rfl h3 dX12_said_11 ?_
  refine lv_if_eq (tgt := 20) hx hb dX12_said_12 (by decide) (fun c4 => ?_) (fun c4 => ?_)
  · have hF := op_t hF c4
    refine lv_iconst (v := (-1 : Int32)) hx hb dX12_said_20 (by decide) ?_
    cases hF
    exact k_iret C hP hS dX12_said_21
  · have hF := op_f hF c4
    refine lv_iload_n hx hb dX12_said_15 rfl (lv_at hl 1 rfl) ?_
    refine lv_iconst (v := (-1 : Int32)) hx hb dX12_said_16 (by decide) ?_
    refine lv_icmp_ge (tgt := 22) hx hb dX12_said_17 (by decide) (fun c5 => ?_) (fun c5 => ?_)
    · have hF := op_t hF c5
      refine lv_iconst (v := (0 : Int32)) hx hb dX12_said_22 (by decide) ?_
      refine lv_istore_n (lv' := [(2, .int (0 : Int32)), (0, .ref o0), (1, .int x1)]) hx hb dX12_said_23 rfl hl (by decide) rfl (fun ls hl => ?_)
      refine lv_iconst (v := (0 : Int32)) hx hb dX12_said_24 (by decide) ?_
      refine lv_istore_n (lv' := [(3, .int (0 : Int32)), (2, .int (0 : Int32)), (0, .ref o0), (1, .int x1)]) hx hb dX12_said_25 rfl hl (by decide) rfl (fun ls hl => ?_)
      exact l_X12_said_26 C hF _ _ _ hP hD hS (lv_sub hl [2, 3, 1, 0] rfl)
    · have hF := op_f hF c5
      refine lv_iconst (v := (-1 : Int32)) hx hb dX12_said_20 (by decide) ?_
      cases hF
      exact k_iret C hP hS dX12_said_21

abbrev rm_X12_image : Room := ({ frames := 1, cells := 0, slots := 0, locals := 22 } : Room)
def F_X12_image_51 (k51 : Int32 × Int32 × St → Option (Int32 × St)) (x1 : Int32) (x2 : Int32) (S0 : St) : Option (Int32 × St) := if (13 : Int32) ≤ x2 then (if oob x1 2 then none else nw (sA S0 50 x1 (vp_nar .boolean (1 : Int32))) fun U3 => some ((1 : Int32), U3)) else (if oob x2 26 then none else if oob (((13 : Int32) * x1) + x2) 26 then none else nw (sJ S0 49 (((13 : Int32) * x1) + x2) (S0.2.2.2 9 x2.toNatClampNeg)) fun U7 => k51 (x1, (x2 + 1), U7))
def L_X12_image_51 (x1 : Int32) (x2 : Int32) (S0 : St) : Option (Int32 × St) := lp (fun kz z => F_X12_image_51 kz z.1 z.2.1 z.2.2) FU (x1, x2, S0)
def F_X12_image_18 (k18 : Int32 × Int32 × St → Option (Int32 × St)) (x1 : Int32) (x2 : Int32) (S0 : St) : Option (Int32 × St) := if (258 : Int32) ≤ x2 then (L_X12_image_51 x1 (0 : Int32) S0) else (if oob x2 258 then none else if oob (((258 : Int32) * x1) + x2) 516 then none else nw (sA S0 48 (((258 : Int32) * x1) + x2) (S0.2.2.1 6 x2.toNatClampNeg)) fun U4 => k18 (x1, (x2 + 1), U4))
def L_X12_image_18 (x1 : Int32) (x2 : Int32) (S0 : St) : Option (Int32 × St) := lp (fun kz z => F_X12_image_18 kz z.1 z.2.1 z.2.2) FU (x1, x2, S0)
def F_X12_image (S0 : St) (x1 : Int32) : Option (Int32 × St) := nw (sI S0 0 (0 : Int32)) fun U1 => ob1 (F_X12_isIn x1 (0 : Int32) (1 : Int32)) fun r4 => if r4 = 0 then (some ((0 : Int32), U1)) else (L_X12_image_18 x1 (0 : Int32) U1)
set_option maxRecDepth 100000 in
set_option maxHeartbeats 4000000 in
theorem b_X12_image_51 {p : Program} {l : Launch} {e : Env} {s : State} {m : MethodId} {args : Array Value} {below : List Frame} {meth : Method} {c : Code} {D : va_G} {q : Nat → ClassId} {A : Nat → Prop} {o0 : Nat} {a0 : Nat → Nat} {r : Int32} {T0 : St} (C : cx p s m args meth c cX12_image 3 (some .boolean) RX12 D q A) {k51 : Int32 × Int32 × St → Option (Int32 × St)} (hk51 : ∀ (x1 : Int32) (x2 : Int32) (S0 : St), k51 (x1, x2, S0) = some (r, T0) → ∀ (H : Heap) (locs : List Loc) (ls : Array Slot), va_P D vwCl (g12 q o0 a0 S0) H → va_D A (g12 q o0 a0 S0) → va_S A s.heap H locs → lv_has ls 3 [(0, .ref o0), (1, .int x1), (2, .int x2)] → W p l e rm_X12_image s m args below meth c H locs 0 0 (MQ below (QI D A r (g12 q o0 a0 T0)) args s 0 0 A) (F0 m 51 ls [])) {x1 : Int32} {x2 : Int32} {S0 : St} (hF : F_X12_image_51 k51 x1 x2 S0 = some (r, T0)) {H : Heap} {locs : List Loc} (hP : va_P D vwCl (g12 q o0 a0 S0) H) (hD : va_D A (g12 q o0 a0 S0)) (hS : va_S A s.heap H locs) {ls : Array Slot} (hl : lv_has ls 3 [(0, .ref o0), (1, .int x1), (2, .int x2)]) : W p l e rm_X12_image s m args below meth c H locs 0 0 (MQ below (QI D A r (g12 q o0 a0 T0)) args s 0 0 A) (F0 m 51 ls []) := by
  unfold F_X12_image_51 at hF
  obtain ⟨hx, hb, hr, hml, hown, hts, hlk, hA, hK, hN, hV⟩ := id C
  refine lv_iload_n hx hb dX12_image_51 rfl (lv_at hl 2 rfl) ?_
  refine lv_bipush (v := (13 : Int32)) hx hb dX12_image_52 (by decide) ?_
  refine lv_icmp_ge (tgt := 80) hx hb dX12_image_54 (by decide) (fun c1 => ?_) (fun c1 => ?_)
  · have hF := op_t hF c1
    refine lv_aload_n hx hb dX12_image_80 rfl (lv_at hl 0 rfl) ?_
    refine k_get (v := .ref (a0 51)) C fg_X12_105 hP 0 rfl rfl dX12_image_81 ?_
    refine lv_iload_n hx hb dX12_image_84 rfl (lv_at hl 1 rfl) ?_
    refine lv_iconst (v := (1 : Int32)) hx hb dX12_image_85 (by decide) ?_
    obtain ⟨h2, hF⟩ := op_ck hF
    obtain ⟨U3, e4, hF⟩ := nw_s hF
    refine k_zst (f := S0.2.2.1 50) (W8 := g12 q o0 a0 U3) C hP hD hS 21 rfl h2 dX12_image_86 (by rw [e4]; rfl) (fun H locs hP hD hS => ?_)
    refine lv_iconst (v := (1 : Int32)) hx hb dX12_image_87 (by decide) ?_
    cases hF
    exact k_zret C (by decide) hP hS dX12_image_88
  · have hF := op_f hF c1
    refine lv_aload_n hx hb dX12_image_57 rfl (lv_at hl 0 rfl) ?_
    refine k_get (v := .ref (a0 50)) C fg_X12_102 hP 0 rfl rfl dX12_image_58 ?_
    refine lv_bipush (v := (13 : Int32)) hx hb dX12_image_61 (by decide) ?_
    refine lv_iload_n hx hb dX12_image_63 rfl (lv_at hl 1 rfl) ?_
    refine lv_imul hx hb dX12_image_64 ?_
    refine lv_iload_n hx hb dX12_image_65 rfl (lv_at hl 2 rfl) ?_
    refine lv_iadd hx hb dX12_image_66 ?_
    refine lv_aload_n hx hb dX12_image_67 rfl (lv_at hl 0 rfl) ?_
    refine k_get (v := .ref (a0 10)) C fg_X12_43 hP 0 rfl rfl dX12_image_68 ?_
    refine lv_iload_n hx hb dX12_image_71 rfl (lv_at hl 2 rfl) ?_
    obtain ⟨h5, hF⟩ := op_ck hF
    refine k_lld (f := S0.2.2.2 9) C hP 5 rfl h5 dX12_image_72 ?_
    obtain ⟨h6, hF⟩ := op_ck hF
    obtain ⟨U7, e8, hF⟩ := nw_s hF
    refine k_lst (f := S0.2.2.2 49) (W8 := g12 q o0 a0 U7) C hP hD hS 20 rfl h6 dX12_image_73 (by rw [e8]; rfl) (fun H locs hP hD hS => ?_)
    refine lv_iinc (v := (x2 + 1)) (lv' := [(2, .int (x2 + 1)), (0, .ref o0), (1, .int x1)]) hx hb dX12_image_74 hl (k := 2) rfl rfl (by decide) rfl (fun ls hl => ?_)
    refine lv_goto (tgt := 51) hx hb dX12_image_77 (by decide) ?_
    exact hk51 x1 (x2 + 1) U7 hF _ _ _ hP hD hS (lv_sub hl [1, 2, 0] rfl)
set_option maxRecDepth 100000 in
set_option maxHeartbeats 4000000 in
theorem l_X12_image_51 {p : Program} {l : Launch} {e : Env} {s : State} {m : MethodId} {args : Array Value} {below : List Frame} {meth : Method} {c : Code} {D : va_G} {q : Nat → ClassId} {A : Nat → Prop} {o0 : Nat} {a0 : Nat → Nat} {r : Int32} {T0 : St} (C : cx p s m args meth c cX12_image 3 (some .boolean) RX12 D q A) {x1 : Int32} {x2 : Int32} {S0 : St} (hF : L_X12_image_51 x1 x2 S0 = some (r, T0)) : ∀ (H : Heap) (locs : List Loc) (ls : Array Slot), va_P D vwCl (g12 q o0 a0 S0) H → va_D A (g12 q o0 a0 S0) → va_S A s.heap H locs → lv_has ls 3 [(0, .ref o0), (1, .int x1), (2, .int x2)] → W p l e rm_X12_image s m args below meth c H locs 0 0 (MQ below (QI D A r (g12 q o0 a0 T0)) args s 0 0 A) (F0 m 51 ls []) :=
  lp_G _ _ (fun z => ∀ (H : Heap) (locs : List Loc) (ls : Array Slot), va_P D vwCl (g12 q o0 a0 z.2.2) H → va_D A (g12 q o0 a0 z.2.2) → va_S A s.heap H locs → lv_has ls 3 [(0, .ref o0), (1, .int z.1), (2, .int z.2.1)] → W p l e rm_X12_image s m args below meth c H locs 0 0 (MQ below (QI D A r (g12 q o0 a0 T0)) args s 0 0 A) (F0 m 51 ls [])) (fun kz hkz z hz H locs ls hP hD hS hl => b_X12_image_51 C (fun x1 x2 S0 hz => hkz (x1, x2, S0) hz) hz hP hD hS hl) FU (x1, x2, S0) hF
set_option maxRecDepth 100000 in
set_option maxHeartbeats 4000000 in
theorem b_X12_image_18 {p : Program} {l : Launch} {e : Env} {s : State} {m : MethodId} {args : Array Value} {below : List Frame} {meth : Method} {c : Code} {D : va_G} {q : Nat → ClassId} {A : Nat → Prop} {o0 : Nat} {a0 : Nat → Nat} {r : Int32} {T0 : St} (C : cx p s m args meth c cX12_image 3 (some .boolean) RX12 D q A) {k18 : Int32 × Int32 × St → Option (Int32 × St)} (hk18 : ∀ (x1 : Int32) (x2 : Int32) (S0 : St), k18 (x1, x2, S0) = some (r, T0) → ∀ (H : Heap) (locs : List Loc) (ls : Array Slot), va_P D vwCl (g12 q o0 a0 S0) H → va_D A (g12 q o0 a0 S0) → va_S A s.heap H locs → lv_has ls 3 [(0, .ref o0), (1, .int x1), (2, .int x2)] → W p l e rm_X12_image s m args below meth c H locs 0 0 (MQ below (QI D A r (g12 q o0 a0 T0)) args s 0 0 A) (F0 m 18 ls [])) {x1 : Int32} {x2 : Int32} {S0 : St} (hF : F_X12_image_18 k18 x1 x2 S0 = some (r, T0)) {H : Heap} {locs : List Loc} (hP : va_P D vwCl (g12 q o0 a0 S0) H) (hD : va_D A (g12 q o0 a0 S0)) (hS : va_S A s.heap H locs) {ls : Array Slot} (hl : lv_has ls 3 [(0, .ref o0), (1, .int x1), (2, .int x2)]) : W p l e rm_X12_image s m args below meth c H locs 0 0 (MQ below (QI D A r (g12 q o0 a0 T0)) args s 0 0 A) (F0 m 18 ls []) := by
  unfold F_X12_image_18 at hF
  obtain ⟨hx, hb, hr, hml, hown, hts, hlk, hA, hK, hN, hV⟩ := id C
  refine lv_iload_n hx hb dX12_image_18 rfl (lv_at hl 2 rfl) ?_
  refine lv_sipush (v := (258 : Int32)) hx hb dX12_image_19 (by decide) ?_
  refine lv_icmp_ge (tgt := 49) hx hb dX12_image_22 (by decide) (fun c1 => ?_) (fun c1 => ?_)
  · have hF := op_t hF c1
    refine lv_iconst (v := (0 : Int32)) hx hb dX12_image_49 (by decide) ?_
    refine lv_istore_n (lv' := [(2, .int (0 : Int32)), (0, .ref o0), (1, .int x1)]) hx hb dX12_image_50 rfl hl (by decide) rfl (fun ls hl => ?_)
    exact l_X12_image_51 C hF _ _ _ hP hD hS (lv_sub hl [1, 2, 0] rfl)
  · have hF := op_f hF c1
    refine lv_aload_n hx hb dX12_image_25 rfl (lv_at hl 0 rfl) ?_
    refine k_get (v := .ref (a0 49)) C fg_X12_99 hP 0 rfl rfl dX12_image_26 ?_
    refine lv_sipush (v := (258 : Int32)) hx hb dX12_image_29 (by decide) ?_
    refine lv_iload_n hx hb dX12_image_32 rfl (lv_at hl 1 rfl) ?_
    refine lv_imul hx hb dX12_image_33 ?_
    refine lv_iload_n hx hb dX12_image_34 rfl (lv_at hl 2 rfl) ?_
    refine lv_iadd hx hb dX12_image_35 ?_
    refine lv_aload_n hx hb dX12_image_36 rfl (lv_at hl 0 rfl) ?_
    refine k_get (v := .ref (a0 7)) C fg_X12_33 hP 0 rfl rfl dX12_image_37 ?_
    refine lv_iload_n hx hb dX12_image_40 rfl (lv_at hl 2 rfl) ?_
    obtain ⟨h2, hF⟩ := op_ck hF
    refine k_ild (f := S0.2.2.1 6) C hP 2 rfl h2 dX12_image_41 ?_
    obtain ⟨h3, hF⟩ := op_ck hF
    obtain ⟨U4, e5, hF⟩ := nw_s hF
    refine k_ist (f := S0.2.2.1 48) (W8 := g12 q o0 a0 U4) C hP hD hS 19 rfl h3 dX12_image_42 (by rw [e5]; rfl) (fun H locs hP hD hS => ?_)
    refine lv_iinc (v := (x2 + 1)) (lv' := [(2, .int (x2 + 1)), (0, .ref o0), (1, .int x1)]) hx hb dX12_image_43 hl (k := 2) rfl rfl (by decide) rfl (fun ls hl => ?_)
    refine lv_goto (tgt := 18) hx hb dX12_image_46 (by decide) ?_
    exact hk18 x1 (x2 + 1) U4 hF _ _ _ hP hD hS (lv_sub hl [1, 2, 0] rfl)
set_option maxRecDepth 100000 in
set_option maxHeartbeats 4000000 in
theorem l_X12_image_18 {p : Program} {l : Launch} {e : Env} {s : State} {m : MethodId} {args : Array Value} {below : List Frame} {meth : Method} {c : Code} {D : va_G} {q : Nat → ClassId} {A : Nat → Prop} {o0 : Nat} {a0 : Nat → Nat} {r : Int32} {T0 : St} (C : cx p s m args meth c cX12_image 3 (some .boolean) RX12 D q A) {x1 : Int32} {x2 : Int32} {S0 : St} (hF : L_X12_image_18 x1 x2 S0 = some (r, T0)) : ∀ (H : Heap) (locs : List Loc) (ls : Array Slot), va_P D vwCl (g12 q o0 a0 S0) H → va_D A (g12 q o0 a0 S0) → va_S A s.heap H locs → lv_has ls 3 [(0, .ref o0), (1, .int x1), (2, .int x2)] → W p l e rm_X12_image s m args below meth c H locs 0 0 (MQ below (QI D A r (g12 q o0 a0 T0)) args s 0 0 A) (F0 m 18 ls []) :=
  lp_G _ _ (fun z => ∀ (H : Heap) (locs : List Loc) (ls : Array Slot), va_P D vwCl (g12 q o0 a0 z.2.2) H → va_D A (g12 q o0 a0 z.2.2) → va_S A s.heap H locs → lv_has ls 3 [(0, .ref o0), (1, .int z.1), (2, .int z.2.1)] → W p l e rm_X12_image s m args below meth c H locs 0 0 (MQ below (QI D A r (g12 q o0 a0 T0)) args s 0 0 A) (F0 m 18 ls [])) (fun kz hkz z hz H locs ls hP hD hS hl => b_X12_image_18 C (fun x1 x2 S0 hz => hkz (x1, x2, S0) hz) hz hP hD hS hl) FU (x1, x2, S0) hF
set_option maxRecDepth 100000 in
set_option maxHeartbeats 4000000 in
theorem c_X12_image (l : Launch) (D : va_G) (q : Nat → ClassId) (o0 : Nat) (a0 : Nat → Nat) (S0 : St) (sz : Nat) (x1 : Int32) {r : Int32} {T0 : St} (hF : F_X12_image S0 x1 = some (r, T0)) : Met l yX12_image (Cond.code yX12_image cX12_image 3 (some .boolean) :: TB) rm_X12_image (PC D q [.ref o0, .int x1] (g12 q o0 a0 S0) sz) ((fun A => QI D A r (g12 q o0 a0 T0)) (va_A (g12 q o0 a0 S0) sz)) 0 0 (va_A (g12 q o0 a0 S0) sz) := by
  refine k_met (w0 := g12 q o0 a0 S0) (Q := fun A => QI D A r (g12 q o0 a0 T0)) (by decide +kernel) (Nat.le_of_ble_eq_true rfl) ?_
  intro p e s m args below meth c A ls C hP hD hS hl
  have hl : lv_has ls 3 [(0, .ref o0), (1, .int x1)] := hl
  unfold F_X12_image at hF
  have C : cx p s m args meth c cX12_image 3 (some .boolean) RX12 D q A := C
  obtain ⟨hx, hb, hr, hml, hown, hts, hlk, hA, hK, hN, hV⟩ := id C
  refine lv_aload_n hx hb dX12_image_0 rfl (lv_at hl 0 rfl) ?_
  refine lv_iconst (v := (0 : Int32)) hx hb dX12_image_1 (by decide) ?_
  obtain ⟨U1, e2, hF⟩ := nw_s hF
  refine k_put (W8 := g12 q o0 a0 U1) C fp_X12_1 hP hD hS 0 rfl rfl rfl (Nat.le_of_ble_eq_true rfl) dX12_image_2 (by rw [e2]; rfl) (fun H locs hP hD hS => ?_)
  refine lv_iload_n hx hb dX12_image_5 rfl (lv_at hl 1 rfl) ?_
  refine lv_iconst (v := (0 : Int32)) hx hb dX12_image_6 (by decide) ?_
  refine lv_iconst (v := (1 : Int32)) hx hb dX12_image_7 (by decide) ?_
  obtain ⟨r4, hc3, hF⟩ := ob1_s hF
  refine k_inil C (k_rS (As := [.int x1, .int (0 : Int32), .int (1 : Int32)]) (rest := []) C (c_X12_isIn l D q _ x1 (0 : Int32) (1 : Int32) hc3) kc_X12_isIn ml_X12_225 rfl rfl (by decide) (fun k x h => by simp at h) (⟨fun i j x y h => by simp at h, fun k x h => by simp at h⟩ : va_D A []) hS rfl hl.1 rfl (Nat.le_of_ble_eq_true rfl) dX12_image_8 (by decide)) hP hD hS (fun H locs hP hD hS => ?_)
  refine lv_if_ne (tgt := 16) hx hb dX12_image_11 (by decide) (fun c5 => ?_) (fun c5 => ?_)
  · have hF := op_f hF c5
    refine lv_iconst (v := (0 : Int32)) hx hb dX12_image_16 (by decide) ?_
    refine lv_istore_n (lv' := [(2, .int (0 : Int32)), (0, .ref o0), (1, .int x1)]) hx hb dX12_image_17 rfl hl (by decide) rfl (fun ls hl => ?_)
    exact l_X12_image_18 C hF _ _ _ hP hD hS (lv_sub hl [1, 2, 0] rfl)
  · have hF := op_t hF c5
    refine lv_iconst (v := (0 : Int32)) hx hb dX12_image_14 (by decide) ?_
    cases hF
    exact k_zret C (by decide) hP hS dX12_image_15

abbrev rm_X12_restore : Room := ({ frames := 1, cells := 0, slots := 0, locals := 22 } : Room)
def F_X12_restore_60 (k60 : Int32 × Int32 × St → Option (Int32 × St)) (x1 : Int32) (x2 : Int32) (S0 : St) : Option (Int32 × St) := if (13 : Int32) ≤ x2 then (nw (sI S0 22 (0 : Int32)) fun U2 => some ((1 : Int32), U2)) else (if oob (((13 : Int32) * x1) + x2) 26 then none else if oob x2 26 then none else nw (sJ S0 9 x2 (S0.2.2.2 49 (((13 : Int32) * x1) + x2).toNatClampNeg)) fun U6 => k60 (x1, (x2 + 1), U6))
def L_X12_restore_60 (x1 : Int32) (x2 : Int32) (S0 : St) : Option (Int32 × St) := lp (fun kz z => F_X12_restore_60 kz z.1 z.2.1 z.2.2) FU (x1, x2, S0)
def F_X12_restore_27 (k27 : Int32 × Int32 × St → Option (Int32 × St)) (x1 : Int32) (x2 : Int32) (S0 : St) : Option (Int32 × St) := if (258 : Int32) ≤ x2 then (L_X12_restore_60 x1 (0 : Int32) S0) else (if oob (((258 : Int32) * x1) + x2) 516 then none else if oob x2 258 then none else nw (sA S0 6 x2 (S0.2.2.1 48 (((258 : Int32) * x1) + x2).toNatClampNeg)) fun U4 => k27 (x1, (x2 + 1), U4))
def L_X12_restore_27 (x1 : Int32) (x2 : Int32) (S0 : St) : Option (Int32 × St) := lp (fun kz z => F_X12_restore_27 kz z.1 z.2.1 z.2.2) FU (x1, x2, S0)
def F_X12_restore (S0 : St) (x1 : Int32) : Option (Int32 × St) := nw (sI S0 0 (0 : Int32)) fun U1 => ob1 (F_X12_isIn x1 (0 : Int32) (1 : Int32)) fun r4 => if r4 = 0 then (some ((0 : Int32), U1)) else (if oob x1 2 then none else if (U1.2.2.1 50 x1.toNatClampNeg) = 0 then (some ((0 : Int32), U1)) else (L_X12_restore_27 x1 (0 : Int32) U1))
set_option maxRecDepth 100000 in
set_option maxHeartbeats 4000000 in
theorem b_X12_restore_60 {p : Program} {l : Launch} {e : Env} {s : State} {m : MethodId} {args : Array Value} {below : List Frame} {meth : Method} {c : Code} {D : va_G} {q : Nat → ClassId} {A : Nat → Prop} {o0 : Nat} {a0 : Nat → Nat} {r : Int32} {T0 : St} (C : cx p s m args meth c cX12_restore 3 (some .boolean) RX12 D q A) {k60 : Int32 × Int32 × St → Option (Int32 × St)} (hk60 : ∀ (x1 : Int32) (x2 : Int32) (S0 : St), k60 (x1, x2, S0) = some (r, T0) → ∀ (H : Heap) (locs : List Loc) (ls : Array Slot), va_P D vwCl (g12 q o0 a0 S0) H → va_D A (g12 q o0 a0 S0) → va_S A s.heap H locs → lv_has ls 3 [(0, .ref o0), (1, .int x1), (2, .int x2)] → W p l e rm_X12_restore s m args below meth c H locs 0 0 (MQ below (QI D A r (g12 q o0 a0 T0)) args s 0 0 A) (F0 m 60 ls [])) {x1 : Int32} {x2 : Int32} {S0 : St} (hF : F_X12_restore_60 k60 x1 x2 S0 = some (r, T0)) {H : Heap} {locs : List Loc} (hP : va_P D vwCl (g12 q o0 a0 S0) H) (hD : va_D A (g12 q o0 a0 S0)) (hS : va_S A s.heap H locs) {ls : Array Slot} (hl : lv_has ls 3 [(0, .ref o0), (1, .int x1), (2, .int x2)]) : W p l e rm_X12_restore s m args below meth c H locs 0 0 (MQ below (QI D A r (g12 q o0 a0 T0)) args s 0 0 A) (F0 m 60 ls []) := by
  unfold F_X12_restore_60 at hF
  obtain ⟨hx, hb, hr, hml, hown, hts, hlk, hA, hK, hN, hV⟩ := id C
  refine lv_iload_n hx hb dX12_restore_60 rfl (lv_at hl 2 rfl) ?_
  refine lv_bipush (v := (13 : Int32)) hx hb dX12_restore_61 (by decide) ?_
  refine lv_icmp_ge (tgt := 89) hx hb dX12_restore_63 (by decide) (fun c1 => ?_) (fun c1 => ?_)
  · have hF := op_t hF c1
    refine lv_aload_n hx hb dX12_restore_89 rfl (lv_at hl 0 rfl) ?_
    refine lv_iconst (v := (0 : Int32)) hx hb dX12_restore_90 (by decide) ?_
    obtain ⟨U2, e3, hF⟩ := nw_s hF
    refine k_put (W8 := g12 q o0 a0 U2) C fp_X12_290 hP hD hS 0 rfl rfl rfl (Nat.le_of_ble_eq_true rfl) dX12_restore_91 (by rw [e3]; rfl) (fun H locs hP hD hS => ?_)
    refine lv_iconst (v := (1 : Int32)) hx hb dX12_restore_94 (by decide) ?_
    cases hF
    exact k_zret C (by decide) hP hS dX12_restore_95
  · have hF := op_f hF c1
    refine lv_aload_n hx hb dX12_restore_66 rfl (lv_at hl 0 rfl) ?_
    refine k_get (v := .ref (a0 10)) C fg_X12_43 hP 0 rfl rfl dX12_restore_67 ?_
    refine lv_iload_n hx hb dX12_restore_70 rfl (lv_at hl 2 rfl) ?_
    refine lv_aload_n hx hb dX12_restore_71 rfl (lv_at hl 0 rfl) ?_
    refine k_get (v := .ref (a0 50)) C fg_X12_102 hP 0 rfl rfl dX12_restore_72 ?_
    refine lv_bipush (v := (13 : Int32)) hx hb dX12_restore_75 (by decide) ?_
    refine lv_iload_n hx hb dX12_restore_77 rfl (lv_at hl 1 rfl) ?_
    refine lv_imul hx hb dX12_restore_78 ?_
    refine lv_iload_n hx hb dX12_restore_79 rfl (lv_at hl 2 rfl) ?_
    refine lv_iadd hx hb dX12_restore_80 ?_
    obtain ⟨h4, hF⟩ := op_ck hF
    refine k_lld (f := S0.2.2.2 49) C hP 20 rfl h4 dX12_restore_81 ?_
    obtain ⟨h5, hF⟩ := op_ck hF
    obtain ⟨U6, e7, hF⟩ := nw_s hF
    refine k_lst (f := S0.2.2.2 9) (W8 := g12 q o0 a0 U6) C hP hD hS 5 rfl h5 dX12_restore_82 (by rw [e7]; rfl) (fun H locs hP hD hS => ?_)
    refine lv_iinc (v := (x2 + 1)) (lv' := [(2, .int (x2 + 1)), (0, .ref o0), (1, .int x1)]) hx hb dX12_restore_83 hl (k := 2) rfl rfl (by decide) rfl (fun ls hl => ?_)
    refine lv_goto (tgt := 60) hx hb dX12_restore_86 (by decide) ?_
    exact hk60 x1 (x2 + 1) U6 hF _ _ _ hP hD hS (lv_sub hl [1, 2, 0] rfl)
set_option maxRecDepth 100000 in
set_option maxHeartbeats 4000000 in
theorem l_X12_restore_60 {p : Program} {l : Launch} {e : Env} {s : State} {m : MethodId} {args : Array Value} {below : List Frame} {meth : Method} {c : Code} {D : va_G} {q : Nat → ClassId} {A : Nat → Prop} {o0 : Nat} {a0 : Nat → Nat} {r : Int32} {T0 : St} (C : cx p s m args meth c cX12_restore 3 (some .boolean) RX12 D q A) {x1 : Int32} {x2 : Int32} {S0 : St} (hF : L_X12_restore_60 x1 x2 S0 = some (r, T0)) : ∀ (H : Heap) (locs : List Loc) (ls : Array Slot), va_P D vwCl (g12 q o0 a0 S0) H → va_D A (g12 q o0 a0 S0) → va_S A s.heap H locs → lv_has ls 3 [(0, .ref o0), (1, .int x1), (2, .int x2)] → W p l e rm_X12_restore s m args below meth c H locs 0 0 (MQ below (QI D A r (g12 q o0 a0 T0)) args s 0 0 A) (F0 m 60 ls []) :=
  lp_G _ _ (fun z => ∀ (H : Heap) (locs : List Loc) (ls : Array Slot), va_P D vwCl (g12 q o0 a0 z.2.2) H → va_D A (g12 q o0 a0 z.2.2) → va_S A s.heap H locs → lv_has ls 3 [(0, .ref o0), (1, .int z.1), (2, .int z.2.1)] → W p l e rm_X12_restore s m args below meth c H locs 0 0 (MQ below (QI D A r (g12 q o0 a0 T0)) args s 0 0 A) (F0 m 60 ls [])) (fun kz hkz z hz H locs ls hP hD hS hl => b_X12_restore_60 C (fun x1 x2 S0 hz => hkz (x1, x2, S0) hz) hz hP hD hS hl) FU (x1, x2, S0) hF
set_option maxRecDepth 100000 in
set_option maxHeartbeats 4000000 in
theorem b_X12_restore_27 {p : Program} {l : Launch} {e : Env} {s : State} {m : MethodId} {args : Array Value} {below : List Frame} {meth : Method} {c : Code} {D : va_G} {q : Nat → ClassId} {A : Nat → Prop} {o0 : Nat} {a0 : Nat → Nat} {r : Int32} {T0 : St} (C : cx p s m args meth c cX12_restore 3 (some .boolean) RX12 D q A) {k27 : Int32 × Int32 × St → Option (Int32 × St)} (hk27 : ∀ (x1 : Int32) (x2 : Int32) (S0 : St), k27 (x1, x2, S0) = some (r, T0) → ∀ (H : Heap) (locs : List Loc) (ls : Array Slot), va_P D vwCl (g12 q o0 a0 S0) H → va_D A (g12 q o0 a0 S0) → va_S A s.heap H locs → lv_has ls 3 [(0, .ref o0), (1, .int x1), (2, .int x2)] → W p l e rm_X12_restore s m args below meth c H locs 0 0 (MQ below (QI D A r (g12 q o0 a0 T0)) args s 0 0 A) (F0 m 27 ls [])) {x1 : Int32} {x2 : Int32} {S0 : St} (hF : F_X12_restore_27 k27 x1 x2 S0 = some (r, T0)) {H : Heap} {locs : List Loc} (hP : va_P D vwCl (g12 q o0 a0 S0) H) (hD : va_D A (g12 q o0 a0 S0)) (hS : va_S A s.heap H locs) {ls : Array Slot} (hl : lv_has ls 3 [(0, .ref o0), (1, .int x1), (2, .int x2)]) : W p l e rm_X12_restore s m args below meth c H locs 0 0 (MQ below (QI D A r (g12 q o0 a0 T0)) args s 0 0 A) (F0 m 27 ls []) := by
  unfold F_X12_restore_27 at hF
  obtain ⟨hx, hb, hr, hml, hown, hts, hlk, hA, hK, hN, hV⟩ := id C
  refine lv_iload_n hx hb dX12_restore_27 rfl (lv_at hl 2 rfl) ?_
  refine lv_sipush (v := (258 : Int32)) hx hb dX12_restore_28 (by decide) ?_
  refine lv_icmp_ge (tgt := 58) hx hb dX12_restore_31 (by decide) (fun c1 => ?_) (fun c1 => ?_)
  · have hF := op_t hF c1
    refine lv_iconst (v := (0 : Int32)) hx hb dX12_restore_58 (by decide) ?_
    refine lv_istore_n (lv' := [(2, .int (0 : Int32)), (0, .ref o0), (1, .int x1)]) hx hb dX12_restore_59 rfl hl (by decide) rfl (fun ls hl => ?_)
    exact l_X12_restore_60 C hF _ _ _ hP hD hS (lv_sub hl [1, 2, 0] rfl)
  · have hF := op_f hF c1
    refine lv_aload_n hx hb dX12_restore_34 rfl (lv_at hl 0 rfl) ?_
    refine k_get (v := .ref (a0 7)) C fg_X12_33 hP 0 rfl rfl dX12_restore_35 ?_
    refine lv_iload_n hx hb dX12_restore_38 rfl (lv_at hl 2 rfl) ?_
    refine lv_aload_n hx hb dX12_restore_39 rfl (lv_at hl 0 rfl) ?_
    refine k_get (v := .ref (a0 49)) C fg_X12_99 hP 0 rfl rfl dX12_restore_40 ?_
    refine lv_sipush (v := (258 : Int32)) hx hb dX12_restore_43 (by decide) ?_
    refine lv_iload_n hx hb dX12_restore_46 rfl (lv_at hl 1 rfl) ?_
    refine lv_imul hx hb dX12_restore_47 ?_
    refine lv_iload_n hx hb dX12_restore_48 rfl (lv_at hl 2 rfl) ?_
    refine lv_iadd hx hb dX12_restore_49 ?_
    obtain ⟨h2, hF⟩ := op_ck hF
    refine k_ild (f := S0.2.2.1 48) C hP 19 rfl h2 dX12_restore_50 ?_
    obtain ⟨h3, hF⟩ := op_ck hF
    obtain ⟨U4, e5, hF⟩ := nw_s hF
    refine k_ist (f := S0.2.2.1 6) (W8 := g12 q o0 a0 U4) C hP hD hS 2 rfl h3 dX12_restore_51 (by rw [e5]; rfl) (fun H locs hP hD hS => ?_)
    refine lv_iinc (v := (x2 + 1)) (lv' := [(2, .int (x2 + 1)), (0, .ref o0), (1, .int x1)]) hx hb dX12_restore_52 hl (k := 2) rfl rfl (by decide) rfl (fun ls hl => ?_)
    refine lv_goto (tgt := 27) hx hb dX12_restore_55 (by decide) ?_
    exact hk27 x1 (x2 + 1) U4 hF _ _ _ hP hD hS (lv_sub hl [1, 2, 0] rfl)
set_option maxRecDepth 100000 in
set_option maxHeartbeats 4000000 in
theorem l_X12_restore_27 {p : Program} {l : Launch} {e : Env} {s : State} {m : MethodId} {args : Array Value} {below : List Frame} {meth : Method} {c : Code} {D : va_G} {q : Nat → ClassId} {A : Nat → Prop} {o0 : Nat} {a0 : Nat → Nat} {r : Int32} {T0 : St} (C : cx p s m args meth c cX12_restore 3 (some .boolean) RX12 D q A) {x1 : Int32} {x2 : Int32} {S0 : St} (hF : L_X12_restore_27 x1 x2 S0 = some (r, T0)) : ∀ (H : Heap) (locs : List Loc) (ls : Array Slot), va_P D vwCl (g12 q o0 a0 S0) H → va_D A (g12 q o0 a0 S0) → va_S A s.heap H locs → lv_has ls 3 [(0, .ref o0), (1, .int x1), (2, .int x2)] → W p l e rm_X12_restore s m args below meth c H locs 0 0 (MQ below (QI D A r (g12 q o0 a0 T0)) args s 0 0 A) (F0 m 27 ls []) :=
  lp_G _ _ (fun z => ∀ (H : Heap) (locs : List Loc) (ls : Array Slot), va_P D vwCl (g12 q o0 a0 z.2.2) H → va_D A (g12 q o0 a0 z.2.2) → va_S A s.heap H locs → lv_has ls 3 [(0, .ref o0), (1, .int z.1), (2, .int z.2.1)] → W p l e rm_X12_restore s m args below meth c H locs 0 0 (MQ below (QI D A r (g12 q o0 a0 T0)) args s 0 0 A) (F0 m 27 ls [])) (fun kz hkz z hz H locs ls hP hD hS hl => b_X12_restore_27 C (fun x1 x2 S0 hz => hkz (x1, x2, S0) hz) hz hP hD hS hl) FU (x1, x2, S0) hF
set_option maxRecDepth 100000 in
set_option maxHeartbeats 4000000 in
theorem c_X12_restore (l : Launch) (D : va_G) (q : Nat → ClassId) (o0 : Nat) (a0 : Nat → Nat) (S0 : St) (sz : Nat) (x1 : Int32) {r : Int32} {T0 : St} (hF : F_X12_restore S0 x1 = some (r, T0)) : Met l yX12_restore (Cond.code yX12_restore cX12_restore 3 (some .boolean) :: TB) rm_X12_restore (PC D q [.ref o0, .int x1] (g12 q o0 a0 S0) sz) ((fun A => QI D A r (g12 q o0 a0 T0)) (va_A (g12 q o0 a0 S0) sz)) 0 0 (va_A (g12 q o0 a0 S0) sz) := by
  refine k_met (w0 := g12 q o0 a0 S0) (Q := fun A => QI D A r (g12 q o0 a0 T0)) (by decide +kernel) (Nat.le_of_ble_eq_true rfl) ?_
  intro p e s m args below meth c A ls C hP hD hS hl
  have hl : lv_has ls 3 [(0, .ref o0), (1, .int x1)] := hl
  unfold F_X12_restore at hF
  have C : cx p s m args meth c cX12_restore 3 (some .boolean) RX12 D q A := C
  obtain ⟨hx, hb, hr, hml, hown, hts, hlk, hA, hK, hN, hV⟩ := id C
  refine lv_aload_n hx hb dX12_restore_0 rfl (lv_at hl 0 rfl) ?_
  refine lv_iconst (v := (0 : Int32)) hx hb dX12_restore_1 (by decide) ?_
  obtain ⟨U1, e2, hF⟩ := nw_s hF
  refine k_put (W8 := g12 q o0 a0 U1) C fp_X12_1 hP hD hS 0 rfl rfl rfl (Nat.le_of_ble_eq_true rfl) dX12_restore_2 (by rw [e2]; rfl) (fun H locs hP hD hS => ?_)
  refine lv_iload_n hx hb dX12_restore_5 rfl (lv_at hl 1 rfl) ?_
  refine lv_iconst (v := (0 : Int32)) hx hb dX12_restore_6 (by decide) ?_
  refine lv_iconst (v := (1 : Int32)) hx hb dX12_restore_7 (by decide) ?_
  obtain ⟨r4, hc3, hF⟩ := ob1_s hF
  refine k_inil C (k_rS (As := [.int x1, .int (0 : Int32), .int (1 : Int32)]) (rest := []) C (c_X12_isIn l D q _ x1 (0 : Int32) (1 : Int32) hc3) kc_X12_isIn ml_X12_225 rfl rfl (by decide) (fun k x h => by simp at h) (⟨fun i j x y h => by simp at h, fun k x h => by simp at h⟩ : va_D A []) hS rfl hl.1 rfl (Nat.le_of_ble_eq_true rfl) dX12_restore_8 (by decide)) hP hD hS (fun H locs hP hD hS => ?_)
  refine lv_if_eq (tgt := 23) hx hb dX12_restore_11 (by decide) (fun c5 => ?_) (fun c5 => ?_)
  · have hF := op_t hF c5
    refine lv_iconst (v := (0 : Int32)) hx hb dX12_restore_23 (by decide) ?_
    cases hF
    exact k_zret C (by decide) hP hS dX12_restore_24
  · have hF := op_f hF c5
    refine lv_aload_n hx hb dX12_restore_14 rfl (lv_at hl 0 rfl) ?_
    refine k_get (v := .ref (a0 51)) C fg_X12_105 hP 0 rfl rfl dX12_restore_15 ?_
    refine lv_iload_n hx hb dX12_restore_18 rfl (lv_at hl 1 rfl) ?_
    obtain ⟨h6, hF⟩ := op_ck hF
    refine k_zld (f := U1.2.2.1 50) C hP 21 rfl h6 dX12_restore_19 ?_
    refine lv_if_ne (tgt := 25) hx hb dX12_restore_20 (by decide) (fun c7 => ?_) (fun c7 => ?_)
    · have hF := op_f hF c7
      refine lv_iconst (v := (0 : Int32)) hx hb dX12_restore_25 (by decide) ?_
      refine lv_istore_n (lv' := [(2, .int (0 : Int32)), (0, .ref o0), (1, .int x1)]) hx hb dX12_restore_26 rfl hl (by decide) rfl (fun ls hl => ?_)
      exact l_X12_restore_27 C hF _ _ _ hP hD hS (lv_sub hl [1, 2, 0] rfl)
    · have hF := op_t hF c7
      refine lv_iconst (v := (0 : Int32)) hx hb dX12_restore_23 (by decide) ?_
      cases hF
      exact k_zret C (by decide) hP hS dX12_restore_24

abbrev rm_X12_count : Room := ({ frames := 1, cells := 0, slots := 0, locals := 22 } : Room)
def F_X12_count (S0 : St) (x1 : Int32) : Option (Int32 × St) := nw (sI S0 0 (0 : Int32)) fun U1 => if x1 = (2 : Int32) then (some ((U1.1 2), U1)) else (ob1 (F_X12_isIn x1 (0 : Int32) (1 : Int32)) fun r5 => if r5 = 0 then (some ((-1 : Int32), U1)) else (if oob x1 258 then none else some ((U1.2.2.1 6 x1.toNatClampNeg), U1)))
set_option maxRecDepth 100000 in
set_option maxHeartbeats 4000000 in
theorem c_X12_count (l : Launch) (D : va_G) (q : Nat → ClassId) (o0 : Nat) (a0 : Nat → Nat) (S0 : St) (sz : Nat) (x1 : Int32) {r : Int32} {T0 : St} (hF : F_X12_count S0 x1 = some (r, T0)) : Met l yX12_count (Cond.code yX12_count cX12_count 2 (some .int) :: TB) rm_X12_count (PC D q [.ref o0, .int x1] (g12 q o0 a0 S0) sz) ((fun A => QI D A r (g12 q o0 a0 T0)) (va_A (g12 q o0 a0 S0) sz)) 0 0 (va_A (g12 q o0 a0 S0) sz) := by
  refine k_met (w0 := g12 q o0 a0 S0) (Q := fun A => QI D A r (g12 q o0 a0 T0)) (by decide +kernel) (Nat.le_of_ble_eq_true rfl) ?_
  intro p e s m args below meth c A ls C hP hD hS hl
  have hl : lv_has ls 2 [(0, .ref o0), (1, .int x1)] := hl
  unfold F_X12_count at hF
  have C : cx p s m args meth c cX12_count 2 (some .int) RX12 D q A := C
  obtain ⟨hx, hb, hr, hml, hown, hts, hlk, hA, hK, hN, hV⟩ := id C
  refine lv_aload_n hx hb dX12_count_0 rfl (lv_at hl 0 rfl) ?_
  refine lv_iconst (v := (0 : Int32)) hx hb dX12_count_1 (by decide) ?_
  obtain ⟨U1, e2, hF⟩ := nw_s hF
  refine k_put (W8 := g12 q o0 a0 U1) C fp_X12_1 hP hD hS 0 rfl rfl rfl (Nat.le_of_ble_eq_true rfl) dX12_count_2 (by rw [e2]; rfl) (fun H locs hP hD hS => ?_)
  refine lv_iload_n hx hb dX12_count_5 rfl (lv_at hl 1 rfl) ?_
  refine lv_iconst (v := (2 : Int32)) hx hb dX12_count_6 (by decide) ?_
  refine lv_icmp_ne (tgt := 17) hx hb dX12_count_7 (by decide) (fun c3 => ?_) (fun c3 => ?_)
  · have hF := op_f hF c3
    refine lv_iload_n hx hb dX12_count_17 rfl (lv_at hl 1 rfl) ?_
    refine lv_iconst (v := (0 : Int32)) hx hb dX12_count_18 (by decide) ?_
    refine lv_iconst (v := (1 : Int32)) hx hb dX12_count_19 (by decide) ?_
    obtain ⟨r5, hc4, hF⟩ := ob1_s hF
    refine k_inil C (k_rS (As := [.int x1, .int (0 : Int32), .int (1 : Int32)]) (rest := []) C (c_X12_isIn l D q _ x1 (0 : Int32) (1 : Int32) hc4) kc_X12_isIn ml_X12_225 rfl rfl (by decide) (fun k x h => by simp at h) (⟨fun i j x y h => by simp at h, fun k x h => by simp at h⟩ : va_D A []) hS rfl hl.1 rfl (Nat.le_of_ble_eq_true rfl) dX12_count_20 (by decide)) hP hD hS (fun H locs hP hD hS => ?_)
    refine lv_if_eq (tgt := 35) hx hb dX12_count_23 (by decide) (fun c6 => ?_) (fun c6 => ?_)
    · have hF := op_t hF c6
      refine lv_iconst (v := (-1 : Int32)) hx hb dX12_count_35 (by decide) ?_
      cases hF
      exact k_iret C hP hS dX12_count_36
    · have hF := op_f hF c6
      refine lv_aload_n hx hb dX12_count_26 rfl (lv_at hl 0 rfl) ?_
      refine k_get (v := .ref (a0 7)) C fg_X12_33 hP 0 rfl rfl dX12_count_27 ?_
      refine lv_iload_n hx hb dX12_count_30 rfl (lv_at hl 1 rfl) ?_
      obtain ⟨h7, hF⟩ := op_ck hF
      refine k_ild (f := U1.2.2.1 6) C hP 2 rfl h7 dX12_count_31 ?_
      refine lv_goto (tgt := 36) hx hb dX12_count_32 (by decide) ?_
      cases hF
      exact k_iret C hP hS dX12_count_36
  · have hF := op_t hF c3
    refine lv_aload_n hx hb dX12_count_10 rfl (lv_at hl 0 rfl) ?_
    refine k_get (v := .int (U1.1 2)) C fg_X12_7 hP 0 rfl rfl dX12_count_11 ?_
    refine lv_goto (tgt := 36) hx hb dX12_count_14 (by decide) ?_
    cases hF
    exact k_iret C hP hS dX12_count_36
