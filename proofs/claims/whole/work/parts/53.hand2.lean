theorem flJ_J0_9 : Cond.fieldLink RJ0 9 "java/lang/String" "value" "[B" ∈ TB := tb_8 (List.mem_of_getElem? (i := 235) (by decide +kernel)) (by decide +kernel)
theorem flJ_J0_15 : Cond.fieldLink RJ0 15 "java/lang/String" "coder" "B" ∈ TB := tb_8 (List.mem_of_getElem? (i := 236) (by decide +kernel)) (by decide +kernel)
theorem flJ_J0_38 : Cond.fieldLink RJ0 38 "java/lang/String" "COMPACT_STRINGS" "Z" ∈ TB := tb_1 (List.mem_of_getElem? (i := 71) (by decide +kernel)) (by decide +kernel)
theorem flJ_J0_1053 : Cond.fieldLink RJ0 1053 "jdk/internal/util/Preconditions" "SIOOBE_FORMATTER" "Ljava/util/function/BiFunction;" ∈ TB := tb_1 (List.mem_of_getElem? (i := 87) (by decide +kernel)) (by decide +kernel)
theorem ml_J0_335 : Cond.methodLink RJ0 335 yJ0_coder_7d493 ∈ TB := tb_1 (List.mem_of_getElem? (i := 67) (by decide +kernel)) (by decide +kernel)
theorem ml_J0_492 : Cond.methodLink RJ0 492 yJ0_isLatin1_aae02 ∈ TB := tb_1 (List.mem_of_getElem? (i := 77) (by decide +kernel)) (by decide +kernel)
theorem ml_J0_495 : Cond.methodLink RJ0 495 yJ1_charAt_3b067 ∈ TB := tb_1 (List.mem_of_getElem? (i := 81) (by decide +kernel)) (by decide +kernel)
theorem ml_J1_9 : Cond.methodLink RJ1 9 yJ0_checkIndex_df160 ∈ TB := tb_1 (List.mem_of_getElem? (i := 84) (by decide +kernel)) (by decide +kernel)
theorem ml_J0_1059 : Cond.methodLink RJ0 1059 yJ3_checkIndex_8e157 ∈ TB := tb_1 (List.mem_of_getElem? (i := 89) (by decide +kernel)) (by decide +kernel)
theorem cd_J0_coder_7d493 : Cond.code yJ0_coder_7d493 cJ0_coder_7d493 1 (some .byte) ∈ TB := tb_1 (List.mem_of_getElem? (i := 70) (by decide +kernel)) (by decide +kernel)
theorem in_J0 : Cond.initialized RJ0 ∈ TB := tb_1 (List.mem_of_getElem? (i := 4) (by decide +kernel)) (by decide +kernel)
theorem im_J0_coder_7d493 : Cond.instanceMethod yJ0_coder_7d493 ∈ TB := tb_1 (List.mem_of_getElem? (i := 68) (by decide +kernel)) (by decide +kernel)
theorem se_J0_coder_7d493 : Cond.selects RJ0 yJ0_coder_7d493 yJ0_coder_7d493 ∈ TB := tb_1 (List.mem_of_getElem? (i := 69) (by decide +kernel)) (by decide +kernel)
theorem kc_J0_coder_7d493 : cV RJ0 yJ0_coder_7d493 cJ0_coder_7d493 1 (some .byte) 0 := ⟨im_J0_coder_7d493, se_J0_coder_7d493, cd_J0_coder_7d493, in_J0, ⟨by decide +kernel, by decide +kernel, by decide +kernel⟩⟩
theorem cd_J0_isLatin1_aae02 : Cond.code yJ0_isLatin1_aae02 cJ0_isLatin1_aae02 1 (some .boolean) ∈ TB := tb_1 (List.mem_of_getElem? (i := 80) (by decide +kernel)) (by decide +kernel)
theorem im_J0_isLatin1_aae02 : Cond.instanceMethod yJ0_isLatin1_aae02 ∈ TB := tb_1 (List.mem_of_getElem? (i := 78) (by decide +kernel)) (by decide +kernel)
theorem se_J0_isLatin1_aae02 : Cond.selects RJ0 yJ0_isLatin1_aae02 yJ0_isLatin1_aae02 ∈ TB := tb_1 (List.mem_of_getElem? (i := 79) (by decide +kernel)) (by decide +kernel)
theorem kc_J0_isLatin1_aae02 : cV RJ0 yJ0_isLatin1_aae02 cJ0_isLatin1_aae02 1 (some .boolean) 0 := ⟨im_J0_isLatin1_aae02, se_J0_isLatin1_aae02, cd_J0_isLatin1_aae02, in_J0, ⟨by decide +kernel, by decide +kernel, by decide +kernel⟩⟩
theorem cd_J1_charAt_3b067 : Cond.code yJ1_charAt_3b067 cJ1_charAt_3b067 2 (some .char) ∈ TB := tb_1 (List.mem_of_getElem? (i := 83) (by decide +kernel)) (by decide +kernel)
theorem in_J1 : Cond.initialized RJ1 ∈ TB := tb_1 (List.mem_of_getElem? (i := 5) (by decide +kernel)) (by decide +kernel)
theorem st_J1_charAt_3b067 : Cond.static yJ1_charAt_3b067 ∈ TB := tb_1 (List.mem_of_getElem? (i := 82) (by decide +kernel)) (by decide +kernel)
theorem kc_J1_charAt_3b067 : cS yJ1_charAt_3b067 cJ1_charAt_3b067 2 (some .char) 2 := ⟨st_J1_charAt_3b067, cd_J1_charAt_3b067, in_J1, ⟨by decide +kernel, by decide +kernel, by decide +kernel⟩⟩
theorem cd_J0_checkIndex_df160 : Cond.code yJ0_checkIndex_df160 cJ0_checkIndex_df160 2 none ∈ TB := tb_1 (List.mem_of_getElem? (i := 86) (by decide +kernel)) (by decide +kernel)
theorem st_J0_checkIndex_df160 : Cond.static yJ0_checkIndex_df160 ∈ TB := tb_1 (List.mem_of_getElem? (i := 85) (by decide +kernel)) (by decide +kernel)
theorem kc_J0_checkIndex_df160 : cS yJ0_checkIndex_df160 cJ0_checkIndex_df160 2 none 2 := ⟨st_J0_checkIndex_df160, cd_J0_checkIndex_df160, in_J0, ⟨by decide +kernel, by decide +kernel, by decide +kernel⟩⟩
theorem cd_J3_checkIndex_8e157 : Cond.code yJ3_checkIndex_8e157 cJ3_checkIndex_8e157 3 (some .int) ∈ TB := tb_1 (List.mem_of_getElem? (i := 91) (by decide +kernel)) (by decide +kernel)
theorem in_J3 : Cond.initialized RJ3 ∈ TB := tb_1 (List.mem_of_getElem? (i := 6) (by decide +kernel)) (by decide +kernel)
theorem st_J3_checkIndex_8e157 : Cond.static yJ3_checkIndex_8e157 ∈ TB := tb_1 (List.mem_of_getElem? (i := 90) (by decide +kernel)) (by decide +kernel)
theorem kc_J3_checkIndex_8e157 : cS yJ3_checkIndex_8e157 cJ3_checkIndex_8e157 3 (some .int) 3 := ⟨st_J3_checkIndex_8e157, cd_J3_checkIndex_8e157, in_J3, ⟨by decide +kernel, by decide +kernel, by decide +kernel⟩⟩
theorem cd_J0_length_8abf5 : Cond.code yJ0_length_8abf5 cJ0_length_8abf5 1 (some .int) ∈ TB := tb_1 (List.mem_of_getElem? (i := 66) (by decide +kernel)) (by decide +kernel)
theorem im_J0_length_8abf5 : Cond.instanceMethod yJ0_length_8abf5 ∈ TB := tb_1 (List.mem_of_getElem? (i := 64) (by decide +kernel)) (by decide +kernel)
theorem se_J0_length_8abf5 : Cond.selects RJ0 yJ0_length_8abf5 yJ0_length_8abf5 ∈ TB := tb_1 (List.mem_of_getElem? (i := 65) (by decide +kernel)) (by decide +kernel)
theorem kc_J0_length_8abf5 : cV RJ0 yJ0_length_8abf5 cJ0_length_8abf5 1 (some .int) 0 := ⟨im_J0_length_8abf5, se_J0_length_8abf5, cd_J0_length_8abf5, in_J0, ⟨by decide +kernel, by decide +kernel, by decide +kernel⟩⟩
theorem cd_J0_charAt_5068e : Cond.code yJ0_charAt_5068e cJ0_charAt_5068e 2 (some .char) ∈ TB := tb_1 (List.mem_of_getElem? (i := 76) (by decide +kernel)) (by decide +kernel)
theorem im_J0_charAt_5068e : Cond.instanceMethod yJ0_charAt_5068e ∈ TB := tb_1 (List.mem_of_getElem? (i := 74) (by decide +kernel)) (by decide +kernel)
theorem se_J0_charAt_5068e : Cond.selects RJ0 yJ0_charAt_5068e yJ0_charAt_5068e ∈ TB := tb_1 (List.mem_of_getElem? (i := 75) (by decide +kernel)) (by decide +kernel)
theorem kc_J0_charAt_5068e : cV RJ0 yJ0_charAt_5068e cJ0_charAt_5068e 2 (some .char) 1 := ⟨im_J0_charAt_5068e, se_J0_charAt_5068e, cd_J0_charAt_5068e, in_J0, ⟨by decide +kernel, by decide +kernel, by decide +kernel⟩⟩

section KT
variable {p : Program} {l : Launch} {e : Env} {R : Room} {s : State} {m : MethodId} {args : Array Value} {below : List Frame} {meth : Method} {c : Code} {H : Heap} {locs : List Loc} {cc : ByteArray} {nL : Nat} {own : String} {D : va_G} {q : Nat → ClassId} {A : Nat → Prop}
variable {pc : Nat} {ls : Array Slot}
theorem k_ldcwS {cells slots : Nat} {Q : State → Prop} {rest : List Value} (hexec : p.tables.exec = Jvm.exec) (hb : c.code = cc) {tx : String} {index sa : Nat} (hown : s.vm.findClass own = some m.cls) (hZ : vk_R own index tx sa s) (hdg : decode cc pc = .ok (.ldc_w index, 3))
    (k : W p l e R s m args below meth c H locs cells slots Q (F0 m (pc + 3) ls (.ref sa :: rest))) : W p l e R s m args below meth c H locs cells slots Q (F0 m pc ls rest) := by
  intro T hT X
  obtain ⟨t, a1, b1⟩ := k T hT X
  refine ⟨t, ?_, b1⟩
  subst hb
  obtain ⟨k', cf, i, a', hk, hcf, hcp, -, hr, hev'⟩ := Cond.stringRef_spec hown hZ.1
  cases hZ.2.symm.trans hev'
  obtain ⟨k2, hk2, he⟩ := X.warmed.alike.2.2 _ _ hk
  have hr' : k2.resolved[index]? = some (some (.string sa)) := by
    rcases X.warmed.entry hk hk2 index with h | ⟨h, -⟩
    · rw [h]; exact hr
    · rw [hr] at h; cases h
  jvm_step X.here [hexec, hdg, ldc_w.wp_string (e := e) (s := T) (f := F0 m pc ls rest) X.here.top hk2 (by rw [he]; exact hcf) hcp hr']
  exact a1
theorem k_tret {r : Int32} {ty : FieldType} {w1 : va_W} (C : cx p s m args meth c cc nL (some ty) own D q A) (hn : narrow ty (.int r) = .int r) (hP : va_P D vwCl w1 H) (hS : va_S A s.heap H locs) (hdg : decode cc pc = .ok (.ireturn, 1)) : W p l e R s m args below meth c H locs 0 0 (MQ below (QI D A r w1) args s 0 0 A) (F0 m pc ls [.int r]) := by
  obtain ⟨hx, hb, hr, hml, hown, hts, hlk, hA, hK, hN, hV⟩ := C
  exact W.zret hx hb hr hn (fun t ht hW => ⟨⟨r, (), rfl, rfl, by show va_P D vwCl w1 t.heap; rw [ht]; exact hP⟩, hS.F ht⟩) hS.2.2 hdg hlk
end KT
abbrev rm_J0a : Room := { frames := 0, cells := 0, slots := 0, locals := 0 }
abbrev rm_J0b : Room := { frames := 4, cells := 0, slots := 0, locals := 100 }
abbrev rm_J0c : Room := { frames := 5, cells := 0, slots := 0, locals := 130 }
abbrev rm_J0d : Room := { frames := 6, cells := 0, slots := 0, locals := 160 }
abbrev rm_J0e : Room := { frames := 7, cells := 0, slots := 0, locals := 190 }
theorem nilP {D : va_G} {H : Heap} : va_P D vwCl [] H := fun k x h => by simp at h
theorem nilD {A : Nat → Prop} : va_D A [] := ⟨fun i j x y h => by simp at h, fun k x h => by simp at h⟩
theorem slen_ok : ∀ i, i < 9 → slen.getD i 0 < 1000 := by decide
theorem c_coder (l : Launch) (D : va_G) (q : Nat → ClassId) (i : Nat) (hi : i < 9) (sz : Nat) : Met l yJ0_coder_7d493 (Cond.code yJ0_coder_7d493 cJ0_coder_7d493 1 (some .byte) :: TB) rm_J0a (PC D q [.ref (q (100 + i))] [] sz) ((fun A => QI D A 0 []) (va_A [] sz)) 0 0 (va_A [] sz) := by
  refine k_met (w0 := []) (Q := fun A => QI D A 0 []) (by decide +kernel) (Nat.le_of_ble_eq_true rfl) ?_
  intro p e s m args below meth c A ls C hP hD hS hl
  have hl : lv_has ls 1 [(0, .ref (q (100 + i)))] := hl
  have C : cx p s m args meth c cJ0_coder_7d493 1 (some .byte) RJ0 D q A := C
  obtain ⟨hx, hb, hr, hml, hown, hts, hlk, hA, hK, hN, hV⟩ := id C
  refine va_gets hx hb hV.2.2.1 hS hown (hts _ flJ_J0_38) (fun _ h => h) dJ0_coder_7d493_0 ?_
  refine lv_if_eq (tgt := 13) hx hb dJ0_coder_7d493_3 (by decide) (fun c9 => absurd c9 (by decide)) (fun _ => ?_)
  refine lv_aload_n hx hb dJ0_coder_7d493_6 rfl (lv_at hl 0 rfl) ?_
  refine vk_getf hx hb (hV.2.1.1 i hi).2.1 hS hown (hts _ flJ_J0_15) (fun _ h => h) dJ0_coder_7d493_7 ?_
  refine lv_goto (tgt := 14) hx hb dJ0_coder_7d493_10 (by decide) ?_
  exact k_tret C (by decide) hP hS dJ0_coder_7d493_14
theorem c_isLatin1 (l : Launch) (D : va_G) (q : Nat → ClassId) (i : Nat) (hi : i < 9) (sz : Nat) : Met l yJ0_isLatin1_aae02 (Cond.code yJ0_isLatin1_aae02 cJ0_isLatin1_aae02 1 (some .boolean) :: TB) rm_J0a (PC D q [.ref (q (100 + i))] [] sz) ((fun A => QI D A 1 []) (va_A [] sz)) 0 0 (va_A [] sz) := by
  refine k_met (w0 := []) (Q := fun A => QI D A 1 []) (by decide +kernel) (Nat.le_of_ble_eq_true rfl) ?_
  intro p e s m args below meth c A ls C hP hD hS hl
  have hl : lv_has ls 1 [(0, .ref (q (100 + i)))] := hl
  have C : cx p s m args meth c cJ0_isLatin1_aae02 1 (some .boolean) RJ0 D q A := C
  obtain ⟨hx, hb, hr, hml, hown, hts, hlk, hA, hK, hN, hV⟩ := id C
  refine va_gets hx hb hV.2.2.1 hS hown (hts _ flJ_J0_38) (fun _ h => h) dJ0_isLatin1_aae02_0 ?_
  refine lv_if_eq (tgt := 17) hx hb dJ0_isLatin1_aae02_3 (by decide) (fun c9 => absurd c9 (by decide)) (fun _ => ?_)
  refine lv_aload_n hx hb dJ0_isLatin1_aae02_6 rfl (lv_at hl 0 rfl) ?_
  refine vk_getf hx hb (hV.2.1.1 i hi).2.1 hS hown (hts _ flJ_J0_15) (fun _ h => h) dJ0_isLatin1_aae02_7 ?_
  refine lv_if_ne (tgt := 17) hx hb dJ0_isLatin1_aae02_10 (by decide) (fun c9 => absurd rfl c9) (fun _ => ?_)
  refine lv_iconst (v := 1) hx hb dJ0_isLatin1_aae02_13 (by decide) ?_
  refine lv_goto (tgt := 18) hx hb dJ0_isLatin1_aae02_14 (by decide) ?_
  exact k_tret C (by decide) hP hS dJ0_isLatin1_aae02_18
def F_J0_length (t : Nat) : Option Int32 := if 9 ≤ t then none else some (nI (slen.getD t 0))
theorem c_J0_length (l : Launch) (D : va_G) (q : Nat → ClassId) (i : Nat) (sz : Nat) {r : Int32} (hF : F_J0_length i = some (r)) : Met l yJ0_length_8abf5 (Cond.code yJ0_length_8abf5 cJ0_length_8abf5 1 (some .int) :: TB) rm_J0b (PC D q [.ref (q (100 + i))] [] sz) ((fun A => QI D A r []) (va_A [] sz)) 0 0 (va_A [] sz) := by
  unfold F_J0_length at hF
  obtain ⟨hi, hF⟩ := op_ck hF
  cases hF
  have hi : i < 9 := Nat.lt_of_not_le hi
  refine k_met (w0 := []) (Q := fun A => QI D A _ []) (by decide +kernel) (Nat.le_of_ble_eq_true rfl) ?_
  intro p e s m args below meth c A ls C hP hD hS hl
  have hl : lv_has ls 1 [(0, .ref (q (100 + i)))] := hl
  have C : cx p s m args meth c cJ0_length_8abf5 1 (some .int) RJ0 D q A := C
  obtain ⟨hx, hb, hr, hml, hown, hts, hlk, hA, hK, hN, hV⟩ := id C
  refine lv_aload_n hx hb dJ0_length_8abf5_0 rfl (lv_at hl 0 rfl) ?_
  refine vk_getf hx hb (hV.2.1.1 i hi).2.2.1 hS hown (hts _ flJ_J0_9) (fun _ h => h) dJ0_length_8abf5_1 ?_
  refine va_tlen (v := nI (slen.getD i 0)) hx hb (hV.2.1.1 i hi).2.2.2 hS rfl dJ0_length_8abf5_4 ?_
  refine lv_aload_n hx hb dJ0_length_8abf5_5 rfl (lv_at hl 0 rfl) ?_
  refine k_inil C (k_rV (As := []) (rest := [.int (nI (slen.getD i 0))]) C (c_coder l D q i hi _) kc_J0_coder_7d493 ml_J0_335 rfl rfl (by decide) nilP nilD hS (vk_recv (adK := fun i => q (100 + i)) (i := i) hV.2.1 hi hS) rfl hl.1 rfl (Nat.le_of_ble_eq_true rfl) dJ0_length_8abf5_6 (by decide)) hP hD hS (fun H locs hP hD hS => ?_)
  refine lv_ishr hx hb dJ0_length_8abf5_9 ?_
  rw [sc_shr0 (by have := slen_ok i hi; omega)]
  exact k_iret C hP hS dJ0_length_8abf5_10
theorem c_preCheck (l : Launch) (D : va_G) (q : Nat → ClassId) (x n : Int32) (v : Value) (hv : v = .null ∨ ∃ t, v = .ref t) (h1 : ¬ x < 0) (h2 : x < n) (sz : Nat) : Met l yJ3_checkIndex_8e157 (Cond.code yJ3_checkIndex_8e157 cJ3_checkIndex_8e157 3 (some .int) :: TB) rm_J0a (PC D q [.int x, .int n, v] [] sz) ((fun A => QI D A x []) (va_A [] sz)) 0 0 (va_A [] sz) := by
  have key : ∀ (p : Program) (e : Env) (s : State) (m : MethodId) (args : Array Value) (below : List Frame) (meth : Method) (c : Code) (A : Nat → Prop) (ls : Array Slot), cx p s m args meth c cJ3_checkIndex_8e157 3 (some .int) RJ3 D q A → va_P D vwCl [] s.heap → va_S A s.heap s.heap [] → lv_has ls 3 [(0, .int x), (1, .int n)] → W p l e rm_J0a s m args below meth c s.heap [] 0 0 (MQ below (QI D A x []) args s 0 0 A) (F0 m 0 ls []) := by
    intro p e s m args below meth c A ls C hP hS hl
    obtain ⟨hx, hb, hr, hml, hown, hts, hlk, hA, hK, hN, hV⟩ := id C
    refine lv_iload_n hx hb dJ3_checkIndex_8e157_0 rfl (lv_at hl 0 rfl) ?_
    refine lv_if_lt (tgt := 9) hx hb dJ3_checkIndex_8e157_1 (by decide) (fun c9 => absurd c9 h1) (fun _ => ?_)
    refine lv_iload_n hx hb dJ3_checkIndex_8e157_4 rfl (lv_at hl 0 rfl) ?_
    refine lv_iload_n hx hb dJ3_checkIndex_8e157_5 rfl (lv_at hl 1 rfl) ?_
    refine lv_icmp_lt (tgt := 16) hx hb dJ3_checkIndex_8e157_6 (by decide) (fun _ => ?_) (fun c9 => absurd h2 c9)
    refine lv_iload_n hx hb dJ3_checkIndex_8e157_16 rfl (lv_at hl 0 rfl) ?_
    exact k_iret C hP hS dJ3_checkIndex_8e157_17
  rcases hv with rfl | ⟨t, rfl⟩
  · refine k_met (w0 := []) (Q := fun A => QI D A x []) (by decide +kernel) (Nat.le_of_ble_eq_true rfl) ?_
    intro p e s m args below meth c A ls C hP hD hS hl
    exact key p e s m args below meth c A ls C hP hS (lv_sub hl [0, 1] rfl)
  · refine k_met (w0 := []) (Q := fun A => QI D A x []) (by decide +kernel) (Nat.le_of_ble_eq_true rfl) ?_
    intro p e s m args below meth c A ls C hP hD hS hl
    exact key p e s m args below meth c A ls C hP hS (lv_sub hl [0, 1] rfl)
theorem c_strCheck (l : Launch) (D : va_G) (q : Nat → ClassId) (x n : Int32) (h1 : ¬ x < 0) (h2 : x < n) (sz : Nat) : Met l yJ0_checkIndex_df160 (Cond.code yJ0_checkIndex_df160 cJ0_checkIndex_df160 2 none :: TB) rm_J0b (PC D q [.int x, .int n] [] sz) ((fun A => QV D A []) (va_A [] sz)) 0 0 (va_A [] sz) := by
  refine k_met (w0 := []) (Q := fun A => QV D A []) (by decide +kernel) (Nat.le_of_ble_eq_true rfl) ?_
  intro p e s m args below meth c A ls C hP hD hS hl
  have hl : lv_has ls 2 [(0, .int x), (1, .int n)] := hl
  have C : cx p s m args meth c cJ0_checkIndex_df160 2 none RJ0 D q A := C
  obtain ⟨hx, hb, hr, hml, hown, hts, hlk, hA, hK, hN, hV⟩ := id C
  refine lv_iload_n hx hb dJ0_checkIndex_df160_0 rfl (lv_at hl 0 rfl) ?_
  refine lv_iload_n hx hb dJ0_checkIndex_df160_1 rfl (lv_at hl 1 rfl) ?_
  rcases hV.2.2.2 with hZ | ⟨t, hZ⟩
  · refine va_gets hx hb hZ hS hown (hts _ flJ_J0_1053) (fun _ h => h) dJ0_checkIndex_df160_2 ?_
    refine k_inil C (k_rS (As := [.int x, .int n, .null]) (rest := []) C (c_preCheck l D q x n .null (Or.inl rfl) h1 h2 _) kc_J3_checkIndex_8e157 ml_J0_1059 rfl rfl (by decide) nilP nilD hS rfl hl.1 rfl (Nat.le_of_ble_eq_true rfl) dJ0_checkIndex_df160_5 (by decide)) hP hD hS (fun H locs hP hD hS => ?_)
    refine lv_pop hx hb dJ0_checkIndex_df160_8 rfl ?_
    exact k_vret C hP hS dJ0_checkIndex_df160_9
  · refine va_gets hx hb hZ hS hown (hts _ flJ_J0_1053) (fun _ h => h) dJ0_checkIndex_df160_2 ?_
    refine k_inil C (k_rS (As := [.int x, .int n, .ref t]) (rest := []) C (c_preCheck l D q x n (.ref t) (Or.inr ⟨t, rfl⟩) h1 h2 _) kc_J3_checkIndex_8e157 ml_J0_1059 rfl rfl (by decide) nilP nilD hS rfl hl.1 rfl (Nat.le_of_ble_eq_true rfl) dJ0_checkIndex_df160_5 (by decide)) hP hD hS (fun H locs hP hD hS => ?_)
    refine lv_pop hx hb dJ0_checkIndex_df160_8 rfl ?_
    exact k_vret C hP hS dJ0_checkIndex_df160_9
/-- the char at x of the text i -/
def sch (i : Nat) (x : Int32) : Int32 := ((((sbyt.getD i []).getD x.toNatClampNeg 0) &&& 255).toUInt32 % 65536).toInt32
theorem sch_in {x : Int32} {n : Nat} (hn : n < 1000) (h : ¬ oob x n) : ¬ x < 0 ∧ x < nI n := by
  refine ⟨fun z => h (Or.inl z), ?_⟩
  have h1 : x.toNatClampNeg < n := oob_lt h
  obtain ⟨j, hj, e⟩ := vp_in_of (show vp_in x n from h) (by omega)
  rw [e]
  exact nI_lt hj (by omega)
theorem c_latCharAt (l : Launch) (D : va_G) (q : Nat → ClassId) (i : Nat) (hi : i < 9) (x : Int32) (hx0 : ¬ oob x (slen.getD i 0)) (sz : Nat) : Met l yJ1_charAt_3b067 (Cond.code yJ1_charAt_3b067 cJ1_charAt_3b067 2 (some .char) :: TB) rm_J0c (PC D q [.ref (q (200 + i)), .int x] [] sz) ((fun A => QI D A (sch i x) []) (va_A [] sz)) 0 0 (va_A [] sz) := by
  refine k_met (w0 := []) (Q := fun A => QI D A (sch i x) []) (by decide +kernel) (Nat.le_of_ble_eq_true rfl) ?_
  intro p e s m args below meth c A ls C hP hD hS hl
  have hl : lv_has ls 2 [(0, .ref (q (200 + i))), (1, .int x)] := hl
  have C : cx p s m args meth c cJ1_charAt_3b067 2 (some .char) RJ1 D q A := C
  obtain ⟨hx, hb, hr, hml, hown, hts, hlk, hA, hK, hN, hV⟩ := id C
  obtain ⟨h1, h2⟩ := sch_in (slen_ok i hi) hx0
  refine lv_iload_n hx hb dJ1_charAt_3b067_0 rfl (lv_at hl 1 rfl) ?_
  refine lv_aload_n hx hb dJ1_charAt_3b067_1 rfl (lv_at hl 0 rfl) ?_
  refine va_tlen (v := nI (slen.getD i 0)) hx hb (hV.2.1.1 i hi).2.2.2 hS rfl dJ1_charAt_3b067_2 ?_
  refine k_vnil C (k_rS (As := [.int x, .int (nI (slen.getD i 0))]) (rest := []) C (c_strCheck l D q x (nI (slen.getD i 0)) h1 h2 _) kc_J0_checkIndex_df160 ml_J1_9 rfl rfl (by decide) nilP nilD hS rfl hl.1 rfl (Nat.le_of_ble_eq_true rfl) dJ1_charAt_3b067_3 (by decide)) hP hD hS (fun H locs hP hD hS => ?_)
  refine lv_aload_n hx hb dJ1_charAt_3b067_6 rfl (lv_at hl 0 rfl) ?_
  refine lv_iload_n hx hb dJ1_charAt_3b067_7 rfl (lv_at hl 1 rfl) ?_
  refine va_tb hx hb (hV.2.1.1 i hi).2.2.2 hS hx0 rfl dJ1_charAt_3b067_8 ?_
  refine lv_sipush (v := 255) hx hb dJ1_charAt_3b067_9 (by decide) ?_
  refine lv_iand hx hb dJ1_charAt_3b067_12 ?_
  refine lv_i2c (v := sch i x) hx hb dJ1_charAt_3b067_13 rfl ?_
  exact k_tret C (pk_nc _) hP hS dJ1_charAt_3b067_14
def F_J0_charAt (t : Nat) (x : Int32) : Option Int32 := if 9 ≤ t then none else if oob x (slen.getD t 0) then none else some (sch t x)
theorem c_J0_charAt (l : Launch) (D : va_G) (q : Nat → ClassId) (i : Nat) (sz : Nat) (x : Int32) {r : Int32} (hF : F_J0_charAt i x = some (r)) : Met l yJ0_charAt_5068e (Cond.code yJ0_charAt_5068e cJ0_charAt_5068e 2 (some .char) :: TB) rm_J0d (PC D q [.ref (q (100 + i)), .int x] [] sz) ((fun A => QI D A r []) (va_A [] sz)) 0 0 (va_A [] sz) := by
  unfold F_J0_charAt at hF
  obtain ⟨hi, hF⟩ := op_ck hF
  obtain ⟨hx0, hF⟩ := op_ck hF
  cases hF
  have hi : i < 9 := Nat.lt_of_not_le hi
  refine k_met (w0 := []) (Q := fun A => QI D A (sch i x) []) (by decide +kernel) (Nat.le_of_ble_eq_true rfl) ?_
  intro p e s m args below meth c A ls C hP hD hS hl
  have hl : lv_has ls 2 [(0, .ref (q (100 + i))), (1, .int x)] := hl
  have C : cx p s m args meth c cJ0_charAt_5068e 2 (some .char) RJ0 D q A := C
  obtain ⟨hx, hb, hr, hml, hown, hts, hlk, hA, hK, hN, hV⟩ := id C
  refine lv_aload_n hx hb dJ0_charAt_5068e_0 rfl (lv_at hl 0 rfl) ?_
  refine k_inil C (k_rV (As := []) (rest := []) C (c_isLatin1 l D q i hi _) kc_J0_isLatin1_aae02 ml_J0_492 rfl rfl (by decide) nilP nilD hS (vk_recv (adK := fun i => q (100 + i)) (i := i) hV.2.1 hi hS) rfl hl.1 rfl (Nat.le_of_ble_eq_true rfl) dJ0_charAt_5068e_1 (by decide)) hP hD hS (fun H locs hP hD hS => ?_)
  refine lv_if_eq (tgt := 16) hx hb dJ0_charAt_5068e_4 (by decide) (fun c9 => absurd c9 (by decide)) (fun _ => ?_)
  refine lv_aload_n hx hb dJ0_charAt_5068e_7 rfl (lv_at hl 0 rfl) ?_
  refine vk_getf hx hb (hV.2.1.1 i hi).2.2.1 hS hown (hts _ flJ_J0_9) (fun _ h => h) dJ0_charAt_5068e_8 ?_
  refine lv_iload_n hx hb dJ0_charAt_5068e_11 rfl (lv_at hl 1 rfl) ?_
  refine k_inil C (k_rS (As := [.ref (q (200 + i)), .int x]) (rest := []) C (c_latCharAt l D q i hi x hx0 _) kc_J1_charAt_3b067 ml_J0_495 rfl rfl (by decide) nilP nilD hS rfl hl.1 rfl (Nat.le_of_ble_eq_true rfl) dJ0_charAt_5068e_12 (by decide)) hP hD hS (fun H locs hP hD hS => ?_)
  exact k_tret C (pk_nc _) hP hS dJ0_charAt_5068e_15
theorem str_lt_L {t : Nat} {r : Int32} (h : F_J0_length t = some r) : t < 9 := by
  unfold F_J0_length at h
  exact Nat.lt_of_not_le (op_ck h).1
theorem str_lt_C {t : Nat} {x r : Int32} (h : F_J0_charAt t x = some r) : t < 9 := by
  unfold F_J0_charAt at h
  exact Nat.lt_of_not_le (op_ck h).1
