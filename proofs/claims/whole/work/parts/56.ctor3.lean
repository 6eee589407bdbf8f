section KP
variable {p : Program} {l : Launch} {e : Env} {R : Room} {s : State} {m : MethodId} {args : Array Value} {below : List Frame} {meth : Method} {c : Code} {H : Heap} {locs : List Loc} {cells slots : Nat} {cc : ByteArray} {nL : Nat} {ret : Option FieldType} {own : String} {D : va_G} {q : Nat → ClassId} {A : Nat → Prop} {Q : State → Prop}
variable {pc : Nat} {ls : Array Slot} {rest st0 : List Value} {W9 W8 : va_W} {aa : Array Value}
/-- a row of references -/
theorem k_newR {n : Int32} {index : Nat} {Cn : String} (N t0 j : Nat) (C : cx p s m args meth c cc nL ret own D q A) (hcl : Cond.classLink own index Cn ∈ TB) (hao : Cond.arrayOver (.object Cn) ∈ nestL) (ht : (tyL q)[t0]? = some (q t0, .object Cn)) (hP : va_P D vwCl W9 H) (hD : va_D A W9) (hS : va_S A s.heap H locs) (hn : ¬ n < 0 ∧ n.toNatClampNeg = N) (hby : N ≤ 100000) (hf : cells + 1 ≤ R.cells ∧ slots + N ≤ R.slots) (hdg : decode cc pc = .ok (.anewarray index, 3))
    (kk : ∀ (x : Nat) (H1 : Heap), va_P D vwCl (W9 ++ [(x, .inl (q t0, N, .inr (.inr (.inr (.inr (fun _ => none))))))]) H1 → va_D A (W9 ++ [(x, .inl (q t0, N, .inr (.inr (.inr (.inr (fun _ => none))))))]) → va_S A s.heap H1 locs → W p l e R s m args below meth c H1 locs (cells + 1) (slots + N) Q (F0 m (pc + 3) ls (.ref x :: rest))) : W p l e R s m args below meth c H locs cells slots Q (F0 m pc ls (.int n :: rest)) := by
  obtain ⟨hx, hb, hr, hml, hown, hts, hlk, hA, hK, hN, hV⟩ := C
  refine va_newq (N' := N) hx hb hown (hts _ hcl) (hN _ hao) hK hP hD hS hA hn.1 hn.2 (by omega) hf.1 hf.2 hdg (fun x cA H1 hK1 hP1 hD1 hS1 => ?_)
  obtain ⟨k1, c1, -, -, -, h1⟩ := (hK1.2 6 (cA, .object Cn) rfl).2
  obtain ⟨k2, c2, -, -, -, h2⟩ := (hK.2 t0 (q t0, .object Cn) ht).2
  have e9 : cA = q t0 := Option.some.inj (h1.symm.trans h2)
  subst e9
  exact kk x H1 hP1 hD1 hS1
theorem k_ast {a n v ci t0 j9 : Nat} {r : vw_C} {vs : List Value} {f : Nat → Option Nat} {i : Int32} (C : cx p s m args meth c cc nL ret own D q A) (hP : va_P D vwCl W9 H) (hD : va_D A W9) (hS : va_S A s.heap H locs) (q0 qk : Nat) (ha : W9[q0]? = some (a, .inl (q t0, n, .inr (.inr (.inr (.inr f)))))) (ht : (tyL q)[t0]? = some (q t0, .object r.1)) (hv : W9[qk]? = some (v, .inr (ci, vs))) (hc : vwCl[ci]? = some r) (hin : ¬ oob i n) (hj : i.toNatClampNeg = j9) (hdg : decode cc pc = .ok (.aastore, 1)) (hw : W9.set q0 (a, .inl (q t0, n, .inr (.inr (.inr (.inr (va_up f j9 (some v))))))) = W8)
    (kk : ∀ (H1 : Heap) (locs1 : List Loc), va_P D vwCl W8 H1 → va_D A W8 → va_S A s.heap H1 locs1 → W p l e R s m args below meth c H1 locs1 cells slots Q (F0 m (pc + 1) ls rest)) : W p l e R s m args below meth c H locs cells slots Q (F0 m pc ls (.ref v :: .int i :: .ref a :: rest)) := by
  obtain ⟨hx, hb, hr, hml, hown, hts, hlk, hA, hK, hN, hV⟩ := C
  subst hj
  subst hw
  exact va_astq hx hb hK hP hD hS q0 t0 qk ci ha ht hv hc hin hdg kk
theorem k_vsetC {a : Nat} {x y : va_E} (C : cx p s m args meth c cc nL ret own D q A) (hr : va_Run p l e R s m args below meth c H locs cells slots 0 0 (F0 m pc ls st0) rest (QV D (va_A [(a, x)] H.size) [(a, y)] aa) (va_A [(a, x)] H.size)) (hP : va_P D vwCl W9 H) (hD : va_D A W9) (hS : va_S A s.heap H locs) (pos : Nat) (ha : W9[pos]? = some (a, x)) (hw : W9.set pos (a, y) = W8)
    (kk : ∀ (H1 : Heap) (locs1 : List Loc), va_P D vwCl W8 H1 → va_D A W8 → va_S A s.heap H1 locs1 → W p l e R s m args below meth c H1 locs1 cells slots Q (F0 m (pc + 3) ls rest)) : W p l e R s m args below meth c H locs cells slots Q (F0 m pc ls st0) := by
  obtain ⟨hx, hb, hr0, hml, hown, hts, hlk, hA, hK, hN, hV⟩ := C
  have hlt : pos < W9.length := (List.getElem?_eq_some_iff.mp ha).1
  have hC : [pos].map (fun i => W9[i]?) = [(a, x)].map some := by simp [ha]
  have hF := va_free hD hS hA [pos] hC
  refine va_callv hr hS (fun q _ h => hF q h) (hF) (fun u t H1 locs1 ht hvm hw2 hB hz1 hk1 hS1 => ?_)
  rw [ht] at hB
  subst hw
  obtain ⟨hP1, hD1⟩ := kw_rep (W8 := W9.set pos (a, y)) (w1 := [(a, y)]) hP hD [pos] hC (by simp [List.getElem?_set_self hlt]) (fun k hk => List.getElem?_set_ne (fun h => hk (by simp [h]))) rfl hk1 hB
  exact kk H1 locs1 hP1 hD1 hS1
theorem k_ctorN {y : MethodName} {by2 : ByteArray} {mL n index mc ms x : Nat} {b : va_E} {rm : Room} {As : List Value} {host : String} {B : (Nat → Nat → Nat) → va_W} (C : cx p s m args meth c cc nL ret own D q A) (hM : Met l y (Cond.code y by2 mL none :: TB) rm (PC D q (.ref x :: As) [(x, b)] H.size) (QN D (va_A [(x, b)] H.size) B) mc ms (va_A [(x, b)] H.size)) (hk : cI y by2 mL n) (hl : Cond.methodLinkNest own index y host ∈ nestL) (hrc : rm.cells = mc) (hrs : rm.slots = ms) (hR : rm.frames + 1 ≤ R.frames ∧ 8 + (mL + 11) + rm.locals ≤ R.locals) (hP : va_P D vwCl (W9 ++ [(x, b)]) H) (hD : va_D A (W9 ++ [(x, b)])) (hS : va_S A s.heap H locs)
    (hn : As.length = n) (hsz : ls.size = nL) (hst : st0 = As.reverse ++ .ref x :: rest) (hW : (rest.map fun v => v.category).sum ≤ 8) (hdg : decode cc pc = .ok (.invokespecial index, 3)) (hf : cells + mc ≤ R.cells ∧ slots + ms ≤ R.slots)
    (kk : ∀ (h : Nat → Nat → Nat) (H1 : Heap) (locs1 : List Loc), va_P D vwCl (W9 ++ B h) H1 → va_D A (W9 ++ B h) → va_S A s.heap H1 locs1 → W p l e R s m args below meth c H1 locs1 (cells + mc) (slots + ms) Q (F0 m (pc + 3) ls rest)) : W p l e R s m args below meth c H locs cells slots Q (F0 m pc ls st0) := by
  obtain ⟨hx, hb, hr, hml, hown, hts, hlk, hA, hK, hN, hV⟩ := C
  obtain ⟨k1, k3, k4, k6, k5⟩ := hk
  have hPx : va_P D vwCl [(x, b)] H := vaP_mem.mpr (fun z hz => vaP_mem.mp hP z (List.mem_append_right _ hz))
  have hdd := vaD_mem.mp hD
  have hDx : va_D A [(x, b)] := vaD_mem.mpr ⟨(List.pairwise_append.mp hdd.1).2.1, fun z hz => hdd.2 z (List.mem_append_right _ hz)⟩
  have hF := ke_Aall hDx hS hA
  refine va_callv (va_runIN ⟨hx, hb, hml, hown, hts⟩ hM ⟨va_cnB n hts (tb_good k3) rfl hrc hrs (hN _ hl) (hts _ k4) k5 hR, k6, hts _ k1⟩ ⟨PC.blind, PC.mk ⟨hK, hN⟩ hV hA hS hPx hDx⟩ rfl hn hsz hst (lv_room hW) hdg hf) hS (fun q _ h => hF q h) hF (fun h t H1 locs1 ht hvm hw hB hz1 hk1 hS1 => ?_)
  obtain ⟨hB1, hB2⟩ := hB
  rw [ht] at hB1
  obtain ⟨hP1, hD1⟩ := k_join hP hD hk1 hF hB1 hB2
  exact kk h H1 locs1 hP1 hD1 hS1
theorem k_vallC {gs gs8 : List va_W} (C : cx p s m args meth c cc nL ret own D q A) (hr : va_Run p l e R s m args below meth c H locs cells slots 0 0 (F0 m pc ls st0) rest (QV D (va_A (fl gs) H.size) (fl gs8) aa) (va_A (fl gs) H.size)) (hP : va_P D vwCl (fl gs) H) (hD : va_D A (fl gs)) (hS : va_S A s.heap H locs) (hf : gs8.map (fun g => g.map (fun x => x.1)) = gs.map (fun g => g.map (fun x => x.1)))
    (kk : ∀ (H1 : Heap) (locs1 : List Loc), va_P D vwCl (fl gs8) H1 → va_D A (fl gs8) → va_S A s.heap H1 locs1 → W p l e R s m args below meth c H1 locs1 cells slots Q (F0 m (pc + 3) ls rest)) : W p l e R s m args below meth c H locs cells slots Q (F0 m pc ls st0) := by
  obtain ⟨hx, hb, hr0, hml, hown, hts, hlk, hA, hK, hN, hV⟩ := C
  have hF := ke_Aall hD hS hA
  refine va_callv hr hS (fun q _ h => hF q h) (hF) (fun u t H1 locs1 ht hvm hw hB hz1 hk1 hS1 => ?_)
  rw [ht] at hB
  obtain ⟨hP1, hD1⟩ := kw_all hD (flA hf) hB
  exact kk H1 locs1 hP1 hD1 hS1
theorem k_vgrpC {gs gs8 gc g1 : List va_W} (C : cx p s m args meth c cc nL ret own D q A) (hr : va_Run p l e R s m args below meth c H locs cells slots 0 0 (F0 m pc ls st0) rest (QV D (va_A (fl gc) H.size) (fl g1) aa) (va_A (fl gc) H.size)) (hP : va_P D vwCl (fl gs) H) (hD : va_D A (fl gs)) (hS : va_S A s.heap H locs) (isC isR : List Nat) (gr : List va_W) (N : Nat) (hn : isC.Nodup) (hC : isC.map (fun i => gs[i]?) = gc.map some) (hC8 : isC.map (fun i => gs8[i]?) = g1.map some) (h9 : isR.map (fun i => gs[i]?) = gr.map some) (h8 : isR.map (fun i => gs8[i]?) = gr.map some) (hl8 : gs8.length = N) (hc : (List.range N).all (fun k => isC.contains k || (isR.contains k && !isC.contains k)) = true) (hf : gs8.map (fun g => g.map (fun x => x.1)) = gs.map (fun g => g.map (fun x => x.1)))
    (kk : ∀ (H1 : Heap) (locs1 : List Loc), va_P D vwCl (fl gs8) H1 → va_D A (fl gs8) → va_S A s.heap H1 locs1 → W p l e R s m args below meth c H1 locs1 cells slots Q (F0 m (pc + 3) ls rest)) : W p l e R s m args below meth c H locs cells slots Q (F0 m pc ls st0) := by
  obtain ⟨hx, hb, hr0, hml, hown, hts, hlk, hA, hK, hN, hV⟩ := C
  have hF := ke_Aall (flD hD isC hn hC) hS hA
  refine va_callv hr hS (fun q _ h => hF q h) (hF) (fun u t H1 locs1 ht hvm hw hB hz1 hk1 hS1 => ?_)
  rw [ht] at hB
  obtain ⟨hP1, hD1⟩ := kw_grp (gs8 := gs8) hP hD isC isR N hC hC8 h9 h8 hl8 hc hf hk1 hB
  exact kk H1 locs1 hP1 hD1 hS1
end KP
theorem k_cellr {c1 : ClassId} {n : Nat} {f g : Nat → Option Nat} (h : ∀ j, j < n → f j = g j) : vp_cell c1 (n, .inr (.inr (.inr (.inr f)))) = vp_cell c1 (n, .inr (.inr (.inr (.inr g)))) := by
  rw [vp_cell_q, vp_cell_q]
  unfold arrV
  congr 2
  funext j
  show va_rf (f j.val) = va_rf (g j.val)
  rw [h j.val j.isLt]

theorem ob_X3 : Cond.methodLink RX3 1 objectInit ∈ TB := tb_2 (List.mem_of_getElem? (i := 67) (by decide +kernel)) (by decide +kernel)
theorem cl_X3_7 : Cond.classLink RX3 7 RX8 ∈ TB := tb_2 (List.mem_of_getElem? (i := 68) (by decide +kernel)) (by decide +kernel)
theorem is_X8 : Cond.instantiable RX8 15 ∈ TB := tb_1 (List.mem_of_getElem? (i := 154) (by decide +kernel)) (by decide +kernel)
theorem ml_X3_9 : Cond.methodLink RX3 9 yX8_init ∈ TB := tb_2 (List.mem_of_getElem? (i := 69) (by decide +kernel)) (by decide +kernel)
theorem cd_X8_init : Cond.code yX8_init cX8_init 1 none ∈ TB := tb_1 (List.mem_of_getElem? (i := 157) (by decide +kernel)) (by decide +kernel)
theorem im_X8_init : Cond.instanceMethod yX8_init ∈ TB := tb_1 (List.mem_of_getElem? (i := 156) (by decide +kernel)) (by decide +kernel)
theorem ki_X8_init : cI yX8_init cX8_init 1 0 := ⟨im_X8_init, cd_X8_init, in_X8, rfl, by decide +kernel, by decide +kernel, by decide +kernel⟩
theorem fl_X3_10 : Cond.fieldLink RX3 10 RX3 (TX3 0).2.1 (TX3 0).2.2.1 ∈ TB := tb_2 (List.mem_of_getElem? (i := 72) (by decide +kernel)) (by decide +kernel)
theorem ff_X3_10 : fpF RX3 10 3 0 (.object "TurretViews$Suburb") := ⟨RX3, RX3, TX3, 3, tyX3, rfl, by decide, tbX3, fl_X3_10, fun _ _ h => h, tyX3_ok, nmX3, rfl, rfl, by decide +kernel⟩
theorem cl_X3_16 : Cond.classLink RX3 16 RX7 ∈ TB := tb_2 (List.mem_of_getElem? (i := 70) (by decide +kernel)) (by decide +kernel)
theorem is_X7 : Cond.instantiable RX7 5 ∈ TB := tb_1 (List.mem_of_getElem? (i := 236) (by decide +kernel)) (by decide +kernel)
theorem ml_X3_18 : Cond.methodLink RX3 18 yX7_init ∈ TB := tb_2 (List.mem_of_getElem? (i := 71) (by decide +kernel)) (by decide +kernel)
theorem cd_X7_init : Cond.code yX7_init cX7_init 1 none ∈ TB := tb_1 (List.mem_of_getElem? (i := 239) (by decide +kernel)) (by decide +kernel)
theorem im_X7_init : Cond.instanceMethod yX7_init ∈ TB := tb_1 (List.mem_of_getElem? (i := 238) (by decide +kernel)) (by decide +kernel)
theorem ki_X7_init : cI yX7_init cX7_init 1 0 := ⟨im_X7_init, cd_X7_init, in_X7, rfl, by decide +kernel, by decide +kernel, by decide +kernel⟩
theorem fl_X3_19 : Cond.fieldLink RX3 19 RX3 (TX3 1).2.1 (TX3 1).2.2.1 ∈ TB := tb_2 (List.mem_of_getElem? (i := 74) (by decide +kernel)) (by decide +kernel)
theorem ff_X3_19 : fpF RX3 19 3 1 (.object "TurretViews$Sentence") := ⟨RX3, RX3, TX3, 3, tyX3, rfl, by decide, tbX3, fl_X3_19, fun _ _ h => h, tyX3_ok, nmX3, rfl, rfl, by decide +kernel⟩
theorem fl_X3_23 : Cond.fieldLink RX3 23 RX3 (TX3 2).2.1 (TX3 2).2.2.1 ∈ TB := tb_2 (List.mem_of_getElem? (i := 76) (by decide +kernel)) (by decide +kernel)
theorem fp_X3_23 : fp RX3 23 3 2 .boolean := ⟨RX3, RX3, TX3, 3, tyX3, rfl, by decide, tbX3, fl_X3_23, fun _ _ h => h, tyX3_ok, nmX3, rfl, by decide +kernel⟩
set_option maxRecDepth 100000 in
set_option maxHeartbeats 8000000 in
theorem c_X3_init (l : Launch) (D : va_G) (q : Nat → ClassId) (o sz : Nat) : Met l yX3_init (Cond.code yX3_init cX3_init 1 none :: TB) ({ frames := 2, cells := 15, slots := 204, locals := 32 } : Room) (PC D q [.ref o] [(o, .inr (3, [.null, .null, .int 0]))] sz) ((fun A => QN D A (fun h => fl [g3 q o (h 0) Z0, g8 q (h 0 1) (h 1) Z0, g7 q (h 0 2) (h 2) Z0])) (va_A [(o, .inr (3, [.null, .null, .int 0]))] sz)) 15 204 (va_A [(o, .inr (3, [.null, .null, .int 0]))] sz) := by
  refine k_metI (w0 := [(o, .inr (3, [.null, .null, .int 0]))]) (Q := fun A => QN D A (fun h => fl [g3 q o (h 0) Z0, g8 q (h 0 1) (h 1) Z0, g7 q (h 0 2) (h 2) Z0])) (by decide +kernel) (Nat.le_of_ble_eq_true rfl) ?_
  intro p e s m args below meth c A ls hin C hP hD hS hl
  have hl : lv_has ls 1 [(0, .ref o)] := hl
  have C : cx p s m args meth c cX3_init 1 none RX3 D q A := C
  obtain ⟨hx, hb, hr, hml, hown, hts, hlk, hA, hK, hN, hV⟩ := id C
  refine lv_aload_n hx hb dX3_init_0 rfl (lv_at hl 0 rfl) ?_
  refine k_obj C ob_X3 kobj hl.1 ⟨Nat.le_of_ble_eq_true rfl, Nat.le_of_ble_eq_true rfl⟩ dX3_init_1 ?_
  refine lv_aload_n hx hb dX3_init_4 rfl (lv_at hl 0 rfl) ?_
  refine k_newO (ci := 8) (fs := [.int 0, .null, .null, .null, .null, .int 0, .int 0, .int 0, .null, .null, .null, .null, .null, .null, .int 0]) tyX8 C rfl tbX8 tyX8_ok cl_X3_7 is_X8 in_X8 hP hD hS (by intro j hj; match j, hj with | 0, _ => rfl | 1, _ => rfl | 2, _ => rfl | 3, _ => rfl | 4, _ => rfl | 5, _ => rfl | 6, _ => rfl | 7, _ => rfl | 8, _ => rfl | 9, _ => rfl | 10, _ => rfl | 11, _ => rfl | 12, _ => rfl | 13, _ => rfl | 14, _ => rfl) (by decide) dX3_init_5 (fun x1 H hP hD hS => ?_)
  refine W.widen (k := 1) (n := 15) (by omega) (by omega) ?_
  refine lv_dup hx hb dX3_init_8 rfl ?_
  refine k_ctor (W9 := [(o, .inr (3, [.null, .null, .int 0]))]) (B := fun h => fl [g8 q x1 (h 0) Z0]) (As := []) (rest := [.ref x1, .ref o]) C (c_X8_init l D q x1 _) ki_X8_init ml_X3_9 rfl rfl (by decide) hP hD hS rfl hl.1 rfl (Nat.le_of_ble_eq_true rfl) dX3_init_9 (by decide) (fun h2 H locs hP hD hS => ?_)
  refine W.widen (k := 11) (n := 79) (by omega) (by omega) ?_
  refine k_putF (W8 := [(o, .inr (3, [.ref x1, .null, .int 0]))] ++ fl [g8 q x1 (h2 0) Z0]) C hin ff_X3_10 hP hD hS 0 rfl rfl rfl (Nat.le_of_ble_eq_true rfl) dX3_init_12 rfl (fun H locs hP hD hS => ?_)
  refine lv_aload_n hx hb dX3_init_15 rfl (lv_at hl 0 rfl) ?_
  refine k_newO (ci := 7) (fs := [.null, .null, .null, .int 0, .int 0]) tyX7 C rfl tbX7 tyX7_ok cl_X3_16 is_X7 in_X7 hP hD hS (by intro j hj; match j, hj with | 0, _ => rfl | 1, _ => rfl | 2, _ => rfl | 3, _ => rfl | 4, _ => rfl) (by decide) dX3_init_16 (fun x3 H hP hD hS => ?_)
  refine W.widen (k := 12) (n := 84) (by omega) (by omega) ?_
  refine lv_dup hx hb dX3_init_19 rfl ?_
  refine k_ctor (W9 := [(o, .inr (3, [.ref x1, .null, .int 0]))] ++ fl [g8 q x1 (h2 0) Z0]) (B := fun h => fl [g7 q x3 (h 0) Z0]) (As := []) (rest := [.ref x3, .ref o]) C (c_X7_init l D q x3 _) ki_X7_init ml_X3_18 rfl rfl (by decide) hP hD hS rfl hl.1 rfl (Nat.le_of_ble_eq_true rfl) dX3_init_20 (by decide) (fun h4 H locs hP hD hS => ?_)
  refine W.widen (k := 15) (n := 204) (by omega) (by omega) ?_
  refine k_putF (W8 := [(o, .inr (3, [.ref x1, .ref x3, .int 0]))] ++ fl [g8 q x1 (h2 0) Z0] ++ fl [g7 q x3 (h4 0) Z0]) C hin ff_X3_19 hP hD hS 0 rfl rfl rfl (Nat.le_of_ble_eq_true rfl) dX3_init_23 rfl (fun H locs hP hD hS => ?_)
  refine lv_aload_n hx hb dX3_init_26 rfl (lv_at hl 0 rfl) ?_
  refine lv_iconst (v := (0 : Int32)) hx hb dX3_init_27 (by decide) ?_
  refine k_put (W8 := [(o, .inr (3, [.ref x1, .ref x3, .int (0 : Int32)]))] ++ fl [g8 q x1 (h2 0) Z0] ++ fl [g7 q x3 (h4 0) Z0]) C fp_X3_23 hP hD hS 0 rfl rfl rfl (Nat.le_of_ble_eq_true rfl) dX3_init_28 rfl (fun H locs hP hD hS => ?_)
  have e9 : [(o, .inr (3, [.ref x1, .ref x3, .int (0 : Int32)]))] ++ fl [g8 q x1 (h2 0) Z0] ++ fl [g7 q x3 (h4 0) Z0] = (fun h => fl [g3 q o (h 0) Z0, g8 q (h 0 1) (h 1) Z0, g7 q (h 0 2) (h 2) Z0]) (fun n => if n = 0 then (fun k => if k = 1 then x1 else if k = 2 then x3 else 0) else if n = 1 then h2 0 else if n = 2 then h4 0 else fun _ => 0) := by
    simp [fl, g3, Z0]
  rw [e9] at hP hD
  exact k_nret (B := fun h => fl [g3 q o (h 0) Z0, g8 q (h 0 1) (h 1) Z0, g7 q (h 0 2) (h 2) Z0]) C (fun n => if n = 0 then (fun k => if k = 1 then x1 else if k = 2 then x3 else 0) else if n = 1 then h2 0 else if n = 2 then h4 0 else fun _ => 0) hP hD hS dX3_init_31
