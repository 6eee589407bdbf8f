/-! the start, and the claim -/
theorem cl_L_8 : Cond.classLink RL 8 RX11 ∈ TB := tb_1 (List.mem_of_getElem? (i := 26) (by decide +kernel)) (by decide +kernel)
theorem cl_L_16 : Cond.classLink RL 16 RX12 ∈ TB := tb_6 (List.mem_of_getElem? (i := 42) (by decide +kernel)) (by decide +kernel)
theorem cd_X11_init : Cond.code yX11_init cX11_init 2 none ∈ TB := tb_1 (List.mem_of_getElem? (i := 30) (by decide +kernel)) (by decide +kernel)
theorem im_X11_init : Cond.instanceMethod yX11_init ∈ TB := tb_1 (List.mem_of_getElem? (i := 29) (by decide +kernel)) (by decide +kernel)
theorem is_X11 : Cond.instantiable RX11 17 ∈ TB := tb_1 (List.mem_of_getElem? (i := 27) (by decide +kernel)) (by decide +kernel)
theorem ki_X11_init : cI yX11_init cX11_init 2 0 := ⟨im_X11_init, cd_X11_init, in_X11, rfl, by decide +kernel, by decide +kernel, by decide +kernel⟩
theorem cd_X12_init : Cond.code yX12_init cX12_init 2 none ∈ TB := tb_6 (List.mem_of_getElem? (i := 45) (by decide +kernel)) (by decide +kernel)
theorem im_X12_init : Cond.instanceMethod yX12_init ∈ TB := tb_6 (List.mem_of_getElem? (i := 44) (by decide +kernel)) (by decide +kernel)
theorem is_X12 : Cond.instantiable RX12 51 ∈ TB := tb_6 (List.mem_of_getElem? (i := 36) (by decide +kernel)) (by decide +kernel)
theorem ki_X12_init : cI yX12_init cX12_init 2 0 := ⟨im_X12_init, cd_X12_init, in_X12, rfl, by decide +kernel, by decide +kernel, by decide +kernel⟩
theorem ml_L_15 : Cond.methodLink RL 15 yX11_init ∈ TB := tb_1 (List.mem_of_getElem? (i := 28) (by decide +kernel)) (by decide +kernel)
theorem ml_L_18 : Cond.methodLink RL 18 yX12_init ∈ TB := tb_6 (List.mem_of_getElem? (i := 43) (by decide +kernel)) (by decide +kernel)
theorem lt_1 {w : Cond} (h : w ∈ tables_1_1) : w ∈ lw_tbl := List.mem_append_right _ (List.mem_append_left _ h)
theorem lt_2 {w : Cond} (h : w ∈ tables_1_2) : w ∈ lw_tbl := List.mem_append_right _ (List.mem_append_right _ (List.mem_append_left _ h))
theorem lt_3 {w : Cond} (h : w ∈ tables_1_3) : w ∈ lw_tbl := List.mem_append_right _ (List.mem_append_right _ (List.mem_append_right _ (List.mem_append_left _ h)))
theorem lt_4 {w : Cond} (h : w ∈ tables_1_4) : w ∈ lw_tbl := List.mem_append_right _ (List.mem_append_right _ (List.mem_append_right _ (List.mem_append_right _ (List.mem_append_left _ h))))
theorem lt_5 {w : Cond} (h : w ∈ tables_1_5) : w ∈ lw_tbl := List.mem_append_right _ (List.mem_append_right _ (List.mem_append_right _ (List.mem_append_right _ (List.mem_append_right _ (List.mem_append_left _ h)))))
theorem lt_6 {w : Cond} (h : w ∈ tables_1_6) : w ∈ lw_tbl := List.mem_append_right _ (List.mem_append_right _ (List.mem_append_right _ (List.mem_append_right _ (List.mem_append_right _ (List.mem_append_right _ (List.mem_append_left _ h))))))
theorem lt_7 {w : Cond} (h : w ∈ tables_1_7) : w ∈ lw_tbl := List.mem_append_right _ (List.mem_append_right _ (List.mem_append_right _ (List.mem_append_right _ (List.mem_append_right _ (List.mem_append_right _ (List.mem_append_right _ (List.mem_append_left _ h)))))))
theorem lt_8 {w : Cond} (h : w ∈ tables_1_8) : w ∈ lw_tbl := List.mem_append_right _ (List.mem_append_right _ (List.mem_append_right _ (List.mem_append_right _ (List.mem_append_right _ (List.mem_append_right _ (List.mem_append_right _ (List.mem_append_right _ (h))))))))
def tmS (i : Nat) : Term := ([.string RX5 34, .string RX5 40, .string RX5 42, .string RX11 330, .string RX11 338, .string RX11 378, .string RX11 380, .string RX11 143, .string RX11 170] : List Term).getD i (.int 0)
def GF : List Cond := flatC (Jvm.Cond.and given_1 narrow_1)
theorem g_ex : ∀ i : Nat, i < 9 → Cond.exactly (tmS i) "java/lang/String" ∈ GF := by
  intro i hi
  match i, hi with
  | 0, _ => exact List.mem_of_getElem? (i := 54) (by decide +kernel)
  | 1, _ => exact List.mem_of_getElem? (i := 153) (by decide +kernel)
  | 2, _ => exact List.mem_of_getElem? (i := 199) (by decide +kernel)
  | 3, _ => exact List.mem_of_getElem? (i := 266) (by decide +kernel)
  | 4, _ => exact List.mem_of_getElem? (i := 277) (by decide +kernel)
  | 5, _ => exact List.mem_of_getElem? (i := 292) (by decide +kernel)
  | 6, _ => exact List.mem_of_getElem? (i := 309) (by decide +kernel)
  | 7, _ => exact List.mem_of_getElem? (i := 320) (by decide +kernel)
  | 8, _ => exact List.mem_of_getElem? (i := 345) (by decide +kernel)
theorem g_co : ∀ i : Nat, i < 9 → Cond.eq (.field (tmS i) "java/lang/String" "coder" "B") (.int 0) ∈ GF := by
  intro i hi
  match i, hi with
  | 0, _ => exact List.mem_of_getElem? (i := 55) (by decide +kernel)
  | 1, _ => exact List.mem_of_getElem? (i := 154) (by decide +kernel)
  | 2, _ => exact List.mem_of_getElem? (i := 200) (by decide +kernel)
  | 3, _ => exact List.mem_of_getElem? (i := 267) (by decide +kernel)
  | 4, _ => exact List.mem_of_getElem? (i := 278) (by decide +kernel)
  | 5, _ => exact List.mem_of_getElem? (i := 293) (by decide +kernel)
  | 6, _ => exact List.mem_of_getElem? (i := 310) (by decide +kernel)
  | 7, _ => exact List.mem_of_getElem? (i := 321) (by decide +kernel)
  | 8, _ => exact List.mem_of_getElem? (i := 346) (by decide +kernel)
theorem g_ar : ∀ i : Nat, i < 9 → Cond.arrayOf (.field (tmS i) "java/lang/String" "value" "[B") .byte ∈ GF := by
  intro i hi
  match i, hi with
  | 0, _ => exact List.mem_of_getElem? (i := 56) (by decide +kernel)
  | 1, _ => exact List.mem_of_getElem? (i := 155) (by decide +kernel)
  | 2, _ => exact List.mem_of_getElem? (i := 201) (by decide +kernel)
  | 3, _ => exact List.mem_of_getElem? (i := 268) (by decide +kernel)
  | 4, _ => exact List.mem_of_getElem? (i := 279) (by decide +kernel)
  | 5, _ => exact List.mem_of_getElem? (i := 294) (by decide +kernel)
  | 6, _ => exact List.mem_of_getElem? (i := 311) (by decide +kernel)
  | 7, _ => exact List.mem_of_getElem? (i := 322) (by decide +kernel)
  | 8, _ => exact List.mem_of_getElem? (i := 347) (by decide +kernel)
theorem g_le : ∀ i : Nat, i < 9 → Cond.eq (.length (.field (tmS i) "java/lang/String" "value" "[B")) (.int (Int32.ofNat (slen.getD i 0))) ∈ GF := by
  intro i hi
  match i, hi with
  | 0, _ => exact List.mem_of_getElem? (i := 57) (by decide +kernel)
  | 1, _ => exact List.mem_of_getElem? (i := 156) (by decide +kernel)
  | 2, _ => exact List.mem_of_getElem? (i := 202) (by decide +kernel)
  | 3, _ => exact List.mem_of_getElem? (i := 269) (by decide +kernel)
  | 4, _ => exact List.mem_of_getElem? (i := 280) (by decide +kernel)
  | 5, _ => exact List.mem_of_getElem? (i := 295) (by decide +kernel)
  | 6, _ => exact List.mem_of_getElem? (i := 312) (by decide +kernel)
  | 7, _ => exact List.mem_of_getElem? (i := 323) (by decide +kernel)
  | 8, _ => exact List.mem_of_getElem? (i := 348) (by decide +kernel)
theorem g_row {f : Nat → Cond} {a n : Nat} (h : (GF.drop a).take n = (List.range n).map f) {j : Nat} (hj : j < n) : f j ∈ GF := List.mem_of_mem_drop (List.mem_of_mem_take (by rw [h]; exact List.mem_map.mpr ⟨j, List.mem_range.mpr hj, rfl⟩))
theorem g_el0 : (GF.drop 58).take 95 = (List.range 95).map (fun j => Cond.eq (.elem (.field (tmS 0) "java/lang/String" "value" "[B") (.int (Int32.ofNat j))) (.int ((sbyt.getD 0 []).getD j 0))) := by decide +kernel
theorem g_el1 : (GF.drop 157).take 41 = (List.range 41).map (fun j => Cond.eq (.elem (.field (tmS 1) "java/lang/String" "value" "[B") (.int (Int32.ofNat j))) (.int ((sbyt.getD 1 []).getD j 0))) := by decide +kernel
theorem g_el2 : (GF.drop 203).take 61 = (List.range 61).map (fun j => Cond.eq (.elem (.field (tmS 2) "java/lang/String" "value" "[B") (.int (Int32.ofNat j))) (.int ((sbyt.getD 2 []).getD j 0))) := by decide +kernel
theorem g_el3 : (GF.drop 270).take 4 = (List.range 4).map (fun j => Cond.eq (.elem (.field (tmS 3) "java/lang/String" "value" "[B") (.int (Int32.ofNat j))) (.int ((sbyt.getD 3 []).getD j 0))) := by decide +kernel
theorem g_el4 : (GF.drop 281).take 7 = (List.range 7).map (fun j => Cond.eq (.elem (.field (tmS 4) "java/lang/String" "value" "[B") (.int (Int32.ofNat j))) (.int ((sbyt.getD 4 []).getD j 0))) := by decide +kernel
theorem g_el5 : (GF.drop 296).take 8 = (List.range 8).map (fun j => Cond.eq (.elem (.field (tmS 5) "java/lang/String" "value" "[B") (.int (Int32.ofNat j))) (.int ((sbyt.getD 5 []).getD j 0))) := by decide +kernel
theorem g_el6 : (GF.drop 313).take 1 = (List.range 1).map (fun j => Cond.eq (.elem (.field (tmS 6) "java/lang/String" "value" "[B") (.int (Int32.ofNat j))) (.int ((sbyt.getD 6 []).getD j 0))) := by decide +kernel
theorem g_el7 : (GF.drop 324).take 14 = (List.range 14).map (fun j => Cond.eq (.elem (.field (tmS 7) "java/lang/String" "value" "[B") (.int (Int32.ofNat j))) (.int ((sbyt.getD 7 []).getD j 0))) := by decide +kernel
theorem g_el8 : (GF.drop 349).take 12 = (List.range 12).map (fun j => Cond.eq (.elem (.field (tmS 8) "java/lang/String" "value" "[B") (.int (Int32.ofNat j))) (.int ((sbyt.getD 8 []).getD j 0))) := by decide +kernel
theorem g_el : ∀ i : Nat, i < 9 → ∀ j : Nat, j < slen.getD i 0 → Cond.eq (.elem (.field (tmS i) "java/lang/String" "value" "[B") (.int (Int32.ofNat j))) (.int ((sbyt.getD i []).getD j 0)) ∈ GF := by
  intro i hi j hj
  match i, hi, hj with
  | 0, _, hj => exact g_row g_el0 hj
  | 1, _, hj => exact g_row g_el1 hj
  | 2, _, hj => exact g_row g_el2 hj
  | 3, _, hj => exact g_row g_el3 hj
  | 4, _, hj => exact g_row g_el4 hj
  | 5, _, hj => exact g_row g_el5 hj
  | 6, _, hj => exact g_row g_el6 hj
  | 7, _, hj => exact g_row g_el7 hj
  | 8, _, hj => exact g_row g_el8 hj
theorem g_ne1 : (GF.drop 198).take 1 = (List.range 1).map (fun i => Cond.not (Cond.eq (tmS i) (tmS 1))) := by decide +kernel
theorem g_ne2 : (GF.drop 264).take 2 = (List.range 2).map (fun i => Cond.not (Cond.eq (tmS i) (tmS 2))) := by decide +kernel
theorem g_ne3 : (GF.drop 274).take 3 = (List.range 3).map (fun i => Cond.not (Cond.eq (tmS i) (tmS 3))) := by decide +kernel
theorem g_ne4 : (GF.drop 288).take 4 = (List.range 4).map (fun i => Cond.not (Cond.eq (tmS i) (tmS 4))) := by decide +kernel
theorem g_ne5 : (GF.drop 304).take 5 = (List.range 5).map (fun i => Cond.not (Cond.eq (tmS i) (tmS 5))) := by decide +kernel
theorem g_ne6 : (GF.drop 314).take 6 = (List.range 6).map (fun i => Cond.not (Cond.eq (tmS i) (tmS 6))) := by decide +kernel
theorem g_ne7 : (GF.drop 338).take 7 = (List.range 7).map (fun i => Cond.not (Cond.eq (tmS i) (tmS 7))) := by decide +kernel
theorem g_ne8 : (GF.drop 361).take 8 = (List.range 8).map (fun i => Cond.not (Cond.eq (tmS i) (tmS 8))) := by decide +kernel
theorem g_nel : ∀ j : Nat, j < 9 → ∀ i : Nat, i < j → Cond.not (Cond.eq (tmS i) (tmS j)) ∈ GF := by
  intro j hj i hi
  match j, hj, hi with
  | 0, _, hi => exact absurd hi (Nat.not_lt_zero i)
  | 1, _, hi => exact g_row g_ne1 hi
  | 2, _, hi => exact g_row g_ne2 hi
  | 3, _, hi => exact g_row g_ne3 hi
  | 4, _, hi => exact g_row g_ne4 hi
  | 5, _, hi => exact g_row g_ne5 hi
  | 6, _, hi => exact g_row g_ne6 hi
  | 7, _, hi => exact g_row g_ne7 hi
  | 8, _, hi => exact g_row g_ne8 hi
theorem g_ne : ∀ i : Nat, i < 9 → ∀ j : Nat, j < 9 → i ≠ j → Cond.not (Cond.eq (tmS i) (tmS j)) ∈ GF ∨ Cond.not (Cond.eq (tmS j) (tmS i)) ∈ GF := by
  intro i hi j hj hij
  by_cases q : i < j
  · exact Or.inl (g_nel j hj i q)
  · exact Or.inr (g_nel i hi j (by omega))
theorem g_cs : Cond.eq (.static "java/lang/String" "COMPACT_STRINGS" "Z") (.int 1) ∈ GF := List.mem_of_getElem? (i := 4) (by decide +kernel)
theorem g_si : Cond.isRef (.static "jdk/internal/util/Preconditions" "SIOOBE_FORMATTER" "Ljava/util/function/BiFunction;") ∈ GF := List.mem_of_getElem? (i := 5) (by decide +kernel)
theorem g_us : Cond.isRef (.static Bundle.tN "UNASSIGNED_STACK" Bundle.steD) ∈ GF := List.mem_of_getElem? (i := 9) (by decide +kernel)
theorem g_ss : Cond.isRef (.static Bundle.tN "SUPPRESSED_SENTINEL" Bundle.listD) ∈ GF := List.mem_of_getElem? (i := 10) (by decide +kernel)
theorem nest_mem : ∀ w ∈ nestL, w ∈ lw_tbl := by
  have h : nestL.all (fun w => decide (w ∈ lw_tbl)) = true := by decide +kernel
  exact fun w hw => of_decide_eq_true (List.all_eq_true.mp h w hw)
theorem nest_of {s : State} {args : Array Value} (h : ∀ w ∈ lw_tbl, w.before args s = true) : ∀ w ∈ nestL, va_Nw w s := by
  intro w hw
  have h1 := h w (nest_mem w hw)
  simp only [nestL, List.mem_cons, List.not_mem_nil, or_false] at hw
  rcases hw with e | e | e | e | e | e | e | e <;> subst e <;> first | exact va_tabs rfl rfl h1 | exact va_AO.of h1
theorem nse_mem : ∀ w ∈ nseL, w ∈ lw_tbl ∧ w.onTables = true := by decide +kernel
theorem vk_S_cong {N : Nat} {len : List Nat} {byt : List (List Int32)} {adK adV adK' adV' : Nat → Nat} {A : Nat → Prop} {U : State} {H : Heap} (h : vk_S N len byt adK adV A U H) (e1 : ∀ i, i < N → adK' i = adK i) (e2 : ∀ i, i < N → adV' i = adV i) : vk_S N len byt adK' adV' A U H :=
  ⟨fun i hi => by rw [e1 i hi, e2 i hi]; exact h.1 i hi, fun i j hi hj e => h.2 i j hi hj (by rw [← e1 i hi, ← e1 j hj]; exact e)⟩
theorem arr_cls {s : State} {args : Array Value} {ty : FieldType} (h : (Cond.arrayClass ty).before args s = true) : ∃ cA : ClassId, ArrOfT s cA ty ∧ s.vm.findClass ("[" ++ ty.toString) = some cA := by
  obtain ⟨c, k, comp, h1, h2, h3⟩ := Cond.arrayClass_spec h
  exact ⟨c, fun N z => ⟨(fun k h => by cases h), k, h2, comp, h3⟩, h1⟩
theorem arr_obj {s : State} {args : Array Value} {n : String} (h : (Cond.arrayOver (.object n)).before args s = true) : ∃ cA : ClassId, ArrOfT s cA (.object n) ∧ va_RA s cA (.object n) := by
  obtain ⟨comp, c, k, h1, h2, h3, h4, h5⟩ := Cond.arrayOver_spec h
  exact ⟨c, fun N z => ⟨(fun k h => by cases h), k, h3, comp, h4⟩, k, comp, h3, h4, h1, h5⟩
