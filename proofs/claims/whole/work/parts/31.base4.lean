/-! copies of whole rows -/
theorem k_celli {c1 : ClassId} {n : Nat} {f g : Nat → Int32} (h : ∀ j, j < n → f j = g j) : vp_cell c1 (n, .inl f) = vp_cell c1 (n, .inl g) := by
  rw [vp_cell_i, vp_cell_i]
  unfold arrV
  congr 2
  funext j
  show Value.int (f j.val) = Value.int (g j.val)
  rw [h j.val j.isLt]
theorem k_celll {c1 : ClassId} {n : Nat} {f g : Nat → Int64} (h : ∀ j, j < n → f j = g j) : vp_cell c1 (n, .inr (.inl f)) = vp_cell c1 (n, .inr (.inl g)) := by
  rw [vp_cell_l, vp_cell_l]
  unfold arrV
  congr 2
  funext j
  show Value.long (f j.val) = Value.long (g j.val)
  rw [h j.val j.isLt]
theorem k_setP {D : va_G} {cl : List vw_C} {W9 : va_W} {H : Heap} {q1 a : Nat} {c1 : ClassId} {x y : vp_A} (h : va_P D cl (W9.set q1 (a, .inl (c1, x))) H) (hq : q1 < W9.length) (hxy : vp_cell c1 x = vp_cell c1 y) : va_P D cl (W9.set q1 (a, .inl (c1, y))) H := by
  intro k z hz
  by_cases hk : q1 = k
  · subst hk
    rw [List.getElem?_set_self hq] at hz
    cases hz
    have h1 := h q1 (a, .inl (c1, x)) (List.getElem?_set_self hq)
    show H[a]? = some (vp_cell c1 y)
    rw [← hxy]
    exact h1
  · rw [List.getElem?_set_ne hk] at hz
    exact h k z (by rw [List.getElem?_set_ne hk]; exact hz)
theorem k_setD {A : Nat → Prop} {W9 : va_W} {q1 a : Nat} {x y : va_E} (h : va_D A (W9.set q1 (a, x))) (hq : q1 < W9.length) : va_D A (W9.set q1 (a, y)) := by
  have fs : ∀ (k : Nat) (z : Nat × va_E), (W9.set q1 (a, y))[k]? = some z → ∃ z9, (W9.set q1 (a, x))[k]? = some z9 ∧ z9.1 = z.1 := by
    intro k z hz
    by_cases hk : q1 = k
    · subst hk
      rw [List.getElem?_set_self hq] at hz
      cases hz
      exact ⟨(a, x), List.getElem?_set_self hq, rfl⟩
    · rw [List.getElem?_set_ne hk] at hz
      exact ⟨z, by rw [List.getElem?_set_ne hk]; exact hz, rfl⟩
  refine ⟨fun i j u v hu hv huv => ?_, fun k z hz => ?_⟩
  · obtain ⟨x9, a1, a2⟩ := fs i u hu
    obtain ⟨y9, b1, b2⟩ := fs j v hv
    exact h.1 i j x9 y9 a1 b1 (by rw [a2, b2]; exact huv)
  · obtain ⟨x9, a1, a2⟩ := fs k z hz
    rw [← a2]
    exact h.2 k x9 a1
theorem cpAC : Cond.native arraycopyName ∈ TB ∧ Cond.static arraycopyName ∈ TB ∧ Cond.initialized "java/lang/System" ∈ TB := ⟨tb_3 (List.mem_of_getElem? (i := 151) (by decide +kernel)) (by decide +kernel), tb_3 (List.mem_of_getElem? (i := 150) (by decide +kernel)) (by decide +kernel), tb_1 (List.mem_of_getElem? (i := 20) (by decide +kernel)) (by decide +kernel)⟩
section KC
variable {p : Program} {l : Launch} {e : Env} {R : Room} {s : State} {m : MethodId} {args : Array Value} {below : List Frame} {meth : Method} {c : Code} {H : Heap} {locs : List Loc} {cells slots : Nat} {cc : ByteArray} {nL : Nat} {ret : Option FieldType} {own : String} {D : va_G} {q : Nat → ClassId} {A : Nat → Prop} {Q : State → Prop}
variable {pc : Nat} {ls : Array Slot} {rest : List Value} {W9 W8 : va_W}
theorem k_cpi {index a0 a n : Nat} {f g : Nat → Int32} {nn : Int32} (C : cx p s m args meth c cc nL ret own D q A) (hl : Cond.methodLink own index arraycopyName ∈ TB) (hsz : ls.size = nL) (hP : va_P D vwCl W9 H) (hD : va_D A W9) (hS : va_S A s.heap H locs) (q0 q1 : Nat) (ha0 : W9[q0]? = some (a0, .inl (q 1, n, .inl f))) (ha1 : W9[q1]? = some (a, .inl (q 1, n, .inl g))) (hn : ¬ nn < 0 ∧ nn.toNatClampNeg = n) (hq : q1 < W9.length) (hR : 1 ≤ R.frames ∧ (rest.map fun v => v.category).sum + (nativeFrameWords "java/lang/System" "arraycopy" 5 + 11) ≤ R.locals) (hdg : decode cc pc = .ok (.invokestatic index, 3)) (hw : W9.set q1 (a, .inl (q 1, n, .inl f)) = W8)
    (kk : ∀ (H1 : Heap) (locs1 : List Loc), va_P D vwCl W8 H1 → va_D A W8 → va_S A s.heap H1 locs1 → W p l e R s m args below meth c H1 locs1 cells slots Q (F0 m (pc + 3) ls rest)) : W p l e R s m args below meth c H locs cells slots Q (F0 m pc ls (.int nn :: .int (0 : Int32) :: .ref a :: .int (0 : Int32) :: .ref a0 :: rest)) := by
  obtain ⟨hx, hb, hr, hml, hown, hts, hlk, hA, hK, hN, hV⟩ := C
  obtain ⟨k1, k2, k3⟩ := cpAC
  have h0 : (0 : Int32).toNatClampNeg = 0 := by decide
  subst hw
  refine va_copyi hx hb (hml.trans hsz.symm) hown (hts _ hl) (hts _ k1) (hts _ k2) (hts _ k3) hK hP hD hS q0 q1 1 1 ha0 ha1 rfl rfl rfl (by decide) (by decide) hn.1 (by rw [h0, hn.2]; omega) (by rw [h0, hn.2]; omega) (fun _ _ => rfl) hR.1 hR.2 hdg (fun H1 locs1 hP1 hD1 hS1 => ?_)
  refine kk H1 locs1 (k_setP hP1 hq (k_celli (fun j hj => ?_))) (k_setD hD1 hq) hS1
  rw [h0, hn.2]
  simp [va_cpy, hj]
theorem k_cpl {index a0 a n : Nat} {f g : Nat → Int64} {nn : Int32} (C : cx p s m args meth c cc nL ret own D q A) (hl : Cond.methodLink own index arraycopyName ∈ TB) (hsz : ls.size = nL) (hP : va_P D vwCl W9 H) (hD : va_D A W9) (hS : va_S A s.heap H locs) (q0 q1 : Nat) (ha0 : W9[q0]? = some (a0, .inl (q 2, n, .inr (.inl f)))) (ha1 : W9[q1]? = some (a, .inl (q 2, n, .inr (.inl g)))) (hn : ¬ nn < 0 ∧ nn.toNatClampNeg = n) (hq : q1 < W9.length) (hR : 1 ≤ R.frames ∧ (rest.map fun v => v.category).sum + (nativeFrameWords "java/lang/System" "arraycopy" 5 + 11) ≤ R.locals) (hdg : decode cc pc = .ok (.invokestatic index, 3)) (hw : W9.set q1 (a, .inl (q 2, n, .inr (.inl f))) = W8)
    (kk : ∀ (H1 : Heap) (locs1 : List Loc), va_P D vwCl W8 H1 → va_D A W8 → va_S A s.heap H1 locs1 → W p l e R s m args below meth c H1 locs1 cells slots Q (F0 m (pc + 3) ls rest)) : W p l e R s m args below meth c H locs cells slots Q (F0 m pc ls (.int nn :: .int (0 : Int32) :: .ref a :: .int (0 : Int32) :: .ref a0 :: rest)) := by
  obtain ⟨hx, hb, hr, hml, hown, hts, hlk, hA, hK, hN, hV⟩ := C
  obtain ⟨k1, k2, k3⟩ := cpAC
  have h0 : (0 : Int32).toNatClampNeg = 0 := by decide
  subst hw
  refine va_copyl hx hb (hml.trans hsz.symm) hown (hts _ hl) (hts _ k1) (hts _ k2) (hts _ k3) hK hP hD hS q0 q1 2 2 ha0 ha1 rfl rfl rfl (by decide) (by decide) hn.1 (by rw [h0, hn.2]; omega) (by rw [h0, hn.2]; omega) (fun _ _ => rfl) hR.1 hR.2 hdg (fun H1 locs1 hP1 hD1 hS1 => ?_)
  refine kk H1 locs1 (k_setP hP1 hq (k_celll (fun j hj => ?_))) (k_setD hD1 hq) hS1
  rw [h0, hn.2]
  simp [va_cpy, hj]
end KC
section KV
variable {p : Program} {l : Launch} {e : Env} {R : Room} {s : State} {m : MethodId} {args : Array Value} {below : List Frame} {meth : Method} {c : Code} {H : Heap} {locs : List Loc} {cc : ByteArray} {nL : Nat} {ret : Option FieldType} {own : String} {D : va_G} {q : Nat → ClassId} {A : Nat → Prop} {Q : State → Prop}
variable {pc : Nat} {ls : Array Slot} {rest st0 : List Value} {aa : Array Value} {W9 W8 : va_W}
/-- a callee whose world is one cell -/
theorem k_vset {a : Nat} {x y : va_E} (C : cx p s m args meth c cc nL ret own D q A) (hr : va_Run p l e R s m args below meth c H locs 0 0 0 0 (F0 m pc ls st0) rest (QV D (va_A [(a, x)] H.size) [(a, y)] aa) (va_A [(a, x)] H.size)) (hP : va_P D vwCl W9 H) (hD : va_D A W9) (hS : va_S A s.heap H locs) (pos : Nat) (ha : W9[pos]? = some (a, x)) (hw : W9.set pos (a, y) = W8)
    (kk : ∀ (H1 : Heap) (locs1 : List Loc), va_P D vwCl W8 H1 → va_D A W8 → va_S A s.heap H1 locs1 → W p l e R s m args below meth c H1 locs1 0 0 Q (F0 m (pc + 3) ls rest)) : W p l e R s m args below meth c H locs 0 0 Q (F0 m pc ls st0) := by
  obtain ⟨hx, hb, hr0, hml, hown, hts, hlk, hA, hK, hN, hV⟩ := C
  have hlt : pos < W9.length := (List.getElem?_eq_some_iff.mp ha).1
  have hC : [pos].map (fun i => W9[i]?) = [(a, x)].map some := by simp [ha]
  have hF := va_free hD hS hA [pos] hC
  refine va_callv hr hS (fun q _ h => hF q h) (hF) (fun u t H1 locs1 ht hvm hw2 hB hz1 hk1 hS1 => ?_)
  rw [ht] at hB
  subst hw
  obtain ⟨hP1, hD1⟩ := kw_rep (W8 := W9.set pos (a, y)) (w1 := [(a, y)]) hP hD [pos] hC (by simp [List.getElem?_set_self hlt]) (fun k hk => List.getElem?_set_ne (fun h => hk (by simp [h]))) rfl hk1 hB
  exact kk H1 locs1 hP1 hD1 hS1
end KV
theorem k_monoV {l : Launch} {y : MethodName} {ws : List Cond} {rm : Room} {Pc : Array Value → State → Prop} {D : va_G} {A : Nat → Prop} {w1 w2 : va_W} {mc ms : Nat} {free : Addr → Prop} (h : Met l y ws rm Pc (QV D A w1) mc ms free) (hw : ∀ H : Heap, va_P D vwCl w1 H → va_P D vwCl w2 H) : Met l y ws rm Pc (QV D A w2) mc ms free :=
  MetFree.mono h (fun _ _ h => h) (fun _ _ _ _ _ h => h) (fun a s o t _ hq => ⟨by
    obtain ⟨⟨⟨u, h1, h2, h3⟩, h4⟩, h5⟩ := hq
    exact ⟨⟨u, h1, h2, hw _ h3⟩, h4⟩, hq.2⟩)
