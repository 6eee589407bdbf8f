/-! constructors: what they make comes with its addresses -/
def Z0 : St := (fun _ => 0, fun _ => 0, fun _ _ => 0, fun _ _ => 0)
def QN (D : va_G) (A : Nat → Prop) (B : (Nat → Nat → Nat) → va_W) : Array Value → State → Outcome → State → Prop := va_Qv (fun (_ : Nat → Nat → Nat) => True) (fun h t => va_P D vwCl (B h) t.heap ∧ va_D A (B h)) A
theorem k_metI {l : Launch} {y : MethodName} {cc : ByteArray} {nL : Nat} {ret : Option FieldType} {rm : Room} {D : va_G} {q : Nat → ClassId} {av : List Value} {w0 : va_W} {sz mc ms : Nat} {Q : (Nat → Prop) → Array Value → State → Outcome → State → Prop} (hy : plainName y.cls = true) (hn : (lg_sl av).length ≤ nL)
    (body : ∀ (p : Program) (e : Env) (s : State) (m : MethodId) (args : Array Value) (below : List Frame) (meth : Method) (c : Code) (A : Nat → Prop) (ls : Array Slot), meth.name = y.name → cx p s m args meth c cc nL ret y.cls D q A → va_P D vwCl w0 s.heap → va_D A w0 → va_S A s.heap s.heap [] → lv_has ls nL (lv_args 0 av) →
      W p l e rm s m args below meth c s.heap [] 0 0 (MQ below (Q A) args s mc ms A) (F0 m 0 ls [])) : Met l y (Cond.code y cc nL ret :: TB) rm (PC D q av w0 sz) (Q (va_A w0 sz)) mc ms (va_A w0 sz) := by
  refine Met.ofW (cc := cc) (maxL := nL) (ret := ret) hy rfl ?_
  intro p e s m args below meth c s₁ B hml hv
  obtain ⟨rfl, hsz, hP, hK, hD0, hV⟩ := hv
  have hts := atoms_spec (ws := Cond.code y cc nL ret :: TB) B.pre
  subst hsz
  have hD := hD0.self (sz := s.heap.size)
  rw [lg_entry_eq]
  exact body p e s m _ below meth c (va_A w0 s.heap.size) _ (name_of_methodNamed B.named B.method).1 ⟨B.exec, B.bytes, B.returns, hml, findClass_of_methodNamed B.named, fun w hw => hts w (List.mem_cons_of_mem _ hw), B.notSynchronized, fun q h => Or.inr h, hK.1, hK.2, hV⟩ hP hD va_S.rf (lv_entry av hn)
def fpF (own : String) (index ci k : Nat) (ty : FieldType) : Prop := ∃ (ref Cn : String) (T : u_T) (N : Nat) (ty0 : Nat → FieldType), vwCl[ci]? = some (Cn, T, N) ∧ k < N ∧ (∀ w ∈ u_ws Cn T N, w ∈ TB) ∧ Cond.fieldLink own index ref (T k).2.1 (T k).2.2.1 ∈ TB ∧ (∀ (s : State) (x : ClassId × Class × Nat × Field), s.fieldFound? (T k).1 (T k).2.1 (T k).2.2.1 = some x → s.fieldFound? ref (T k).2.1 (T k).2.2.1 = some x) ∧ (∀ k, k < N → parseFieldDescriptor (T k).2.2.1 = some (ty0 k)) ∧ (∀ a, a < N → ∀ b, b < N → a ≠ b → (T a).2.1 ≠ (T b).2.1) ∧ (T k).2.2.2 = true ∧ (T k).1 = own ∧ parseFieldDescriptor (T k).2.2.1 = some ty
section KN
variable {p : Program} {l : Launch} {e : Env} {R : Room} {s : State} {m : MethodId} {args : Array Value} {below : List Frame} {meth : Method} {c : Code} {H : Heap} {locs : List Loc} {cells slots : Nat} {cc : ByteArray} {nL : Nat} {ret : Option FieldType} {own : String} {D : va_G} {q : Nat → ClassId} {A : Nat → Prop} {Q : State → Prop}
variable {pc : Nat} {ls : Array Slot} {rest : List Value} {W9 W8 : va_W}
theorem k_nret {mc ms : Nat} {B : (Nat → Nat → Nat) → va_W} (C : cx p s m args meth c cc nL none own D q A) (h : Nat → Nat → Nat) (hP : va_P D vwCl (B h) H) (hD : va_D A (B h)) (hS : va_S A s.heap H locs) (hdg : decode cc pc = .ok (.return_, 1)) : W p l e R s m args below meth c H locs mc ms (MQ below (QN D A B) args s mc ms A) (F0 m pc ls []) := by
  obtain ⟨hx, hb, hr, hml, hown, hts, hlk, hA, hK, hN, hV⟩ := C
  exact W.vret hx hb hr (fun t ht hW => ⟨⟨h, rfl, trivial, by rw [ht]; exact hP, hD⟩, hS.F ht⟩) hS.2.2 hdg hlk
theorem k_putF {ci k index o : Nat} {fs : List Value} {v : Value} {ty : FieldType} (C : cx p s m args meth c cc nL ret own D q A) (hin : meth.name = "<init>") (hg : fpF own index ci k ty) (hP : va_P D vwCl W9 H) (hD : va_D A W9) (hS : va_S A s.heap H locs) (q0 : Nat) (he : W9[q0]? = some (o, .inr (ci, fs))) (hn : narrow ty v = v) (hf : fits ty v = true) (hl : k < fs.length) (hdg : decode cc pc = .ok (.putfield index, 3)) (hw : W9.set q0 (o, .inr (ci, fs.set k v)) = W8)
    (kk : ∀ (H1 : Heap) (locs1 : List Loc), va_P D vwCl W8 H1 → va_D A W8 → va_S A s.heap H1 locs1 → W p l e R s m args below meth c H1 locs1 cells slots Q (F0 m (pc + 3) ls rest)) : W p l e R s m args below meth c H locs cells slots Q (F0 m pc ls (v :: .ref o :: rest)) := by
  obtain ⟨hx, hb, hr, hml, hown, hts, hlk, hA, hK, hN, hV⟩ := C
  obtain ⟨ref, Cn, T, N, ty0, h1, h2, h3, h4, h5, h6, h7, h8, h9, h10⟩ := hg
  subst hw
  exact va_putF hx hb hts h3 ty0 h6 h7 hown hK hP hD hS q0 he h1 k h2 (hts _ h4) (h5 s) h8 hin h9 h10 hn hf hl hdg kk
theorem k_obj {idx a : Nat} (C : cx p s m args meth c cc nL ret own D q A) (hl : Cond.methodLink own idx objectInit ∈ TB) (hk : Cond.instanceMethod objectInit ∈ TB ∧ Cond.code objectInit ⟨#[0xb1]⟩ 1 none ∈ TB) (hsz : ls.size = nL) (hR : 1 ≤ R.frames ∧ (rest.map fun v => v.category).sum + 12 ≤ R.locals) (hdg : decode cc pc = .ok (.invokespecial idx, 3))
    (kk : W p l e R s m args below meth c H locs cells slots Q (F0 m (pc + 3) ls rest)) : W p l e R s m args below meth c H locs cells slots Q (F0 m pc ls (.ref a :: rest)) := by
  obtain ⟨hx, hb, hr, hml, hown, hts, hlk, hA, hK, hN, hV⟩ := C
  exact W.objInit hx hb hown (hts _ hl) (hts _ hk.1) (hts _ hk.2) rfl (by rw [hml]; exact hsz) rfl hdg hR.1 (by show 2 * 0 + _ + 12 ≤ _; omega) kk

theorem k_newI {n : Int32} (N : Nat) (C : cx p s m args meth c cc nL ret own D q A) (harr : Cond.arrayClass .int ∈ TB) (hP : va_P D vwCl W9 H) (hD : va_D A W9) (hS : va_S A s.heap H locs) (hn : ¬ n < 0 ∧ n.toNatClampNeg = N) (hby : N ≤ 100000) (hf : cells + 1 ≤ R.cells ∧ slots + N ≤ R.slots) (hdg : decode cc pc = .ok (.newarray .int, 2))
    (kk : ∀ (x : Nat) (H1 : Heap), va_P D vwCl (W9 ++ [(x, .inl (q 1, N, .inl (fun _ => 0)))]) H1 → va_D A (W9 ++ [(x, .inl (q 1, N, .inl (fun _ => 0)))]) → va_S A s.heap H1 locs → W p l e R s m args below meth c H1 locs (cells + 1) (slots + N) Q (F0 m (pc + 2) ls (.ref x :: rest))) : W p l e R s m args below meth c H locs cells slots Q (F0 m pc ls (.int n :: rest)) := by
  obtain ⟨hx, hb, hr, hml, hown, hts, hlk, hA, hK, hN, hV⟩ := C
  have hbb : N * componentBytes .int ≤ 536870912 := Nat.le_trans (Nat.mul_le_mul hby (show componentBytes .int ≤ 8 by decide)) (by decide)
  refine va_newa (atype := .int) (N' := N) (a0 := (N, .inl (fun _ => 0))) hx hb (hts _ harr) rfl hK hP hD hS hA (fun cA => rfl) hn.1 hn.2 hbb hf.1 hf.2 hdg (fun x cA H1 hK1 hP1 hD1 hS1 => ?_)
  have h1 := (hK1.2 6 (cA, .int) rfl).2
  have h2 := (hK.2 1 (q 1, .int) rfl).2
  have e9 : cA = q 1 := Option.some.inj (h1.symm.trans h2)
  subst e9
  exact kk x H1 hP1 hD1 hS1

theorem k_newJ {n : Int32} (N : Nat) (C : cx p s m args meth c cc nL ret own D q A) (harr : Cond.arrayClass .long ∈ TB) (hP : va_P D vwCl W9 H) (hD : va_D A W9) (hS : va_S A s.heap H locs) (hn : ¬ n < 0 ∧ n.toNatClampNeg = N) (hby : N ≤ 100000) (hf : cells + 1 ≤ R.cells ∧ slots + N ≤ R.slots) (hdg : decode cc pc = .ok (.newarray .long, 2))
    (kk : ∀ (x : Nat) (H1 : Heap), va_P D vwCl (W9 ++ [(x, .inl (q 2, N, .inr (.inl (fun _ => 0))))]) H1 → va_D A (W9 ++ [(x, .inl (q 2, N, .inr (.inl (fun _ => 0))))]) → va_S A s.heap H1 locs → W p l e R s m args below meth c H1 locs (cells + 1) (slots + N) Q (F0 m (pc + 2) ls (.ref x :: rest))) : W p l e R s m args below meth c H locs cells slots Q (F0 m pc ls (.int n :: rest)) := by
  obtain ⟨hx, hb, hr, hml, hown, hts, hlk, hA, hK, hN, hV⟩ := C
  have hbb : N * componentBytes .long ≤ 536870912 := Nat.le_trans (Nat.mul_le_mul hby (show componentBytes .long ≤ 8 by decide)) (by decide)
  refine va_newa (atype := .long) (N' := N) (a0 := (N, .inr (.inl (fun _ => 0)))) hx hb (hts _ harr) rfl hK hP hD hS hA (fun cA => rfl) hn.1 hn.2 hbb hf.1 hf.2 hdg (fun x cA H1 hK1 hP1 hD1 hS1 => ?_)
  have h1 := (hK1.2 6 (cA, .long) rfl).2
  have h2 := (hK.2 2 (q 2, .long) rfl).2
  have e9 : cA = q 2 := Option.some.inj (h1.symm.trans h2)
  subst e9
  exact kk x H1 hP1 hD1 hS1

theorem k_newB {n : Int32} (N : Nat) (C : cx p s m args meth c cc nL ret own D q A) (harr : Cond.arrayClass .byte ∈ TB) (hP : va_P D vwCl W9 H) (hD : va_D A W9) (hS : va_S A s.heap H locs) (hn : ¬ n < 0 ∧ n.toNatClampNeg = N) (hby : N ≤ 100000) (hf : cells + 1 ≤ R.cells ∧ slots + N ≤ R.slots) (hdg : decode cc pc = .ok (.newarray .byte, 2))
    (kk : ∀ (x : Nat) (H1 : Heap), va_P D vwCl (W9 ++ [(x, .inl (q 0, N, .inl (fun _ => 0)))]) H1 → va_D A (W9 ++ [(x, .inl (q 0, N, .inl (fun _ => 0)))]) → va_S A s.heap H1 locs → W p l e R s m args below meth c H1 locs (cells + 1) (slots + N) Q (F0 m (pc + 2) ls (.ref x :: rest))) : W p l e R s m args below meth c H locs cells slots Q (F0 m pc ls (.int n :: rest)) := by
  obtain ⟨hx, hb, hr, hml, hown, hts, hlk, hA, hK, hN, hV⟩ := C
  have hbb : N * componentBytes .byte ≤ 536870912 := Nat.le_trans (Nat.mul_le_mul hby (show componentBytes .byte ≤ 8 by decide)) (by decide)
  refine va_newa (atype := .byte) (N' := N) (a0 := (N, .inl (fun _ => 0))) hx hb (hts _ harr) rfl hK hP hD hS hA (fun cA => rfl) hn.1 hn.2 hbb hf.1 hf.2 hdg (fun x cA H1 hK1 hP1 hD1 hS1 => ?_)
  have h1 := (hK1.2 6 (cA, .byte) rfl).2
  have h2 := (hK.2 0 (q 0, .byte) rfl).2
  have e9 : cA = q 0 := Option.some.inj (h1.symm.trans h2)
  subst e9
  exact kk x H1 hP1 hD1 hS1

theorem k_newZ {n : Int32} (N : Nat) (C : cx p s m args meth c cc nL ret own D q A) (harr : Cond.arrayClass .boolean ∈ TB) (hP : va_P D vwCl W9 H) (hD : va_D A W9) (hS : va_S A s.heap H locs) (hn : ¬ n < 0 ∧ n.toNatClampNeg = N) (hby : N ≤ 100000) (hf : cells + 1 ≤ R.cells ∧ slots + N ≤ R.slots) (hdg : decode cc pc = .ok (.newarray .boolean, 2))
    (kk : ∀ (x : Nat) (H1 : Heap), va_P D vwCl (W9 ++ [(x, .inl (q 3, N, .inl (fun _ => 0)))]) H1 → va_D A (W9 ++ [(x, .inl (q 3, N, .inl (fun _ => 0)))]) → va_S A s.heap H1 locs → W p l e R s m args below meth c H1 locs (cells + 1) (slots + N) Q (F0 m (pc + 2) ls (.ref x :: rest))) : W p l e R s m args below meth c H locs cells slots Q (F0 m pc ls (.int n :: rest)) := by
  obtain ⟨hx, hb, hr, hml, hown, hts, hlk, hA, hK, hN, hV⟩ := C
  have hbb : N * componentBytes .boolean ≤ 536870912 := Nat.le_trans (Nat.mul_le_mul hby (show componentBytes .boolean ≤ 8 by decide)) (by decide)
  refine va_newa (atype := .boolean) (N' := N) (a0 := (N, .inl (fun _ => 0))) hx hb (hts _ harr) rfl hK hP hD hS hA (fun cA => rfl) hn.1 hn.2 hbb hf.1 hf.2 hdg (fun x cA H1 hK1 hP1 hD1 hS1 => ?_)
  have h1 := (hK1.2 6 (cA, .boolean) rfl).2
  have h2 := (hK.2 3 (q 3, .boolean) rfl).2
  have e9 : cA = q 3 := Option.some.inj (h1.symm.trans h2)
  subst e9
  exact kk x H1 hP1 hD1 hS1

end KN

theorem kobj : Cond.instanceMethod objectInit ∈ TB ∧ Cond.code objectInit ⟨#[0xb1]⟩ 1 none ∈ TB := ⟨tb_1 (List.mem_of_getElem? (i := 32) (by decide +kernel)) (by decide +kernel), tb_1 (List.mem_of_getElem? (i := 33) (by decide +kernel)) (by decide +kernel)⟩
theorem arI : Cond.arrayClass .int ∈ TB := tb_1 (List.mem_of_getElem? (i := 57) (by decide +kernel)) (by decide +kernel)
theorem arJ : Cond.arrayClass .long ∈ TB := tb_1 (List.mem_of_getElem? (i := 151) (by decide +kernel)) (by decide +kernel)
theorem arB : Cond.arrayClass .byte ∈ TB := tb_1 (List.mem_of_getElem? (i := 152) (by decide +kernel)) (by decide +kernel)
theorem arZ : Cond.arrayClass .boolean ∈ TB := tb_7 (List.mem_of_getElem? (i := 1) (by decide +kernel)) (by decide +kernel)
section KO
variable {p : Program} {l : Launch} {e : Env} {R : Room} {s : State} {m : MethodId} {args : Array Value} {below : List Frame} {meth : Method} {c : Code} {H : Heap} {locs : List Loc} {cells slots : Nat} {cc : ByteArray} {nL : Nat} {ret : Option FieldType} {own : String} {D : va_G} {q : Nat → ClassId} {A : Nat → Prop} {Q : State → Prop}
variable {pc : Nat} {ls : Array Slot} {rest st0 : List Value} {W9 W8 : va_W}
/-- new -/
theorem k_newO {index ci N : Nat} {Cn : String} {T : u_T} {fs : List Value} (ty : Nat → FieldType) (C : cx p s m args meth c cc nL ret own D q A) (hc : vwCl[ci]? = some (Cn, T, N)) (hin : ∀ w ∈ u_ws Cn T N, w ∈ TB) (hty : ∀ k, k < N → parseFieldDescriptor (T k).2.2.1 = some (ty k)) (hcl : Cond.classLink own index Cn ∈ TB) (hins : Cond.instantiable Cn N ∈ TB) (hini : Cond.initialized Cn ∈ TB) (hP : va_P D vwCl W9 H) (hD : va_D A W9) (hS : va_S A s.heap H locs) (hfs : ∀ j, j < N → defaultValue (ty j) = vp_V fs j) (hf : cells + 1 ≤ R.cells ∧ slots + N ≤ R.slots) (hdg : decode cc pc = .ok (.new index, 3))
    (kk : ∀ (x : Nat) (H1 : Heap), va_P D vwCl (W9 ++ [(x, .inr (ci, fs))]) H1 → va_D A (W9 ++ [(x, .inr (ci, fs))]) → va_S A s.heap H1 locs → W p l e R s m args below meth c H1 locs (cells + 1) (slots + N) Q (F0 m (pc + 3) ls (.ref x :: rest))) : W p l e R s m args below meth c H locs cells slots Q (F0 m pc ls rest) := by
  obtain ⟨hx, hb, hr, hml, hown, hts, hlk, hA, hK, hN, hV⟩ := C
  exact va_new hx hb hts hin ty hty hown (hts _ hcl) (hts _ hins) (hts _ hini) hK hP hD hS hA hc hfs hf.1 hf.2 hdg kk
/-- what a constructor needs of the tables -/
def cI (y : MethodName) (cc : ByteArray) (nL n : Nat) : Prop := Cond.instanceMethod y ∈ TB ∧ Cond.code y cc nL none ∈ TB ∧ Cond.initialized y.cls ∈ TB ∧ y.name = "<init>" ∧ (y.cls ≠ "java/lang/invoke/MethodHandle" ∧ y.cls ≠ "java/lang/invoke/VarHandle" ∧ (parseMethodDescriptor y.desc).map (fun d => d.parameters.length) = some n)
theorem k_join {x : Nat} {b : va_E} {w1 : va_W} {H1 : Heap} (hP : va_P D vwCl (W9 ++ [(x, b)]) H) (hD : va_D A (W9 ++ [(x, b)])) (hk : ∀ q : Nat, q < H.size → ¬ va_A [(x, b)] H.size q → H1[q]? = H[q]?) (hF : ∀ q, va_A [(x, b)] H.size q → A q) (hP1 : va_P D vwCl w1 H1) (hD1 : va_D (va_A [(x, b)] H.size) w1) : va_P D vwCl (W9 ++ w1) H1 ∧ va_D A (W9 ++ w1) := by
  rw [vaP_mem] at hP hP1
  have hd := vaD_mem.mp hD
  have hd1 := vaD_mem.mp hD1
  have out9 : ∀ y ∈ W9, y.1 < H.size ∧ ¬ va_A [(x, b)] H.size y.1 := by
    intro y hy
    have ha := (hP y (List.mem_append_left _ hy)).lt
    refine ⟨ha, fun h => ?_⟩
    rcases h with ⟨k, e2, h⟩ | h
    · have hm := List.mem_of_getElem? h
      rw [List.mem_singleton] at hm
      have hx : y.1 = x := congrArg Prod.fst hm
      exact (List.pairwise_append.mp hd.1).2.2 y hy (x, b) List.mem_cons_self hx
    · omega
  refine ⟨vaP_mem.mpr (fun y hy => ?_), vaD_mem.mpr ⟨List.pairwise_append.mpr ⟨(List.pairwise_append.mp hd.1).1, hd1.1, fun y hy z hz e9 => ?_⟩, fun y hy => ?_⟩⟩
  · rcases List.mem_append.mp hy with h | h
    · obtain ⟨h1, h2⟩ := out9 y h
      exact (hP y (List.mem_append_left _ h)).kept (hk y.1 h1 h2)
    · exact hP1 y h
  · exact (out9 y hy).2 (by rw [e9]; exact hd1.2 z hz)
  · rcases List.mem_append.mp hy with h | h
    · exact hd.2 y (List.mem_append_left _ h)
    · exact hF _ (hd1.2 y h)
theorem k_ctor {y : MethodName} {by2 : ByteArray} {mL n index mc ms x : Nat} {b : va_E} {rm : Room} {As : List Value} {B : (Nat → Nat → Nat) → va_W} (C : cx p s m args meth c cc nL ret own D q A) (hM : Met l y (Cond.code y by2 mL none :: TB) rm (PC D q (.ref x :: As) [(x, b)] H.size) (QN D (va_A [(x, b)] H.size) B) mc ms (va_A [(x, b)] H.size)) (hk : cI y by2 mL n) (hl : Cond.methodLink own index y ∈ TB) (hrc : rm.cells = mc) (hrs : rm.slots = ms) (hR : rm.frames + 1 ≤ R.frames ∧ 8 + (mL + 11) + rm.locals ≤ R.locals) (hP : va_P D vwCl (W9 ++ [(x, b)]) H) (hD : va_D A (W9 ++ [(x, b)])) (hS : va_S A s.heap H locs)
    (hn : As.length = n) (hsz : ls.size = nL) (hst : st0 = As.reverse ++ .ref x :: rest) (hW : (rest.map fun v => v.category).sum ≤ 8) (hdg : decode cc pc = .ok (.invokespecial index, 3)) (hf : cells + mc ≤ R.cells ∧ slots + ms ≤ R.slots)
    (kk : ∀ (h : Nat → Nat → Nat) (H1 : Heap) (locs1 : List Loc), va_P D vwCl (W9 ++ B h) H1 → va_D A (W9 ++ B h) → va_S A s.heap H1 locs1 → W p l e R s m args below meth c H1 locs1 (cells + mc) (slots + ms) Q (F0 m (pc + 3) ls rest)) : W p l e R s m args below meth c H locs cells slots Q (F0 m pc ls st0) := by
  obtain ⟨hx, hb, hr, hml, hown, hts, hlk, hA, hK, hN, hV⟩ := C
  obtain ⟨k1, k3, k4, k6, k5⟩ := hk
  have hPx : va_P D vwCl [(x, b)] H := vaP_mem.mpr (fun z hz => vaP_mem.mp hP z (List.mem_append_right _ hz))
  have hdd := vaD_mem.mp hD
  have hDx : va_D A [(x, b)] := vaD_mem.mpr ⟨(List.pairwise_append.mp hdd.1).2.1, fun z hz => hdd.2 z (List.mem_append_right _ hz)⟩
  have hF := ke_Aall hDx hS hA
  refine va_callv (va_runI ⟨hx, hb, hml, hown, hts⟩ hM ⟨callB_of n hts (tb_good k3) rfl hrc hrs (hts _ k4) (hts _ hl) k5 hR, k6, hts _ k1⟩ ⟨PC.blind, PC.mk ⟨hK, hN⟩ hV hA hS hPx hDx⟩ rfl hn hsz hst (lv_room hW) hdg hf) hS (fun q _ h => hF q h) hF (fun h t H1 locs1 ht hvm hw hB hz1 hk1 hS1 => ?_)
  obtain ⟨hB1, hB2⟩ := hB
  rw [ht] at hB1
  obtain ⟨hP1, hD1⟩ := k_join hP hD hk1 hF hB1 hB2
  exact kk h H1 locs1 hP1 hD1 hS1
end KO

theorem ob_X0 : Cond.methodLink RX0 3 objectInit ∈ TB := tb_2 (List.mem_of_getElem? (i := 23) (by decide +kernel)) (by decide +kernel)
theorem ff_X0_9 : fpF RX0 9 0 0 (.array .int) := ⟨RX0, RX0, TX0, 5, tyX0, rfl, by decide, tbX0, fl_X0_9, fun _ _ h => h, tyX0_ok, nmX0, rfl, rfl, by decide +kernel⟩
theorem ff_X0_15 : fpF RX0 15 0 1 (.array .int) := ⟨RX0, RX0, TX0, 5, tyX0, rfl, by decide, tbX0, fl_X0_15, fun _ _ h => h, tyX0_ok, nmX0, rfl, rfl, by decide +kernel⟩
theorem ff_X0_18 : fpF RX0 18 0 2 (.array .int) := ⟨RX0, RX0, TX0, 5, tyX0, rfl, by decide, tbX0, fl_X0_18, fun _ _ h => h, tyX0_ok, nmX0, rfl, rfl, by decide +kernel⟩
theorem ff_X0_21 : fpF RX0 21 0 3 (.array .int) := ⟨RX0, RX0, TX0, 5, tyX0, rfl, by decide, tbX0, fl_X0_21, fun _ _ h => h, tyX0_ok, nmX0, rfl, rfl, by decide +kernel⟩
set_option maxRecDepth 100000 in
set_option maxHeartbeats 4000000 in
theorem c_X0_init (l : Launch) (D : va_G) (q : Nat → ClassId) (o sz : Nat) : Met l yX0_init (Cond.code yX0_init cX0_init 1 none :: TB) ({ frames := 1, cells := 4, slots := 160, locals := 12 } : Room) (PC D q [.ref o] [(o, .inr (0, [.null, .null, .null, .null, .int 0]))] sz) ((fun A => QN D A (fun h => fl [g0 q o (h 0) Z0])) (va_A [(o, .inr (0, [.null, .null, .null, .null, .int 0]))] sz)) 4 160 (va_A [(o, .inr (0, [.null, .null, .null, .null, .int 0]))] sz) := by
  refine k_metI (w0 := [(o, .inr (0, [.null, .null, .null, .null, .int 0]))]) (Q := fun A => QN D A (fun h => fl [g0 q o (h 0) Z0])) (by decide +kernel) (Nat.le_of_ble_eq_true rfl) ?_
  intro p e s m args below meth c A ls hin C hP hD hS hl
  have hl : lv_has ls 1 [(0, .ref o)] := hl
  have C : cx p s m args meth c cX0_init 1 none RX0 D q A := C
  obtain ⟨hx, hb, hr, hml, hown, hts, hlk, hA, hK, hN, hV⟩ := id C
  refine lv_aload_n hx hb dX0_init_0 rfl (lv_at hl 0 rfl) ?_
  refine k_obj C ob_X0 kobj hl.1 ⟨Nat.le_of_ble_eq_true rfl, Nat.le_of_ble_eq_true rfl⟩ dX0_init_1 ?_
  refine lv_aload_n hx hb dX0_init_4 rfl (lv_at hl 0 rfl) ?_
  refine lv_bipush (v := (40 : Int32)) hx hb dX0_init_5 (by decide) ?_
  refine k_newI 40 C arI hP hD hS ⟨by decide, by decide⟩ (by decide) (by decide) dX0_init_7 (fun y0 H hP hD hS => ?_)
  have hP : va_P D vwCl [(o, .inr (0, [.null, .null, .null, .null, .int 0])), (y0, .inl (q 1, 40, .inl (fun _ => 0)))] H := hP
  have hD : va_D A [(o, .inr (0, [.null, .null, .null, .null, .int 0])), (y0, .inl (q 1, 40, .inl (fun _ => 0)))] := hD
  refine W.widen (k := 1) (n := 40) (by omega) (by omega) ?_
  refine k_putF (W8 := [(o, .inr (0, [.ref y0, .null, .null, .null, .int 0])), (y0, .inl (q 1, 40, .inl (fun _ => 0)))]) C hin ff_X0_9 hP hD hS 0 rfl rfl rfl (Nat.le_of_ble_eq_true rfl) dX0_init_9 rfl (fun H locs hP hD hS => ?_)
  refine lv_aload_n hx hb dX0_init_12 rfl (lv_at hl 0 rfl) ?_
  refine lv_bipush (v := (40 : Int32)) hx hb dX0_init_13 (by decide) ?_
  refine k_newI 40 C arI hP hD hS ⟨by decide, by decide⟩ (by decide) (by decide) dX0_init_15 (fun y1 H hP hD hS => ?_)
  have hP : va_P D vwCl [(o, .inr (0, [.ref y0, .null, .null, .null, .int 0])), (y0, .inl (q 1, 40, .inl (fun _ => 0))), (y1, .inl (q 1, 40, .inl (fun _ => 0)))] H := hP
  have hD : va_D A [(o, .inr (0, [.ref y0, .null, .null, .null, .int 0])), (y0, .inl (q 1, 40, .inl (fun _ => 0))), (y1, .inl (q 1, 40, .inl (fun _ => 0)))] := hD
  refine W.widen (k := 2) (n := 80) (by omega) (by omega) ?_
  refine k_putF (W8 := [(o, .inr (0, [.ref y0, .ref y1, .null, .null, .int 0])), (y0, .inl (q 1, 40, .inl (fun _ => 0))), (y1, .inl (q 1, 40, .inl (fun _ => 0)))]) C hin ff_X0_15 hP hD hS 0 rfl rfl rfl (Nat.le_of_ble_eq_true rfl) dX0_init_17 rfl (fun H locs hP hD hS => ?_)
  refine lv_aload_n hx hb dX0_init_20 rfl (lv_at hl 0 rfl) ?_
  refine lv_bipush (v := (40 : Int32)) hx hb dX0_init_21 (by decide) ?_
  refine k_newI 40 C arI hP hD hS ⟨by decide, by decide⟩ (by decide) (by decide) dX0_init_23 (fun y2 H hP hD hS => ?_)
  have hP : va_P D vwCl [(o, .inr (0, [.ref y0, .ref y1, .null, .null, .int 0])), (y0, .inl (q 1, 40, .inl (fun _ => 0))), (y1, .inl (q 1, 40, .inl (fun _ => 0))), (y2, .inl (q 1, 40, .inl (fun _ => 0)))] H := hP
  have hD : va_D A [(o, .inr (0, [.ref y0, .ref y1, .null, .null, .int 0])), (y0, .inl (q 1, 40, .inl (fun _ => 0))), (y1, .inl (q 1, 40, .inl (fun _ => 0))), (y2, .inl (q 1, 40, .inl (fun _ => 0)))] := hD
  refine W.widen (k := 3) (n := 120) (by omega) (by omega) ?_
  refine k_putF (W8 := [(o, .inr (0, [.ref y0, .ref y1, .ref y2, .null, .int 0])), (y0, .inl (q 1, 40, .inl (fun _ => 0))), (y1, .inl (q 1, 40, .inl (fun _ => 0))), (y2, .inl (q 1, 40, .inl (fun _ => 0)))]) C hin ff_X0_18 hP hD hS 0 rfl rfl rfl (Nat.le_of_ble_eq_true rfl) dX0_init_25 rfl (fun H locs hP hD hS => ?_)
  refine lv_aload_n hx hb dX0_init_28 rfl (lv_at hl 0 rfl) ?_
  refine lv_bipush (v := (40 : Int32)) hx hb dX0_init_29 (by decide) ?_
  refine k_newI 40 C arI hP hD hS ⟨by decide, by decide⟩ (by decide) (by decide) dX0_init_31 (fun y3 H hP hD hS => ?_)
  have hP : va_P D vwCl [(o, .inr (0, [.ref y0, .ref y1, .ref y2, .null, .int 0])), (y0, .inl (q 1, 40, .inl (fun _ => 0))), (y1, .inl (q 1, 40, .inl (fun _ => 0))), (y2, .inl (q 1, 40, .inl (fun _ => 0))), (y3, .inl (q 1, 40, .inl (fun _ => 0)))] H := hP
  have hD : va_D A [(o, .inr (0, [.ref y0, .ref y1, .ref y2, .null, .int 0])), (y0, .inl (q 1, 40, .inl (fun _ => 0))), (y1, .inl (q 1, 40, .inl (fun _ => 0))), (y2, .inl (q 1, 40, .inl (fun _ => 0))), (y3, .inl (q 1, 40, .inl (fun _ => 0)))] := hD
  refine W.widen (k := 4) (n := 160) (by omega) (by omega) ?_
  refine k_putF (W8 := [(o, .inr (0, [.ref y0, .ref y1, .ref y2, .ref y3, .int 0])), (y0, .inl (q 1, 40, .inl (fun _ => 0))), (y1, .inl (q 1, 40, .inl (fun _ => 0))), (y2, .inl (q 1, 40, .inl (fun _ => 0))), (y3, .inl (q 1, 40, .inl (fun _ => 0)))]) C hin ff_X0_21 hP hD hS 0 rfl rfl rfl (Nat.le_of_ble_eq_true rfl) dX0_init_33 rfl (fun H locs hP hD hS => ?_)
  exact k_nret (B := fun h => fl [g0 q o (h 0) Z0]) C (fun _ n => if n = 1 then y0 else if n = 2 then y1 else if n = 3 then y2 else if n = 4 then y3 else 0) hP hD hS dX0_init_36
theorem ob_X1 : Cond.methodLink RX1 3 objectInit ∈ TB := tb_2 (List.mem_of_getElem? (i := 169) (by decide +kernel)) (by decide +kernel)
set_option maxRecDepth 100000 in
set_option maxHeartbeats 4000000 in
theorem c_X1_init (l : Launch) (D : va_G) (q : Nat → ClassId) (o sz : Nat) : Met l yX1_init (Cond.code yX1_init cX1_init 1 none :: TB) ({ frames := 1, cells := 0, slots := 0, locals := 12 } : Room) (PC D q [.ref o] [(o, .inr (1, [.int 0]))] sz) ((fun A => QN D A (fun h => fl [g1 q o (h 0) Z0])) (va_A [(o, .inr (1, [.int 0]))] sz)) 0 0 (va_A [(o, .inr (1, [.int 0]))] sz) := by
  refine k_metI (w0 := [(o, .inr (1, [.int 0]))]) (Q := fun A => QN D A (fun h => fl [g1 q o (h 0) Z0])) (by decide +kernel) (Nat.le_of_ble_eq_true rfl) ?_
  intro p e s m args below meth c A ls hin C hP hD hS hl
  have hl : lv_has ls 1 [(0, .ref o)] := hl
  have C : cx p s m args meth c cX1_init 1 none RX1 D q A := C
  obtain ⟨hx, hb, hr, hml, hown, hts, hlk, hA, hK, hN, hV⟩ := id C
  refine lv_aload_n hx hb dX1_init_0 rfl (lv_at hl 0 rfl) ?_
  refine k_obj C ob_X1 kobj hl.1 ⟨Nat.le_of_ble_eq_true rfl, Nat.le_of_ble_eq_true rfl⟩ dX1_init_1 ?_
  exact k_nret (B := fun h => fl [g1 q o (h 0) Z0]) C (fun _ n => 0) hP hD hS dX1_init_4
theorem ob_X6 : Cond.methodLink RX6 3 objectInit ∈ TB := tb_2 (List.mem_of_getElem? (i := 90) (by decide +kernel)) (by decide +kernel)
theorem ff_X6_9 : fpF RX6 9 6 0 (.array .int) := ⟨RX6, RX6, TX6, 8, tyX6, rfl, by decide, tbX6, fl_X6_9, fun _ _ h => h, tyX6_ok, nmX6, rfl, rfl, by decide +kernel⟩
theorem ff_X6_15 : fpF RX6 15 6 1 (.array .int) := ⟨RX6, RX6, TX6, 8, tyX6, rfl, by decide, tbX6, fl_X6_15, fun _ _ h => h, tyX6_ok, nmX6, rfl, rfl, by decide +kernel⟩
theorem ff_X6_18 : fpF RX6 18 6 2 (.array .int) := ⟨RX6, RX6, TX6, 8, tyX6, rfl, by decide, tbX6, fl_X6_18, fun _ _ h => h, tyX6_ok, nmX6, rfl, rfl, by decide +kernel⟩
theorem ff_X6_21 : fpF RX6 21 6 3 (.array .int) := ⟨RX6, RX6, TX6, 8, tyX6, rfl, by decide, tbX6, fl_X6_21, fun _ _ h => h, tyX6_ok, nmX6, rfl, rfl, by decide +kernel⟩
theorem ff_X6_24 : fpF RX6 24 6 5 (.array .int) := ⟨RX6, RX6, TX6, 8, tyX6, rfl, by decide, tbX6, fl_X6_24, fun _ _ h => h, tyX6_ok, nmX6, rfl, rfl, by decide +kernel⟩
theorem ff_X6_27 : fpF RX6 27 6 6 (.array .int) := ⟨RX6, RX6, TX6, 8, tyX6, rfl, by decide, tbX6, fl_X6_27, fun _ _ h => h, tyX6_ok, nmX6, rfl, rfl, by decide +kernel⟩
set_option maxRecDepth 100000 in
set_option maxHeartbeats 4000000 in
theorem c_X6_init (l : Launch) (D : va_G) (q : Nat → ClassId) (o sz : Nat) : Met l yX6_init (Cond.code yX6_init cX6_init 1 none :: TB) ({ frames := 1, cells := 6, slots := 1030, locals := 12 } : Room) (PC D q [.ref o] [(o, .inr (6, [.null, .null, .null, .null, .int 0, .null, .null, .int 0]))] sz) ((fun A => QN D A (fun h => fl [g6 q o (h 0) Z0])) (va_A [(o, .inr (6, [.null, .null, .null, .null, .int 0, .null, .null, .int 0]))] sz)) 6 1030 (va_A [(o, .inr (6, [.null, .null, .null, .null, .int 0, .null, .null, .int 0]))] sz) := by
  refine k_metI (w0 := [(o, .inr (6, [.null, .null, .null, .null, .int 0, .null, .null, .int 0]))]) (Q := fun A => QN D A (fun h => fl [g6 q o (h 0) Z0])) (by decide +kernel) (Nat.le_of_ble_eq_true rfl) ?_
  intro p e s m args below meth c A ls hin C hP hD hS hl
  have hl : lv_has ls 1 [(0, .ref o)] := hl
  have C : cx p s m args meth c cX6_init 1 none RX6 D q A := C
  obtain ⟨hx, hb, hr, hml, hown, hts, hlk, hA, hK, hN, hV⟩ := id C
  refine lv_aload_n hx hb dX6_init_0 rfl (lv_at hl 0 rfl) ?_
  refine k_obj C ob_X6 kobj hl.1 ⟨Nat.le_of_ble_eq_true rfl, Nat.le_of_ble_eq_true rfl⟩ dX6_init_1 ?_
  refine lv_aload_n hx hb dX6_init_4 rfl (lv_at hl 0 rfl) ?_
  refine lv_sipush (v := (256 : Int32)) hx hb dX6_init_5 (by decide) ?_
  refine k_newI 256 C arI hP hD hS ⟨by decide, by decide⟩ (by decide) (by decide) dX6_init_8 (fun y0 H hP hD hS => ?_)
  have hP : va_P D vwCl [(o, .inr (6, [.null, .null, .null, .null, .int 0, .null, .null, .int 0])), (y0, .inl (q 1, 256, .inl (fun _ => 0)))] H := hP
  have hD : va_D A [(o, .inr (6, [.null, .null, .null, .null, .int 0, .null, .null, .int 0])), (y0, .inl (q 1, 256, .inl (fun _ => 0)))] := hD
  refine W.widen (k := 1) (n := 256) (by omega) (by omega) ?_
  refine k_putF (W8 := [(o, .inr (6, [.ref y0, .null, .null, .null, .int 0, .null, .null, .int 0])), (y0, .inl (q 1, 256, .inl (fun _ => 0)))]) C hin ff_X6_9 hP hD hS 0 rfl rfl rfl (Nat.le_of_ble_eq_true rfl) dX6_init_10 rfl (fun H locs hP hD hS => ?_)
  refine lv_aload_n hx hb dX6_init_13 rfl (lv_at hl 0 rfl) ?_
  refine lv_sipush (v := (256 : Int32)) hx hb dX6_init_14 (by decide) ?_
  refine k_newI 256 C arI hP hD hS ⟨by decide, by decide⟩ (by decide) (by decide) dX6_init_17 (fun y1 H hP hD hS => ?_)
  have hP : va_P D vwCl [(o, .inr (6, [.ref y0, .null, .null, .null, .int 0, .null, .null, .int 0])), (y0, .inl (q 1, 256, .inl (fun _ => 0))), (y1, .inl (q 1, 256, .inl (fun _ => 0)))] H := hP
  have hD : va_D A [(o, .inr (6, [.ref y0, .null, .null, .null, .int 0, .null, .null, .int 0])), (y0, .inl (q 1, 256, .inl (fun _ => 0))), (y1, .inl (q 1, 256, .inl (fun _ => 0)))] := hD
  refine W.widen (k := 2) (n := 512) (by omega) (by omega) ?_
  refine k_putF (W8 := [(o, .inr (6, [.ref y0, .ref y1, .null, .null, .int 0, .null, .null, .int 0])), (y0, .inl (q 1, 256, .inl (fun _ => 0))), (y1, .inl (q 1, 256, .inl (fun _ => 0)))]) C hin ff_X6_15 hP hD hS 0 rfl rfl rfl (Nat.le_of_ble_eq_true rfl) dX6_init_19 rfl (fun H locs hP hD hS => ?_)
  refine lv_aload_n hx hb dX6_init_22 rfl (lv_at hl 0 rfl) ?_
  refine lv_sipush (v := (256 : Int32)) hx hb dX6_init_23 (by decide) ?_
  refine k_newI 256 C arI hP hD hS ⟨by decide, by decide⟩ (by decide) (by decide) dX6_init_26 (fun y2 H hP hD hS => ?_)
  have hP : va_P D vwCl [(o, .inr (6, [.ref y0, .ref y1, .null, .null, .int 0, .null, .null, .int 0])), (y0, .inl (q 1, 256, .inl (fun _ => 0))), (y1, .inl (q 1, 256, .inl (fun _ => 0))), (y2, .inl (q 1, 256, .inl (fun _ => 0)))] H := hP
  have hD : va_D A [(o, .inr (6, [.ref y0, .ref y1, .null, .null, .int 0, .null, .null, .int 0])), (y0, .inl (q 1, 256, .inl (fun _ => 0))), (y1, .inl (q 1, 256, .inl (fun _ => 0))), (y2, .inl (q 1, 256, .inl (fun _ => 0)))] := hD
  refine W.widen (k := 3) (n := 768) (by omega) (by omega) ?_
  refine k_putF (W8 := [(o, .inr (6, [.ref y0, .ref y1, .ref y2, .null, .int 0, .null, .null, .int 0])), (y0, .inl (q 1, 256, .inl (fun _ => 0))), (y1, .inl (q 1, 256, .inl (fun _ => 0))), (y2, .inl (q 1, 256, .inl (fun _ => 0)))]) C hin ff_X6_18 hP hD hS 0 rfl rfl rfl (Nat.le_of_ble_eq_true rfl) dX6_init_28 rfl (fun H locs hP hD hS => ?_)
  refine lv_aload_n hx hb dX6_init_31 rfl (lv_at hl 0 rfl) ?_
  refine lv_sipush (v := (256 : Int32)) hx hb dX6_init_32 (by decide) ?_
  refine k_newI 256 C arI hP hD hS ⟨by decide, by decide⟩ (by decide) (by decide) dX6_init_35 (fun y3 H hP hD hS => ?_)
  have hP : va_P D vwCl [(o, .inr (6, [.ref y0, .ref y1, .ref y2, .null, .int 0, .null, .null, .int 0])), (y0, .inl (q 1, 256, .inl (fun _ => 0))), (y1, .inl (q 1, 256, .inl (fun _ => 0))), (y2, .inl (q 1, 256, .inl (fun _ => 0))), (y3, .inl (q 1, 256, .inl (fun _ => 0)))] H := hP
  have hD : va_D A [(o, .inr (6, [.ref y0, .ref y1, .ref y2, .null, .int 0, .null, .null, .int 0])), (y0, .inl (q 1, 256, .inl (fun _ => 0))), (y1, .inl (q 1, 256, .inl (fun _ => 0))), (y2, .inl (q 1, 256, .inl (fun _ => 0))), (y3, .inl (q 1, 256, .inl (fun _ => 0)))] := hD
  refine W.widen (k := 4) (n := 1024) (by omega) (by omega) ?_
  refine k_putF (W8 := [(o, .inr (6, [.ref y0, .ref y1, .ref y2, .ref y3, .int 0, .null, .null, .int 0])), (y0, .inl (q 1, 256, .inl (fun _ => 0))), (y1, .inl (q 1, 256, .inl (fun _ => 0))), (y2, .inl (q 1, 256, .inl (fun _ => 0))), (y3, .inl (q 1, 256, .inl (fun _ => 0)))]) C hin ff_X6_21 hP hD hS 0 rfl rfl rfl (Nat.le_of_ble_eq_true rfl) dX6_init_37 rfl (fun H locs hP hD hS => ?_)
  refine lv_aload_n hx hb dX6_init_40 rfl (lv_at hl 0 rfl) ?_
  refine lv_iconst (v := (3 : Int32)) hx hb dX6_init_41 (by decide) ?_
  refine k_newI 3 C arI hP hD hS ⟨by decide, by decide⟩ (by decide) (by decide) dX6_init_42 (fun y4 H hP hD hS => ?_)
  have hP : va_P D vwCl [(o, .inr (6, [.ref y0, .ref y1, .ref y2, .ref y3, .int 0, .null, .null, .int 0])), (y0, .inl (q 1, 256, .inl (fun _ => 0))), (y1, .inl (q 1, 256, .inl (fun _ => 0))), (y2, .inl (q 1, 256, .inl (fun _ => 0))), (y3, .inl (q 1, 256, .inl (fun _ => 0))), (y4, .inl (q 1, 3, .inl (fun _ => 0)))] H := hP
  have hD : va_D A [(o, .inr (6, [.ref y0, .ref y1, .ref y2, .ref y3, .int 0, .null, .null, .int 0])), (y0, .inl (q 1, 256, .inl (fun _ => 0))), (y1, .inl (q 1, 256, .inl (fun _ => 0))), (y2, .inl (q 1, 256, .inl (fun _ => 0))), (y3, .inl (q 1, 256, .inl (fun _ => 0))), (y4, .inl (q 1, 3, .inl (fun _ => 0)))] := hD
  refine W.widen (k := 5) (n := 1027) (by omega) (by omega) ?_
  refine k_putF (W8 := [(o, .inr (6, [.ref y0, .ref y1, .ref y2, .ref y3, .int 0, .ref y4, .null, .int 0])), (y0, .inl (q 1, 256, .inl (fun _ => 0))), (y1, .inl (q 1, 256, .inl (fun _ => 0))), (y2, .inl (q 1, 256, .inl (fun _ => 0))), (y3, .inl (q 1, 256, .inl (fun _ => 0))), (y4, .inl (q 1, 3, .inl (fun _ => 0)))]) C hin ff_X6_24 hP hD hS 0 rfl rfl rfl (Nat.le_of_ble_eq_true rfl) dX6_init_44 rfl (fun H locs hP hD hS => ?_)
  refine lv_aload_n hx hb dX6_init_47 rfl (lv_at hl 0 rfl) ?_
  refine lv_iconst (v := (3 : Int32)) hx hb dX6_init_48 (by decide) ?_
  refine k_newI 3 C arI hP hD hS ⟨by decide, by decide⟩ (by decide) (by decide) dX6_init_49 (fun y5 H hP hD hS => ?_)
  have hP : va_P D vwCl [(o, .inr (6, [.ref y0, .ref y1, .ref y2, .ref y3, .int 0, .ref y4, .null, .int 0])), (y0, .inl (q 1, 256, .inl (fun _ => 0))), (y1, .inl (q 1, 256, .inl (fun _ => 0))), (y2, .inl (q 1, 256, .inl (fun _ => 0))), (y3, .inl (q 1, 256, .inl (fun _ => 0))), (y4, .inl (q 1, 3, .inl (fun _ => 0))), (y5, .inl (q 1, 3, .inl (fun _ => 0)))] H := hP
  have hD : va_D A [(o, .inr (6, [.ref y0, .ref y1, .ref y2, .ref y3, .int 0, .ref y4, .null, .int 0])), (y0, .inl (q 1, 256, .inl (fun _ => 0))), (y1, .inl (q 1, 256, .inl (fun _ => 0))), (y2, .inl (q 1, 256, .inl (fun _ => 0))), (y3, .inl (q 1, 256, .inl (fun _ => 0))), (y4, .inl (q 1, 3, .inl (fun _ => 0))), (y5, .inl (q 1, 3, .inl (fun _ => 0)))] := hD
  refine W.widen (k := 6) (n := 1030) (by omega) (by omega) ?_
  refine k_putF (W8 := [(o, .inr (6, [.ref y0, .ref y1, .ref y2, .ref y3, .int 0, .ref y4, .ref y5, .int 0])), (y0, .inl (q 1, 256, .inl (fun _ => 0))), (y1, .inl (q 1, 256, .inl (fun _ => 0))), (y2, .inl (q 1, 256, .inl (fun _ => 0))), (y3, .inl (q 1, 256, .inl (fun _ => 0))), (y4, .inl (q 1, 3, .inl (fun _ => 0))), (y5, .inl (q 1, 3, .inl (fun _ => 0)))]) C hin ff_X6_27 hP hD hS 0 rfl rfl rfl (Nat.le_of_ble_eq_true rfl) dX6_init_51 rfl (fun H locs hP hD hS => ?_)
  exact k_nret (B := fun h => fl [g6 q o (h 0) Z0]) C (fun _ n => if n = 1 then y0 else if n = 2 then y1 else if n = 3 then y2 else if n = 4 then y3 else if n = 6 then y4 else if n = 7 then y5 else 0) hP hD hS dX6_init_54
theorem ob_X7 : Cond.methodLink RX7 3 objectInit ∈ TB := tb_2 (List.mem_of_getElem? (i := 0) (by decide +kernel)) (by decide +kernel)
theorem ff_X7_9 : fpF RX7 9 7 0 (.array .int) := ⟨RX7, RX7, TX7, 5, tyX7, rfl, by decide, tbX7, fl_X7_9, fun _ _ h => h, tyX7_ok, nmX7, rfl, rfl, by decide +kernel⟩
theorem ff_X7_15 : fpF RX7 15 7 1 (.array .int) := ⟨RX7, RX7, TX7, 5, tyX7, rfl, by decide, tbX7, fl_X7_15, fun _ _ h => h, tyX7_ok, nmX7, rfl, rfl, by decide +kernel⟩
theorem ff_X7_18 : fpF RX7 18 7 2 (.array .int) := ⟨RX7, RX7, TX7, 5, tyX7, rfl, by decide, tbX7, fl_X7_18, fun _ _ h => h, tyX7_ok, nmX7, rfl, rfl, by decide +kernel⟩
set_option maxRecDepth 100000 in
set_option maxHeartbeats 4000000 in
theorem c_X7_init (l : Launch) (D : va_G) (q : Nat → ClassId) (o sz : Nat) : Met l yX7_init (Cond.code yX7_init cX7_init 1 none :: TB) ({ frames := 1, cells := 3, slots := 120, locals := 12 } : Room) (PC D q [.ref o] [(o, .inr (7, [.null, .null, .null, .int 0, .int 0]))] sz) ((fun A => QN D A (fun h => fl [g7 q o (h 0) Z0])) (va_A [(o, .inr (7, [.null, .null, .null, .int 0, .int 0]))] sz)) 3 120 (va_A [(o, .inr (7, [.null, .null, .null, .int 0, .int 0]))] sz) := by
  refine k_metI (w0 := [(o, .inr (7, [.null, .null, .null, .int 0, .int 0]))]) (Q := fun A => QN D A (fun h => fl [g7 q o (h 0) Z0])) (by decide +kernel) (Nat.le_of_ble_eq_true rfl) ?_
  intro p e s m args below meth c A ls hin C hP hD hS hl
  have hl : lv_has ls 1 [(0, .ref o)] := hl
  have C : cx p s m args meth c cX7_init 1 none RX7 D q A := C
  obtain ⟨hx, hb, hr, hml, hown, hts, hlk, hA, hK, hN, hV⟩ := id C
  refine lv_aload_n hx hb dX7_init_0 rfl (lv_at hl 0 rfl) ?_
  refine k_obj C ob_X7 kobj hl.1 ⟨Nat.le_of_ble_eq_true rfl, Nat.le_of_ble_eq_true rfl⟩ dX7_init_1 ?_
  refine lv_aload_n hx hb dX7_init_4 rfl (lv_at hl 0 rfl) ?_
  refine lv_bipush (v := (40 : Int32)) hx hb dX7_init_5 (by decide) ?_
  refine k_newI 40 C arI hP hD hS ⟨by decide, by decide⟩ (by decide) (by decide) dX7_init_7 (fun y0 H hP hD hS => ?_)
  have hP : va_P D vwCl [(o, .inr (7, [.null, .null, .null, .int 0, .int 0])), (y0, .inl (q 1, 40, .inl (fun _ => 0)))] H := hP
  have hD : va_D A [(o, .inr (7, [.null, .null, .null, .int 0, .int 0])), (y0, .inl (q 1, 40, .inl (fun _ => 0)))] := hD
  refine W.widen (k := 1) (n := 40) (by omega) (by omega) ?_
  refine k_putF (W8 := [(o, .inr (7, [.ref y0, .null, .null, .int 0, .int 0])), (y0, .inl (q 1, 40, .inl (fun _ => 0)))]) C hin ff_X7_9 hP hD hS 0 rfl rfl rfl (Nat.le_of_ble_eq_true rfl) dX7_init_9 rfl (fun H locs hP hD hS => ?_)
  refine lv_aload_n hx hb dX7_init_12 rfl (lv_at hl 0 rfl) ?_
  refine lv_bipush (v := (40 : Int32)) hx hb dX7_init_13 (by decide) ?_
  refine k_newI 40 C arI hP hD hS ⟨by decide, by decide⟩ (by decide) (by decide) dX7_init_15 (fun y1 H hP hD hS => ?_)
  have hP : va_P D vwCl [(o, .inr (7, [.ref y0, .null, .null, .int 0, .int 0])), (y0, .inl (q 1, 40, .inl (fun _ => 0))), (y1, .inl (q 1, 40, .inl (fun _ => 0)))] H := hP
  have hD : va_D A [(o, .inr (7, [.ref y0, .null, .null, .int 0, .int 0])), (y0, .inl (q 1, 40, .inl (fun _ => 0))), (y1, .inl (q 1, 40, .inl (fun _ => 0)))] := hD
  refine W.widen (k := 2) (n := 80) (by omega) (by omega) ?_
  refine k_putF (W8 := [(o, .inr (7, [.ref y0, .ref y1, .null, .int 0, .int 0])), (y0, .inl (q 1, 40, .inl (fun _ => 0))), (y1, .inl (q 1, 40, .inl (fun _ => 0)))]) C hin ff_X7_15 hP hD hS 0 rfl rfl rfl (Nat.le_of_ble_eq_true rfl) dX7_init_17 rfl (fun H locs hP hD hS => ?_)
  refine lv_aload_n hx hb dX7_init_20 rfl (lv_at hl 0 rfl) ?_
  refine lv_bipush (v := (40 : Int32)) hx hb dX7_init_21 (by decide) ?_
  refine k_newI 40 C arI hP hD hS ⟨by decide, by decide⟩ (by decide) (by decide) dX7_init_23 (fun y2 H hP hD hS => ?_)
  have hP : va_P D vwCl [(o, .inr (7, [.ref y0, .ref y1, .null, .int 0, .int 0])), (y0, .inl (q 1, 40, .inl (fun _ => 0))), (y1, .inl (q 1, 40, .inl (fun _ => 0))), (y2, .inl (q 1, 40, .inl (fun _ => 0)))] H := hP
  have hD : va_D A [(o, .inr (7, [.ref y0, .ref y1, .null, .int 0, .int 0])), (y0, .inl (q 1, 40, .inl (fun _ => 0))), (y1, .inl (q 1, 40, .inl (fun _ => 0))), (y2, .inl (q 1, 40, .inl (fun _ => 0)))] := hD
  refine W.widen (k := 3) (n := 120) (by omega) (by omega) ?_
  refine k_putF (W8 := [(o, .inr (7, [.ref y0, .ref y1, .ref y2, .int 0, .int 0])), (y0, .inl (q 1, 40, .inl (fun _ => 0))), (y1, .inl (q 1, 40, .inl (fun _ => 0))), (y2, .inl (q 1, 40, .inl (fun _ => 0)))]) C hin ff_X7_18 hP hD hS 0 rfl rfl rfl (Nat.le_of_ble_eq_true rfl) dX7_init_25 rfl (fun H locs hP hD hS => ?_)
  exact k_nret (B := fun h => fl [g7 q o (h 0) Z0]) C (fun _ n => if n = 1 then y0 else if n = 2 then y1 else if n = 3 then y2 else 0) hP hD hS dX7_init_28
theorem ob_X8 : Cond.methodLink RX8 3 objectInit ∈ TB := tb_1 (List.mem_of_getElem? (i := 158) (by decide +kernel)) (by decide +kernel)
theorem ff_X8_9 : fpF RX8 9 8 1 (.array .long) := ⟨RX8, RX8, TX8, 15, tyX8, rfl, by decide, tbX8, fl_X8_9, fun _ _ h => h, tyX8_ok, nmX8, rfl, rfl, by decide +kernel⟩
theorem ff_X8_15 : fpF RX8 15 8 2 (.array .int) := ⟨RX8, RX8, TX8, 15, tyX8, rfl, by decide, tbX8, fl_X8_15, fun _ _ h => h, tyX8_ok, nmX8, rfl, rfl, by decide +kernel⟩
theorem ff_X8_19 : fpF RX8 19 8 3 (.array .int) := ⟨RX8, RX8, TX8, 15, tyX8, rfl, by decide, tbX8, fl_X8_19, fun _ _ h => h, tyX8_ok, nmX8, rfl, rfl, by decide +kernel⟩
theorem ff_X8_22 : fpF RX8 22 8 4 (.array .int) := ⟨RX8, RX8, TX8, 15, tyX8, rfl, by decide, tbX8, fl_X8_22, fun _ _ h => h, tyX8_ok, nmX8, rfl, rfl, by decide +kernel⟩
theorem ff_X8_25 : fpF RX8 25 8 8 (.array .long) := ⟨RX8, RX8, TX8, 15, tyX8, rfl, by decide, tbX8, fl_X8_25, fun _ _ h => h, tyX8_ok, nmX8, rfl, rfl, by decide +kernel⟩
theorem ff_X8_28 : fpF RX8 28 8 9 (.array .int) := ⟨RX8, RX8, TX8, 15, tyX8, rfl, by decide, tbX8, fl_X8_28, fun _ _ h => h, tyX8_ok, nmX8, rfl, rfl, by decide +kernel⟩
theorem ff_X8_31 : fpF RX8 31 8 10 (.array .int) := ⟨RX8, RX8, TX8, 15, tyX8, rfl, by decide, tbX8, fl_X8_31, fun _ _ h => h, tyX8_ok, nmX8, rfl, rfl, by decide +kernel⟩
theorem ff_X8_34 : fpF RX8 34 8 11 (.array .int) := ⟨RX8, RX8, TX8, 15, tyX8, rfl, by decide, tbX8, fl_X8_34, fun _ _ h => h, tyX8_ok, nmX8, rfl, rfl, by decide +kernel⟩
theorem ff_X8_37 : fpF RX8 37 8 12 (.array .int) := ⟨RX8, RX8, TX8, 15, tyX8, rfl, by decide, tbX8, fl_X8_37, fun _ _ h => h, tyX8_ok, nmX8, rfl, rfl, by decide +kernel⟩
theorem ff_X8_40 : fpF RX8 40 8 13 (.array .int) := ⟨RX8, RX8, TX8, 15, tyX8, rfl, by decide, tbX8, fl_X8_40, fun _ _ h => h, tyX8_ok, nmX8, rfl, rfl, by decide +kernel⟩
set_option maxRecDepth 100000 in
set_option maxHeartbeats 4000000 in
theorem c_X8_init (l : Launch) (D : va_G) (q : Nat → ClassId) (o sz : Nat) : Met l yX8_init (Cond.code yX8_init cX8_init 1 none :: TB) ({ frames := 1, cells := 10, slots := 64, locals := 12 } : Room) (PC D q [.ref o] [(o, .inr (8, [.int 0, .null, .null, .null, .null, .int 0, .int 0, .int 0, .null, .null, .null, .null, .null, .null, .int 0]))] sz) ((fun A => QN D A (fun h => fl [g8 q o (h 0) Z0])) (va_A [(o, .inr (8, [.int 0, .null, .null, .null, .null, .int 0, .int 0, .int 0, .null, .null, .null, .null, .null, .null, .int 0]))] sz)) 10 64 (va_A [(o, .inr (8, [.int 0, .null, .null, .null, .null, .int 0, .int 0, .int 0, .null, .null, .null, .null, .null, .null, .int 0]))] sz) := by
  refine k_metI (w0 := [(o, .inr (8, [.int 0, .null, .null, .null, .null, .int 0, .int 0, .int 0, .null, .null, .null, .null, .null, .null, .int 0]))]) (Q := fun A => QN D A (fun h => fl [g8 q o (h 0) Z0])) (by decide +kernel) (Nat.le_of_ble_eq_true rfl) ?_
  intro p e s m args below meth c A ls hin C hP hD hS hl
  have hl : lv_has ls 1 [(0, .ref o)] := hl
  have C : cx p s m args meth c cX8_init 1 none RX8 D q A := C
  obtain ⟨hx, hb, hr, hml, hown, hts, hlk, hA, hK, hN, hV⟩ := id C
  refine lv_aload_n hx hb dX8_init_0 rfl (lv_at hl 0 rfl) ?_
  refine k_obj C ob_X8 kobj hl.1 ⟨Nat.le_of_ble_eq_true rfl, Nat.le_of_ble_eq_true rfl⟩ dX8_init_1 ?_
  refine lv_aload_n hx hb dX8_init_4 rfl (lv_at hl 0 rfl) ?_
  refine lv_bipush (v := (7 : Int32)) hx hb dX8_init_5 (by decide) ?_
  refine k_newJ 7 C arJ hP hD hS ⟨by decide, by decide⟩ (by decide) (by decide) dX8_init_7 (fun y0 H hP hD hS => ?_)
  have hP : va_P D vwCl [(o, .inr (8, [.int 0, .null, .null, .null, .null, .int 0, .int 0, .int 0, .null, .null, .null, .null, .null, .null, .int 0])), (y0, .inl (q 2, 7, .inr (.inl (fun _ => 0))))] H := hP
  have hD : va_D A [(o, .inr (8, [.int 0, .null, .null, .null, .null, .int 0, .int 0, .int 0, .null, .null, .null, .null, .null, .null, .int 0])), (y0, .inl (q 2, 7, .inr (.inl (fun _ => 0))))] := hD
  refine W.widen (k := 1) (n := 7) (by omega) (by omega) ?_
  refine k_putF (W8 := [(o, .inr (8, [.int 0, .ref y0, .null, .null, .null, .int 0, .int 0, .int 0, .null, .null, .null, .null, .null, .null, .int 0])), (y0, .inl (q 2, 7, .inr (.inl (fun _ => 0))))]) C hin ff_X8_9 hP hD hS 0 rfl rfl rfl (Nat.le_of_ble_eq_true rfl) dX8_init_9 rfl (fun H locs hP hD hS => ?_)
  refine lv_aload_n hx hb dX8_init_12 rfl (lv_at hl 0 rfl) ?_
  refine lv_bipush (v := (7 : Int32)) hx hb dX8_init_13 (by decide) ?_
  refine k_newI 7 C arI hP hD hS ⟨by decide, by decide⟩ (by decide) (by decide) dX8_init_15 (fun y1 H hP hD hS => ?_)
  have hP : va_P D vwCl [(o, .inr (8, [.int 0, .ref y0, .null, .null, .null, .int 0, .int 0, .int 0, .null, .null, .null, .null, .null, .null, .int 0])), (y0, .inl (q 2, 7, .inr (.inl (fun _ => 0)))), (y1, .inl (q 1, 7, .inl (fun _ => 0)))] H := hP
  have hD : va_D A [(o, .inr (8, [.int 0, .ref y0, .null, .null, .null, .int 0, .int 0, .int 0, .null, .null, .null, .null, .null, .null, .int 0])), (y0, .inl (q 2, 7, .inr (.inl (fun _ => 0)))), (y1, .inl (q 1, 7, .inl (fun _ => 0)))] := hD
  refine W.widen (k := 2) (n := 14) (by omega) (by omega) ?_
  refine k_putF (W8 := [(o, .inr (8, [.int 0, .ref y0, .ref y1, .null, .null, .int 0, .int 0, .int 0, .null, .null, .null, .null, .null, .null, .int 0])), (y0, .inl (q 2, 7, .inr (.inl (fun _ => 0)))), (y1, .inl (q 1, 7, .inl (fun _ => 0)))]) C hin ff_X8_15 hP hD hS 0 rfl rfl rfl (Nat.le_of_ble_eq_true rfl) dX8_init_17 rfl (fun H locs hP hD hS => ?_)
  refine lv_aload_n hx hb dX8_init_20 rfl (lv_at hl 0 rfl) ?_
  refine lv_bipush (v := (7 : Int32)) hx hb dX8_init_21 (by decide) ?_
  refine k_newI 7 C arI hP hD hS ⟨by decide, by decide⟩ (by decide) (by decide) dX8_init_23 (fun y2 H hP hD hS => ?_)
  have hP : va_P D vwCl [(o, .inr (8, [.int 0, .ref y0, .ref y1, .null, .null, .int 0, .int 0, .int 0, .null, .null, .null, .null, .null, .null, .int 0])), (y0, .inl (q 2, 7, .inr (.inl (fun _ => 0)))), (y1, .inl (q 1, 7, .inl (fun _ => 0))), (y2, .inl (q 1, 7, .inl (fun _ => 0)))] H := hP
  have hD : va_D A [(o, .inr (8, [.int 0, .ref y0, .ref y1, .null, .null, .int 0, .int 0, .int 0, .null, .null, .null, .null, .null, .null, .int 0])), (y0, .inl (q 2, 7, .inr (.inl (fun _ => 0)))), (y1, .inl (q 1, 7, .inl (fun _ => 0))), (y2, .inl (q 1, 7, .inl (fun _ => 0)))] := hD
  refine W.widen (k := 3) (n := 21) (by omega) (by omega) ?_
  refine k_putF (W8 := [(o, .inr (8, [.int 0, .ref y0, .ref y1, .ref y2, .null, .int 0, .int 0, .int 0, .null, .null, .null, .null, .null, .null, .int 0])), (y0, .inl (q 2, 7, .inr (.inl (fun _ => 0)))), (y1, .inl (q 1, 7, .inl (fun _ => 0))), (y2, .inl (q 1, 7, .inl (fun _ => 0)))]) C hin ff_X8_19 hP hD hS 0 rfl rfl rfl (Nat.le_of_ble_eq_true rfl) dX8_init_25 rfl (fun H locs hP hD hS => ?_)
  refine lv_aload_n hx hb dX8_init_28 rfl (lv_at hl 0 rfl) ?_
  refine lv_bipush (v := (7 : Int32)) hx hb dX8_init_29 (by decide) ?_
  refine k_newI 7 C arI hP hD hS ⟨by decide, by decide⟩ (by decide) (by decide) dX8_init_31 (fun y3 H hP hD hS => ?_)
  have hP : va_P D vwCl [(o, .inr (8, [.int 0, .ref y0, .ref y1, .ref y2, .null, .int 0, .int 0, .int 0, .null, .null, .null, .null, .null, .null, .int 0])), (y0, .inl (q 2, 7, .inr (.inl (fun _ => 0)))), (y1, .inl (q 1, 7, .inl (fun _ => 0))), (y2, .inl (q 1, 7, .inl (fun _ => 0))), (y3, .inl (q 1, 7, .inl (fun _ => 0)))] H := hP
  have hD : va_D A [(o, .inr (8, [.int 0, .ref y0, .ref y1, .ref y2, .null, .int 0, .int 0, .int 0, .null, .null, .null, .null, .null, .null, .int 0])), (y0, .inl (q 2, 7, .inr (.inl (fun _ => 0)))), (y1, .inl (q 1, 7, .inl (fun _ => 0))), (y2, .inl (q 1, 7, .inl (fun _ => 0))), (y3, .inl (q 1, 7, .inl (fun _ => 0)))] := hD
  refine W.widen (k := 4) (n := 28) (by omega) (by omega) ?_
  refine k_putF (W8 := [(o, .inr (8, [.int 0, .ref y0, .ref y1, .ref y2, .ref y3, .int 0, .int 0, .int 0, .null, .null, .null, .null, .null, .null, .int 0])), (y0, .inl (q 2, 7, .inr (.inl (fun _ => 0)))), (y1, .inl (q 1, 7, .inl (fun _ => 0))), (y2, .inl (q 1, 7, .inl (fun _ => 0))), (y3, .inl (q 1, 7, .inl (fun _ => 0)))]) C hin ff_X8_22 hP hD hS 0 rfl rfl rfl (Nat.le_of_ble_eq_true rfl) dX8_init_33 rfl (fun H locs hP hD hS => ?_)
  refine lv_aload_n hx hb dX8_init_36 rfl (lv_at hl 0 rfl) ?_
  refine lv_bipush (v := (6 : Int32)) hx hb dX8_init_37 (by decide) ?_
  refine k_newJ 6 C arJ hP hD hS ⟨by decide, by decide⟩ (by decide) (by decide) dX8_init_39 (fun y4 H hP hD hS => ?_)
  have hP : va_P D vwCl [(o, .inr (8, [.int 0, .ref y0, .ref y1, .ref y2, .ref y3, .int 0, .int 0, .int 0, .null, .null, .null, .null, .null, .null, .int 0])), (y0, .inl (q 2, 7, .inr (.inl (fun _ => 0)))), (y1, .inl (q 1, 7, .inl (fun _ => 0))), (y2, .inl (q 1, 7, .inl (fun _ => 0))), (y3, .inl (q 1, 7, .inl (fun _ => 0))), (y4, .inl (q 2, 6, .inr (.inl (fun _ => 0))))] H := hP
  have hD : va_D A [(o, .inr (8, [.int 0, .ref y0, .ref y1, .ref y2, .ref y3, .int 0, .int 0, .int 0, .null, .null, .null, .null, .null, .null, .int 0])), (y0, .inl (q 2, 7, .inr (.inl (fun _ => 0)))), (y1, .inl (q 1, 7, .inl (fun _ => 0))), (y2, .inl (q 1, 7, .inl (fun _ => 0))), (y3, .inl (q 1, 7, .inl (fun _ => 0))), (y4, .inl (q 2, 6, .inr (.inl (fun _ => 0))))] := hD
  refine W.widen (k := 5) (n := 34) (by omega) (by omega) ?_
  refine k_putF (W8 := [(o, .inr (8, [.int 0, .ref y0, .ref y1, .ref y2, .ref y3, .int 0, .int 0, .int 0, .ref y4, .null, .null, .null, .null, .null, .int 0])), (y0, .inl (q 2, 7, .inr (.inl (fun _ => 0)))), (y1, .inl (q 1, 7, .inl (fun _ => 0))), (y2, .inl (q 1, 7, .inl (fun _ => 0))), (y3, .inl (q 1, 7, .inl (fun _ => 0))), (y4, .inl (q 2, 6, .inr (.inl (fun _ => 0))))]) C hin ff_X8_25 hP hD hS 0 rfl rfl rfl (Nat.le_of_ble_eq_true rfl) dX8_init_41 rfl (fun H locs hP hD hS => ?_)
  refine lv_aload_n hx hb dX8_init_44 rfl (lv_at hl 0 rfl) ?_
  refine lv_bipush (v := (6 : Int32)) hx hb dX8_init_45 (by decide) ?_
  refine k_newI 6 C arI hP hD hS ⟨by decide, by decide⟩ (by decide) (by decide) dX8_init_47 (fun y5 H hP hD hS => ?_)
  have hP : va_P D vwCl [(o, .inr (8, [.int 0, .ref y0, .ref y1, .ref y2, .ref y3, .int 0, .int 0, .int 0, .ref y4, .null, .null, .null, .null, .null, .int 0])), (y0, .inl (q 2, 7, .inr (.inl (fun _ => 0)))), (y1, .inl (q 1, 7, .inl (fun _ => 0))), (y2, .inl (q 1, 7, .inl (fun _ => 0))), (y3, .inl (q 1, 7, .inl (fun _ => 0))), (y4, .inl (q 2, 6, .inr (.inl (fun _ => 0)))), (y5, .inl (q 1, 6, .inl (fun _ => 0)))] H := hP
  have hD : va_D A [(o, .inr (8, [.int 0, .ref y0, .ref y1, .ref y2, .ref y3, .int 0, .int 0, .int 0, .ref y4, .null, .null, .null, .null, .null, .int 0])), (y0, .inl (q 2, 7, .inr (.inl (fun _ => 0)))), (y1, .inl (q 1, 7, .inl (fun _ => 0))), (y2, .inl (q 1, 7, .inl (fun _ => 0))), (y3, .inl (q 1, 7, .inl (fun _ => 0))), (y4, .inl (q 2, 6, .inr (.inl (fun _ => 0)))), (y5, .inl (q 1, 6, .inl (fun _ => 0)))] := hD
  refine W.widen (k := 6) (n := 40) (by omega) (by omega) ?_
  refine k_putF (W8 := [(o, .inr (8, [.int 0, .ref y0, .ref y1, .ref y2, .ref y3, .int 0, .int 0, .int 0, .ref y4, .ref y5, .null, .null, .null, .null, .int 0])), (y0, .inl (q 2, 7, .inr (.inl (fun _ => 0)))), (y1, .inl (q 1, 7, .inl (fun _ => 0))), (y2, .inl (q 1, 7, .inl (fun _ => 0))), (y3, .inl (q 1, 7, .inl (fun _ => 0))), (y4, .inl (q 2, 6, .inr (.inl (fun _ => 0)))), (y5, .inl (q 1, 6, .inl (fun _ => 0)))]) C hin ff_X8_28 hP hD hS 0 rfl rfl rfl (Nat.le_of_ble_eq_true rfl) dX8_init_49 rfl (fun H locs hP hD hS => ?_)
  refine lv_aload_n hx hb dX8_init_52 rfl (lv_at hl 0 rfl) ?_
  refine lv_bipush (v := (6 : Int32)) hx hb dX8_init_53 (by decide) ?_
  refine k_newI 6 C arI hP hD hS ⟨by decide, by decide⟩ (by decide) (by decide) dX8_init_55 (fun y6 H hP hD hS => ?_)
  have hP : va_P D vwCl [(o, .inr (8, [.int 0, .ref y0, .ref y1, .ref y2, .ref y3, .int 0, .int 0, .int 0, .ref y4, .ref y5, .null, .null, .null, .null, .int 0])), (y0, .inl (q 2, 7, .inr (.inl (fun _ => 0)))), (y1, .inl (q 1, 7, .inl (fun _ => 0))), (y2, .inl (q 1, 7, .inl (fun _ => 0))), (y3, .inl (q 1, 7, .inl (fun _ => 0))), (y4, .inl (q 2, 6, .inr (.inl (fun _ => 0)))), (y5, .inl (q 1, 6, .inl (fun _ => 0))), (y6, .inl (q 1, 6, .inl (fun _ => 0)))] H := hP
  have hD : va_D A [(o, .inr (8, [.int 0, .ref y0, .ref y1, .ref y2, .ref y3, .int 0, .int 0, .int 0, .ref y4, .ref y5, .null, .null, .null, .null, .int 0])), (y0, .inl (q 2, 7, .inr (.inl (fun _ => 0)))), (y1, .inl (q 1, 7, .inl (fun _ => 0))), (y2, .inl (q 1, 7, .inl (fun _ => 0))), (y3, .inl (q 1, 7, .inl (fun _ => 0))), (y4, .inl (q 2, 6, .inr (.inl (fun _ => 0)))), (y5, .inl (q 1, 6, .inl (fun _ => 0))), (y6, .inl (q 1, 6, .inl (fun _ => 0)))] := hD
  refine W.widen (k := 7) (n := 46) (by omega) (by omega) ?_
  refine k_putF (W8 := [(o, .inr (8, [.int 0, .ref y0, .ref y1, .ref y2, .ref y3, .int 0, .int 0, .int 0, .ref y4, .ref y5, .ref y6, .null, .null, .null, .int 0])), (y0, .inl (q 2, 7, .inr (.inl (fun _ => 0)))), (y1, .inl (q 1, 7, .inl (fun _ => 0))), (y2, .inl (q 1, 7, .inl (fun _ => 0))), (y3, .inl (q 1, 7, .inl (fun _ => 0))), (y4, .inl (q 2, 6, .inr (.inl (fun _ => 0)))), (y5, .inl (q 1, 6, .inl (fun _ => 0))), (y6, .inl (q 1, 6, .inl (fun _ => 0)))]) C hin ff_X8_31 hP hD hS 0 rfl rfl rfl (Nat.le_of_ble_eq_true rfl) dX8_init_57 rfl (fun H locs hP hD hS => ?_)
  refine lv_aload_n hx hb dX8_init_60 rfl (lv_at hl 0 rfl) ?_
  refine lv_bipush (v := (6 : Int32)) hx hb dX8_init_61 (by decide) ?_
  refine k_newI 6 C arI hP hD hS ⟨by decide, by decide⟩ (by decide) (by decide) dX8_init_63 (fun y7 H hP hD hS => ?_)
  have hP : va_P D vwCl [(o, .inr (8, [.int 0, .ref y0, .ref y1, .ref y2, .ref y3, .int 0, .int 0, .int 0, .ref y4, .ref y5, .ref y6, .null, .null, .null, .int 0])), (y0, .inl (q 2, 7, .inr (.inl (fun _ => 0)))), (y1, .inl (q 1, 7, .inl (fun _ => 0))), (y2, .inl (q 1, 7, .inl (fun _ => 0))), (y3, .inl (q 1, 7, .inl (fun _ => 0))), (y4, .inl (q 2, 6, .inr (.inl (fun _ => 0)))), (y5, .inl (q 1, 6, .inl (fun _ => 0))), (y6, .inl (q 1, 6, .inl (fun _ => 0))), (y7, .inl (q 1, 6, .inl (fun _ => 0)))] H := hP
  have hD : va_D A [(o, .inr (8, [.int 0, .ref y0, .ref y1, .ref y2, .ref y3, .int 0, .int 0, .int 0, .ref y4, .ref y5, .ref y6, .null, .null, .null, .int 0])), (y0, .inl (q 2, 7, .inr (.inl (fun _ => 0)))), (y1, .inl (q 1, 7, .inl (fun _ => 0))), (y2, .inl (q 1, 7, .inl (fun _ => 0))), (y3, .inl (q 1, 7, .inl (fun _ => 0))), (y4, .inl (q 2, 6, .inr (.inl (fun _ => 0)))), (y5, .inl (q 1, 6, .inl (fun _ => 0))), (y6, .inl (q 1, 6, .inl (fun _ => 0))), (y7, .inl (q 1, 6, .inl (fun _ => 0)))] := hD
  refine W.widen (k := 8) (n := 52) (by omega) (by omega) ?_
  refine k_putF (W8 := [(o, .inr (8, [.int 0, .ref y0, .ref y1, .ref y2, .ref y3, .int 0, .int 0, .int 0, .ref y4, .ref y5, .ref y6, .ref y7, .null, .null, .int 0])), (y0, .inl (q 2, 7, .inr (.inl (fun _ => 0)))), (y1, .inl (q 1, 7, .inl (fun _ => 0))), (y2, .inl (q 1, 7, .inl (fun _ => 0))), (y3, .inl (q 1, 7, .inl (fun _ => 0))), (y4, .inl (q 2, 6, .inr (.inl (fun _ => 0)))), (y5, .inl (q 1, 6, .inl (fun _ => 0))), (y6, .inl (q 1, 6, .inl (fun _ => 0))), (y7, .inl (q 1, 6, .inl (fun _ => 0)))]) C hin ff_X8_34 hP hD hS 0 rfl rfl rfl (Nat.le_of_ble_eq_true rfl) dX8_init_65 rfl (fun H locs hP hD hS => ?_)
  refine lv_aload_n hx hb dX8_init_68 rfl (lv_at hl 0 rfl) ?_
  refine lv_bipush (v := (6 : Int32)) hx hb dX8_init_69 (by decide) ?_
  refine k_newI 6 C arI hP hD hS ⟨by decide, by decide⟩ (by decide) (by decide) dX8_init_71 (fun y8 H hP hD hS => ?_)
  have hP : va_P D vwCl [(o, .inr (8, [.int 0, .ref y0, .ref y1, .ref y2, .ref y3, .int 0, .int 0, .int 0, .ref y4, .ref y5, .ref y6, .ref y7, .null, .null, .int 0])), (y0, .inl (q 2, 7, .inr (.inl (fun _ => 0)))), (y1, .inl (q 1, 7, .inl (fun _ => 0))), (y2, .inl (q 1, 7, .inl (fun _ => 0))), (y3, .inl (q 1, 7, .inl (fun _ => 0))), (y4, .inl (q 2, 6, .inr (.inl (fun _ => 0)))), (y5, .inl (q 1, 6, .inl (fun _ => 0))), (y6, .inl (q 1, 6, .inl (fun _ => 0))), (y7, .inl (q 1, 6, .inl (fun _ => 0))), (y8, .inl (q 1, 6, .inl (fun _ => 0)))] H := hP
  have hD : va_D A [(o, .inr (8, [.int 0, .ref y0, .ref y1, .ref y2, .ref y3, .int 0, .int 0, .int 0, .ref y4, .ref y5, .ref y6, .ref y7, .null, .null, .int 0])), (y0, .inl (q 2, 7, .inr (.inl (fun _ => 0)))), (y1, .inl (q 1, 7, .inl (fun _ => 0))), (y2, .inl (q 1, 7, .inl (fun _ => 0))), (y3, .inl (q 1, 7, .inl (fun _ => 0))), (y4, .inl (q 2, 6, .inr (.inl (fun _ => 0)))), (y5, .inl (q 1, 6, .inl (fun _ => 0))), (y6, .inl (q 1, 6, .inl (fun _ => 0))), (y7, .inl (q 1, 6, .inl (fun _ => 0))), (y8, .inl (q 1, 6, .inl (fun _ => 0)))] := hD
  refine W.widen (k := 9) (n := 58) (by omega) (by omega) ?_
  refine k_putF (W8 := [(o, .inr (8, [.int 0, .ref y0, .ref y1, .ref y2, .ref y3, .int 0, .int 0, .int 0, .ref y4, .ref y5, .ref y6, .ref y7, .ref y8, .null, .int 0])), (y0, .inl (q 2, 7, .inr (.inl (fun _ => 0)))), (y1, .inl (q 1, 7, .inl (fun _ => 0))), (y2, .inl (q 1, 7, .inl (fun _ => 0))), (y3, .inl (q 1, 7, .inl (fun _ => 0))), (y4, .inl (q 2, 6, .inr (.inl (fun _ => 0)))), (y5, .inl (q 1, 6, .inl (fun _ => 0))), (y6, .inl (q 1, 6, .inl (fun _ => 0))), (y7, .inl (q 1, 6, .inl (fun _ => 0))), (y8, .inl (q 1, 6, .inl (fun _ => 0)))]) C hin ff_X8_37 hP hD hS 0 rfl rfl rfl (Nat.le_of_ble_eq_true rfl) dX8_init_73 rfl (fun H locs hP hD hS => ?_)
  refine lv_aload_n hx hb dX8_init_76 rfl (lv_at hl 0 rfl) ?_
  refine lv_bipush (v := (6 : Int32)) hx hb dX8_init_77 (by decide) ?_
  refine k_newI 6 C arI hP hD hS ⟨by decide, by decide⟩ (by decide) (by decide) dX8_init_79 (fun y9 H hP hD hS => ?_)
  have hP : va_P D vwCl [(o, .inr (8, [.int 0, .ref y0, .ref y1, .ref y2, .ref y3, .int 0, .int 0, .int 0, .ref y4, .ref y5, .ref y6, .ref y7, .ref y8, .null, .int 0])), (y0, .inl (q 2, 7, .inr (.inl (fun _ => 0)))), (y1, .inl (q 1, 7, .inl (fun _ => 0))), (y2, .inl (q 1, 7, .inl (fun _ => 0))), (y3, .inl (q 1, 7, .inl (fun _ => 0))), (y4, .inl (q 2, 6, .inr (.inl (fun _ => 0)))), (y5, .inl (q 1, 6, .inl (fun _ => 0))), (y6, .inl (q 1, 6, .inl (fun _ => 0))), (y7, .inl (q 1, 6, .inl (fun _ => 0))), (y8, .inl (q 1, 6, .inl (fun _ => 0))), (y9, .inl (q 1, 6, .inl (fun _ => 0)))] H := hP
  have hD : va_D A [(o, .inr (8, [.int 0, .ref y0, .ref y1, .ref y2, .ref y3, .int 0, .int 0, .int 0, .ref y4, .ref y5, .ref y6, .ref y7, .ref y8, .null, .int 0])), (y0, .inl (q 2, 7, .inr (.inl (fun _ => 0)))), (y1, .inl (q 1, 7, .inl (fun _ => 0))), (y2, .inl (q 1, 7, .inl (fun _ => 0))), (y3, .inl (q 1, 7, .inl (fun _ => 0))), (y4, .inl (q 2, 6, .inr (.inl (fun _ => 0)))), (y5, .inl (q 1, 6, .inl (fun _ => 0))), (y6, .inl (q 1, 6, .inl (fun _ => 0))), (y7, .inl (q 1, 6, .inl (fun _ => 0))), (y8, .inl (q 1, 6, .inl (fun _ => 0))), (y9, .inl (q 1, 6, .inl (fun _ => 0)))] := hD
  refine W.widen (k := 10) (n := 64) (by omega) (by omega) ?_
  refine k_putF (W8 := [(o, .inr (8, [.int 0, .ref y0, .ref y1, .ref y2, .ref y3, .int 0, .int 0, .int 0, .ref y4, .ref y5, .ref y6, .ref y7, .ref y8, .ref y9, .int 0])), (y0, .inl (q 2, 7, .inr (.inl (fun _ => 0)))), (y1, .inl (q 1, 7, .inl (fun _ => 0))), (y2, .inl (q 1, 7, .inl (fun _ => 0))), (y3, .inl (q 1, 7, .inl (fun _ => 0))), (y4, .inl (q 2, 6, .inr (.inl (fun _ => 0)))), (y5, .inl (q 1, 6, .inl (fun _ => 0))), (y6, .inl (q 1, 6, .inl (fun _ => 0))), (y7, .inl (q 1, 6, .inl (fun _ => 0))), (y8, .inl (q 1, 6, .inl (fun _ => 0))), (y9, .inl (q 1, 6, .inl (fun _ => 0)))]) C hin ff_X8_40 hP hD hS 0 rfl rfl rfl (Nat.le_of_ble_eq_true rfl) dX8_init_81 rfl (fun H locs hP hD hS => ?_)
  exact k_nret (B := fun h => fl [g8 q o (h 0) Z0]) C (fun _ n => if n = 2 then y0 else if n = 3 then y1 else if n = 4 then y2 else if n = 5 then y3 else if n = 9 then y4 else if n = 10 then y5 else if n = 11 then y6 else if n = 12 then y7 else if n = 13 then y8 else if n = 14 then y9 else 0) hP hD hS dX8_init_84
theorem ob_X9 : Cond.methodLink RX9 3 objectInit ∈ TB := tb_1 (List.mem_of_getElem? (i := 45) (by decide +kernel)) (by decide +kernel)
theorem ff_X9_9 : fpF RX9 9 9 0 (.array .int) := ⟨RX9, RX9, TX9, 2, tyX9, rfl, by decide, tbX9, fl_X9_9, fun _ _ h => h, tyX9_ok, nmX9, rfl, rfl, by decide +kernel⟩
set_option maxRecDepth 100000 in
set_option maxHeartbeats 4000000 in
theorem c_X9_init (l : Launch) (D : va_G) (q : Nat → ClassId) (o sz : Nat) (x1 : Int32) (n : Nat) (hn : ¬ x1 < 0 ∧ x1.toNatClampNeg = n) (hb9 : n ≤ 100000) : Met l yX9_init (Cond.code yX9_init cX9_init 2 none :: TB) ({ frames := 1, cells := 1, slots := n, locals := 12 } : Room) (PC D q [.ref o, .int x1] [(o, .inr (9, [.null, .int 0]))] sz) ((fun A => QN D A (fun h => fl [g9 q o (h 0) n Z0])) (va_A [(o, .inr (9, [.null, .int 0]))] sz)) 1 n (va_A [(o, .inr (9, [.null, .int 0]))] sz) := by
  refine k_metI (w0 := [(o, .inr (9, [.null, .int 0]))]) (Q := fun A => QN D A (fun h => fl [g9 q o (h 0) n Z0])) (by decide +kernel) (Nat.le_of_ble_eq_true rfl) ?_
  intro p e s m args below meth c A ls hin C hP hD hS hl
  have hl : lv_has ls 2 [(0, .ref o), (1, .int x1)] := hl
  have C : cx p s m args meth c cX9_init 2 none RX9 D q A := C
  obtain ⟨hx, hb, hr, hml, hown, hts, hlk, hA, hK, hN, hV⟩ := id C
  refine lv_aload_n hx hb dX9_init_0 rfl (lv_at hl 0 rfl) ?_
  refine k_obj C ob_X9 kobj hl.1 ⟨Nat.le_of_ble_eq_true rfl, Nat.le_of_ble_eq_true rfl⟩ dX9_init_1 ?_
  refine lv_aload_n hx hb dX9_init_4 rfl (lv_at hl 0 rfl) ?_
  refine lv_iload_n hx hb dX9_init_5 rfl (lv_at hl 1 rfl) ?_
  refine k_newI n C arI hP hD hS hn hb9 ⟨Nat.le_of_ble_eq_true rfl, by show 0 + n ≤ n; omega⟩ dX9_init_6 (fun y0 H hP hD hS => ?_)
  have hP : va_P D vwCl [(o, .inr (9, [.null, .int 0])), (y0, .inl (q 1, n, .inl (fun _ => 0)))] H := hP
  have hD : va_D A [(o, .inr (9, [.null, .int 0])), (y0, .inl (q 1, n, .inl (fun _ => 0)))] := hD
  refine W.widen (k := 1) (n := n) (by omega) (by omega) ?_
  refine k_putF (W8 := [(o, .inr (9, [.ref y0, .int 0])), (y0, .inl (q 1, n, .inl (fun _ => 0)))]) C hin ff_X9_9 hP hD hS 0 rfl rfl rfl (Nat.le_of_ble_eq_true rfl) dX9_init_8 rfl (fun H locs hP hD hS => ?_)
  refine lv_aload_n hx hb dX9_init_11 rfl (lv_at hl 0 rfl) ?_
  refine lv_iconst (v := (0 : Int32)) hx hb dX9_init_12 (by decide) ?_
  refine k_put (W8 := [(o, .inr (9, [.ref y0, .int (0 : Int32)])), (y0, .inl (q 1, n, .inl (fun _ => 0)))]) C fp_X9_15 hP hD hS 0 rfl rfl rfl (Nat.le_of_ble_eq_true rfl) dX9_init_13 rfl (fun H locs hP hD hS => ?_)
  exact k_nret (B := fun h => fl [g9 q o (h 0) n Z0]) C (fun _ n => if n = 1 then y0 else 0) hP hD hS dX9_init_16
theorem ob_X10 : Cond.methodLink RX10 3 objectInit ∈ TB := tb_2 (List.mem_of_getElem? (i := 151) (by decide +kernel)) (by decide +kernel)
theorem ff_X10_9 : fpF RX10 9 10 0 (.array .int) := ⟨RX10, RX10, TX10, 3, tyX10, rfl, by decide, tbX10, fl_X10_9, fun _ _ h => h, tyX10_ok, nmX10, rfl, rfl, by decide +kernel⟩
set_option maxRecDepth 100000 in
set_option maxHeartbeats 4000000 in
theorem c_X10_init (l : Launch) (D : va_G) (q : Nat → ClassId) (o sz : Nat) : Met l yX10_init (Cond.code yX10_init cX10_init 1 none :: TB) ({ frames := 1, cells := 1, slots := 6, locals := 12 } : Room) (PC D q [.ref o] [(o, .inr (10, [.null, .int 0, .int 0]))] sz) ((fun A => QN D A (fun h => fl [g10 q o (h 0) Z0])) (va_A [(o, .inr (10, [.null, .int 0, .int 0]))] sz)) 1 6 (va_A [(o, .inr (10, [.null, .int 0, .int 0]))] sz) := by
  refine k_metI (w0 := [(o, .inr (10, [.null, .int 0, .int 0]))]) (Q := fun A => QN D A (fun h => fl [g10 q o (h 0) Z0])) (by decide +kernel) (Nat.le_of_ble_eq_true rfl) ?_
  intro p e s m args below meth c A ls hin C hP hD hS hl
  have hl : lv_has ls 1 [(0, .ref o)] := hl
  have C : cx p s m args meth c cX10_init 1 none RX10 D q A := C
  obtain ⟨hx, hb, hr, hml, hown, hts, hlk, hA, hK, hN, hV⟩ := id C
  refine lv_aload_n hx hb dX10_init_0 rfl (lv_at hl 0 rfl) ?_
  refine k_obj C ob_X10 kobj hl.1 ⟨Nat.le_of_ble_eq_true rfl, Nat.le_of_ble_eq_true rfl⟩ dX10_init_1 ?_
  refine lv_aload_n hx hb dX10_init_4 rfl (lv_at hl 0 rfl) ?_
  refine lv_bipush (v := (6 : Int32)) hx hb dX10_init_5 (by decide) ?_
  refine k_newI 6 C arI hP hD hS ⟨by decide, by decide⟩ (by decide) (by decide) dX10_init_7 (fun y0 H hP hD hS => ?_)
  have hP : va_P D vwCl [(o, .inr (10, [.null, .int 0, .int 0])), (y0, .inl (q 1, 6, .inl (fun _ => 0)))] H := hP
  have hD : va_D A [(o, .inr (10, [.null, .int 0, .int 0])), (y0, .inl (q 1, 6, .inl (fun _ => 0)))] := hD
  refine W.widen (k := 1) (n := 6) (by omega) (by omega) ?_
  refine k_putF (W8 := [(o, .inr (10, [.ref y0, .int 0, .int 0])), (y0, .inl (q 1, 6, .inl (fun _ => 0)))]) C hin ff_X10_9 hP hD hS 0 rfl rfl rfl (Nat.le_of_ble_eq_true rfl) dX10_init_9 rfl (fun H locs hP hD hS => ?_)
  refine lv_aload_n hx hb dX10_init_12 rfl (lv_at hl 0 rfl) ?_
  refine lv_iconst (v := (0 : Int32)) hx hb dX10_init_13 (by decide) ?_
  refine k_put (W8 := [(o, .inr (10, [.ref y0, .int (0 : Int32), .int 0])), (y0, .inl (q 1, 6, .inl (fun _ => 0)))]) C fp_X10_15 hP hD hS 0 rfl rfl rfl (Nat.le_of_ble_eq_true rfl) dX10_init_14 rfl (fun H locs hP hD hS => ?_)
  exact k_nret (B := fun h => fl [g10 q o (h 0) Z0]) C (fun _ n => if n = 1 then y0 else 0) hP hD hS dX10_init_17
