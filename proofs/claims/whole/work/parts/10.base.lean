/-! one list of words for every method, states, contracts' forms, calls: what the printed walks stand on -/
def TB : List Cond := lw_tbl.filter goodWord
theorem tb_of {w : Cond} (h : w ∈ lw_tbl) (hg : goodWord w = true) : w ∈ TB := List.mem_filter.mpr ⟨h, hg⟩
theorem tb_0 {y : MethodName} {n : Nat} (h : (y, n) ∈ lw_privs) (hg : goodWord (Cond.selects y.cls y y) = true) : Cond.selects y.cls y y ∈ TB := tb_of (List.mem_append_left _ (List.mem_map.mpr ⟨(y, n), h, rfl⟩)) hg
theorem tb_t {w : Cond} (h : w ∈ tables_1) (hg : goodWord w = true) : w ∈ TB := tb_of (List.mem_append_right _ h) hg
theorem tb_1 {w : Cond} (h : w ∈ tables_1_1) (hg : goodWord w = true) : w ∈ TB := tb_t (List.mem_append_left _ h) hg
theorem tb_2 {w : Cond} (h : w ∈ tables_1_2) (hg : goodWord w = true) : w ∈ TB := tb_t (List.mem_append_right _ (List.mem_append_left _ h)) hg
theorem tb_3 {w : Cond} (h : w ∈ tables_1_3) (hg : goodWord w = true) : w ∈ TB := tb_t (List.mem_append_right _ (List.mem_append_right _ (List.mem_append_left _ h))) hg
theorem tb_4 {w : Cond} (h : w ∈ tables_1_4) (hg : goodWord w = true) : w ∈ TB := tb_t (List.mem_append_right _ (List.mem_append_right _ (List.mem_append_right _ (List.mem_append_left _ h)))) hg
theorem tb_5 {w : Cond} (h : w ∈ tables_1_5) (hg : goodWord w = true) : w ∈ TB := tb_t (List.mem_append_right _ (List.mem_append_right _ (List.mem_append_right _ (List.mem_append_right _ (List.mem_append_left _ h))))) hg
theorem tb_6 {w : Cond} (h : w ∈ tables_1_6) (hg : goodWord w = true) : w ∈ TB := tb_t (List.mem_append_right _ (List.mem_append_right _ (List.mem_append_right _ (List.mem_append_right _ (List.mem_append_right _ (List.mem_append_left _ h)))))) hg
theorem tb_7 {w : Cond} (h : w ∈ tables_1_7) (hg : goodWord w = true) : w ∈ TB := tb_t (List.mem_append_right _ (List.mem_append_right _ (List.mem_append_right _ (List.mem_append_right _ (List.mem_append_right _ (List.mem_append_right _ (List.mem_append_left _ h))))))) hg
theorem tb_8 {w : Cond} (h : w ∈ tables_1_8) (hg : goodWord w = true) : w ∈ TB := tb_t (List.mem_append_right _ (List.mem_append_right _ (List.mem_append_right _ (List.mem_append_right _ (List.mem_append_right _ (List.mem_append_right _ (List.mem_append_right _ h))))))) hg
theorem tb_good {y : MethodName} {cc : ByteArray} {n : Nat} {ret : Option FieldType} (h : Cond.code y cc n ret ∈ TB) : GoodIn TB (Cond.code y cc n ret :: TB) := fun w hw => by
  have hm : w ∈ TB := (List.mem_cons.mp hw).elim (fun e => by rw [e]; exact h) id
  exact ⟨hm, good_of_word (List.mem_filter.mp hm).2⟩
/-! the state of an object: its ints, its longs, its rows of ints (bytes, booleans), its rows of longs, each by the number of its field -/
abbrev St : Type := (Nat → Int32) × (Nat → Int64) × (Nat → Nat → Int32) × (Nat → Nat → Int64)
def sI (S : St) (k : Nat) (v : Int32) : St := (va_up S.1 k v, S.2)
def sL (S : St) (k : Nat) (v : Int64) : St := (S.1, va_up S.2.1 k v, S.2.2)
def sF (S : St) (k : Nat) (f : Nat → Int32) : St := (S.1, S.2.1, va_up S.2.2.1 k f, S.2.2.2)
def sG (S : St) (k : Nat) (f : Nat → Int64) : St := (S.1, S.2.1, S.2.2.1, va_up S.2.2.2 k f)
def sA (S : St) (k : Nat) (i : Int32) (v : Int32) : St := sF S k (upd (S.2.2.1 k) i.toNatClampNeg v)
def sJ (S : St) (k : Nat) (i : Int32) (v : Int64) : St := sG S k (vp_updL (S.2.2.2 k) i.toNatClampNeg v)
/-- an index outside its row -/
abbrev oob (i : Int32) (n : Nat) : Prop := i < 0 ∨ n ≤ i.toNatClampNeg
abbrev nb (v : Int32) : Prop := ¬ (v = 0 ∨ v = 1)
theorem nb_nar {v : Int32} (h : ¬ nb v) : narrow .boolean (.int v) = .int v := by
  rcases Decidable.not_not.mp h with e | e <;> subst e <;> decide
theorem nb_fit {v : Int32} (h : ¬ nb v) : fits .boolean (.int v) = true := by
  rcases Decidable.not_not.mp h with e | e <;> subst e <;> decide
def FU : Nat := 1000000
/-- a new state gets a name -/
def nw {α β : Type} (a : α) (k : α → β) : β := k a
theorem nw_s {α β : Type} {a : α} {k : α → Option β} {o : β} (h : nw a k = some o) : ∃ b, b = a ∧ k b = some o := ⟨a, rfl, h⟩
def ob1 {α β : Type} (x : Option α) (k : α → Option β) : Option β := match x with
  | none => none
  | some a => k a
def ob2 {α γ β : Type} (x : Option (α × γ)) (k : α → γ → Option β) : Option β := match x with
  | none => none
  | some (a, c) => k a c
def ob3 {α γ δ β : Type} (x : Option (α × γ × δ)) (k : α → γ → δ → Option β) : Option β := match x with
  | none => none
  | some (a, c, d) => k a c d
def ob4 {α γ δ ε β : Type} (x : Option (α × γ × δ × ε)) (k : α → γ → δ → ε → Option β) : Option β := match x with
  | none => none
  | some (a, c, d, e) => k a c d e
theorem ob1_s {α β : Type} {x : Option α} {k : α → Option β} {o : β} (h : ob1 x k = some o) : ∃ a, x = some a ∧ k a = some o := by
  cases x with
  | none => cases h
  | some a => exact ⟨a, rfl, h⟩
theorem ob2_s {α γ β : Type} {x : Option (α × γ)} {k : α → γ → Option β} {o : β} (h : ob2 x k = some o) : ∃ a c, x = some (a, c) ∧ k a c = some o := by
  cases x with
  | none => cases h
  | some a => exact ⟨a.1, a.2, rfl, h⟩
theorem ob3_s {α γ δ β : Type} {x : Option (α × γ × δ)} {k : α → γ → δ → Option β} {o : β} (h : ob3 x k = some o) : ∃ a c d, x = some (a, c, d) ∧ k a c d = some o := by
  cases x with
  | none => cases h
  | some a => exact ⟨a.1, a.2.1, a.2.2, rfl, h⟩
theorem ob4_s {α γ δ ε β : Type} {x : Option (α × γ × δ × ε)} {k : α → γ → δ → ε → Option β} {o : β} (h : ob4 x k = some o) : ∃ a c d e, x = some (a, c, d, e) ∧ k a c d e = some o := by
  cases x with
  | none => cases h
  | some a => exact ⟨a.1, a.2.1, a.2.2.1, a.2.2.2, rfl, h⟩
theorem op_ck {α : Type} {c : Prop} [Decidable c] {K : Option α} {o : α} (h : (if c then none else K) = some o) : ¬ c ∧ K = some o := by
  by_cases hc : c
  · rw [if_pos hc] at h; cases h
  · rw [if_neg hc] at h; exact ⟨hc, h⟩
theorem op_t {α : Type} {c : Prop} [Decidable c] {K L : Option α} {o : α} (h : (if c then K else L) = some o) (hc : c) : K = some o := by rw [if_pos hc] at h; exact h
theorem op_f {α : Type} {c : Prop} [Decidable c] {K L : Option α} {o : α} (h : (if c then K else L) = some o) (hc : ¬ c) : L = some o := by rw [if_neg hc] at h; exact h
/-- a loop: as often as the first number says at most -/
def lp {α β : Type} (body : (α → Option β) → α → Option β) : Nat → α → Option β
  | 0, _ => none
  | n + 1, x => body (lp body n) x
theorem lp_G {α β : Type} (body : (α → Option β) → α → Option β) (o : β) (G : α → Prop) (h : ∀ kh : α → Option β, (∀ x, kh x = some o → G x) → ∀ x, body kh x = some o → G x) : ∀ (n : Nat) (x : α), lp body n x = some o → G x := by
  intro n
  induction n with
  | zero => intro x hx; cases hx
  | succ n ih => intro x hx; exact h _ ih x hx
/-! the tables' words beside TB, and what stands of the classes -/
abbrev tyL (q : Nat → ClassId) : List (ClassId × FieldType) := [(q 0, .byte), (q 1, .int), (q 2, .long), (q 3, .boolean), (q 4, .object RX3), (q 5, .object RX8)]
def nestL : List Cond := [.methodLinkNest RX5 144 yX11_opposite RX11, .methodLinkNest RX8 128 yX11_allRound RX11, .methodLinkNest RX8 140 yX11_having RX11, .methodLinkNest RX10 44 yX11_opposite RX11, .methodLinkNest RX10 48 yX11_having RX11, .methodLinkNest RX11 87 yX1_init RX11, .arrayOver (.object RX8), .arrayOver (.object RX3)]
def KK (D : va_G) (q : Nat → ClassId) (U : State) : Prop := va_K D vwCl (tyL q) U ∧ ∀ w ∈ nestL, va_Nw w U
theorem nestL_warm {s U : State} (hW : s.WarmedH U.vm) (h : ∀ w ∈ nestL, va_Nw w s) : ∀ w ∈ nestL, va_Nw w U := by
  intro w hw
  have h1 := h w hw
  simp only [nestL, List.mem_cons, List.not_mem_nil, or_false] at hw
  rcases hw with e | e | e | e | e | e | e | e <;> subst e <;> first | exact va_Nw.warmM hW h1 | exact va_AO.moved hW.alike h1
theorem nestL_same {s U : State} (hv : s.vm = U.vm) (h : ∀ w ∈ nestL, va_Nw w s) : ∀ w ∈ nestL, va_Nw w U := by
  intro w hw
  have h1 := h w hw
  simp only [nestL, List.mem_cons, List.not_mem_nil, or_false] at hw
  rcases hw with e | e | e | e | e | e | e | e <;> subst e <;> first | exact va_Nw.same rfl hv h1 | exact va_AO.moved (show s.vm.Alike U.vm by rw [hv]; exact Vm.Alike.refl U.vm) h1
theorem KK.warm {D : va_G} {q : Nat → ClassId} {s U : State} (hW : s.WarmedH U.vm) (h : KK D q s) : KK D q U := ⟨va_K.moved hW.alike h.1, nestL_warm hW h.2⟩
/-! the String constants: where they lie, q (100 + i) and their bytes q (200 + i); what the tables and the heap say of them -/
def slen : List Nat := [95, 41, 61, 4, 7, 8, 1, 14, 12]
def sbyt : List (List Int32) := [[116, 117, 114, 114, 101, 116, 32, 112, 101, 114, 115, 111, 110, 32, 116, 104, 105, 110, 107, 115, 32, 119, 97, 110, 116, 115, 32, 118, 97, 110, 101, 32, 115, 108, 105, 116, 32, 98, 111, 119, 32, 114, 111, 117, 110, 100, 32, 111, 99, 116, 97, 103, 111, 110, 32, 100, 117, 116, 121, 32, 115, 101, 97, 32, 116, 104, 114, 105, 102, 116, 32, 100, 111, 103, 115, 32, 108, 111, 118, 101, 32, 119, 97, 114, 32, 109, 117, 115, 105, 99, 32, 116, 101, 97, 32], [99, 108, 105, 109, 98, 115, 32, 108, 97, 110, 100, 115, 32, 116, 101, 108, 108, 115, 32, 115, 116, 111, 114, 109, 32, 119, 97, 108, 108, 32, 117, 110, 119, 97, 108, 108, 32, 100, 97, 121, 32], [111, 114, 32, 97, 110, 100, 32, 110, 111, 116, 32, 117, 112, 32, 109, 105, 108, 100, 32, 112, 108, 101, 97, 115, 101, 100, 32, 104, 97, 115, 32, 111, 110, 32, 118, 105, 101, 119, 115, 32, 110, 101, 114, 118, 101, 32, 99, 108, 105, 109, 98, 101, 100, 32, 110, 117, 109, 98, 101, 114, 32], [32, 111, 110, 32], [32, 116, 104, 105, 110, 107, 115], [32, 110, 111, 116, 104, 105, 110, 103], [32], [110, 111, 32, 115, 117, 99, 104, 32, 112, 101, 114, 115, 111, 110], [110, 111, 32, 115, 117, 99, 104, 32, 119, 104, 97, 116]]
def VR (q : Nat → ClassId) (U : State) : Prop := vk_R RX5 34 "turret person thinks wants vane slit bow round octagon duty sea thrift dogs love war music tea " (q 100) U ∧ vk_R RX5 40 "climbs lands tells storm wall unwall day " (q 101) U ∧ vk_R RX5 42 "or and not up mild pleased has on views nerve climbed number " (q 102) U ∧ vk_R RX11 330 " on " (q 103) U ∧ vk_R RX11 338 " thinks" (q 104) U ∧ vk_R RX11 378 " nothing" (q 105) U ∧ vk_R RX11 380 " " (q 106) U ∧ vk_R RX11 143 "no such person" (q 107) U ∧ vk_R RX11 170 "no such what" (q 108) U
def VS (q : Nat → ClassId) (A : Nat → Prop) (U : State) (H : Heap) : Prop := VR q U ∧ vk_S 9 slen sbyt (fun i => q (100 + i)) (fun i => q (200 + i)) A U H ∧ va_Z "java/lang/String" "COMPACT_STRINGS" "Z" (.int 1) A U H ∧ va_Zq "jdk/internal/util/Preconditions" "SIOOBE_FORMATTER" "Ljava/util/function/BiFunction;" A U H
theorem VR.warm {q : Nat → ClassId} {s U : State} (hW : s.WarmedH U.vm) (h : VR q s) : VR q U := by
  obtain ⟨h0, h1, h2, h3, h4, h5, h6, h7, h8⟩ := h
  exact ⟨h0.warm hW, h1.warm hW, h2.warm hW, h3.warm hW, h4.warm hW, h5.warm hW, h6.warm hW, h7.warm hW, h8.warm hW⟩
theorem VR.same {q : Nat → ClassId} {s U : State} (hv : U.vm = s.vm) (h : VR q s) : VR q U := by
  obtain ⟨h0, h1, h2, h3, h4, h5, h6, h7, h8⟩ := h
  exact ⟨h0.same hv, h1.same hv, h2.same hv, h3.same hv, h4.same hv, h5.same hv, h6.same hv, h7.same hv, h8.same hv⟩
theorem VS.warm {q : Nat → ClassId} {A B : Nat → Prop} {s U : State} {H : Heap} {locs : List Loc} (hW : s.WarmedH U.vm) (hU : U.heap = H) (hS : va_S A s.heap H locs) (hAB : ∀ q, B q → A q) (h : VS q A s s.heap) : VS q B U U.heap := by
  obtain ⟨h1, h2, h3, h4⟩ := h
  subst hU
  have hk : ∀ a : Nat, a < s.heap.size → ¬ A a → U.heap[a]? = s.heap[a]? := hS.2.1
  exact ⟨h1.warm hW, ((h2.kept hk).narrow hAB).moved hW.alike, ((h3.kept hk).narrow hAB).moved hW.alike, ((h4.kept hk).narrow hAB).moved hW.alike⟩
theorem VS.call {q : Nat → ClassId} {A : Nat → Prop} {U V : State} (hv : V.vm = U.vm) (ha : U.vm.Alike V.vm) (hh : V.heap = U.heap) (h : VS q A U U.heap) : VS q A V V.heap := by
  obtain ⟨h1, h2, h3, h4⟩ := h
  rw [hh]
  exact ⟨h1.same hv, h2.moved ha, h3.moved ha, h4.moved ha⟩
def PC (D : va_G) (q : Nat → ClassId) (av : List Value) (ws : va_W) (sz : Nat) : Array Value → State → Prop := va_Pc av (fun U => U.heap.size = sz ∧ va_P D vwCl ws U.heap ∧ KK D q U ∧ va_D (fun _ => True) ws ∧ VS q (va_A ws sz) U U.heap)
theorem PC.blind {D : va_G} {q : Nat → ClassId} {av : List Value} {ws : va_W} {sz : Nat} : FrameBlind (PC D q av ws sz) := fun a U g mk h => by
  obtain ⟨h0, h1, h2, h3, h4, h5⟩ := h
  exact ⟨h0, h1, h2, ⟨va_K.moved (u := U) (U := U.calling g mk a) (Vm.Alike.refl U.vm) h3.1, nestL_same (s := U) (U := U.calling g mk a) rfl h3.2⟩, h4, VS.call (U := U) (V := U.calling g mk a) rfl (Vm.Alike.refl U.vm) rfl h5⟩
theorem PC.mk {D : va_G} {q : Nat → ClassId} {av : List Value} {ws : va_W} {H : Heap} {s : State} {A : Nat → Prop} {locs : List Loc} (hK : KK D q s) (hV : VS q A s s.heap) (hA : ∀ q : Nat, s.heap.size ≤ q → A q) (hS : va_S A s.heap H locs) (hP : va_P D vwCl ws H) (hD : va_D A ws) : ∀ U : State, U.heap = H → s.WarmedH U.vm → PC D q av ws H.size av.toArray U := fun U hU hW =>
  ⟨rfl, by rw [hU], by rw [hU]; exact hP, hK.warm hW, hD.weaken (fun _ _ _ _ => trivial), VS.warm hW hU hS (fun q h => by
    rcases h with ⟨k, e, h⟩ | h
    · exact hD.2 k (q, e) h
    · exact hA q (Nat.le_trans hS.1 h)) hV⟩
def QI (D : va_G) (A : Nat → Prop) (r0 : Int32) (w1 : va_W) : Array Value → State → Outcome → State → Prop := va_Qi (fun r (_ : Unit) => r = r0) (fun _ t => va_P D vwCl w1 t.heap) A
def QL (D : va_G) (A : Nat → Prop) (r0 : Int64) (w1 : va_W) : Array Value → State → Outcome → State → Prop := va_Ql (fun r (_ : Unit) => r = r0) (fun _ t => va_P D vwCl w1 t.heap) A
def QV (D : va_G) (A : Nat → Prop) (w1 : va_W) : Array Value → State → Outcome → State → Prop := va_Qv (fun (_ : Unit) => True) (fun _ t => va_P D vwCl w1 t.heap) A
/-- where a walk stands: the machine, the method, the words -/
def cx (p : Program) (s : State) (m : MethodId) (args : Array Value) (meth : Method) (c : Code) (cc : ByteArray) (nL : Nat) (ret : Option FieldType) (own : String) (D : va_G) (q : Nat → ClassId) (A : Nat → Prop) : Prop :=
  p.tables.exec = Jvm.exec ∧ c.code = cc ∧ meth.sig.returnType = ret ∧ c.maxLocals = nL ∧ s.vm.findClass own = some m.cls ∧ (∀ w ∈ TB, w.before args s = true) ∧ meth.locks = false ∧ (∀ q : Nat, s.heap.size ≤ q → A q) ∧ va_K D vwCl (tyL q) s ∧ (∀ w ∈ nestL, va_Nw w s) ∧ VS q A s s.heap
/-- a method's contract out of the walk from its entry -/
theorem k_met {l : Launch} {y : MethodName} {cc : ByteArray} {nL : Nat} {ret : Option FieldType} {rm : Room} {D : va_G} {q : Nat → ClassId} {av : List Value} {w0 : va_W} {sz : Nat} {Q : (Nat → Prop) → Array Value → State → Outcome → State → Prop} (hy : plainName y.cls = true) (hn : (lg_sl av).length ≤ nL)
    (body : ∀ (p : Program) (e : Env) (s : State) (m : MethodId) (args : Array Value) (below : List Frame) (meth : Method) (c : Code) (A : Nat → Prop) (ls : Array Slot), cx p s m args meth c cc nL ret y.cls D q A → va_P D vwCl w0 s.heap → va_D A w0 → va_S A s.heap s.heap [] → lv_has ls nL (lv_args 0 av) →
      W p l e rm s m args below meth c s.heap [] 0 0 (MQ below (Q A) args s 0 0 A) (F0 m 0 ls [])) : Met l y (Cond.code y cc nL ret :: TB) rm (PC D q av w0 sz) (Q (va_A w0 sz)) 0 0 (va_A w0 sz) := by
  refine Met.ofW (cc := cc) (maxL := nL) (ret := ret) hy rfl ?_
  intro p e s m args below meth c s₁ B hml hv
  obtain ⟨rfl, hsz, hP, hK, hD0, hV⟩ := hv
  have hts := atoms_spec (ws := Cond.code y cc nL ret :: TB) B.pre
  subst hsz
  have hD := hD0.self (sz := s.heap.size)
  rw [lg_entry_eq]
  exact body p e s m _ below meth c (va_A w0 s.heap.size) _ ⟨B.exec, B.bytes, B.returns, hml, findClass_of_methodNamed B.named, fun w hw => hts w (List.mem_cons_of_mem _ hw), B.notSynchronized, fun q h => Or.inr h, hK.1, hK.2, hV⟩ hP hD va_S.rf (lv_entry av hn)
/-- what the tables say of a method that is called -/
def cV (C : String) (y : MethodName) (cc : ByteArray) (nL : Nat) (ret : Option FieldType) (n : Nat) : Prop := Cond.instanceMethod y ∈ TB ∧ Cond.selects C y y ∈ TB ∧ Cond.code y cc nL ret ∈ TB ∧ Cond.initialized y.cls ∈ TB ∧ (y.cls ≠ "java/lang/invoke/MethodHandle" ∧ y.cls ≠ "java/lang/invoke/VarHandle" ∧ (parseMethodDescriptor y.desc).map (fun d => d.parameters.length) = some n)
def cS (y : MethodName) (cc : ByteArray) (nL : Nat) (ret : Option FieldType) (n : Nat) : Prop := Cond.static y ∈ TB ∧ Cond.code y cc nL ret ∈ TB ∧ Cond.initialized y.cls ∈ TB ∧ (y.cls ≠ "java/lang/invoke/MethodHandle" ∧ y.cls ≠ "java/lang/invoke/VarHandle" ∧ (parseMethodDescriptor y.desc).map (fun d => d.parameters.length) = some n)
section KB
variable {p : Program} {l : Launch} {e : Env} {R : Room} {s : State} {m : MethodId} {args : Array Value} {below : List Frame} {meth : Method} {c : Code} {H : Heap} {locs : List Loc} {cc : ByteArray} {nL : Nat} {ret : Option FieldType} {own : String} {D : va_G} {q : Nat → ClassId} {A : Nat → Prop}
variable {pc : Nat} {ls : Array Slot} {rest st0 : List Value}
theorem k_iret {r : Int32} {w1 : va_W} (C : cx p s m args meth c cc nL (some .int) own D q A) (hP : va_P D vwCl w1 H) (hS : va_S A s.heap H locs) (hdg : decode cc pc = .ok (.ireturn, 1)) : W p l e R s m args below meth c H locs 0 0 (MQ below (QI D A r w1) args s 0 0 A) (F0 m pc ls [.int r]) := by
  obtain ⟨hx, hb, hr, hml, hown, hts, hlk, hA, hK, hN, hV⟩ := C
  exact W.iret hx hb hr (fun t ht hW => ⟨⟨r, (), rfl, rfl, by show va_P D vwCl w1 t.heap; rw [ht]; exact hP⟩, hS.F ht⟩) hS.2.2 hdg hlk
theorem k_zret {r : Int32} {w1 : va_W} (C : cx p s m args meth c cc nL (some .boolean) own D q A) (hn : ¬ nb r) (hP : va_P D vwCl w1 H) (hS : va_S A s.heap H locs) (hdg : decode cc pc = .ok (.ireturn, 1)) : W p l e R s m args below meth c H locs 0 0 (MQ below (QI D A r w1) args s 0 0 A) (F0 m pc ls [.int r]) := by
  obtain ⟨hx, hb, hr, hml, hown, hts, hlk, hA, hK, hN, hV⟩ := C
  exact W.zret hx hb hr (nb_nar hn) (fun t ht hW => ⟨⟨r, (), rfl, rfl, by show va_P D vwCl w1 t.heap; rw [ht]; exact hP⟩, hS.F ht⟩) hS.2.2 hdg hlk
theorem k_lret {r : Int64} {w1 : va_W} (C : cx p s m args meth c cc nL (some .long) own D q A) (hP : va_P D vwCl w1 H) (hS : va_S A s.heap H locs) (hdg : decode cc pc = .ok (.lreturn, 1)) : W p l e R s m args below meth c H locs 0 0 (MQ below (QL D A r w1) args s 0 0 A) (F0 m pc ls [.long r]) := by
  obtain ⟨hx, hb, hr, hml, hown, hts, hlk, hA, hK, hN, hV⟩ := C
  exact W.lret hx hb hr (fun t ht hW => ⟨⟨r, (), rfl, rfl, by show va_P D vwCl w1 t.heap; rw [ht]; exact hP⟩, hS.F ht⟩) hS.2.2 hdg hlk
theorem k_vret {w1 : va_W} (C : cx p s m args meth c cc nL none own D q A) (hP : va_P D vwCl w1 H) (hS : va_S A s.heap H locs) (hdg : decode cc pc = .ok (.return_, 1)) : W p l e R s m args below meth c H locs 0 0 (MQ below (QV D A w1) args s 0 0 A) (F0 m pc ls []) := by
  obtain ⟨hx, hb, hr, hml, hown, hts, hlk, hA, hK, hN, hV⟩ := C
  exact W.vret hx hb hr (fun t ht hW => ⟨⟨(), rfl, trivial, by show va_P D vwCl w1 t.heap; rw [ht]; exact hP⟩, hS.F ht⟩) hS.2.2 hdg hlk
variable {y : MethodName} {by2 : ByteArray} {mL n index : Nat} {ret2 : Option FieldType} {rm : Room} {Qc : Array Value → State → Outcome → State → Prop} {free : Addr → Prop} {b : Addr} {As : List Value} {wc : va_W} {Cn : String} {cells slots mc ms : Nat}
/-- a virtual call -/
theorem k_rV (C : cx p s m args meth c cc nL ret own D q A) (hM : Met l y (Cond.code y by2 mL ret2 :: TB) rm (PC D q (.ref b :: As) wc H.size) Qc mc ms free) (hk : cV Cn y by2 mL ret2 n) (hl : Cond.methodLink own index y ∈ TB) (hrc : rm.cells = mc) (hrs : rm.slots = ms) (hR : rm.frames + 1 ≤ R.frames ∧ 8 + (mL + 11) + rm.locals ≤ R.locals) (hP : va_P D vwCl wc H) (hD : va_D A wc) (hS : va_S A s.heap H locs)
    (hrec : ∃ cell : Cell, H[b]? = some cell ∧ cell.vm.isStatics = false ∧ s.vm.findClass Cn = some cell.cls) (hn : As.length = n) (hsz : ls.size = nL) (hst : st0 = As.reverse ++ .ref b :: rest) (hW : (rest.map fun v => v.category).sum ≤ 8) (hdg : decode cc pc = .ok (.invokevirtual index, 3)) (hf : cells + mc ≤ R.cells ∧ slots + ms ≤ R.slots) :
    va_Run p l e R s m args below meth c H locs cells slots mc ms (F0 m pc ls st0) rest (Qc (Value.ref b :: As).toArray) free := by
  obtain ⟨hx, hb, hr, hml, hown, hts, hlk, hA, hK, hN, hV⟩ := C
  obtain ⟨k1, k2, k3, k4, k5⟩ := hk
  exact va_runV ⟨hx, hb, hml, hown, hts⟩ hM ⟨callB_of n hts (tb_good k3) rfl hrc hrs (hts _ k4) (hts _ hl) k5 hR, hts _ k1, hts _ k2⟩ ⟨PC.blind, hrec, PC.mk ⟨hK, hN⟩ hV hA hS hP hD⟩ rfl hn hsz hst (lv_room hW) hdg hf
theorem k_rS (C : cx p s m args meth c cc nL ret own D q A) (hM : Met l y (Cond.code y by2 mL ret2 :: TB) rm (PC D q As wc H.size) Qc mc ms free) (hk : cS y by2 mL ret2 n) (hl : Cond.methodLink own index y ∈ TB) (hrc : rm.cells = mc) (hrs : rm.slots = ms) (hR : rm.frames + 1 ≤ R.frames ∧ 8 + (mL + 11) + rm.locals ≤ R.locals) (hP : va_P D vwCl wc H) (hD : va_D A wc) (hS : va_S A s.heap H locs)
    (hn : As.length = n) (hsz : ls.size = nL) (hst : st0 = As.reverse ++ rest) (hW : (rest.map fun v => v.category).sum ≤ 8) (hdg : decode cc pc = .ok (.invokestatic index, 3)) (hf : cells + mc ≤ R.cells ∧ slots + ms ≤ R.slots) :
    va_Run p l e R s m args below meth c H locs cells slots mc ms (F0 m pc ls st0) rest (Qc As.toArray) free := by
  obtain ⟨hx, hb, hr, hml, hown, hts, hlk, hA, hK, hN, hV⟩ := C
  obtain ⟨k1, k3, k4, k5⟩ := hk
  exact va_runS ⟨hx, hb, hml, hown, hts⟩ hM ⟨callB_of n hts (tb_good k3) rfl hrc hrs (hts _ k4) (hts _ hl) k5 hR, hts _ k1⟩ ⟨PC.blind, PC.mk ⟨hK, hN⟩ hV hA hS hP hD⟩ rfl hn hsz hst (lv_room hW) hdg hf
/-- a nest mate's static method -/
theorem k_rN {host : String} (C : cx p s m args meth c cc nL ret own D q A) (hM : Met l y (Cond.code y by2 mL ret2 :: TB) rm (PC D q As wc H.size) Qc mc ms free) (hk : cS y by2 mL ret2 n) (hl : Cond.methodLinkNest own index y host ∈ nestL) (hrc : rm.cells = mc) (hrs : rm.slots = ms) (hR : rm.frames + 1 ≤ R.frames ∧ 8 + (mL + 11) + rm.locals ≤ R.locals) (hP : va_P D vwCl wc H) (hD : va_D A wc) (hS : va_S A s.heap H locs)
    (hn : As.length = n) (hsz : ls.size = nL) (hst : st0 = As.reverse ++ rest) (hW : (rest.map fun v => v.category).sum ≤ 8) (hdg : decode cc pc = .ok (.invokestatic index, 3)) (hf : cells + mc ≤ R.cells ∧ slots + ms ≤ R.slots) :
    va_Run p l e R s m args below meth c H locs cells slots mc ms (F0 m pc ls st0) rest (Qc As.toArray) free := by
  obtain ⟨hx, hb, hr, hml, hown, hts, hlk, hA, hK, hN, hV⟩ := C
  obtain ⟨k1, k3, k4, k5⟩ := hk
  exact va_runSN ⟨hx, hb, hml, hown, hts⟩ hM ⟨va_cnB n hts (tb_good k3) rfl hrc hrs (hN _ hl) (hts _ k4) k5 hR, hts _ k1, trivial⟩ ⟨PC.blind, PC.mk ⟨hK, hN⟩ hV hA hS hP hD⟩ rfl hn hsz hst (lv_room hW) hdg hf
end KB
/-! the world behind a call -/
theorem kw_nil {D : va_G} {cl : List vw_C} {W9 : va_W} {H H1 : Heap} (hP : va_P D cl W9 H) (hk : ∀ q : Nat, q < H.size → ¬ va_A [] H.size q → H1[q]? = H[q]?) : va_P D cl W9 H1 := fun k x hx => by
  have hl := (hP k x hx).lt
  refine (hP k x hx).kept (hk x.1 hl (fun h => ?_))
  rcases h with ⟨j, e, h⟩ | h
  · simp at h
  · omega
theorem kw_at {is : List Nat} {ws w : va_W} (hs : is.map (fun i => ws[i]?) = w.map some) {k : Nat} {x : Nat × va_E} (hx : w[k]? = some x) : ∃ i, is[k]? = some i ∧ ws[i]? = some x := by
  have h1 : (is.map (fun i => ws[i]?))[k]? = some (some x) := by rw [hs, List.getElem?_map, hx]; rfl
  rw [List.getElem?_map] at h1
  cases hi : is[k]? with
  | none => rw [hi] at h1; cases h1
  | some i => rw [hi] at h1; exact ⟨i, rfl, Option.some.inj h1⟩
theorem kw_at2 {is : List Nat} {ws w : va_W} (hs : is.map (fun i => ws[i]?) = w.map some) {j i : Nat} (hj : is[j]? = some i) : ∃ x, w[j]? = some x ∧ ws[i]? = some x := by
  have h1 : (is.map (fun i => ws[i]?))[j]? = some ws[i]? := by rw [List.getElem?_map, hj]; rfl
  rw [hs, List.getElem?_map] at h1
  cases hw : w[j]? with
  | none => rw [hw] at h1; cases h1
  | some x => rw [hw] at h1; exact ⟨x, rfl, (Option.some.inj h1).symm⟩
/-- the callee's cells, at the places isC of the caller's world, are now w1 -/
theorem kw_rep {D : va_G} {cl : List vw_C} {A : Nat → Prop} {W9 W8 wc w1 : va_W} {H H1 : Heap} (hP : va_P D cl W9 H) (hD : va_D A W9) (isC : List Nat) (hC : isC.map (fun i => W9[i]?) = wc.map some) (hC8 : isC.map (fun i => W8[i]?) = w1.map some) (hO : ∀ k, k ∉ isC → W8[k]? = W9[k]?) (hf : w1.map (fun x => x.1) = wc.map (fun x => x.1))
    (hk : ∀ q : Nat, q < H.size → ¬ va_A wc H.size q → H1[q]? = H[q]?) (hP1 : va_P D cl w1 H1) : va_P D cl W8 H1 ∧ va_D A W8 := by
  have fs : ∀ (k : Nat) (x : Nat × va_E), W8[k]? = some x → ∃ x9, W9[k]? = some x9 ∧ x9.1 = x.1 := by
    intro k x hx
    by_cases hm : k ∈ isC
    · obtain ⟨j, hj⟩ := List.getElem?_of_mem hm
      obtain ⟨x1, e1, e2⟩ := kw_at2 hC8 hj
      obtain ⟨x9, e3, e4⟩ := kw_at2 hC hj
      refine ⟨x9, e4, ?_⟩
      rw [hx] at e2
      cases e2
      have h5 : (w1.map (fun x => x.1))[j]? = (wc.map (fun x => x.1))[j]? := by rw [hf]
      rw [List.getElem?_map, List.getElem?_map, e1, e3] at h5
      exact (Option.some.inj h5).symm
    · exact ⟨x, by rw [← hO k hm]; exact hx, rfl⟩
  refine ⟨fun k x hx => ?_, fun i j x y hx hy hxy => ?_, fun k x hx => ?_⟩
  · by_cases hm : k ∈ isC
    · obtain ⟨j, hj⟩ := List.getElem?_of_mem hm
      obtain ⟨x1, e1, e2⟩ := kw_at2 hC8 hj
      rw [hx] at e2
      cases e2
      exact hP1 j x e1
    · have h9 : W9[k]? = some x := by rw [← hO k hm]; exact hx
      have hl := (hP k x h9).lt
      refine (hP k x h9).kept (hk x.1 hl (fun h => ?_))
      rcases h with ⟨j, e, h⟩ | h
      · obtain ⟨i, h3, h4⟩ := kw_at hC h
        have hij := hD.1 k i x (x.1, e) h9 h4 rfl
        subst hij
        exact hm (List.mem_of_getElem? h3)
      · omega
  · obtain ⟨x9, a1, a2⟩ := fs i x hx
    obtain ⟨y9, b1, b2⟩ := fs j y hy
    exact hD.1 i j x9 y9 a1 b1 (by rw [a2, b2]; exact hxy)
  · obtain ⟨x9, a1, a2⟩ := fs k x hx
    rw [← a2]
    exact hD.2 k x9 a1
theorem kw_all {D : va_G} {cl : List vw_C} {A : Nat → Prop} {wc w1 : va_W} {H1 : Heap} (hD : va_D A wc) (hf : w1.map (fun x => x.1) = wc.map (fun x => x.1)) (hP1 : va_P D cl w1 H1) : va_P D cl w1 H1 ∧ va_D A w1 := by
  have fs : ∀ (k : Nat) (x : Nat × va_E), w1[k]? = some x → ∃ x9, wc[k]? = some x9 ∧ x9.1 = x.1 := by
    intro k x hx
    have h5 : (w1.map (fun x => x.1))[k]? = (wc.map (fun x => x.1))[k]? := by rw [hf]
    rw [List.getElem?_map, List.getElem?_map, hx] at h5
    cases hw : wc[k]? with
    | none => rw [hw] at h5; cases h5
    | some x9 => rw [hw] at h5; exact ⟨x9, rfl, (Option.some.inj h5).symm⟩
  refine ⟨hP1, fun i j x y hx hy hxy => ?_, fun k x hx => ?_⟩
  · obtain ⟨x9, a1, a2⟩ := fs i x hx
    obtain ⟨y9, b1, b2⟩ := fs j y hy
    exact hD.1 i j x9 y9 a1 b1 (by rw [a2, b2]; exact hxy)
  · obtain ⟨x9, a1, a2⟩ := fs k x hx
    rw [← a2]
    exact hD.2 k x9 a1
theorem kw_out {W9 W8 : va_W} {isC isR : List Nat} (hl : W8.length = W9.length) (hc : (List.range W9.length).all (fun k => isC.contains k || isR.contains k) = true) (hR : isR.map (fun i => W8[i]?) = isR.map (fun i => W9[i]?)) : ∀ k, k ∉ isC → W8[k]? = W9[k]? := by
  intro k hk
  by_cases h : k < W9.length
  · have h1 := List.all_eq_true.mp hc k (List.mem_range.mpr h)
    rw [Bool.or_eq_true] at h1
    rcases h1 with h1 | h1
    · exact absurd (List.contains_iff_mem.mp h1) hk
    · have h2 := List.contains_iff_mem.mp h1
      obtain ⟨j, hj⟩ := List.getElem?_of_mem h2
      have h3 : (isR.map (fun i => W8[i]?))[j]? = (isR.map (fun i => W9[i]?))[j]? := by rw [hR]
      rw [List.getElem?_map, List.getElem?_map, hj] at h3
      exact Option.some.inj h3
  · rw [List.getElem?_eq_none (by omega), List.getElem?_eq_none (by omega)]
/-! worlds as rows of groups -/
abbrev fl (gs : List va_W) : va_W := gs.flatten
theorem vaP_mem {D : va_G} {cl : List vw_C} {ws : va_W} {H : Heap} : va_P D cl ws H ↔ ∀ x ∈ ws, va_at D cl x H := by
  constructor
  · intro h x hx
    obtain ⟨k, hk⟩ := List.getElem?_of_mem hx
    exact h k x hk
  · intro h k x hk
    exact h x (List.mem_of_getElem? hk)
theorem vaD_mem {A : Nat → Prop} {ws : va_W} : va_D A ws ↔ ws.Pairwise (fun x y => x.1 ≠ y.1) ∧ ∀ x ∈ ws, A x.1 := by
  constructor
  · intro h
    refine ⟨?_, fun x hx => ?_⟩
    · rw [List.pairwise_iff_getElem]
      intro i j hi hj hij e
      have := h.1 i j _ _ (List.getElem?_eq_getElem hi) (List.getElem?_eq_getElem hj) e
      omega
    · obtain ⟨k, hk⟩ := List.getElem?_of_mem hx
      exact h.2 k x hk
  · intro h
    obtain ⟨h1, h2⟩ := h
    rw [List.pairwise_iff_getElem] at h1
    refine ⟨fun i j x y hi hj e => ?_, fun k x hk => h2 x (List.mem_of_getElem? hk)⟩
    obtain ⟨li, ei⟩ := List.getElem?_eq_some_iff.mp hi
    obtain ⟨lj, ej⟩ := List.getElem?_eq_some_iff.mp hj
    rcases Nat.lt_trichotomy i j with q | q | q
    · exact absurd (by rw [ei, ej]; exact e) (h1 i j li lj q)
    · exact q
    · exact absurd (by rw [ei, ej]; exact e.symm) (h1 j i lj li q)
theorem fl_at {α : Type} {is : List Nat} {gs w : List α} (hs : is.map (fun i => gs[i]?) = w.map some) {g : α} (hg : g ∈ w) : ∃ i, i ∈ is ∧ gs[i]? = some g := by
  have h1 : some g ∈ w.map some := List.mem_map.mpr ⟨g, hg, rfl⟩
  rw [← hs] at h1
  obtain ⟨i, hi, e⟩ := List.mem_map.mp h1
  exact ⟨i, hi, e⟩
theorem fl_at2 {α : Type} {is : List Nat} {gs w : List α} (hs : is.map (fun i => gs[i]?) = w.map some) {i : Nat} (hi : i ∈ is) : ∃ g, g ∈ w ∧ gs[i]? = some g := by
  have h1 : gs[i]? ∈ is.map (fun i => gs[i]?) := List.mem_map.mpr ⟨i, hi, rfl⟩
  rw [hs] at h1
  obtain ⟨g, hg, e⟩ := List.mem_map.mp h1
  exact ⟨g, hg, e.symm⟩
theorem flP {D : va_G} {cl : List vw_C} {gs gc : List va_W} {H : Heap} (h : va_P D cl (fl gs) H) (is : List Nat) (hs : is.map (fun i => gs[i]?) = gc.map some) : va_P D cl (fl gc) H := by
  rw [vaP_mem] at h ⊢
  intro x hx
  obtain ⟨g, hg, hxg⟩ := List.mem_flatten.mp hx
  obtain ⟨i, -, hi⟩ := fl_at hs hg
  exact h x (List.mem_flatten.mpr ⟨g, List.mem_of_getElem? hi, hxg⟩)
/-- things of two groups are apart -/
theorem fl_apart {A : Nat → Prop} {gs : List va_W} (h : va_D A (fl gs)) {i j : Nat} (hij : i ≠ j) {g k : va_W} (hg : gs[i]? = some g) (hk : gs[j]? = some k) {x y : Nat × va_E} (hx : x ∈ g) (hy : y ∈ k) : x.1 ≠ y.1 := by
  have h1 := (List.pairwise_flatten.mp (vaD_mem.mp h).1).2
  rw [List.pairwise_iff_getElem] at h1
  obtain ⟨li, ei⟩ := List.getElem?_eq_some_iff.mp hg
  obtain ⟨lj, ej⟩ := List.getElem?_eq_some_iff.mp hk
  rcases Nat.lt_or_gt_of_ne hij with q | q
  · exact h1 i j li lj q x (by rw [ei]; exact hx) y (by rw [ej]; exact hy)
  · exact fun e => h1 j i lj li q y (by rw [ej]; exact hy) x (by rw [ei]; exact hx) e.symm
theorem flD {A : Nat → Prop} {gs gc : List va_W} (h : va_D A (fl gs)) (is : List Nat) (hn : is.Nodup) (hs : is.map (fun i => gs[i]?) = gc.map some) : va_D A (fl gc) := by
  have h2 := vaD_mem.mp h
  refine vaD_mem.mpr ⟨List.pairwise_flatten.mpr ⟨fun g hg => ?_, ?_⟩, fun x hx => ?_⟩
  · obtain ⟨i, -, hi⟩ := fl_at hs hg
    exact (List.pairwise_flatten.mp h2.1).1 g (List.mem_of_getElem? hi)
  · rw [List.pairwise_iff_getElem]
    intro i j hi hj hij x hx y hy
    have hlen : is.length = gc.length := by
      have := congrArg List.length hs
      simpa using this
    have at' : ∀ (k : Nat) (hk : k < gc.length), gs[is[k]'(by omega)]? = some gc[k] := by
      intro k hk
      have h3 : (is.map (fun i => gs[i]?))[k]? = (gc.map some)[k]? := by rw [hs]
      rw [List.getElem?_map, List.getElem?_map, List.getElem?_eq_getElem (by omega : k < is.length), List.getElem?_eq_getElem hk] at h3
      exact Option.some.inj h3
    have hne : is[i]'(by omega) ≠ is[j]'(by omega) := by
      have h4 := hn
      rw [List.nodup_iff_pairwise_ne, List.pairwise_iff_getElem] at h4
      exact h4 i j (by omega) (by omega) hij
    exact fl_apart h hne (at' i hi) (at' j hj) hx hy
  · obtain ⟨g, hg, hxg⟩ := List.mem_flatten.mp hx
    obtain ⟨i, -, hi⟩ := fl_at hs hg
    exact h2.2 x (List.mem_flatten.mpr ⟨g, List.mem_of_getElem? hi, hxg⟩)
theorem flA {gs gs8 : List va_W} (hf : gs8.map (fun g => g.map (fun x => x.1)) = gs.map (fun g => g.map (fun x => x.1))) : (fl gs8).map (fun x => x.1) = (fl gs).map (fun x => x.1) := by
  show (gs8.flatten).map _ = (gs.flatten).map _
  rw [List.map_flatten, List.map_flatten, hf]
theorem kw_grp {D : va_G} {cl : List vw_C} {A : Nat → Prop} {gs gs8 gc g1 gr : List va_W} {H H1 : Heap} (hP : va_P D cl (fl gs) H) (hD : va_D A (fl gs)) (isC isR : List Nat) (N : Nat) (hC : isC.map (fun i => gs[i]?) = gc.map some) (hC8 : isC.map (fun i => gs8[i]?) = g1.map some) (h9 : isR.map (fun i => gs[i]?) = gr.map some) (h8 : isR.map (fun i => gs8[i]?) = gr.map some) (hl8 : gs8.length = N) (hc : (List.range N).all (fun k => isC.contains k || (isR.contains k && !isC.contains k)) = true)
    (hf : gs8.map (fun g => g.map (fun x => x.1)) = gs.map (fun g => g.map (fun x => x.1))) (hk : ∀ q : Nat, q < H.size → ¬ va_A (fl gc) H.size q → H1[q]? = H[q]?) (hP1 : va_P D cl (fl g1) H1) : va_P D cl (fl gs8) H1 ∧ va_D A (fl gs8) := by
  refine ⟨vaP_mem.mpr (fun x hx => ?_), ?_⟩
  · obtain ⟨g, hg, hxg⟩ := List.mem_flatten.mp hx
    obtain ⟨i, hi⟩ := List.getElem?_of_mem hg
    have hiN : i < N := by rw [← hl8]; exact (List.getElem?_eq_some_iff.mp hi).1
    have h1 := List.all_eq_true.mp hc i (List.mem_range.mpr hiN)
    rw [Bool.or_eq_true] at h1
    rcases h1 with h1 | h1
    · obtain ⟨g', hg', e⟩ := fl_at2 hC8 (List.contains_iff_mem.mp h1)
      rw [hi] at e
      cases e
      exact vaP_mem.mp hP1 x (List.mem_flatten.mpr ⟨g, hg', hxg⟩)
    · rw [Bool.and_eq_true] at h1
      obtain ⟨h1, h2⟩ := h1
      have hni : i ∉ isC := fun z => by simp at h2; exact h2 z
      obtain ⟨g', hg', e⟩ := fl_at2 h8 (List.contains_iff_mem.mp h1)
      obtain ⟨g'', hg'', e'⟩ := fl_at2 h9 (List.contains_iff_mem.mp h1)
      have e9 : gs[i]? = some g := by
        have a8 : gs8[i]? = gs[i]? := by
          have q1 : isR.map (fun i => gs8[i]?) = isR.map (fun i => gs[i]?) := h8.trans h9.symm
          exact List.map_inj_left.mp q1 i (List.contains_iff_mem.mp h1)
        rw [← a8]; exact hi
      have hm : x ∈ fl gs := List.mem_flatten.mpr ⟨g, List.mem_of_getElem? e9, hxg⟩
      have ha := vaP_mem.mp hP x hm
      refine ha.kept (hk x.1 ha.lt (fun h => ?_))
      rcases h with ⟨k, e2, h⟩ | h
      · obtain ⟨gk, hgk, hy⟩ := List.mem_flatten.mp (List.mem_of_getElem? h)
        obtain ⟨i2, hi2, e3⟩ := fl_at hC hgk
        exact fl_apart hD (fun z => hni (by rw [z]; exact hi2)) e9 e3 hxg hy rfl
      · have := ha.lt; omega
  · exact (kw_all (D := D) (cl := cl) (H1 := H1) (w1 := fl gs8) hD (flA hf) (by
      exact (vaP_mem.mpr (fun x hx => by
        obtain ⟨g, hg, hxg⟩ := List.mem_flatten.mp hx
        obtain ⟨i, hi⟩ := List.getElem?_of_mem hg
        have hiN : i < N := by rw [← hl8]; exact (List.getElem?_eq_some_iff.mp hi).1
        have h1 := List.all_eq_true.mp hc i (List.mem_range.mpr hiN)
        rw [Bool.or_eq_true] at h1
        rcases h1 with h1 | h1
        · obtain ⟨g', hg', e⟩ := fl_at2 hC8 (List.contains_iff_mem.mp h1)
          rw [hi] at e
          cases e
          exact vaP_mem.mp hP1 x (List.mem_flatten.mpr ⟨g, hg', hxg⟩)
        · rw [Bool.and_eq_true] at h1
          obtain ⟨h1, h2⟩ := h1
          have hni : i ∉ isC := fun z => by simp at h2; exact h2 z
          have e9 : gs[i]? = some g := by
            have a8 : gs8[i]? = gs[i]? := List.map_inj_left.mp (h8.trans h9.symm) i (List.contains_iff_mem.mp h1)
            rw [← a8]; exact hi
          have hm : x ∈ fl gs := List.mem_flatten.mpr ⟨g, List.mem_of_getElem? e9, hxg⟩
          have ha := vaP_mem.mp hP x hm
          refine ha.kept (hk x.1 ha.lt (fun h => ?_))
          rcases h with ⟨k, e2, h⟩ | h
          · obtain ⟨gk, hgk, hy⟩ := List.mem_flatten.mp (List.mem_of_getElem? h)
            obtain ⟨i2, hi2, e3⟩ := fl_at hC hgk
            exact fl_apart hD (fun z => hni (by rw [z]; exact hi2)) e9 e3 hxg hy rfl
          · have := ha.lt; omega)))).2
section KE
variable {p : Program} {l : Launch} {e : Env} {R : Room} {s : State} {m : MethodId} {args : Array Value} {below : List Frame} {meth : Method} {c : Code} {H : Heap} {locs : List Loc} {cc : ByteArray} {nL : Nat} {ret : Option FieldType} {own : String} {D : va_G} {q : Nat → ClassId} {A : Nat → Prop} {Q : State → Prop}
variable {pc : Nat} {ls : Array Slot} {rest st0 : List Value} {aa : Array Value} {W9 wc w1 : va_W} {gs gs8 gc g1 gr : List va_W}
theorem ke_Aall {A0 : Nat → Prop} {wc : va_W} {H0 H : Heap} {locs : List Loc} (hD : va_D A0 wc) (hS : va_S A0 H0 H locs) (hA : ∀ q, H0.size ≤ q → A0 q) : ∀ q, va_A wc H.size q → A0 q := by
  intro q h
  rcases h with ⟨k, e, h⟩ | h
  · exact hD.2 k (q, e) h
  · exact hA q (Nat.le_trans hS.1 h)
theorem ke_Anil {A0 : Nat → Prop} {H0 H : Heap} {locs : List Loc} (hS : va_S A0 H0 H locs) (hA : ∀ q, H0.size ≤ q → A0 q) : ∀ q, va_A [] H.size q → A0 q := by
  intro q h
  rcases h with ⟨k, e, h⟩ | h
  · simp at h
  · exact hA q (Nat.le_trans hS.1 h)
theorem k_inil {r : Int32} (C : cx p s m args meth c cc nL ret own D q A) (hr : va_Run p l e R s m args below meth c H locs 0 0 0 0 (F0 m pc ls st0) rest (QI D (va_A [] H.size) r [] aa) (va_A [] H.size)) (hP : va_P D vwCl W9 H) (hD : va_D A W9) (hS : va_S A s.heap H locs) (kk : ∀ (H1 : Heap) (locs1 : List Loc), va_P D vwCl W9 H1 → va_D A W9 → va_S A s.heap H1 locs1 → W p l e R s m args below meth c H1 locs1 0 0 Q (F0 m (pc + 3) ls (.int r :: rest))) : W p l e R s m args below meth c H locs 0 0 Q (F0 m pc ls st0) := by
  obtain ⟨hx, hb, hr0, hml, hown, hts, hlk, hA, hK, hN, hV⟩ := C
  have hF := ke_Anil hS hA
  refine va_calli hr hS (fun q _ h => hF q h) (hF) (fun r1 u t H1 locs1 ht hvm hw hB hz1 hk1 hS1 => ?_)
  rw [ht] at hB
  subst hw; exact kk H1 locs1 (kw_nil hP hk1) hD hS1
theorem k_iall {r : Int32} (C : cx p s m args meth c cc nL ret own D q A) (hr : va_Run p l e R s m args below meth c H locs 0 0 0 0 (F0 m pc ls st0) rest (QI D (va_A (fl gs) H.size) r (fl gs8) aa) (va_A (fl gs) H.size)) (hP : va_P D vwCl (fl gs) H) (hD : va_D A (fl gs)) (hS : va_S A s.heap H locs) (hf : gs8.map (fun g => g.map (fun x => x.1)) = gs.map (fun g => g.map (fun x => x.1))) (kk : ∀ (H1 : Heap) (locs1 : List Loc), va_P D vwCl (fl gs8) H1 → va_D A (fl gs8) → va_S A s.heap H1 locs1 → W p l e R s m args below meth c H1 locs1 0 0 Q (F0 m (pc + 3) ls (.int r :: rest))) : W p l e R s m args below meth c H locs 0 0 Q (F0 m pc ls st0) := by
  obtain ⟨hx, hb, hr0, hml, hown, hts, hlk, hA, hK, hN, hV⟩ := C
  have hF := ke_Aall hD hS hA
  refine va_calli hr hS (fun q _ h => hF q h) (hF) (fun r1 u t H1 locs1 ht hvm hw hB hz1 hk1 hS1 => ?_)
  rw [ht] at hB
  subst hw; obtain ⟨hP1, hD1⟩ := kw_all hD (flA hf) hB
  exact kk H1 locs1 hP1 hD1 hS1
theorem k_isame {r : Int32} (C : cx p s m args meth c cc nL ret own D q A) (hr : va_Run p l e R s m args below meth c H locs 0 0 0 0 (F0 m pc ls st0) rest (QI D (va_A W9 H.size) r W9 aa) (va_A W9 H.size)) (hP : va_P D vwCl W9 H) (hD : va_D A W9) (hS : va_S A s.heap H locs) (kk : ∀ (H1 : Heap) (locs1 : List Loc), va_P D vwCl W9 H1 → va_D A W9 → va_S A s.heap H1 locs1 → W p l e R s m args below meth c H1 locs1 0 0 Q (F0 m (pc + 3) ls (.int r :: rest))) : W p l e R s m args below meth c H locs 0 0 Q (F0 m pc ls st0) := by
  obtain ⟨hx, hb, hr0, hml, hown, hts, hlk, hA, hK, hN, hV⟩ := C
  have hF := ke_Aall hD hS hA
  refine va_calli hr hS (fun q _ h => hF q h) (hF) (fun r1 u t H1 locs1 ht hvm hw hB hz1 hk1 hS1 => ?_)
  rw [ht] at hB
  subst hw; exact kk H1 locs1 hB hD hS1
theorem k_iro {r : Int32} (C : cx p s m args meth c cc nL ret own D q A) (hr : va_Run p l e R s m args below meth c H locs 0 0 0 0 (F0 m pc ls st0) rest (QI D (va_A (fl gc) H.size) r (fl gc) aa) (va_A (fl gc) H.size)) (hP : va_P D vwCl (fl gs) H) (hD : va_D A (fl gs)) (hS : va_S A s.heap H locs) (isC isR : List Nat) (gr : List va_W) (N : Nat) (hn : isC.Nodup) (hC : isC.map (fun i => gs[i]?) = gc.map some) (h9 : isR.map (fun i => gs[i]?) = gr.map some) (hl : gs.length = N) (hc : (List.range N).all (fun k => isC.contains k || (isR.contains k && !isC.contains k)) = true) (kk : ∀ (H1 : Heap) (locs1 : List Loc), va_P D vwCl (fl gs) H1 → va_D A (fl gs) → va_S A s.heap H1 locs1 → W p l e R s m args below meth c H1 locs1 0 0 Q (F0 m (pc + 3) ls (.int r :: rest))) : W p l e R s m args below meth c H locs 0 0 Q (F0 m pc ls st0) := by
  obtain ⟨hx, hb, hr0, hml, hown, hts, hlk, hA, hK, hN, hV⟩ := C
  have hF := ke_Aall (flD hD isC hn hC) hS hA
  refine va_calli hr hS (fun q _ h => hF q h) (hF) (fun r1 u t H1 locs1 ht hvm hw hB hz1 hk1 hS1 => ?_)
  rw [ht] at hB
  subst hw; obtain ⟨hP1, hD1⟩ := kw_grp (gs8 := gs) hP hD isC isR N hC hC h9 h9 hl hc rfl hk1 hB
  exact kk H1 locs1 hP1 hD1 hS1
theorem k_igrp {r : Int32} (C : cx p s m args meth c cc nL ret own D q A) (hr : va_Run p l e R s m args below meth c H locs 0 0 0 0 (F0 m pc ls st0) rest (QI D (va_A (fl gc) H.size) r (fl g1) aa) (va_A (fl gc) H.size)) (hP : va_P D vwCl (fl gs) H) (hD : va_D A (fl gs)) (hS : va_S A s.heap H locs) (isC isR : List Nat) (gr : List va_W) (N : Nat) (hn : isC.Nodup) (hC : isC.map (fun i => gs[i]?) = gc.map some) (hC8 : isC.map (fun i => gs8[i]?) = g1.map some) (h9 : isR.map (fun i => gs[i]?) = gr.map some) (h8 : isR.map (fun i => gs8[i]?) = gr.map some) (hl8 : gs8.length = N) (hc : (List.range N).all (fun k => isC.contains k || (isR.contains k && !isC.contains k)) = true) (hf : gs8.map (fun g => g.map (fun x => x.1)) = gs.map (fun g => g.map (fun x => x.1))) (kk : ∀ (H1 : Heap) (locs1 : List Loc), va_P D vwCl (fl gs8) H1 → va_D A (fl gs8) → va_S A s.heap H1 locs1 → W p l e R s m args below meth c H1 locs1 0 0 Q (F0 m (pc + 3) ls (.int r :: rest))) : W p l e R s m args below meth c H locs 0 0 Q (F0 m pc ls st0) := by
  obtain ⟨hx, hb, hr0, hml, hown, hts, hlk, hA, hK, hN, hV⟩ := C
  have hF := ke_Aall (flD hD isC hn hC) hS hA
  refine va_calli hr hS (fun q _ h => hF q h) (hF) (fun r1 u t H1 locs1 ht hvm hw hB hz1 hk1 hS1 => ?_)
  rw [ht] at hB
  subst hw; obtain ⟨hP1, hD1⟩ := kw_grp (gs8 := gs8) hP hD isC isR N hC hC8 h9 h8 hl8 hc hf hk1 hB
  exact kk H1 locs1 hP1 hD1 hS1
theorem k_lnil {r : Int64} (C : cx p s m args meth c cc nL ret own D q A) (hr : va_Run p l e R s m args below meth c H locs 0 0 0 0 (F0 m pc ls st0) rest (QL D (va_A [] H.size) r [] aa) (va_A [] H.size)) (hP : va_P D vwCl W9 H) (hD : va_D A W9) (hS : va_S A s.heap H locs) (kk : ∀ (H1 : Heap) (locs1 : List Loc), va_P D vwCl W9 H1 → va_D A W9 → va_S A s.heap H1 locs1 → W p l e R s m args below meth c H1 locs1 0 0 Q (F0 m (pc + 3) ls (.long r :: rest))) : W p l e R s m args below meth c H locs 0 0 Q (F0 m pc ls st0) := by
  obtain ⟨hx, hb, hr0, hml, hown, hts, hlk, hA, hK, hN, hV⟩ := C
  have hF := ke_Anil hS hA
  refine va_calll hr hS (fun q _ h => hF q h) (hF) (fun r1 u t H1 locs1 ht hvm hw hB hz1 hk1 hS1 => ?_)
  rw [ht] at hB
  subst hw; exact kk H1 locs1 (kw_nil hP hk1) hD hS1
theorem k_lall {r : Int64} (C : cx p s m args meth c cc nL ret own D q A) (hr : va_Run p l e R s m args below meth c H locs 0 0 0 0 (F0 m pc ls st0) rest (QL D (va_A (fl gs) H.size) r (fl gs8) aa) (va_A (fl gs) H.size)) (hP : va_P D vwCl (fl gs) H) (hD : va_D A (fl gs)) (hS : va_S A s.heap H locs) (hf : gs8.map (fun g => g.map (fun x => x.1)) = gs.map (fun g => g.map (fun x => x.1))) (kk : ∀ (H1 : Heap) (locs1 : List Loc), va_P D vwCl (fl gs8) H1 → va_D A (fl gs8) → va_S A s.heap H1 locs1 → W p l e R s m args below meth c H1 locs1 0 0 Q (F0 m (pc + 3) ls (.long r :: rest))) : W p l e R s m args below meth c H locs 0 0 Q (F0 m pc ls st0) := by
  obtain ⟨hx, hb, hr0, hml, hown, hts, hlk, hA, hK, hN, hV⟩ := C
  have hF := ke_Aall hD hS hA
  refine va_calll hr hS (fun q _ h => hF q h) (hF) (fun r1 u t H1 locs1 ht hvm hw hB hz1 hk1 hS1 => ?_)
  rw [ht] at hB
  subst hw; obtain ⟨hP1, hD1⟩ := kw_all hD (flA hf) hB
  exact kk H1 locs1 hP1 hD1 hS1
theorem k_lsame {r : Int64} (C : cx p s m args meth c cc nL ret own D q A) (hr : va_Run p l e R s m args below meth c H locs 0 0 0 0 (F0 m pc ls st0) rest (QL D (va_A W9 H.size) r W9 aa) (va_A W9 H.size)) (hP : va_P D vwCl W9 H) (hD : va_D A W9) (hS : va_S A s.heap H locs) (kk : ∀ (H1 : Heap) (locs1 : List Loc), va_P D vwCl W9 H1 → va_D A W9 → va_S A s.heap H1 locs1 → W p l e R s m args below meth c H1 locs1 0 0 Q (F0 m (pc + 3) ls (.long r :: rest))) : W p l e R s m args below meth c H locs 0 0 Q (F0 m pc ls st0) := by
  obtain ⟨hx, hb, hr0, hml, hown, hts, hlk, hA, hK, hN, hV⟩ := C
  have hF := ke_Aall hD hS hA
  refine va_calll hr hS (fun q _ h => hF q h) (hF) (fun r1 u t H1 locs1 ht hvm hw hB hz1 hk1 hS1 => ?_)
  rw [ht] at hB
  subst hw; exact kk H1 locs1 hB hD hS1
theorem k_lro {r : Int64} (C : cx p s m args meth c cc nL ret own D q A) (hr : va_Run p l e R s m args below meth c H locs 0 0 0 0 (F0 m pc ls st0) rest (QL D (va_A (fl gc) H.size) r (fl gc) aa) (va_A (fl gc) H.size)) (hP : va_P D vwCl (fl gs) H) (hD : va_D A (fl gs)) (hS : va_S A s.heap H locs) (isC isR : List Nat) (gr : List va_W) (N : Nat) (hn : isC.Nodup) (hC : isC.map (fun i => gs[i]?) = gc.map some) (h9 : isR.map (fun i => gs[i]?) = gr.map some) (hl : gs.length = N) (hc : (List.range N).all (fun k => isC.contains k || (isR.contains k && !isC.contains k)) = true) (kk : ∀ (H1 : Heap) (locs1 : List Loc), va_P D vwCl (fl gs) H1 → va_D A (fl gs) → va_S A s.heap H1 locs1 → W p l e R s m args below meth c H1 locs1 0 0 Q (F0 m (pc + 3) ls (.long r :: rest))) : W p l e R s m args below meth c H locs 0 0 Q (F0 m pc ls st0) := by
  obtain ⟨hx, hb, hr0, hml, hown, hts, hlk, hA, hK, hN, hV⟩ := C
  have hF := ke_Aall (flD hD isC hn hC) hS hA
  refine va_calll hr hS (fun q _ h => hF q h) (hF) (fun r1 u t H1 locs1 ht hvm hw hB hz1 hk1 hS1 => ?_)
  rw [ht] at hB
  subst hw; obtain ⟨hP1, hD1⟩ := kw_grp (gs8 := gs) hP hD isC isR N hC hC h9 h9 hl hc rfl hk1 hB
  exact kk H1 locs1 hP1 hD1 hS1
theorem k_lgrp {r : Int64} (C : cx p s m args meth c cc nL ret own D q A) (hr : va_Run p l e R s m args below meth c H locs 0 0 0 0 (F0 m pc ls st0) rest (QL D (va_A (fl gc) H.size) r (fl g1) aa) (va_A (fl gc) H.size)) (hP : va_P D vwCl (fl gs) H) (hD : va_D A (fl gs)) (hS : va_S A s.heap H locs) (isC isR : List Nat) (gr : List va_W) (N : Nat) (hn : isC.Nodup) (hC : isC.map (fun i => gs[i]?) = gc.map some) (hC8 : isC.map (fun i => gs8[i]?) = g1.map some) (h9 : isR.map (fun i => gs[i]?) = gr.map some) (h8 : isR.map (fun i => gs8[i]?) = gr.map some) (hl8 : gs8.length = N) (hc : (List.range N).all (fun k => isC.contains k || (isR.contains k && !isC.contains k)) = true) (hf : gs8.map (fun g => g.map (fun x => x.1)) = gs.map (fun g => g.map (fun x => x.1))) (kk : ∀ (H1 : Heap) (locs1 : List Loc), va_P D vwCl (fl gs8) H1 → va_D A (fl gs8) → va_S A s.heap H1 locs1 → W p l e R s m args below meth c H1 locs1 0 0 Q (F0 m (pc + 3) ls (.long r :: rest))) : W p l e R s m args below meth c H locs 0 0 Q (F0 m pc ls st0) := by
  obtain ⟨hx, hb, hr0, hml, hown, hts, hlk, hA, hK, hN, hV⟩ := C
  have hF := ke_Aall (flD hD isC hn hC) hS hA
  refine va_calll hr hS (fun q _ h => hF q h) (hF) (fun r1 u t H1 locs1 ht hvm hw hB hz1 hk1 hS1 => ?_)
  rw [ht] at hB
  subst hw; obtain ⟨hP1, hD1⟩ := kw_grp (gs8 := gs8) hP hD isC isR N hC hC8 h9 h8 hl8 hc hf hk1 hB
  exact kk H1 locs1 hP1 hD1 hS1
theorem k_vnil (C : cx p s m args meth c cc nL ret own D q A) (hr : va_Run p l e R s m args below meth c H locs 0 0 0 0 (F0 m pc ls st0) rest (QV D (va_A [] H.size) [] aa) (va_A [] H.size)) (hP : va_P D vwCl W9 H) (hD : va_D A W9) (hS : va_S A s.heap H locs) (kk : ∀ (H1 : Heap) (locs1 : List Loc), va_P D vwCl W9 H1 → va_D A W9 → va_S A s.heap H1 locs1 → W p l e R s m args below meth c H1 locs1 0 0 Q (F0 m (pc + 3) ls rest)) : W p l e R s m args below meth c H locs 0 0 Q (F0 m pc ls st0) := by
  obtain ⟨hx, hb, hr0, hml, hown, hts, hlk, hA, hK, hN, hV⟩ := C
  have hF := ke_Anil hS hA
  refine va_callv hr hS (fun q _ h => hF q h) (hF) (fun u t H1 locs1 ht hvm hw hB hz1 hk1 hS1 => ?_)
  rw [ht] at hB
  exact kk H1 locs1 (kw_nil hP hk1) hD hS1
theorem k_vall (C : cx p s m args meth c cc nL ret own D q A) (hr : va_Run p l e R s m args below meth c H locs 0 0 0 0 (F0 m pc ls st0) rest (QV D (va_A (fl gs) H.size) (fl gs8) aa) (va_A (fl gs) H.size)) (hP : va_P D vwCl (fl gs) H) (hD : va_D A (fl gs)) (hS : va_S A s.heap H locs) (hf : gs8.map (fun g => g.map (fun x => x.1)) = gs.map (fun g => g.map (fun x => x.1))) (kk : ∀ (H1 : Heap) (locs1 : List Loc), va_P D vwCl (fl gs8) H1 → va_D A (fl gs8) → va_S A s.heap H1 locs1 → W p l e R s m args below meth c H1 locs1 0 0 Q (F0 m (pc + 3) ls rest)) : W p l e R s m args below meth c H locs 0 0 Q (F0 m pc ls st0) := by
  obtain ⟨hx, hb, hr0, hml, hown, hts, hlk, hA, hK, hN, hV⟩ := C
  have hF := ke_Aall hD hS hA
  refine va_callv hr hS (fun q _ h => hF q h) (hF) (fun u t H1 locs1 ht hvm hw hB hz1 hk1 hS1 => ?_)
  rw [ht] at hB
  obtain ⟨hP1, hD1⟩ := kw_all hD (flA hf) hB
  exact kk H1 locs1 hP1 hD1 hS1
theorem k_vsame (C : cx p s m args meth c cc nL ret own D q A) (hr : va_Run p l e R s m args below meth c H locs 0 0 0 0 (F0 m pc ls st0) rest (QV D (va_A W9 H.size) W9 aa) (va_A W9 H.size)) (hP : va_P D vwCl W9 H) (hD : va_D A W9) (hS : va_S A s.heap H locs) (kk : ∀ (H1 : Heap) (locs1 : List Loc), va_P D vwCl W9 H1 → va_D A W9 → va_S A s.heap H1 locs1 → W p l e R s m args below meth c H1 locs1 0 0 Q (F0 m (pc + 3) ls rest)) : W p l e R s m args below meth c H locs 0 0 Q (F0 m pc ls st0) := by
  obtain ⟨hx, hb, hr0, hml, hown, hts, hlk, hA, hK, hN, hV⟩ := C
  have hF := ke_Aall hD hS hA
  refine va_callv hr hS (fun q _ h => hF q h) (hF) (fun u t H1 locs1 ht hvm hw hB hz1 hk1 hS1 => ?_)
  rw [ht] at hB
  exact kk H1 locs1 hB hD hS1
theorem k_vro (C : cx p s m args meth c cc nL ret own D q A) (hr : va_Run p l e R s m args below meth c H locs 0 0 0 0 (F0 m pc ls st0) rest (QV D (va_A (fl gc) H.size) (fl gc) aa) (va_A (fl gc) H.size)) (hP : va_P D vwCl (fl gs) H) (hD : va_D A (fl gs)) (hS : va_S A s.heap H locs) (isC isR : List Nat) (gr : List va_W) (N : Nat) (hn : isC.Nodup) (hC : isC.map (fun i => gs[i]?) = gc.map some) (h9 : isR.map (fun i => gs[i]?) = gr.map some) (hl : gs.length = N) (hc : (List.range N).all (fun k => isC.contains k || (isR.contains k && !isC.contains k)) = true) (kk : ∀ (H1 : Heap) (locs1 : List Loc), va_P D vwCl (fl gs) H1 → va_D A (fl gs) → va_S A s.heap H1 locs1 → W p l e R s m args below meth c H1 locs1 0 0 Q (F0 m (pc + 3) ls rest)) : W p l e R s m args below meth c H locs 0 0 Q (F0 m pc ls st0) := by
  obtain ⟨hx, hb, hr0, hml, hown, hts, hlk, hA, hK, hN, hV⟩ := C
  have hF := ke_Aall (flD hD isC hn hC) hS hA
  refine va_callv hr hS (fun q _ h => hF q h) (hF) (fun u t H1 locs1 ht hvm hw hB hz1 hk1 hS1 => ?_)
  rw [ht] at hB
  obtain ⟨hP1, hD1⟩ := kw_grp (gs8 := gs) hP hD isC isR N hC hC h9 h9 hl hc rfl hk1 hB
  exact kk H1 locs1 hP1 hD1 hS1
theorem k_vgrp (C : cx p s m args meth c cc nL ret own D q A) (hr : va_Run p l e R s m args below meth c H locs 0 0 0 0 (F0 m pc ls st0) rest (QV D (va_A (fl gc) H.size) (fl g1) aa) (va_A (fl gc) H.size)) (hP : va_P D vwCl (fl gs) H) (hD : va_D A (fl gs)) (hS : va_S A s.heap H locs) (isC isR : List Nat) (gr : List va_W) (N : Nat) (hn : isC.Nodup) (hC : isC.map (fun i => gs[i]?) = gc.map some) (hC8 : isC.map (fun i => gs8[i]?) = g1.map some) (h9 : isR.map (fun i => gs[i]?) = gr.map some) (h8 : isR.map (fun i => gs8[i]?) = gr.map some) (hl8 : gs8.length = N) (hc : (List.range N).all (fun k => isC.contains k || (isR.contains k && !isC.contains k)) = true) (hf : gs8.map (fun g => g.map (fun x => x.1)) = gs.map (fun g => g.map (fun x => x.1))) (kk : ∀ (H1 : Heap) (locs1 : List Loc), va_P D vwCl (fl gs8) H1 → va_D A (fl gs8) → va_S A s.heap H1 locs1 → W p l e R s m args below meth c H1 locs1 0 0 Q (F0 m (pc + 3) ls rest)) : W p l e R s m args below meth c H locs 0 0 Q (F0 m pc ls st0) := by
  obtain ⟨hx, hb, hr0, hml, hown, hts, hlk, hA, hK, hN, hV⟩ := C
  have hF := ke_Aall (flD hD isC hn hC) hS hA
  refine va_callv hr hS (fun q _ h => hF q h) (hF) (fun u t H1 locs1 ht hvm hw hB hz1 hk1 hS1 => ?_)
  rw [ht] at hB
  obtain ⟨hP1, hD1⟩ := kw_grp (gs8 := gs8) hP hD isC isR N hC hC8 h9 h8 hl8 hc hf hk1 hB
  exact kk H1 locs1 hP1 hD1 hS1
end KE
/-! single rows, with what the tables say of a pool entry in one piece -/
def fg (own : String) (index ci k : Nat) : Prop := ∃ (ref Cn : String) (T : u_T) (N : Nat), vwCl[ci]? = some (Cn, T, N) ∧ k < N ∧ (∀ w ∈ u_ws Cn T N, w ∈ TB) ∧ Cond.fieldLink own index ref (T k).2.1 (T k).2.2.1 ∈ TB ∧ (∀ (s : State) (x : ClassId × Class × Nat × Field), s.fieldFound? (T k).1 (T k).2.1 (T k).2.2.1 = some x → s.fieldFound? ref (T k).2.1 (T k).2.2.1 = some x)
def fp (own : String) (index ci k : Nat) (ty : FieldType) : Prop := ∃ (ref Cn : String) (T : u_T) (N : Nat) (ty0 : Nat → FieldType), vwCl[ci]? = some (Cn, T, N) ∧ k < N ∧ (∀ w ∈ u_ws Cn T N, w ∈ TB) ∧ Cond.fieldLink own index ref (T k).2.1 (T k).2.2.1 ∈ TB ∧ (∀ (s : State) (x : ClassId × Class × Nat × Field), s.fieldFound? (T k).1 (T k).2.1 (T k).2.2.1 = some x → s.fieldFound? ref (T k).2.1 (T k).2.2.1 = some x) ∧ (∀ k, k < N → parseFieldDescriptor (T k).2.2.1 = some (ty0 k)) ∧ (∀ a, a < N → ∀ b, b < N → a ≠ b → (T a).2.1 ≠ (T b).2.1) ∧ (T k).2.2.2 = false ∧ parseFieldDescriptor (T k).2.2.1 = some ty
section KR
variable {p : Program} {l : Launch} {e : Env} {R : Room} {s : State} {m : MethodId} {args : Array Value} {below : List Frame} {meth : Method} {c : Code} {H : Heap} {locs : List Loc} {cells slots : Nat} {cc : ByteArray} {nL : Nat} {ret : Option FieldType} {own : String} {D : va_G} {q : Nat → ClassId} {A : Nat → Prop} {Q : State → Prop}
variable {pc : Nat} {ls : Array Slot} {rest : List Value} {W9 W8 : va_W}
theorem k_rni {x y : Int32} (e9 : y = x) (kk : W p l e R s m args below meth c H locs cells slots Q (F0 m pc ls (.int y :: rest))) : W p l e R s m args below meth c H locs cells slots Q (F0 m pc ls (.int x :: rest)) := by
  subst e9
  exact kk
theorem k_rnl {x y : Int64} (e9 : y = x) (kk : W p l e R s m args below meth c H locs cells slots Q (F0 m pc ls (.long y :: rest))) : W p l e R s m args below meth c H locs cells slots Q (F0 m pc ls (.long x :: rest)) := by
  subst e9
  exact kk
theorem k_get {ci k index o : Nat} {fs : List Value} {v : Value} (C : cx p s m args meth c cc nL ret own D q A) (hg : fg own index ci k) (hP : va_P D vwCl W9 H) (q0 : Nat) (he : W9[q0]? = some (o, .inr (ci, fs))) (hv : fs[k]? = some v) (hdg : decode cc pc = .ok (.getfield index, 3))
    (kk : W p l e R s m args below meth c H locs cells slots Q (F0 m (pc + 3) ls (v :: rest))) : W p l e R s m args below meth c H locs cells slots Q (F0 m pc ls (.ref o :: rest)) := by
  obtain ⟨hx, hb, hr, hml, hown, hts, hlk, hA, hK, hN, hV⟩ := C
  obtain ⟨ref, Cn, T, N, h1, h2, h3, h4, h5⟩ := hg
  exact va_get hx hb hts h3 hown hK hP q0 he h1 k h2 (hts _ h4) (h5 s) hv hdg kk
theorem k_put {ci k index o : Nat} {fs : List Value} {v : Value} {ty : FieldType} (C : cx p s m args meth c cc nL ret own D q A) (hg : fp own index ci k ty) (hP : va_P D vwCl W9 H) (hD : va_D A W9) (hS : va_S A s.heap H locs) (q0 : Nat) (he : W9[q0]? = some (o, .inr (ci, fs))) (hn : narrow ty v = v) (hf : fits ty v = true) (hl : k < fs.length) (hdg : decode cc pc = .ok (.putfield index, 3)) (hw : W9.set q0 (o, .inr (ci, fs.set k v)) = W8)
    (kk : ∀ (H1 : Heap) (locs1 : List Loc), va_P D vwCl W8 H1 → va_D A W8 → va_S A s.heap H1 locs1 → W p l e R s m args below meth c H1 locs1 cells slots Q (F0 m (pc + 3) ls rest)) : W p l e R s m args below meth c H locs cells slots Q (F0 m pc ls (v :: .ref o :: rest)) := by
  obtain ⟨hx, hb, hr, hml, hown, hts, hlk, hA, hK, hN, hV⟩ := C
  obtain ⟨ref, Cn, T, N, ty0, h1, h2, h3, h4, h5, h6, h7, h8, h9⟩ := hg
  subst hw
  exact va_put hx hb hts h3 ty0 h6 h7 hown hK hP hD hS q0 he h1 k h2 (hts _ h4) (h5 s) h8 h9 hn hf hl hdg kk
theorem k_ild {o n : Nat} {f : Nat → Int32} {i : Int32} (C : cx p s m args meth c cc nL ret own D q A) (hP : va_P D vwCl W9 H) (q0 : Nat) (ha : W9[q0]? = some (o, .inl (q 1, n, .inl f))) (hin : ¬ oob i n) (hdg : decode cc pc = .ok (.iaload, 1))
    (kk : W p l e R s m args below meth c H locs cells slots Q (F0 m (pc + 1) ls (.int (f i.toNatClampNeg) :: rest))) : W p l e R s m args below meth c H locs cells slots Q (F0 m pc ls (.int i :: .ref o :: rest)) := by
  obtain ⟨hx, hb, hr, hml, hown, hts, hlk, hA, hK, hN, hV⟩ := C
  exact va_iald hx hb hK hP q0 1 ha rfl hin hdg kk
theorem k_bld {o n : Nat} {f : Nat → Int32} {i : Int32} (C : cx p s m args meth c cc nL ret own D q A) (hP : va_P D vwCl W9 H) (q0 : Nat) (ha : W9[q0]? = some (o, .inl (q 0, n, .inl f))) (hin : ¬ oob i n) (hdg : decode cc pc = .ok (.baload, 1))
    (kk : W p l e R s m args below meth c H locs cells slots Q (F0 m (pc + 1) ls (.int (f i.toNatClampNeg) :: rest))) : W p l e R s m args below meth c H locs cells slots Q (F0 m pc ls (.int i :: .ref o :: rest)) := by
  obtain ⟨hx, hb, hr, hml, hown, hts, hlk, hA, hK, hN, hV⟩ := C
  exact va_bald hx hb hK hP q0 0 ha rfl hin hdg kk
theorem k_zld {o n : Nat} {f : Nat → Int32} {i : Int32} (C : cx p s m args meth c cc nL ret own D q A) (hP : va_P D vwCl W9 H) (q0 : Nat) (ha : W9[q0]? = some (o, .inl (q 3, n, .inl f))) (hin : ¬ oob i n) (hdg : decode cc pc = .ok (.baload, 1))
    (kk : W p l e R s m args below meth c H locs cells slots Q (F0 m (pc + 1) ls (.int (f i.toNatClampNeg) :: rest))) : W p l e R s m args below meth c H locs cells slots Q (F0 m pc ls (.int i :: .ref o :: rest)) := by
  obtain ⟨hx, hb, hr, hml, hown, hts, hlk, hA, hK, hN, hV⟩ := C
  exact va_zald hx hb hK hP q0 3 ha rfl hin hdg kk
theorem k_lld {o n : Nat} {f : Nat → Int64} {i : Int32} (C : cx p s m args meth c cc nL ret own D q A) (hP : va_P D vwCl W9 H) (q0 : Nat) (ha : W9[q0]? = some (o, .inl (q 2, n, .inr (.inl f)))) (hin : ¬ oob i n) (hdg : decode cc pc = .ok (.laload, 1))
    (kk : W p l e R s m args below meth c H locs cells slots Q (F0 m (pc + 1) ls (.long (f i.toNatClampNeg) :: rest))) : W p l e R s m args below meth c H locs cells slots Q (F0 m pc ls (.int i :: .ref o :: rest)) := by
  obtain ⟨hx, hb, hr, hml, hown, hts, hlk, hA, hK, hN, hV⟩ := C
  exact va_lald hx hb hK hP q0 2 ha rfl hin hdg kk
theorem k_ist {o n : Nat} {f : Nat → Int32} {i x : Int32} (C : cx p s m args meth c cc nL ret own D q A) (hP : va_P D vwCl W9 H) (hD : va_D A W9) (hS : va_S A s.heap H locs) (q0 : Nat) (ha : W9[q0]? = some (o, .inl (q 1, n, .inl f))) (hin : ¬ oob i n) (hdg : decode cc pc = .ok (.iastore, 1)) (hw : W9.set q0 (o, .inl (q 1, n, .inl (upd f i.toNatClampNeg x))) = W8)
    (kk : ∀ (H1 : Heap) (locs1 : List Loc), va_P D vwCl W8 H1 → va_D A W8 → va_S A s.heap H1 locs1 → W p l e R s m args below meth c H1 locs1 cells slots Q (F0 m (pc + 1) ls rest)) : W p l e R s m args below meth c H locs cells slots Q (F0 m pc ls (.int x :: .int i :: .ref o :: rest)) := by
  obtain ⟨hx, hb, hr, hml, hown, hts, hlk, hA, hK, hN, hV⟩ := C
  subst hw
  exact va_iast hx hb hK hP hD hS q0 1 ha rfl hin hdg kk
theorem k_bst {o n : Nat} {f : Nat → Int32} {i x : Int32} (C : cx p s m args meth c cc nL ret own D q A) (hP : va_P D vwCl W9 H) (hD : va_D A W9) (hS : va_S A s.heap H locs) (q0 : Nat) (ha : W9[q0]? = some (o, .inl (q 0, n, .inl f))) (hin : ¬ oob i n) (hdg : decode cc pc = .ok (.bastore, 1)) (hw : W9.set q0 (o, .inl (q 0, n, .inl (upd f i.toNatClampNeg (vp_nar .byte x)))) = W8)
    (kk : ∀ (H1 : Heap) (locs1 : List Loc), va_P D vwCl W8 H1 → va_D A W8 → va_S A s.heap H1 locs1 → W p l e R s m args below meth c H1 locs1 cells slots Q (F0 m (pc + 1) ls rest)) : W p l e R s m args below meth c H locs cells slots Q (F0 m pc ls (.int x :: .int i :: .ref o :: rest)) := by
  obtain ⟨hx, hb, hr, hml, hown, hts, hlk, hA, hK, hN, hV⟩ := C
  subst hw
  exact va_bast hx hb hK hP hD hS q0 0 ha rfl hin hdg kk
theorem k_zst {o n : Nat} {f : Nat → Int32} {i x : Int32} (C : cx p s m args meth c cc nL ret own D q A) (hP : va_P D vwCl W9 H) (hD : va_D A W9) (hS : va_S A s.heap H locs) (q0 : Nat) (ha : W9[q0]? = some (o, .inl (q 3, n, .inl f))) (hin : ¬ oob i n) (hdg : decode cc pc = .ok (.bastore, 1)) (hw : W9.set q0 (o, .inl (q 3, n, .inl (upd f i.toNatClampNeg (vp_nar .boolean x)))) = W8)
    (kk : ∀ (H1 : Heap) (locs1 : List Loc), va_P D vwCl W8 H1 → va_D A W8 → va_S A s.heap H1 locs1 → W p l e R s m args below meth c H1 locs1 cells slots Q (F0 m (pc + 1) ls rest)) : W p l e R s m args below meth c H locs cells slots Q (F0 m pc ls (.int x :: .int i :: .ref o :: rest)) := by
  obtain ⟨hx, hb, hr, hml, hown, hts, hlk, hA, hK, hN, hV⟩ := C
  subst hw
  exact va_zast hx hb hK hP hD hS q0 3 ha rfl hin hdg kk
theorem k_lst {o n : Nat} {f : Nat → Int64} {i : Int32} {x : Int64} (C : cx p s m args meth c cc nL ret own D q A) (hP : va_P D vwCl W9 H) (hD : va_D A W9) (hS : va_S A s.heap H locs) (q0 : Nat) (ha : W9[q0]? = some (o, .inl (q 2, n, .inr (.inl f)))) (hin : ¬ oob i n) (hdg : decode cc pc = .ok (.lastore, 1)) (hw : W9.set q0 (o, .inl (q 2, n, .inr (.inl (vp_updL f i.toNatClampNeg x)))) = W8)
    (kk : ∀ (H1 : Heap) (locs1 : List Loc), va_P D vwCl W8 H1 → va_D A W8 → va_S A s.heap H1 locs1 → W p l e R s m args below meth c H1 locs1 cells slots Q (F0 m (pc + 1) ls rest)) : W p l e R s m args below meth c H locs cells slots Q (F0 m pc ls (.long x :: .int i :: .ref o :: rest)) := by
  obtain ⟨hx, hb, hr, hml, hown, hts, hlk, hA, hK, hN, hV⟩ := C
  subst hw
  exact va_last hx hb hK hP hD hS q0 2 ha rfl hin hdg kk
theorem k_len {o n : Nat} {z : (Nat → Int32) ⊕ (Nat → Int64) ⊕ (Nat → UInt32) ⊕ (Nat → UInt64) ⊕ (Nat → Option Nat)} {ty : FieldType} {cA : ClassId} {v : Int32} (C : cx p s m args meth c cc nL ret own D q A) (hP : va_P D vwCl W9 H) (q0 t0 : Nat) (ha : W9[q0]? = some (o, .inl (cA, n, z))) (ht : (tyL q)[t0]? = some (cA, ty)) (hv : Int32.ofNat n = v) (hdg : decode cc pc = .ok (.arraylength, 1))
    (kk : W p l e R s m args below meth c H locs cells slots Q (F0 m (pc + 1) ls (.int v :: rest))) : W p l e R s m args below meth c H locs cells slots Q (F0 m pc ls (.ref o :: rest)) := by
  obtain ⟨hx, hb, hr, hml, hown, hts, hlk, hA, hK, hN, hV⟩ := C
  exact va_alen hx hb hK hP q0 t0 (x := (n, z)) ha ht hv hdg kk
theorem k_max {index : Nat} {x y : Int32} (C : cx p s m args meth c cc nL ret own D q A) (hl : Cond.methodLink own index Lib.Math.max.name ∈ TB) (hk : Cond.static Lib.Math.max.name ∈ TB ∧ Cond.initialized "java/lang/Math" ∈ TB ∧ Cond.code Lib.Math.max.name Lib.Math.max.code 2 (some .int) ∈ TB) (hsz : ls.size = nL) (hR : 1 ≤ R.frames ∧ (rest.map fun v => v.category).sum + 13 ≤ R.locals) (hc : cells ≤ R.cells ∧ slots ≤ R.slots) (hdg : decode cc pc = .ok (.invokestatic index, 3))
    (kk : W p l e R s m args below meth c H locs cells slots Q (F0 m (pc + 3) ls (.int (if x < y then y else x) :: rest))) : W p l e R s m args below meth c H locs cells slots Q (F0 m pc ls (.int y :: .int x :: rest)) := by
  obtain ⟨hx, hb, hr, hml, hown, hts, hlk, hA, hK, hN, hV⟩ := C
  exact va_mmax hx hb (hml.trans hsz.symm) hown (hts _ hl) (hts _ hk.1) (hts _ hk.2.1) (hts _ hk.2.2) hR.1 hR.2 hc.1 hc.2 hdg kk
theorem k_min {index : Nat} {x y : Int32} (C : cx p s m args meth c cc nL ret own D q A) (hl : Cond.methodLink own index Lib.Math.min.name ∈ TB) (hk : Cond.static Lib.Math.min.name ∈ TB ∧ Cond.initialized "java/lang/Math" ∈ TB ∧ Cond.code Lib.Math.min.name Lib.Math.min.code 2 (some .int) ∈ TB) (hsz : ls.size = nL) (hR : 1 ≤ R.frames ∧ (rest.map fun v => v.category).sum + 13 ≤ R.locals) (hc : cells ≤ R.cells ∧ slots ≤ R.slots) (hdg : decode cc pc = .ok (.invokestatic index, 3))
    (kk : W p l e R s m args below meth c H locs cells slots Q (F0 m (pc + 3) ls (.int (if y < x then y else x) :: rest))) : W p l e R s m args below meth c H locs cells slots Q (F0 m pc ls (.int y :: .int x :: rest)) := by
  obtain ⟨hx, hb, hr, hml, hown, hts, hlk, hA, hK, hN, hV⟩ := C
  exact va_mmin hx hb (hml.trans hsz.symm) hown (hts _ hl) (hts _ hk.1) (hts _ hk.2.1) (hts _ hk.2.2) hR.1 hR.2 hc.1 hc.2 hdg kk
end KR
