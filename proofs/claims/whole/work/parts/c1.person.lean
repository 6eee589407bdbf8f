/-! TurretViews.person, and the law's own: words, contracts' forms -/
theorem cd_X11_person : Cond.code yX11_person cX11_person 3 (some .int) ∈ TB := tb_5 (List.mem_of_getElem? (i := 193) (by decide +kernel)) (by decide +kernel)
theorem im_X11_person : Cond.instanceMethod yX11_person ∈ TB := tb_5 (List.mem_of_getElem? (i := 191) (by decide +kernel)) (by decide +kernel)
theorem se_X11_person : Cond.selects RX11 yX11_person yX11_person ∈ TB := tb_5 (List.mem_of_getElem? (i := 192) (by decide +kernel)) (by decide +kernel)
theorem kc_X11_person : cV RX11 yX11_person cX11_person 3 (some .int) 2 := ⟨im_X11_person, se_X11_person, cd_X11_person, in_X11, ⟨by decide +kernel, by decide +kernel, by decide +kernel⟩⟩
theorem ml_L_7 : Cond.methodLink RL 7 yX11_person ∈ TB := tb_5 (List.mem_of_getElem? (i := 190) (by decide +kernel)) (by decide +kernel)
theorem ml_L_38 : Cond.methodLink RL 38 yL_person ∈ TB := tb_5 (List.mem_of_getElem? (i := 186) (by decide +kernel)) (by decide +kernel)
theorem fl_X11_151 : Cond.fieldLink RX11 151 RX8 (TX8 10).2.1 (TX8 10).2.2.1 ∈ TB := tb_1 (List.mem_of_getElem? (i := 192) (by decide +kernel)) (by decide +kernel)
theorem fg_X11_151 : fg RX11 151 8 10 := ⟨RX8, RX8, TX8, 15, rfl, by decide, tbX8, fl_X11_151, fun _ _ h => h⟩
theorem fl_X11_154 : Cond.fieldLink RX11 154 RX8 (TX8 11).2.1 (TX8 11).2.2.1 ∈ TB := tb_1 (List.mem_of_getElem? (i := 194) (by decide +kernel)) (by decide +kernel)
theorem fg_X11_154 : fg RX11 154 8 11 := ⟨RX8, RX8, TX8, 15, rfl, by decide, tbX8, fl_X11_154, fun _ _ h => h⟩
theorem fl_X11_160 : Cond.fieldLink RX11 160 RX8 (TX8 13).2.1 (TX8 13).2.2.1 ∈ TB := tb_1 (List.mem_of_getElem? (i := 200) (by decide +kernel)) (by decide +kernel)
theorem fg_X11_160 : fg RX11 160 8 13 := ⟨RX8, RX8, TX8, 15, rfl, by decide, tbX8, fl_X11_160, fun _ _ h => h⟩
theorem ml_X11_163 : Cond.methodLink RX11 163 yX8_climbable ∈ TB := tb_6 (List.mem_of_getElem? (i := 19) (by decide +kernel)) (by decide +kernel)
theorem ml_X11_167 : Cond.methodLink RX11 167 yX8_friendsOf ∈ TB := tb_6 (List.mem_of_getElem? (i := 20) (by decide +kernel)) (by decide +kernel)
theorem cd_X8_friendsOf : Cond.code yX8_friendsOf cX8_friendsOf 5 (some .int) ∈ TB := tb_6 (List.mem_of_getElem? (i := 23) (by decide +kernel)) (by decide +kernel)
theorem im_X8_friendsOf : Cond.instanceMethod yX8_friendsOf ∈ TB := tb_6 (List.mem_of_getElem? (i := 21) (by decide +kernel)) (by decide +kernel)
theorem se_X8_friendsOf : Cond.selects RX8 yX8_friendsOf yX8_friendsOf ∈ TB := tb_6 (List.mem_of_getElem? (i := 22) (by decide +kernel)) (by decide +kernel)
theorem kc_X8_friendsOf : cV RX8 yX8_friendsOf cX8_friendsOf 5 (some .int) 1 := ⟨im_X8_friendsOf, se_X8_friendsOf, cd_X8_friendsOf, in_X8, ⟨by decide +kernel, by decide +kernel, by decide +kernel⟩⟩
theorem st_L_person : Cond.static yL_person ∈ TB := tb_5 (List.mem_of_getElem? (i := 187) (by decide +kernel)) (by decide +kernel)
theorem in_L : Cond.initialized RL ∈ TB := tb_1 (List.mem_of_getElem? (i := 0) (by decide +kernel)) (by decide +kernel)
theorem cw_L_person : Cond.codeWith yL_person cL_person 5 (some .int) [(0, 10, 13, 13)] ∈ TB := tb_5 (List.mem_of_getElem? (i := 188) (by decide +kernel)) (by decide +kernel)
theorem cl_L_13 : Cond.classLink RL 13 NSE ∈ TB := tb_5 (List.mem_of_getElem? (i := 189) (by decide +kernel)) (by decide +kernel)
theorem cl_X11_141 : Cond.classLink RX11 141 NSE ∈ TB := tb_5 (List.mem_of_getElem? (i := 194) (by decide +kernel)) (by decide +kernel)
theorem in_NSE : Cond.initialized NSE ∈ TB := tb_1 (List.mem_of_getElem? (i := 24) (by decide +kernel)) (by decide +kernel)
def nseL : List Cond := [.castable NSE NSE, .declares (Bundle.initS "java/lang/RuntimeException"), .declares (Bundle.initS "java/lang/Exception"), .declares (Bundle.initS Bundle.tN)]
def VN (U : State) : Prop := ∀ w ∈ nseL, va_Nw w U
def VT (A : Nat → Prop) (U : State) (H : Heap) : Prop := vx_Zq Bundle.tN "UNASSIGNED_STACK" Bundle.steD A U H ∧ vx_Zq Bundle.tN "SUPPRESSED_SENTINEL" Bundle.listD A U H
theorem VN.warm {s U : State} (hW : s.WarmedH U.vm) (h : VN s) : VN U := by
  intro w hw
  have h1 := h w hw
  simp only [nseL, List.mem_cons, List.not_mem_nil, or_false] at hw
  rcases hw with e | e | e | e <;> subst e
  · exact va_Nw.warmC hW h1
  · exact va_tabs rfl (rfl : (s.setVm U.vm).vm = U.vm) (by rw [Cond.declares_setVm hW.alike]; exact h1)
  · exact va_tabs rfl (rfl : (s.setVm U.vm).vm = U.vm) (by rw [Cond.declares_setVm hW.alike]; exact h1)
  · exact va_tabs rfl (rfl : (s.setVm U.vm).vm = U.vm) (by rw [Cond.declares_setVm hW.alike]; exact h1)
theorem VN.same {s U : State} (hv : s.vm = U.vm) (h : VN s) : VN U := by
  intro w hw
  have h1 := h w hw
  simp only [nseL, List.mem_cons, List.not_mem_nil, or_false] at hw
  rcases hw with e | e | e | e <;> subst e <;> exact va_tabs rfl hv h1
theorem VT.warm {A B : Nat → Prop} {s U : State} {H : Heap} {locs : List Loc} (hW : s.WarmedH U.vm) (hU : U.heap = H) (hS : va_S A s.heap H locs) (hAB : ∀ q, B q → A q) (h : VT A s s.heap) : VT B U U.heap := by
  obtain ⟨h3, h4⟩ := h
  subst hU
  have hk : ∀ a : Nat, a < s.heap.size → ¬ A a → U.heap[a]? = s.heap[a]? := hS.2.1
  exact ⟨((h3.kept hk).narrow hAB).moved hW.alike, ((h4.kept hk).narrow hAB).moved hW.alike⟩
def PCX (D : va_G) (q : Nat → ClassId) (av : List Value) (ws : va_W) (sz : Nat) : Array Value → State → Prop := va_Pc av (fun U => U.heap.size = sz ∧ va_P D vwCl ws U.heap ∧ KK D q U ∧ va_D (fun _ => True) ws ∧ VS q (va_A ws sz) U U.heap ∧ VT (va_A ws sz) U U.heap ∧ VN U)
theorem PCX.blind {D : va_G} {q : Nat → ClassId} {av : List Value} {ws : va_W} {sz : Nat} : FrameBlind (PCX D q av ws sz) := fun a U g mk h => by
  obtain ⟨h0, h1, h2, h3, h4, h5, h6, h7⟩ := h
  exact ⟨h0, h1, h2, ⟨va_K.moved (u := U) (U := U.calling g mk a) (Vm.Alike.refl U.vm) h3.1, nestL_same (s := U) (U := U.calling g mk a) rfl h3.2⟩, h4, VS.call (U := U) (V := U.calling g mk a) rfl (Vm.Alike.refl U.vm) rfl h5, ⟨vx_Zq.moved (u := U) (U := U.calling g mk a) (Vm.Alike.refl U.vm) h6.1, vx_Zq.moved (u := U) (U := U.calling g mk a) (Vm.Alike.refl U.vm) h6.2⟩, VN.same (s := U) (U := U.calling g mk a) rfl h7⟩
theorem PCX.mk {D : va_G} {q : Nat → ClassId} {av : List Value} {ws : va_W} {H : Heap} {s : State} {A : Nat → Prop} {locs : List Loc} (hK : KK D q s) (hV : VS q A s s.heap) (hT : VT A s s.heap) (hN : VN s) (hA : ∀ q : Nat, s.heap.size ≤ q → A q) (hS : va_S A s.heap H locs) (hP : va_P D vwCl ws H) (hD : va_D A ws) : ∀ U : State, U.heap = H → s.WarmedH U.vm → PCX D q av ws H.size av.toArray U := fun U hU hW => by
  have hAB : ∀ q, va_A ws H.size q → A q := fun q h => by
    rcases h with ⟨k, e, h⟩ | h
    · exact hD.2 k (q, e) h
    · exact hA q (Nat.le_trans hS.1 h)
  exact ⟨rfl, by rw [hU], by rw [hU]; exact hP, hK.warm hW, hD.weaken (fun _ _ _ _ => trivial), VS.warm hW hU hS hAB hV, VT.warm hW hU hS hAB hT, hN.warm hW⟩
theorem k_metX {l : Launch} {y : MethodName} {cc : ByteArray} {nL : Nat} {ret : Option FieldType} {rm : Room} {D : va_G} {q : Nat → ClassId} {av : List Value} {w0 : va_W} {sz mc ms : Nat} {Q : (Nat → Prop) → Array Value → State → Outcome → State → Prop} {XC : (Nat → Prop) → String → State → State → Prop} (hy : plainName y.cls = true) (hn : (lg_sl av).length ≤ nL)
    (body : ∀ (p : Program) (e : Env) (s : State) (m : MethodId) (args : Array Value) (below : List Frame) (meth : Method) (c : Code) (A : Nat → Prop) (ls : Array Slot), cx p s m args meth c cc nL ret y.cls D q A → (∀ x ∈ c.exceptionTable.toList, False) → VT A s s.heap → VN s → va_P D vwCl w0 s.heap → va_D A w0 → va_S A s.heap s.heap [] → lv_has ls nL (lv_args 0 av) →
      W p l e rm s m args below meth c s.heap [] 0 0 (vx_MQ below (Q A) (XC A) args s mc ms A) (F0 m 0 ls [])) : vx_Met l y (Cond.code y cc nL ret :: TB) rm (PCX D q av w0 sz) (Q (va_A w0 sz)) (XC (va_A w0 sz)) mc ms (va_A w0 sz) := by
  refine vx_ofW (cc := cc) (maxL := nL) (ret := ret) hy rfl ?_
  intro p e s m args below meth c s₁ B hml htab hv
  obtain ⟨rfl, hsz, hP, hK, hD0, hV, hT, hVN⟩ := hv
  have hts := atoms_spec (ws := Cond.code y cc nL ret :: TB) B.pre
  subst hsz
  have hD := hD0.self (sz := s.heap.size)
  rw [lg_entry_eq]
  exact body p e s m _ below meth c (va_A w0 s.heap.size) _ ⟨B.exec, B.bytes, B.returns, hml, findClass_of_methodNamed B.named, fun w hw => hts w (List.mem_cons_of_mem _ hw), B.notSynchronized, fun q h => Or.inr h, hK.1, hK.2, hV⟩ htab hT hVN hP hD va_S.rf (lv_entry av hn)
theorem k_metXH {l : Launch} {y : MethodName} {cc : ByteArray} {nL : Nat} {ret : Option FieldType} {hh : List (Nat × Nat × Nat × Nat)} {rm : Room} {D : va_G} {q : Nat → ClassId} {av : List Value} {w0 : va_W} {sz mc ms : Nat} {Q : (Nat → Prop) → Array Value → State → Outcome → State → Prop} {XC : (Nat → Prop) → String → State → State → Prop} (hy : plainName y.cls = true) (hn : (lg_sl av).length ≤ nL)
    (body : ∀ (p : Program) (e : Env) (s : State) (m : MethodId) (args : Array Value) (below : List Frame) (meth : Method) (c : Code) (A : Nat → Prop) (ls : Array Slot), cx p s m args meth c cc nL ret y.cls D q A → c.exceptionTable.toList = tableOf hh → VT A s s.heap → VN s → va_P D vwCl w0 s.heap → va_D A w0 → va_S A s.heap s.heap [] → lv_has ls nL (lv_args 0 av) →
      W p l e rm s m args below meth c s.heap [] 0 0 (vx_MQ below (Q A) (XC A) args s mc ms A) (F0 m 0 ls [])) : vx_Met l y (Cond.codeWith y cc nL ret hh :: TB) rm (PCX D q av w0 sz) (Q (va_A w0 sz)) (XC (va_A w0 sz)) mc ms (va_A w0 sz) := by
  refine vx_ofWH (cc := cc) (maxL := nL) (ret := ret) (hh := hh) hy rfl ?_
  intro p e s m args below meth c s₁ B hml hv
  obtain ⟨rfl, hsz, hP, hK, hD0, hV, hT, hVN⟩ := hv
  have hts := atoms_spec (ws := Cond.codeWith y cc nL ret hh :: TB) B.pre
  have htab := vx_table (x := y) B (hts _ List.mem_cons_self)
  subst hsz
  have hD := hD0.self (sz := s.heap.size)
  rw [lg_entry_eq]
  exact body p e s m _ below meth c (va_A w0 s.heap.size) _ ⟨B.exec, B.bytes, B.returns, hml, findClass_of_methodNamed B.named, fun w hw => hts w (List.mem_cons_of_mem _ hw), B.notSynchronized, fun q h => Or.inr h, hK.1, hK.2, hV⟩ htab hT hVN hP hD va_S.rf (lv_entry av hn)
theorem tb_goodL {ws : List Cond} (h : ∀ w ∈ ws, w ∈ TB) : GoodIn TB ws := fun w hw => ⟨h w hw, good_of_word (List.mem_filter.mp (h w hw)).2⟩
section LP0
variable {p : Program} {l : Launch} {e : Env} {R : Room} {s : State} {m : MethodId} {args : Array Value} {below : List Frame} {meth : Method} {c : Code} {H : Heap} {locs : List Loc} {cells slots : Nat} {cc : ByteArray} {nL : Nat} {ret : Option FieldType} {own : String} {D : va_G} {q : Nat → ClassId} {A : Nat → Prop} {Q : State → Prop}
variable {pc : Nat} {ls : Array Slot} {rest st0 : List Value} {y : MethodName} {by2 : ByteArray} {mL n index : Nat} {ret2 : Option FieldType} {rm : Room} {Qc : Array Value → State → Outcome → State → Prop} {XC : String → State → State → Prop} {free : Addr → Prop} {b : Addr} {As : List Value} {wc : va_W} {Cn : String} {mc ms : Nat}
theorem k_rVX (C : cx p s m args meth c cc nL ret own D q A) (hT : VT A s s.heap) (hVN : VN s) (hM : vx_Met l y (Cond.code y by2 mL ret2 :: TB) rm (PCX D q (.ref b :: As) wc H.size) Qc XC mc ms free) (hk : cV Cn y by2 mL ret2 n) (hl : Cond.methodLink own index y ∈ TB) (hrc : rm.cells = mc) (hrs : rm.slots = ms) (hR : rm.frames + 1 ≤ R.frames ∧ 8 + (mL + 11) + rm.locals ≤ R.locals) (hP : va_P D vwCl wc H) (hD : va_D A wc) (hS : va_S A s.heap H locs)
    (hrec : ∃ cell : Cell, H[b]? = some cell ∧ cell.vm.isStatics = false ∧ s.vm.findClass Cn = some cell.cls) (hn : As.length = n) (hsz : ls.size = nL) (hst : st0 = As.reverse ++ .ref b :: rest) (hW : (rest.map fun v => v.category).sum ≤ 8) (hdg : decode cc pc = .ok (.invokevirtual index, 3)) (hf : cells + mc ≤ R.cells ∧ slots + ms ≤ R.slots) :
    vx_Run p l e R s m args below meth c H locs cells slots mc ms (F0 m pc ls st0) rest (Qc (Value.ref b :: As).toArray) XC free := by
  obtain ⟨hx, hb, hr, hml, hown, hts, hlk, hA, hK, hN, hV⟩ := C
  obtain ⟨k1, k2, k3, k4, k5⟩ := hk
  exact vx_runV ⟨hx, hb, hml, hown, hts⟩ hM ⟨callB_of n hts (tb_good k3) rfl hrc hrs (hts _ k4) (hts _ hl) k5 hR, hts _ k1, hts _ k2⟩ ⟨PCX.blind, hrec, PCX.mk ⟨hK, hN⟩ hV hT hVN hA hS hP hD⟩ rfl hn hsz hst (lv_room hW) hdg hf
theorem k_iretC {r : Int32} {w1 : va_W} (C : cx p s m args meth c cc nL (some .int) own D q A) (hP : va_P D vwCl w1 H) (hS : va_S A s.heap H locs) (hdg : decode cc pc = .ok (.ireturn, 1)) : W p l e R s m args below meth c H locs cells slots (MQ below (QI D A r w1) args s cells slots A) (F0 m pc ls [.int r]) := by
  obtain ⟨hx, hb, hr, hml, hown, hts, hlk, hA, hK, hN, hV⟩ := C
  exact W.iret hx hb hr (fun t ht hW => ⟨⟨r, (), rfl, rfl, by show va_P D vwCl w1 t.heap; rw [ht]; exact hP⟩, hS.F ht⟩) hS.2.2 hdg hlk
theorem vn_w1 : ∀ w ∈ ((vn_at RX11 145).filter vx_no).filter goodWord, w ∈ TB := by
  have h : (((vn_at RX11 145).filter vx_no).filter goodWord).all (fun w => decide (w ∈ lw_tbl) && goodWord w) = true := by decide +kernel
  exact fun w hw => by
    have h1 := List.all_eq_true.mp h w hw
    rw [Bool.and_eq_true] at h1
    exact tb_of (of_decide_eq_true h1.1) h1.2
theorem vn_w2 : ∀ w ∈ ((vn_at RX11 145).filter vx_no).filter (fun w => !goodWord w), w ∈ nseL := by
  have h : (((vn_at RX11 145).filter vx_no).filter (fun w => !goodWord w)).all (fun w => decide (w ∈ nseL)) = true := by decide +kernel
  exact fun w hw => of_decide_eq_true (List.all_eq_true.mp h w hw)
theorem vn_w3 : ∀ w ∈ Cond.classLink RX11 141 NSE :: Cond.initialized NSE :: (vn_at RX11 145).filter vx_no, vx_ot w = true := by
  have h : (Cond.classLink RX11 141 NSE :: Cond.initialized NSE :: (vn_at RX11 145).filter vx_no).all vx_ot = true := by decide +kernel
  exact List.all_eq_true.mp h
theorem nse_use (h : VN s) : ∀ w ∈ nseL, w.before args s = true := fun w hw => by
  have h1 := h w hw
  simp only [nseL, List.mem_cons, List.not_mem_nil, or_false] at hw
  rcases hw with e | e | e | e <;> subst e <;> exact va_Nw.use rfl h1
/-- new, dup, ldc, <init>, athrow in TurretViews.person -/
theorem vn_throw {text : String} {is sa : Nat} {XC : String → State → State → Prop} (C : cx p s m args meth c cc nL ret RX11 D q A) (hl : l.stackTraces = false) (htab : ∀ x ∈ c.exceptionTable.toList, False) (hT : VT A s s.heap) (hVN : VN s) (hstr : vk_R RX11 is text sa s) (hS : va_S A s.heap H locs) (hsize : ls.size = nL)
    (d0 : decode cc pc = .ok (.new 141, 3)) (d3 : decode cc (pc + 3) = .ok (.dup, 1)) (d4 : decode cc (pc + 4) = .ok (.ldc is, 2)) (d6 : decode cc (pc + 6) = .ok (.invokespecial 145, 3)) (d9 : decode cc (pc + 9) = .ok (.athrow, 1))
    (hR : 5 < R.frames ∧ 90 ≤ R.locals ∧ 1 ≤ R.cells ∧ 6 ≤ R.slots) (hx : ∀ t : State, H.size ≤ t.heap.size → (∀ a : Nat, a < H.size → t.heap[a]? = H[a]?) → XC NSE s t) : W p l e R s m args below meth c H locs 0 0 (vx_MQ below Qc XC args s 1 6 A) (F0 m pc ls []) := by
  obtain ⟨hx0, hb, hr, hml, hown, hts, hlk, hA, hK, hN, hV⟩ := C
  refine vn_make (rest := []) hx0 hb hl hown (hts _ cl_X11_141) (hts _ in_NSE) hstr (vx_hat (fun w hw => hts w (vn_w1 w hw)) vn_w2 (nse_use hVN)) vn_w3 hT.1 hT.2 hS (hsize.trans hml.symm) d0 d3 d4 d6 hR.1 (by show 0 + 82 ≤ _; omega) (by omega) (by omega) (fun q9 ce H1 e1 e2 e3 e4 e5 => ?_)
  refine vx_athrow hx0 hb d9 ?_
  exact vx_out (fun x hx => (htab x hx).elim) hlk e1 e2 e3 (fun t ht _ => hx t (by rw [ht]; exact e4) (fun a ha => by rw [ht]; exact e5 a ha)) hS.2.2 (Nat.le_refl _) (Nat.le_refl _)
end LP0
abbrev rm_X11_person : Room := ({ frames := 8, cells := 0, slots := 0, locals := 200 } : Room)
abbrev rm_X11_personX : Room := ({ frames := 20, cells := 1, slots := 6, locals := 300 } : Room)
theorem sw_out {x : Int32} (h0 : ¬ x = 0) (h1 : ¬ x = 1) (h2 : ¬ x = 2) (h3 : ¬ x = 3) (h4 : ¬ x = 4) (h5 : ¬ x = 5) (h6 : ¬ x = 6) : x.toInt < 0 ∨ 6 < x.toInt := by
  by_cases a : x.toInt < 0
  · exact Or.inl a
  · by_cases b : 6 < x.toInt
    · exact Or.inr b
    · exfalso
      have e : x.toInt = 0 ∨ x.toInt = 1 ∨ x.toInt = 2 ∨ x.toInt = 3 ∨ x.toInt = 4 ∨ x.toInt = 5 ∨ x.toInt = 6 := by omega
      rcases e with e | e | e | e | e | e | e
      · exact h0 (Int32.toInt_inj.mp e)
      · exact h1 (Int32.toInt_inj.mp e)
      · exact h2 (Int32.toInt_inj.mp e)
      · exact h3 (Int32.toInt_inj.mp e)
      · exact h4 (Int32.toInt_inj.mp e)
      · exact h5 (Int32.toInt_inj.mp e)
      · exact h6 (Int32.toInt_inj.mp e)
set_option maxRecDepth 100000 in
set_option maxHeartbeats 4000000 in
theorem c_X11_personR (l : Launch) (D : va_G) (q : Nat → ClassId) (tp : Nat) (o0 : Nat) (a0 : Nat → Nat) (S0 : St) (a1 : Nat → Nat) (S1 : St) (sz : Nat) (x1 : Int32) (x2 : Int32) {r : Int32} (hF : F_X11_person S1 x1 x2 = some (some r)) : Met l yX11_person (Cond.code yX11_person cX11_person 3 (some .int) :: TB) rm_X11_person (PC D q [.ref o0, .int x1, .int x2] (fl [g11 q o0 a0 tp S0, g8 q (a0 3) a1 S1]) sz) ((fun A => QI D A r (fl [g11 q o0 a0 tp S0, g8 q (a0 3) a1 S1])) (va_A (fl [g11 q o0 a0 tp S0, g8 q (a0 3) a1 S1]) sz)) 0 0 (va_A (fl [g11 q o0 a0 tp S0, g8 q (a0 3) a1 S1]) sz) := by
  refine k_met (w0 := fl [g11 q o0 a0 tp S0, g8 q (a0 3) a1 S1]) (Q := fun A => QI D A r (fl [g11 q o0 a0 tp S0, g8 q (a0 3) a1 S1])) (by decide +kernel) (Nat.le_of_ble_eq_true rfl) ?_
  intro p e s m args below meth c A ls C hP hD hS hl
  have hl : lv_has ls 3 [(0, .ref o0), (1, .int x1), (2, .int x2)] := hl
  unfold F_X11_person at hF
  have C : cx p s m args meth c cX11_person 3 (some .int) RX11 D q A := C
  obtain ⟨hx, hb, hr, hml, hown, hts, hlk, hA, hK, hN, hV⟩ := id C
  refine lv_aload_n hx hb dX11_person_0 rfl (lv_at hl 0 rfl) ?_
  refine k_get (v := .ref (a0 3)) C fg_X11_26 hP 0 rfl rfl dX11_person_1 ?_
  refine lv_iload_n hx hb dX11_person_4 rfl (lv_at hl 1 rfl) ?_
  obtain ⟨r2, hc1, hF⟩ := ob1_s hF
  refine k_iro C (k_rV (As := [.int x1]) (rest := []) C (c_X8_hasPerson l D q (a0 3) a1 S1 _ x1 hc1) kc_X8_hasPerson ml_X11_137 rfl rfl (by decide) (flP hP [1] rfl) (flD hD [1] (by decide) rfl) hS (va_recv hK hP (ci := 8) (q0 := 2) rfl rfl) rfl hl.1 rfl (Nat.le_of_ble_eq_true rfl) dX11_person_5 (by decide)) hP hD hS [1] [0] [g11 q o0 a0 tp S0] 2 (by decide) rfl rfl rfl rfl (fun H locs hP hD hS => ?_)
  refine lv_if_ne (tgt := 21) hx hb dX11_person_8 (by decide) (fun c3 => ?_) (fun c3 => ?_)
  · have hF := op_f hF c3
    refine lv_iload_n hx hb dX11_person_21 rfl (lv_at hl 2 rfl) ?_
    by_cases d0 : x2 = (0 : Int32)
    · have hF := op_t hF d0
      refine lv_tableIn (tgt := 64) hx hb dX11_person_22 (by rw [d0]; decide) (by rw [d0]; decide) (by rw [d0]; rfl) (by decide) ?_
      refine lv_aload_n hx hb dX11_person_64 rfl (lv_at hl 0 rfl) ?_
      refine k_get (v := .ref (a0 3)) C fg_X11_26 hP 0 rfl rfl dX11_person_65 ?_
      refine k_get (v := .ref (a1 10)) C fg_X11_148 hP 2 rfl rfl dX11_person_68 ?_
      refine lv_iload_n hx hb dX11_person_71 rfl (lv_at hl 1 rfl) ?_
      obtain ⟨h5, hF⟩ := op_ck hF
      refine k_ild (f := S1.2.2.1 9) C hP 8 rfl h5 dX11_person_72 ?_
      cases hF
      exact k_iret C hP hS dX11_person_73
    have hF := op_f hF d0
    by_cases d1 : x2 = (1 : Int32)
    · have hF := op_t hF d1
      refine lv_tableIn (tgt := 74) hx hb dX11_person_22 (by rw [d1]; decide) (by rw [d1]; decide) (by rw [d1]; rfl) (by decide) ?_
      refine lv_aload_n hx hb dX11_person_74 rfl (lv_at hl 0 rfl) ?_
      refine k_get (v := .ref (a0 3)) C fg_X11_26 hP 0 rfl rfl dX11_person_75 ?_
      refine k_get (v := .ref (a1 11)) C fg_X11_151 hP 2 rfl rfl dX11_person_78 ?_
      refine lv_iload_n hx hb dX11_person_81 rfl (lv_at hl 1 rfl) ?_
      obtain ⟨h5, hF⟩ := op_ck hF
      refine k_ild (f := S1.2.2.1 10) C hP 9 rfl h5 dX11_person_82 ?_
      cases hF
      exact k_iret C hP hS dX11_person_83
    have hF := op_f hF d1
    by_cases d2 : x2 = (2 : Int32)
    · have hF := op_t hF d2
      refine lv_tableIn (tgt := 84) hx hb dX11_person_22 (by rw [d2]; decide) (by rw [d2]; decide) (by rw [d2]; rfl) (by decide) ?_
      refine lv_aload_n hx hb dX11_person_84 rfl (lv_at hl 0 rfl) ?_
      refine k_get (v := .ref (a0 3)) C fg_X11_26 hP 0 rfl rfl dX11_person_85 ?_
      refine k_get (v := .ref (a1 12)) C fg_X11_154 hP 2 rfl rfl dX11_person_88 ?_
      refine lv_iload_n hx hb dX11_person_91 rfl (lv_at hl 1 rfl) ?_
      obtain ⟨h5, hF⟩ := op_ck hF
      refine k_ild (f := S1.2.2.1 11) C hP 10 rfl h5 dX11_person_92 ?_
      cases hF
      exact k_iret C hP hS dX11_person_93
    have hF := op_f hF d2
    by_cases d3 : x2 = (3 : Int32)
    · have hF := op_t hF d3
      refine lv_tableIn (tgt := 94) hx hb dX11_person_22 (by rw [d3]; decide) (by rw [d3]; decide) (by rw [d3]; rfl) (by decide) ?_
      refine lv_aload_n hx hb dX11_person_94 rfl (lv_at hl 0 rfl) ?_
      refine k_get (v := .ref (a0 3)) C fg_X11_26 hP 0 rfl rfl dX11_person_95 ?_
      refine k_get (v := .ref (a1 13)) C fg_X11_157 hP 2 rfl rfl dX11_person_98 ?_
      refine lv_iload_n hx hb dX11_person_101 rfl (lv_at hl 1 rfl) ?_
      obtain ⟨h5, hF⟩ := op_ck hF
      refine k_ild (f := S1.2.2.1 12) C hP 11 rfl h5 dX11_person_102 ?_
      cases hF
      exact k_iret C hP hS dX11_person_103
    have hF := op_f hF d3
    by_cases d4 : x2 = (4 : Int32)
    · have hF := op_t hF d4
      refine lv_tableIn (tgt := 104) hx hb dX11_person_22 (by rw [d4]; decide) (by rw [d4]; decide) (by rw [d4]; rfl) (by decide) ?_
      refine lv_aload_n hx hb dX11_person_104 rfl (lv_at hl 0 rfl) ?_
      refine k_get (v := .ref (a0 3)) C fg_X11_26 hP 0 rfl rfl dX11_person_105 ?_
      refine k_get (v := .ref (a1 14)) C fg_X11_160 hP 2 rfl rfl dX11_person_108 ?_
      refine lv_iload_n hx hb dX11_person_111 rfl (lv_at hl 1 rfl) ?_
      obtain ⟨h5, hF⟩ := op_ck hF
      refine k_ild (f := S1.2.2.1 13) C hP 12 rfl h5 dX11_person_112 ?_
      cases hF
      exact k_iret C hP hS dX11_person_113
    have hF := op_f hF d4
    by_cases d5 : x2 = (5 : Int32)
    · have hF := op_t hF d5
      refine lv_tableIn (tgt := 114) hx hb dX11_person_22 (by rw [d5]; decide) (by rw [d5]; decide) (by rw [d5]; rfl) (by decide) ?_
      refine lv_aload_n hx hb dX11_person_114 rfl (lv_at hl 0 rfl) ?_
      refine k_get (v := .ref (a0 3)) C fg_X11_26 hP 0 rfl rfl dX11_person_115 ?_
      refine lv_iload_n hx hb dX11_person_118 rfl (lv_at hl 1 rfl) ?_
      obtain ⟨r3, hc3, hF⟩ := ob1_s hF
      refine k_iro C (k_rV (As := [.int x1]) (rest := []) C (c_X8_climbable l D q (a0 3) a1 S1 _ x1 hc3) kc_X8_climbable ml_X11_163 rfl rfl (by decide) (flP hP [1] rfl) (flD hD [1] (by decide) rfl) hS (va_recv hK hP (ci := 8) (q0 := 2) rfl rfl) rfl hl.1 rfl (Nat.le_of_ble_eq_true rfl) dX11_person_119 (by decide)) hP hD hS [1] [0] [g11 q o0 a0 tp S0] 2 (by decide) rfl rfl rfl rfl (fun H locs hP hD hS => ?_)
      cases hF
      exact k_iret C hP hS dX11_person_122
    have hF := op_f hF d5
    by_cases d6 : x2 = (6 : Int32)
    · have hF := op_t hF d6
      refine lv_tableIn (tgt := 123) hx hb dX11_person_22 (by rw [d6]; decide) (by rw [d6]; decide) (by rw [d6]; rfl) (by decide) ?_
      refine lv_aload_n hx hb dX11_person_123 rfl (lv_at hl 0 rfl) ?_
      refine k_get (v := .ref (a0 3)) C fg_X11_26 hP 0 rfl rfl dX11_person_124 ?_
      refine lv_iload_n hx hb dX11_person_127 rfl (lv_at hl 1 rfl) ?_
      obtain ⟨r3, hc3, hF⟩ := ob1_s hF
      refine k_iro C (k_rV (As := [.int x1]) (rest := []) C (c_X8_friendsOf l D q (a0 3) a1 S1 _ x1 hc3) kc_X8_friendsOf ml_X11_167 rfl rfl (by decide) (flP hP [1] rfl) (flD hD [1] (by decide) rfl) hS (va_recv hK hP (ci := 8) (q0 := 2) rfl rfl) rfl hl.1 rfl (Nat.le_of_ble_eq_true rfl) dX11_person_128 (by decide)) hP hD hS [1] [0] [g11 q o0 a0 tp S0] 2 (by decide) rfl rfl rfl rfl (fun H locs hP hD hS => ?_)
      cases hF
      exact k_iret C hP hS dX11_person_131
    have hF := op_f hF d6
    cases hF
  · have hF := op_t hF c3
    cases hF
set_option maxRecDepth 100000 in
set_option maxHeartbeats 4000000 in
theorem c_X11_personX (l : Launch) (hst : l.stackTraces = false) (D : va_G) (q : Nat → ClassId) (tp : Nat) (o0 : Nat) (a0 : Nat → Nat) (S0 : St) (a1 : Nat → Nat) (S1 : St) (sz : Nat) (x1 : Int32) (x2 : Int32) (hF : F_X11_person S1 x1 x2 = some none) : vx_Met l yX11_person (Cond.code yX11_person cX11_person 3 (some .int) :: TB) rm_X11_personX (PCX D q [.ref o0, .int x1, .int x2] (fl [g11 q o0 a0 tp S0, g8 q (a0 3) a1 S1]) sz) ((fun A => va_Qi (fun _ (_ : Unit) => False) (fun _ _ => True) A) (va_A (fl [g11 q o0 a0 tp S0, g8 q (a0 3) a1 S1]) sz)) ((fun A => vx_X (fun (_ : Unit) => True) (fun E _ t => E = NSE ∧ va_P D vwCl (fl [g11 q o0 a0 tp S0, g8 q (a0 3) a1 S1]) t.heap) A) (va_A (fl [g11 q o0 a0 tp S0, g8 q (a0 3) a1 S1]) sz)) 1 6 (va_A (fl [g11 q o0 a0 tp S0, g8 q (a0 3) a1 S1]) sz) := by
  refine k_metX (w0 := fl [g11 q o0 a0 tp S0, g8 q (a0 3) a1 S1]) (Q := fun A => va_Qi (fun _ (_ : Unit) => False) (fun _ _ => True) A) (XC := fun A => vx_X (fun (_ : Unit) => True) (fun E _ t => E = NSE ∧ va_P D vwCl (fl [g11 q o0 a0 tp S0, g8 q (a0 3) a1 S1]) t.heap) A) (by decide +kernel) (Nat.le_of_ble_eq_true rfl) ?_
  intro p e s m args below meth c A ls C htab hVT hVN hP hD hS hl
  have hl : lv_has ls 3 [(0, .ref o0), (1, .int x1), (2, .int x2)] := hl
  unfold F_X11_person at hF
  have C : cx p s m args meth c cX11_person 3 (some .int) RX11 D q A := C
  obtain ⟨hx, hb, hr, hml, hown, hts, hlk, hA, hK, hN, hV⟩ := id C
  refine lv_aload_n hx hb dX11_person_0 rfl (lv_at hl 0 rfl) ?_
  refine k_get (v := .ref (a0 3)) C fg_X11_26 hP 0 rfl rfl dX11_person_1 ?_
  refine lv_iload_n hx hb dX11_person_4 rfl (lv_at hl 1 rfl) ?_
  obtain ⟨r2, hc1, hF⟩ := ob1_s hF
  refine k_iro C (k_rV (As := [.int x1]) (rest := []) C (c_X8_hasPerson l D q (a0 3) a1 S1 _ x1 hc1) kc_X8_hasPerson ml_X11_137 rfl rfl (by decide) (flP hP [1] rfl) (flD hD [1] (by decide) rfl) hS (va_recv hK hP (ci := 8) (q0 := 2) rfl rfl) rfl hl.1 rfl (Nat.le_of_ble_eq_true rfl) dX11_person_5 (by decide)) hP hD hS [1] [0] [g11 q o0 a0 tp S0] 2 (by decide) rfl rfl rfl rfl (fun H locs hP hD hS => ?_)
  have hxx : ∀ t : State, H.size ≤ t.heap.size → (∀ a : Nat, a < H.size → t.heap[a]? = H[a]?) → (vx_X (fun (_ : Unit) => True) (fun E _ t => E = NSE ∧ va_P D vwCl (fl [g11 q o0 a0 tp S0, g8 q (a0 3) a1 S1]) t.heap) A) NSE s t := fun t h1 h2 => ⟨(), trivial, ⟨rfl, hP.kept (fun k z hk => h2 z.1 ((hP k z hk).lt))⟩, Nat.le_trans hS.1 h1, fun a ha hna => by rw [h2 a (Nat.lt_of_lt_of_le ha hS.1)]; exact hS.2.1 a ha hna⟩
  refine lv_if_ne (tgt := 21) hx hb dX11_person_8 (by decide) (fun c3 => ?_) (fun c3 => ?_)
  · have hF := op_f hF c3
    refine lv_iload_n hx hb dX11_person_21 rfl (lv_at hl 2 rfl) ?_
    by_cases d0 : x2 = (0 : Int32)
    · have hF := op_t hF d0
      obtain ⟨-, hF⟩ := op_ck hF
      cases hF
    have hF := op_f hF d0
    by_cases d1 : x2 = (1 : Int32)
    · have hF := op_t hF d1
      obtain ⟨-, hF⟩ := op_ck hF
      cases hF
    have hF := op_f hF d1
    by_cases d2 : x2 = (2 : Int32)
    · have hF := op_t hF d2
      obtain ⟨-, hF⟩ := op_ck hF
      cases hF
    have hF := op_f hF d2
    by_cases d3 : x2 = (3 : Int32)
    · have hF := op_t hF d3
      obtain ⟨-, hF⟩ := op_ck hF
      cases hF
    have hF := op_f hF d3
    by_cases d4 : x2 = (4 : Int32)
    · have hF := op_t hF d4
      obtain ⟨-, hF⟩ := op_ck hF
      cases hF
    have hF := op_f hF d4
    by_cases d5 : x2 = (5 : Int32)
    · have hF := op_t hF d5
      obtain ⟨r3, -, hF⟩ := ob1_s hF
      cases hF
    have hF := op_f hF d5
    by_cases d6 : x2 = (6 : Int32)
    · have hF := op_t hF d6
      obtain ⟨r3, -, hF⟩ := ob1_s hF
      cases hF
    have hF := op_f hF d6
    refine lv_tableOut (tgt := 132) hx hb dX11_person_22 (sw_out d0 d1 d2 d3 d4 d5 d6) (by decide) ?_
    exact vn_throw C hst htab hVT hVN hV.1.2.2.2.2.2.2.2.2 hS hl.1 dX11_person_132 dX11_person_135 dX11_person_136 dX11_person_138 dX11_person_141 ⟨by decide, by decide, by decide, by decide⟩ hxx
  · have hF := op_t hF c3
    exact vn_throw C hst htab hVT hVN hV.1.2.2.2.2.2.2.2.1 hS hl.1 dX11_person_11 dX11_person_14 dX11_person_15 dX11_person_17 dX11_person_20 ⟨by decide, by decide, by decide, by decide⟩ hxx
