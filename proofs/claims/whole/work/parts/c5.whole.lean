/-! the start, and the claim -/
/-! THE CLAIM OUT OF ONE WALK OF THE LAW'S BODY. Your part is whole_start (and what it stands on); all else here is the same for every law, but numbers. -/
def R_law : String := "TurretViewsLaw"
def lw_P (b : Addr) (xs : List Int32) (args : Array Value) (s : State) : Prop := args = #[.ref b] ∧ s.IntsAt b xs ∧ xs.length ≤ 3072 ∧ (Jvm.Cond.and given_1 narrow_1).before args s = true
def lw_Q (_ : Array Value) (s : State) (o : Outcome) (t : State) : Prop := o = .returned (some (.int 1)) ∧ Framed s o t [] 601024 7293034
def lw_Z (below : List Frame) (a : Array Value) (s : State) : State → Prop := fun t => ∃ o, t.status = .running ∧ Ended t below o ∧ lw_Q a s o t
/-- the law's own end, with 1 on the stack, nothing written that was there before, its room as the claim has it -/
theorem lw_ret {p : Program} {l : Launch} {e : Env} {s : State} {m : MethodId} {below : List Frame} {meth : Method} {c : Code} {b : Nat} (hx : p.tables.exec = Jvm.exec) (hb : c.code = code) (hr : meth.sig.returnType = ret) (hlocks : meth.locks = false) {pc : Nat} {H : Heap} {ls : Array Slot} (hdg : decode code pc = .ok (.ireturn, 1)) : W p l e room_1 s m #[Value.ref b] below meth c H [] 601024 7293034 (lw_Z below #[Value.ref b] s) (F0 m pc ls [.int 1]) := by
  intro T hT X
  obtain ⟨fs, hret, hrun, hended, hW, hframe⟩ := X.leave (v := some (.int 1)) (hlocks := hlocks) (fun h => by rw [hr] at h; cases h)
  have hmeth' : T.vm.method? m = some meth := X.method'
  refine ⟨T.setFrames fs, ?_, .returned (some (.int 1)), hrun, hended, rfl, ⟨_, rfl⟩, hW, hframe⟩
  jvm_step X.here [X.here.top, hx, hb, hdg, hmeth', hr, ret, narrow_b1]
  (try refine ⟨rfl, ?_⟩); (try refine ⟨rfl, ?_⟩)
  first | (intro acts; rw [hret _ acts rfl rfl rfl]) | rw [hret _ _ rfl rfl rfl]
  exact Steps.refl _
/-- what holds at the law's entry: the machine, the code, the tables' words (any of lw_tbl by 'hts w (by decide +kernel)'), the script of L ints xs at the cell b, what the Statement gives of the start (any of its parts by flat_of_before) -/
def lw_At (p : Program) (s : State) (m : MethodId) (meth : Method) (c : Code) (b L : Nat) (xs : Nat → Int32) : Prop :=
  p.tables.exec = Jvm.exec ∧ c.code = code ∧ meth.sig.returnType = ret ∧ c.maxLocals = 7 ∧ s.vm.findClass R_law = some m.cls ∧ (∀ w ∈ lw_tbl, w.before #[Value.ref b] s = true) ∧ va_X b L xs s s.heap ∧ b < s.heap.size ∧ meth.locks = false ∧ (Jvm.Cond.and given_1 narrow_1).before #[Value.ref b] s = true

set_option maxRecDepth 100000 in
set_option maxHeartbeats 8000000 in
theorem whole_start {p : Program} {e : Env} {s : State} {m : MethodId} {below : List Frame} {meth : Method} {c : Code} (l : Launch) (hflags : l.flags = flags0) {b L : Nat} {xs : Nat → Int32} (hL : L ≤ 3072) (C0 : lw_At p s m meth c b L xs) : W p l e room_1 s m #[Value.ref b] below meth c s.heap [] 0 0 (lw_Z below #[Value.ref b] s) (entryFrame m ([Value.ref b] : List Value).toArray 7) := by
  obtain ⟨hx, hb, hr, hml, hown, hts0, hX, hbl, hlk, hgv⟩ := id C0
  have hg := flat_of_before _ hgv
  have hts : ∀ w ∈ TB, w.before #[Value.ref b] s = true := fun w hw => hts0 w (List.mem_filter.mp hw).1
  have hst : l.stackTraces = false := by unfold Launch.stackTraces; rw [hflags]; decide +kernel
  have hA : ∀ q : Nat, s.heap.size ≤ q → (fun q : Nat => s.heap.size ≤ q) q := fun _ h => h
  have hAn : ∀ a : Nat, a < s.heap.size → ¬ (fun q : Nat => s.heap.size ≤ q) a := fun a ha => Nat.not_le.mpr ha
  have hbA : ¬ (fun q : Nat => s.heap.size ≤ q) b := hAn b hbl
  obtain ⟨c0, iS0, hKn0⟩ := u_known (C := RX0) (T := TX0) (N := 5) (n := 5) hts tbX0 (hts _ is_X0)
  obtain ⟨c1, iS1, hKn1⟩ := u_known (C := RX1) (T := TX1) (N := 1) (n := 1) hts tbX1 (hts _ is_X1)
  obtain ⟨c2, iS2, hKn2⟩ := u_known (C := RX2) (T := TX2) (N := 3) (n := 3) hts tbX2 (hts _ is_X2)
  obtain ⟨c3, iS3, hKn3⟩ := u_known (C := RX3) (T := TX3) (N := 3) (n := 3) hts tbX3 (hts _ is_X3)
  obtain ⟨c4, iS4, hKn4⟩ := u_known (C := RX4) (T := TX4) (N := 5) (n := 5) hts tbX4 (hts _ is_X4)
  obtain ⟨c5, iS5, hKn5⟩ := u_known (C := RX5) (T := TX5) (N := 10) (n := 10) hts tbX5 (hts _ is_X5)
  obtain ⟨c6, iS6, hKn6⟩ := u_known (C := RX6) (T := TX6) (N := 8) (n := 8) hts tbX6 (hts _ is_X6)
  obtain ⟨c7, iS7, hKn7⟩ := u_known (C := RX7) (T := TX7) (N := 5) (n := 5) hts tbX7 (hts _ is_X7)
  obtain ⟨c8, iS8, hKn8⟩ := u_known (C := RX8) (T := TX8) (N := 15) (n := 15) hts tbX8 (hts _ is_X8)
  obtain ⟨c9, iS9, hKn9⟩ := u_known (C := RX9) (T := TX9) (N := 2) (n := 2) hts tbX9 (hts _ is_X9)
  obtain ⟨c10, iS10, hKn10⟩ := u_known (C := RX10) (T := TX10) (N := 3) (n := 3) hts tbX10 (hts _ is_X10)
  obtain ⟨c11, iS11, hKn11⟩ := u_known (C := RX11) (T := TX11) (N := 17) (n := 17) hts tbX11 (hts _ is_X11)
  obtain ⟨c12, iS12, hKn12⟩ := u_known (C := RX12) (T := TX12) (N := 51) (n := 51) hts tbX12 (hts _ is_X12)
  obtain ⟨dC, dI, hKc⟩ : ∃ (dC : Nat → ClassId) (dI : Nat → Nat → Nat), ∀ (k : Nat) (q : vw_C), vwCl[k]? = some q → u_Kn s q.1 q.2.1 q.2.2 (dC k) (dI k) := by
    refine ⟨fun k => if k = 0 then c0 else if k = 1 then c1 else if k = 2 then c2 else if k = 3 then c3 else if k = 4 then c4 else if k = 5 then c5 else if k = 6 then c6 else if k = 7 then c7 else if k = 8 then c8 else if k = 9 then c9 else if k = 10 then c10 else if k = 11 then c11 else c12, fun k => if k = 0 then iS0 else if k = 1 then iS1 else if k = 2 then iS2 else if k = 3 then iS3 else if k = 4 then iS4 else if k = 5 then iS5 else if k = 6 then iS6 else if k = 7 then iS7 else if k = 8 then iS8 else if k = 9 then iS9 else if k = 10 then iS10 else if k = 11 then iS11 else iS12, ?_⟩
    intro k q hq
    match k, hq with
    | 0, hq => cases hq; exact hKn0
    | 1, hq => cases hq; exact hKn1
    | 2, hq => cases hq; exact hKn2
    | 3, hq => cases hq; exact hKn3
    | 4, hq => cases hq; exact hKn4
    | 5, hq => cases hq; exact hKn5
    | 6, hq => cases hq; exact hKn6
    | 7, hq => cases hq; exact hKn7
    | 8, hq => cases hq; exact hKn8
    | 9, hq => cases hq; exact hKn9
    | 10, hq => cases hq; exact hKn10
    | 11, hq => cases hq; exact hKn11
    | 12, hq => cases hq; exact hKn12
    | k + 13, hq => simp [vwCl] at hq
  obtain ⟨y0, ya0, yb0⟩ := arr_cls (hts0 (Cond.arrayClass .byte) (lt_1 (List.mem_of_getElem? (i := 152) (by decide +kernel))))
  obtain ⟨y1, ya1, yb1⟩ := arr_cls (hts0 (Cond.arrayClass .int) (lt_1 (List.mem_of_getElem? (i := 57) (by decide +kernel))))
  obtain ⟨y2, ya2, yb2⟩ := arr_cls (hts0 (Cond.arrayClass .long) (lt_1 (List.mem_of_getElem? (i := 151) (by decide +kernel))))
  obtain ⟨y3, ya3, yb3⟩ := arr_cls (hts0 (Cond.arrayClass .boolean) (lt_7 (List.mem_of_getElem? (i := 1) (by decide +kernel))))
  obtain ⟨y4, ya4, yb4⟩ := arr_obj (n := RX3) (hts0 (Cond.arrayOver (.object RX3)) (lt_2 (List.mem_of_getElem? (i := 62) (by decide +kernel))))
  obtain ⟨y5, ya5, yb5⟩ := arr_obj (n := RX8) (hts0 (Cond.arrayOver (.object RX8)) (lt_2 (List.mem_of_getElem? (i := 48) (by decide +kernel))))
  obtain ⟨adK, adV, hstr, hev⟩ := vk_Sof (N := 9) (tm := tmS) (len := slen) (byt := sbyt) (A := fun q : Nat => s.heap.size ≤ q) (by decide) (fun i hi => hg _ (g_ex i hi)) (fun i hi => hg _ (g_co i hi)) (fun i hi => hg _ (g_ar i hi)) (fun i hi => hg _ (g_le i hi)) (fun i hi j hj => hg _ (g_el i hi j hj)) (fun i j hi hj hij => (g_ne i hi j hj hij).imp (fun h => hg _ h) (fun h => hg _ h)) hAn
  obtain ⟨q, q0, q1, q2, q3, q4, q5, qK, qV⟩ : ∃ q : Nat → ClassId, q 0 = y0 ∧ q 1 = y1 ∧ q 2 = y2 ∧ q 3 = y3 ∧ q 4 = y4 ∧ q 5 = y5 ∧ (∀ i, i < 9 → q (100 + i) = adK i) ∧ (∀ i, i < 9 → q (200 + i) = adV i) := by
    refine ⟨fun n => if n = 0 then y0 else if n = 1 then y1 else if n = 2 then y2 else if n = 3 then y3 else if n = 4 then y4 else if n = 5 then y5 else if n < 200 then adK (n - 100) else adV (n - 200), rfl, rfl, rfl, rfl, rfl, rfl, fun i hi => ?_, fun i hi => ?_⟩
    · show (if 100 + i = 0 then y0 else if 100 + i = 1 then y1 else if 100 + i = 2 then y2 else if 100 + i = 3 then y3 else if 100 + i = 4 then y4 else if 100 + i = 5 then y5 else if 100 + i < 200 then adK (100 + i - 100) else adV (100 + i - 200)) = adK i
      rw [if_neg (by omega), if_neg (by omega), if_neg (by omega), if_neg (by omega), if_neg (by omega), if_neg (by omega), if_pos (by omega), show 100 + i - 100 = i by omega]
    · show (if 200 + i = 0 then y0 else if 200 + i = 1 then y1 else if 200 + i = 2 then y2 else if 200 + i = 3 then y3 else if 200 + i = 4 then y4 else if 200 + i = 5 then y5 else if 200 + i < 200 then adK (200 + i - 100) else adV (200 + i - 200)) = adV i
      rw [if_neg (by omega), if_neg (by omega), if_neg (by omega), if_neg (by omega), if_neg (by omega), if_neg (by omega), if_neg (by omega), show 200 + i - 200 = i by omega]
  subst q0 q1 q2 q3 q4 q5
  have hK : va_K (dC, dI) vwCl (tyL q) s := by
    refine ⟨hKc, fun k z hz => ?_⟩
    match k, hz with
    | 0, hz => cases hz; exact ⟨ya0, yb0⟩
    | 1, hz => cases hz; exact ⟨ya1, yb1⟩
    | 2, hz => cases hz; exact ⟨ya2, yb2⟩
    | 3, hz => cases hz; exact ⟨ya3, yb3⟩
    | 4, hz => cases hz; exact ⟨ya4, yb4⟩
    | 5, hz => cases hz; exact ⟨ya5, yb5⟩
    | k + 6, hz => simp [tyL] at hz
  have hN : ∀ w ∈ nestL, va_Nw w s := nest_of hts0
  have hVN : VN s := fun w hw => va_tabs (nse_mem w hw).2 rfl (hts0 w (nse_mem w hw).1)
  have r0 : vk_R RX5 34 "turret person thinks wants vane slit bow round octagon duty sea thrift dogs love war music tea " (q 100) s := vk_R.of (A := #[Value.ref b]) (hts0 (Cond.stringRef RX5 34 "turret person thinks wants vane slit bow round octagon duty sea thrift dogs love war music tea ") (lt_1 (List.mem_of_getElem? (i := 58) (by decide +kernel)))) (by have h := hev 0 (by omega); rw [← qK 0 (by omega)] at h; exact h)
  have r1 : vk_R RX5 40 "climbs lands tells storm wall unwall day " (q 101) s := vk_R.of (A := #[Value.ref b]) (hts0 (Cond.stringRef RX5 40 "climbs lands tells storm wall unwall day ") (lt_1 (List.mem_of_getElem? (i := 112) (by decide +kernel)))) (by have h := hev 1 (by omega); rw [← qK 1 (by omega)] at h; exact h)
  have r2 : vk_R RX5 42 "or and not up mild pleased has on views nerve climbed number " (q 102) s := vk_R.of (A := #[Value.ref b]) (hts0 (Cond.stringRef RX5 42 "or and not up mild pleased has on views nerve climbed number ") (lt_1 (List.mem_of_getElem? (i := 113) (by decide +kernel)))) (by have h := hev 2 (by omega); rw [← qK 2 (by omega)] at h; exact h)
  have r3 : vk_R RX11 330 " on " (q 103) s := vk_R.of (A := #[Value.ref b]) (hts0 (Cond.stringRef RX11 330 " on ") (lt_4 (List.mem_of_getElem? (i := 235) (by decide +kernel)))) (by have h := hev 3 (by omega); rw [← qK 3 (by omega)] at h; exact h)
  have r4 : vk_R RX11 338 " thinks" (q 104) s := vk_R.of (A := #[Value.ref b]) (hts0 (Cond.stringRef RX11 338 " thinks") (lt_5 (List.mem_of_getElem? (i := 2) (by decide +kernel)))) (by have h := hev 4 (by omega); rw [← qK 4 (by omega)] at h; exact h)
  have r5 : vk_R RX11 378 " nothing" (q 105) s := vk_R.of (A := #[Value.ref b]) (hts0 (Cond.stringRef RX11 378 " nothing") (lt_5 (List.mem_of_getElem? (i := 7) (by decide +kernel)))) (by have h := hev 5 (by omega); rw [← qK 5 (by omega)] at h; exact h)
  have r6 : vk_R RX11 380 " " (q 106) s := vk_R.of (A := #[Value.ref b]) (hts0 (Cond.stringRef RX11 380 " ") (lt_5 (List.mem_of_getElem? (i := 8) (by decide +kernel)))) (by have h := hev 6 (by omega); rw [← qK 6 (by omega)] at h; exact h)
  have r7 : vk_R RX11 143 "no such person" (q 107) s := vk_R.of (A := #[Value.ref b]) (hts0 (Cond.stringRef RX11 143 "no such person") (lt_5 (List.mem_of_getElem? (i := 233) (by decide +kernel)))) (by have h := hev 7 (by omega); rw [← qK 7 (by omega)] at h; exact h)
  have r8 : vk_R RX11 170 "no such what" (q 108) s := vk_R.of (A := #[Value.ref b]) (hts0 (Cond.stringRef RX11 170 "no such what") (lt_6 (List.mem_of_getElem? (i := 24) (by decide +kernel)))) (by have h := hev 8 (by omega); rw [← qK 8 (by omega)] at h; exact h)
  have hV : VS q (fun q : Nat => s.heap.size ≤ q) s s.heap := ⟨⟨r0, r1, r2, r3, r4, r5, r6, r7, r8⟩, vk_S_cong hstr qK qV, va_Zof (hts0 (Cond.laysStatic "java/lang/String" "COMPACT_STRINGS" "Z") (lt_1 (List.mem_of_getElem? (i := 72) (by decide +kernel)))) (hts0 (Cond.initialized "java/lang/String") (lt_1 (List.mem_of_getElem? (i := 4) (by decide +kernel)))) (va_eqt (hg _ g_cs)) hAn, va_Zqof (hts0 (Cond.laysStatic "jdk/internal/util/Preconditions" "SIOOBE_FORMATTER" "Ljava/util/function/BiFunction;") (lt_1 (List.mem_of_getElem? (i := 88) (by decide +kernel)))) (hts0 (Cond.initialized "jdk/internal/util/Preconditions") (lt_1 (List.mem_of_getElem? (i := 6) (by decide +kernel)))) (hg _ g_si) hAn⟩
  have hVT : VT (fun q : Nat => s.heap.size ≤ q) s s.heap := ⟨vx_Zqof (hts0 (Cond.laysStatic Bundle.tN "UNASSIGNED_STACK" Bundle.steD) (lt_5 (List.mem_of_getElem? (i := 221) (by decide +kernel)))) (hts0 (Cond.initialized Bundle.tN) (lt_1 (List.mem_of_getElem? (i := 21) (by decide +kernel)))) (hg _ g_us) hAn, vx_Zqof (hts0 (Cond.laysStatic Bundle.tN "SUPPRESSED_SENTINEL" Bundle.listD) (lt_5 (List.mem_of_getElem? (i := 223) (by decide +kernel)))) (hts0 (Cond.initialized Bundle.tN) (lt_1 (List.mem_of_getElem? (i := 21) (by decide +kernel)))) (hg _ g_ss) hAn⟩
  obtain ⟨D, eD⟩ : ∃ D : va_G, D = (dC, dI) := ⟨_, rfl⟩
  rw [← eD] at hK
  have C : cx p s m #[Value.ref b] meth c code 7 ret RL D q (fun q : Nat => s.heap.size ≤ q) := ⟨hx, hb, hr, hml, hown, hts, hlk, hA, hK, hN, hV⟩
  have hS : va_S (fun q : Nat => s.heap.size ≤ q) s.heap s.heap [] := va_S.rf
  have hP : va_P D vwCl [] s.heap := fun k q h => by simp at h
  have hD : va_D (fun q : Nat => s.heap.size ≤ q) [] := ⟨fun i j p q h => by simp at h, fun k q h => by simp at h⟩
  have hl := lv_entry ([.ref b]) (n := 7) (Nat.le_of_ble_eq_true rfl)
  rw [lg_entry_eq]
  generalize (lg_sl ([.ref b]) ++ List.replicate (7 - (lg_sl ([.ref b])).length) Slot.unset).toArray = ls at hl ⊢
  have hl : lv_has ls 7 [(0, .ref b)] := hl
  obtain ⟨R0, hF5, hRW⟩ := lrn_all
  obtain ⟨M0, hF12, hMW, h6, h1, h50⟩ := x12_start
  have hrel := rel_start hRW hMW h6 h1 h50
  refine k_newO (ci := 11) (fs := [.null, .null, .null, .null, .null, .null, .null, .null, .null, .null, .null, .null, .null, .null, .null, .int 0, .int 0]) tyX11 C rfl tbX11 tyX11_ok cl_L_8 is_X11 in_X11 hP hD hS (by intro j hj; match j, hj with | 0, _ => rfl | 1, _ => rfl | 2, _ => rfl | 3, _ => rfl | 4, _ => rfl | 5, _ => rfl | 6, _ => rfl | 7, _ => rfl | 8, _ => rfl | 9, _ => rfl | 10, _ => rfl | 11, _ => rfl | 12, _ => rfl | 13, _ => rfl | 14, _ => rfl | 15, _ => rfl | 16, _ => rfl | n + 17, h9 => exact absurd h9 (by omega)) (by decide) dL_law_0 (fun o H hP hD hS => ?_)
  refine W.widen (k := 1) (n := 17) (by omega) (by omega) ?_
  refine lv_dup hx hb dL_law_3 rfl ?_
  refine k_ctor (W9 := []) (B := fun h => fl [g11 q o (h 0) (h 1 0) Z11, g5 q (h 0 1) (h 2) (h 1 0) R0, g9 q (h 1 0) (h 3) 940 Z0, g8 q (h 0 3) (h 4) Z0, g8 q (h 0 4) (h 5) Z0, g7 q (h 0 5) (h 6) Z0, g7 q (h 0 6) (h 7) Z0, g0 q (h 0 7) (h 8) Z0, g2 q (h 0 8) (h 9) Z0, g20 q (h 9 1) (h 10) (fun i => h (11 + i)) (fun _ => Z0), g21 q (h 0 9) (h 20) Z0, g3 q (h 20 0) (h 21) Z0, g8 q (h 21 1) (h 22) Z0, g7 q (h 21 2) (h 23) Z0, g3 q (h 20 1) (h 24) Z0, g8 q (h 24 1) (h 25) Z0, g7 q (h 24 2) (h 26) Z0, g6 q (h 0 10) (h 27) Z0, g4 q (h 0 11) (h 28) (sF Z0 4 (fun _ => (-1 : Int32))), g10 q (h 0 12) (h 29) Z0, g1 q (h 0 13) (h 30) Z0, g9 q (h 0 14) (h 31) 96 Z0]) (As := []) (rest := [.ref o]) C (c_X11_init l D q o _ hF5) ki_X11_init ml_L_15 rfl rfl (by decide) hP hD hS rfl hl.1 rfl (Nat.le_of_ble_eq_true rfl) dL_law_4 (by decide) (fun h H locs hP hD hS => ?_)
  have hP : va_P D vwCl (fl [g11 q o (h 0) (h 1 0) Z11, g5 q (h 0 1) (h 2) (h 1 0) R0, g9 q (h 1 0) (h 3) 940 Z0, g8 q (h 0 3) (h 4) Z0, g8 q (h 0 4) (h 5) Z0, g7 q (h 0 5) (h 6) Z0, g7 q (h 0 6) (h 7) Z0, g0 q (h 0 7) (h 8) Z0, g2 q (h 0 8) (h 9) Z0, g20 q (h 9 1) (h 10) (fun i => h (11 + i)) (fun _ => Z0), g21 q (h 0 9) (h 20) Z0, g3 q (h 20 0) (h 21) Z0, g8 q (h 21 1) (h 22) Z0, g7 q (h 21 2) (h 23) Z0, g3 q (h 20 1) (h 24) Z0, g8 q (h 24 1) (h 25) Z0, g7 q (h 24 2) (h 26) Z0, g6 q (h 0 10) (h 27) Z0, g4 q (h 0 11) (h 28) (sF Z0 4 (fun _ => (-1 : Int32))), g10 q (h 0 12) (h 29) Z0, g1 q (h 0 13) (h 30) Z0, g9 q (h 0 14) (h 31) 96 Z0]) H := hP
  have hD : va_D (fun q : Nat => s.heap.size ≤ q) (fl [g11 q o (h 0) (h 1 0) Z11, g5 q (h 0 1) (h 2) (h 1 0) R0, g9 q (h 1 0) (h 3) 940 Z0, g8 q (h 0 3) (h 4) Z0, g8 q (h 0 4) (h 5) Z0, g7 q (h 0 5) (h 6) Z0, g7 q (h 0 6) (h 7) Z0, g0 q (h 0 7) (h 8) Z0, g2 q (h 0 8) (h 9) Z0, g20 q (h 9 1) (h 10) (fun i => h (11 + i)) (fun _ => Z0), g21 q (h 0 9) (h 20) Z0, g3 q (h 20 0) (h 21) Z0, g8 q (h 21 1) (h 22) Z0, g7 q (h 21 2) (h 23) Z0, g3 q (h 20 1) (h 24) Z0, g8 q (h 24 1) (h 25) Z0, g7 q (h 24 2) (h 26) Z0, g6 q (h 0 10) (h 27) Z0, g4 q (h 0 11) (h 28) (sF Z0 4 (fun _ => (-1 : Int32))), g10 q (h 0 12) (h 29) Z0, g1 q (h 0 13) (h 30) Z0, g9 q (h 0 14) (h 31) 96 Z0]) := hD
  refine W.widen (k := 200) (n := 8000) (by omega) (by omega) ?_
  refine lv_astore_n (lv' := [(1, .ref o), (0, .ref b)]) hx hb dL_law_7 rfl hl (by decide) rfl (fun ls hl => ?_)
  refine k_newO (ci := 12) (fs := [.int 0, .null, .int 0, .int 0, .int 0, .int 0, .null, .null, .null, .null, .null, .int 0, .int 0, .int 0, .int 0, .int 0, .int 0, .long 0, .int 0, .int 0, .null, .null, .int 0, .null, .null, .int 0, .null, .int 0, .int 0, .int 0, .null, .null, .int 0, .null, .int 0, .null, .int 0, .int 0, .int 0, .null, .int 0, .null, .int 0, .int 0, .int 0, .int 0, .int 0, .null, .null, .null, .null]) tyX12 C rfl tbX12 tyX12_ok cl_L_16 is_X12 in_X12 hP hD hS (by intro j hj; match j, hj with | 0, _ => rfl | 1, _ => rfl | 2, _ => rfl | 3, _ => rfl | 4, _ => rfl | 5, _ => rfl | 6, _ => rfl | 7, _ => rfl | 8, _ => rfl | 9, _ => rfl | 10, _ => rfl | 11, _ => rfl | 12, _ => rfl | 13, _ => rfl | 14, _ => rfl | 15, _ => rfl | 16, _ => rfl | 17, _ => rfl | 18, _ => rfl | 19, _ => rfl | 20, _ => rfl | 21, _ => rfl | 22, _ => rfl | 23, _ => rfl | 24, _ => rfl | 25, _ => rfl | 26, _ => rfl | 27, _ => rfl | 28, _ => rfl | 29, _ => rfl | 30, _ => rfl | 31, _ => rfl | 32, _ => rfl | 33, _ => rfl | 34, _ => rfl | 35, _ => rfl | 36, _ => rfl | 37, _ => rfl | 38, _ => rfl | 39, _ => rfl | 40, _ => rfl | 41, _ => rfl | 42, _ => rfl | 43, _ => rfl | 44, _ => rfl | 45, _ => rfl | 46, _ => rfl | 47, _ => rfl | 48, _ => rfl | 49, _ => rfl | 50, _ => rfl | n + 51, h9 => exact absurd h9 (by omega)) (by decide) dL_law_8 (fun om H hP hD hS => ?_)
  refine W.widen (k := 201) (n := 8051) (by omega) (by omega) ?_
  refine lv_dup hx hb dL_law_11 rfl ?_
  refine k_ctor (W9 := fl [g11 q o (h 0) (h 1 0) Z11, g5 q (h 0 1) (h 2) (h 1 0) R0, g9 q (h 1 0) (h 3) 940 Z0, g8 q (h 0 3) (h 4) Z0, g8 q (h 0 4) (h 5) Z0, g7 q (h 0 5) (h 6) Z0, g7 q (h 0 6) (h 7) Z0, g0 q (h 0 7) (h 8) Z0, g2 q (h 0 8) (h 9) Z0, g20 q (h 9 1) (h 10) (fun i => h (11 + i)) (fun _ => Z0), g21 q (h 0 9) (h 20) Z0, g3 q (h 20 0) (h 21) Z0, g8 q (h 21 1) (h 22) Z0, g7 q (h 21 2) (h 23) Z0, g3 q (h 20 1) (h 24) Z0, g8 q (h 24 1) (h 25) Z0, g7 q (h 24 2) (h 26) Z0, g6 q (h 0 10) (h 27) Z0, g4 q (h 0 11) (h 28) (sF Z0 4 (fun _ => (-1 : Int32))), g10 q (h 0 12) (h 29) Z0, g1 q (h 0 13) (h 30) Z0, g9 q (h 0 14) (h 31) 96 Z0]) (B := fun h => fl [g12 q om (h 0) M0]) (As := []) (rest := [.ref om]) C (c_X12_init l D q om _ hF12) ki_X12_init ml_L_18 rfl rfl (by decide) hP hD hS rfl hl.1 rfl (Nat.le_of_ble_eq_true rfl) dL_law_12 (by decide) (fun hm2 H locs hP hD hS => ?_)
  obtain ⟨hm, ehm⟩ : ∃ hm : Nat → Nat, hm = hm2 0 := ⟨_, rfl⟩
  have hP := fl_apP (a := [g11 q o (h 0) (h 1 0) Z11, g5 q (h 0 1) (h 2) (h 1 0) R0, g9 q (h 1 0) (h 3) 940 Z0, g8 q (h 0 3) (h 4) Z0, g8 q (h 0 4) (h 5) Z0, g7 q (h 0 5) (h 6) Z0, g7 q (h 0 6) (h 7) Z0, g0 q (h 0 7) (h 8) Z0, g2 q (h 0 8) (h 9) Z0, g20 q (h 9 1) (h 10) (fun i => h (11 + i)) (fun _ => Z0), g21 q (h 0 9) (h 20) Z0, g3 q (h 20 0) (h 21) Z0, g8 q (h 21 1) (h 22) Z0, g7 q (h 21 2) (h 23) Z0, g3 q (h 20 1) (h 24) Z0, g8 q (h 24 1) (h 25) Z0, g7 q (h 24 2) (h 26) Z0, g6 q (h 0 10) (h 27) Z0, g4 q (h 0 11) (h 28) (sF Z0 4 (fun _ => (-1 : Int32))), g10 q (h 0 12) (h 29) Z0, g1 q (h 0 13) (h 30) Z0, g9 q (h 0 14) (h 31) 96 Z0]) (b := [g12 q om (hm2 0) M0]) hP
  have hD := fl_apD (a := [g11 q o (h 0) (h 1 0) Z11, g5 q (h 0 1) (h 2) (h 1 0) R0, g9 q (h 1 0) (h 3) 940 Z0, g8 q (h 0 3) (h 4) Z0, g8 q (h 0 4) (h 5) Z0, g7 q (h 0 5) (h 6) Z0, g7 q (h 0 6) (h 7) Z0, g0 q (h 0 7) (h 8) Z0, g2 q (h 0 8) (h 9) Z0, g20 q (h 9 1) (h 10) (fun i => h (11 + i)) (fun _ => Z0), g21 q (h 0 9) (h 20) Z0, g3 q (h 20 0) (h 21) Z0, g8 q (h 21 1) (h 22) Z0, g7 q (h 21 2) (h 23) Z0, g3 q (h 20 1) (h 24) Z0, g8 q (h 24 1) (h 25) Z0, g7 q (h 24 2) (h 26) Z0, g6 q (h 0 10) (h 27) Z0, g4 q (h 0 11) (h 28) (sF Z0 4 (fun _ => (-1 : Int32))), g10 q (h 0 12) (h 29) Z0, g1 q (h 0 13) (h 30) Z0, g9 q (h 0 14) (h 31) 96 Z0]) (b := [g12 q om (hm2 0) M0]) hD
  rw [← ehm] at hP hD
  refine W.widen (k := 250) (n := 12500) (by omega) (by omega) ?_
  refine lv_astore_n (lv' := [(2, .ref om), (1, .ref o), (0, .ref b)]) hx hb dL_law_15 rfl hl (by decide) rfl (fun ls hl => ?_)
  refine lv_iconst (v := (1 : Int32)) hx hb dL_law_16 (by decide) ?_
  refine k_newJ 1 C arJ hP hD hS ⟨by decide, by decide⟩ (by decide) (by decide) dL_law_17 (fun oo H hP hD hS => ?_)
  have hP := fl_ap1P hP
  have hD := fl_ap1D hD
  have hP : va_P D vwCl (fl (GW q o om oo h hm Z11 R0 Z0 Z0 Z0 Z0 Z0 Z0 Z0 ((fun _ => Z0)) Z0 Z0 Z0 Z0 Z0 Z0 Z0 Z0 ((sF Z0 4 (fun _ => (-1 : Int32)))) Z0 Z0 Z0 M0 (fun _ => 0))) H := hP
  have hD : va_D (fun q : Nat => s.heap.size ≤ q) (fl (GW q o om oo h hm Z11 R0 Z0 Z0 Z0 Z0 Z0 Z0 Z0 ((fun _ => Z0)) Z0 Z0 Z0 Z0 Z0 Z0 Z0 Z0 ((sF Z0 4 (fun _ => (-1 : Int32)))) Z0 Z0 Z0 M0 (fun _ => 0))) := hD
  refine W.widen (k := 300 + 0) (n := 13000 + 6 * 0) (by omega) (by omega) ?_
  refine lv_astore_n (lv' := [(3, .ref oo), (2, .ref om), (1, .ref o), (0, .ref b)]) hx hb dL_law_19 rfl hl (by decide) rfl (fun ls hl => ?_)
  refine lv_iconst (v := nI 0) hx hb dL_law_20 (by decide) ?_
  refine lv_istore (lv' := [(4, .int (nI 0)), (3, .ref oo), (2, .ref om), (1, .ref o), (0, .ref b)]) hx hb dL_law_21 hl (by decide) rfl (fun ls hl => ?_)
  refine lw_loop hst hVT hVN C hX hbl hbA hL (fun H locs ls i hi hS => ?_) (L + 1) 0 (by omega) (by omega) Z11 R0 Z0 Z0 Z0 Z0 Z0 Z0 Z0 (fun _ => Z0) Z0 Z0 Z0 Z0 Z0 Z0 Z0 Z0 (sF Z0 4 (fun _ => (-1 : Int32))) Z0 Z0 Z0 M0 (fun _ => 0) (fun _ => 0) hrel H locs ls hP hD hS (lv_sub hl [4, 3, 2, 1, 0] rfl)
  refine lv_iconst (v := (1 : Int32)) hx hb dL_law_1313 (by decide) ?_
  refine W.widen (k := 601024) (n := 7293034) (by omega) (by omega) ?_
  refine va_forget (fun z hz => hS.2.2 z hz) ?_
  exact lw_ret hx hb hr hlk dL_law_1314
set_option maxHeartbeats 4000000 in
theorem lw_walk (l : Launch) (hflags : l.flags = flags0) (b : Addr) (xs : List Int32) : MetFree l x (headSpec (Jvm.Cond.code x code maxLocals ret :: tables_1) room_1) (lw_P b xs) (fun _ _ _ _ _ => True) lw_Q := by
  refine MetFree.of_bodyS (code := code) (maxLocals := maxLocals) (ret := ret) (by decide) ?_ ?_
  · intro args s m h hn
    obtain ⟨meth, c, h1, h2, h3, h4, h5, h6, -, -⟩ := Cond.code_spec hn (atoms_spec (ws := Jvm.Cond.code x code maxLocals ret :: tables_1) h _ List.mem_cons_self)
    exact ⟨meth, c, h1, h2, h3, h4, h5, h6⟩
  · intro p e s m args below meth c s₁ B hml0 hP _
    obtain ⟨rfl, hx, hbd, hgv⟩ := hP
    obtain ⟨scr, harrAt, hlist, hof, hsmall⟩ := hx
    obtain ⟨hcb, hkn, -, -⟩ := State.arrayAt?_spec harrAt
    have hown : s.vm.findClass R_law = some m.cls := findClass_of_methodNamed B.named
    have hts0 : ∀ c ∈ (Jvm.Cond.code x code maxLocals ret :: tables_1), c.before #[Value.ref b] s = true := atoms_spec (ws := Jvm.Cond.code x code maxLocals ret :: tables_1) B.pre
    have hts : ∀ w ∈ lw_tbl, w.before #[Value.ref b] s = true := k2_hts_sels lw_privs (fun w hw => hts0 w (List.mem_cons_of_mem _ hw)) lw_privs_ok
    have hml : c.maxLocals = 7 := B.maxLocals_eq (hts0 _ List.mem_cons_self)
    have X₀ : Stand p l e room_1 s m #[Value.ref b] below meth c s₁ [] 0 0 := Stand.of_body B
    have hh0 : s₁.heap = s.heap := by rw [B.state]; rfl
    have hsz : scr.slots.size = xs.length := by rw [← Array.length_toList, hlist, List.length_map]
    have hval : ∀ j : Nat, j < xs.length → scr.slots[j]? = some (.int (xs.getD j 0)) := fun j hj => by
      rw [← Array.getElem?_toList, hlist]
      simp [hj]
    have hbl : b < s.heap.size := (Array.getElem?_eq_some_iff.mp hcb).1
    have hX : va_X b xs.length (fun j => xs.getD j 0) s s.heap := ⟨scr, hcb, hof, hkn, hsz, hval⟩
    have K : W p l e room_1 s m #[Value.ref b] below meth c s₁.heap [] 0 0 (lw_Z below #[Value.ref b] s) (entryFrame m ([Value.ref b] : List Value).toArray 7) := by
      rw [hh0]
      exact whole_start l hflags hbd ⟨B.exec, B.bytes, B.returns, hml, hown, hts, hX, hbl, B.notSynchronized, hgv⟩
    obtain ⟨t, a1, o, b1, b2, b3⟩ := K s₁ rfl X₀
    exact ⟨t, o, a1, b1, b2, b3⟩
theorem lw_pre_spec {args : Array Value} {s : State} (h : (Jvm.Cond.and given_1 narrow_1).before args s = true) (hr : rest_1_c.before args s = true) : ∃ (b : Addr) (xs : List Int32), lw_P b xs args s := by
  have hs := flat_of_before _ h
  have hq := flat_of_before _ hr
  have hc : (Cond.count 1).before args s = true := hs _ (by decide +kernel)
  have harr : (Cond.arrayOf (.arg 0) .int).before args s = true := hs _ (by decide +kernel)
  have hle : (Cond.le (.length (.arg 0)) (.int 3072)).before args s = true := hs _ (by decide +kernel)
  have hlen : (Cond.isInt (.length (.arg 0))).before args s = true := hq _ (by decide +kernel)
  have hall : (Cond.all (.arg 0) (.isInt (.elem (.arg 0) (.index 0)))).before args s = true := hq _ (by decide +kernel)
  obtain ⟨b, xs, hb, hx⟩ := State.ints_of_pre rfl harr hlen hall
  have hsm : xs.length < 2 ^ 31 := hx.choose_spec.2.2.2
  have hev : (Term.length (.arg 0)).eval args s none [] s = some (.int xs.length.toInt32) := hx.length_eval hb
  have hv := Cond.le_ints hev (show (Term.int 3072).eval args s none [] s = some (.int 3072) from rfl)
  have hd : xs.length.toInt32 ≤ 3072 := by
    simpa [Cond.before, Cond.holds, hv] using hle
  have hN : xs.length ≤ 3072 := (Int32.ofNat_le_ofNat hsm (by decide)).mp (show Int32.ofNat xs.length ≤ Int32.ofNat 3072 from hd)
  exact ⟨b, xs, Cond.one_arg hc (show args[0]? = some (.ref b) from hb), hx, hN, h⟩
theorem lw_comes (l : Launch) (hflags : l.flags = flags0) : Comes l x (Jvm.Cond.code x code maxLocals ret :: tables_1) room_1 (fun tb e args s => Calls_1 tb e args s ∧ rest_1 tb e args s ∧ Pre_1 tb e args s)
    (fun _ _ args s o t => lw_Q args s o t) := by
  intro p e ha hc hk s m args below hf hfit hheap happ hpre
  obtain ⟨b, xs, hP⟩ := lw_pre_spec hpre.2.2 hpre.2.1
  obtain ⟨k, o, h1, h2, h3, hQ⟩ := lw_walk l hflags b xs p e ha hc hk s m args below hf ((Spec.applies_iff_loose hf).mp happ).1 hP trivial
  exact ⟨k, o, h1, h2, h3, hQ⟩
theorem lw_frame {s t : State} {o : Outcome} {args : Array Value} (h : Framed s o t [] 601024 7293034) :
    Framed s o t (fieldLocs frame_1_writes args s ++ arrayLocs frame_1_arrays args s ++ staticLocs frame_1_statics s) 601024 7293034 := h
theorem lw_limb (L : Cond) (hL : ∀ (args : Array Value) (s t : State), L.after args s (.returned (some (.int 1))) t = true) :
    ArmFor flags0 classFile x code maxLocals ret World_1 tables_1 room_1 Calls_1 rest_1 Pre_1
      (fun tb e a s o t => postC L tb e a s o t ∧ Framed s o t (fieldLocs frame_1_writes a s ++ arrayLocs frame_1_arrays a s ++ staticLocs frame_1_statics s) 601024 7293034) := by
  intro l hflags _ _ p e ha hc hk s m args below hf hfit hheap happ hpre
  obtain ⟨k, o, h1, h2, h3, rfl, hF⟩ := lw_comes l hflags p e ha hc hk s m args below hf hfit hheap happ hpre
  exact ⟨k, _, h1, h2, h3, hL args s _, lw_frame hF⟩
theorem i_vc : Claimed_1_1 ∧ Claimed_1_2 := ⟨lw_limb limb_1_1 (fun args s t => by simp [limb_1_1, Cond.after, Cond.holds, Cond.value]), lw_limb limb_1_2 (fun args s t => Cond.after_iff.mpr (by
  first | (rw [show limb_1_2 = Cond.eq .result (.int 1) from rfl, Cond.eq_ints (x := 1) (y := 1) rfl rfl]; simp; done) | (simp [limb_1_2, Cond.value, Term.eval]; done)))⟩
