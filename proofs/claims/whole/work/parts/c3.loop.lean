/-! the law's loop -/
section LL
theorem lw_cmp {i L : Nat} (hL : L ≤ 3072) (hi : i ≤ 10000) : (nI L - nI 6 < nI i) ↔ L < i + 6 := by
  by_cases h6 : 6 ≤ L
  · rw [pu_sub h6]
    constructor
    · intro h
      by_cases q : L < i + 6
      · exact q
      · exact absurd h (nI_nlt (by omega) (by omega))
    · intro h
      exact nI_lt (by omega) (by omega)
  · refine ⟨fun _ => by omega, fun _ => ?_⟩
    have h0 : nI L - nI 6 < nI 0 := by
      rcases (show L = 0 ∨ L = 1 ∨ L = 2 ∨ L = 3 ∨ L = 4 ∨ L = 5 by omega) with rfl | rfl | rfl | rfl | rfl | rfl <;> decide
    exact Int32.lt_of_lt_of_le h0 (nI_le (Nat.zero_le i) (by omega))
theorem lw_and (x : Int32) : ∃ k, k < 64 ∧ x &&& nI 63 = nI k := by
  obtain ⟨w, hw, rfl⟩ := pu_of x
  refine ⟨w &&& 63, ?_, pu_and _ _⟩
  have : w &&& 63 ≤ 63 := Nat.and_le_right
  omega
theorem lw_big : ∀ k, k < 64 → 40 ≤ k → 39 < (nI k).toInt := by decide
variable {p : Program} {l : Launch} {e : Env} {s : State} {m : MethodId} {args : Array Value} {below : List Frame} {meth : Method} {c : Code} {D : va_G} {q : Nat → ClassId} {A : Nat → Prop} {Q : State → Prop} {b L i o om oo : Nat} {xs : Nat → Int32} {h : Nat → Nat → Nat} {hm : Nat → Nat} {sT sR sP sB sX sN sY sG sH sJR s0 sb0 sn0 s1 sb1 sn1 sW sQ sE sD sL sM : St} {sK : KSt} {fo : Nat → Int64} {V : Vt} {H : Heap} {locs : List Loc} {ls : Array Slot} {cells slots : Nat}

/-- what the loop's head asks -/
def LWH (p : Program) (l : Launch) (e : Env) (s : State) (m : MethodId) (args : Array Value) (below : List Frame) (meth : Method) (c : Code) (D : va_G) (q : Nat → ClassId) (A : Nat → Prop) (Q : State → Prop) (b i o om oo : Nat) (h : Nat → Nat → Nat) (hm : Nat → Nat) : Prop := ∀ (sT sR sP sB sX sN sY sG sH : St) (sK : KSt) (sJR s0 sb0 sn0 s1 sb1 sn1 sW sQ sE sD sL sM : St) (fo : Nat → Int64) (V : Vt), REL sT sR sP sB sN sH sK s0 sb0 sn0 s1 sb1 sn1 sW sQ sE sL sM V → ∀ (H : Heap) (locs : List Loc) (ls : Array Slot), va_P D vwCl (fl (GW q o om oo h hm sT sR sP sB sX sN sY sG sH sK sJR s0 sb0 sn0 s1 sb1 sn1 sW sQ sE sD sL sM fo)) H → va_D A (fl (GW q o om oo h hm sT sR sP sB sX sN sY sG sH sK sJR s0 sb0 sn0 s1 sb1 sn1 sW sQ sE sD sL sM fo)) → va_S A s.heap H locs → lv_has ls 7 [(0, .ref b), (1, .ref o), (2, .ref om), (3, .ref oo), (4, .int (nI i))] → W p l e room_1 s m args below meth c H locs (300 + i) (13000 + 6 * i) Q (F0 m 23 ls [])
set_option maxRecDepth 100000 in
set_option maxHeartbeats 8000000 in
theorem lw_loop (hst : l.stackTraces = false) (hVT : VT A s s.heap) (hVN : VN s) (C : cx p s m args meth c code 7 ret RL D q A) (hX : va_X b L xs s s.heap) (hbl : b < s.heap.size) (hbA : ¬ A b) (hL : L ≤ 3072) (hend : ∀ (H : Heap) (locs : List Loc) (ls : Array Slot) (i : Nat), i ≤ 3078 → va_S A s.heap H locs → W p l e room_1 s m args below meth c H locs (300 + i) (13000 + 6 * i) Q (F0 m 1313 ls [])) : ∀ n i, L < i + n → i ≤ 3078 → LWH p l e s m args below meth c D q A Q b i o om oo h hm := by
  obtain ⟨hx, hb, hr, hml, hown, hts, hlk, hA, hK, hN, hV⟩ := id C
  intro n
  induction n with
  | zero =>
    intro i hn hi sT sR sP sB sX sN sY sG sH sK sJR s0 sb0 sn0 s1 sb1 sn1 sW sQ sE sD sL sM fo V hrel H locs ls hP hD hS hl
    refine lv_iload hx hb dL_law_23 (lv_at hl 4 rfl) ?_
    refine lv_aload_n hx hb dL_law_25 rfl (lv_at hl 0 rfl) ?_
    refine va_slen hx hb hX hbl hbA hS dL_law_26 ?_
    refine lv_bipush (v := nI 6) hx hb dL_law_27 (by decide) ?_
    refine lv_isub hx hb dL_law_29 ?_
    refine lv_icmp_gt (tgt := 1313) hx hb dL_law_30 (by decide) (fun _ => hend H locs ls i hi hS) (fun c1 => absurd ((lw_cmp hL (by omega)).mpr (by omega)) c1)
  | succ n ih =>
    intro i hn hi sT sR sP sB sX sN sY sG sH sK sJR s0 sb0 sn0 s1 sb1 sn1 sW sQ sE sD sL sM fo V hrel H locs ls hP hD hS hl
    refine lv_iload hx hb dL_law_23 (lv_at hl 4 rfl) ?_
    refine lv_aload_n hx hb dL_law_25 rfl (lv_at hl 0 rfl) ?_
    refine va_slen hx hb hX hbl hbA hS dL_law_26 ?_
    refine lv_bipush (v := nI 6) hx hb dL_law_27 (by decide) ?_
    refine lv_isub hx hb dL_law_29 ?_
    refine lv_icmp_gt (tgt := 1313) hx hb dL_law_30 (by decide) (fun _ => hend H locs ls i hi hS) (fun c1 => ?_)
    have hi6 : i + 6 ≤ L := by
      by_cases q6 : i + 6 ≤ L
      · exact q6
      · exact absurd ((lw_cmp hL (by omega)).mpr (by omega)) c1
    have kk : LWK p l e s m args below meth c D q A Q b i o om oo h hm (300 + i + 1) (13000 + 6 * i + 6) := by
      intro sT sR sP sB sX sN sY sG sH sK sJR s0 sb0 sn0 s1 sb1 sn1 sW sQ sE sD sL sM fo V hrel H locs ls hP hD hS hl
      refine lv_iinc (v := nI (i + 6)) (lv' := [(4, .int (nI (i + 6))), (0, .ref b), (1, .ref o), (2, .ref om), (3, .ref oo)]) hx hb dL_law_1307 hl (k := 4) rfl (nI_add i 6) (by decide) rfl (fun ls hl => ?_)
      refine lv_goto (tgt := 23) hx hb dL_law_1310 (by decide) ?_
      refine W.widen (k := 300 + (i + 6)) (n := 13000 + 6 * (i + 6)) (by omega) (by omega) ?_
      exact ih (i + 6) (by omega) (by omega) sT sR sP sB sX sN sY sG sH sK sJR s0 sb0 sn0 s1 sb1 sn1 sW sQ sE sD sL sM fo V hrel H locs ls hP hD hS (lv_sub hl [1, 2, 3, 4, 0] rfl)
    refine lv_aload_n hx hb dL_law_33 rfl (lv_at hl 0 rfl) ?_
    refine lv_iload hx hb dL_law_34 (lv_at hl 4 rfl) ?_
    refine va_sld hx hb hX hbl hbA hS (no_oob (by omega : i < L) (by omega)) dL_law_36 ?_
    refine lv_bipush (v := nI 63) hx hb dL_law_37 (by decide) ?_
    refine lv_iand hx hb dL_law_39 ?_
    obtain ⟨k, hk, ek⟩ := lw_and (xs (nI i).toNatClampNeg)
    rw [ek]
    by_cases h40 : 40 ≤ k
    · refine lv_tableOut (tgt := 1307) hx hb dL_law_40 (Or.inr (lw_big k hk h40)) (by decide) ?_
      refine W.widen (k := 300 + i + 1) (n := 13000 + 6 * i + 6) (by omega) (by omega) ?_
      exact kk sT sR sP sB sX sN sY sG sH sK sJR s0 sb0 sn0 s1 sb1 sn1 sW sQ sE sD sL sM fo V hrel H locs ls hP hD hS hl
    · have h39 : k < 40 := by omega
      clear ek h40 hk
      match k, h39 with
      | 0, _ =>
        refine lv_tableIn (tgt := 216) hx hb dL_law_40 (by decide) (by decide) rfl (by decide) ?_
        exact lw_0 C hX hbl hbA (by omega) hL ⟨by omega, by omega⟩ hrel hP hD hS hl kk
      | 1, _ =>
        refine lv_tableIn (tgt := 289) hx hb dL_law_40 (by decide) (by decide) rfl (by decide) ?_
        exact lw_1 C hX hbl hbA (by omega) hL ⟨by omega, by omega⟩ hrel hP hD hS hl kk
      | 2, _ =>
        refine lv_tableIn (tgt := 314) hx hb dL_law_40 (by decide) (by decide) rfl (by decide) ?_
        exact lw_2 C hX hbl hbA (by omega) hL ⟨by omega, by omega⟩ hrel hP hD hS hl kk
      | 3, _ =>
        refine lv_tableIn (tgt := 327) hx hb dL_law_40 (by decide) (by decide) rfl (by decide) ?_
        exact lw_3 C hX hbl hbA (by omega) hL ⟨by omega, by omega⟩ hrel hP hD hS hl kk
      | 4, _ =>
        refine lv_tableIn (tgt := 340) hx hb dL_law_40 (by decide) (by decide) rfl (by decide) ?_
        exact lw_4 hst hVT hVN C hX hbl hbA (by omega) hL ⟨by omega, by omega⟩ hrel hP hD hS hl kk
      | 5, _ =>
        refine lv_tableIn (tgt := 408) hx hb dL_law_40 (by decide) (by decide) rfl (by decide) ?_
        exact lw_5 C hX hbl hbA (by omega) hL ⟨by omega, by omega⟩ hrel hP hD hS hl kk
      | 6, _ =>
        refine lv_tableIn (tgt := 445) hx hb dL_law_40 (by decide) (by decide) rfl (by decide) ?_
        exact lw_6 C hX hbl hbA (by omega) hL ⟨by omega, by omega⟩ hrel hP hD hS hl kk
      | 7, _ =>
        refine lv_tableIn (tgt := 482) hx hb dL_law_40 (by decide) (by decide) rfl (by decide) ?_
        exact lw_7 C hX hbl hbA (by omega) hL ⟨by omega, by omega⟩ hrel hP hD hS hl kk
      | 8, _ =>
        refine lv_tableIn (tgt := 507) hx hb dL_law_40 (by decide) (by decide) rfl (by decide) ?_
        exact lw_8 C hX hbl hbA (by omega) hL ⟨by omega, by omega⟩ hrel hP hD hS hl kk
      | 9, _ =>
        refine lv_tableIn (tgt := 544) hx hb dL_law_40 (by decide) (by decide) rfl (by decide) ?_
        exact lw_9 C hX hbl hbA (by omega) hL ⟨by omega, by omega⟩ hrel hP hD hS hl kk
      | 10, _ =>
        refine lv_tableIn (tgt := 569) hx hb dL_law_40 (by decide) (by decide) rfl (by decide) ?_
        exact lw_10 C hX hbl hbA (by omega) hL ⟨by omega, by omega⟩ hrel hP hD hS hl kk
      | 11, _ =>
        refine lv_tableIn (tgt := 618) hx hb dL_law_40 (by decide) (by decide) rfl (by decide) ?_
        exact lw_11 C hX hbl hbA (by omega) hL ⟨by omega, by omega⟩ hrel hP hD hS hl kk
      | 12, _ =>
        refine lv_tableIn (tgt := 643) hx hb dL_law_40 (by decide) (by decide) rfl (by decide) ?_
        exact lw_12 C hX hbl hbA (by omega) hL ⟨by omega, by omega⟩ hrel hP hD hS hl kk
      | 13, _ =>
        refine lv_tableIn (tgt := 668) hx hb dL_law_40 (by decide) (by decide) rfl (by decide) ?_
        exact lw_13 C hX hbl hbA (by omega) hL ⟨by omega, by omega⟩ hrel hP hD hS hl kk
      | 14, _ =>
        refine lv_tableIn (tgt := 693) hx hb dL_law_40 (by decide) (by decide) rfl (by decide) ?_
        exact lw_14 C hX hbl hbA (by omega) hL ⟨by omega, by omega⟩ hrel hP hD hS hl kk
      | 15, _ =>
        refine lv_tableIn (tgt := 718) hx hb dL_law_40 (by decide) (by decide) rfl (by decide) ?_
        exact lw_15 C hX hbl hbA (by omega) hL ⟨by omega, by omega⟩ hrel hP hD hS hl kk
      | 16, _ =>
        refine lv_tableIn (tgt := 731) hx hb dL_law_40 (by decide) (by decide) rfl (by decide) ?_
        exact lw_16 C hX hbl hbA (by omega) hL ⟨by omega, by omega⟩ hrel hP hD hS hl kk
      | 17, _ =>
        refine lv_tableIn (tgt := 768) hx hb dL_law_40 (by decide) (by decide) rfl (by decide) ?_
        exact lw_17 C hX hbl hbA (by omega) hL ⟨by omega, by omega⟩ hrel hP hD hS hl kk
      | 18, _ =>
        refine lv_tableIn (tgt := 793) hx hb dL_law_40 (by decide) (by decide) rfl (by decide) ?_
        exact lw_18 C hX hbl hbA (by omega) hL ⟨by omega, by omega⟩ hrel hP hD hS hl kk
      | 19, _ =>
        refine lv_tableIn (tgt := 818) hx hb dL_law_40 (by decide) (by decide) rfl (by decide) ?_
        exact lw_19 C hX hbl hbA (by omega) hL ⟨by omega, by omega⟩ hrel hP hD hS hl kk
      | 20, _ =>
        refine lv_tableIn (tgt := 831) hx hb dL_law_40 (by decide) (by decide) rfl (by decide) ?_
        exact lw_20 C hX hbl hbA (by omega) hL ⟨by omega, by omega⟩ hrel hP hD hS hl kk
      | 21, _ =>
        refine lv_tableIn (tgt := 856) hx hb dL_law_40 (by decide) (by decide) rfl (by decide) ?_
        exact lw_21 C hX hbl hbA (by omega) hL ⟨by omega, by omega⟩ hrel hP hD hS hl kk
      | 22, _ =>
        refine lv_tableIn (tgt := 869) hx hb dL_law_40 (by decide) (by decide) rfl (by decide) ?_
        exact lw_22 C hX hbl hbA (by omega) hL ⟨by omega, by omega⟩ hrel hP hD hS hl kk
      | 23, _ =>
        refine lv_tableIn (tgt := 882) hx hb dL_law_40 (by decide) (by decide) rfl (by decide) ?_
        exact lw_23 C hX hbl hbA (by omega) hL ⟨by omega, by omega⟩ hrel hP hD hS hl kk
      | 24, _ =>
        refine lv_tableIn (tgt := 895) hx hb dL_law_40 (by decide) (by decide) rfl (by decide) ?_
        exact lw_24 C hX hbl hbA (by omega) hL ⟨by omega, by omega⟩ hrel hP hD hS hl kk
      | 25, _ =>
        refine lv_tableIn (tgt := 908) hx hb dL_law_40 (by decide) (by decide) rfl (by decide) ?_
        exact lw_25 C hX hbl hbA (by omega) hL ⟨by omega, by omega⟩ hrel hP hD hS hl kk
      | 26, _ =>
        refine lv_tableIn (tgt := 933) hx hb dL_law_40 (by decide) (by decide) rfl (by decide) ?_
        exact lw_26 C hX hbl hbA (by omega) hL ⟨by omega, by omega⟩ hrel hP hD hS hl kk
      | 27, _ =>
        refine lv_tableIn (tgt := 946) hx hb dL_law_40 (by decide) (by decide) rfl (by decide) ?_
        exact lw_27 C hX hbl hbA (by omega) hL ⟨by omega, by omega⟩ hrel hP hD hS hl kk
      | 28, _ =>
        refine lv_tableIn (tgt := 971) hx hb dL_law_40 (by decide) (by decide) rfl (by decide) ?_
        exact lw_28 C hX hbl hbA (by omega) hL ⟨by omega, by omega⟩ hrel hP hD hS hl kk
      | 29, _ =>
        refine lv_tableIn (tgt := 1008) hx hb dL_law_40 (by decide) (by decide) rfl (by decide) ?_
        exact lw_29 C hX hbl hbA (by omega) hL ⟨by omega, by omega⟩ hrel hP hD hS hl kk
      | 30, _ =>
        refine lv_tableIn (tgt := 1033) hx hb dL_law_40 (by decide) (by decide) rfl (by decide) ?_
        exact lw_30 C hX hbl hbA (by omega) hL ⟨by omega, by omega⟩ hrel hP hD hS hl kk
      | 31, _ =>
        refine lv_tableIn (tgt := 1058) hx hb dL_law_40 (by decide) (by decide) rfl (by decide) ?_
        exact lw_31 C hX hbl hbA (by omega) hL ⟨by omega, by omega⟩ hrel hP hD hS hl kk
      | 32, _ =>
        refine lv_tableIn (tgt := 1095) hx hb dL_law_40 (by decide) (by decide) rfl (by decide) ?_
        exact lw_32 C hX hbl hbA (by omega) hL ⟨by omega, by omega⟩ hrel hP hD hS hl kk
      | 33, _ =>
        refine lv_tableIn (tgt := 1144) hx hb dL_law_40 (by decide) (by decide) rfl (by decide) ?_
        exact lw_33 C hX hbl hbA (by omega) hL ⟨by omega, by omega⟩ hrel hP hD hS hl kk
      | 34, _ =>
        refine lv_tableIn (tgt := 1169) hx hb dL_law_40 (by decide) (by decide) rfl (by decide) ?_
        exact lw_34 C hX hbl hbA (by omega) hL ⟨by omega, by omega⟩ hrel hP hD hS hl kk
      | 35, _ =>
        refine lv_tableIn (tgt := 1194) hx hb dL_law_40 (by decide) (by decide) rfl (by decide) ?_
        exact lw_35 C hX hbl hbA (by omega) hL ⟨by omega, by omega⟩ hrel hP hD hS hl kk
      | 36, _ =>
        refine lv_tableIn (tgt := 1207) hx hb dL_law_40 (by decide) (by decide) rfl (by decide) ?_
        exact lw_36 C hX hbl hbA (by omega) hL ⟨by omega, by omega⟩ hrel hP hD hS hl kk
      | 37, _ =>
        refine lv_tableIn (tgt := 1232) hx hb dL_law_40 (by decide) (by decide) rfl (by decide) ?_
        exact lw_37 C hX hbl hbA (by omega) hL ⟨by omega, by omega⟩ hrel hP hD hS hl kk
      | 38, _ =>
        refine lv_tableIn (tgt := 1257) hx hb dL_law_40 (by decide) (by decide) rfl (by decide) ?_
        exact lw_38 C hX hbl hbA (by omega) hL ⟨by omega, by omega⟩ hrel hP hD hS hl kk
      | 39, _ =>
        refine lv_tableIn (tgt := 1282) hx hb dL_law_40 (by decide) (by decide) rfl (by decide) ?_
        exact lw_39 C hX hbl hbA (by omega) hL ⟨by omega, by omega⟩ hrel hP hD hS hl kk
      | k + 40, h9 => exact absurd h9 (by omega)
end LL
