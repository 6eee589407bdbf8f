theorem fl_X2_11 : Cond.fieldLink RX2 11 RX2 (TX2 0).2.1 (TX2 0).2.2.1 ∈ TB := tb_2 (List.mem_of_getElem? (i := 50) (by decide +kernel)) (by decide +kernel)
theorem fg_X2_11 : fg RX2 11 2 0 := ⟨RX2, RX2, TX2, 3, rfl, by decide, tbX2, fl_X2_11, fun _ _ h => h⟩
theorem ml_X2_25 : Cond.methodLink RX2 25 yX8_copyFrom ∈ TB := tb_4 (List.mem_of_getElem? (i := 3) (by decide +kernel)) (by decide +kernel)
theorem ml_X2_35 : Cond.methodLink RX2 35 Lib.Math.max.name ∈ TB := tb_4 (List.mem_of_getElem? (i := 95) (by decide +kernel)) (by decide +kernel)
theorem cd_X2_open : Cond.code yX2_open cX2_open 2 none ∈ TB := tb_4 (List.mem_of_getElem? (i := 2) (by decide +kernel)) (by decide +kernel)
theorem im_X2_open : Cond.instanceMethod yX2_open ∈ TB := tb_4 (List.mem_of_getElem? (i := 0) (by decide +kernel)) (by decide +kernel)
theorem se_X2_open : Cond.selects RX2 yX2_open yX2_open ∈ TB := tb_4 (List.mem_of_getElem? (i := 1) (by decide +kernel)) (by decide +kernel)
theorem kc_X2_open : cV RX2 yX2_open cX2_open 2 none 1 := ⟨im_X2_open, se_X2_open, cd_X2_open, in_X2, ⟨by decide +kernel, by decide +kernel, by decide +kernel⟩⟩
theorem ml_X11_222 : Cond.methodLink RX11 222 yX2_open ∈ TB := tb_3 (List.mem_of_getElem? (i := 239) (by decide +kernel)) (by decide +kernel)
theorem ml_X11_225 : Cond.methodLink RX11 225 yX8_goUp ∈ TB := tb_4 (List.mem_of_getElem? (i := 4) (by decide +kernel)) (by decide +kernel)
theorem cd_X11_settle : Cond.code yX11_settle cX11_settle 2 (some .int) ∈ TB := tb_4 (List.mem_of_getElem? (i := 20) (by decide +kernel)) (by decide +kernel)
theorem im_X11_settle : Cond.instanceMethod yX11_settle ∈ TB := tb_4 (List.mem_of_getElem? (i := 19) (by decide +kernel)) (by decide +kernel)
theorem se_X11_settle : Cond.selects RX11 yX11_settle yX11_settle ∈ TB := tb_0 (y := yX11_settle) (n := 17) (List.mem_of_getElem? (i := 10) (by decide +kernel)) (by decide +kernel)
theorem kc_X11_settle : cV RX11 yX11_settle cX11_settle 2 (some .int) 1 := ⟨im_X11_settle, se_X11_settle, cd_X11_settle, in_X11, ⟨by decide +kernel, by decide +kernel, by decide +kernel⟩⟩
theorem ml_X11_228 : Cond.methodLink RX11 228 yX11_settle ∈ TB := tb_4 (List.mem_of_getElem? (i := 17) (by decide +kernel)) (by decide +kernel)
theorem ml_X11_231 : Cond.methodLink RX11 231 yX8_comeDown ∈ TB := tb_4 (List.mem_of_getElem? (i := 30) (by decide +kernel)) (by decide +kernel)
theorem ml_X11_234 : Cond.methodLink RX11 234 yX8_passOn ∈ TB := tb_4 (List.mem_of_getElem? (i := 38) (by decide +kernel)) (by decide +kernel)
theorem ml_X11_238 : Cond.methodLink RX11 238 yX8_blow ∈ TB := tb_4 (List.mem_of_getElem? (i := 46) (by decide +kernel)) (by decide +kernel)
theorem ml_X11_241 : Cond.methodLink RX11 241 yX8_close ∈ TB := tb_4 (List.mem_of_getElem? (i := 54) (by decide +kernel)) (by decide +kernel)
theorem ml_X11_244 : Cond.methodLink RX11 244 yX8_open ∈ TB := tb_4 (List.mem_of_getElem? (i := 62) (by decide +kernel)) (by decide +kernel)
theorem ml_X11_246 : Cond.methodLink RX11 246 yX8_passDays ∈ TB := tb_4 (List.mem_of_getElem? (i := 70) (by decide +kernel)) (by decide +kernel)
theorem cd_X11_settleMany : Cond.code yX11_settleMany cX11_settleMany 2 (some .int) ∈ TB := tb_4 (List.mem_of_getElem? (i := 86) (by decide +kernel)) (by decide +kernel)
theorem im_X11_settleMany : Cond.instanceMethod yX11_settleMany ∈ TB := tb_4 (List.mem_of_getElem? (i := 85) (by decide +kernel)) (by decide +kernel)
theorem se_X11_settleMany : Cond.selects RX11 yX11_settleMany yX11_settleMany ∈ TB := tb_0 (y := yX11_settleMany) (n := 17) (List.mem_of_getElem? (i := 11) (by decide +kernel)) (by decide +kernel)
theorem kc_X11_settleMany : cV RX11 yX11_settleMany cX11_settleMany 2 (some .int) 1 := ⟨im_X11_settleMany, se_X11_settleMany, cd_X11_settleMany, in_X11, ⟨by decide +kernel, by decide +kernel, by decide +kernel⟩⟩
theorem ml_X11_249 : Cond.methodLink RX11 249 yX11_settleMany ∈ TB := tb_4 (List.mem_of_getElem? (i := 83) (by decide +kernel)) (by decide +kernel)
theorem fl_X11_252 : Cond.fieldLink RX11 252 RX2 (TX2 2).2.1 (TX2 2).2.2.1 ∈ TB := tb_2 (List.mem_of_getElem? (i := 53) (by decide +kernel)) (by decide +kernel)
theorem fg_X11_252 : fg RX11 252 2 2 := ⟨RX2, RX2, TX2, 3, rfl, by decide, tbX2, fl_X11_252, fun _ _ h => h⟩
theorem cd_X2_stepBack : Cond.code yX2_stepBack cX2_stepBack 1 (some (.object RX8)) ∈ TB := tb_4 (List.mem_of_getElem? (i := 94) (by decide +kernel)) (by decide +kernel)
theorem im_X2_stepBack : Cond.instanceMethod yX2_stepBack ∈ TB := tb_4 (List.mem_of_getElem? (i := 92) (by decide +kernel)) (by decide +kernel)
theorem se_X2_stepBack : Cond.selects RX2 yX2_stepBack yX2_stepBack ∈ TB := tb_4 (List.mem_of_getElem? (i := 93) (by decide +kernel)) (by decide +kernel)
theorem kc_X2_stepBack : cV RX2 yX2_stepBack cX2_stepBack 1 (some (.object RX8)) 0 := ⟨im_X2_stepBack, se_X2_stepBack, cd_X2_stepBack, in_X2, ⟨by decide +kernel, by decide +kernel, by decide +kernel⟩⟩
theorem ml_X11_255 : Cond.methodLink RX11 255 yX2_stepBack ∈ TB := tb_4 (List.mem_of_getElem? (i := 91) (by decide +kernel)) (by decide +kernel)
theorem cd_X0_readFrom : Cond.code yX0_readFrom cX0_readFrom 4 (some .boolean) ∈ TB := tb_5 (List.mem_of_getElem? (i := 53) (by decide +kernel)) (by decide +kernel)
theorem im_X0_readFrom : Cond.instanceMethod yX0_readFrom ∈ TB := tb_5 (List.mem_of_getElem? (i := 51) (by decide +kernel)) (by decide +kernel)
theorem se_X0_readFrom : Cond.selects RX0 yX0_readFrom yX0_readFrom ∈ TB := tb_5 (List.mem_of_getElem? (i := 52) (by decide +kernel)) (by decide +kernel)
theorem kc_X0_readFrom : cV RX0 yX0_readFrom cX0_readFrom 4 (some .boolean) 2 := ⟨im_X0_readFrom, se_X0_readFrom, cd_X0_readFrom, in_X0, ⟨by decide +kernel, by decide +kernel, by decide +kernel⟩⟩
theorem ml_X11_349 : Cond.methodLink RX11 349 yX0_readFrom ∈ TB := tb_5 (List.mem_of_getElem? (i := 50) (by decide +kernel)) (by decide +kernel)
theorem cd_X11_judge : Cond.code yX11_judge cX11_judge 4 (some .int) ∈ TB := tb_5 (List.mem_of_getElem? (i := 84) (by decide +kernel)) (by decide +kernel)
theorem im_X11_judge : Cond.instanceMethod yX11_judge ∈ TB := tb_5 (List.mem_of_getElem? (i := 83) (by decide +kernel)) (by decide +kernel)
theorem se_X11_judge : Cond.selects RX11 yX11_judge yX11_judge ∈ TB := tb_0 (y := yX11_judge) (n := 17) (List.mem_of_getElem? (i := 27) (by decide +kernel)) (by decide +kernel)
theorem kc_X11_judge : cV RX11 yX11_judge cX11_judge 4 (some .int) 1 := ⟨im_X11_judge, se_X11_judge, cd_X11_judge, in_X11, ⟨by decide +kernel, by decide +kernel, by decide +kernel⟩⟩
theorem ml_X11_352 : Cond.methodLink RX11 352 yX11_judge ∈ TB := tb_5 (List.mem_of_getElem? (i := 81) (by decide +kernel)) (by decide +kernel)
theorem fl_X11_59 : Cond.fieldLink RX11 59 RX11 (TX11 8).2.1 (TX11 8).2.2.1 ∈ TB := tb_2 (List.mem_of_getElem? (i := 184) (by decide +kernel)) (by decide +kernel)
theorem fg_X11_59 : fg RX11 59 11 8 := ⟨RX11, RX11, TX11, 17, rfl, by decide, tbX11, fl_X11_59, fun _ _ h => h⟩
theorem fl_X11_366 : Cond.fieldLink RX11 366 RX3 (TX3 0).2.1 (TX3 0).2.2.1 ∈ TB := tb_2 (List.mem_of_getElem? (i := 73) (by decide +kernel)) (by decide +kernel)
theorem fg_X11_366 : fg RX11 366 3 0 := ⟨RX3, RX3, TX3, 3, rfl, by decide, tbX3, fl_X11_366, fun _ _ h => h⟩
theorem fl_X11_367 : Cond.fieldLink RX11 367 RX3 (TX3 1).2.1 (TX3 1).2.2.1 ∈ TB := tb_2 (List.mem_of_getElem? (i := 75) (by decide +kernel)) (by decide +kernel)
theorem fg_X11_367 : fg RX11 367 3 1 := ⟨RX3, RX3, TX3, 3, rfl, by decide, tbX3, fl_X11_367, fun _ _ h => h⟩
theorem fl_X11_368 : Cond.fieldLink RX11 368 RX3 (TX3 2).2.1 (TX3 2).2.2.1 ∈ TB := tb_2 (List.mem_of_getElem? (i := 77) (by decide +kernel)) (by decide +kernel)
theorem fg_X11_368 : fg RX11 368 3 2 := ⟨RX3, RX3, TX3, 3, rfl, by decide, tbX3, fl_X11_368, fun _ _ h => h⟩
theorem fp_X11_368 : fp RX11 368 3 2 .boolean := ⟨RX3, RX3, TX3, 3, tyX3, rfl, by decide, tbX3, fl_X11_368, fun _ _ h => h, tyX3_ok, nmX3, rfl, by decide +kernel⟩
def g21 (q : Nat → ClassId) (o : Nat) (a : Nat → Nat) (S : St) : va_W := [(o, .inl (q 4, 2, .inr (.inr (.inr (.inr (fun i => some (a i)))))))]
theorem gad21 (q : Nat → ClassId) (o : Nat) (a : Nat → Nat) (S : St) : (g21 q o a S).map (fun x => x.1) = [o] := rfl
