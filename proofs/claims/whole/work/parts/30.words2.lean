theorem ml_X8_47 : Cond.methodLink RX8 47 arraycopyName ∈ TB := tb_3 (List.mem_of_getElem? (i := 149) (by decide +kernel)) (by decide +kernel)
theorem ml_X4_27 : Cond.methodLink RX4 27 yJ7_fill_53178 ∈ TB := tb_2 (List.mem_of_getElem? (i := 126) (by decide +kernel)) (by decide +kernel)
theorem cd_J7_fill_53178 : Cond.code yJ7_fill_53178 cJ7_fill_53178 4 none ∈ TB := tb_2 (List.mem_of_getElem? (i := 128) (by decide +kernel)) (by decide +kernel)
theorem in_J7 : Cond.initialized RJ7 ∈ TB := tb_1 (List.mem_of_getElem? (i := 15) (by decide +kernel)) (by decide +kernel)
theorem st_J7_fill_53178 : Cond.static yJ7_fill_53178 ∈ TB := tb_2 (List.mem_of_getElem? (i := 127) (by decide +kernel)) (by decide +kernel)
theorem kc_J7_fill_53178 : cS yJ7_fill_53178 cJ7_fill_53178 4 none 2 := ⟨st_J7_fill_53178, cd_J7_fill_53178, in_J7, ⟨by decide +kernel, by decide +kernel, by decide +kernel⟩⟩
theorem ml_X6_39 : Cond.methodLink RX6 39 yJ7_fill_53178 ∈ TB := tb_4 (List.mem_of_getElem? (i := 115) (by decide +kernel)) (by decide +kernel)
theorem fl_X6_45 : Cond.fieldLink RX6 45 RX8 (TX8 9).2.1 (TX8 9).2.2.1 ∈ TB := tb_1 (List.mem_of_getElem? (i := 185) (by decide +kernel)) (by decide +kernel)
theorem fg_X6_45 : fg RX6 45 8 9 := ⟨RX8, RX8, TX8, 15, rfl, by decide, tbX8, fl_X6_45, fun _ _ h => h⟩
theorem ml_X6_67 : Cond.methodLink RX6 67 arraycopyName ∈ TB := tb_4 (List.mem_of_getElem? (i := 138) (by decide +kernel)) (by decide +kernel)
theorem fl_X6_73 : Cond.fieldLink RX6 73 RX6 (TX6 7).2.1 (TX6 7).2.2.1 ∈ TB := tb_2 (List.mem_of_getElem? (i := 101) (by decide +kernel)) (by decide +kernel)
theorem fg_X6_73 : fg RX6 73 6 7 := ⟨RX6, RX6, TX6, 8, rfl, by decide, tbX6, fl_X6_73, fun _ _ h => h⟩
theorem fp_X6_73 : fp RX6 73 6 7 .int := ⟨RX6, RX6, TX6, 8, tyX6, rfl, by decide, tbX6, fl_X6_73, fun _ _ h => h, tyX6_ok, nmX6, rfl, by decide +kernel⟩
theorem ml_X7_28 : Cond.methodLink RX7 28 arraycopyName ∈ TB := tb_5 (List.mem_of_getElem? (i := 155) (by decide +kernel)) (by decide +kernel)
theorem fl_X7_76 : Cond.fieldLink RX7 76 RX5 (TX5 8).2.1 (TX5 8).2.2.1 ∈ TB := tb_1 (List.mem_of_getElem? (i := 126) (by decide +kernel)) (by decide +kernel)
theorem fg_X7_76 : fg RX7 76 5 8 := ⟨RX5, RX5, TX5, 10, rfl, by decide, tbX5, fl_X7_76, fun _ _ h => h⟩
theorem ml_X7_79 : Cond.methodLink RX7 79 yX5_takeMark ∈ TB := tb_5 (List.mem_of_getElem? (i := 132) (by decide +kernel)) (by decide +kernel)
theorem ml_X7_54 : Cond.methodLink RX7 54 yX5_takeWord ∈ TB := tb_5 (List.mem_of_getElem? (i := 134) (by decide +kernel)) (by decide +kernel)
theorem cd_X7_readPlain : Cond.code yX7_readPlain cX7_readPlain 6 none ∈ TB := tb_5 (List.mem_of_getElem? (i := 142) (by decide +kernel)) (by decide +kernel)
theorem im_X7_readPlain : Cond.instanceMethod yX7_readPlain ∈ TB := tb_5 (List.mem_of_getElem? (i := 141) (by decide +kernel)) (by decide +kernel)
theorem se_X7_readPlain : Cond.selects RX7 yX7_readPlain yX7_readPlain ∈ TB := tb_0 (y := yX7_readPlain) (n := 5) (List.mem_of_getElem? (i := 32) (by decide +kernel)) (by decide +kernel)
theorem kc_X7_readPlain : cV RX7 yX7_readPlain cX7_readPlain 6 none 2 := ⟨im_X7_readPlain, se_X7_readPlain, cd_X7_readPlain, in_X7, ⟨by decide +kernel, by decide +kernel, by decide +kernel⟩⟩
theorem ml_X7_86 : Cond.methodLink RX7 86 yX7_readPlain ∈ TB := tb_5 (List.mem_of_getElem? (i := 139) (by decide +kernel)) (by decide +kernel)
theorem cd_X7_readOne : Cond.code yX7_readOne cX7_readOne 4 none ∈ TB := tb_5 (List.mem_of_getElem? (i := 128) (by decide +kernel)) (by decide +kernel)
theorem im_X7_readOne : Cond.instanceMethod yX7_readOne ∈ TB := tb_5 (List.mem_of_getElem? (i := 127) (by decide +kernel)) (by decide +kernel)
theorem se_X7_readOne : Cond.selects RX7 yX7_readOne yX7_readOne ∈ TB := tb_0 (y := yX7_readOne) (n := 5) (List.mem_of_getElem? (i := 30) (by decide +kernel)) (by decide +kernel)
theorem kc_X7_readOne : cV RX7 yX7_readOne cX7_readOne 4 none 3 := ⟨im_X7_readOne, se_X7_readOne, cd_X7_readOne, in_X7, ⟨by decide +kernel, by decide +kernel, by decide +kernel⟩⟩
theorem ml_X7_62 : Cond.methodLink RX7 62 yX7_readOne ∈ TB := tb_5 (List.mem_of_getElem? (i := 125) (by decide +kernel)) (by decide +kernel)
theorem cd_X7_readCond : Cond.code yX7_readCond cX7_readCond 5 none ∈ TB := tb_5 (List.mem_of_getElem? (i := 120) (by decide +kernel)) (by decide +kernel)
theorem im_X7_readCond : Cond.instanceMethod yX7_readCond ∈ TB := tb_5 (List.mem_of_getElem? (i := 119) (by decide +kernel)) (by decide +kernel)
theorem se_X7_readCond : Cond.selects RX7 yX7_readCond yX7_readCond ∈ TB := tb_0 (y := yX7_readCond) (n := 5) (List.mem_of_getElem? (i := 28) (by decide +kernel)) (by decide +kernel)
theorem kc_X7_readCond : cV RX7 yX7_readCond cX7_readCond 5 none 3 := ⟨im_X7_readCond, se_X7_readCond, cd_X7_readCond, in_X7, ⟨by decide +kernel, by decide +kernel, by decide +kernel⟩⟩
theorem ml_X7_43 : Cond.methodLink RX7 43 yX7_readCond ∈ TB := tb_5 (List.mem_of_getElem? (i := 117) (by decide +kernel)) (by decide +kernel)
theorem ml_X7_82 : Cond.methodLink RX7 82 yX5_needMark ∈ TB := tb_5 (List.mem_of_getElem? (i := 133) (by decide +kernel)) (by decide +kernel)
theorem ml_X7_73 : Cond.methodLink RX7 73 yX5_fail ∈ TB := tb_5 (List.mem_of_getElem? (i := 131) (by decide +kernel)) (by decide +kernel)
theorem ml_X7_65 : Cond.methodLink RX7 65 yX5_isMark ∈ TB := tb_5 (List.mem_of_getElem? (i := 129) (by decide +kernel)) (by decide +kernel)
theorem ml_X7_69 : Cond.methodLink RX7 69 yX5_isWordFrom ∈ TB := tb_5 (List.mem_of_getElem? (i := 130) (by decide +kernel)) (by decide +kernel)
theorem cd_X7_readAll : Cond.code yX7_readAll cX7_readAll 5 none ∈ TB := tb_5 (List.mem_of_getElem? (i := 124) (by decide +kernel)) (by decide +kernel)
theorem im_X7_readAll : Cond.instanceMethod yX7_readAll ∈ TB := tb_5 (List.mem_of_getElem? (i := 123) (by decide +kernel)) (by decide +kernel)
theorem se_X7_readAll : Cond.selects RX7 yX7_readAll yX7_readAll ∈ TB := tb_0 (y := yX7_readAll) (n := 5) (List.mem_of_getElem? (i := 29) (by decide +kernel)) (by decide +kernel)
theorem kc_X7_readAll : cV RX7 yX7_readAll cX7_readAll 5 none 3 := ⟨im_X7_readAll, se_X7_readAll, cd_X7_readAll, in_X7, ⟨by decide +kernel, by decide +kernel, by decide +kernel⟩⟩
theorem ml_X7_51 : Cond.methodLink RX7 51 yX7_readAll ∈ TB := tb_5 (List.mem_of_getElem? (i := 121) (by decide +kernel)) (by decide +kernel)
theorem ml_X10_30 : Cond.methodLink RX10 30 arraycopyName ∈ TB := tb_4 (List.mem_of_getElem? (i := 207) (by decide +kernel)) (by decide +kernel)
theorem fl_X11_30 : Cond.fieldLink RX11 30 RX11 (TX11 3).2.1 (TX11 3).2.2.1 ∈ TB := tb_2 (List.mem_of_getElem? (i := 179) (by decide +kernel)) (by decide +kernel)
theorem fg_X11_30 : fg RX11 30 11 3 := ⟨RX11, RX11, TX11, 17, rfl, by decide, tbX11, fl_X11_30, fun _ _ h => h⟩
theorem cd_X8_readFrom : Cond.code yX8_readFrom cX8_readFrom 3 (some .int) ∈ TB := tb_3 (List.mem_of_getElem? (i := 11) (by decide +kernel)) (by decide +kernel)
theorem im_X8_readFrom : Cond.instanceMethod yX8_readFrom ∈ TB := tb_3 (List.mem_of_getElem? (i := 9) (by decide +kernel)) (by decide +kernel)
theorem se_X8_readFrom : Cond.selects RX8 yX8_readFrom yX8_readFrom ∈ TB := tb_3 (List.mem_of_getElem? (i := 10) (by decide +kernel)) (by decide +kernel)
theorem kc_X8_readFrom : cV RX8 yX8_readFrom cX8_readFrom 3 (some .int) 1 := ⟨im_X8_readFrom, se_X8_readFrom, cd_X8_readFrom, in_X8, ⟨by decide +kernel, by decide +kernel, by decide +kernel⟩⟩
theorem ml_X11_117 : Cond.methodLink RX11 117 yX8_readFrom ∈ TB := tb_3 (List.mem_of_getElem? (i := 8) (by decide +kernel)) (by decide +kernel)
theorem cd_X11_closeText : Cond.code yX11_closeText cX11_closeText 1 none ∈ TB := tb_3 (List.mem_of_getElem? (i := 144) (by decide +kernel)) (by decide +kernel)
theorem im_X11_closeText : Cond.instanceMethod yX11_closeText ∈ TB := tb_3 (List.mem_of_getElem? (i := 143) (by decide +kernel)) (by decide +kernel)
theorem se_X11_closeText : Cond.selects RX11 yX11_closeText yX11_closeText ∈ TB := tb_0 (y := yX11_closeText) (n := 17) (List.mem_of_getElem? (i := 9) (by decide +kernel)) (by decide +kernel)
theorem kc_X11_closeText : cV RX11 yX11_closeText cX11_closeText 1 none 0 := ⟨im_X11_closeText, se_X11_closeText, cd_X11_closeText, in_X11, ⟨by decide +kernel, by decide +kernel, by decide +kernel⟩⟩
theorem ml_X11_121 : Cond.methodLink RX11 121 yX11_closeText ∈ TB := tb_3 (List.mem_of_getElem? (i := 141) (by decide +kernel)) (by decide +kernel)
theorem cd_X8_copyFrom : Cond.code yX8_copyFrom cX8_copyFrom 2 none ∈ TB := tb_3 (List.mem_of_getElem? (i := 148) (by decide +kernel)) (by decide +kernel)
theorem im_X8_copyFrom : Cond.instanceMethod yX8_copyFrom ∈ TB := tb_3 (List.mem_of_getElem? (i := 146) (by decide +kernel)) (by decide +kernel)
theorem se_X8_copyFrom : Cond.selects RX8 yX8_copyFrom yX8_copyFrom ∈ TB := tb_3 (List.mem_of_getElem? (i := 147) (by decide +kernel)) (by decide +kernel)
theorem kc_X8_copyFrom : cV RX8 yX8_copyFrom cX8_copyFrom 2 none 1 := ⟨im_X8_copyFrom, se_X8_copyFrom, cd_X8_copyFrom, in_X8, ⟨by decide +kernel, by decide +kernel, by decide +kernel⟩⟩
theorem ml_X11_127 : Cond.methodLink RX11 127 yX8_copyFrom ∈ TB := tb_3 (List.mem_of_getElem? (i := 145) (by decide +kernel)) (by decide +kernel)
theorem cd_X7_empty : Cond.code yX7_empty cX7_empty 1 none ∈ TB := tb_3 (List.mem_of_getElem? (i := 155) (by decide +kernel)) (by decide +kernel)
theorem im_X7_empty : Cond.instanceMethod yX7_empty ∈ TB := tb_3 (List.mem_of_getElem? (i := 153) (by decide +kernel)) (by decide +kernel)
theorem se_X7_empty : Cond.selects RX7 yX7_empty yX7_empty ∈ TB := tb_3 (List.mem_of_getElem? (i := 154) (by decide +kernel)) (by decide +kernel)
theorem kc_X7_empty : cV RX7 yX7_empty cX7_empty 1 none 0 := ⟨im_X7_empty, se_X7_empty, cd_X7_empty, in_X7, ⟨by decide +kernel, by decide +kernel, by decide +kernel⟩⟩
theorem ml_X11_131 : Cond.methodLink RX11 131 yX7_empty ∈ TB := tb_3 (List.mem_of_getElem? (i := 152) (by decide +kernel)) (by decide +kernel)
theorem cd_X2_forget : Cond.code yX2_forget cX2_forget 1 none ∈ TB := tb_3 (List.mem_of_getElem? (i := 159) (by decide +kernel)) (by decide +kernel)
theorem im_X2_forget : Cond.instanceMethod yX2_forget ∈ TB := tb_3 (List.mem_of_getElem? (i := 157) (by decide +kernel)) (by decide +kernel)
theorem se_X2_forget : Cond.selects RX2 yX2_forget yX2_forget ∈ TB := tb_3 (List.mem_of_getElem? (i := 158) (by decide +kernel)) (by decide +kernel)
theorem kc_X2_forget : cV RX2 yX2_forget cX2_forget 1 none 0 := ⟨im_X2_forget, se_X2_forget, cd_X2_forget, in_X2, ⟨by decide +kernel, by decide +kernel, by decide +kernel⟩⟩
theorem ml_X11_134 : Cond.methodLink RX11 134 yX2_forget ∈ TB := tb_3 (List.mem_of_getElem? (i := 156) (by decide +kernel)) (by decide +kernel)
theorem fl_X11_124 : Cond.fieldLink RX11 124 RX5 (TX5 9).2.1 (TX5 9).2.2.1 ∈ TB := tb_1 (List.mem_of_getElem? (i := 129) (by decide +kernel)) (by decide +kernel)
theorem fg_X11_124 : fg RX11 124 5 9 := ⟨RX5, RX5, TX5, 10, rfl, by decide, tbX5, fl_X11_124, fun _ _ h => h⟩
theorem cd_X8_hasPerson : Cond.code yX8_hasPerson cX8_hasPerson 2 (some .boolean) ∈ TB := tb_3 (List.mem_of_getElem? (i := 238) (by decide +kernel)) (by decide +kernel)
theorem im_X8_hasPerson : Cond.instanceMethod yX8_hasPerson ∈ TB := tb_3 (List.mem_of_getElem? (i := 236) (by decide +kernel)) (by decide +kernel)
theorem se_X8_hasPerson : Cond.selects RX8 yX8_hasPerson yX8_hasPerson ∈ TB := tb_3 (List.mem_of_getElem? (i := 237) (by decide +kernel)) (by decide +kernel)
theorem kc_X8_hasPerson : cV RX8 yX8_hasPerson cX8_hasPerson 2 (some .boolean) 1 := ⟨im_X8_hasPerson, se_X8_hasPerson, cd_X8_hasPerson, in_X8, ⟨by decide +kernel, by decide +kernel, by decide +kernel⟩⟩
theorem ml_X11_137 : Cond.methodLink RX11 137 yX8_hasPerson ∈ TB := tb_3 (List.mem_of_getElem? (i := 235) (by decide +kernel)) (by decide +kernel)
theorem cd_X6_findSoonest : Cond.code yX6_findSoonest cX6_findSoonest 10 (some .int) ∈ TB := tb_4 (List.mem_of_getElem? (i := 110) (by decide +kernel)) (by decide +kernel)
theorem im_X6_findSoonest : Cond.instanceMethod yX6_findSoonest ∈ TB := tb_4 (List.mem_of_getElem? (i := 108) (by decide +kernel)) (by decide +kernel)
theorem se_X6_findSoonest : Cond.selects RX6 yX6_findSoonest yX6_findSoonest ∈ TB := tb_4 (List.mem_of_getElem? (i := 109) (by decide +kernel)) (by decide +kernel)
theorem kc_X6_findSoonest : cV RX6 yX6_findSoonest cX6_findSoonest 10 (some .int) 2 := ⟨im_X6_findSoonest, se_X6_findSoonest, cd_X6_findSoonest, in_X6, ⟨by decide +kernel, by decide +kernel, by decide +kernel⟩⟩
theorem ml_X11_262 : Cond.methodLink RX11 262 yX6_findSoonest ∈ TB := tb_4 (List.mem_of_getElem? (i := 107) (by decide +kernel)) (by decide +kernel)
theorem cd_X6_countMade : Cond.code yX6_countMade cX6_countMade 8 (some .int) ∈ TB := tb_4 (List.mem_of_getElem? (i := 132) (by decide +kernel)) (by decide +kernel)
theorem im_X6_countMade : Cond.instanceMethod yX6_countMade ∈ TB := tb_4 (List.mem_of_getElem? (i := 130) (by decide +kernel)) (by decide +kernel)
theorem se_X6_countMade : Cond.selects RX6 yX6_countMade yX6_countMade ∈ TB := tb_4 (List.mem_of_getElem? (i := 131) (by decide +kernel)) (by decide +kernel)
theorem kc_X6_countMade : cV RX6 yX6_countMade cX6_countMade 8 (some .int) 3 := ⟨im_X6_countMade, se_X6_countMade, cd_X6_countMade, in_X6, ⟨by decide +kernel, by decide +kernel, by decide +kernel⟩⟩
theorem ml_X11_275 : Cond.methodLink RX11 275 yX6_countMade ∈ TB := tb_4 (List.mem_of_getElem? (i := 129) (by decide +kernel)) (by decide +kernel)
theorem cd_X4_plan : Cond.code yX4_plan cX4_plan 5 (some .int) ∈ TB := tb_4 (List.mem_of_getElem? (i := 173) (by decide +kernel)) (by decide +kernel)
theorem im_X4_plan : Cond.instanceMethod yX4_plan ∈ TB := tb_4 (List.mem_of_getElem? (i := 171) (by decide +kernel)) (by decide +kernel)
theorem se_X4_plan : Cond.selects RX4 yX4_plan yX4_plan ∈ TB := tb_4 (List.mem_of_getElem? (i := 172) (by decide +kernel)) (by decide +kernel)
theorem kc_X4_plan : cV RX4 yX4_plan cX4_plan 5 (some .int) 1 := ⟨im_X4_plan, se_X4_plan, cd_X4_plan, in_X4, ⟨by decide +kernel, by decide +kernel, by decide +kernel⟩⟩
theorem ml_X11_307 : Cond.methodLink RX11 307 yX4_plan ∈ TB := tb_4 (List.mem_of_getElem? (i := 170) (by decide +kernel)) (by decide +kernel)
theorem cd_X10_sit : Cond.code yX10_sit cX10_sit 4 (some .int) ∈ TB := tb_4 (List.mem_of_getElem? (i := 205) (by decide +kernel)) (by decide +kernel)
theorem im_X10_sit : Cond.instanceMethod yX10_sit ∈ TB := tb_4 (List.mem_of_getElem? (i := 203) (by decide +kernel)) (by decide +kernel)
theorem se_X10_sit : Cond.selects RX10 yX10_sit yX10_sit ∈ TB := tb_4 (List.mem_of_getElem? (i := 204) (by decide +kernel)) (by decide +kernel)
theorem kc_X10_sit : cV RX10 yX10_sit cX10_sit 4 (some .int) 1 := ⟨im_X10_sit, se_X10_sit, cd_X10_sit, in_X10, ⟨by decide +kernel, by decide +kernel, by decide +kernel⟩⟩
theorem ml_X11_314 : Cond.methodLink RX11 314 yX10_sit ∈ TB := tb_4 (List.mem_of_getElem? (i := 202) (by decide +kernel)) (by decide +kernel)
theorem fl_X11_88 : Cond.fieldLink RX11 88 RX11 (TX11 12).2.1 (TX11 12).2.2.1 ∈ TB := tb_2 (List.mem_of_getElem? (i := 188) (by decide +kernel)) (by decide +kernel)
theorem fg_X11_88 : fg RX11 88 11 12 := ⟨RX11, RX11, TX11, 17, rfl, by decide, tbX11, fl_X11_88, fun _ _ h => h⟩
theorem cd_X1_drawDays : Cond.code yX1_drawDays cX1_drawDays 6 (some .int) ∈ TB := tb_5 (List.mem_of_getElem? (i := 20) (by decide +kernel)) (by decide +kernel)
theorem im_X1_drawDays : Cond.instanceMethod yX1_drawDays ∈ TB := tb_5 (List.mem_of_getElem? (i := 18) (by decide +kernel)) (by decide +kernel)
theorem se_X1_drawDays : Cond.selects RX1 yX1_drawDays yX1_drawDays ∈ TB := tb_5 (List.mem_of_getElem? (i := 19) (by decide +kernel)) (by decide +kernel)
theorem kc_X1_drawDays : cV RX1 yX1_drawDays cX1_drawDays 6 (some .int) 3 := ⟨im_X1_drawDays, se_X1_drawDays, cd_X1_drawDays, in_X1, ⟨by decide +kernel, by decide +kernel, by decide +kernel⟩⟩
theorem ml_X11_343 : Cond.methodLink RX11 343 yX1_drawDays ∈ TB := tb_5 (List.mem_of_getElem? (i := 17) (by decide +kernel)) (by decide +kernel)
theorem ml_X11_346 : Cond.methodLink RX11 346 yX8_isPleased ∈ TB := tb_5 (List.mem_of_getElem? (i := 45) (by decide +kernel)) (by decide +kernel)
def g99 (q : Nat → ClassId) (o : Nat) (a : Nat → Nat) (n : Nat) (S : St) : va_W := [(o, .inl (q 1, n, .inl (S.2.2.1 0)))]
