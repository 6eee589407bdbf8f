theorem ml_X5_44 : Cond.methodLink RX5 44 yJ0_length_8abf5 ∈ TB := tb_1 (List.mem_of_getElem? (i := 63) (by decide +kernel)) (by decide +kernel)
theorem ml_X5_50 : Cond.methodLink RX5 50 yJ0_charAt_5068e ∈ TB := tb_1 (List.mem_of_getElem? (i := 73) (by decide +kernel)) (by decide +kernel)
theorem ml_X9_23 : Cond.methodLink RX9 23 yJ0_length_8abf5 ∈ TB := tb_5 (List.mem_of_getElem? (i := 0) (by decide +kernel)) (by decide +kernel)
theorem ml_X9_28 : Cond.methodLink RX9 28 yJ0_charAt_5068e ∈ TB := tb_5 (List.mem_of_getElem? (i := 1) (by decide +kernel)) (by decide +kernel)
theorem cd_X9_addText : Cond.code yX9_addText cX9_addText 3 none ∈ TB := tb_4 (List.mem_of_getElem? (i := 239) (by decide +kernel)) (by decide +kernel)
theorem im_X9_addText : Cond.instanceMethod yX9_addText ∈ TB := tb_4 (List.mem_of_getElem? (i := 237) (by decide +kernel)) (by decide +kernel)
theorem se_X9_addText : Cond.selects RX9 yX9_addText yX9_addText ∈ TB := tb_4 (List.mem_of_getElem? (i := 238) (by decide +kernel)) (by decide +kernel)
theorem kc_X9_addText : cV RX9 yX9_addText cX9_addText 3 none 1 := ⟨im_X9_addText, se_X9_addText, cd_X9_addText, in_X9, ⟨by decide +kernel, by decide +kernel, by decide +kernel⟩⟩
theorem ml_X11_332 : Cond.methodLink RX11 332 yX9_addText ∈ TB := tb_4 (List.mem_of_getElem? (i := 236) (by decide +kernel)) (by decide +kernel)
theorem fl_X11_382 : Cond.fieldLink RX11 382 RX5 (TX5 1).2.1 (TX5 1).2.2.1 ∈ TB := tb_1 (List.mem_of_getElem? (i := 117) (by decide +kernel)) (by decide +kernel)
theorem fg_X11_382 : fg RX11 382 5 1 := ⟨RX5, RX5, TX5, 10, rfl, by decide, tbX5, fl_X11_382, fun _ _ h => h⟩
theorem cd_X9_addWord : Cond.code yX9_addWord cX9_addWord 5 none ∈ TB := tb_4 (List.mem_of_getElem? (i := 234) (by decide +kernel)) (by decide +kernel)
theorem im_X9_addWord : Cond.instanceMethod yX9_addWord ∈ TB := tb_4 (List.mem_of_getElem? (i := 232) (by decide +kernel)) (by decide +kernel)
theorem se_X9_addWord : Cond.selects RX9 yX9_addWord yX9_addWord ∈ TB := tb_4 (List.mem_of_getElem? (i := 233) (by decide +kernel)) (by decide +kernel)
theorem kc_X9_addWord : cV RX9 yX9_addWord cX9_addWord 5 none 1 := ⟨im_X9_addWord, se_X9_addWord, cd_X9_addWord, in_X9, ⟨by decide +kernel, by decide +kernel, by decide +kernel⟩⟩
theorem ml_X11_326 : Cond.methodLink RX11 326 yX9_addWord ∈ TB := tb_4 (List.mem_of_getElem? (i := 231) (by decide +kernel)) (by decide +kernel)
theorem fl_X11_148 : Cond.fieldLink RX11 148 RX8 (TX8 9).2.1 (TX8 9).2.2.1 ∈ TB := tb_1 (List.mem_of_getElem? (i := 187) (by decide +kernel)) (by decide +kernel)
theorem fg_X11_148 : fg RX11 148 8 9 := ⟨RX8, RX8, TX8, 15, rfl, by decide, tbX8, fl_X11_148, fun _ _ h => h⟩
theorem cd_X11_addViews : Cond.code yX11_addViews cX11_addViews 3 none ∈ TB := tb_5 (List.mem_of_getElem? (i := 6) (by decide +kernel)) (by decide +kernel)
theorem im_X11_addViews : Cond.instanceMethod yX11_addViews ∈ TB := tb_5 (List.mem_of_getElem? (i := 5) (by decide +kernel)) (by decide +kernel)
theorem se_X11_addViews : Cond.selects RX11 yX11_addViews yX11_addViews ∈ TB := tb_0 (y := yX11_addViews) (n := 17) (List.mem_of_getElem? (i := 20) (by decide +kernel)) (by decide +kernel)
theorem kc_X11_addViews : cV RX11 yX11_addViews cX11_addViews 3 none 1 := ⟨im_X11_addViews, se_X11_addViews, cd_X11_addViews, in_X11, ⟨by decide +kernel, by decide +kernel, by decide +kernel⟩⟩
theorem ml_X11_340 : Cond.methodLink RX11 340 yX11_addViews ∈ TB := tb_5 (List.mem_of_getElem? (i := 3) (by decide +kernel)) (by decide +kernel)
theorem fl_X11_322 : Cond.fieldLink RX11 322 RX8 (TX8 8).2.1 (TX8 8).2.2.1 ∈ TB := tb_1 (List.mem_of_getElem? (i := 182) (by decide +kernel)) (by decide +kernel)
theorem fg_X11_322 : fg RX11 322 8 8 := ⟨RX8, RX8, TX8, 15, rfl, by decide, tbX8, fl_X11_322, fun _ _ h => h⟩
theorem fl_X11_157 : Cond.fieldLink RX11 157 RX8 (TX8 12).2.1 (TX8 12).2.2.1 ∈ TB := tb_1 (List.mem_of_getElem? (i := 197) (by decide +kernel)) (by decide +kernel)
theorem fg_X11_157 : fg RX11 157 8 12 := ⟨RX8, RX8, TX8, 15, rfl, by decide, tbX8, fl_X11_157, fun _ _ h => h⟩
theorem fl_X11_335 : Cond.fieldLink RX11 335 RX8 (TX8 1).2.1 (TX8 1).2.2.1 ∈ TB := tb_1 (List.mem_of_getElem? (i := 165) (by decide +kernel)) (by decide +kernel)
theorem fg_X11_335 : fg RX11 335 8 1 := ⟨RX8, RX8, TX8, 15, rfl, by decide, tbX8, fl_X11_335, fun _ _ h => h⟩
