theorem tbX0 : ∀ w ∈ u_ws RX0 TX0 5, w ∈ TB := by
  have h : (u_ws RX0 TX0 5).all (fun w => decide (w ∈ lw_tbl) && goodWord w) = true := by decide +kernel
  exact fun w hw => by
    have h1 := List.all_eq_true.mp h w hw
    rw [Bool.and_eq_true] at h1
    exact tb_of (of_decide_eq_true h1.1) h1.2
theorem tbX1 : ∀ w ∈ u_ws RX1 TX1 1, w ∈ TB := by
  have h : (u_ws RX1 TX1 1).all (fun w => decide (w ∈ lw_tbl) && goodWord w) = true := by decide +kernel
  exact fun w hw => by
    have h1 := List.all_eq_true.mp h w hw
    rw [Bool.and_eq_true] at h1
    exact tb_of (of_decide_eq_true h1.1) h1.2
theorem tbX2 : ∀ w ∈ u_ws RX2 TX2 3, w ∈ TB := by
  have h : (u_ws RX2 TX2 3).all (fun w => decide (w ∈ lw_tbl) && goodWord w) = true := by decide +kernel
  exact fun w hw => by
    have h1 := List.all_eq_true.mp h w hw
    rw [Bool.and_eq_true] at h1
    exact tb_of (of_decide_eq_true h1.1) h1.2
theorem tbX3 : ∀ w ∈ u_ws RX3 TX3 3, w ∈ TB := by
  have h : (u_ws RX3 TX3 3).all (fun w => decide (w ∈ lw_tbl) && goodWord w) = true := by decide +kernel
  exact fun w hw => by
    have h1 := List.all_eq_true.mp h w hw
    rw [Bool.and_eq_true] at h1
    exact tb_of (of_decide_eq_true h1.1) h1.2
theorem tbX4 : ∀ w ∈ u_ws RX4 TX4 5, w ∈ TB := by
  have h : (u_ws RX4 TX4 5).all (fun w => decide (w ∈ lw_tbl) && goodWord w) = true := by decide +kernel
  exact fun w hw => by
    have h1 := List.all_eq_true.mp h w hw
    rw [Bool.and_eq_true] at h1
    exact tb_of (of_decide_eq_true h1.1) h1.2
theorem tbX5 : ∀ w ∈ u_ws RX5 TX5 10, w ∈ TB := by
  have h : (u_ws RX5 TX5 10).all (fun w => decide (w ∈ lw_tbl) && goodWord w) = true := by decide +kernel
  exact fun w hw => by
    have h1 := List.all_eq_true.mp h w hw
    rw [Bool.and_eq_true] at h1
    exact tb_of (of_decide_eq_true h1.1) h1.2
theorem tbX6 : ∀ w ∈ u_ws RX6 TX6 8, w ∈ TB := by
  have h : (u_ws RX6 TX6 8).all (fun w => decide (w ∈ lw_tbl) && goodWord w) = true := by decide +kernel
  exact fun w hw => by
    have h1 := List.all_eq_true.mp h w hw
    rw [Bool.and_eq_true] at h1
    exact tb_of (of_decide_eq_true h1.1) h1.2
theorem tbX7 : ∀ w ∈ u_ws RX7 TX7 5, w ∈ TB := by
  have h : (u_ws RX7 TX7 5).all (fun w => decide (w ∈ lw_tbl) && goodWord w) = true := by decide +kernel
  exact fun w hw => by
    have h1 := List.all_eq_true.mp h w hw
    rw [Bool.and_eq_true] at h1
    exact tb_of (of_decide_eq_true h1.1) h1.2
theorem tbX8 : ∀ w ∈ u_ws RX8 TX8 15, w ∈ TB := by
  have h : (u_ws RX8 TX8 15).all (fun w => decide (w ∈ lw_tbl) && goodWord w) = true := by decide +kernel
  exact fun w hw => by
    have h1 := List.all_eq_true.mp h w hw
    rw [Bool.and_eq_true] at h1
    exact tb_of (of_decide_eq_true h1.1) h1.2
theorem tbX9 : ∀ w ∈ u_ws RX9 TX9 2, w ∈ TB := by
  have h : (u_ws RX9 TX9 2).all (fun w => decide (w ∈ lw_tbl) && goodWord w) = true := by decide +kernel
  exact fun w hw => by
    have h1 := List.all_eq_true.mp h w hw
    rw [Bool.and_eq_true] at h1
    exact tb_of (of_decide_eq_true h1.1) h1.2
theorem tbX10 : ∀ w ∈ u_ws RX10 TX10 3, w ∈ TB := by
  have h : (u_ws RX10 TX10 3).all (fun w => decide (w ∈ lw_tbl) && goodWord w) = true := by decide +kernel
  exact fun w hw => by
    have h1 := List.all_eq_true.mp h w hw
    rw [Bool.and_eq_true] at h1
    exact tb_of (of_decide_eq_true h1.1) h1.2
theorem tbX11 : ∀ w ∈ u_ws RX11 TX11 17, w ∈ TB := by
  have h : (u_ws RX11 TX11 17).all (fun w => decide (w ∈ lw_tbl) && goodWord w) = true := by decide +kernel
  exact fun w hw => by
    have h1 := List.all_eq_true.mp h w hw
    rw [Bool.and_eq_true] at h1
    exact tb_of (of_decide_eq_true h1.1) h1.2
theorem tbX12 : ∀ w ∈ u_ws RX12 TX12 51, w ∈ TB := by
  have h : (u_ws RX12 TX12 51).all (fun w => decide (w ∈ lw_tbl) && goodWord w) = true := by decide +kernel
  exact fun w hw => by
    have h1 := List.all_eq_true.mp h w hw
    rw [Bool.and_eq_true] at h1
    exact tb_of (of_decide_eq_true h1.1) h1.2
theorem fl_X5_20 : Cond.fieldLink RX5 20 RX5 (TX5 1).2.1 (TX5 1).2.2.1 ∈ TB := tb_1 (List.mem_of_getElem? (i := 116) (by decide +kernel)) (by decide +kernel)
theorem fg_X5_20 : fg RX5 20 5 1 := ⟨RX5, RX5, TX5, 10, rfl, by decide, tbX5, fl_X5_20, fun _ _ h => h⟩
theorem fl_X5_65 : Cond.fieldLink RX5 65 RX5 (TX5 5).2.1 (TX5 5).2.2.1 ∈ TB := tb_1 (List.mem_of_getElem? (i := 121) (by decide +kernel)) (by decide +kernel)
theorem fg_X5_65 : fg RX5 65 5 5 := ⟨RX5, RX5, TX5, 10, rfl, by decide, tbX5, fl_X5_65, fun _ _ h => h⟩
theorem fl_X5_24 : Cond.fieldLink RX5 24 RX5 (TX5 2).2.1 (TX5 2).2.2.1 ∈ TB := tb_1 (List.mem_of_getElem? (i := 118) (by decide +kernel)) (by decide +kernel)
theorem fg_X5_24 : fg RX5 24 5 2 := ⟨RX5, RX5, TX5, 10, rfl, by decide, tbX5, fl_X5_24, fun _ _ h => h⟩
theorem fl_X5_28 : Cond.fieldLink RX5 28 RX5 (TX5 3).2.1 (TX5 3).2.2.1 ∈ TB := tb_1 (List.mem_of_getElem? (i := 119) (by decide +kernel)) (by decide +kernel)
theorem fg_X5_28 : fg RX5 28 5 3 := ⟨RX5, RX5, TX5, 10, rfl, by decide, tbX5, fl_X5_28, fun _ _ h => h⟩
theorem fl_X5_31 : Cond.fieldLink RX5 31 RX5 (TX5 4).2.1 (TX5 4).2.2.1 ∈ TB := tb_1 (List.mem_of_getElem? (i := 120) (by decide +kernel)) (by decide +kernel)
theorem fg_X5_31 : fg RX5 31 5 4 := ⟨RX5, RX5, TX5, 10, rfl, by decide, tbX5, fl_X5_31, fun _ _ h => h⟩
theorem fp_X5_65 : fp RX5 65 5 5 .int := ⟨RX5, RX5, TX5, 10, tyX5, rfl, by decide, tbX5, fl_X5_65, fun _ _ h => h, tyX5_ok, nmX5, rfl, by decide +kernel⟩
theorem cd_X5_addToken : Cond.code yX5_addToken cX5_addToken 5 none ∈ TB := tb_3 (List.mem_of_getElem? (i := 38) (by decide +kernel)) (by decide +kernel)
theorem in_X5 : Cond.initialized RX5 ∈ TB := tb_1 (List.mem_of_getElem? (i := 2) (by decide +kernel)) (by decide +kernel)
theorem im_X5_addToken : Cond.instanceMethod yX5_addToken ∈ TB := tb_3 (List.mem_of_getElem? (i := 37) (by decide +kernel)) (by decide +kernel)
theorem se_X5_addToken : Cond.selects RX5 yX5_addToken yX5_addToken ∈ TB := tb_0 (y := yX5_addToken) (n := 10) (List.mem_of_getElem? (i := 4) (by decide +kernel)) (by decide +kernel)
theorem kc_X5_addToken : cV RX5 yX5_addToken cX5_addToken 5 none 3 := ⟨im_X5_addToken, se_X5_addToken, cd_X5_addToken, in_X5, ⟨by decide +kernel, by decide +kernel, by decide +kernel⟩⟩
theorem ml_X5_72 : Cond.methodLink RX5 72 yX5_addToken ∈ TB := tb_3 (List.mem_of_getElem? (i := 35) (by decide +kernel)) (by decide +kernel)
theorem cd_X5_wordSort : Cond.code yX5_wordSort cX5_wordSort 4 (some .int) ∈ TB := tb_3 (List.mem_of_getElem? (i := 34) (by decide +kernel)) (by decide +kernel)
theorem im_X5_wordSort : Cond.instanceMethod yX5_wordSort ∈ TB := tb_3 (List.mem_of_getElem? (i := 33) (by decide +kernel)) (by decide +kernel)
theorem se_X5_wordSort : Cond.selects RX5 yX5_wordSort yX5_wordSort ∈ TB := tb_0 (y := yX5_wordSort) (n := 10) (List.mem_of_getElem? (i := 3) (by decide +kernel)) (by decide +kernel)
theorem kc_X5_wordSort : cV RX5 yX5_wordSort cX5_wordSort 4 (some .int) 1 := ⟨im_X5_wordSort, se_X5_wordSort, cd_X5_wordSort, in_X5, ⟨by decide +kernel, by decide +kernel, by decide +kernel⟩⟩
theorem ml_X5_104 : Cond.methodLink RX5 104 yX5_wordSort ∈ TB := tb_3 (List.mem_of_getElem? (i := 31) (by decide +kernel)) (by decide +kernel)
theorem kL_X5_54 : Cond.constantLong RX5 54 (32) ∈ TB := tb_1 (List.mem_of_getElem? (i := 111) (by decide +kernel)) (by decide +kernel)
theorem kL_X5_102 : Cond.constantLong RX5 102 (10) ∈ TB := tb_3 (List.mem_of_getElem? (i := 30) (by decide +kernel)) (by decide +kernel)
theorem fl_X5_14 : Cond.fieldLink RX5 14 RX5 (TX5 0).2.1 (TX5 0).2.2.1 ∈ TB := tb_1 (List.mem_of_getElem? (i := 114) (by decide +kernel)) (by decide +kernel)
theorem fg_X5_14 : fg RX5 14 5 0 := ⟨RX5, RX5, TX5, 10, rfl, by decide, tbX5, fl_X5_14, fun _ _ h => h⟩
theorem fl_X5_56 : Cond.fieldLink RX5 56 RX9 (TX9 1).2.1 (TX9 1).2.2.1 ∈ TB := tb_1 (List.mem_of_getElem? (i := 51) (by decide +kernel)) (by decide +kernel)
theorem fg_X5_56 : fg RX5 56 9 1 := ⟨RX9, RX9, TX9, 2, rfl, by decide, tbX9, fl_X5_56, fun _ _ h => h⟩
theorem fl_X5_89 : Cond.fieldLink RX5 89 RX9 (TX9 0).2.1 (TX9 0).2.2.1 ∈ TB := tb_1 (List.mem_of_getElem? (i := 47) (by decide +kernel)) (by decide +kernel)
theorem fg_X5_89 : fg RX5 89 9 0 := ⟨RX9, RX9, TX9, 2, rfl, by decide, tbX9, fl_X5_89, fun _ _ h => h⟩
theorem cd_X5_isRunSign : Cond.code yX5_isRunSign cX5_isRunSign 1 (some .boolean) ∈ TB := tb_3 (List.mem_of_getElem? (i := 25) (by decide +kernel)) (by decide +kernel)
theorem st_X5_isRunSign : Cond.static yX5_isRunSign ∈ TB := tb_3 (List.mem_of_getElem? (i := 24) (by decide +kernel)) (by decide +kernel)
theorem kc_X5_isRunSign : cS yX5_isRunSign cX5_isRunSign 1 (some .boolean) 1 := ⟨st_X5_isRunSign, cd_X5_isRunSign, in_X5, ⟨by decide +kernel, by decide +kernel, by decide +kernel⟩⟩
theorem ml_X5_92 : Cond.methodLink RX5 92 yX5_isRunSign ∈ TB := tb_3 (List.mem_of_getElem? (i := 23) (by decide +kernel)) (by decide +kernel)
theorem cd_X5_isMarkSign : Cond.code yX5_isMarkSign cX5_isMarkSign 1 (some .boolean) ∈ TB := tb_3 (List.mem_of_getElem? (i := 41) (by decide +kernel)) (by decide +kernel)
theorem st_X5_isMarkSign : Cond.static yX5_isMarkSign ∈ TB := tb_3 (List.mem_of_getElem? (i := 40) (by decide +kernel)) (by decide +kernel)
theorem kc_X5_isMarkSign : cS yX5_isMarkSign cX5_isMarkSign 1 (some .boolean) 1 := ⟨st_X5_isMarkSign, cd_X5_isMarkSign, in_X5, ⟨by decide +kernel, by decide +kernel, by decide +kernel⟩⟩
theorem ml_X5_99 : Cond.methodLink RX5 99 yX5_isMarkSign ∈ TB := tb_3 (List.mem_of_getElem? (i := 39) (by decide +kernel)) (by decide +kernel)
theorem cd_X5_splitRun : Cond.code yX5_splitRun cX5_splitRun 9 (some .int) ∈ TB := tb_3 (List.mem_of_getElem? (i := 29) (by decide +kernel)) (by decide +kernel)
theorem im_X5_splitRun : Cond.instanceMethod yX5_splitRun ∈ TB := tb_3 (List.mem_of_getElem? (i := 28) (by decide +kernel)) (by decide +kernel)
theorem se_X5_splitRun : Cond.selects RX5 yX5_splitRun yX5_splitRun ∈ TB := tb_0 (y := yX5_splitRun) (n := 10) (List.mem_of_getElem? (i := 2) (by decide +kernel)) (by decide +kernel)
theorem kc_X5_splitRun : cV RX5 yX5_splitRun cX5_splitRun 9 (some .int) 1 := ⟨im_X5_splitRun, se_X5_splitRun, cd_X5_splitRun, in_X5, ⟨by decide +kernel, by decide +kernel, by decide +kernel⟩⟩
theorem ml_X5_96 : Cond.methodLink RX5 96 yX5_splitRun ∈ TB := tb_3 (List.mem_of_getElem? (i := 26) (by decide +kernel)) (by decide +kernel)
theorem fl_X5_76 : Cond.fieldLink RX5 76 RX5 (TX5 7).2.1 (TX5 7).2.2.1 ∈ TB := tb_1 (List.mem_of_getElem? (i := 123) (by decide +kernel)) (by decide +kernel)
theorem fg_X5_76 : fg RX5 76 5 7 := ⟨RX5, RX5, TX5, 10, rfl, by decide, tbX5, fl_X5_76, fun _ _ h => h⟩
theorem fp_X5_76 : fp RX5 76 5 7 .boolean := ⟨RX5, RX5, TX5, 10, tyX5, rfl, by decide, tbX5, fl_X5_76, fun _ _ h => h, tyX5_ok, nmX5, rfl, by decide +kernel⟩
theorem fl_X5_80 : Cond.fieldLink RX5 80 RX5 (TX5 6).2.1 (TX5 6).2.2.1 ∈ TB := tb_1 (List.mem_of_getElem? (i := 122) (by decide +kernel)) (by decide +kernel)
theorem fg_X5_80 : fg RX5 80 5 6 := ⟨RX5, RX5, TX5, 10, rfl, by decide, tbX5, fl_X5_80, fun _ _ h => h⟩
theorem fp_X5_80 : fp RX5 80 5 6 .int := ⟨RX5, RX5, TX5, 10, tyX5, rfl, by decide, tbX5, fl_X5_80, fun _ _ h => h, tyX5_ok, nmX5, rfl, by decide +kernel⟩
theorem fl_X5_83 : Cond.fieldLink RX5 83 RX5 (TX5 8).2.1 (TX5 8).2.2.1 ∈ TB := tb_1 (List.mem_of_getElem? (i := 125) (by decide +kernel)) (by decide +kernel)
theorem fg_X5_83 : fg RX5 83 5 8 := ⟨RX5, RX5, TX5, 10, rfl, by decide, tbX5, fl_X5_83, fun _ _ h => h⟩
theorem fp_X5_83 : fp RX5 83 5 8 .int := ⟨RX5, RX5, TX5, 10, tyX5, rfl, by decide, tbX5, fl_X5_83, fun _ _ h => h, tyX5_ok, nmX5, rfl, by decide +kernel⟩
theorem fl_X5_86 : Cond.fieldLink RX5 86 RX5 (TX5 9).2.1 (TX5 9).2.2.1 ∈ TB := tb_1 (List.mem_of_getElem? (i := 128) (by decide +kernel)) (by decide +kernel)
theorem fg_X5_86 : fg RX5 86 5 9 := ⟨RX5, RX5, TX5, 10, rfl, by decide, tbX5, fl_X5_86, fun _ _ h => h⟩
theorem fp_X5_86 : fp RX5 86 5 9 .int := ⟨RX5, RX5, TX5, 10, tyX5, rfl, by decide, tbX5, fl_X5_86, fun _ _ h => h, tyX5_ok, nmX5, rfl, by decide +kernel⟩
theorem cd_X5_splitAt : Cond.code yX5_splitAt cX5_splitAt 3 (some .int) ∈ TB := tb_3 (List.mem_of_getElem? (i := 22) (by decide +kernel)) (by decide +kernel)
theorem im_X5_splitAt : Cond.instanceMethod yX5_splitAt ∈ TB := tb_3 (List.mem_of_getElem? (i := 21) (by decide +kernel)) (by decide +kernel)
theorem se_X5_splitAt : Cond.selects RX5 yX5_splitAt yX5_splitAt ∈ TB := tb_0 (y := yX5_splitAt) (n := 10) (List.mem_of_getElem? (i := 1) (by decide +kernel)) (by decide +kernel)
theorem kc_X5_splitAt : cV RX5 yX5_splitAt cX5_splitAt 3 (some .int) 1 := ⟨im_X5_splitAt, se_X5_splitAt, cd_X5_splitAt, in_X5, ⟨by decide +kernel, by decide +kernel, by decide +kernel⟩⟩
theorem ml_X5_68 : Cond.methodLink RX5 68 yX5_splitAt ∈ TB := tb_3 (List.mem_of_getElem? (i := 19) (by decide +kernel)) (by decide +kernel)
theorem ml_X5_59 : Cond.methodLink RX5 59 Lib.Math.min.name ∈ TB := tb_3 (List.mem_of_getElem? (i := 16) (by decide +kernel)) (by decide +kernel)
theorem in_Math : Cond.initialized "java/lang/Math" ∈ TB := tb_1 (List.mem_of_getElem? (i := 19) (by decide +kernel)) (by decide +kernel)
theorem kmath_min : Cond.static Lib.Math.min.name ∈ TB ∧ Cond.initialized "java/lang/Math" ∈ TB ∧ Cond.code Lib.Math.min.name Lib.Math.min.code 2 (some .int) ∈ TB := ⟨tb_3 (List.mem_of_getElem? (i := 17) (by decide +kernel)) (by decide +kernel), in_Math, tb_3 (List.mem_of_getElem? (i := 18) (by decide +kernel)) (by decide +kernel)⟩
theorem fl_X8_59 : Cond.fieldLink RX8 59 RX8 (TX8 7).2.1 (TX8 7).2.2.1 ∈ TB := tb_1 (List.mem_of_getElem? (i := 178) (by decide +kernel)) (by decide +kernel)
theorem fg_X8_59 : fg RX8 59 8 7 := ⟨RX8, RX8, TX8, 15, rfl, by decide, tbX8, fl_X8_59, fun _ _ h => h⟩
theorem fl_X8_25 : Cond.fieldLink RX8 25 RX8 (TX8 8).2.1 (TX8 8).2.2.1 ∈ TB := tb_1 (List.mem_of_getElem? (i := 181) (by decide +kernel)) (by decide +kernel)
theorem fg_X8_25 : fg RX8 25 8 8 := ⟨RX8, RX8, TX8, 15, rfl, by decide, tbX8, fl_X8_25, fun _ _ h => h⟩
theorem cd_X5_fail : Cond.code yX5_fail cX5_fail 2 none ∈ TB := tb_3 (List.mem_of_getElem? (i := 61) (by decide +kernel)) (by decide +kernel)
theorem im_X5_fail : Cond.instanceMethod yX5_fail ∈ TB := tb_3 (List.mem_of_getElem? (i := 59) (by decide +kernel)) (by decide +kernel)
theorem se_X5_fail : Cond.selects RX5 yX5_fail yX5_fail ∈ TB := tb_3 (List.mem_of_getElem? (i := 60) (by decide +kernel)) (by decide +kernel)
theorem kc_X5_fail : cV RX5 yX5_fail cX5_fail 2 none 1 := ⟨im_X5_fail, se_X5_fail, cd_X5_fail, in_X5, ⟨by decide +kernel, by decide +kernel, by decide +kernel⟩⟩
theorem ml_X5_108 : Cond.methodLink RX5 108 yX5_fail ∈ TB := tb_3 (List.mem_of_getElem? (i := 74) (by decide +kernel)) (by decide +kernel)
theorem cd_X5_isName : Cond.code yX5_isName cX5_isName 1 (some .boolean) ∈ TB := tb_3 (List.mem_of_getElem? (i := 73) (by decide +kernel)) (by decide +kernel)
theorem im_X5_isName : Cond.instanceMethod yX5_isName ∈ TB := tb_3 (List.mem_of_getElem? (i := 71) (by decide +kernel)) (by decide +kernel)
theorem se_X5_isName : Cond.selects RX5 yX5_isName yX5_isName ∈ TB := tb_3 (List.mem_of_getElem? (i := 72) (by decide +kernel)) (by decide +kernel)
theorem kc_X5_isName : cV RX5 yX5_isName cX5_isName 1 (some .boolean) 0 := ⟨im_X5_isName, se_X5_isName, cd_X5_isName, in_X5, ⟨by decide +kernel, by decide +kernel, by decide +kernel⟩⟩
theorem ml_X5_128 : Cond.methodLink RX5 128 yX5_isName ∈ TB := tb_3 (List.mem_of_getElem? (i := 70) (by decide +kernel)) (by decide +kernel)
theorem cd_X8_personNamed : Cond.code yX8_personNamed cX8_personNamed 4 (some .int) ∈ TB := tb_3 (List.mem_of_getElem? (i := 82) (by decide +kernel)) (by decide +kernel)
theorem in_X8 : Cond.initialized RX8 ∈ TB := tb_1 (List.mem_of_getElem? (i := 8) (by decide +kernel)) (by decide +kernel)
theorem im_X8_personNamed : Cond.instanceMethod yX8_personNamed ∈ TB := tb_3 (List.mem_of_getElem? (i := 80) (by decide +kernel)) (by decide +kernel)
theorem se_X8_personNamed : Cond.selects RX8 yX8_personNamed yX8_personNamed ∈ TB := tb_3 (List.mem_of_getElem? (i := 81) (by decide +kernel)) (by decide +kernel)
theorem kc_X8_personNamed : cV RX8 yX8_personNamed cX8_personNamed 4 (some .int) 1 := ⟨im_X8_personNamed, se_X8_personNamed, cd_X8_personNamed, in_X8, ⟨by decide +kernel, by decide +kernel, by decide +kernel⟩⟩
theorem ml_X5_137 : Cond.methodLink RX5 137 yX8_personNamed ∈ TB := tb_3 (List.mem_of_getElem? (i := 79) (by decide +kernel)) (by decide +kernel)
theorem cd_X5_isWordFrom : Cond.code yX5_isWordFrom cX5_isWordFrom 3 (some .boolean) ∈ TB := tb_3 (List.mem_of_getElem? (i := 91) (by decide +kernel)) (by decide +kernel)
theorem im_X5_isWordFrom : Cond.instanceMethod yX5_isWordFrom ∈ TB := tb_3 (List.mem_of_getElem? (i := 89) (by decide +kernel)) (by decide +kernel)
theorem se_X5_isWordFrom : Cond.selects RX5 yX5_isWordFrom yX5_isWordFrom ∈ TB := tb_3 (List.mem_of_getElem? (i := 90) (by decide +kernel)) (by decide +kernel)
theorem kc_X5_isWordFrom : cV RX5 yX5_isWordFrom cX5_isWordFrom 3 (some .boolean) 2 := ⟨im_X5_isWordFrom, se_X5_isWordFrom, cd_X5_isWordFrom, in_X5, ⟨by decide +kernel, by decide +kernel, by decide +kernel⟩⟩
theorem ml_X5_124 : Cond.methodLink RX5 124 yX5_isWordFrom ∈ TB := tb_3 (List.mem_of_getElem? (i := 88) (by decide +kernel)) (by decide +kernel)
theorem cd_X5_next : Cond.code yX5_next cX5_next 1 none ∈ TB := tb_3 (List.mem_of_getElem? (i := 65) (by decide +kernel)) (by decide +kernel)
theorem im_X5_next : Cond.instanceMethod yX5_next ∈ TB := tb_3 (List.mem_of_getElem? (i := 63) (by decide +kernel)) (by decide +kernel)
theorem se_X5_next : Cond.selects RX5 yX5_next yX5_next ∈ TB := tb_3 (List.mem_of_getElem? (i := 64) (by decide +kernel)) (by decide +kernel)
theorem kc_X5_next : cV RX5 yX5_next cX5_next 1 none 0 := ⟨im_X5_next, se_X5_next, cd_X5_next, in_X5, ⟨by decide +kernel, by decide +kernel, by decide +kernel⟩⟩
theorem ml_X5_114 : Cond.methodLink RX5 114 yX5_next ∈ TB := tb_3 (List.mem_of_getElem? (i := 83) (by decide +kernel)) (by decide +kernel)
theorem fl_X8_43 : Cond.fieldLink RX8 43 RX8 (TX8 0).2.1 (TX8 0).2.2.1 ∈ TB := tb_1 (List.mem_of_getElem? (i := 159) (by decide +kernel)) (by decide +kernel)
theorem fg_X8_43 : fg RX8 43 8 0 := ⟨RX8, RX8, TX8, 15, rfl, by decide, tbX8, fl_X8_43, fun _ _ h => h⟩
theorem fl_X8_9 : Cond.fieldLink RX8 9 RX8 (TX8 1).2.1 (TX8 1).2.2.1 ∈ TB := tb_1 (List.mem_of_getElem? (i := 164) (by decide +kernel)) (by decide +kernel)
theorem fg_X8_9 : fg RX8 9 8 1 := ⟨RX8, RX8, TX8, 15, rfl, by decide, tbX8, fl_X8_9, fun _ _ h => h⟩
theorem cd_X8_turretNamed : Cond.code yX8_turretNamed cX8_turretNamed 4 (some .int) ∈ TB := tb_3 (List.mem_of_getElem? (i := 78) (by decide +kernel)) (by decide +kernel)
theorem im_X8_turretNamed : Cond.instanceMethod yX8_turretNamed ∈ TB := tb_3 (List.mem_of_getElem? (i := 76) (by decide +kernel)) (by decide +kernel)
theorem se_X8_turretNamed : Cond.selects RX8 yX8_turretNamed yX8_turretNamed ∈ TB := tb_3 (List.mem_of_getElem? (i := 77) (by decide +kernel)) (by decide +kernel)
theorem kc_X8_turretNamed : cV RX8 yX8_turretNamed cX8_turretNamed 4 (some .int) 1 := ⟨im_X8_turretNamed, se_X8_turretNamed, cd_X8_turretNamed, in_X8, ⟨by decide +kernel, by decide +kernel, by decide +kernel⟩⟩
theorem ml_X5_132 : Cond.methodLink RX5 132 yX8_turretNamed ∈ TB := tb_3 (List.mem_of_getElem? (i := 75) (by decide +kernel)) (by decide +kernel)
theorem fl_X0_15 : Cond.fieldLink RX0 15 RX0 (TX0 1).2.1 (TX0 1).2.2.1 ∈ TB := tb_2 (List.mem_of_getElem? (i := 25) (by decide +kernel)) (by decide +kernel)
theorem fg_X0_15 : fg RX0 15 0 1 := ⟨RX0, RX0, TX0, 5, rfl, by decide, tbX0, fl_X0_15, fun _ _ h => h⟩
theorem cd_X5_needNumber : Cond.code yX5_needNumber cX5_needNumber 4 (some .int) ∈ TB := tb_3 (List.mem_of_getElem? (i := 95) (by decide +kernel)) (by decide +kernel)
theorem im_X5_needNumber : Cond.instanceMethod yX5_needNumber ∈ TB := tb_3 (List.mem_of_getElem? (i := 93) (by decide +kernel)) (by decide +kernel)
theorem se_X5_needNumber : Cond.selects RX5 yX5_needNumber yX5_needNumber ∈ TB := tb_3 (List.mem_of_getElem? (i := 94) (by decide +kernel)) (by decide +kernel)
theorem kc_X5_needNumber : cV RX5 yX5_needNumber cX5_needNumber 4 (some .int) 2 := ⟨im_X5_needNumber, se_X5_needNumber, cd_X5_needNumber, in_X5, ⟨by decide +kernel, by decide +kernel, by decide +kernel⟩⟩
theorem ml_X0_80 : Cond.methodLink RX0 80 yX5_needNumber ∈ TB := tb_5 (List.mem_of_getElem? (i := 72) (by decide +kernel)) (by decide +kernel)
theorem cd_X5_needTurret : Cond.code yX5_needTurret cX5_needTurret 3 (some .int) ∈ TB := tb_5 (List.mem_of_getElem? (i := 71) (by decide +kernel)) (by decide +kernel)
theorem im_X5_needTurret : Cond.instanceMethod yX5_needTurret ∈ TB := tb_5 (List.mem_of_getElem? (i := 69) (by decide +kernel)) (by decide +kernel)
theorem se_X5_needTurret : Cond.selects RX5 yX5_needTurret yX5_needTurret ∈ TB := tb_5 (List.mem_of_getElem? (i := 70) (by decide +kernel)) (by decide +kernel)
theorem kc_X5_needTurret : cV RX5 yX5_needTurret cX5_needTurret 3 (some .int) 1 := ⟨im_X5_needTurret, se_X5_needTurret, cd_X5_needTurret, in_X5, ⟨by decide +kernel, by decide +kernel, by decide +kernel⟩⟩
theorem ml_X0_77 : Cond.methodLink RX0 77 yX5_needTurret ∈ TB := tb_5 (List.mem_of_getElem? (i := 68) (by decide +kernel)) (by decide +kernel)
theorem fl_X0_9 : Cond.fieldLink RX0 9 RX0 (TX0 0).2.1 (TX0 0).2.2.1 ∈ TB := tb_2 (List.mem_of_getElem? (i := 24) (by decide +kernel)) (by decide +kernel)
theorem fg_X0_9 : fg RX0 9 0 0 := ⟨RX0, RX0, TX0, 5, rfl, by decide, tbX0, fl_X0_9, fun _ _ h => h⟩
theorem cd_X5_needWordFrom : Cond.code yX5_needWordFrom cX5_needWordFrom 4 (some .int) ∈ TB := tb_3 (List.mem_of_getElem? (i := 87) (by decide +kernel)) (by decide +kernel)
theorem im_X5_needWordFrom : Cond.instanceMethod yX5_needWordFrom ∈ TB := tb_3 (List.mem_of_getElem? (i := 85) (by decide +kernel)) (by decide +kernel)
theorem se_X5_needWordFrom : Cond.selects RX5 yX5_needWordFrom yX5_needWordFrom ∈ TB := tb_3 (List.mem_of_getElem? (i := 86) (by decide +kernel)) (by decide +kernel)
theorem kc_X5_needWordFrom : cV RX5 yX5_needWordFrom cX5_needWordFrom 4 (some .int) 2 := ⟨im_X5_needWordFrom, se_X5_needWordFrom, cd_X5_needWordFrom, in_X5, ⟨by decide +kernel, by decide +kernel, by decide +kernel⟩⟩
theorem ml_X0_73 : Cond.methodLink RX0 73 yX5_needWordFrom ∈ TB := tb_5 (List.mem_of_getElem? (i := 67) (by decide +kernel)) (by decide +kernel)
theorem cd_X5_seePerson : Cond.code yX5_seePerson cX5_seePerson 3 (some .int) ∈ TB := tb_3 (List.mem_of_getElem? (i := 116) (by decide +kernel)) (by decide +kernel)
theorem im_X5_seePerson : Cond.instanceMethod yX5_seePerson ∈ TB := tb_3 (List.mem_of_getElem? (i := 114) (by decide +kernel)) (by decide +kernel)
theorem se_X5_seePerson : Cond.selects RX5 yX5_seePerson yX5_seePerson ∈ TB := tb_3 (List.mem_of_getElem? (i := 115) (by decide +kernel)) (by decide +kernel)
theorem kc_X5_seePerson : cV RX5 yX5_seePerson cX5_seePerson 3 (some .int) 1 := ⟨im_X5_seePerson, se_X5_seePerson, cd_X5_seePerson, in_X5, ⟨by decide +kernel, by decide +kernel, by decide +kernel⟩⟩
theorem ml_X5_140 : Cond.methodLink RX5 140 yX5_seePerson ∈ TB := tb_3 (List.mem_of_getElem? (i := 113) (by decide +kernel)) (by decide +kernel)
theorem fl_X0_18 : Cond.fieldLink RX0 18 RX0 (TX0 2).2.1 (TX0 2).2.2.1 ∈ TB := tb_2 (List.mem_of_getElem? (i := 26) (by decide +kernel)) (by decide +kernel)
theorem fg_X0_18 : fg RX0 18 0 2 := ⟨RX0, RX0, TX0, 5, rfl, by decide, tbX0, fl_X0_18, fun _ _ h => h⟩
theorem cd_X5_needPerson : Cond.code yX5_needPerson cX5_needPerson 3 (some .int) ∈ TB := tb_3 (List.mem_of_getElem? (i := 112) (by decide +kernel)) (by decide +kernel)
theorem im_X5_needPerson : Cond.instanceMethod yX5_needPerson ∈ TB := tb_3 (List.mem_of_getElem? (i := 110) (by decide +kernel)) (by decide +kernel)
theorem se_X5_needPerson : Cond.selects RX5 yX5_needPerson yX5_needPerson ∈ TB := tb_3 (List.mem_of_getElem? (i := 111) (by decide +kernel)) (by decide +kernel)
theorem kc_X5_needPerson : cV RX5 yX5_needPerson cX5_needPerson 3 (some .int) 1 := ⟨im_X5_needPerson, se_X5_needPerson, cd_X5_needPerson, in_X5, ⟨by decide +kernel, by decide +kernel, by decide +kernel⟩⟩
theorem ml_X0_83 : Cond.methodLink RX0 83 yX5_needPerson ∈ TB := tb_5 (List.mem_of_getElem? (i := 78) (by decide +kernel)) (by decide +kernel)
theorem fl_X0_21 : Cond.fieldLink RX0 21 RX0 (TX0 3).2.1 (TX0 3).2.2.1 ∈ TB := tb_2 (List.mem_of_getElem? (i := 27) (by decide +kernel)) (by decide +kernel)
theorem fg_X0_21 : fg RX0 21 0 3 := ⟨RX0, RX0, TX0, 5, rfl, by decide, tbX0, fl_X0_21, fun _ _ h => h⟩
theorem fl_X0_24 : Cond.fieldLink RX0 24 RX0 (TX0 4).2.1 (TX0 4).2.2.1 ∈ TB := tb_2 (List.mem_of_getElem? (i := 28) (by decide +kernel)) (by decide +kernel)
theorem fg_X0_24 : fg RX0 24 0 4 := ⟨RX0, RX0, TX0, 5, rfl, by decide, tbX0, fl_X0_24, fun _ _ h => h⟩
theorem fp_X0_24 : fp RX0 24 0 4 .int := ⟨RX0, RX0, TX0, 5, tyX0, rfl, by decide, tbX0, fl_X0_24, fun _ _ h => h, tyX0_ok, nmX0, rfl, by decide +kernel⟩
theorem fl_X0_57 : Cond.fieldLink RX0 57 RX5 (TX5 8).2.1 (TX5 8).2.2.1 ∈ TB := tb_1 (List.mem_of_getElem? (i := 124) (by decide +kernel)) (by decide +kernel)
theorem fg_X0_57 : fg RX0 57 5 8 := ⟨RX5, RX5, TX5, 10, rfl, by decide, tbX5, fl_X0_57, fun _ _ h => h⟩
theorem ml_X0_67 : Cond.methodLink RX0 67 yX5_next ∈ TB := tb_5 (List.mem_of_getElem? (i := 73) (by decide +kernel)) (by decide +kernel)
theorem cd_X0_readOfPerson : Cond.code yX0_readOfPerson cX0_readOfPerson 4 none ∈ TB := tb_5 (List.mem_of_getElem? (i := 77) (by decide +kernel)) (by decide +kernel)
theorem in_X0 : Cond.initialized RX0 ∈ TB := tb_1 (List.mem_of_getElem? (i := 10) (by decide +kernel)) (by decide +kernel)
theorem im_X0_readOfPerson : Cond.instanceMethod yX0_readOfPerson ∈ TB := tb_5 (List.mem_of_getElem? (i := 76) (by decide +kernel)) (by decide +kernel)
theorem se_X0_readOfPerson : Cond.selects RX0 yX0_readOfPerson yX0_readOfPerson ∈ TB := tb_0 (y := yX0_readOfPerson) (n := 5) (List.mem_of_getElem? (i := 26) (by decide +kernel)) (by decide +kernel)
theorem kc_X0_readOfPerson : cV RX0 yX0_readOfPerson cX0_readOfPerson 4 none 3 := ⟨im_X0_readOfPerson, se_X0_readOfPerson, cd_X0_readOfPerson, in_X0, ⟨by decide +kernel, by decide +kernel, by decide +kernel⟩⟩
theorem ml_X0_70 : Cond.methodLink RX0 70 yX0_readOfPerson ∈ TB := tb_5 (List.mem_of_getElem? (i := 74) (by decide +kernel)) (by decide +kernel)
theorem cd_X0_readPlain : Cond.code yX0_readPlain cX0_readPlain 5 none ∈ TB := tb_5 (List.mem_of_getElem? (i := 66) (by decide +kernel)) (by decide +kernel)
theorem im_X0_readPlain : Cond.instanceMethod yX0_readPlain ∈ TB := tb_5 (List.mem_of_getElem? (i := 65) (by decide +kernel)) (by decide +kernel)
theorem se_X0_readPlain : Cond.selects RX0 yX0_readPlain yX0_readPlain ∈ TB := tb_0 (y := yX0_readPlain) (n := 5) (List.mem_of_getElem? (i := 25) (by decide +kernel)) (by decide +kernel)
theorem kc_X0_readPlain : cV RX0 yX0_readPlain cX0_readPlain 5 none 3 := ⟨im_X0_readPlain, se_X0_readPlain, cd_X0_readPlain, in_X0, ⟨by decide +kernel, by decide +kernel, by decide +kernel⟩⟩
theorem ml_X0_63 : Cond.methodLink RX0 63 yX0_readPlain ∈ TB := tb_5 (List.mem_of_getElem? (i := 63) (by decide +kernel)) (by decide +kernel)
theorem ml_X0_60 : Cond.methodLink RX0 60 yX5_fail ∈ TB := tb_5 (List.mem_of_getElem? (i := 62) (by decide +kernel)) (by decide +kernel)
theorem ml_X0_49 : Cond.methodLink RX0 49 yX5_isWordFrom ∈ TB := tb_5 (List.mem_of_getElem? (i := 60) (by decide +kernel)) (by decide +kernel)
theorem ml_X0_53 : Cond.methodLink RX0 53 yX5_seePerson ∈ TB := tb_5 (List.mem_of_getElem? (i := 61) (by decide +kernel)) (by decide +kernel)
theorem cd_X5_isMark : Cond.code yX5_isMark cX5_isMark 2 (some .boolean) ∈ TB := tb_3 (List.mem_of_getElem? (i := 136) (by decide +kernel)) (by decide +kernel)
theorem im_X5_isMark : Cond.instanceMethod yX5_isMark ∈ TB := tb_3 (List.mem_of_getElem? (i := 134) (by decide +kernel)) (by decide +kernel)
theorem se_X5_isMark : Cond.selects RX5 yX5_isMark yX5_isMark ∈ TB := tb_3 (List.mem_of_getElem? (i := 135) (by decide +kernel)) (by decide +kernel)
theorem kc_X5_isMark : cV RX5 yX5_isMark cX5_isMark 2 (some .boolean) 1 := ⟨im_X5_isMark, se_X5_isMark, cd_X5_isMark, in_X5, ⟨by decide +kernel, by decide +kernel, by decide +kernel⟩⟩
theorem ml_X5_117 : Cond.methodLink RX5 117 yX5_isMark ∈ TB := tb_3 (List.mem_of_getElem? (i := 133) (by decide +kernel)) (by decide +kernel)
theorem cd_X5_takeMark : Cond.code yX5_takeMark cX5_takeMark 3 (some .boolean) ∈ TB := tb_3 (List.mem_of_getElem? (i := 132) (by decide +kernel)) (by decide +kernel)
theorem im_X5_takeMark : Cond.instanceMethod yX5_takeMark ∈ TB := tb_3 (List.mem_of_getElem? (i := 130) (by decide +kernel)) (by decide +kernel)
theorem se_X5_takeMark : Cond.selects RX5 yX5_takeMark yX5_takeMark ∈ TB := tb_3 (List.mem_of_getElem? (i := 131) (by decide +kernel)) (by decide +kernel)
theorem kc_X5_takeMark : cV RX5 yX5_takeMark cX5_takeMark 3 (some .boolean) 1 := ⟨im_X5_takeMark, se_X5_takeMark, cd_X5_takeMark, in_X5, ⟨by decide +kernel, by decide +kernel, by decide +kernel⟩⟩
theorem ml_X5_121 : Cond.methodLink RX5 121 yX5_takeMark ∈ TB := tb_3 (List.mem_of_getElem? (i := 129) (by decide +kernel)) (by decide +kernel)
theorem cd_X5_closes : Cond.code yX5_closes cX5_closes 1 (some .boolean) ∈ TB := tb_3 (List.mem_of_getElem? (i := 140) (by decide +kernel)) (by decide +kernel)
theorem im_X5_closes : Cond.instanceMethod yX5_closes ∈ TB := tb_3 (List.mem_of_getElem? (i := 138) (by decide +kernel)) (by decide +kernel)
theorem se_X5_closes : Cond.selects RX5 yX5_closes yX5_closes ∈ TB := tb_3 (List.mem_of_getElem? (i := 139) (by decide +kernel)) (by decide +kernel)
theorem kc_X5_closes : cV RX5 yX5_closes cX5_closes 1 (some .boolean) 0 := ⟨im_X5_closes, se_X5_closes, cd_X5_closes, in_X5, ⟨by decide +kernel, by decide +kernel, by decide +kernel⟩⟩
theorem ml_X0_46 : Cond.methodLink RX0 46 yX5_closes ∈ TB := tb_5 (List.mem_of_getElem? (i := 80) (by decide +kernel)) (by decide +kernel)
theorem cd_X5_goesOn : Cond.code yX5_goesOn cX5_goesOn 1 (some .boolean) ∈ TB := tb_3 (List.mem_of_getElem? (i := 45) (by decide +kernel)) (by decide +kernel)
theorem im_X5_goesOn : Cond.instanceMethod yX5_goesOn ∈ TB := tb_3 (List.mem_of_getElem? (i := 43) (by decide +kernel)) (by decide +kernel)
theorem se_X5_goesOn : Cond.selects RX5 yX5_goesOn yX5_goesOn ∈ TB := tb_3 (List.mem_of_getElem? (i := 44) (by decide +kernel)) (by decide +kernel)
theorem kc_X5_goesOn : cV RX5 yX5_goesOn cX5_goesOn 1 (some .boolean) 0 := ⟨im_X5_goesOn, se_X5_goesOn, cd_X5_goesOn, in_X5, ⟨by decide +kernel, by decide +kernel, by decide +kernel⟩⟩
theorem ml_X0_34 : Cond.methodLink RX0 34 yX5_goesOn ∈ TB := tb_5 (List.mem_of_getElem? (i := 55) (by decide +kernel)) (by decide +kernel)
theorem cd_X0_readLine : Cond.code yX0_readLine cX0_readLine 4 none ∈ TB := tb_5 (List.mem_of_getElem? (i := 59) (by decide +kernel)) (by decide +kernel)
theorem im_X0_readLine : Cond.instanceMethod yX0_readLine ∈ TB := tb_5 (List.mem_of_getElem? (i := 58) (by decide +kernel)) (by decide +kernel)
theorem se_X0_readLine : Cond.selects RX0 yX0_readLine yX0_readLine ∈ TB := tb_0 (y := yX0_readLine) (n := 5) (List.mem_of_getElem? (i := 24) (by decide +kernel)) (by decide +kernel)
theorem kc_X0_readLine : cV RX0 yX0_readLine cX0_readLine 4 none 2 := ⟨im_X0_readLine, se_X0_readLine, cd_X0_readLine, in_X0, ⟨by decide +kernel, by decide +kernel, by decide +kernel⟩⟩
theorem ml_X0_38 : Cond.methodLink RX0 38 yX0_readLine ∈ TB := tb_5 (List.mem_of_getElem? (i := 56) (by decide +kernel)) (by decide +kernel)
theorem cd_X5_needMark : Cond.code yX5_needMark cX5_needMark 2 none ∈ TB := tb_3 (List.mem_of_getElem? (i := 128) (by decide +kernel)) (by decide +kernel)
theorem im_X5_needMark : Cond.instanceMethod yX5_needMark ∈ TB := tb_3 (List.mem_of_getElem? (i := 126) (by decide +kernel)) (by decide +kernel)
theorem se_X5_needMark : Cond.selects RX5 yX5_needMark yX5_needMark ∈ TB := tb_3 (List.mem_of_getElem? (i := 127) (by decide +kernel)) (by decide +kernel)
theorem kc_X5_needMark : cV RX5 yX5_needMark cX5_needMark 2 none 1 := ⟨im_X5_needMark, se_X5_needMark, cd_X5_needMark, in_X5, ⟨by decide +kernel, by decide +kernel, by decide +kernel⟩⟩
theorem ml_X0_42 : Cond.methodLink RX0 42 yX5_needMark ∈ TB := tb_5 (List.mem_of_getElem? (i := 79) (by decide +kernel)) (by decide +kernel)
theorem cd_X5_begin : Cond.code yX5_begin cX5_begin 5 none ∈ TB := tb_3 (List.mem_of_getElem? (i := 15) (by decide +kernel)) (by decide +kernel)
theorem im_X5_begin : Cond.instanceMethod yX5_begin ∈ TB := tb_3 (List.mem_of_getElem? (i := 13) (by decide +kernel)) (by decide +kernel)
theorem se_X5_begin : Cond.selects RX5 yX5_begin yX5_begin ∈ TB := tb_3 (List.mem_of_getElem? (i := 14) (by decide +kernel)) (by decide +kernel)
theorem kc_X5_begin : cV RX5 yX5_begin cX5_begin 5 none 1 := ⟨im_X5_begin, se_X5_begin, cd_X5_begin, in_X5, ⟨by decide +kernel, by decide +kernel, by decide +kernel⟩⟩
theorem ml_X0_28 : Cond.methodLink RX0 28 yX5_begin ∈ TB := tb_5 (List.mem_of_getElem? (i := 54) (by decide +kernel)) (by decide +kernel)
theorem fl_X8_37 : Cond.fieldLink RX8 37 RX8 (TX8 12).2.1 (TX8 12).2.2.1 ∈ TB := tb_1 (List.mem_of_getElem? (i := 196) (by decide +kernel)) (by decide +kernel)
theorem fg_X8_37 : fg RX8 37 8 12 := ⟨RX8, RX8, TX8, 15, rfl, by decide, tbX8, fl_X8_37, fun _ _ h => h⟩
theorem fl_X8_15 : Cond.fieldLink RX8 15 RX8 (TX8 2).2.1 (TX8 2).2.2.1 ∈ TB := tb_1 (List.mem_of_getElem? (i := 166) (by decide +kernel)) (by decide +kernel)
theorem fg_X8_15 : fg RX8 15 8 2 := ⟨RX8, RX8, TX8, 15, rfl, by decide, tbX8, fl_X8_15, fun _ _ h => h⟩
theorem cd_X11_allRound : Cond.code yX11_allRound cX11_allRound 1 (some .int) ∈ TB := tb_3 (List.mem_of_getElem? (i := 190) (by decide +kernel)) (by decide +kernel)
theorem in_X11 : Cond.initialized RX11 ∈ TB := tb_1 (List.mem_of_getElem? (i := 1) (by decide +kernel)) (by decide +kernel)
theorem st_X11_allRound : Cond.static yX11_allRound ∈ TB := tb_3 (List.mem_of_getElem? (i := 189) (by decide +kernel)) (by decide +kernel)
theorem kc_X11_allRound : cS yX11_allRound cX11_allRound 1 (some .int) 1 := ⟨st_X11_allRound, cd_X11_allRound, in_X11, ⟨by decide +kernel, by decide +kernel, by decide +kernel⟩⟩
theorem fl_X8_19 : Cond.fieldLink RX8 19 RX8 (TX8 3).2.1 (TX8 3).2.2.1 ∈ TB := tb_1 (List.mem_of_getElem? (i := 168) (by decide +kernel)) (by decide +kernel)
theorem fg_X8_19 : fg RX8 19 8 3 := ⟨RX8, RX8, TX8, 15, rfl, by decide, tbX8, fl_X8_19, fun _ _ h => h⟩
theorem cd_X11_opposite : Cond.code yX11_opposite cX11_opposite 1 (some .int) ∈ TB := tb_3 (List.mem_of_getElem? (i := 123) (by decide +kernel)) (by decide +kernel)
theorem st_X11_opposite : Cond.static yX11_opposite ∈ TB := tb_3 (List.mem_of_getElem? (i := 122) (by decide +kernel)) (by decide +kernel)
theorem kc_X11_opposite : cS yX11_opposite cX11_opposite 1 (some .int) 1 := ⟨st_X11_opposite, cd_X11_opposite, in_X11, ⟨by decide +kernel, by decide +kernel, by decide +kernel⟩⟩
theorem ml_X11_391 : Cond.methodLink RX11 391 yX11_opposite ∈ TB := tb_4 (List.mem_of_getElem? (i := 16) (by decide +kernel)) (by decide +kernel)
theorem cd_X8_lookAt : Cond.code yX8_lookAt cX8_lookAt 4 (some .int) ∈ TB := tb_3 (List.mem_of_getElem? (i := 187) (by decide +kernel)) (by decide +kernel)
theorem im_X8_lookAt : Cond.instanceMethod yX8_lookAt ∈ TB := tb_3 (List.mem_of_getElem? (i := 185) (by decide +kernel)) (by decide +kernel)
theorem se_X8_lookAt : Cond.selects RX8 yX8_lookAt yX8_lookAt ∈ TB := tb_3 (List.mem_of_getElem? (i := 186) (by decide +kernel)) (by decide +kernel)
theorem kc_X8_lookAt : cV RX8 yX8_lookAt cX8_lookAt 4 (some .int) 2 := ⟨im_X8_lookAt, se_X8_lookAt, cd_X8_lookAt, in_X8, ⟨by decide +kernel, by decide +kernel, by decide +kernel⟩⟩
theorem ml_X8_134 : Cond.methodLink RX8 134 yX8_lookAt ∈ TB := tb_3 (List.mem_of_getElem? (i := 184) (by decide +kernel)) (by decide +kernel)
theorem cd_X11_having : Cond.code yX11_having cX11_having 2 (some .int) ∈ TB := tb_4 (List.mem_of_getElem? (i := 15) (by decide +kernel)) (by decide +kernel)
theorem st_X11_having : Cond.static yX11_having ∈ TB := tb_4 (List.mem_of_getElem? (i := 14) (by decide +kernel)) (by decide +kernel)
theorem kc_X11_having : cS yX11_having cX11_having 2 (some .int) 2 := ⟨st_X11_having, cd_X11_having, in_X11, ⟨by decide +kernel, by decide +kernel, by decide +kernel⟩⟩
theorem cd_X8_lookCount : Cond.code yX8_lookCount cX8_lookCount 2 (some .int) ∈ TB := tb_3 (List.mem_of_getElem? (i := 183) (by decide +kernel)) (by decide +kernel)
theorem im_X8_lookCount : Cond.instanceMethod yX8_lookCount ∈ TB := tb_3 (List.mem_of_getElem? (i := 181) (by decide +kernel)) (by decide +kernel)
theorem se_X8_lookCount : Cond.selects RX8 yX8_lookCount yX8_lookCount ∈ TB := tb_3 (List.mem_of_getElem? (i := 182) (by decide +kernel)) (by decide +kernel)
theorem kc_X8_lookCount : cV RX8 yX8_lookCount cX8_lookCount 2 (some .int) 1 := ⟨im_X8_lookCount, se_X8_lookCount, cd_X8_lookCount, in_X8, ⟨by decide +kernel, by decide +kernel, by decide +kernel⟩⟩
theorem ml_X8_131 : Cond.methodLink RX8 131 yX8_lookCount ∈ TB := tb_3 (List.mem_of_getElem? (i := 180) (by decide +kernel)) (by decide +kernel)
theorem cd_X8_whoIsUp : Cond.code yX8_whoIsUp cX8_whoIsUp 3 (some .int) ∈ TB := tb_3 (List.mem_of_getElem? (i := 175) (by decide +kernel)) (by decide +kernel)
theorem im_X8_whoIsUp : Cond.instanceMethod yX8_whoIsUp ∈ TB := tb_3 (List.mem_of_getElem? (i := 173) (by decide +kernel)) (by decide +kernel)
theorem se_X8_whoIsUp : Cond.selects RX8 yX8_whoIsUp yX8_whoIsUp ∈ TB := tb_3 (List.mem_of_getElem? (i := 174) (by decide +kernel)) (by decide +kernel)
theorem kc_X8_whoIsUp : cV RX8 yX8_whoIsUp cX8_whoIsUp 3 (some .int) 1 := ⟨im_X8_whoIsUp, se_X8_whoIsUp, cd_X8_whoIsUp, in_X8, ⟨by decide +kernel, by decide +kernel, by decide +kernel⟩⟩
theorem ml_X8_151 : Cond.methodLink RX8 151 yX8_whoIsUp ∈ TB := tb_4 (List.mem_of_getElem? (i := 8) (by decide +kernel)) (by decide +kernel)
theorem fl_X8_56 : Cond.fieldLink RX8 56 RX8 (TX8 6).2.1 (TX8 6).2.2.1 ∈ TB := tb_1 (List.mem_of_getElem? (i := 174) (by decide +kernel)) (by decide +kernel)
theorem fg_X8_56 : fg RX8 56 8 6 := ⟨RX8, RX8, TX8, 15, rfl, by decide, tbX8, fl_X8_56, fun _ _ h => h⟩
theorem fl_X8_22 : Cond.fieldLink RX8 22 RX8 (TX8 4).2.1 (TX8 4).2.2.1 ∈ TB := tb_1 (List.mem_of_getElem? (i := 170) (by decide +kernel)) (by decide +kernel)
theorem fg_X8_22 : fg RX8 22 8 4 := ⟨RX8, RX8, TX8, 15, rfl, by decide, tbX8, fl_X8_22, fun _ _ h => h⟩
theorem fl_X8_34 : Cond.fieldLink RX8 34 RX8 (TX8 11).2.1 (TX8 11).2.2.1 ∈ TB := tb_1 (List.mem_of_getElem? (i := 193) (by decide +kernel)) (by decide +kernel)
theorem fg_X8_34 : fg RX8 34 8 11 := ⟨RX8, RX8, TX8, 15, rfl, by decide, tbX8, fl_X8_34, fun _ _ h => h⟩
theorem fl_X8_40 : Cond.fieldLink RX8 40 RX8 (TX8 13).2.1 (TX8 13).2.2.1 ∈ TB := tb_1 (List.mem_of_getElem? (i := 199) (by decide +kernel)) (by decide +kernel)
theorem fg_X8_40 : fg RX8 40 8 13 := ⟨RX8, RX8, TX8, 15, rfl, by decide, tbX8, fl_X8_40, fun _ _ h => h⟩
theorem fl_X8_28 : Cond.fieldLink RX8 28 RX8 (TX8 9).2.1 (TX8 9).2.2.1 ∈ TB := tb_1 (List.mem_of_getElem? (i := 183) (by decide +kernel)) (by decide +kernel)
theorem fg_X8_28 : fg RX8 28 8 9 := ⟨RX8, RX8, TX8, 15, rfl, by decide, tbX8, fl_X8_28, fun _ _ h => h⟩
theorem cd_X8_afterClimb : Cond.code yX8_afterClimb cX8_afterClimb 6 (some .int) ∈ TB := tb_4 (List.mem_of_getElem? (i := 12) (by decide +kernel)) (by decide +kernel)
theorem im_X8_afterClimb : Cond.instanceMethod yX8_afterClimb ∈ TB := tb_4 (List.mem_of_getElem? (i := 10) (by decide +kernel)) (by decide +kernel)
theorem se_X8_afterClimb : Cond.selects RX8 yX8_afterClimb yX8_afterClimb ∈ TB := tb_4 (List.mem_of_getElem? (i := 11) (by decide +kernel)) (by decide +kernel)
theorem kc_X8_afterClimb : cV RX8 yX8_afterClimb cX8_afterClimb 6 (some .int) 2 := ⟨im_X8_afterClimb, se_X8_afterClimb, cd_X8_afterClimb, in_X8, ⟨by decide +kernel, by decide +kernel, by decide +kernel⟩⟩
theorem ml_X8_154 : Cond.methodLink RX8 154 yX8_afterClimb ∈ TB := tb_4 (List.mem_of_getElem? (i := 9) (by decide +kernel)) (by decide +kernel)
theorem fp_X8_56 : fp RX8 56 8 6 .int := ⟨RX8, RX8, TX8, 15, tyX8, rfl, by decide, tbX8, fl_X8_56, fun _ _ h => h, tyX8_ok, nmX8, rfl, by decide +kernel⟩
theorem fl_X8_62 : Cond.fieldLink RX8 62 RX8 (TX8 14).2.1 (TX8 14).2.2.1 ∈ TB := tb_1 (List.mem_of_getElem? (i := 202) (by decide +kernel)) (by decide +kernel)
theorem fg_X8_62 : fg RX8 62 8 14 := ⟨RX8, RX8, TX8, 15, rfl, by decide, tbX8, fl_X8_62, fun _ _ h => h⟩
theorem fp_X8_62 : fp RX8 62 8 14 .int := ⟨RX8, RX8, TX8, 15, tyX8, rfl, by decide, tbX8, fl_X8_62, fun _ _ h => h, tyX8_ok, nmX8, rfl, by decide +kernel⟩
theorem fl_X8_53 : Cond.fieldLink RX8 53 RX8 (TX8 5).2.1 (TX8 5).2.2.1 ∈ TB := tb_1 (List.mem_of_getElem? (i := 172) (by decide +kernel)) (by decide +kernel)
theorem fg_X8_53 : fg RX8 53 8 5 := ⟨RX8, RX8, TX8, 15, rfl, by decide, tbX8, fl_X8_53, fun _ _ h => h⟩
theorem cd_X8_passDay : Cond.code yX8_passDay cX8_passDay 2 none ∈ TB := tb_4 (List.mem_of_getElem? (i := 82) (by decide +kernel)) (by decide +kernel)
theorem im_X8_passDay : Cond.instanceMethod yX8_passDay ∈ TB := tb_4 (List.mem_of_getElem? (i := 80) (by decide +kernel)) (by decide +kernel)
theorem se_X8_passDay : Cond.selects RX8 yX8_passDay yX8_passDay ∈ TB := tb_4 (List.mem_of_getElem? (i := 81) (by decide +kernel)) (by decide +kernel)
theorem kc_X8_passDay : cV RX8 yX8_passDay cX8_passDay 2 none 0 := ⟨im_X8_passDay, se_X8_passDay, cd_X8_passDay, in_X8, ⟨by decide +kernel, by decide +kernel, by decide +kernel⟩⟩
theorem ml_X8_166 : Cond.methodLink RX8 166 yX8_passDay ∈ TB := tb_4 (List.mem_of_getElem? (i := 79) (by decide +kernel)) (by decide +kernel)
theorem cd_X8_daysLeft : Cond.code yX8_daysLeft cX8_daysLeft 1 (some .int) ∈ TB := tb_4 (List.mem_of_getElem? (i := 77) (by decide +kernel)) (by decide +kernel)
theorem im_X8_daysLeft : Cond.instanceMethod yX8_daysLeft ∈ TB := tb_4 (List.mem_of_getElem? (i := 75) (by decide +kernel)) (by decide +kernel)
theorem se_X8_daysLeft : Cond.selects RX8 yX8_daysLeft yX8_daysLeft ∈ TB := tb_4 (List.mem_of_getElem? (i := 76) (by decide +kernel)) (by decide +kernel)
theorem kc_X8_daysLeft : cV RX8 yX8_daysLeft cX8_daysLeft 1 (some .int) 0 := ⟨im_X8_daysLeft, se_X8_daysLeft, cd_X8_daysLeft, in_X8, ⟨by decide +kernel, by decide +kernel, by decide +kernel⟩⟩
theorem ml_X8_157 : Cond.methodLink RX8 157 yX8_daysLeft ∈ TB := tb_4 (List.mem_of_getElem? (i := 74) (by decide +kernel)) (by decide +kernel)
theorem ml_X8_161 : Cond.methodLink RX8 161 Lib.Math.min.name ∈ TB := tb_4 (List.mem_of_getElem? (i := 78) (by decide +kernel)) (by decide +kernel)
theorem ml_X0_115 : Cond.methodLink RX0 115 yX8_daysLeft ∈ TB := tb_5 (List.mem_of_getElem? (i := 101) (by decide +kernel)) (by decide +kernel)
theorem cd_X8_passDays : Cond.code yX8_passDays cX8_passDays 4 (some .int) ∈ TB := tb_4 (List.mem_of_getElem? (i := 73) (by decide +kernel)) (by decide +kernel)
theorem im_X8_passDays : Cond.instanceMethod yX8_passDays ∈ TB := tb_4 (List.mem_of_getElem? (i := 71) (by decide +kernel)) (by decide +kernel)
theorem se_X8_passDays : Cond.selects RX8 yX8_passDays yX8_passDays ∈ TB := tb_4 (List.mem_of_getElem? (i := 72) (by decide +kernel)) (by decide +kernel)
theorem kc_X8_passDays : cV RX8 yX8_passDays cX8_passDays 4 (some .int) 1 := ⟨im_X8_passDays, se_X8_passDays, cd_X8_passDays, in_X8, ⟨by decide +kernel, by decide +kernel, by decide +kernel⟩⟩
theorem ml_X0_119 : Cond.methodLink RX0 119 yX8_passDays ∈ TB := tb_5 (List.mem_of_getElem? (i := 102) (by decide +kernel)) (by decide +kernel)
theorem cd_X8_goUp : Cond.code yX8_goUp cX8_goUp 3 (some .int) ∈ TB := tb_4 (List.mem_of_getElem? (i := 7) (by decide +kernel)) (by decide +kernel)
theorem im_X8_goUp : Cond.instanceMethod yX8_goUp ∈ TB := tb_4 (List.mem_of_getElem? (i := 5) (by decide +kernel)) (by decide +kernel)
theorem se_X8_goUp : Cond.selects RX8 yX8_goUp yX8_goUp ∈ TB := tb_4 (List.mem_of_getElem? (i := 6) (by decide +kernel)) (by decide +kernel)
theorem kc_X8_goUp : cV RX8 yX8_goUp cX8_goUp 3 (some .int) 2 := ⟨im_X8_goUp, se_X8_goUp, cd_X8_goUp, in_X8, ⟨by decide +kernel, by decide +kernel, by decide +kernel⟩⟩
theorem ml_X0_86 : Cond.methodLink RX0 86 yX8_goUp ∈ TB := tb_5 (List.mem_of_getElem? (i := 89) (by decide +kernel)) (by decide +kernel)
theorem cd_X0_ofSort : Cond.code yX0_ofSort cX0_ofSort 2 (some .int) ∈ TB := tb_5 (List.mem_of_getElem? (i := 92) (by decide +kernel)) (by decide +kernel)
theorem st_X0_ofSort : Cond.static yX0_ofSort ∈ TB := tb_5 (List.mem_of_getElem? (i := 91) (by decide +kernel)) (by decide +kernel)
theorem kc_X0_ofSort : cS yX0_ofSort cX0_ofSort 2 (some .int) 2 := ⟨st_X0_ofSort, cd_X0_ofSort, in_X0, ⟨by decide +kernel, by decide +kernel, by decide +kernel⟩⟩
theorem ml_X0_91 : Cond.methodLink RX0 91 yX0_ofSort ∈ TB := tb_5 (List.mem_of_getElem? (i := 90) (by decide +kernel)) (by decide +kernel)
theorem cd_X8_comeDown : Cond.code yX8_comeDown cX8_comeDown 2 (some .int) ∈ TB := tb_4 (List.mem_of_getElem? (i := 33) (by decide +kernel)) (by decide +kernel)
theorem im_X8_comeDown : Cond.instanceMethod yX8_comeDown ∈ TB := tb_4 (List.mem_of_getElem? (i := 31) (by decide +kernel)) (by decide +kernel)
theorem se_X8_comeDown : Cond.selects RX8 yX8_comeDown yX8_comeDown ∈ TB := tb_4 (List.mem_of_getElem? (i := 32) (by decide +kernel)) (by decide +kernel)
theorem kc_X8_comeDown : cV RX8 yX8_comeDown cX8_comeDown 2 (some .int) 1 := ⟨im_X8_comeDown, se_X8_comeDown, cd_X8_comeDown, in_X8, ⟨by decide +kernel, by decide +kernel, by decide +kernel⟩⟩
theorem ml_X0_94 : Cond.methodLink RX0 94 yX8_comeDown ∈ TB := tb_5 (List.mem_of_getElem? (i := 93) (by decide +kernel)) (by decide +kernel)
theorem cd_X8_passOn : Cond.code yX8_passOn cX8_passOn 4 (some .int) ∈ TB := tb_4 (List.mem_of_getElem? (i := 41) (by decide +kernel)) (by decide +kernel)
theorem im_X8_passOn : Cond.instanceMethod yX8_passOn ∈ TB := tb_4 (List.mem_of_getElem? (i := 39) (by decide +kernel)) (by decide +kernel)
theorem se_X8_passOn : Cond.selects RX8 yX8_passOn yX8_passOn ∈ TB := tb_4 (List.mem_of_getElem? (i := 40) (by decide +kernel)) (by decide +kernel)
theorem kc_X8_passOn : cV RX8 yX8_passOn cX8_passOn 4 (some .int) 3 := ⟨im_X8_passOn, se_X8_passOn, cd_X8_passOn, in_X8, ⟨by decide +kernel, by decide +kernel, by decide +kernel⟩⟩
theorem ml_X0_98 : Cond.methodLink RX0 98 yX8_passOn ∈ TB := tb_5 (List.mem_of_getElem? (i := 94) (by decide +kernel)) (by decide +kernel)
theorem cd_X8_blow : Cond.code yX8_blow cX8_blow 4 (some .int) ∈ TB := tb_4 (List.mem_of_getElem? (i := 49) (by decide +kernel)) (by decide +kernel)
theorem im_X8_blow : Cond.instanceMethod yX8_blow ∈ TB := tb_4 (List.mem_of_getElem? (i := 47) (by decide +kernel)) (by decide +kernel)
theorem se_X8_blow : Cond.selects RX8 yX8_blow yX8_blow ∈ TB := tb_4 (List.mem_of_getElem? (i := 48) (by decide +kernel)) (by decide +kernel)
theorem kc_X8_blow : cV RX8 yX8_blow cX8_blow 4 (some .int) 1 := ⟨im_X8_blow, se_X8_blow, cd_X8_blow, in_X8, ⟨by decide +kernel, by decide +kernel, by decide +kernel⟩⟩
theorem ml_X0_102 : Cond.methodLink RX0 102 yX8_blow ∈ TB := tb_5 (List.mem_of_getElem? (i := 95) (by decide +kernel)) (by decide +kernel)
theorem cd_X8_close : Cond.code yX8_close cX8_close 2 (some .int) ∈ TB := tb_4 (List.mem_of_getElem? (i := 57) (by decide +kernel)) (by decide +kernel)
theorem im_X8_close : Cond.instanceMethod yX8_close ∈ TB := tb_4 (List.mem_of_getElem? (i := 55) (by decide +kernel)) (by decide +kernel)
theorem se_X8_close : Cond.selects RX8 yX8_close yX8_close ∈ TB := tb_4 (List.mem_of_getElem? (i := 56) (by decide +kernel)) (by decide +kernel)
theorem kc_X8_close : cV RX8 yX8_close cX8_close 2 (some .int) 1 := ⟨im_X8_close, se_X8_close, cd_X8_close, in_X8, ⟨by decide +kernel, by decide +kernel, by decide +kernel⟩⟩
theorem ml_X0_105 : Cond.methodLink RX0 105 yX8_close ∈ TB := tb_5 (List.mem_of_getElem? (i := 96) (by decide +kernel)) (by decide +kernel)
theorem cd_X8_open : Cond.code yX8_open cX8_open 2 (some .int) ∈ TB := tb_4 (List.mem_of_getElem? (i := 65) (by decide +kernel)) (by decide +kernel)
theorem im_X8_open : Cond.instanceMethod yX8_open ∈ TB := tb_4 (List.mem_of_getElem? (i := 63) (by decide +kernel)) (by decide +kernel)
theorem se_X8_open : Cond.selects RX8 yX8_open yX8_open ∈ TB := tb_4 (List.mem_of_getElem? (i := 64) (by decide +kernel)) (by decide +kernel)
theorem kc_X8_open : cV RX8 yX8_open cX8_open 2 (some .int) 1 := ⟨im_X8_open, se_X8_open, cd_X8_open, in_X8, ⟨by decide +kernel, by decide +kernel, by decide +kernel⟩⟩
theorem ml_X0_108 : Cond.methodLink RX0 108 yX8_open ∈ TB := tb_5 (List.mem_of_getElem? (i := 97) (by decide +kernel)) (by decide +kernel)
theorem cd_X0_liveDays : Cond.code yX0_liveDays cX0_liveDays 2 (some .int) ∈ TB := tb_5 (List.mem_of_getElem? (i := 100) (by decide +kernel)) (by decide +kernel)
theorem st_X0_liveDays : Cond.static yX0_liveDays ∈ TB := tb_5 (List.mem_of_getElem? (i := 99) (by decide +kernel)) (by decide +kernel)
theorem kc_X0_liveDays : cS yX0_liveDays cX0_liveDays 2 (some .int) 2 := ⟨st_X0_liveDays, cd_X0_liveDays, in_X0, ⟨by decide +kernel, by decide +kernel, by decide +kernel⟩⟩
theorem ml_X0_111 : Cond.methodLink RX0 111 yX0_liveDays ∈ TB := tb_5 (List.mem_of_getElem? (i := 98) (by decide +kernel)) (by decide +kernel)
theorem fl_X1_9 : Cond.fieldLink RX1 9 RX1 (TX1 0).2.1 (TX1 0).2.2.1 ∈ TB := tb_2 (List.mem_of_getElem? (i := 170) (by decide +kernel)) (by decide +kernel)
theorem fg_X1_9 : fg RX1 9 1 0 := ⟨RX1, RX1, TX1, 1, rfl, by decide, tbX1, fl_X1_9, fun _ _ h => h⟩
theorem kn_X1_31 : Cond.constant RX1 31 (1103515245) ∈ TB := tb_5 (List.mem_of_getElem? (i := 31) (by decide +kernel)) (by decide +kernel)
theorem fp_X1_9 : fp RX1 9 1 0 .int := ⟨RX1, RX1, TX1, 1, tyX1, rfl, by decide, tbX1, fl_X1_9, fun _ _ h => h, tyX1_ok, nmX1, rfl, by decide +kernel⟩
theorem cd_X1_draw : Cond.code yX1_draw cX1_draw 2 (some .int) ∈ TB := tb_5 (List.mem_of_getElem? (i := 30) (by decide +kernel)) (by decide +kernel)
theorem in_X1 : Cond.initialized RX1 ∈ TB := tb_1 (List.mem_of_getElem? (i := 17) (by decide +kernel)) (by decide +kernel)
theorem im_X1_draw : Cond.instanceMethod yX1_draw ∈ TB := tb_5 (List.mem_of_getElem? (i := 29) (by decide +kernel)) (by decide +kernel)
theorem se_X1_draw : Cond.selects RX1 yX1_draw yX1_draw ∈ TB := tb_0 (y := yX1_draw) (n := 1) (List.mem_of_getElem? (i := 22) (by decide +kernel)) (by decide +kernel)
theorem kc_X1_draw : cV RX1 yX1_draw cX1_draw 2 (some .int) 1 := ⟨im_X1_draw, se_X1_draw, cd_X1_draw, in_X1, ⟨by decide +kernel, by decide +kernel, by decide +kernel⟩⟩
theorem ml_X1_32 : Cond.methodLink RX1 32 yX1_draw ∈ TB := tb_5 (List.mem_of_getElem? (i := 27) (by decide +kernel)) (by decide +kernel)
theorem fl_X1_56 : Cond.fieldLink RX1 56 RX8 (TX8 0).2.1 (TX8 0).2.2.1 ∈ TB := tb_1 (List.mem_of_getElem? (i := 162) (by decide +kernel)) (by decide +kernel)
theorem fg_X1_56 : fg RX1 56 8 0 := ⟨RX8, RX8, TX8, 15, rfl, by decide, tbX8, fl_X1_56, fun _ _ h => h⟩
theorem ml_X1_59 : Cond.methodLink RX1 59 yX8_goUp ∈ TB := tb_5 (List.mem_of_getElem? (i := 39) (by decide +kernel)) (by decide +kernel)
theorem fl_X1_39 : Cond.fieldLink RX1 39 RX8 (TX8 7).2.1 (TX8 7).2.2.1 ∈ TB := tb_1 (List.mem_of_getElem? (i := 179) (by decide +kernel)) (by decide +kernel)
theorem fg_X1_39 : fg RX1 39 8 7 := ⟨RX8, RX8, TX8, 15, rfl, by decide, tbX8, fl_X1_39, fun _ _ h => h⟩
theorem ml_X1_52 : Cond.methodLink RX1 52 yX8_passOn ∈ TB := tb_5 (List.mem_of_getElem? (i := 38) (by decide +kernel)) (by decide +kernel)
theorem ml_X1_49 : Cond.methodLink RX1 49 yX8_comeDown ∈ TB := tb_5 (List.mem_of_getElem? (i := 37) (by decide +kernel)) (by decide +kernel)
theorem ml_X1_46 : Cond.methodLink RX1 46 yX8_passDay ∈ TB := tb_5 (List.mem_of_getElem? (i := 40) (by decide +kernel)) (by decide +kernel)
theorem cd_X1_drawAct : Cond.code yX1_drawAct cX1_drawAct 5 none ∈ TB := tb_5 (List.mem_of_getElem? (i := 36) (by decide +kernel)) (by decide +kernel)
theorem im_X1_drawAct : Cond.instanceMethod yX1_drawAct ∈ TB := tb_5 (List.mem_of_getElem? (i := 35) (by decide +kernel)) (by decide +kernel)
theorem se_X1_drawAct : Cond.selects RX1 yX1_drawAct yX1_drawAct ∈ TB := tb_0 (y := yX1_drawAct) (n := 1) (List.mem_of_getElem? (i := 23) (by decide +kernel)) (by decide +kernel)
theorem kc_X1_drawAct : cV RX1 yX1_drawAct cX1_drawAct 5 none 2 := ⟨im_X1_drawAct, se_X1_drawAct, cd_X1_drawAct, in_X1, ⟨by decide +kernel, by decide +kernel, by decide +kernel⟩⟩
theorem ml_X1_42 : Cond.methodLink RX1 42 yX1_drawAct ∈ TB := tb_5 (List.mem_of_getElem? (i := 33) (by decide +kernel)) (by decide +kernel)
theorem ml_X1_36 : Cond.methodLink RX1 36 yX8_blow ∈ TB := tb_5 (List.mem_of_getElem? (i := 32) (by decide +kernel)) (by decide +kernel)
theorem cd_X1_drawOneDay : Cond.code yX1_drawOneDay cX1_drawOneDay 3 none ∈ TB := tb_5 (List.mem_of_getElem? (i := 26) (by decide +kernel)) (by decide +kernel)
theorem im_X1_drawOneDay : Cond.instanceMethod yX1_drawOneDay ∈ TB := tb_5 (List.mem_of_getElem? (i := 25) (by decide +kernel)) (by decide +kernel)
theorem se_X1_drawOneDay : Cond.selects RX1 yX1_drawOneDay yX1_drawOneDay ∈ TB := tb_0 (y := yX1_drawOneDay) (n := 1) (List.mem_of_getElem? (i := 21) (by decide +kernel)) (by decide +kernel)
theorem kc_X1_drawOneDay : cV RX1 yX1_drawOneDay cX1_drawOneDay 3 none 1 := ⟨im_X1_drawOneDay, se_X1_drawOneDay, cd_X1_drawOneDay, in_X1, ⟨by decide +kernel, by decide +kernel, by decide +kernel⟩⟩
theorem ml_X1_27 : Cond.methodLink RX1 27 yX1_drawOneDay ∈ TB := tb_5 (List.mem_of_getElem? (i := 23) (by decide +kernel)) (by decide +kernel)
theorem ml_X1_15 : Cond.methodLink RX1 15 yX8_daysLeft ∈ TB := tb_5 (List.mem_of_getElem? (i := 21) (by decide +kernel)) (by decide +kernel)
theorem ml_X1_21 : Cond.methodLink RX1 21 Lib.Math.min.name ∈ TB := tb_5 (List.mem_of_getElem? (i := 22) (by decide +kernel)) (by decide +kernel)
theorem fp_X8_43 : fp RX8 43 8 0 .int := ⟨RX8, RX8, TX8, 15, tyX8, rfl, by decide, tbX8, fl_X8_43, fun _ _ h => h, tyX8_ok, nmX8, rfl, by decide +kernel⟩
theorem ml_X8_47 : Cond.methodLink RX8 47 arraycopyName ∈ TB := tb_3 (List.mem_of_getElem? (i := 149) (by decide +kernel)) (by decide +kernel)
theorem fp_X8_53 : fp RX8 53 8 5 .int := ⟨RX8, RX8, TX8, 15, tyX8, rfl, by decide, tbX8, fl_X8_53, fun _ _ h => h, tyX8_ok, nmX8, rfl, by decide +kernel⟩
theorem fp_X8_59 : fp RX8 59 8 7 .int := ⟨RX8, RX8, TX8, 15, tyX8, rfl, by decide, tbX8, fl_X8_59, fun _ _ h => h, tyX8_ok, nmX8, rfl, by decide +kernel⟩
theorem fl_X8_31 : Cond.fieldLink RX8 31 RX8 (TX8 10).2.1 (TX8 10).2.2.1 ∈ TB := tb_1 (List.mem_of_getElem? (i := 189) (by decide +kernel)) (by decide +kernel)
theorem fg_X8_31 : fg RX8 31 8 10 := ⟨RX8, RX8, TX8, 15, rfl, by decide, tbX8, fl_X8_31, fun _ _ h => h⟩
theorem fl_X2_18 : Cond.fieldLink RX2 18 RX2 (TX2 1).2.1 (TX2 1).2.2.1 ∈ TB := tb_2 (List.mem_of_getElem? (i := 51) (by decide +kernel)) (by decide +kernel)
theorem fg_X2_18 : fg RX2 18 2 1 := ⟨RX2, RX2, TX2, 3, rfl, by decide, tbX2, fl_X2_18, fun _ _ h => h⟩
theorem fp_X2_18 : fp RX2 18 2 1 .int := ⟨RX2, RX2, TX2, 3, tyX2, rfl, by decide, tbX2, fl_X2_18, fun _ _ h => h, tyX2_ok, nmX2, rfl, by decide +kernel⟩
theorem fl_X2_22 : Cond.fieldLink RX2 22 RX2 (TX2 2).2.1 (TX2 2).2.2.1 ∈ TB := tb_2 (List.mem_of_getElem? (i := 52) (by decide +kernel)) (by decide +kernel)
theorem fg_X2_22 : fg RX2 22 2 2 := ⟨RX2, RX2, TX2, 3, rfl, by decide, tbX2, fl_X2_22, fun _ _ h => h⟩
theorem ml_X2_29 : Cond.methodLink RX2 29 Lib.Math.min.name ∈ TB := tb_4 (List.mem_of_getElem? (i := 25) (by decide +kernel)) (by decide +kernel)
theorem fp_X2_22 : fp RX2 22 2 2 .int := ⟨RX2, RX2, TX2, 3, tyX2, rfl, by decide, tbX2, fl_X2_22, fun _ _ h => h, tyX2_ok, nmX2, rfl, by decide +kernel⟩
theorem fl_X4_60 : Cond.fieldLink RX4 60 RX8 (TX8 0).2.1 (TX8 0).2.2.1 ∈ TB := tb_1 (List.mem_of_getElem? (i := 161) (by decide +kernel)) (by decide +kernel)
theorem fg_X4_60 : fg RX4 60 8 0 := ⟨RX8, RX8, TX8, 15, rfl, by decide, tbX8, fl_X4_60, fun _ _ h => h⟩
theorem fl_X4_63 : Cond.fieldLink RX4 63 RX8 (TX8 9).2.1 (TX8 9).2.2.1 ∈ TB := tb_1 (List.mem_of_getElem? (i := 186) (by decide +kernel)) (by decide +kernel)
theorem fg_X4_63 : fg RX4 63 8 9 := ⟨RX8, RX8, TX8, 15, rfl, by decide, tbX8, fl_X4_63, fun _ _ h => h⟩
theorem ml_X4_66 : Cond.methodLink RX4 66 yX8_afterClimb ∈ TB := tb_4 (List.mem_of_getElem? (i := 180) (by decide +kernel)) (by decide +kernel)
theorem fl_X4_18 : Cond.fieldLink RX4 18 RX4 (TX4 2).2.1 (TX4 2).2.2.1 ∈ TB := tb_2 (List.mem_of_getElem? (i := 131) (by decide +kernel)) (by decide +kernel)
theorem fg_X4_18 : fg RX4 18 4 2 := ⟨RX4, RX4, TX4, 5, rfl, by decide, tbX4, fl_X4_18, fun _ _ h => h⟩
theorem fl_X4_50 : Cond.fieldLink RX4 50 RX8 (TX8 10).2.1 (TX8 10).2.2.1 ∈ TB := tb_1 (List.mem_of_getElem? (i := 191) (by decide +kernel)) (by decide +kernel)
theorem fg_X4_50 : fg RX4 50 8 10 := ⟨RX8, RX8, TX8, 15, rfl, by decide, tbX8, fl_X4_50, fun _ _ h => h⟩
theorem fl_X4_15 : Cond.fieldLink RX4 15 RX4 (TX4 1).2.1 (TX4 1).2.2.1 ∈ TB := tb_2 (List.mem_of_getElem? (i := 130) (by decide +kernel)) (by decide +kernel)
theorem fg_X4_15 : fg RX4 15 4 1 := ⟨RX4, RX4, TX4, 5, rfl, by decide, tbX4, fl_X4_15, fun _ _ h => h⟩
theorem cd_X8_climbable : Cond.code yX8_climbable cX8_climbable 5 (some .int) ∈ TB := tb_4 (List.mem_of_getElem? (i := 114) (by decide +kernel)) (by decide +kernel)
theorem im_X8_climbable : Cond.instanceMethod yX8_climbable ∈ TB := tb_4 (List.mem_of_getElem? (i := 112) (by decide +kernel)) (by decide +kernel)
theorem se_X8_climbable : Cond.selects RX8 yX8_climbable yX8_climbable ∈ TB := tb_4 (List.mem_of_getElem? (i := 113) (by decide +kernel)) (by decide +kernel)
theorem kc_X8_climbable : cV RX8 yX8_climbable cX8_climbable 5 (some .int) 1 := ⟨im_X8_climbable, se_X8_climbable, cd_X8_climbable, in_X8, ⟨by decide +kernel, by decide +kernel, by decide +kernel⟩⟩
theorem ml_X4_53 : Cond.methodLink RX4 53 yX8_climbable ∈ TB := tb_4 (List.mem_of_getElem? (i := 178) (by decide +kernel)) (by decide +kernel)
theorem fl_X4_21 : Cond.fieldLink RX4 21 RX4 (TX4 3).2.1 (TX4 3).2.2.1 ∈ TB := tb_2 (List.mem_of_getElem? (i := 132) (by decide +kernel)) (by decide +kernel)
theorem fg_X4_21 : fg RX4 21 4 3 := ⟨RX4, RX4, TX4, 5, rfl, by decide, tbX4, fl_X4_21, fun _ _ h => h⟩
theorem cd_X8_isPleased : Cond.code yX8_isPleased cX8_isPleased 2 (some .boolean) ∈ TB := tb_3 (List.mem_of_getElem? (i := 216) (by decide +kernel)) (by decide +kernel)
theorem im_X8_isPleased : Cond.instanceMethod yX8_isPleased ∈ TB := tb_3 (List.mem_of_getElem? (i := 214) (by decide +kernel)) (by decide +kernel)
theorem se_X8_isPleased : Cond.selects RX8 yX8_isPleased yX8_isPleased ∈ TB := tb_3 (List.mem_of_getElem? (i := 215) (by decide +kernel)) (by decide +kernel)
theorem kc_X8_isPleased : cV RX8 yX8_isPleased cX8_isPleased 2 (some .boolean) 1 := ⟨im_X8_isPleased, se_X8_isPleased, cd_X8_isPleased, in_X8, ⟨by decide +kernel, by decide +kernel, by decide +kernel⟩⟩
theorem ml_X4_56 : Cond.methodLink RX4 56 yX8_isPleased ∈ TB := tb_4 (List.mem_of_getElem? (i := 179) (by decide +kernel)) (by decide +kernel)
theorem fl_X4_9 : Cond.fieldLink RX4 9 RX4 (TX4 0).2.1 (TX4 0).2.2.1 ∈ TB := tb_2 (List.mem_of_getElem? (i := 129) (by decide +kernel)) (by decide +kernel)
theorem fg_X4_9 : fg RX4 9 4 0 := ⟨RX4, RX4, TX4, 5, rfl, by decide, tbX4, fl_X4_9, fun _ _ h => h⟩
theorem cd_X4_bestWith : Cond.code yX4_bestWith cX4_bestWith 4 (some .int) ∈ TB := tb_4 (List.mem_of_getElem? (i := 188) (by decide +kernel)) (by decide +kernel)
theorem in_X4 : Cond.initialized RX4 ∈ TB := tb_1 (List.mem_of_getElem? (i := 14) (by decide +kernel)) (by decide +kernel)
theorem im_X4_bestWith : Cond.instanceMethod yX4_bestWith ∈ TB := tb_4 (List.mem_of_getElem? (i := 187) (by decide +kernel)) (by decide +kernel)
theorem se_X4_bestWith : Cond.selects RX4 yX4_bestWith yX4_bestWith ∈ TB := tb_0 (y := yX4_bestWith) (n := 5) (List.mem_of_getElem? (i := 16) (by decide +kernel)) (by decide +kernel)
theorem kc_X4_bestWith : cV RX4 yX4_bestWith cX4_bestWith 4 (some .int) 3 := ⟨im_X4_bestWith, se_X4_bestWith, cd_X4_bestWith, in_X4, ⟨by decide +kernel, by decide +kernel, by decide +kernel⟩⟩
theorem ml_X4_69 : Cond.methodLink RX4 69 yX4_bestWith ∈ TB := tb_4 (List.mem_of_getElem? (i := 185) (by decide +kernel)) (by decide +kernel)
theorem ml_X4_73 : Cond.methodLink RX4 73 Lib.Math.max.name ∈ TB := tb_4 (List.mem_of_getElem? (i := 189) (by decide +kernel)) (by decide +kernel)
theorem kmath_max : Cond.static Lib.Math.max.name ∈ TB ∧ Cond.initialized "java/lang/Math" ∈ TB ∧ Cond.code Lib.Math.max.name Lib.Math.max.code 2 (some .int) ∈ TB := ⟨tb_4 (List.mem_of_getElem? (i := 96) (by decide +kernel)) (by decide +kernel), in_Math, tb_4 (List.mem_of_getElem? (i := 97) (by decide +kernel)) (by decide +kernel)⟩
theorem fl_X4_24 : Cond.fieldLink RX4 24 RX4 (TX4 4).2.1 (TX4 4).2.2.1 ∈ TB := tb_2 (List.mem_of_getElem? (i := 133) (by decide +kernel)) (by decide +kernel)
theorem fg_X4_24 : fg RX4 24 4 4 := ⟨RX4, RX4, TX4, 5, rfl, by decide, tbX4, fl_X4_24, fun _ _ h => h⟩
theorem cd_X4_firstBest : Cond.code yX4_firstBest cX4_firstBest 6 (some .int) ∈ TB := tb_4 (List.mem_of_getElem? (i := 193) (by decide +kernel)) (by decide +kernel)
theorem im_X4_firstBest : Cond.instanceMethod yX4_firstBest ∈ TB := tb_4 (List.mem_of_getElem? (i := 192) (by decide +kernel)) (by decide +kernel)
theorem se_X4_firstBest : Cond.selects RX4 yX4_firstBest yX4_firstBest ∈ TB := tb_0 (y := yX4_firstBest) (n := 5) (List.mem_of_getElem? (i := 17) (by decide +kernel)) (by decide +kernel)
theorem kc_X4_firstBest : cV RX4 yX4_firstBest cX4_firstBest 6 (some .int) 2 := ⟨im_X4_firstBest, se_X4_firstBest, cd_X4_firstBest, in_X4, ⟨by decide +kernel, by decide +kernel, by decide +kernel⟩⟩
theorem ml_X4_47 : Cond.methodLink RX4 47 yX4_firstBest ∈ TB := tb_4 (List.mem_of_getElem? (i := 190) (by decide +kernel)) (by decide +kernel)
theorem cd_X4_bestOf : Cond.code yX4_bestOf cX4_bestOf 6 (some .int) ∈ TB := tb_4 (List.mem_of_getElem? (i := 184) (by decide +kernel)) (by decide +kernel)
theorem im_X4_bestOf : Cond.instanceMethod yX4_bestOf ∈ TB := tb_4 (List.mem_of_getElem? (i := 183) (by decide +kernel)) (by decide +kernel)
theorem se_X4_bestOf : Cond.selects RX4 yX4_bestOf yX4_bestOf ∈ TB := tb_0 (y := yX4_bestOf) (n := 5) (List.mem_of_getElem? (i := 15) (by decide +kernel)) (by decide +kernel)
theorem kc_X4_bestOf : cV RX4 yX4_bestOf cX4_bestOf 6 (some .int) 2 := ⟨im_X4_bestOf, se_X4_bestOf, cd_X4_bestOf, in_X4, ⟨by decide +kernel, by decide +kernel, by decide +kernel⟩⟩
theorem ml_X4_43 : Cond.methodLink RX4 43 yX4_bestOf ∈ TB := tb_4 (List.mem_of_getElem? (i := 181) (by decide +kernel)) (by decide +kernel)
theorem cd_X4_weigh : Cond.code yX4_weigh cX4_weigh 5 none ∈ TB := tb_4 (List.mem_of_getElem? (i := 177) (by decide +kernel)) (by decide +kernel)
theorem im_X4_weigh : Cond.instanceMethod yX4_weigh ∈ TB := tb_4 (List.mem_of_getElem? (i := 176) (by decide +kernel)) (by decide +kernel)
theorem se_X4_weigh : Cond.selects RX4 yX4_weigh yX4_weigh ∈ TB := tb_0 (y := yX4_weigh) (n := 5) (List.mem_of_getElem? (i := 14) (by decide +kernel)) (by decide +kernel)
theorem kc_X4_weigh : cV RX4 yX4_weigh cX4_weigh 5 none 2 := ⟨im_X4_weigh, se_X4_weigh, cd_X4_weigh, in_X4, ⟨by decide +kernel, by decide +kernel, by decide +kernel⟩⟩
theorem ml_X4_39 : Cond.methodLink RX4 39 yX4_weigh ∈ TB := tb_4 (List.mem_of_getElem? (i := 174) (by decide +kernel)) (by decide +kernel)
theorem fl_X4_33 : Cond.fieldLink RX4 33 RX8 (TX8 7).2.1 (TX8 7).2.2.1 ∈ TB := tb_1 (List.mem_of_getElem? (i := 176) (by decide +kernel)) (by decide +kernel)
theorem fg_X4_33 : fg RX4 33 8 7 := ⟨RX8, RX8, TX8, 15, rfl, by decide, tbX8, fl_X4_33, fun _ _ h => h⟩
theorem ml_X4_27 : Cond.methodLink RX4 27 yJ7_fill_53178 ∈ TB := tb_2 (List.mem_of_getElem? (i := 126) (by decide +kernel)) (by decide +kernel)
theorem cd_J7_fill_53178 : Cond.code yJ7_fill_53178 cJ7_fill_53178 4 none ∈ TB := tb_2 (List.mem_of_getElem? (i := 128) (by decide +kernel)) (by decide +kernel)
theorem in_J7 : Cond.initialized RJ7 ∈ TB := tb_1 (List.mem_of_getElem? (i := 15) (by decide +kernel)) (by decide +kernel)
theorem st_J7_fill_53178 : Cond.static yJ7_fill_53178 ∈ TB := tb_2 (List.mem_of_getElem? (i := 127) (by decide +kernel)) (by decide +kernel)
theorem kc_J7_fill_53178 : cS yJ7_fill_53178 cJ7_fill_53178 4 none 2 := ⟨st_J7_fill_53178, cd_J7_fill_53178, in_J7, ⟨by decide +kernel, by decide +kernel, by decide +kernel⟩⟩
theorem cd_X5_isWord : Cond.code yX5_isWord cX5_isWord 2 (some .boolean) ∈ TB := tb_3 (List.mem_of_getElem? (i := 53) (by decide +kernel)) (by decide +kernel)
theorem im_X5_isWord : Cond.instanceMethod yX5_isWord ∈ TB := tb_3 (List.mem_of_getElem? (i := 51) (by decide +kernel)) (by decide +kernel)
theorem se_X5_isWord : Cond.selects RX5 yX5_isWord yX5_isWord ∈ TB := tb_3 (List.mem_of_getElem? (i := 52) (by decide +kernel)) (by decide +kernel)
theorem kc_X5_isWord : cV RX5 yX5_isWord cX5_isWord 2 (some .boolean) 1 := ⟨im_X5_isWord, se_X5_isWord, cd_X5_isWord, in_X5, ⟨by decide +kernel, by decide +kernel, by decide +kernel⟩⟩
theorem ml_X5_111 : Cond.methodLink RX5 111 yX5_isWord ∈ TB := tb_3 (List.mem_of_getElem? (i := 100) (by decide +kernel)) (by decide +kernel)
theorem ml_X5_147 : Cond.methodLink RX5 147 yX5_needWordFrom ∈ TB := tb_3 (List.mem_of_getElem? (i := 124) (by decide +kernel)) (by decide +kernel)
theorem fl_X6_52 : Cond.fieldLink RX6 52 RX6 (TX6 4).2.1 (TX6 4).2.2.1 ∈ TB := tb_2 (List.mem_of_getElem? (i := 96) (by decide +kernel)) (by decide +kernel)
theorem fg_X6_52 : fg RX6 52 6 4 := ⟨RX6, RX6, TX6, 8, rfl, by decide, tbX6, fl_X6_52, fun _ _ h => h⟩
theorem fp_X6_52 : fp RX6 52 6 4 .int := ⟨RX6, RX6, TX6, 8, tyX6, rfl, by decide, tbX6, fl_X6_52, fun _ _ h => h, tyX6_ok, nmX6, rfl, by decide +kernel⟩
theorem fl_X6_21 : Cond.fieldLink RX6 21 RX6 (TX6 3).2.1 (TX6 3).2.2.1 ∈ TB := tb_2 (List.mem_of_getElem? (i := 94) (by decide +kernel)) (by decide +kernel)
theorem fg_X6_21 : fg RX6 21 6 3 := ⟨RX6, RX6, TX6, 8, rfl, by decide, tbX6, fl_X6_21, fun _ _ h => h⟩
theorem fl_X6_18 : Cond.fieldLink RX6 18 RX6 (TX6 2).2.1 (TX6 2).2.2.1 ∈ TB := tb_2 (List.mem_of_getElem? (i := 93) (by decide +kernel)) (by decide +kernel)
theorem fg_X6_18 : fg RX6 18 6 2 := ⟨RX6, RX6, TX6, 8, rfl, by decide, tbX6, fl_X6_18, fun _ _ h => h⟩
theorem fl_X6_15 : Cond.fieldLink RX6 15 RX6 (TX6 1).2.1 (TX6 1).2.2.1 ∈ TB := tb_2 (List.mem_of_getElem? (i := 92) (by decide +kernel)) (by decide +kernel)
theorem fg_X6_15 : fg RX6 15 6 1 := ⟨RX6, RX6, TX6, 8, rfl, by decide, tbX6, fl_X6_15, fun _ _ h => h⟩
theorem fl_X6_56 : Cond.fieldLink RX6 56 RX8 (TX8 0).2.1 (TX8 0).2.2.1 ∈ TB := tb_1 (List.mem_of_getElem? (i := 160) (by decide +kernel)) (by decide +kernel)
theorem fg_X6_56 : fg RX6 56 8 0 := ⟨RX8, RX8, TX8, 15, rfl, by decide, tbX8, fl_X6_56, fun _ _ h => h⟩
theorem ml_X6_59 : Cond.methodLink RX6 59 yX8_afterClimb ∈ TB := tb_4 (List.mem_of_getElem? (i := 120) (by decide +kernel)) (by decide +kernel)
theorem fl_X6_9 : Cond.fieldLink RX6 9 RX6 (TX6 0).2.1 (TX6 0).2.2.1 ∈ TB := tb_2 (List.mem_of_getElem? (i := 91) (by decide +kernel)) (by decide +kernel)
theorem fg_X6_9 : fg RX6 9 6 0 := ⟨RX6, RX6, TX6, 8, rfl, by decide, tbX6, fl_X6_9, fun _ _ h => h⟩
theorem cd_X6_keepSoonest : Cond.code yX6_keepSoonest cX6_keepSoonest 5 none ∈ TB := tb_4 (List.mem_of_getElem? (i := 119) (by decide +kernel)) (by decide +kernel)
theorem in_X6 : Cond.initialized RX6 ∈ TB := tb_1 (List.mem_of_getElem? (i := 13) (by decide +kernel)) (by decide +kernel)
theorem im_X6_keepSoonest : Cond.instanceMethod yX6_keepSoonest ∈ TB := tb_4 (List.mem_of_getElem? (i := 118) (by decide +kernel)) (by decide +kernel)
theorem se_X6_keepSoonest : Cond.selects RX6 yX6_keepSoonest yX6_keepSoonest ∈ TB := tb_0 (y := yX6_keepSoonest) (n := 8) (List.mem_of_getElem? (i := 12) (by decide +kernel)) (by decide +kernel)
theorem kc_X6_keepSoonest : cV RX6 yX6_keepSoonest cX6_keepSoonest 5 none 1 := ⟨im_X6_keepSoonest, se_X6_keepSoonest, cd_X6_keepSoonest, in_X6, ⟨by decide +kernel, by decide +kernel, by decide +kernel⟩⟩
theorem ml_X6_48 : Cond.methodLink RX6 48 yX6_keepSoonest ∈ TB := tb_4 (List.mem_of_getElem? (i := 116) (by decide +kernel)) (by decide +kernel)
theorem ml_X6_30 : Cond.methodLink RX6 30 yX8_climbable ∈ TB := tb_4 (List.mem_of_getElem? (i := 111) (by decide +kernel)) (by decide +kernel)
theorem fl_X6_36 : Cond.fieldLink RX6 36 RX8 (TX8 10).2.1 (TX8 10).2.2.1 ∈ TB := tb_1 (List.mem_of_getElem? (i := 190) (by decide +kernel)) (by decide +kernel)
theorem fg_X6_36 : fg RX6 36 8 10 := ⟨RX8, RX8, TX8, 15, rfl, by decide, tbX8, fl_X6_36, fun _ _ h => h⟩
theorem ml_X6_39 : Cond.methodLink RX6 39 yJ7_fill_53178 ∈ TB := tb_4 (List.mem_of_getElem? (i := 115) (by decide +kernel)) (by decide +kernel)
theorem fl_X6_45 : Cond.fieldLink RX6 45 RX8 (TX8 9).2.1 (TX8 9).2.2.1 ∈ TB := tb_1 (List.mem_of_getElem? (i := 185) (by decide +kernel)) (by decide +kernel)
theorem fg_X6_45 : fg RX6 45 8 9 := ⟨RX8, RX8, TX8, 15, rfl, by decide, tbX8, fl_X6_45, fun _ _ h => h⟩
theorem fl_X6_24 : Cond.fieldLink RX6 24 RX6 (TX6 5).2.1 (TX6 5).2.2.1 ∈ TB := tb_2 (List.mem_of_getElem? (i := 98) (by decide +kernel)) (by decide +kernel)
theorem fg_X6_24 : fg RX6 24 6 5 := ⟨RX6, RX6, TX6, 8, rfl, by decide, tbX6, fl_X6_24, fun _ _ h => h⟩
theorem ml_X6_76 : Cond.methodLink RX6 76 Lib.Math.max.name ∈ TB := tb_4 (List.mem_of_getElem? (i := 137) (by decide +kernel)) (by decide +kernel)
theorem cd_X6_climbTried : Cond.code yX6_climbTried cX6_climbTried 9 (some .int) ∈ TB := tb_4 (List.mem_of_getElem? (i := 136) (by decide +kernel)) (by decide +kernel)
theorem im_X6_climbTried : Cond.instanceMethod yX6_climbTried ∈ TB := tb_4 (List.mem_of_getElem? (i := 135) (by decide +kernel)) (by decide +kernel)
theorem se_X6_climbTried : Cond.selects RX6 yX6_climbTried yX6_climbTried ∈ TB := tb_0 (y := yX6_climbTried) (n := 8) (List.mem_of_getElem? (i := 13) (by decide +kernel)) (by decide +kernel)
theorem kc_X6_climbTried : cV RX6 yX6_climbTried cX6_climbTried 9 (some .int) 4 := ⟨im_X6_climbTried, se_X6_climbTried, cd_X6_climbTried, in_X6, ⟨by decide +kernel, by decide +kernel, by decide +kernel⟩⟩
theorem ml_X6_63 : Cond.methodLink RX6 63 yX6_climbTried ∈ TB := tb_4 (List.mem_of_getElem? (i := 133) (by decide +kernel)) (by decide +kernel)
theorem fl_X6_27 : Cond.fieldLink RX6 27 RX6 (TX6 6).2.1 (TX6 6).2.2.1 ∈ TB := tb_2 (List.mem_of_getElem? (i := 99) (by decide +kernel)) (by decide +kernel)
theorem fg_X6_27 : fg RX6 27 6 6 := ⟨RX6, RX6, TX6, 8, rfl, by decide, tbX6, fl_X6_27, fun _ _ h => h⟩
theorem ml_X6_67 : Cond.methodLink RX6 67 arraycopyName ∈ TB := tb_4 (List.mem_of_getElem? (i := 138) (by decide +kernel)) (by decide +kernel)
theorem fl_X6_73 : Cond.fieldLink RX6 73 RX6 (TX6 7).2.1 (TX6 7).2.2.1 ∈ TB := tb_2 (List.mem_of_getElem? (i := 101) (by decide +kernel)) (by decide +kernel)
theorem fg_X6_73 : fg RX6 73 6 7 := ⟨RX6, RX6, TX6, 8, rfl, by decide, tbX6, fl_X6_73, fun _ _ h => h⟩
theorem fp_X6_73 : fp RX6 73 6 7 .int := ⟨RX6, RX6, TX6, 8, tyX6, rfl, by decide, tbX6, fl_X6_73, fun _ _ h => h, tyX6_ok, nmX6, rfl, by decide +kernel⟩
theorem fl_X7_21 : Cond.fieldLink RX7 21 RX7 (TX7 3).2.1 (TX7 3).2.2.1 ∈ TB := tb_2 (List.mem_of_getElem? (i := 4) (by decide +kernel)) (by decide +kernel)
theorem fg_X7_21 : fg RX7 21 7 3 := ⟨RX7, RX7, TX7, 5, rfl, by decide, tbX7, fl_X7_21, fun _ _ h => h⟩
theorem fp_X7_21 : fp RX7 21 7 3 .int := ⟨RX7, RX7, TX7, 5, tyX7, rfl, by decide, tbX7, fl_X7_21, fun _ _ h => h, tyX7_ok, nmX7, rfl, by decide +kernel⟩
theorem fl_X7_25 : Cond.fieldLink RX7 25 RX7 (TX7 4).2.1 (TX7 4).2.2.1 ∈ TB := tb_2 (List.mem_of_getElem? (i := 5) (by decide +kernel)) (by decide +kernel)
theorem fg_X7_25 : fg RX7 25 7 4 := ⟨RX7, RX7, TX7, 5, rfl, by decide, tbX7, fl_X7_25, fun _ _ h => h⟩
theorem fp_X7_25 : fp RX7 25 7 4 .int := ⟨RX7, RX7, TX7, 5, tyX7, rfl, by decide, tbX7, fl_X7_25, fun _ _ h => h, tyX7_ok, nmX7, rfl, by decide +kernel⟩
theorem fl_X7_9 : Cond.fieldLink RX7 9 RX7 (TX7 0).2.1 (TX7 0).2.2.1 ∈ TB := tb_2 (List.mem_of_getElem? (i := 1) (by decide +kernel)) (by decide +kernel)
theorem fg_X7_9 : fg RX7 9 7 0 := ⟨RX7, RX7, TX7, 5, rfl, by decide, tbX7, fl_X7_9, fun _ _ h => h⟩
theorem ml_X7_28 : Cond.methodLink RX7 28 arraycopyName ∈ TB := tb_5 (List.mem_of_getElem? (i := 155) (by decide +kernel)) (by decide +kernel)
theorem fl_X7_15 : Cond.fieldLink RX7 15 RX7 (TX7 1).2.1 (TX7 1).2.2.1 ∈ TB := tb_2 (List.mem_of_getElem? (i := 2) (by decide +kernel)) (by decide +kernel)
theorem fg_X7_15 : fg RX7 15 7 1 := ⟨RX7, RX7, TX7, 5, rfl, by decide, tbX7, fl_X7_15, fun _ _ h => h⟩
theorem fl_X7_18 : Cond.fieldLink RX7 18 RX7 (TX7 2).2.1 (TX7 2).2.2.1 ∈ TB := tb_2 (List.mem_of_getElem? (i := 3) (by decide +kernel)) (by decide +kernel)
theorem fg_X7_18 : fg RX7 18 7 2 := ⟨RX7, RX7, TX7, 5, rfl, by decide, tbX7, fl_X7_18, fun _ _ h => h⟩
theorem cd_X7_addStep : Cond.code yX7_addStep cX7_addStep 4 none ∈ TB := tb_5 (List.mem_of_getElem? (i := 138) (by decide +kernel)) (by decide +kernel)
theorem in_X7 : Cond.initialized RX7 ∈ TB := tb_1 (List.mem_of_getElem? (i := 9) (by decide +kernel)) (by decide +kernel)
theorem im_X7_addStep : Cond.instanceMethod yX7_addStep ∈ TB := tb_5 (List.mem_of_getElem? (i := 137) (by decide +kernel)) (by decide +kernel)
theorem se_X7_addStep : Cond.selects RX7 yX7_addStep yX7_addStep ∈ TB := tb_0 (y := yX7_addStep) (n := 5) (List.mem_of_getElem? (i := 31) (by decide +kernel)) (by decide +kernel)
theorem kc_X7_addStep : cV RX7 yX7_addStep cX7_addStep 4 none 3 := ⟨im_X7_addStep, se_X7_addStep, cd_X7_addStep, in_X7, ⟨by decide +kernel, by decide +kernel, by decide +kernel⟩⟩
theorem ml_X7_58 : Cond.methodLink RX7 58 yX7_addStep ∈ TB := tb_5 (List.mem_of_getElem? (i := 135) (by decide +kernel)) (by decide +kernel)
theorem ml_X7_90 : Cond.methodLink RX7 90 yX5_needWordFrom ∈ TB := tb_5 (List.mem_of_getElem? (i := 143) (by decide +kernel)) (by decide +kernel)
theorem cd_X5_needSign : Cond.code yX5_needSign cX5_needSign 2 (some .int) ∈ TB := tb_5 (List.mem_of_getElem? (i := 148) (by decide +kernel)) (by decide +kernel)
theorem im_X5_needSign : Cond.instanceMethod yX5_needSign ∈ TB := tb_5 (List.mem_of_getElem? (i := 146) (by decide +kernel)) (by decide +kernel)
theorem se_X5_needSign : Cond.selects RX5 yX5_needSign yX5_needSign ∈ TB := tb_5 (List.mem_of_getElem? (i := 147) (by decide +kernel)) (by decide +kernel)
theorem kc_X5_needSign : cV RX5 yX5_needSign cX5_needSign 2 (some .int) 0 := ⟨im_X5_needSign, se_X5_needSign, cd_X5_needSign, in_X5, ⟨by decide +kernel, by decide +kernel, by decide +kernel⟩⟩
theorem ml_X7_98 : Cond.methodLink RX7 98 yX5_needSign ∈ TB := tb_5 (List.mem_of_getElem? (i := 145) (by decide +kernel)) (by decide +kernel)
theorem ml_X7_102 : Cond.methodLink RX7 102 yX5_needNumber ∈ TB := tb_5 (List.mem_of_getElem? (i := 149) (by decide +kernel)) (by decide +kernel)
theorem ml_X7_94 : Cond.methodLink RX7 94 yX5_needTurret ∈ TB := tb_5 (List.mem_of_getElem? (i := 144) (by decide +kernel)) (by decide +kernel)
theorem fl_X7_76 : Cond.fieldLink RX7 76 RX5 (TX5 8).2.1 (TX5 8).2.2.1 ∈ TB := tb_1 (List.mem_of_getElem? (i := 126) (by decide +kernel)) (by decide +kernel)
theorem fg_X7_76 : fg RX7 76 5 8 := ⟨RX5, RX5, TX5, 10, rfl, by decide, tbX5, fl_X7_76, fun _ _ h => h⟩
theorem ml_X7_79 : Cond.methodLink RX7 79 yX5_takeMark ∈ TB := tb_5 (List.mem_of_getElem? (i := 132) (by decide +kernel)) (by decide +kernel)
theorem cd_X5_takeWord : Cond.code yX5_takeWord cX5_takeWord 3 (some .boolean) ∈ TB := tb_3 (List.mem_of_getElem? (i := 99) (by decide +kernel)) (by decide +kernel)
theorem im_X5_takeWord : Cond.instanceMethod yX5_takeWord ∈ TB := tb_3 (List.mem_of_getElem? (i := 97) (by decide +kernel)) (by decide +kernel)
theorem se_X5_takeWord : Cond.selects RX5 yX5_takeWord yX5_takeWord ∈ TB := tb_3 (List.mem_of_getElem? (i := 98) (by decide +kernel)) (by decide +kernel)
theorem kc_X5_takeWord : cV RX5 yX5_takeWord cX5_takeWord 3 (some .boolean) 1 := ⟨im_X5_takeWord, se_X5_takeWord, cd_X5_takeWord, in_X5, ⟨by decide +kernel, by decide +kernel, by decide +kernel⟩⟩
theorem ml_X7_54 : Cond.methodLink RX7 54 yX5_takeWord ∈ TB := tb_5 (List.mem_of_getElem? (i := 134) (by decide +kernel)) (by decide +kernel)
theorem cd_X7_readPlain : Cond.code yX7_readPlain cX7_readPlain 6 none ∈ TB := tb_5 (List.mem_of_getElem? (i := 142) (by decide +kernel)) (by decide +kernel)
theorem im_X7_readPlain : Cond.instanceMethod yX7_readPlain ∈ TB := tb_5 (List.mem_of_getElem? (i := 141) (by decide +kernel)) (by decide +kernel)
theorem se_X7_readPlain : Cond.selects RX7 yX7_readPlain yX7_readPlain ∈ TB := tb_0 (y := yX7_readPlain) (n := 5) (List.mem_of_getElem? (i := 32) (by decide +kernel)) (by decide +kernel)
theorem kc_X7_readPlain : cV RX7 yX7_readPlain cX7_readPlain 6 none 2 := ⟨im_X7_readPlain, se_X7_readPlain, cd_X7_readPlain, in_X7, ⟨by decide +kernel, by decide +kernel, by decide +kernel⟩⟩
theorem ml_X7_86 : Cond.methodLink RX7 86 yX7_readPlain ∈ TB := tb_5 (List.mem_of_getElem? (i := 139) (by decide +kernel)) (by decide +kernel)
theorem cd_X7_readOne : Cond.code yX7_readOne cX7_readOne 4 none ∈ TB := tb_5 (List.mem_of_getElem? (i := 128) (by decide +kernel)) (by decide +kernel)
theorem im_X7_readOne : Cond.instanceMethod yX7_readOne ∈ TB := tb_5 (List.mem_of_getElem? (i := 127) (by decide +kernel)) (by decide +kernel)
theorem se_X7_readOne : Cond.selects RX7 yX7_readOne yX7_readOne ∈ TB := tb_0 (y := yX7_readOne) (n := 5) (List.mem_of_getElem? (i := 30) (by decide +kernel)) (by decide +kernel)
theorem kc_X7_readOne : cV RX7 yX7_readOne cX7_readOne 4 none 3 := ⟨im_X7_readOne, se_X7_readOne, cd_X7_readOne, in_X7, ⟨by decide +kernel, by decide +kernel, by decide +kernel⟩⟩
theorem ml_X7_62 : Cond.methodLink RX7 62 yX7_readOne ∈ TB := tb_5 (List.mem_of_getElem? (i := 125) (by decide +kernel)) (by decide +kernel)
theorem cd_X7_readCond : Cond.code yX7_readCond cX7_readCond 5 none ∈ TB := tb_5 (List.mem_of_getElem? (i := 120) (by decide +kernel)) (by decide +kernel)
theorem im_X7_readCond : Cond.instanceMethod yX7_readCond ∈ TB := tb_5 (List.mem_of_getElem? (i := 119) (by decide +kernel)) (by decide +kernel)
theorem se_X7_readCond : Cond.selects RX7 yX7_readCond yX7_readCond ∈ TB := tb_0 (y := yX7_readCond) (n := 5) (List.mem_of_getElem? (i := 28) (by decide +kernel)) (by decide +kernel)
theorem kc_X7_readCond : cV RX7 yX7_readCond cX7_readCond 5 none 3 := ⟨im_X7_readCond, se_X7_readCond, cd_X7_readCond, in_X7, ⟨by decide +kernel, by decide +kernel, by decide +kernel⟩⟩
theorem ml_X7_43 : Cond.methodLink RX7 43 yX7_readCond ∈ TB := tb_5 (List.mem_of_getElem? (i := 117) (by decide +kernel)) (by decide +kernel)
theorem ml_X7_82 : Cond.methodLink RX7 82 yX5_needMark ∈ TB := tb_5 (List.mem_of_getElem? (i := 133) (by decide +kernel)) (by decide +kernel)
theorem ml_X7_73 : Cond.methodLink RX7 73 yX5_fail ∈ TB := tb_5 (List.mem_of_getElem? (i := 131) (by decide +kernel)) (by decide +kernel)
theorem ml_X7_65 : Cond.methodLink RX7 65 yX5_isMark ∈ TB := tb_5 (List.mem_of_getElem? (i := 129) (by decide +kernel)) (by decide +kernel)
theorem ml_X7_69 : Cond.methodLink RX7 69 yX5_isWordFrom ∈ TB := tb_5 (List.mem_of_getElem? (i := 130) (by decide +kernel)) (by decide +kernel)
theorem cd_X7_readAll : Cond.code yX7_readAll cX7_readAll 5 none ∈ TB := tb_5 (List.mem_of_getElem? (i := 124) (by decide +kernel)) (by decide +kernel)
theorem im_X7_readAll : Cond.instanceMethod yX7_readAll ∈ TB := tb_5 (List.mem_of_getElem? (i := 123) (by decide +kernel)) (by decide +kernel)
theorem se_X7_readAll : Cond.selects RX7 yX7_readAll yX7_readAll ∈ TB := tb_0 (y := yX7_readAll) (n := 5) (List.mem_of_getElem? (i := 29) (by decide +kernel)) (by decide +kernel)
theorem kc_X7_readAll : cV RX7 yX7_readAll cX7_readAll 5 none 3 := ⟨im_X7_readAll, se_X7_readAll, cd_X7_readAll, in_X7, ⟨by decide +kernel, by decide +kernel, by decide +kernel⟩⟩
theorem ml_X7_51 : Cond.methodLink RX7 51 yX7_readAll ∈ TB := tb_5 (List.mem_of_getElem? (i := 121) (by decide +kernel)) (by decide +kernel)
theorem cd_X7_empty : Cond.code yX7_empty cX7_empty 1 none ∈ TB := tb_3 (List.mem_of_getElem? (i := 155) (by decide +kernel)) (by decide +kernel)
theorem im_X7_empty : Cond.instanceMethod yX7_empty ∈ TB := tb_3 (List.mem_of_getElem? (i := 153) (by decide +kernel)) (by decide +kernel)
theorem se_X7_empty : Cond.selects RX7 yX7_empty yX7_empty ∈ TB := tb_3 (List.mem_of_getElem? (i := 154) (by decide +kernel)) (by decide +kernel)
theorem kc_X7_empty : cV RX7 yX7_empty cX7_empty 1 none 0 := ⟨im_X7_empty, se_X7_empty, cd_X7_empty, in_X7, ⟨by decide +kernel, by decide +kernel, by decide +kernel⟩⟩
theorem ml_X7_34 : Cond.methodLink RX7 34 yX7_empty ∈ TB := tb_5 (List.mem_of_getElem? (i := 115) (by decide +kernel)) (by decide +kernel)
theorem ml_X7_37 : Cond.methodLink RX7 37 yX5_begin ∈ TB := tb_5 (List.mem_of_getElem? (i := 116) (by decide +kernel)) (by decide +kernel)
theorem ml_X7_47 : Cond.methodLink RX7 47 yX5_closes ∈ TB := tb_5 (List.mem_of_getElem? (i := 150) (by decide +kernel)) (by decide +kernel)
theorem kn_J6_265 : Cond.constant RJ6 265 (1431655765) ∈ TB := tb_3 (List.mem_of_getElem? (i := 228) (by decide +kernel)) (by decide +kernel)
theorem kn_J6_266 : Cond.constant RJ6 266 (858993459) ∈ TB := tb_3 (List.mem_of_getElem? (i := 229) (by decide +kernel)) (by decide +kernel)
theorem kn_J6_267 : Cond.constant RJ6 267 (252645135) ∈ TB := tb_3 (List.mem_of_getElem? (i := 230) (by decide +kernel)) (by decide +kernel)
theorem fl_X7_109 : Cond.fieldLink RX7 109 RX8 (TX8 12).2.1 (TX8 12).2.2.1 ∈ TB := tb_1 (List.mem_of_getElem? (i := 198) (by decide +kernel)) (by decide +kernel)
theorem fg_X7_109 : fg RX7 109 8 12 := ⟨RX8, RX8, TX8, 15, rfl, by decide, tbX8, fl_X7_109, fun _ _ h => h⟩
theorem fl_X7_114 : Cond.fieldLink RX7 114 RX8 (TX8 9).2.1 (TX8 9).2.2.1 ∈ TB := tb_1 (List.mem_of_getElem? (i := 188) (by decide +kernel)) (by decide +kernel)
theorem fg_X7_114 : fg RX7 114 8 9 := ⟨RX8, RX8, TX8, 15, rfl, by decide, tbX8, fl_X7_114, fun _ _ h => h⟩
theorem ml_X7_117 : Cond.methodLink RX7 117 yX8_isPleased ∈ TB := tb_5 (List.mem_of_getElem? (i := 168) (by decide +kernel)) (by decide +kernel)
theorem cd_J6_bitCount_0f7a4 : Cond.code yJ6_bitCount_0f7a4 cJ6_bitCount_0f7a4 1 (some .int) ∈ TB := tb_3 (List.mem_of_getElem? (i := 227) (by decide +kernel)) (by decide +kernel)
theorem in_J6 : Cond.initialized RJ6 ∈ TB := tb_1 (List.mem_of_getElem? (i := 25) (by decide +kernel)) (by decide +kernel)
theorem st_J6_bitCount_0f7a4 : Cond.static yJ6_bitCount_0f7a4 ∈ TB := tb_3 (List.mem_of_getElem? (i := 226) (by decide +kernel)) (by decide +kernel)
theorem kc_J6_bitCount_0f7a4 : cS yJ6_bitCount_0f7a4 cJ6_bitCount_0f7a4 1 (some .int) 1 := ⟨st_J6_bitCount_0f7a4, cd_J6_bitCount_0f7a4, in_J6, ⟨by decide +kernel, by decide +kernel, by decide +kernel⟩⟩
theorem ml_X7_120 : Cond.methodLink RX7 120 yJ6_bitCount_0f7a4 ∈ TB := tb_5 (List.mem_of_getElem? (i := 169) (by decide +kernel)) (by decide +kernel)
theorem cd_X7_compares : Cond.code yX7_compares cX7_compares 3 (some .boolean) ∈ TB := tb_5 (List.mem_of_getElem? (i := 173) (by decide +kernel)) (by decide +kernel)
theorem im_X7_compares : Cond.instanceMethod yX7_compares ∈ TB := tb_5 (List.mem_of_getElem? (i := 172) (by decide +kernel)) (by decide +kernel)
theorem se_X7_compares : Cond.selects RX7 yX7_compares yX7_compares ∈ TB := tb_0 (y := yX7_compares) (n := 5) (List.mem_of_getElem? (i := 34) (by decide +kernel)) (by decide +kernel)
theorem kc_X7_compares : cV RX7 yX7_compares cX7_compares 3 (some .boolean) 2 := ⟨im_X7_compares, se_X7_compares, cd_X7_compares, in_X7, ⟨by decide +kernel, by decide +kernel, by decide +kernel⟩⟩
theorem ml_X7_126 : Cond.methodLink RX7 126 yX7_compares ∈ TB := tb_5 (List.mem_of_getElem? (i := 170) (by decide +kernel)) (by decide +kernel)
theorem fl_X7_129 : Cond.fieldLink RX7 129 RX8 (TX8 11).2.1 (TX8 11).2.2.1 ∈ TB := tb_1 (List.mem_of_getElem? (i := 195) (by decide +kernel)) (by decide +kernel)
theorem fg_X7_129 : fg RX7 129 8 11 := ⟨RX8, RX8, TX8, 15, rfl, by decide, tbX8, fl_X7_129, fun _ _ h => h⟩
theorem fl_X7_132 : Cond.fieldLink RX7 132 RX8 (TX8 13).2.1 (TX8 13).2.2.1 ∈ TB := tb_1 (List.mem_of_getElem? (i := 201) (by decide +kernel)) (by decide +kernel)
theorem fg_X7_132 : fg RX7 132 8 13 := ⟨RX8, RX8, TX8, 15, rfl, by decide, tbX8, fl_X7_132, fun _ _ h => h⟩
theorem cd_X7_isSo : Cond.code yX7_isSo cX7_isSo 4 (some .boolean) ∈ TB := tb_5 (List.mem_of_getElem? (i := 167) (by decide +kernel)) (by decide +kernel)
theorem im_X7_isSo : Cond.instanceMethod yX7_isSo ∈ TB := tb_5 (List.mem_of_getElem? (i := 166) (by decide +kernel)) (by decide +kernel)
theorem se_X7_isSo : Cond.selects RX7 yX7_isSo yX7_isSo ∈ TB := tb_0 (y := yX7_isSo) (n := 5) (List.mem_of_getElem? (i := 33) (by decide +kernel)) (by decide +kernel)
theorem kc_X7_isSo : cV RX7 yX7_isSo cX7_isSo 4 (some .boolean) 3 := ⟨im_X7_isSo, se_X7_isSo, cd_X7_isSo, in_X7, ⟨by decide +kernel, by decide +kernel, by decide +kernel⟩⟩
theorem ml_X7_105 : Cond.methodLink RX7 105 yX7_isSo ∈ TB := tb_5 (List.mem_of_getElem? (i := 164) (by decide +kernel)) (by decide +kernel)
theorem ml_X8_106 : Cond.methodLink RX8 106 yX5_next ∈ TB := tb_3 (List.mem_of_getElem? (i := 62) (by decide +kernel)) (by decide +kernel)
theorem cd_X5_needNewName : Cond.code yX5_needNewName cX5_needNewName 4 (some .long) ∈ TB := tb_3 (List.mem_of_getElem? (i := 69) (by decide +kernel)) (by decide +kernel)
theorem im_X5_needNewName : Cond.instanceMethod yX5_needNewName ∈ TB := tb_3 (List.mem_of_getElem? (i := 67) (by decide +kernel)) (by decide +kernel)
theorem se_X5_needNewName : Cond.selects RX5 yX5_needNewName yX5_needNewName ∈ TB := tb_3 (List.mem_of_getElem? (i := 68) (by decide +kernel)) (by decide +kernel)
theorem kc_X5_needNewName : cV RX5 yX5_needNewName cX5_needNewName 4 (some .long) 1 := ⟨im_X5_needNewName, se_X5_needNewName, cd_X5_needNewName, in_X5, ⟨by decide +kernel, by decide +kernel, by decide +kernel⟩⟩
theorem ml_X8_109 : Cond.methodLink RX8 109 yX5_needNewName ∈ TB := tb_3 (List.mem_of_getElem? (i := 66) (by decide +kernel)) (by decide +kernel)
theorem ml_X8_113 : Cond.methodLink RX8 113 yX5_needWordFrom ∈ TB := tb_3 (List.mem_of_getElem? (i := 84) (by decide +kernel)) (by decide +kernel)
theorem ml_X8_117 : Cond.methodLink RX8 117 yX5_needNumber ∈ TB := tb_3 (List.mem_of_getElem? (i := 92) (by decide +kernel)) (by decide +kernel)
theorem ml_X8_96 : Cond.methodLink RX8 96 yX5_takeWord ∈ TB := tb_3 (List.mem_of_getElem? (i := 96) (by decide +kernel)) (by decide +kernel)
theorem ml_X8_103 : Cond.methodLink RX8 103 yX5_fail ∈ TB := tb_3 (List.mem_of_getElem? (i := 58) (by decide +kernel)) (by decide +kernel)
theorem cd_X5_needNewView : Cond.code yX5_needNewView cX5_needNewView 3 (some .int) ∈ TB := tb_3 (List.mem_of_getElem? (i := 120) (by decide +kernel)) (by decide +kernel)
theorem im_X5_needNewView : Cond.instanceMethod yX5_needNewView ∈ TB := tb_3 (List.mem_of_getElem? (i := 118) (by decide +kernel)) (by decide +kernel)
theorem se_X5_needNewView : Cond.selects RX5 yX5_needNewView yX5_needNewView ∈ TB := tb_3 (List.mem_of_getElem? (i := 119) (by decide +kernel)) (by decide +kernel)
theorem kc_X5_needNewView : cV RX5 yX5_needNewView cX5_needNewView 3 (some .int) 1 := ⟨im_X5_needNewView, se_X5_needNewView, cd_X5_needNewView, in_X5, ⟨by decide +kernel, by decide +kernel, by decide +kernel⟩⟩
theorem ml_X8_124 : Cond.methodLink RX8 124 yX5_needNewView ∈ TB := tb_3 (List.mem_of_getElem? (i := 117) (by decide +kernel)) (by decide +kernel)
theorem ml_X8_120 : Cond.methodLink RX8 120 yX5_needPerson ∈ TB := tb_3 (List.mem_of_getElem? (i := 109) (by decide +kernel)) (by decide +kernel)
theorem ml_X8_86 : Cond.methodLink RX8 86 yX5_isWord ∈ TB := tb_3 (List.mem_of_getElem? (i := 50) (by decide +kernel)) (by decide +kernel)
theorem cd_X8_readView : Cond.code yX8_readView cX8_readView 5 none ∈ TB := tb_3 (List.mem_of_getElem? (i := 108) (by decide +kernel)) (by decide +kernel)
theorem im_X8_readView : Cond.instanceMethod yX8_readView ∈ TB := tb_3 (List.mem_of_getElem? (i := 107) (by decide +kernel)) (by decide +kernel)
theorem se_X8_readView : Cond.selects RX8 yX8_readView yX8_readView ∈ TB := tb_0 (y := yX8_readView) (n := 15) (List.mem_of_getElem? (i := 8) (by decide +kernel)) (by decide +kernel)
theorem kc_X8_readView : cV RX8 yX8_readView cX8_readView 5 none 2 := ⟨im_X8_readView, se_X8_readView, cd_X8_readView, in_X8, ⟨by decide +kernel, by decide +kernel, by decide +kernel⟩⟩
theorem ml_X8_99 : Cond.methodLink RX8 99 yX8_readView ∈ TB := tb_3 (List.mem_of_getElem? (i := 105) (by decide +kernel)) (by decide +kernel)
theorem cd_X8_readPerson : Cond.code yX8_readPerson cX8_readPerson 3 none ∈ TB := tb_3 (List.mem_of_getElem? (i := 104) (by decide +kernel)) (by decide +kernel)
theorem im_X8_readPerson : Cond.instanceMethod yX8_readPerson ∈ TB := tb_3 (List.mem_of_getElem? (i := 103) (by decide +kernel)) (by decide +kernel)
theorem se_X8_readPerson : Cond.selects RX8 yX8_readPerson yX8_readPerson ∈ TB := tb_0 (y := yX8_readPerson) (n := 15) (List.mem_of_getElem? (i := 7) (by decide +kernel)) (by decide +kernel)
theorem kc_X8_readPerson : cV RX8 yX8_readPerson cX8_readPerson 3 none 1 := ⟨im_X8_readPerson, se_X8_readPerson, cd_X8_readPerson, in_X8, ⟨by decide +kernel, by decide +kernel, by decide +kernel⟩⟩
theorem ml_X8_93 : Cond.methodLink RX8 93 yX8_readPerson ∈ TB := tb_3 (List.mem_of_getElem? (i := 101) (by decide +kernel)) (by decide +kernel)
theorem cd_X8_readTurret : Cond.code yX8_readTurret cX8_readTurret 3 none ∈ TB := tb_3 (List.mem_of_getElem? (i := 57) (by decide +kernel)) (by decide +kernel)
theorem im_X8_readTurret : Cond.instanceMethod yX8_readTurret ∈ TB := tb_3 (List.mem_of_getElem? (i := 56) (by decide +kernel)) (by decide +kernel)
theorem se_X8_readTurret : Cond.selects RX8 yX8_readTurret yX8_readTurret ∈ TB := tb_0 (y := yX8_readTurret) (n := 15) (List.mem_of_getElem? (i := 6) (by decide +kernel)) (by decide +kernel)
theorem kc_X8_readTurret : cV RX8 yX8_readTurret cX8_readTurret 3 none 1 := ⟨im_X8_readTurret, se_X8_readTurret, cd_X8_readTurret, in_X8, ⟨by decide +kernel, by decide +kernel, by decide +kernel⟩⟩
theorem ml_X8_90 : Cond.methodLink RX8 90 yX8_readTurret ∈ TB := tb_3 (List.mem_of_getElem? (i := 54) (by decide +kernel)) (by decide +kernel)
theorem ml_X8_83 : Cond.methodLink RX8 83 yX5_closes ∈ TB := tb_3 (List.mem_of_getElem? (i := 137) (by decide +kernel)) (by decide +kernel)
theorem ml_X8_71 : Cond.methodLink RX8 71 yX5_goesOn ∈ TB := tb_3 (List.mem_of_getElem? (i := 42) (by decide +kernel)) (by decide +kernel)
theorem cd_X8_readLine : Cond.code yX8_readLine cX8_readLine 2 none ∈ TB := tb_3 (List.mem_of_getElem? (i := 49) (by decide +kernel)) (by decide +kernel)
theorem im_X8_readLine : Cond.instanceMethod yX8_readLine ∈ TB := tb_3 (List.mem_of_getElem? (i := 48) (by decide +kernel)) (by decide +kernel)
theorem se_X8_readLine : Cond.selects RX8 yX8_readLine yX8_readLine ∈ TB := tb_0 (y := yX8_readLine) (n := 15) (List.mem_of_getElem? (i := 5) (by decide +kernel)) (by decide +kernel)
theorem kc_X8_readLine : cV RX8 yX8_readLine cX8_readLine 2 none 1 := ⟨im_X8_readLine, se_X8_readLine, cd_X8_readLine, in_X8, ⟨by decide +kernel, by decide +kernel, by decide +kernel⟩⟩
theorem ml_X8_75 : Cond.methodLink RX8 75 yX8_readLine ∈ TB := tb_3 (List.mem_of_getElem? (i := 46) (by decide +kernel)) (by decide +kernel)
theorem ml_X8_79 : Cond.methodLink RX8 79 yX5_needMark ∈ TB := tb_3 (List.mem_of_getElem? (i := 125) (by decide +kernel)) (by decide +kernel)
theorem ml_X8_65 : Cond.methodLink RX8 65 yX5_begin ∈ TB := tb_3 (List.mem_of_getElem? (i := 12) (by decide +kernel)) (by decide +kernel)
theorem cd_X8_lookBits : Cond.code yX8_lookBits cX8_lookBits 5 (some .int) ∈ TB := tb_3 (List.mem_of_getElem? (i := 179) (by decide +kernel)) (by decide +kernel)
theorem im_X8_lookBits : Cond.instanceMethod yX8_lookBits ∈ TB := tb_3 (List.mem_of_getElem? (i := 177) (by decide +kernel)) (by decide +kernel)
theorem se_X8_lookBits : Cond.selects RX8 yX8_lookBits yX8_lookBits ∈ TB := tb_3 (List.mem_of_getElem? (i := 178) (by decide +kernel)) (by decide +kernel)
theorem kc_X8_lookBits : cV RX8 yX8_lookBits cX8_lookBits 5 (some .int) 1 := ⟨im_X8_lookBits, se_X8_lookBits, cd_X8_lookBits, in_X8, ⟨by decide +kernel, by decide +kernel, by decide +kernel⟩⟩
theorem ml_X8_137 : Cond.methodLink RX8 137 yX8_lookBits ∈ TB := tb_4 (List.mem_of_getElem? (i := 161) (by decide +kernel)) (by decide +kernel)
theorem ml_X8_143 : Cond.methodLink RX8 143 yX8_isPleased ∈ TB := tb_3 (List.mem_of_getElem? (i := 213) (by decide +kernel)) (by decide +kernel)
theorem ml_X8_146 : Cond.methodLink RX8 146 yJ6_bitCount_0f7a4 ∈ TB := tb_3 (List.mem_of_getElem? (i := 225) (by decide +kernel)) (by decide +kernel)
theorem fl_X9_15 : Cond.fieldLink RX9 15 RX9 (TX9 1).2.1 (TX9 1).2.2.1 ∈ TB := tb_1 (List.mem_of_getElem? (i := 49) (by decide +kernel)) (by decide +kernel)
theorem fg_X9_15 : fg RX9 15 9 1 := ⟨RX9, RX9, TX9, 2, rfl, by decide, tbX9, fl_X9_15, fun _ _ h => h⟩
theorem fl_X9_9 : Cond.fieldLink RX9 9 RX9 (TX9 0).2.1 (TX9 0).2.2.1 ∈ TB := tb_1 (List.mem_of_getElem? (i := 46) (by decide +kernel)) (by decide +kernel)
theorem fg_X9_9 : fg RX9 9 9 0 := ⟨RX9, RX9, TX9, 2, rfl, by decide, tbX9, fl_X9_9, fun _ _ h => h⟩
theorem fp_X9_15 : fp RX9 15 9 1 .int := ⟨RX9, RX9, TX9, 2, tyX9, rfl, by decide, tbX9, fl_X9_15, fun _ _ h => h, tyX9_ok, nmX9, rfl, by decide +kernel⟩
theorem cd_X9_addByte : Cond.code yX9_addByte cX9_addByte 2 none ∈ TB := tb_2 (List.mem_of_getElem? (i := 239) (by decide +kernel)) (by decide +kernel)
theorem in_X9 : Cond.initialized RX9 ∈ TB := tb_1 (List.mem_of_getElem? (i := 3) (by decide +kernel)) (by decide +kernel)
theorem im_X9_addByte : Cond.instanceMethod yX9_addByte ∈ TB := tb_2 (List.mem_of_getElem? (i := 237) (by decide +kernel)) (by decide +kernel)
theorem se_X9_addByte : Cond.selects RX9 yX9_addByte yX9_addByte ∈ TB := tb_2 (List.mem_of_getElem? (i := 238) (by decide +kernel)) (by decide +kernel)
theorem kc_X9_addByte : cV RX9 yX9_addByte cX9_addByte 2 none 1 := ⟨im_X9_addByte, se_X9_addByte, cd_X9_addByte, in_X9, ⟨by decide +kernel, by decide +kernel, by decide +kernel⟩⟩
theorem ml_X9_19 : Cond.methodLink RX9 19 yX9_addByte ∈ TB := tb_2 (List.mem_of_getElem? (i := 236) (by decide +kernel)) (by decide +kernel)
theorem fl_X10_15 : Cond.fieldLink RX10 15 RX10 (TX10 1).2.1 (TX10 1).2.2.1 ∈ TB := tb_2 (List.mem_of_getElem? (i := 154) (by decide +kernel)) (by decide +kernel)
theorem fg_X10_15 : fg RX10 15 10 1 := ⟨RX10, RX10, TX10, 3, rfl, by decide, tbX10, fl_X10_15, fun _ _ h => h⟩
theorem fl_X10_9 : Cond.fieldLink RX10 9 RX10 (TX10 0).2.1 (TX10 0).2.2.1 ∈ TB := tb_2 (List.mem_of_getElem? (i := 152) (by decide +kernel)) (by decide +kernel)
theorem fg_X10_9 : fg RX10 9 10 0 := ⟨RX10, RX10, TX10, 3, rfl, by decide, tbX10, fl_X10_9, fun _ _ h => h⟩
theorem fl_X10_26 : Cond.fieldLink RX10 26 RX10 (TX10 2).2.1 (TX10 2).2.2.1 ∈ TB := tb_2 (List.mem_of_getElem? (i := 156) (by decide +kernel)) (by decide +kernel)
theorem fg_X10_26 : fg RX10 26 10 2 := ⟨RX10, RX10, TX10, 3, rfl, by decide, tbX10, fl_X10_26, fun _ _ h => h⟩
theorem cd_X10_listen : Cond.code yX10_listen cX10_listen 5 none ∈ TB := tb_4 (List.mem_of_getElem? (i := 215) (by decide +kernel)) (by decide +kernel)
theorem in_X10 : Cond.initialized RX10 ∈ TB := tb_1 (List.mem_of_getElem? (i := 16) (by decide +kernel)) (by decide +kernel)
theorem im_X10_listen : Cond.instanceMethod yX10_listen ∈ TB := tb_4 (List.mem_of_getElem? (i := 214) (by decide +kernel)) (by decide +kernel)
theorem se_X10_listen : Cond.selects RX10 yX10_listen yX10_listen ∈ TB := tb_0 (y := yX10_listen) (n := 3) (List.mem_of_getElem? (i := 19) (by decide +kernel)) (by decide +kernel)
theorem kc_X10_listen : cV RX10 yX10_listen cX10_listen 5 none 2 := ⟨im_X10_listen, se_X10_listen, cd_X10_listen, in_X10, ⟨by decide +kernel, by decide +kernel, by decide +kernel⟩⟩
theorem ml_X10_40 : Cond.methodLink RX10 40 yX10_listen ∈ TB := tb_4 (List.mem_of_getElem? (i := 212) (by decide +kernel)) (by decide +kernel)
theorem cd_X10_goRound : Cond.code yX10_goRound cX10_goRound 5 (some .boolean) ∈ TB := tb_4 (List.mem_of_getElem? (i := 211) (by decide +kernel)) (by decide +kernel)
theorem im_X10_goRound : Cond.instanceMethod yX10_goRound ∈ TB := tb_4 (List.mem_of_getElem? (i := 210) (by decide +kernel)) (by decide +kernel)
theorem se_X10_goRound : Cond.selects RX10 yX10_goRound yX10_goRound ∈ TB := tb_0 (y := yX10_goRound) (n := 3) (List.mem_of_getElem? (i := 18) (by decide +kernel)) (by decide +kernel)
theorem kc_X10_goRound : cV RX10 yX10_goRound cX10_goRound 5 (some .boolean) 0 := ⟨im_X10_goRound, se_X10_goRound, cd_X10_goRound, in_X10, ⟨by decide +kernel, by decide +kernel, by decide +kernel⟩⟩
theorem ml_X10_36 : Cond.methodLink RX10 36 yX10_goRound ∈ TB := tb_4 (List.mem_of_getElem? (i := 208) (by decide +kernel)) (by decide +kernel)
theorem fl_X10_19 : Cond.fieldLink RX10 19 RX8 (TX8 7).2.1 (TX8 7).2.2.1 ∈ TB := tb_1 (List.mem_of_getElem? (i := 177) (by decide +kernel)) (by decide +kernel)
theorem fg_X10_19 : fg RX10 19 8 7 := ⟨RX8, RX8, TX8, 15, rfl, by decide, tbX8, fl_X10_19, fun _ _ h => h⟩
theorem fp_X10_15 : fp RX10 15 10 1 .int := ⟨RX10, RX10, TX10, 3, tyX10, rfl, by decide, tbX10, fl_X10_15, fun _ _ h => h, tyX10_ok, nmX10, rfl, by decide +kernel⟩
theorem cd_X8_upBits : Cond.code yX8_upBits cX8_upBits 3 (some .int) ∈ TB := tb_3 (List.mem_of_getElem? (i := 204) (by decide +kernel)) (by decide +kernel)
theorem im_X8_upBits : Cond.instanceMethod yX8_upBits ∈ TB := tb_3 (List.mem_of_getElem? (i := 202) (by decide +kernel)) (by decide +kernel)
theorem se_X8_upBits : Cond.selects RX8 yX8_upBits yX8_upBits ∈ TB := tb_3 (List.mem_of_getElem? (i := 203) (by decide +kernel)) (by decide +kernel)
theorem kc_X8_upBits : cV RX8 yX8_upBits cX8_upBits 3 (some .int) 0 := ⟨im_X8_upBits, se_X8_upBits, cd_X8_upBits, in_X8, ⟨by decide +kernel, by decide +kernel, by decide +kernel⟩⟩
theorem ml_X10_22 : Cond.methodLink RX10 22 yX8_upBits ∈ TB := tb_4 (List.mem_of_getElem? (i := 206) (by decide +kernel)) (by decide +kernel)
theorem fp_X10_26 : fp RX10 26 10 2 .int := ⟨RX10, RX10, TX10, 3, tyX10, rfl, by decide, tbX10, fl_X10_26, fun _ _ h => h, tyX10_ok, nmX10, rfl, by decide +kernel⟩
theorem fl_X10_29 : Cond.fieldLink RX10 29 RX8 (TX8 9).2.1 (TX8 9).2.2.1 ∈ TB := tb_1 (List.mem_of_getElem? (i := 184) (by decide +kernel)) (by decide +kernel)
theorem fg_X10_29 : fg RX10 29 8 9 := ⟨RX8, RX8, TX8, 15, rfl, by decide, tbX8, fl_X10_29, fun _ _ h => h⟩
theorem ml_X10_30 : Cond.methodLink RX10 30 arraycopyName ∈ TB := tb_4 (List.mem_of_getElem? (i := 207) (by decide +kernel)) (by decide +kernel)
theorem fl_X11_20 : Cond.fieldLink RX11 20 RX11 (TX11 1).2.1 (TX11 1).2.2.1 ∈ TB := tb_2 (List.mem_of_getElem? (i := 177) (by decide +kernel)) (by decide +kernel)
theorem fg_X11_20 : fg RX11 20 11 1 := ⟨RX11, RX11, TX11, 17, rfl, by decide, tbX11, fl_X11_20, fun _ _ h => h⟩
theorem fl_X11_111 : Cond.fieldLink RX11 111 RX9 (TX9 1).2.1 (TX9 1).2.2.1 ∈ TB := tb_1 (List.mem_of_getElem? (i := 50) (by decide +kernel)) (by decide +kernel)
theorem fg_X11_111 : fg RX11 111 9 1 := ⟨RX9, RX9, TX9, 2, rfl, by decide, tbX9, fl_X11_111, fun _ _ h => h⟩
theorem cd_X9_addNumber : Cond.code yX9_addNumber cX9_addNumber 3 none ∈ TB := tb_2 (List.mem_of_getElem? (i := 235) (by decide +kernel)) (by decide +kernel)
theorem im_X9_addNumber : Cond.instanceMethod yX9_addNumber ∈ TB := tb_2 (List.mem_of_getElem? (i := 233) (by decide +kernel)) (by decide +kernel)
theorem se_X9_addNumber : Cond.selects RX9 yX9_addNumber yX9_addNumber ∈ TB := tb_2 (List.mem_of_getElem? (i := 234) (by decide +kernel)) (by decide +kernel)
theorem kc_X9_addNumber : cV RX9 yX9_addNumber cX9_addNumber 3 none 1 := ⟨im_X9_addNumber, se_X9_addNumber, cd_X9_addNumber, in_X9, ⟨by decide +kernel, by decide +kernel, by decide +kernel⟩⟩
theorem ml_X11_114 : Cond.methodLink RX11 114 yX9_addNumber ∈ TB := tb_2 (List.mem_of_getElem? (i := 232) (by decide +kernel)) (by decide +kernel)
theorem fp_X11_111 : fp RX11 111 9 1 .int := ⟨RX9, RX9, TX9, 2, tyX9, rfl, by decide, tbX9, fl_X11_111, fun _ _ h => h, tyX9_ok, nmX9, rfl, by decide +kernel⟩
theorem fl_X11_10 : Cond.fieldLink RX11 10 RX11 (TX11 0).2.1 (TX11 0).2.2.1 ∈ TB := tb_2 (List.mem_of_getElem? (i := 176) (by decide +kernel)) (by decide +kernel)
theorem fg_X11_10 : fg RX11 10 11 0 := ⟨RX11, RX11, TX11, 17, rfl, by decide, tbX11, fl_X11_10, fun _ _ h => h⟩
theorem fl_X11_372 : Cond.fieldLink RX11 372 RX5 (TX5 8).2.1 (TX5 8).2.2.1 ∈ TB := tb_1 (List.mem_of_getElem? (i := 127) (by decide +kernel)) (by decide +kernel)
theorem fg_X11_372 : fg RX11 372 5 8 := ⟨RX5, RX5, TX5, 10, rfl, by decide, tbX5, fl_X11_372, fun _ _ h => h⟩
theorem fl_X11_104 : Cond.fieldLink RX11 104 RX11 (TX11 15).2.1 (TX11 15).2.2.1 ∈ TB := tb_2 (List.mem_of_getElem? (i := 191) (by decide +kernel)) (by decide +kernel)
theorem fg_X11_104 : fg RX11 104 11 15 := ⟨RX11, RX11, TX11, 17, rfl, by decide, tbX11, fl_X11_104, fun _ _ h => h⟩
theorem fp_X11_104 : fp RX11 104 11 15 .int := ⟨RX11, RX11, TX11, 17, tyX11, rfl, by decide, tbX11, fl_X11_104, fun _ _ h => h, tyX11_ok, nmX11, rfl, by decide +kernel⟩
theorem fl_X11_30 : Cond.fieldLink RX11 30 RX11 (TX11 3).2.1 (TX11 3).2.2.1 ∈ TB := tb_2 (List.mem_of_getElem? (i := 179) (by decide +kernel)) (by decide +kernel)
theorem fg_X11_30 : fg RX11 30 11 3 := ⟨RX11, RX11, TX11, 17, rfl, by decide, tbX11, fl_X11_30, fun _ _ h => h⟩
theorem cd_X8_readFrom : Cond.code yX8_readFrom cX8_readFrom 3 (some .int) ∈ TB := tb_3 (List.mem_of_getElem? (i := 11) (by decide +kernel)) (by decide +kernel)
theorem im_X8_readFrom : Cond.instanceMethod yX8_readFrom ∈ TB := tb_3 (List.mem_of_getElem? (i := 9) (by decide +kernel)) (by decide +kernel)
theorem se_X8_readFrom : Cond.selects RX8 yX8_readFrom yX8_readFrom ∈ TB := tb_3 (List.mem_of_getElem? (i := 10) (by decide +kernel)) (by decide +kernel)
theorem kc_X8_readFrom : cV RX8 yX8_readFrom cX8_readFrom 3 (some .int) 1 := ⟨im_X8_readFrom, se_X8_readFrom, cd_X8_readFrom, in_X8, ⟨by decide +kernel, by decide +kernel, by decide +kernel⟩⟩
theorem ml_X11_117 : Cond.methodLink RX11 117 yX8_readFrom ∈ TB := tb_3 (List.mem_of_getElem? (i := 8) (by decide +kernel)) (by decide +kernel)
theorem cd_X11_closeText : Cond.code yX11_closeText cX11_closeText 1 none ∈ TB := tb_3 (List.mem_of_getElem? (i := 144) (by decide +kernel)) (by decide +kernel)
theorem im_X11_closeText : Cond.instanceMethod yX11_closeText ∈ TB := tb_3 (List.mem_of_getElem? (i := 143) (by decide +kernel)) (by decide +kernel)
theorem se_X11_closeText : Cond.selects RX11 yX11_closeText yX11_closeText ∈ TB := tb_0 (y := yX11_closeText) (n := 17) (List.mem_of_getElem? (i := 9) (by decide +kernel)) (by decide +kernel)
theorem kc_X11_closeText : cV RX11 yX11_closeText cX11_closeText 1 none 0 := ⟨im_X11_closeText, se_X11_closeText, cd_X11_closeText, in_X11, ⟨by decide +kernel, by decide +kernel, by decide +kernel⟩⟩
theorem ml_X11_121 : Cond.methodLink RX11 121 yX11_closeText ∈ TB := tb_3 (List.mem_of_getElem? (i := 141) (by decide +kernel)) (by decide +kernel)
theorem fl_X11_26 : Cond.fieldLink RX11 26 RX11 (TX11 2).2.1 (TX11 2).2.2.1 ∈ TB := tb_2 (List.mem_of_getElem? (i := 178) (by decide +kernel)) (by decide +kernel)
theorem fg_X11_26 : fg RX11 26 11 2 := ⟨RX11, RX11, TX11, 17, rfl, by decide, tbX11, fl_X11_26, fun _ _ h => h⟩
theorem cd_X8_copyFrom : Cond.code yX8_copyFrom cX8_copyFrom 2 none ∈ TB := tb_3 (List.mem_of_getElem? (i := 148) (by decide +kernel)) (by decide +kernel)
theorem im_X8_copyFrom : Cond.instanceMethod yX8_copyFrom ∈ TB := tb_3 (List.mem_of_getElem? (i := 146) (by decide +kernel)) (by decide +kernel)
theorem se_X8_copyFrom : Cond.selects RX8 yX8_copyFrom yX8_copyFrom ∈ TB := tb_3 (List.mem_of_getElem? (i := 147) (by decide +kernel)) (by decide +kernel)
theorem kc_X8_copyFrom : cV RX8 yX8_copyFrom cX8_copyFrom 2 none 1 := ⟨im_X8_copyFrom, se_X8_copyFrom, cd_X8_copyFrom, in_X8, ⟨by decide +kernel, by decide +kernel, by decide +kernel⟩⟩
theorem ml_X11_127 : Cond.methodLink RX11 127 yX8_copyFrom ∈ TB := tb_3 (List.mem_of_getElem? (i := 145) (by decide +kernel)) (by decide +kernel)
theorem fl_X11_36 : Cond.fieldLink RX11 36 RX11 (TX11 4).2.1 (TX11 4).2.2.1 ∈ TB := tb_2 (List.mem_of_getElem? (i := 180) (by decide +kernel)) (by decide +kernel)
theorem fg_X11_36 : fg RX11 36 11 4 := ⟨RX11, RX11, TX11, 17, rfl, by decide, tbX11, fl_X11_36, fun _ _ h => h⟩
theorem ml_X11_131 : Cond.methodLink RX11 131 yX7_empty ∈ TB := tb_3 (List.mem_of_getElem? (i := 152) (by decide +kernel)) (by decide +kernel)
theorem fl_X11_53 : Cond.fieldLink RX11 53 RX11 (TX11 7).2.1 (TX11 7).2.2.1 ∈ TB := tb_2 (List.mem_of_getElem? (i := 183) (by decide +kernel)) (by decide +kernel)
theorem fg_X11_53 : fg RX11 53 11 7 := ⟨RX11, RX11, TX11, 17, rfl, by decide, tbX11, fl_X11_53, fun _ _ h => h⟩
theorem cd_X2_forget : Cond.code yX2_forget cX2_forget 1 none ∈ TB := tb_3 (List.mem_of_getElem? (i := 159) (by decide +kernel)) (by decide +kernel)
theorem in_X2 : Cond.initialized RX2 ∈ TB := tb_1 (List.mem_of_getElem? (i := 11) (by decide +kernel)) (by decide +kernel)
theorem im_X2_forget : Cond.instanceMethod yX2_forget ∈ TB := tb_3 (List.mem_of_getElem? (i := 157) (by decide +kernel)) (by decide +kernel)
theorem se_X2_forget : Cond.selects RX2 yX2_forget yX2_forget ∈ TB := tb_3 (List.mem_of_getElem? (i := 158) (by decide +kernel)) (by decide +kernel)
theorem kc_X2_forget : cV RX2 yX2_forget cX2_forget 1 none 0 := ⟨im_X2_forget, se_X2_forget, cd_X2_forget, in_X2, ⟨by decide +kernel, by decide +kernel, by decide +kernel⟩⟩
theorem ml_X11_134 : Cond.methodLink RX11 134 yX2_forget ∈ TB := tb_3 (List.mem_of_getElem? (i := 156) (by decide +kernel)) (by decide +kernel)
theorem fl_X11_124 : Cond.fieldLink RX11 124 RX5 (TX5 9).2.1 (TX5 9).2.2.1 ∈ TB := tb_1 (List.mem_of_getElem? (i := 129) (by decide +kernel)) (by decide +kernel)
theorem fg_X11_124 : fg RX11 124 5 9 := ⟨RX5, RX5, TX5, 10, rfl, by decide, tbX5, fl_X11_124, fun _ _ h => h⟩
theorem cd_X8_hasTurret : Cond.code yX8_hasTurret cX8_hasTurret 2 (some .boolean) ∈ TB := tb_3 (List.mem_of_getElem? (i := 171) (by decide +kernel)) (by decide +kernel)
theorem im_X8_hasTurret : Cond.instanceMethod yX8_hasTurret ∈ TB := tb_3 (List.mem_of_getElem? (i := 169) (by decide +kernel)) (by decide +kernel)
theorem se_X8_hasTurret : Cond.selects RX8 yX8_hasTurret yX8_hasTurret ∈ TB := tb_3 (List.mem_of_getElem? (i := 170) (by decide +kernel)) (by decide +kernel)
theorem kc_X8_hasTurret : cV RX8 yX8_hasTurret cX8_hasTurret 2 (some .boolean) 1 := ⟨im_X8_hasTurret, se_X8_hasTurret, cd_X8_hasTurret, in_X8, ⟨by decide +kernel, by decide +kernel, by decide +kernel⟩⟩
theorem ml_X11_172 : Cond.methodLink RX11 172 yX8_hasTurret ∈ TB := tb_3 (List.mem_of_getElem? (i := 168) (by decide +kernel)) (by decide +kernel)
theorem fl_X11_175 : Cond.fieldLink RX11 175 RX8 (TX8 2).2.1 (TX8 2).2.2.1 ∈ TB := tb_1 (List.mem_of_getElem? (i := 167) (by decide +kernel)) (by decide +kernel)
theorem fg_X11_175 : fg RX11 175 8 2 := ⟨RX8, RX8, TX8, 15, rfl, by decide, tbX8, fl_X11_175, fun _ _ h => h⟩
theorem fl_X11_178 : Cond.fieldLink RX11 178 RX8 (TX8 3).2.1 (TX8 3).2.2.1 ∈ TB := tb_1 (List.mem_of_getElem? (i := 169) (by decide +kernel)) (by decide +kernel)
theorem fg_X11_178 : fg RX11 178 8 3 := ⟨RX8, RX8, TX8, 15, rfl, by decide, tbX8, fl_X11_178, fun _ _ h => h⟩
theorem fl_X11_181 : Cond.fieldLink RX11 181 RX8 (TX8 4).2.1 (TX8 4).2.2.1 ∈ TB := tb_1 (List.mem_of_getElem? (i := 171) (by decide +kernel)) (by decide +kernel)
theorem fg_X11_181 : fg RX11 181 8 4 := ⟨RX8, RX8, TX8, 15, rfl, by decide, tbX8, fl_X11_181, fun _ _ h => h⟩
theorem fl_X11_184 : Cond.fieldLink RX11 184 RX8 (TX8 5).2.1 (TX8 5).2.2.1 ∈ TB := tb_1 (List.mem_of_getElem? (i := 173) (by decide +kernel)) (by decide +kernel)
theorem fg_X11_184 : fg RX11 184 8 5 := ⟨RX8, RX8, TX8, 15, rfl, by decide, tbX8, fl_X11_184, fun _ _ h => h⟩
theorem fl_X11_187 : Cond.fieldLink RX11 187 RX8 (TX8 6).2.1 (TX8 6).2.2.1 ∈ TB := tb_1 (List.mem_of_getElem? (i := 175) (by decide +kernel)) (by decide +kernel)
theorem fg_X11_187 : fg RX11 187 8 6 := ⟨RX8, RX8, TX8, 15, rfl, by decide, tbX8, fl_X11_187, fun _ _ h => h⟩
theorem ml_X11_190 : Cond.methodLink RX11 190 yX8_whoIsUp ∈ TB := tb_3 (List.mem_of_getElem? (i := 172) (by decide +kernel)) (by decide +kernel)
theorem ml_X11_193 : Cond.methodLink RX11 193 yX8_lookBits ∈ TB := tb_3 (List.mem_of_getElem? (i := 176) (by decide +kernel)) (by decide +kernel)
theorem ml_X11_196 : Cond.methodLink RX11 196 yX8_lookCount ∈ TB := tb_3 (List.mem_of_getElem? (i := 195) (by decide +kernel)) (by decide +kernel)
theorem ml_X11_199 : Cond.methodLink RX11 199 yX8_lookAt ∈ TB := tb_3 (List.mem_of_getElem? (i := 196) (by decide +kernel)) (by decide +kernel)
theorem fl_X11_203 : Cond.fieldLink RX11 203 RX8 (TX8 14).2.1 (TX8 14).2.2.1 ∈ TB := tb_1 (List.mem_of_getElem? (i := 203) (by decide +kernel)) (by decide +kernel)
theorem fg_X11_203 : fg RX11 203 8 14 := ⟨RX8, RX8, TX8, 15, rfl, by decide, tbX8, fl_X11_203, fun _ _ h => h⟩
theorem ml_X11_206 : Cond.methodLink RX11 206 yX8_upBits ∈ TB := tb_3 (List.mem_of_getElem? (i := 201) (by decide +kernel)) (by decide +kernel)
theorem cd_X8_mildBits : Cond.code yX8_mildBits cX8_mildBits 3 (some .int) ∈ TB := tb_3 (List.mem_of_getElem? (i := 208) (by decide +kernel)) (by decide +kernel)
theorem im_X8_mildBits : Cond.instanceMethod yX8_mildBits ∈ TB := tb_3 (List.mem_of_getElem? (i := 206) (by decide +kernel)) (by decide +kernel)
theorem se_X8_mildBits : Cond.selects RX8 yX8_mildBits yX8_mildBits ∈ TB := tb_3 (List.mem_of_getElem? (i := 207) (by decide +kernel)) (by decide +kernel)
theorem kc_X8_mildBits : cV RX8 yX8_mildBits cX8_mildBits 3 (some .int) 0 := ⟨im_X8_mildBits, se_X8_mildBits, cd_X8_mildBits, in_X8, ⟨by decide +kernel, by decide +kernel, by decide +kernel⟩⟩
theorem ml_X11_210 : Cond.methodLink RX11 210 yX8_mildBits ∈ TB := tb_3 (List.mem_of_getElem? (i := 205) (by decide +kernel)) (by decide +kernel)
theorem cd_X8_pleasedBits : Cond.code yX8_pleasedBits cX8_pleasedBits 3 (some .int) ∈ TB := tb_3 (List.mem_of_getElem? (i := 212) (by decide +kernel)) (by decide +kernel)
theorem im_X8_pleasedBits : Cond.instanceMethod yX8_pleasedBits ∈ TB := tb_3 (List.mem_of_getElem? (i := 210) (by decide +kernel)) (by decide +kernel)
theorem se_X8_pleasedBits : Cond.selects RX8 yX8_pleasedBits yX8_pleasedBits ∈ TB := tb_3 (List.mem_of_getElem? (i := 211) (by decide +kernel)) (by decide +kernel)
theorem kc_X8_pleasedBits : cV RX8 yX8_pleasedBits cX8_pleasedBits 3 (some .int) 0 := ⟨im_X8_pleasedBits, se_X8_pleasedBits, cd_X8_pleasedBits, in_X8, ⟨by decide +kernel, by decide +kernel, by decide +kernel⟩⟩
theorem ml_X11_213 : Cond.methodLink RX11 213 yX8_pleasedBits ∈ TB := tb_3 (List.mem_of_getElem? (i := 209) (by decide +kernel)) (by decide +kernel)
theorem cd_X8_allClimbs : Cond.code yX8_allClimbs cX8_allClimbs 3 (some .int) ∈ TB := tb_3 (List.mem_of_getElem? (i := 220) (by decide +kernel)) (by decide +kernel)
theorem im_X8_allClimbs : Cond.instanceMethod yX8_allClimbs ∈ TB := tb_3 (List.mem_of_getElem? (i := 218) (by decide +kernel)) (by decide +kernel)
theorem se_X8_allClimbs : Cond.selects RX8 yX8_allClimbs yX8_allClimbs ∈ TB := tb_3 (List.mem_of_getElem? (i := 219) (by decide +kernel)) (by decide +kernel)
theorem kc_X8_allClimbs : cV RX8 yX8_allClimbs cX8_allClimbs 3 (some .int) 0 := ⟨im_X8_allClimbs, se_X8_allClimbs, cd_X8_allClimbs, in_X8, ⟨by decide +kernel, by decide +kernel, by decide +kernel⟩⟩
theorem ml_X11_216 : Cond.methodLink RX11 216 yX8_allClimbs ∈ TB := tb_3 (List.mem_of_getElem? (i := 217) (by decide +kernel)) (by decide +kernel)
theorem cd_X8_allViews : Cond.code yX8_allViews cX8_allViews 3 (some .int) ∈ TB := tb_3 (List.mem_of_getElem? (i := 224) (by decide +kernel)) (by decide +kernel)
theorem im_X8_allViews : Cond.instanceMethod yX8_allViews ∈ TB := tb_3 (List.mem_of_getElem? (i := 222) (by decide +kernel)) (by decide +kernel)
theorem se_X8_allViews : Cond.selects RX8 yX8_allViews yX8_allViews ∈ TB := tb_3 (List.mem_of_getElem? (i := 223) (by decide +kernel)) (by decide +kernel)
theorem kc_X8_allViews : cV RX8 yX8_allViews cX8_allViews 3 (some .int) 0 := ⟨im_X8_allViews, se_X8_allViews, cd_X8_allViews, in_X8, ⟨by decide +kernel, by decide +kernel, by decide +kernel⟩⟩
theorem ml_X11_219 : Cond.methodLink RX11 219 yX8_allViews ∈ TB := tb_3 (List.mem_of_getElem? (i := 221) (by decide +kernel)) (by decide +kernel)
theorem cd_X2_keep : Cond.code yX2_keep cX2_keep 1 none ∈ TB := tb_4 (List.mem_of_getElem? (i := 24) (by decide +kernel)) (by decide +kernel)
theorem im_X2_keep : Cond.instanceMethod yX2_keep ∈ TB := tb_4 (List.mem_of_getElem? (i := 22) (by decide +kernel)) (by decide +kernel)
theorem se_X2_keep : Cond.selects RX2 yX2_keep yX2_keep ∈ TB := tb_4 (List.mem_of_getElem? (i := 23) (by decide +kernel)) (by decide +kernel)
theorem kc_X2_keep : cV RX2 yX2_keep cX2_keep 1 none 0 := ⟨im_X2_keep, se_X2_keep, cd_X2_keep, in_X2, ⟨by decide +kernel, by decide +kernel, by decide +kernel⟩⟩
theorem ml_X11_375 : Cond.methodLink RX11 375 yX2_keep ∈ TB := tb_4 (List.mem_of_getElem? (i := 21) (by decide +kernel)) (by decide +kernel)
theorem ml_X11_259 : Cond.methodLink RX11 259 yX8_afterClimb ∈ TB := tb_4 (List.mem_of_getElem? (i := 102) (by decide +kernel)) (by decide +kernel)
theorem cd_X8_hasPerson : Cond.code yX8_hasPerson cX8_hasPerson 2 (some .boolean) ∈ TB := tb_3 (List.mem_of_getElem? (i := 238) (by decide +kernel)) (by decide +kernel)
theorem im_X8_hasPerson : Cond.instanceMethod yX8_hasPerson ∈ TB := tb_3 (List.mem_of_getElem? (i := 236) (by decide +kernel)) (by decide +kernel)
theorem se_X8_hasPerson : Cond.selects RX8 yX8_hasPerson yX8_hasPerson ∈ TB := tb_3 (List.mem_of_getElem? (i := 237) (by decide +kernel)) (by decide +kernel)
theorem kc_X8_hasPerson : cV RX8 yX8_hasPerson cX8_hasPerson 2 (some .boolean) 1 := ⟨im_X8_hasPerson, se_X8_hasPerson, cd_X8_hasPerson, in_X8, ⟨by decide +kernel, by decide +kernel, by decide +kernel⟩⟩
theorem ml_X11_137 : Cond.methodLink RX11 137 yX8_hasPerson ∈ TB := tb_3 (List.mem_of_getElem? (i := 235) (by decide +kernel)) (by decide +kernel)
theorem fl_X11_67 : Cond.fieldLink RX11 67 RX11 (TX11 9).2.1 (TX11 9).2.2.1 ∈ TB := tb_2 (List.mem_of_getElem? (i := 185) (by decide +kernel)) (by decide +kernel)
theorem fg_X11_67 : fg RX11 67 11 9 := ⟨RX11, RX11, TX11, 17, rfl, by decide, tbX11, fl_X11_67, fun _ _ h => h⟩
theorem cd_X6_findSoonest : Cond.code yX6_findSoonest cX6_findSoonest 10 (some .int) ∈ TB := tb_4 (List.mem_of_getElem? (i := 110) (by decide +kernel)) (by decide +kernel)
theorem im_X6_findSoonest : Cond.instanceMethod yX6_findSoonest ∈ TB := tb_4 (List.mem_of_getElem? (i := 108) (by decide +kernel)) (by decide +kernel)
theorem se_X6_findSoonest : Cond.selects RX6 yX6_findSoonest yX6_findSoonest ∈ TB := tb_4 (List.mem_of_getElem? (i := 109) (by decide +kernel)) (by decide +kernel)
theorem kc_X6_findSoonest : cV RX6 yX6_findSoonest cX6_findSoonest 10 (some .int) 2 := ⟨im_X6_findSoonest, se_X6_findSoonest, cd_X6_findSoonest, in_X6, ⟨by decide +kernel, by decide +kernel, by decide +kernel⟩⟩
theorem ml_X11_262 : Cond.methodLink RX11 262 yX6_findSoonest ∈ TB := tb_4 (List.mem_of_getElem? (i := 107) (by decide +kernel)) (by decide +kernel)
theorem fl_X11_266 : Cond.fieldLink RX11 266 RX6 (TX6 4).2.1 (TX6 4).2.2.1 ∈ TB := tb_2 (List.mem_of_getElem? (i := 97) (by decide +kernel)) (by decide +kernel)
theorem fg_X11_266 : fg RX11 266 6 4 := ⟨RX6, RX6, TX6, 8, rfl, by decide, tbX6, fl_X11_266, fun _ _ h => h⟩
theorem fl_X11_269 : Cond.fieldLink RX11 269 RX6 (TX6 3).2.1 (TX6 3).2.2.1 ∈ TB := tb_2 (List.mem_of_getElem? (i := 95) (by decide +kernel)) (by decide +kernel)
theorem fg_X11_269 : fg RX11 269 6 3 := ⟨RX6, RX6, TX6, 8, rfl, by decide, tbX6, fl_X11_269, fun _ _ h => h⟩
theorem fl_X11_272 : Cond.fieldLink RX11 272 RX9 (TX9 0).2.1 (TX9 0).2.2.1 ∈ TB := tb_1 (List.mem_of_getElem? (i := 48) (by decide +kernel)) (by decide +kernel)
theorem fg_X11_272 : fg RX11 272 9 0 := ⟨RX9, RX9, TX9, 2, rfl, by decide, tbX9, fl_X11_272, fun _ _ h => h⟩
theorem cd_X6_countMade : Cond.code yX6_countMade cX6_countMade 8 (some .int) ∈ TB := tb_4 (List.mem_of_getElem? (i := 132) (by decide +kernel)) (by decide +kernel)
theorem im_X6_countMade : Cond.instanceMethod yX6_countMade ∈ TB := tb_4 (List.mem_of_getElem? (i := 130) (by decide +kernel)) (by decide +kernel)
theorem se_X6_countMade : Cond.selects RX6 yX6_countMade yX6_countMade ∈ TB := tb_4 (List.mem_of_getElem? (i := 131) (by decide +kernel)) (by decide +kernel)
theorem kc_X6_countMade : cV RX6 yX6_countMade cX6_countMade 8 (some .int) 3 := ⟨im_X6_countMade, se_X6_countMade, cd_X6_countMade, in_X6, ⟨by decide +kernel, by decide +kernel, by decide +kernel⟩⟩
theorem ml_X11_275 : Cond.methodLink RX11 275 yX6_countMade ∈ TB := tb_4 (List.mem_of_getElem? (i := 129) (by decide +kernel)) (by decide +kernel)
theorem fl_X11_279 : Cond.fieldLink RX11 279 RX6 (TX6 7).2.1 (TX6 7).2.2.1 ∈ TB := tb_2 (List.mem_of_getElem? (i := 102) (by decide +kernel)) (by decide +kernel)
theorem fg_X11_279 : fg RX11 279 6 7 := ⟨RX6, RX6, TX6, 8, rfl, by decide, tbX6, fl_X11_279, fun _ _ h => h⟩
theorem fl_X11_282 : Cond.fieldLink RX11 282 RX6 (TX6 6).2.1 (TX6 6).2.2.1 ∈ TB := tb_2 (List.mem_of_getElem? (i := 100) (by decide +kernel)) (by decide +kernel)
theorem fg_X11_282 : fg RX11 282 6 6 := ⟨RX6, RX6, TX6, 8, rfl, by decide, tbX6, fl_X11_282, fun _ _ h => h⟩
theorem fl_X11_285 : Cond.fieldLink RX11 285 RX8 (TX8 7).2.1 (TX8 7).2.2.1 ∈ TB := tb_1 (List.mem_of_getElem? (i := 180) (by decide +kernel)) (by decide +kernel)
theorem fg_X11_285 : fg RX11 285 8 7 := ⟨RX8, RX8, TX8, 15, rfl, by decide, tbX8, fl_X11_285, fun _ _ h => h⟩
theorem cd_X8_howManyHave : Cond.code yX8_howManyHave cX8_howManyHave 4 (some .int) ∈ TB := tb_4 (List.mem_of_getElem? (i := 150) (by decide +kernel)) (by decide +kernel)
theorem im_X8_howManyHave : Cond.instanceMethod yX8_howManyHave ∈ TB := tb_4 (List.mem_of_getElem? (i := 148) (by decide +kernel)) (by decide +kernel)
theorem se_X8_howManyHave : Cond.selects RX8 yX8_howManyHave yX8_howManyHave ∈ TB := tb_4 (List.mem_of_getElem? (i := 149) (by decide +kernel)) (by decide +kernel)
theorem kc_X8_howManyHave : cV RX8 yX8_howManyHave cX8_howManyHave 4 (some .int) 1 := ⟨im_X8_howManyHave, se_X8_howManyHave, cd_X8_howManyHave, in_X8, ⟨by decide +kernel, by decide +kernel, by decide +kernel⟩⟩
theorem ml_X11_288 : Cond.methodLink RX11 288 yX8_howManyHave ∈ TB := tb_4 (List.mem_of_getElem? (i := 147) (by decide +kernel)) (by decide +kernel)
theorem ml_X11_291 : Cond.methodLink RX11 291 Lib.Math.max.name ∈ TB := tb_4 (List.mem_of_getElem? (i := 151) (by decide +kernel)) (by decide +kernel)
theorem fl_X11_296 : Cond.fieldLink RX11 296 RX8 (TX8 0).2.1 (TX8 0).2.2.1 ∈ TB := tb_1 (List.mem_of_getElem? (i := 163) (by decide +kernel)) (by decide +kernel)
theorem fg_X11_296 : fg RX11 296 8 0 := ⟨RX8, RX8, TX8, 15, rfl, by decide, tbX8, fl_X11_296, fun _ _ h => h⟩
theorem fl_X11_108 : Cond.fieldLink RX11 108 RX11 (TX11 16).2.1 (TX11 16).2.2.1 ∈ TB := tb_2 (List.mem_of_getElem? (i := 192) (by decide +kernel)) (by decide +kernel)
theorem fg_X11_108 : fg RX11 108 11 16 := ⟨RX11, RX11, TX11, 17, rfl, by decide, tbX11, fl_X11_108, fun _ _ h => h⟩
theorem fp_X11_108 : fp RX11 108 11 16 .int := ⟨RX11, RX11, TX11, 17, tyX11, rfl, by decide, tbX11, fl_X11_108, fun _ _ h => h, tyX11_ok, nmX11, rfl, by decide +kernel⟩
theorem ml_X11_299 : Cond.methodLink RX11 299 yJ6_bitCount_0f7a4 ∈ TB := tb_4 (List.mem_of_getElem? (i := 156) (by decide +kernel)) (by decide +kernel)
theorem cd_X8_lookBitsOfAll : Cond.code yX8_lookBitsOfAll cX8_lookBitsOfAll 4 (some .int) ∈ TB := tb_4 (List.mem_of_getElem? (i := 160) (by decide +kernel)) (by decide +kernel)
theorem im_X8_lookBitsOfAll : Cond.instanceMethod yX8_lookBitsOfAll ∈ TB := tb_4 (List.mem_of_getElem? (i := 158) (by decide +kernel)) (by decide +kernel)
theorem se_X8_lookBitsOfAll : Cond.selects RX8 yX8_lookBitsOfAll yX8_lookBitsOfAll ∈ TB := tb_4 (List.mem_of_getElem? (i := 159) (by decide +kernel)) (by decide +kernel)
theorem kc_X8_lookBitsOfAll : cV RX8 yX8_lookBitsOfAll cX8_lookBitsOfAll 4 (some .int) 1 := ⟨im_X8_lookBitsOfAll, se_X8_lookBitsOfAll, cd_X8_lookBitsOfAll, in_X8, ⟨by decide +kernel, by decide +kernel, by decide +kernel⟩⟩
theorem ml_X11_304 : Cond.methodLink RX11 304 yX8_lookBitsOfAll ∈ TB := tb_4 (List.mem_of_getElem? (i := 157) (by decide +kernel)) (by decide +kernel)
theorem fl_X11_74 : Cond.fieldLink RX11 74 RX11 (TX11 10).2.1 (TX11 10).2.2.1 ∈ TB := tb_2 (List.mem_of_getElem? (i := 186) (by decide +kernel)) (by decide +kernel)
theorem fg_X11_74 : fg RX11 74 11 10 := ⟨RX11, RX11, TX11, 17, rfl, by decide, tbX11, fl_X11_74, fun _ _ h => h⟩
theorem cd_X4_plan : Cond.code yX4_plan cX4_plan 5 (some .int) ∈ TB := tb_4 (List.mem_of_getElem? (i := 173) (by decide +kernel)) (by decide +kernel)
theorem im_X4_plan : Cond.instanceMethod yX4_plan ∈ TB := tb_4 (List.mem_of_getElem? (i := 171) (by decide +kernel)) (by decide +kernel)
theorem se_X4_plan : Cond.selects RX4 yX4_plan yX4_plan ∈ TB := tb_4 (List.mem_of_getElem? (i := 172) (by decide +kernel)) (by decide +kernel)
theorem kc_X4_plan : cV RX4 yX4_plan cX4_plan 5 (some .int) 1 := ⟨im_X4_plan, se_X4_plan, cd_X4_plan, in_X4, ⟨by decide +kernel, by decide +kernel, by decide +kernel⟩⟩
theorem ml_X11_307 : Cond.methodLink RX11 307 yX4_plan ∈ TB := tb_4 (List.mem_of_getElem? (i := 170) (by decide +kernel)) (by decide +kernel)
theorem fl_X11_311 : Cond.fieldLink RX11 311 RX4 (TX4 4).2.1 (TX4 4).2.2.1 ∈ TB := tb_2 (List.mem_of_getElem? (i := 134) (by decide +kernel)) (by decide +kernel)
theorem fg_X11_311 : fg RX11 311 4 4 := ⟨RX4, RX4, TX4, 5, rfl, by decide, tbX4, fl_X11_311, fun _ _ h => h⟩
theorem fl_X11_81 : Cond.fieldLink RX11 81 RX11 (TX11 11).2.1 (TX11 11).2.2.1 ∈ TB := tb_2 (List.mem_of_getElem? (i := 187) (by decide +kernel)) (by decide +kernel)
theorem fg_X11_81 : fg RX11 81 11 11 := ⟨RX11, RX11, TX11, 17, rfl, by decide, tbX11, fl_X11_81, fun _ _ h => h⟩
theorem cd_X10_sit : Cond.code yX10_sit cX10_sit 4 (some .int) ∈ TB := tb_4 (List.mem_of_getElem? (i := 205) (by decide +kernel)) (by decide +kernel)
theorem im_X10_sit : Cond.instanceMethod yX10_sit ∈ TB := tb_4 (List.mem_of_getElem? (i := 203) (by decide +kernel)) (by decide +kernel)
theorem se_X10_sit : Cond.selects RX10 yX10_sit yX10_sit ∈ TB := tb_4 (List.mem_of_getElem? (i := 204) (by decide +kernel)) (by decide +kernel)
theorem kc_X10_sit : cV RX10 yX10_sit cX10_sit 4 (some .int) 1 := ⟨im_X10_sit, se_X10_sit, cd_X10_sit, in_X10, ⟨by decide +kernel, by decide +kernel, by decide +kernel⟩⟩
theorem ml_X11_314 : Cond.methodLink RX11 314 yX10_sit ∈ TB := tb_4 (List.mem_of_getElem? (i := 202) (by decide +kernel)) (by decide +kernel)
theorem fl_X11_317 : Cond.fieldLink RX11 317 RX10 (TX10 1).2.1 (TX10 1).2.2.1 ∈ TB := tb_2 (List.mem_of_getElem? (i := 155) (by decide +kernel)) (by decide +kernel)
theorem fg_X11_317 : fg RX11 317 10 1 := ⟨RX10, RX10, TX10, 3, rfl, by decide, tbX10, fl_X11_317, fun _ _ h => h⟩
theorem fl_X11_318 : Cond.fieldLink RX11 318 RX10 (TX10 0).2.1 (TX10 0).2.2.1 ∈ TB := tb_2 (List.mem_of_getElem? (i := 153) (by decide +kernel)) (by decide +kernel)
theorem fg_X11_318 : fg RX11 318 10 0 := ⟨RX10, RX10, TX10, 3, rfl, by decide, tbX10, fl_X11_318, fun _ _ h => h⟩
theorem ml_X11_319 : Cond.methodLink RX11 319 yX11_allRound ∈ TB := tb_4 (List.mem_of_getElem? (i := 226) (by decide +kernel)) (by decide +kernel)
theorem fl_X11_97 : Cond.fieldLink RX11 97 RX11 (TX11 13).2.1 (TX11 13).2.2.1 ∈ TB := tb_2 (List.mem_of_getElem? (i := 189) (by decide +kernel)) (by decide +kernel)
theorem fg_X11_97 : fg RX11 97 11 13 := ⟨RX11, RX11, TX11, 17, rfl, by decide, tbX11, fl_X11_97, fun _ _ h => h⟩
theorem fl_X11_88 : Cond.fieldLink RX11 88 RX11 (TX11 12).2.1 (TX11 12).2.2.1 ∈ TB := tb_2 (List.mem_of_getElem? (i := 188) (by decide +kernel)) (by decide +kernel)
theorem fg_X11_88 : fg RX11 88 11 12 := ⟨RX11, RX11, TX11, 17, rfl, by decide, tbX11, fl_X11_88, fun _ _ h => h⟩
theorem cd_X1_drawDays : Cond.code yX1_drawDays cX1_drawDays 6 (some .int) ∈ TB := tb_5 (List.mem_of_getElem? (i := 20) (by decide +kernel)) (by decide +kernel)
theorem im_X1_drawDays : Cond.instanceMethod yX1_drawDays ∈ TB := tb_5 (List.mem_of_getElem? (i := 18) (by decide +kernel)) (by decide +kernel)
theorem se_X1_drawDays : Cond.selects RX1 yX1_drawDays yX1_drawDays ∈ TB := tb_5 (List.mem_of_getElem? (i := 19) (by decide +kernel)) (by decide +kernel)
theorem kc_X1_drawDays : cV RX1 yX1_drawDays cX1_drawDays 6 (some .int) 3 := ⟨im_X1_drawDays, se_X1_drawDays, cd_X1_drawDays, in_X1, ⟨by decide +kernel, by decide +kernel, by decide +kernel⟩⟩
theorem ml_X11_343 : Cond.methodLink RX11 343 yX1_drawDays ∈ TB := tb_5 (List.mem_of_getElem? (i := 17) (by decide +kernel)) (by decide +kernel)
theorem ml_X11_346 : Cond.methodLink RX11 346 yX8_isPleased ∈ TB := tb_5 (List.mem_of_getElem? (i := 45) (by decide +kernel)) (by decide +kernel)
theorem fl_X11_100 : Cond.fieldLink RX11 100 RX11 (TX11 14).2.1 (TX11 14).2.2.1 ∈ TB := tb_2 (List.mem_of_getElem? (i := 190) (by decide +kernel)) (by decide +kernel)
theorem fg_X11_100 : fg RX11 100 11 14 := ⟨RX11, RX11, TX11, 17, rfl, by decide, tbX11, fl_X11_100, fun _ _ h => h⟩
theorem fl_X11_46 : Cond.fieldLink RX11 46 RX11 (TX11 6).2.1 (TX11 6).2.2.1 ∈ TB := tb_2 (List.mem_of_getElem? (i := 182) (by decide +kernel)) (by decide +kernel)
theorem fg_X11_46 : fg RX11 46 11 6 := ⟨RX11, RX11, TX11, 17, rfl, by decide, tbX11, fl_X11_46, fun _ _ h => h⟩
theorem fl_X11_385 : Cond.fieldLink RX11 385 RX0 (TX0 4).2.1 (TX0 4).2.2.1 ∈ TB := tb_2 (List.mem_of_getElem? (i := 29) (by decide +kernel)) (by decide +kernel)
theorem fg_X11_385 : fg RX11 385 0 4 := ⟨RX0, RX0, TX0, 5, rfl, by decide, tbX0, fl_X11_385, fun _ _ h => h⟩
theorem cd_X0_liveLine : Cond.code yX0_liveLine cX0_liveLine 4 (some .int) ∈ TB := tb_5 (List.mem_of_getElem? (i := 88) (by decide +kernel)) (by decide +kernel)
theorem im_X0_liveLine : Cond.instanceMethod yX0_liveLine ∈ TB := tb_5 (List.mem_of_getElem? (i := 86) (by decide +kernel)) (by decide +kernel)
theorem se_X0_liveLine : Cond.selects RX0 yX0_liveLine yX0_liveLine ∈ TB := tb_5 (List.mem_of_getElem? (i := 87) (by decide +kernel)) (by decide +kernel)
theorem kc_X0_liveLine : cV RX0 yX0_liveLine cX0_liveLine 4 (some .int) 2 := ⟨im_X0_liveLine, se_X0_liveLine, cd_X0_liveLine, in_X0, ⟨by decide +kernel, by decide +kernel, by decide +kernel⟩⟩
theorem ml_X11_388 : Cond.methodLink RX11 388 yX0_liveLine ∈ TB := tb_5 (List.mem_of_getElem? (i := 85) (by decide +kernel)) (by decide +kernel)
theorem fl_X11_40 : Cond.fieldLink RX11 40 RX11 (TX11 5).2.1 (TX11 5).2.2.1 ∈ TB := tb_2 (List.mem_of_getElem? (i := 181) (by decide +kernel)) (by decide +kernel)
theorem fg_X11_40 : fg RX11 40 11 5 := ⟨RX11, RX11, TX11, 17, rfl, by decide, tbX11, fl_X11_40, fun _ _ h => h⟩
theorem cd_X7_readFrom : Cond.code yX7_readFrom cX7_readFrom 3 (some .boolean) ∈ TB := tb_5 (List.mem_of_getElem? (i := 114) (by decide +kernel)) (by decide +kernel)
theorem im_X7_readFrom : Cond.instanceMethod yX7_readFrom ∈ TB := tb_5 (List.mem_of_getElem? (i := 112) (by decide +kernel)) (by decide +kernel)
theorem se_X7_readFrom : Cond.selects RX7 yX7_readFrom yX7_readFrom ∈ TB := tb_5 (List.mem_of_getElem? (i := 113) (by decide +kernel)) (by decide +kernel)
theorem kc_X7_readFrom : cV RX7 yX7_readFrom cX7_readFrom 3 (some .boolean) 2 := ⟨im_X7_readFrom, se_X7_readFrom, cd_X7_readFrom, in_X7, ⟨by decide +kernel, by decide +kernel, by decide +kernel⟩⟩
theorem ml_X11_355 : Cond.methodLink RX11 355 yX7_readFrom ∈ TB := tb_5 (List.mem_of_getElem? (i := 111) (by decide +kernel)) (by decide +kernel)
theorem cd_X7_copyFrom : Cond.code yX7_copyFrom cX7_copyFrom 2 none ∈ TB := tb_5 (List.mem_of_getElem? (i := 154) (by decide +kernel)) (by decide +kernel)
theorem im_X7_copyFrom : Cond.instanceMethod yX7_copyFrom ∈ TB := tb_5 (List.mem_of_getElem? (i := 152) (by decide +kernel)) (by decide +kernel)
theorem se_X7_copyFrom : Cond.selects RX7 yX7_copyFrom yX7_copyFrom ∈ TB := tb_5 (List.mem_of_getElem? (i := 153) (by decide +kernel)) (by decide +kernel)
theorem kc_X7_copyFrom : cV RX7 yX7_copyFrom cX7_copyFrom 2 none 1 := ⟨im_X7_copyFrom, se_X7_copyFrom, cd_X7_copyFrom, in_X7, ⟨by decide +kernel, by decide +kernel, by decide +kernel⟩⟩
theorem ml_X11_356 : Cond.methodLink RX11 356 yX7_copyFrom ∈ TB := tb_5 (List.mem_of_getElem? (i := 151) (by decide +kernel)) (by decide +kernel)
theorem fl_X11_359 : Cond.fieldLink RX11 359 RX7 (TX7 4).2.1 (TX7 4).2.2.1 ∈ TB := tb_2 (List.mem_of_getElem? (i := 6) (by decide +kernel)) (by decide +kernel)
theorem fg_X11_359 : fg RX11 359 7 4 := ⟨RX7, RX7, TX7, 5, rfl, by decide, tbX7, fl_X11_359, fun _ _ h => h⟩
theorem cd_X7_holdsOf : Cond.code yX7_holdsOf cX7_holdsOf 6 (some .boolean) ∈ TB := tb_5 (List.mem_of_getElem? (i := 163) (by decide +kernel)) (by decide +kernel)
theorem im_X7_holdsOf : Cond.instanceMethod yX7_holdsOf ∈ TB := tb_5 (List.mem_of_getElem? (i := 161) (by decide +kernel)) (by decide +kernel)
theorem se_X7_holdsOf : Cond.selects RX7 yX7_holdsOf yX7_holdsOf ∈ TB := tb_5 (List.mem_of_getElem? (i := 162) (by decide +kernel)) (by decide +kernel)
theorem kc_X7_holdsOf : cV RX7 yX7_holdsOf cX7_holdsOf 6 (some .boolean) 2 := ⟨im_X7_holdsOf, se_X7_holdsOf, cd_X7_holdsOf, in_X7, ⟨by decide +kernel, by decide +kernel, by decide +kernel⟩⟩
theorem ml_X11_362 : Cond.methodLink RX11 362 yX7_holdsOf ∈ TB := tb_5 (List.mem_of_getElem? (i := 160) (by decide +kernel)) (by decide +kernel)
theorem fl_X12_1 : Cond.fieldLink RX12 1 RX12 (TX12 0).2.1 (TX12 0).2.2.1 ∈ TB := tb_6 (List.mem_of_getElem? (i := 87) (by decide +kernel)) (by decide +kernel)
theorem fg_X12_1 : fg RX12 1 12 0 := ⟨RX12, RX12, TX12, 51, rfl, by decide, tbX12, fl_X12_1, fun _ _ h => h⟩
theorem fp_X12_1 : fp RX12 1 12 0 .int := ⟨RX12, RX12, TX12, 51, tyX12, rfl, by decide, tbX12, fl_X12_1, fun _ _ h => h, tyX12_ok, nmX12, rfl, by decide +kernel⟩
theorem fl_X12_14 : Cond.fieldLink RX12 14 RX12 (TX12 1).2.1 (TX12 1).2.2.1 ∈ TB := tb_6 (List.mem_of_getElem? (i := 88) (by decide +kernel)) (by decide +kernel)
theorem fg_X12_14 : fg RX12 14 12 1 := ⟨RX12, RX12, TX12, 51, rfl, by decide, tbX12, fl_X12_14, fun _ _ h => h⟩
theorem fl_X12_7 : Cond.fieldLink RX12 7 RX12 (TX12 2).2.1 (TX12 2).2.2.1 ∈ TB := tb_6 (List.mem_of_getElem? (i := 89) (by decide +kernel)) (by decide +kernel)
theorem fg_X12_7 : fg RX12 7 12 2 := ⟨RX12, RX12, TX12, 51, rfl, by decide, tbX12, fl_X12_7, fun _ _ h => h⟩
theorem fp_X12_7 : fp RX12 7 12 2 .int := ⟨RX12, RX12, TX12, 51, tyX12, rfl, by decide, tbX12, fl_X12_7, fun _ _ h => h, tyX12_ok, nmX12, rfl, by decide +kernel⟩
theorem cd_X12_four : Cond.code yX12_four cX12_four 3 none ∈ TB := tb_6 (List.mem_of_getElem? (i := 37) (by decide +kernel)) (by decide +kernel)
theorem in_X12 : Cond.initialized RX12 ∈ TB := tb_1 (List.mem_of_getElem? (i := 18) (by decide +kernel)) (by decide +kernel)
theorem im_X12_four : Cond.instanceMethod yX12_four ∈ TB := tb_6 (List.mem_of_getElem? (i := 35) (by decide +kernel)) (by decide +kernel)
theorem se_X12_four : Cond.selects RX12 yX12_four yX12_four ∈ TB := tb_0 (y := yX12_four) (n := 51) (List.mem_of_getElem? (i := 36) (by decide +kernel)) (by decide +kernel)
theorem kc_X12_four : cV RX12 yX12_four cX12_four 3 none 1 := ⟨im_X12_four, se_X12_four, cd_X12_four, in_X12, ⟨by decide +kernel, by decide +kernel, by decide +kernel⟩⟩
theorem ml_X12_10 : Cond.methodLink RX12 10 yX12_four ∈ TB := tb_6 (List.mem_of_getElem? (i := 33) (by decide +kernel)) (by decide +kernel)
theorem fl_X12_18 : Cond.fieldLink RX12 18 RX12 (TX12 3).2.1 (TX12 3).2.2.1 ∈ TB := tb_6 (List.mem_of_getElem? (i := 90) (by decide +kernel)) (by decide +kernel)
theorem fg_X12_18 : fg RX12 18 12 3 := ⟨RX12, RX12, TX12, 51, rfl, by decide, tbX12, fl_X12_18, fun _ _ h => h⟩
theorem fp_X12_18 : fp RX12 18 12 3 .int := ⟨RX12, RX12, TX12, 51, tyX12, rfl, by decide, tbX12, fl_X12_18, fun _ _ h => h, tyX12_ok, nmX12, rfl, by decide +kernel⟩
theorem fl_X12_21 : Cond.fieldLink RX12 21 RX12 (TX12 4).2.1 (TX12 4).2.2.1 ∈ TB := tb_6 (List.mem_of_getElem? (i := 91) (by decide +kernel)) (by decide +kernel)
theorem fg_X12_21 : fg RX12 21 12 4 := ⟨RX12, RX12, TX12, 51, rfl, by decide, tbX12, fl_X12_21, fun _ _ h => h⟩
theorem fp_X12_21 : fp RX12 21 12 4 .int := ⟨RX12, RX12, TX12, 51, tyX12, rfl, by decide, tbX12, fl_X12_21, fun _ _ h => h, tyX12_ok, nmX12, rfl, by decide +kernel⟩
theorem fl_X12_24 : Cond.fieldLink RX12 24 RX12 (TX12 5).2.1 (TX12 5).2.2.1 ∈ TB := tb_6 (List.mem_of_getElem? (i := 92) (by decide +kernel)) (by decide +kernel)
theorem fg_X12_24 : fg RX12 24 12 5 := ⟨RX12, RX12, TX12, 51, rfl, by decide, tbX12, fl_X12_24, fun _ _ h => h⟩
theorem fp_X12_24 : fp RX12 24 12 5 .int := ⟨RX12, RX12, TX12, 51, tyX12, rfl, by decide, tbX12, fl_X12_24, fun _ _ h => h, tyX12_ok, nmX12, rfl, by decide +kernel⟩
theorem fl_X12_37 : Cond.fieldLink RX12 37 RX12 (TX12 7).2.1 (TX12 7).2.2.1 ∈ TB := tb_6 (List.mem_of_getElem? (i := 94) (by decide +kernel)) (by decide +kernel)
theorem fg_X12_37 : fg RX12 37 12 7 := ⟨RX12, RX12, TX12, 51, rfl, by decide, tbX12, fl_X12_37, fun _ _ h => h⟩
theorem fl_X12_193 : Cond.fieldLink RX12 193 RX12 (TX12 11).2.1 (TX12 11).2.2.1 ∈ TB := tb_6 (List.mem_of_getElem? (i := 98) (by decide +kernel)) (by decide +kernel)
theorem fg_X12_193 : fg RX12 193 12 11 := ⟨RX12, RX12, TX12, 51, rfl, by decide, tbX12, fl_X12_193, fun _ _ h => h⟩
theorem fp_X12_193 : fp RX12 193 12 11 .int := ⟨RX12, RX12, TX12, 51, tyX12, rfl, by decide, tbX12, fl_X12_193, fun _ _ h => h, tyX12_ok, nmX12, rfl, by decide +kernel⟩
theorem fl_X12_190 : Cond.fieldLink RX12 190 RX12 (TX12 13).2.1 (TX12 13).2.2.1 ∈ TB := tb_6 (List.mem_of_getElem? (i := 100) (by decide +kernel)) (by decide +kernel)
theorem fg_X12_190 : fg RX12 190 12 13 := ⟨RX12, RX12, TX12, 51, rfl, by decide, tbX12, fl_X12_190, fun _ _ h => h⟩
theorem fp_X12_190 : fp RX12 190 12 13 .int := ⟨RX12, RX12, TX12, 51, tyX12, rfl, by decide, tbX12, fl_X12_190, fun _ _ h => h, tyX12_ok, nmX12, rfl, by decide +kernel⟩
theorem fl_X12_203 : Cond.fieldLink RX12 203 RX12 (TX12 14).2.1 (TX12 14).2.2.1 ∈ TB := tb_6 (List.mem_of_getElem? (i := 101) (by decide +kernel)) (by decide +kernel)
theorem fg_X12_203 : fg RX12 203 12 14 := ⟨RX12, RX12, TX12, 51, rfl, by decide, tbX12, fl_X12_203, fun _ _ h => h⟩
theorem cd_X12_peek : Cond.code yX12_peek cX12_peek 1 (some .int) ∈ TB := tb_7 (List.mem_of_getElem? (i := 17) (by decide +kernel)) (by decide +kernel)
theorem im_X12_peek : Cond.instanceMethod yX12_peek ∈ TB := tb_7 (List.mem_of_getElem? (i := 16) (by decide +kernel)) (by decide +kernel)
theorem se_X12_peek : Cond.selects RX12 yX12_peek yX12_peek ∈ TB := tb_0 (y := yX12_peek) (n := 51) (List.mem_of_getElem? (i := 40) (by decide +kernel)) (by decide +kernel)
theorem kc_X12_peek : cV RX12 yX12_peek cX12_peek 1 (some .int) 0 := ⟨im_X12_peek, se_X12_peek, cd_X12_peek, in_X12, ⟨by decide +kernel, by decide +kernel, by decide +kernel⟩⟩
theorem ml_X12_183 : Cond.methodLink RX12 183 yX12_peek ∈ TB := tb_7 (List.mem_of_getElem? (i := 14) (by decide +kernel)) (by decide +kernel)
theorem fp_X12_203 : fp RX12 203 12 14 .int := ⟨RX12, RX12, TX12, 51, tyX12, rfl, by decide, tbX12, fl_X12_203, fun _ _ h => h, tyX12_ok, nmX12, rfl, by decide +kernel⟩
theorem fl_X12_206 : Cond.fieldLink RX12 206 RX12 (TX12 17).2.1 (TX12 17).2.2.1 ∈ TB := tb_6 (List.mem_of_getElem? (i := 104) (by decide +kernel)) (by decide +kernel)
theorem fg_X12_206 : fg RX12 206 12 17 := ⟨RX12, RX12, TX12, 51, rfl, by decide, tbX12, fl_X12_206, fun _ _ h => h⟩
theorem fp_X12_206 : fp RX12 206 12 17 .long := ⟨RX12, RX12, TX12, 51, tyX12, rfl, by decide, tbX12, fl_X12_206, fun _ _ h => h, tyX12_ok, nmX12, rfl, by decide +kernel⟩
theorem cd_X12_isSmall : Cond.code yX12_isSmall cX12_isSmall 1 (some .boolean) ∈ TB := tb_7 (List.mem_of_getElem? (i := 20) (by decide +kernel)) (by decide +kernel)
theorem st_X12_isSmall : Cond.static yX12_isSmall ∈ TB := tb_7 (List.mem_of_getElem? (i := 19) (by decide +kernel)) (by decide +kernel)
theorem kc_X12_isSmall : cS yX12_isSmall cX12_isSmall 1 (some .boolean) 1 := ⟨st_X12_isSmall, cd_X12_isSmall, in_X12, ⟨by decide +kernel, by decide +kernel, by decide +kernel⟩⟩
theorem ml_X12_196 : Cond.methodLink RX12 196 yX12_isSmall ∈ TB := tb_7 (List.mem_of_getElem? (i := 18) (by decide +kernel)) (by decide +kernel)
theorem cd_X12_isDigit : Cond.code yX12_isDigit cX12_isDigit 1 (some .boolean) ∈ TB := tb_7 (List.mem_of_getElem? (i := 23) (by decide +kernel)) (by decide +kernel)
theorem st_X12_isDigit : Cond.static yX12_isDigit ∈ TB := tb_7 (List.mem_of_getElem? (i := 22) (by decide +kernel)) (by decide +kernel)
theorem kc_X12_isDigit : cS yX12_isDigit cX12_isDigit 1 (some .boolean) 1 := ⟨st_X12_isDigit, cd_X12_isDigit, in_X12, ⟨by decide +kernel, by decide +kernel, by decide +kernel⟩⟩
theorem ml_X12_200 : Cond.methodLink RX12 200 yX12_isDigit ∈ TB := tb_7 (List.mem_of_getElem? (i := 21) (by decide +kernel)) (by decide +kernel)
theorem fl_X12_187 : Cond.fieldLink RX12 187 RX12 (TX12 12).2.1 (TX12 12).2.2.1 ∈ TB := tb_6 (List.mem_of_getElem? (i := 99) (by decide +kernel)) (by decide +kernel)
theorem fg_X12_187 : fg RX12 187 12 12 := ⟨RX12, RX12, TX12, 51, rfl, by decide, tbX12, fl_X12_187, fun _ _ h => h⟩
theorem fp_X12_187 : fp RX12 187 12 12 .int := ⟨RX12, RX12, TX12, 51, tyX12, rfl, by decide, tbX12, fl_X12_187, fun _ _ h => h, tyX12_ok, nmX12, rfl, by decide +kernel⟩
theorem fl_X12_210 : Cond.fieldLink RX12 210 RX12 (TX12 15).2.1 (TX12 15).2.2.1 ∈ TB := tb_6 (List.mem_of_getElem? (i := 102) (by decide +kernel)) (by decide +kernel)
theorem fg_X12_210 : fg RX12 210 12 15 := ⟨RX12, RX12, TX12, 51, rfl, by decide, tbX12, fl_X12_210, fun _ _ h => h⟩
theorem fp_X12_210 : fp RX12 210 12 15 .int := ⟨RX12, RX12, TX12, 51, tyX12, rfl, by decide, tbX12, fl_X12_210, fun _ _ h => h, tyX12_ok, nmX12, rfl, by decide +kernel⟩
theorem fl_X12_213 : Cond.fieldLink RX12 213 RX12 (TX12 16).2.1 (TX12 16).2.2.1 ∈ TB := tb_6 (List.mem_of_getElem? (i := 103) (by decide +kernel)) (by decide +kernel)
theorem fg_X12_213 : fg RX12 213 12 16 := ⟨RX12, RX12, TX12, 51, rfl, by decide, tbX12, fl_X12_213, fun _ _ h => h⟩
theorem fp_X12_213 : fp RX12 213 12 16 .int := ⟨RX12, RX12, TX12, 51, tyX12, rfl, by decide, tbX12, fl_X12_213, fun _ _ h => h, tyX12_ok, nmX12, rfl, by decide +kernel⟩
theorem cd_X12_isSign : Cond.code yX12_isSign cX12_isSign 2 (some .boolean) ∈ TB := tb_7 (List.mem_of_getElem? (i := 97) (by decide +kernel)) (by decide +kernel)
theorem im_X12_isSign : Cond.instanceMethod yX12_isSign ∈ TB := tb_7 (List.mem_of_getElem? (i := 96) (by decide +kernel)) (by decide +kernel)
theorem se_X12_isSign : Cond.selects RX12 yX12_isSign yX12_isSign ∈ TB := tb_0 (y := yX12_isSign) (n := 51) (List.mem_of_getElem? (i := 57) (by decide +kernel)) (by decide +kernel)
theorem kc_X12_isSign : cV RX12 yX12_isSign cX12_isSign 2 (some .boolean) 1 := ⟨im_X12_isSign, se_X12_isSign, cd_X12_isSign, in_X12, ⟨by decide +kernel, by decide +kernel, by decide +kernel⟩⟩
theorem ml_X12_216 : Cond.methodLink RX12 216 yX12_isSign ∈ TB := tb_7 (List.mem_of_getElem? (i := 94) (by decide +kernel)) (by decide +kernel)
theorem cd_X12_next : Cond.code yX12_next cX12_next 4 none ∈ TB := tb_7 (List.mem_of_getElem? (i := 13) (by decide +kernel)) (by decide +kernel)
theorem im_X12_next : Cond.instanceMethod yX12_next ∈ TB := tb_7 (List.mem_of_getElem? (i := 12) (by decide +kernel)) (by decide +kernel)
theorem se_X12_next : Cond.selects RX12 yX12_next yX12_next ∈ TB := tb_0 (y := yX12_next) (n := 51) (List.mem_of_getElem? (i := 39) (by decide +kernel)) (by decide +kernel)
theorem kc_X12_next : cV RX12 yX12_next cX12_next 4 none 0 := ⟨im_X12_next, se_X12_next, cd_X12_next, in_X12, ⟨by decide +kernel, by decide +kernel, by decide +kernel⟩⟩
theorem ml_X12_222 : Cond.methodLink RX12 222 yX12_next ∈ TB := tb_7 (List.mem_of_getElem? (i := 10) (by decide +kernel)) (by decide +kernel)
theorem cd_X12_bad : Cond.code yX12_bad cX12_bad 2 (some .boolean) ∈ TB := tb_7 (List.mem_of_getElem? (i := 39) (by decide +kernel)) (by decide +kernel)
theorem im_X12_bad : Cond.instanceMethod yX12_bad ∈ TB := tb_7 (List.mem_of_getElem? (i := 38) (by decide +kernel)) (by decide +kernel)
theorem se_X12_bad : Cond.selects RX12 yX12_bad yX12_bad ∈ TB := tb_0 (y := yX12_bad) (n := 51) (List.mem_of_getElem? (i := 44) (by decide +kernel)) (by decide +kernel)
theorem kc_X12_bad : cV RX12 yX12_bad cX12_bad 2 (some .boolean) 1 := ⟨im_X12_bad, se_X12_bad, cd_X12_bad, in_X12, ⟨by decide +kernel, by decide +kernel, by decide +kernel⟩⟩
theorem ml_X12_219 : Cond.methodLink RX12 219 yX12_bad ∈ TB := tb_7 (List.mem_of_getElem? (i := 36) (by decide +kernel)) (by decide +kernel)
theorem fl_X12_47 : Cond.fieldLink RX12 47 RX12 (TX12 10).2.1 (TX12 10).2.2.1 ∈ TB := tb_6 (List.mem_of_getElem? (i := 97) (by decide +kernel)) (by decide +kernel)
theorem fg_X12_47 : fg RX12 47 12 10 := ⟨RX12, RX12, TX12, 51, rfl, by decide, tbX12, fl_X12_47, fun _ _ h => h⟩
theorem cd_X12_isIn : Cond.code yX12_isIn cX12_isIn 3 (some .boolean) ∈ TB := tb_7 (List.mem_of_getElem? (i := 70) (by decide +kernel)) (by decide +kernel)
theorem st_X12_isIn : Cond.static yX12_isIn ∈ TB := tb_7 (List.mem_of_getElem? (i := 69) (by decide +kernel)) (by decide +kernel)
theorem kc_X12_isIn : cS yX12_isIn cX12_isIn 3 (some .boolean) 3 := ⟨st_X12_isIn, cd_X12_isIn, in_X12, ⟨by decide +kernel, by decide +kernel, by decide +kernel⟩⟩
theorem ml_X12_225 : Cond.methodLink RX12 225 yX12_isIn ∈ TB := tb_7 (List.mem_of_getElem? (i := 68) (by decide +kernel)) (by decide +kernel)
theorem fl_X12_229 : Cond.fieldLink RX12 229 RX12 (TX12 18).2.1 (TX12 18).2.2.1 ∈ TB := tb_6 (List.mem_of_getElem? (i := 105) (by decide +kernel)) (by decide +kernel)
theorem fg_X12_229 : fg RX12 229 12 18 := ⟨RX12, RX12, TX12, 51, rfl, by decide, tbX12, fl_X12_229, fun _ _ h => h⟩
theorem fp_X12_229 : fp RX12 229 12 18 .int := ⟨RX12, RX12, TX12, 51, tyX12, rfl, by decide, tbX12, fl_X12_229, fun _ _ h => h, tyX12_ok, nmX12, rfl, by decide +kernel⟩
theorem cd_X12_takes : Cond.code yX12_takes cX12_takes 3 (some .boolean) ∈ TB := tb_7 (List.mem_of_getElem? (i := 67) (by decide +kernel)) (by decide +kernel)
theorem im_X12_takes : Cond.instanceMethod yX12_takes ∈ TB := tb_7 (List.mem_of_getElem? (i := 66) (by decide +kernel)) (by decide +kernel)
theorem se_X12_takes : Cond.selects RX12 yX12_takes yX12_takes ∈ TB := tb_0 (y := yX12_takes) (n := 51) (List.mem_of_getElem? (i := 51) (by decide +kernel)) (by decide +kernel)
theorem kc_X12_takes : cV RX12 yX12_takes cX12_takes 3 (some .boolean) 2 := ⟨im_X12_takes, se_X12_takes, cd_X12_takes, in_X12, ⟨by decide +kernel, by decide +kernel, by decide +kernel⟩⟩
theorem ml_X12_232 : Cond.methodLink RX12 232 yX12_takes ∈ TB := tb_7 (List.mem_of_getElem? (i := 64) (by decide +kernel)) (by decide +kernel)
theorem cd_X12_isOneOf : Cond.code yX12_isOneOf cX12_isOneOf 4 (some .boolean) ∈ TB := tb_7 (List.mem_of_getElem? (i := 59) (by decide +kernel)) (by decide +kernel)
theorem im_X12_isOneOf : Cond.instanceMethod yX12_isOneOf ∈ TB := tb_7 (List.mem_of_getElem? (i := 58) (by decide +kernel)) (by decide +kernel)
theorem se_X12_isOneOf : Cond.selects RX12 yX12_isOneOf yX12_isOneOf ∈ TB := tb_0 (y := yX12_isOneOf) (n := 51) (List.mem_of_getElem? (i := 49) (by decide +kernel)) (by decide +kernel)
theorem kc_X12_isOneOf : cV RX12 yX12_isOneOf cX12_isOneOf 4 (some .boolean) 2 := ⟨im_X12_isOneOf, se_X12_isOneOf, cd_X12_isOneOf, in_X12, ⟨by decide +kernel, by decide +kernel, by decide +kernel⟩⟩
theorem ml_X12_236 : Cond.methodLink RX12 236 yX12_isOneOf ∈ TB := tb_7 (List.mem_of_getElem? (i := 56) (by decide +kernel)) (by decide +kernel)
theorem fl_X12_43 : Cond.fieldLink RX12 43 RX12 (TX12 9).2.1 (TX12 9).2.2.1 ∈ TB := tb_6 (List.mem_of_getElem? (i := 96) (by decide +kernel)) (by decide +kernel)
theorem fg_X12_43 : fg RX12 43 12 9 := ⟨RX12, RX12, TX12, 51, rfl, by decide, tbX12, fl_X12_43, fun _ _ h => h⟩
theorem cd_X12_isName : Cond.code yX12_isName cX12_isName 3 (some .boolean) ∈ TB := tb_7 (List.mem_of_getElem? (i := 47) (by decide +kernel)) (by decide +kernel)
theorem im_X12_isName : Cond.instanceMethod yX12_isName ∈ TB := tb_7 (List.mem_of_getElem? (i := 46) (by decide +kernel)) (by decide +kernel)
theorem se_X12_isName : Cond.selects RX12 yX12_isName yX12_isName ∈ TB := tb_0 (y := yX12_isName) (n := 51) (List.mem_of_getElem? (i := 46) (by decide +kernel)) (by decide +kernel)
theorem kc_X12_isName : cV RX12 yX12_isName cX12_isName 3 (some .boolean) 0 := ⟨im_X12_isName, se_X12_isName, cd_X12_isName, in_X12, ⟨by decide +kernel, by decide +kernel, by decide +kernel⟩⟩
theorem ml_X12_239 : Cond.methodLink RX12 239 yX12_isName ∈ TB := tb_7 (List.mem_of_getElem? (i := 44) (by decide +kernel)) (by decide +kernel)
theorem cd_X12_seek : Cond.code yX12_seek cX12_seek 4 (some .int) ∈ TB := tb_7 (List.mem_of_getElem? (i := 51) (by decide +kernel)) (by decide +kernel)
theorem im_X12_seek : Cond.instanceMethod yX12_seek ∈ TB := tb_7 (List.mem_of_getElem? (i := 50) (by decide +kernel)) (by decide +kernel)
theorem se_X12_seek : Cond.selects RX12 yX12_seek yX12_seek ∈ TB := tb_0 (y := yX12_seek) (n := 51) (List.mem_of_getElem? (i := 47) (by decide +kernel)) (by decide +kernel)
theorem kc_X12_seek : cV RX12 yX12_seek cX12_seek 4 (some .int) 2 := ⟨im_X12_seek, se_X12_seek, cd_X12_seek, in_X12, ⟨by decide +kernel, by decide +kernel, by decide +kernel⟩⟩
theorem ml_X12_243 : Cond.methodLink RX12 243 yX12_seek ∈ TB := tb_7 (List.mem_of_getElem? (i := 48) (by decide +kernel)) (by decide +kernel)
theorem cd_X12_looksAt : Cond.code yX12_looksAt cX12_looksAt 3 (some .boolean) ∈ TB := tb_7 (List.mem_of_getElem? (i := 86) (by decide +kernel)) (by decide +kernel)
theorem im_X12_looksAt : Cond.instanceMethod yX12_looksAt ∈ TB := tb_7 (List.mem_of_getElem? (i := 85) (by decide +kernel)) (by decide +kernel)
theorem se_X12_looksAt : Cond.selects RX12 yX12_looksAt yX12_looksAt ∈ TB := tb_0 (y := yX12_looksAt) (n := 51) (List.mem_of_getElem? (i := 55) (by decide +kernel)) (by decide +kernel)
theorem kc_X12_looksAt : cV RX12 yX12_looksAt cX12_looksAt 3 (some .boolean) 2 := ⟨im_X12_looksAt, se_X12_looksAt, cd_X12_looksAt, in_X12, ⟨by decide +kernel, by decide +kernel, by decide +kernel⟩⟩
theorem ml_X12_247 : Cond.methodLink RX12 247 yX12_looksAt ∈ TB := tb_7 (List.mem_of_getElem? (i := 83) (by decide +kernel)) (by decide +kernel)
theorem cd_X12_fresh : Cond.code yX12_fresh cX12_fresh 2 (some .boolean) ∈ TB := tb_7 (List.mem_of_getElem? (i := 43) (by decide +kernel)) (by decide +kernel)
theorem im_X12_fresh : Cond.instanceMethod yX12_fresh ∈ TB := tb_7 (List.mem_of_getElem? (i := 42) (by decide +kernel)) (by decide +kernel)
theorem se_X12_fresh : Cond.selects RX12 yX12_fresh yX12_fresh ∈ TB := tb_0 (y := yX12_fresh) (n := 51) (List.mem_of_getElem? (i := 45) (by decide +kernel)) (by decide +kernel)
theorem kc_X12_fresh : cV RX12 yX12_fresh cX12_fresh 2 (some .boolean) 1 := ⟨im_X12_fresh, se_X12_fresh, cd_X12_fresh, in_X12, ⟨by decide +kernel, by decide +kernel, by decide +kernel⟩⟩
theorem ml_X12_263 : Cond.methodLink RX12 263 yX12_fresh ∈ TB := tb_7 (List.mem_of_getElem? (i := 40) (by decide +kernel)) (by decide +kernel)
theorem cd_X12_takesOneOf : Cond.code yX12_takesOneOf cX12_takesOneOf 3 (some .boolean) ∈ TB := tb_7 (List.mem_of_getElem? (i := 55) (by decide +kernel)) (by decide +kernel)
theorem im_X12_takesOneOf : Cond.instanceMethod yX12_takesOneOf ∈ TB := tb_7 (List.mem_of_getElem? (i := 54) (by decide +kernel)) (by decide +kernel)
theorem se_X12_takesOneOf : Cond.selects RX12 yX12_takesOneOf yX12_takesOneOf ∈ TB := tb_0 (y := yX12_takesOneOf) (n := 51) (List.mem_of_getElem? (i := 48) (by decide +kernel)) (by decide +kernel)
theorem kc_X12_takesOneOf : cV RX12 yX12_takesOneOf cX12_takesOneOf 3 (some .boolean) 2 := ⟨im_X12_takesOneOf, se_X12_takesOneOf, cd_X12_takesOneOf, in_X12, ⟨by decide +kernel, by decide +kernel, by decide +kernel⟩⟩
theorem ml_X12_266 : Cond.methodLink RX12 266 yX12_takesOneOf ∈ TB := tb_7 (List.mem_of_getElem? (i := 52) (by decide +kernel)) (by decide +kernel)
theorem cd_X12_puts : Cond.code yX12_puts cX12_puts 4 (some .boolean) ∈ TB := tb_7 (List.mem_of_getElem? (i := 63) (by decide +kernel)) (by decide +kernel)
theorem im_X12_puts : Cond.instanceMethod yX12_puts ∈ TB := tb_7 (List.mem_of_getElem? (i := 62) (by decide +kernel)) (by decide +kernel)
theorem se_X12_puts : Cond.selects RX12 yX12_puts yX12_puts ∈ TB := tb_0 (y := yX12_puts) (n := 51) (List.mem_of_getElem? (i := 50) (by decide +kernel)) (by decide +kernel)
theorem kc_X12_puts : cV RX12 yX12_puts cX12_puts 4 (some .boolean) 3 := ⟨im_X12_puts, se_X12_puts, cd_X12_puts, in_X12, ⟨by decide +kernel, by decide +kernel, by decide +kernel⟩⟩
theorem ml_X12_269 : Cond.methodLink RX12 269 yX12_puts ∈ TB := tb_7 (List.mem_of_getElem? (i := 60) (by decide +kernel)) (by decide +kernel)
theorem kL_X12_134 : Cond.constantLong RX12 134 (1986096741) ∈ TB := tb_6 (List.mem_of_getElem? (i := 60) (by decide +kernel)) (by decide +kernel)
theorem cd_X12_isWord : Cond.code yX12_isWord cX12_isWord 3 (some .boolean) ∈ TB := tb_7 (List.mem_of_getElem? (i := 31) (by decide +kernel)) (by decide +kernel)
theorem im_X12_isWord : Cond.instanceMethod yX12_isWord ∈ TB := tb_7 (List.mem_of_getElem? (i := 30) (by decide +kernel)) (by decide +kernel)
theorem se_X12_isWord : Cond.selects RX12 yX12_isWord yX12_isWord ∈ TB := tb_0 (y := yX12_isWord) (n := 51) (List.mem_of_getElem? (i := 42) (by decide +kernel)) (by decide +kernel)
theorem kc_X12_isWord : cV RX12 yX12_isWord cX12_isWord 3 (some .boolean) 1 := ⟨im_X12_isWord, se_X12_isWord, cd_X12_isWord, in_X12, ⟨by decide +kernel, by decide +kernel, by decide +kernel⟩⟩
theorem ml_X12_250 : Cond.methodLink RX12 250 yX12_isWord ∈ TB := tb_7 (List.mem_of_getElem? (i := 28) (by decide +kernel)) (by decide +kernel)
theorem cd_X12_takesName : Cond.code yX12_takesName cX12_takesName 3 (some .boolean) ∈ TB := tb_7 (List.mem_of_getElem? (i := 82) (by decide +kernel)) (by decide +kernel)
theorem im_X12_takesName : Cond.instanceMethod yX12_takesName ∈ TB := tb_7 (List.mem_of_getElem? (i := 81) (by decide +kernel)) (by decide +kernel)
theorem se_X12_takesName : Cond.selects RX12 yX12_takesName yX12_takesName ∈ TB := tb_0 (y := yX12_takesName) (n := 51) (List.mem_of_getElem? (i := 54) (by decide +kernel)) (by decide +kernel)
theorem kc_X12_takesName : cV RX12 yX12_takesName cX12_takesName 3 (some .boolean) 2 := ⟨im_X12_takesName, se_X12_takesName, cd_X12_takesName, in_X12, ⟨by decide +kernel, by decide +kernel, by decide +kernel⟩⟩
theorem ml_X12_272 : Cond.methodLink RX12 272 yX12_takesName ∈ TB := tb_7 (List.mem_of_getElem? (i := 79) (by decide +kernel)) (by decide +kernel)
theorem cd_X12_bitOf : Cond.code yX12_bitOf cX12_bitOf 2 (some .boolean) ∈ TB := tb_7 (List.mem_of_getElem? (i := 89) (by decide +kernel)) (by decide +kernel)
theorem st_X12_bitOf : Cond.static yX12_bitOf ∈ TB := tb_7 (List.mem_of_getElem? (i := 88) (by decide +kernel)) (by decide +kernel)
theorem kc_X12_bitOf : cS yX12_bitOf cX12_bitOf 2 (some .boolean) 2 := ⟨st_X12_bitOf, cd_X12_bitOf, in_X12, ⟨by decide +kernel, by decide +kernel, by decide +kernel⟩⟩
theorem ml_X12_275 : Cond.methodLink RX12 275 yX12_bitOf ∈ TB := tb_7 (List.mem_of_getElem? (i := 87) (by decide +kernel)) (by decide +kernel)
theorem kL_X12_108 : Cond.constantLong RX12 108 (128047780095348) ∈ TB := tb_6 (List.mem_of_getElem? (i := 47) (by decide +kernel)) (by decide +kernel)
theorem kL_X12_136 : Cond.constantLong RX12 136 (123581014175598) ∈ TB := tb_6 (List.mem_of_getElem? (i := 61) (by decide +kernel)) (by decide +kernel)
theorem kL_X12_138 : Cond.constantLong RX12 138 (127991794264947) ∈ TB := tb_6 (List.mem_of_getElem? (i := 62) (by decide +kernel)) (by decide +kernel)
theorem kL_X12_140 : Cond.constantLong RX12 140 (512735736947) ∈ TB := tb_6 (List.mem_of_getElem? (i := 63) (by decide +kernel)) (by decide +kernel)
theorem cd_X12_readMind : Cond.code yX12_readMind cX12_readMind 3 (some .boolean) ∈ TB := tb_7 (List.mem_of_getElem? (i := 78) (by decide +kernel)) (by decide +kernel)
theorem im_X12_readMind : Cond.instanceMethod yX12_readMind ∈ TB := tb_7 (List.mem_of_getElem? (i := 77) (by decide +kernel)) (by decide +kernel)
theorem se_X12_readMind : Cond.selects RX12 yX12_readMind yX12_readMind ∈ TB := tb_0 (y := yX12_readMind) (n := 51) (List.mem_of_getElem? (i := 53) (by decide +kernel)) (by decide +kernel)
theorem kc_X12_readMind : cV RX12 yX12_readMind cX12_readMind 3 (some .boolean) 1 := ⟨im_X12_readMind, se_X12_readMind, cd_X12_readMind, in_X12, ⟨by decide +kernel, by decide +kernel, by decide +kernel⟩⟩
theorem ml_X12_260 : Cond.methodLink RX12 260 yX12_readMind ∈ TB := tb_7 (List.mem_of_getElem? (i := 75) (by decide +kernel)) (by decide +kernel)
theorem cd_X12_readPerson : Cond.code yX12_readPerson cX12_readPerson 2 (some .boolean) ∈ TB := tb_7 (List.mem_of_getElem? (i := 74) (by decide +kernel)) (by decide +kernel)
theorem im_X12_readPerson : Cond.instanceMethod yX12_readPerson ∈ TB := tb_7 (List.mem_of_getElem? (i := 73) (by decide +kernel)) (by decide +kernel)
theorem se_X12_readPerson : Cond.selects RX12 yX12_readPerson yX12_readPerson ∈ TB := tb_0 (y := yX12_readPerson) (n := 51) (List.mem_of_getElem? (i := 52) (by decide +kernel)) (by decide +kernel)
theorem kc_X12_readPerson : cV RX12 yX12_readPerson cX12_readPerson 2 (some .boolean) 0 := ⟨im_X12_readPerson, se_X12_readPerson, cd_X12_readPerson, in_X12, ⟨by decide +kernel, by decide +kernel, by decide +kernel⟩⟩
theorem ml_X12_257 : Cond.methodLink RX12 257 yX12_readPerson ∈ TB := tb_7 (List.mem_of_getElem? (i := 71) (by decide +kernel)) (by decide +kernel)
theorem cd_X12_readTurret : Cond.code yX12_readTurret cX12_readTurret 2 (some .boolean) ∈ TB := tb_7 (List.mem_of_getElem? (i := 35) (by decide +kernel)) (by decide +kernel)
theorem im_X12_readTurret : Cond.instanceMethod yX12_readTurret ∈ TB := tb_7 (List.mem_of_getElem? (i := 34) (by decide +kernel)) (by decide +kernel)
theorem se_X12_readTurret : Cond.selects RX12 yX12_readTurret yX12_readTurret ∈ TB := tb_0 (y := yX12_readTurret) (n := 51) (List.mem_of_getElem? (i := 43) (by decide +kernel)) (by decide +kernel)
theorem kc_X12_readTurret : cV RX12 yX12_readTurret cX12_readTurret 2 (some .boolean) 0 := ⟨im_X12_readTurret, se_X12_readTurret, cd_X12_readTurret, in_X12, ⟨by decide +kernel, by decide +kernel, by decide +kernel⟩⟩
theorem ml_X12_254 : Cond.methodLink RX12 254 yX12_readTurret ∈ TB := tb_7 (List.mem_of_getElem? (i := 32) (by decide +kernel)) (by decide +kernel)
theorem fl_X12_290 : Cond.fieldLink RX12 290 RX12 (TX12 22).2.1 (TX12 22).2.2.1 ∈ TB := tb_6 (List.mem_of_getElem? (i := 109) (by decide +kernel)) (by decide +kernel)
theorem fg_X12_290 : fg RX12 290 12 22 := ⟨RX12, RX12, TX12, 51, rfl, by decide, tbX12, fl_X12_290, fun _ _ h => h⟩
theorem fp_X12_290 : fp RX12 290 12 22 .int := ⟨RX12, RX12, TX12, 51, tyX12, rfl, by decide, tbX12, fl_X12_290, fun _ _ h => h, tyX12_ok, nmX12, rfl, by decide +kernel⟩
theorem fl_X12_281 : Cond.fieldLink RX12 281 RX12 (TX12 19).2.1 (TX12 19).2.2.1 ∈ TB := tb_6 (List.mem_of_getElem? (i := 106) (by decide +kernel)) (by decide +kernel)
theorem fg_X12_281 : fg RX12 281 12 19 := ⟨RX12, RX12, TX12, 51, rfl, by decide, tbX12, fl_X12_281, fun _ _ h => h⟩
theorem fl_X12_33 : Cond.fieldLink RX12 33 RX12 (TX12 6).2.1 (TX12 6).2.2.1 ∈ TB := tb_6 (List.mem_of_getElem? (i := 93) (by decide +kernel)) (by decide +kernel)
theorem fg_X12_33 : fg RX12 33 12 6 := ⟨RX12, RX12, TX12, 51, rfl, by decide, tbX12, fl_X12_33, fun _ _ h => h⟩
theorem cd_X12_line : Cond.code yX12_line cX12_line 1 (some .boolean) ∈ TB := tb_7 (List.mem_of_getElem? (i := 27) (by decide +kernel)) (by decide +kernel)
theorem im_X12_line : Cond.instanceMethod yX12_line ∈ TB := tb_7 (List.mem_of_getElem? (i := 26) (by decide +kernel)) (by decide +kernel)
theorem se_X12_line : Cond.selects RX12 yX12_line yX12_line ∈ TB := tb_0 (y := yX12_line) (n := 51) (List.mem_of_getElem? (i := 41) (by decide +kernel)) (by decide +kernel)
theorem kc_X12_line : cV RX12 yX12_line cX12_line 1 (some .boolean) 0 := ⟨im_X12_line, se_X12_line, cd_X12_line, in_X12, ⟨by decide +kernel, by decide +kernel, by decide +kernel⟩⟩
theorem ml_X12_284 : Cond.methodLink RX12 284 yX12_line ∈ TB := tb_7 (List.mem_of_getElem? (i := 24) (by decide +kernel)) (by decide +kernel)
theorem cd_X12_sign : Cond.code yX12_sign cX12_sign 2 (some .boolean) ∈ TB := tb_7 (List.mem_of_getElem? (i := 93) (by decide +kernel)) (by decide +kernel)
theorem im_X12_sign : Cond.instanceMethod yX12_sign ∈ TB := tb_7 (List.mem_of_getElem? (i := 92) (by decide +kernel)) (by decide +kernel)
theorem se_X12_sign : Cond.selects RX12 yX12_sign yX12_sign ∈ TB := tb_0 (y := yX12_sign) (n := 51) (List.mem_of_getElem? (i := 56) (by decide +kernel)) (by decide +kernel)
theorem kc_X12_sign : cV RX12 yX12_sign cX12_sign 2 (some .boolean) 1 := ⟨im_X12_sign, se_X12_sign, cd_X12_sign, in_X12, ⟨by decide +kernel, by decide +kernel, by decide +kernel⟩⟩
theorem ml_X12_287 : Cond.methodLink RX12 287 yX12_sign ∈ TB := tb_7 (List.mem_of_getElem? (i := 90) (by decide +kernel)) (by decide +kernel)
theorem fp_X12_281 : fp RX12 281 12 19 .int := ⟨RX12, RX12, TX12, 51, tyX12, rfl, by decide, tbX12, fl_X12_281, fun _ _ h => h, tyX12_ok, nmX12, rfl, by decide +kernel⟩
theorem cd_X12_taken : Cond.code yX12_taken cX12_taken 2 none ∈ TB := tb_7 (List.mem_of_getElem? (i := 9) (by decide +kernel)) (by decide +kernel)
theorem im_X12_taken : Cond.instanceMethod yX12_taken ∈ TB := tb_7 (List.mem_of_getElem? (i := 8) (by decide +kernel)) (by decide +kernel)
theorem se_X12_taken : Cond.selects RX12 yX12_taken yX12_taken ∈ TB := tb_0 (y := yX12_taken) (n := 51) (List.mem_of_getElem? (i := 38) (by decide +kernel)) (by decide +kernel)
theorem kc_X12_taken : cV RX12 yX12_taken cX12_taken 2 none 1 := ⟨im_X12_taken, se_X12_taken, cd_X12_taken, in_X12, ⟨by decide +kernel, by decide +kernel, by decide +kernel⟩⟩
theorem ml_X12_278 : Cond.methodLink RX12 278 yX12_taken ∈ TB := tb_7 (List.mem_of_getElem? (i := 6) (by decide +kernel)) (by decide +kernel)
theorem cd_X12_clears : Cond.code yX12_clears cX12_clears 2 none ∈ TB := tb_6 (List.mem_of_getElem? (i := 86) (by decide +kernel)) (by decide +kernel)
theorem im_X12_clears : Cond.instanceMethod yX12_clears ∈ TB := tb_6 (List.mem_of_getElem? (i := 85) (by decide +kernel)) (by decide +kernel)
theorem se_X12_clears : Cond.selects RX12 yX12_clears yX12_clears ∈ TB := tb_0 (y := yX12_clears) (n := 51) (List.mem_of_getElem? (i := 37) (by decide +kernel)) (by decide +kernel)
theorem kc_X12_clears : cV RX12 yX12_clears cX12_clears 2 none 0 := ⟨im_X12_clears, se_X12_clears, cd_X12_clears, in_X12, ⟨by decide +kernel, by decide +kernel, by decide +kernel⟩⟩
theorem ml_X12_180 : Cond.methodLink RX12 180 yX12_clears ∈ TB := tb_6 (List.mem_of_getElem? (i := 83) (by decide +kernel)) (by decide +kernel)
theorem cd_X12_manyOf : Cond.code yX12_manyOf cX12_manyOf 2 (some .int) ∈ TB := tb_7 (List.mem_of_getElem? (i := 152) (by decide +kernel)) (by decide +kernel)
theorem im_X12_manyOf : Cond.instanceMethod yX12_manyOf ∈ TB := tb_7 (List.mem_of_getElem? (i := 151) (by decide +kernel)) (by decide +kernel)
theorem se_X12_manyOf : Cond.selects RX12 yX12_manyOf yX12_manyOf ∈ TB := tb_0 (y := yX12_manyOf) (n := 51) (List.mem_of_getElem? (i := 67) (by decide +kernel)) (by decide +kernel)
theorem kc_X12_manyOf : cV RX12 yX12_manyOf cX12_manyOf 2 (some .int) 1 := ⟨im_X12_manyOf, se_X12_manyOf, cd_X12_manyOf, in_X12, ⟨by decide +kernel, by decide +kernel, by decide +kernel⟩⟩
theorem ml_X12_293 : Cond.methodLink RX12 293 yX12_manyOf ∈ TB := tb_7 (List.mem_of_getElem? (i := 149) (by decide +kernel)) (by decide +kernel)
theorem cd_X12_lookOf : Cond.code yX12_lookOf cX12_lookOf 4 (some .int) ∈ TB := tb_7 (List.mem_of_getElem? (i := 156) (by decide +kernel)) (by decide +kernel)
theorem im_X12_lookOf : Cond.instanceMethod yX12_lookOf ∈ TB := tb_7 (List.mem_of_getElem? (i := 155) (by decide +kernel)) (by decide +kernel)
theorem se_X12_lookOf : Cond.selects RX12 yX12_lookOf yX12_lookOf ∈ TB := tb_0 (y := yX12_lookOf) (n := 51) (List.mem_of_getElem? (i := 68) (by decide +kernel)) (by decide +kernel)
theorem kc_X12_lookOf : cV RX12 yX12_lookOf cX12_lookOf 4 (some .int) 2 := ⟨im_X12_lookOf, se_X12_lookOf, cd_X12_lookOf, in_X12, ⟨by decide +kernel, by decide +kernel, by decide +kernel⟩⟩
theorem ml_X12_297 : Cond.methodLink RX12 297 yX12_lookOf ∈ TB := tb_7 (List.mem_of_getElem? (i := 153) (by decide +kernel)) (by decide +kernel)
theorem cd_X12_having : Cond.code yX12_having cX12_having 2 (some .int) ∈ TB := tb_7 (List.mem_of_getElem? (i := 202) (by decide +kernel)) (by decide +kernel)
theorem st_X12_having : Cond.static yX12_having ∈ TB := tb_7 (List.mem_of_getElem? (i := 201) (by decide +kernel)) (by decide +kernel)
theorem kc_X12_having : cS yX12_having cX12_having 2 (some .int) 2 := ⟨st_X12_having, cd_X12_having, in_X12, ⟨by decide +kernel, by decide +kernel, by decide +kernel⟩⟩
theorem ml_X12_300 : Cond.methodLink RX12 300 yX12_having ∈ TB := tb_7 (List.mem_of_getElem? (i := 200) (by decide +kernel)) (by decide +kernel)
theorem cd_X12_isWalled : Cond.code yX12_isWalled cX12_isWalled 2 (some .boolean) ∈ TB := tb_7 (List.mem_of_getElem? (i := 125) (by decide +kernel)) (by decide +kernel)
theorem im_X12_isWalled : Cond.instanceMethod yX12_isWalled ∈ TB := tb_7 (List.mem_of_getElem? (i := 124) (by decide +kernel)) (by decide +kernel)
theorem se_X12_isWalled : Cond.selects RX12 yX12_isWalled yX12_isWalled ∈ TB := tb_0 (y := yX12_isWalled) (n := 51) (List.mem_of_getElem? (i := 62) (by decide +kernel)) (by decide +kernel)
theorem kc_X12_isWalled : cV RX12 yX12_isWalled cX12_isWalled 2 (some .boolean) 1 := ⟨im_X12_isWalled, se_X12_isWalled, cd_X12_isWalled, in_X12, ⟨by decide +kernel, by decide +kernel, by decide +kernel⟩⟩
theorem ml_X12_303 : Cond.methodLink RX12 303 yX12_isWalled ∈ TB := tb_7 (List.mem_of_getElem? (i := 122) (by decide +kernel)) (by decide +kernel)
theorem cd_X12_whoIsUp : Cond.code yX12_whoIsUp cX12_whoIsUp 3 (some .int) ∈ TB := tb_7 (List.mem_of_getElem? (i := 129) (by decide +kernel)) (by decide +kernel)
theorem im_X12_whoIsUp : Cond.instanceMethod yX12_whoIsUp ∈ TB := tb_7 (List.mem_of_getElem? (i := 128) (by decide +kernel)) (by decide +kernel)
theorem se_X12_whoIsUp : Cond.selects RX12 yX12_whoIsUp yX12_whoIsUp ∈ TB := tb_0 (y := yX12_whoIsUp) (n := 51) (List.mem_of_getElem? (i := 63) (by decide +kernel)) (by decide +kernel)
theorem kc_X12_whoIsUp : cV RX12 yX12_whoIsUp cX12_whoIsUp 3 (some .int) 1 := ⟨im_X12_whoIsUp, se_X12_whoIsUp, cd_X12_whoIsUp, in_X12, ⟨by decide +kernel, by decide +kernel, by decide +kernel⟩⟩
theorem ml_X12_306 : Cond.methodLink RX12 306 yX12_whoIsUp ∈ TB := tb_7 (List.mem_of_getElem? (i := 126) (by decide +kernel)) (by decide +kernel)
theorem cd_X12_canClimb : Cond.code yX12_canClimb cX12_canClimb 3 (some .boolean) ∈ TB := tb_7 (List.mem_of_getElem? (i := 121) (by decide +kernel)) (by decide +kernel)
theorem im_X12_canClimb : Cond.instanceMethod yX12_canClimb ∈ TB := tb_7 (List.mem_of_getElem? (i := 120) (by decide +kernel)) (by decide +kernel)
theorem se_X12_canClimb : Cond.selects RX12 yX12_canClimb yX12_canClimb ∈ TB := tb_0 (y := yX12_canClimb) (n := 51) (List.mem_of_getElem? (i := 61) (by decide +kernel)) (by decide +kernel)
theorem kc_X12_canClimb : cV RX12 yX12_canClimb cX12_canClimb 3 (some .boolean) 2 := ⟨im_X12_canClimb, se_X12_canClimb, cd_X12_canClimb, in_X12, ⟨by decide +kernel, by decide +kernel, by decide +kernel⟩⟩
theorem ml_X12_309 : Cond.methodLink RX12 309 yX12_canClimb ∈ TB := tb_7 (List.mem_of_getElem? (i := 118) (by decide +kernel)) (by decide +kernel)
theorem cd_X12_opposite : Cond.code yX12_opposite cX12_opposite 1 (some .int) ∈ TB := tb_7 (List.mem_of_getElem? (i := 136) (by decide +kernel)) (by decide +kernel)
theorem st_X12_opposite : Cond.static yX12_opposite ∈ TB := tb_7 (List.mem_of_getElem? (i := 135) (by decide +kernel)) (by decide +kernel)
theorem kc_X12_opposite : cS yX12_opposite cX12_opposite 1 (some .int) 1 := ⟨st_X12_opposite, cd_X12_opposite, in_X12, ⟨by decide +kernel, by decide +kernel, by decide +kernel⟩⟩
theorem ml_X12_312 : Cond.methodLink RX12 312 yX12_opposite ∈ TB := tb_7 (List.mem_of_getElem? (i := 134) (by decide +kernel)) (by decide +kernel)
theorem cd_X12_isPleased : Cond.code yX12_isPleased cX12_isPleased 3 (some .boolean) ∈ TB := tb_7 (List.mem_of_getElem? (i := 179) (by decide +kernel)) (by decide +kernel)
theorem im_X12_isPleased : Cond.instanceMethod yX12_isPleased ∈ TB := tb_7 (List.mem_of_getElem? (i := 178) (by decide +kernel)) (by decide +kernel)
theorem se_X12_isPleased : Cond.selects RX12 yX12_isPleased yX12_isPleased ∈ TB := tb_0 (y := yX12_isPleased) (n := 51) (List.mem_of_getElem? (i := 71) (by decide +kernel)) (by decide +kernel)
theorem kc_X12_isPleased : cV RX12 yX12_isPleased cX12_isPleased 3 (some .boolean) 2 := ⟨im_X12_isPleased, se_X12_isPleased, cd_X12_isPleased, in_X12, ⟨by decide +kernel, by decide +kernel, by decide +kernel⟩⟩
theorem ml_X12_315 : Cond.methodLink RX12 315 yX12_isPleased ∈ TB := tb_7 (List.mem_of_getElem? (i := 176) (by decide +kernel)) (by decide +kernel)
theorem cd_X12_throwsIf : Cond.code yX12_throwsIf cX12_throwsIf 2 (some .boolean) ∈ TB := tb_7 (List.mem_of_getElem? (i := 113) (by decide +kernel)) (by decide +kernel)
theorem im_X12_throwsIf : Cond.instanceMethod yX12_throwsIf ∈ TB := tb_7 (List.mem_of_getElem? (i := 112) (by decide +kernel)) (by decide +kernel)
theorem se_X12_throwsIf : Cond.selects RX12 yX12_throwsIf yX12_throwsIf ∈ TB := tb_0 (y := yX12_throwsIf) (n := 51) (List.mem_of_getElem? (i := 59) (by decide +kernel)) (by decide +kernel)
theorem kc_X12_throwsIf : cV RX12 yX12_throwsIf cX12_throwsIf 2 (some .boolean) 1 := ⟨im_X12_throwsIf, se_X12_throwsIf, cd_X12_throwsIf, in_X12, ⟨by decide +kernel, by decide +kernel, by decide +kernel⟩⟩
theorem ml_X12_321 : Cond.methodLink RX12 321 yX12_throwsIf ∈ TB := tb_7 (List.mem_of_getElem? (i := 110) (by decide +kernel)) (by decide +kernel)
theorem cd_X12_canOf : Cond.code yX12_canOf cX12_canOf 4 (some .int) ∈ TB := tb_7 (List.mem_of_getElem? (i := 117) (by decide +kernel)) (by decide +kernel)
theorem im_X12_canOf : Cond.instanceMethod yX12_canOf ∈ TB := tb_7 (List.mem_of_getElem? (i := 116) (by decide +kernel)) (by decide +kernel)
theorem se_X12_canOf : Cond.selects RX12 yX12_canOf yX12_canOf ∈ TB := tb_0 (y := yX12_canOf) (n := 51) (List.mem_of_getElem? (i := 60) (by decide +kernel)) (by decide +kernel)
theorem kc_X12_canOf : cV RX12 yX12_canOf cX12_canOf 4 (some .int) 1 := ⟨im_X12_canOf, se_X12_canOf, cd_X12_canOf, in_X12, ⟨by decide +kernel, by decide +kernel, by decide +kernel⟩⟩
theorem ml_X12_325 : Cond.methodLink RX12 325 yX12_canOf ∈ TB := tb_7 (List.mem_of_getElem? (i := 114) (by decide +kernel)) (by decide +kernel)
theorem cd_X12_friendsOf : Cond.code yX12_friendsOf cX12_friendsOf 4 (some .int) ∈ TB := tb_7 (List.mem_of_getElem? (i := 133) (by decide +kernel)) (by decide +kernel)
theorem im_X12_friendsOf : Cond.instanceMethod yX12_friendsOf ∈ TB := tb_7 (List.mem_of_getElem? (i := 132) (by decide +kernel)) (by decide +kernel)
theorem se_X12_friendsOf : Cond.selects RX12 yX12_friendsOf yX12_friendsOf ∈ TB := tb_0 (y := yX12_friendsOf) (n := 51) (List.mem_of_getElem? (i := 64) (by decide +kernel)) (by decide +kernel)
theorem kc_X12_friendsOf : cV RX12 yX12_friendsOf cX12_friendsOf 4 (some .int) 1 := ⟨im_X12_friendsOf, se_X12_friendsOf, cd_X12_friendsOf, in_X12, ⟨by decide +kernel, by decide +kernel, by decide +kernel⟩⟩
theorem ml_X12_328 : Cond.methodLink RX12 328 yX12_friendsOf ∈ TB := tb_7 (List.mem_of_getElem? (i := 130) (by decide +kernel)) (by decide +kernel)
theorem cd_X12_isPerson : Cond.code yX12_isPerson cX12_isPerson 2 (some .boolean) ∈ TB := tb_7 (List.mem_of_getElem? (i := 109) (by decide +kernel)) (by decide +kernel)
theorem im_X12_isPerson : Cond.instanceMethod yX12_isPerson ∈ TB := tb_7 (List.mem_of_getElem? (i := 108) (by decide +kernel)) (by decide +kernel)
theorem se_X12_isPerson : Cond.selects RX12 yX12_isPerson yX12_isPerson ∈ TB := tb_0 (y := yX12_isPerson) (n := 51) (List.mem_of_getElem? (i := 58) (by decide +kernel)) (by decide +kernel)
theorem kc_X12_isPerson : cV RX12 yX12_isPerson cX12_isPerson 2 (some .boolean) 1 := ⟨im_X12_isPerson, se_X12_isPerson, cd_X12_isPerson, in_X12, ⟨by decide +kernel, by decide +kernel, by decide +kernel⟩⟩
theorem ml_X12_318 : Cond.methodLink RX12 318 yX12_isPerson ∈ TB := tb_7 (List.mem_of_getElem? (i := 106) (by decide +kernel)) (by decide +kernel)
theorem cd_X12_isTurret : Cond.code yX12_isTurret cX12_isTurret 2 (some .boolean) ∈ TB := tb_7 (List.mem_of_getElem? (i := 144) (by decide +kernel)) (by decide +kernel)
theorem im_X12_isTurret : Cond.instanceMethod yX12_isTurret ∈ TB := tb_7 (List.mem_of_getElem? (i := 143) (by decide +kernel)) (by decide +kernel)
theorem se_X12_isTurret : Cond.selects RX12 yX12_isTurret yX12_isTurret ∈ TB := tb_0 (y := yX12_isTurret) (n := 51) (List.mem_of_getElem? (i := 65) (by decide +kernel)) (by decide +kernel)
theorem kc_X12_isTurret : cV RX12 yX12_isTurret cX12_isTurret 2 (some .boolean) 1 := ⟨im_X12_isTurret, se_X12_isTurret, cd_X12_isTurret, in_X12, ⟨by decide +kernel, by decide +kernel, by decide +kernel⟩⟩
theorem ml_X12_331 : Cond.methodLink RX12 331 yX12_isTurret ∈ TB := tb_7 (List.mem_of_getElem? (i := 141) (by decide +kernel)) (by decide +kernel)
theorem cd_X12_looksOf : Cond.code yX12_looksOf cX12_looksOf 4 (some .int) ∈ TB := tb_7 (List.mem_of_getElem? (i := 148) (by decide +kernel)) (by decide +kernel)
theorem im_X12_looksOf : Cond.instanceMethod yX12_looksOf ∈ TB := tb_7 (List.mem_of_getElem? (i := 147) (by decide +kernel)) (by decide +kernel)
theorem se_X12_looksOf : Cond.selects RX12 yX12_looksOf yX12_looksOf ∈ TB := tb_0 (y := yX12_looksOf) (n := 51) (List.mem_of_getElem? (i := 66) (by decide +kernel)) (by decide +kernel)
theorem kc_X12_looksOf : cV RX12 yX12_looksOf cX12_looksOf 4 (some .int) 1 := ⟨im_X12_looksOf, se_X12_looksOf, cd_X12_looksOf, in_X12, ⟨by decide +kernel, by decide +kernel, by decide +kernel⟩⟩
theorem ml_X12_334 : Cond.methodLink RX12 334 yX12_looksOf ∈ TB := tb_7 (List.mem_of_getElem? (i := 145) (by decide +kernel)) (by decide +kernel)
theorem cd_X12_bits : Cond.code yX12_bits cX12_bits 3 (some .int) ∈ TB := tb_7 (List.mem_of_getElem? (i := 171) (by decide +kernel)) (by decide +kernel)
theorem st_X12_bits : Cond.static yX12_bits ∈ TB := tb_7 (List.mem_of_getElem? (i := 170) (by decide +kernel)) (by decide +kernel)
theorem kc_X12_bits : cS yX12_bits cX12_bits 3 (some .int) 1 := ⟨st_X12_bits, cd_X12_bits, in_X12, ⟨by decide +kernel, by decide +kernel, by decide +kernel⟩⟩
theorem ml_X12_340 : Cond.methodLink RX12 340 yX12_bits ∈ TB := tb_7 (List.mem_of_getElem? (i := 169) (by decide +kernel)) (by decide +kernel)
theorem cd_X12_pleased : Cond.code yX12_pleased cX12_pleased 3 (some .int) ∈ TB := tb_7 (List.mem_of_getElem? (i := 175) (by decide +kernel)) (by decide +kernel)
theorem im_X12_pleased : Cond.instanceMethod yX12_pleased ∈ TB := tb_7 (List.mem_of_getElem? (i := 174) (by decide +kernel)) (by decide +kernel)
theorem se_X12_pleased : Cond.selects RX12 yX12_pleased yX12_pleased ∈ TB := tb_0 (y := yX12_pleased) (n := 51) (List.mem_of_getElem? (i := 70) (by decide +kernel)) (by decide +kernel)
theorem kc_X12_pleased : cV RX12 yX12_pleased cX12_pleased 3 (some .int) 0 := ⟨im_X12_pleased, se_X12_pleased, cd_X12_pleased, in_X12, ⟨by decide +kernel, by decide +kernel, by decide +kernel⟩⟩
theorem ml_X12_343 : Cond.methodLink RX12 343 yX12_pleased ∈ TB := tb_7 (List.mem_of_getElem? (i := 172) (by decide +kernel)) (by decide +kernel)
theorem cd_X12_isUp : Cond.code yX12_isUp cX12_isUp 2 (some .boolean) ∈ TB := tb_7 (List.mem_of_getElem? (i := 168) (by decide +kernel)) (by decide +kernel)
theorem im_X12_isUp : Cond.instanceMethod yX12_isUp ∈ TB := tb_7 (List.mem_of_getElem? (i := 167) (by decide +kernel)) (by decide +kernel)
theorem se_X12_isUp : Cond.selects RX12 yX12_isUp yX12_isUp ∈ TB := tb_0 (y := yX12_isUp) (n := 51) (List.mem_of_getElem? (i := 69) (by decide +kernel)) (by decide +kernel)
theorem kc_X12_isUp : cV RX12 yX12_isUp cX12_isUp 2 (some .boolean) 1 := ⟨im_X12_isUp, se_X12_isUp, cd_X12_isUp, in_X12, ⟨by decide +kernel, by decide +kernel, by decide +kernel⟩⟩
theorem ml_X12_337 : Cond.methodLink RX12 337 yX12_isUp ∈ TB := tb_7 (List.mem_of_getElem? (i := 165) (by decide +kernel)) (by decide +kernel)
theorem cd_X12_behindOf : Cond.code yX12_behindOf cX12_behindOf 5 (some .int) ∈ TB := tb_7 (List.mem_of_getElem? (i := 199) (by decide +kernel)) (by decide +kernel)
theorem im_X12_behindOf : Cond.instanceMethod yX12_behindOf ∈ TB := tb_7 (List.mem_of_getElem? (i := 198) (by decide +kernel)) (by decide +kernel)
theorem se_X12_behindOf : Cond.selects RX12 yX12_behindOf yX12_behindOf ∈ TB := tb_0 (y := yX12_behindOf) (n := 51) (List.mem_of_getElem? (i := 75) (by decide +kernel)) (by decide +kernel)
theorem kc_X12_behindOf : cV RX12 yX12_behindOf cX12_behindOf 5 (some .int) 2 := ⟨im_X12_behindOf, se_X12_behindOf, cd_X12_behindOf, in_X12, ⟨by decide +kernel, by decide +kernel, by decide +kernel⟩⟩
theorem ml_X12_346 : Cond.methodLink RX12 346 yX12_behindOf ∈ TB := tb_7 (List.mem_of_getElem? (i := 196) (by decide +kernel)) (by decide +kernel)
theorem cd_X12_day : Cond.code yX12_day cX12_day 2 none ∈ TB := tb_8 (List.mem_of_getElem? (i := 14) (by decide +kernel)) (by decide +kernel)
theorem im_X12_day : Cond.instanceMethod yX12_day ∈ TB := tb_8 (List.mem_of_getElem? (i := 13) (by decide +kernel)) (by decide +kernel)
theorem se_X12_day : Cond.selects RX12 yX12_day yX12_day ∈ TB := tb_0 (y := yX12_day) (n := 51) (List.mem_of_getElem? (i := 82) (by decide +kernel)) (by decide +kernel)
theorem kc_X12_day : cV RX12 yX12_day cX12_day 2 none 0 := ⟨im_X12_day, se_X12_day, cd_X12_day, in_X12, ⟨by decide +kernel, by decide +kernel, by decide +kernel⟩⟩
theorem ml_X12_349 : Cond.methodLink RX12 349 yX12_day ∈ TB := tb_8 (List.mem_of_getElem? (i := 11) (by decide +kernel)) (by decide +kernel)
theorem fl_X12_50 : Cond.fieldLink RX12 50 RX12 (TX12 20).2.1 (TX12 20).2.2.1 ∈ TB := tb_6 (List.mem_of_getElem? (i := 107) (by decide +kernel)) (by decide +kernel)
theorem fg_X12_50 : fg RX12 50 12 20 := ⟨RX12, RX12, TX12, 51, rfl, by decide, tbX12, fl_X12_50, fun _ _ h => h⟩
theorem cd_X12_whyClimb : Cond.code yX12_whyClimb cX12_whyClimb 3 (some .int) ∈ TB := tb_7 (List.mem_of_getElem? (i := 187) (by decide +kernel)) (by decide +kernel)
theorem im_X12_whyClimb : Cond.instanceMethod yX12_whyClimb ∈ TB := tb_7 (List.mem_of_getElem? (i := 186) (by decide +kernel)) (by decide +kernel)
theorem se_X12_whyClimb : Cond.selects RX12 yX12_whyClimb yX12_whyClimb ∈ TB := tb_0 (y := yX12_whyClimb) (n := 51) (List.mem_of_getElem? (i := 72) (by decide +kernel)) (by decide +kernel)
theorem kc_X12_whyClimb : cV RX12 yX12_whyClimb cX12_whyClimb 3 (some .int) 2 := ⟨im_X12_whyClimb, se_X12_whyClimb, cd_X12_whyClimb, in_X12, ⟨by decide +kernel, by decide +kernel, by decide +kernel⟩⟩
theorem ml_X12_352 : Cond.methodLink RX12 352 yX12_whyClimb ∈ TB := tb_7 (List.mem_of_getElem? (i := 184) (by decide +kernel)) (by decide +kernel)
theorem cd_X12_keep : Cond.code yX12_keep cX12_keep 2 none ∈ TB := tb_7 (List.mem_of_getElem? (i := 191) (by decide +kernel)) (by decide +kernel)
theorem im_X12_keep : Cond.instanceMethod yX12_keep ∈ TB := tb_7 (List.mem_of_getElem? (i := 190) (by decide +kernel)) (by decide +kernel)
theorem se_X12_keep : Cond.selects RX12 yX12_keep yX12_keep ∈ TB := tb_0 (y := yX12_keep) (n := 51) (List.mem_of_getElem? (i := 73) (by decide +kernel)) (by decide +kernel)
theorem kc_X12_keep : cV RX12 yX12_keep cX12_keep 2 none 0 := ⟨im_X12_keep, se_X12_keep, cd_X12_keep, in_X12, ⟨by decide +kernel, by decide +kernel, by decide +kernel⟩⟩
theorem ml_X12_355 : Cond.methodLink RX12 355 yX12_keep ∈ TB := tb_7 (List.mem_of_getElem? (i := 188) (by decide +kernel)) (by decide +kernel)
theorem cd_X12_climbs : Cond.code yX12_climbs cX12_climbs 3 none ∈ TB := tb_7 (List.mem_of_getElem? (i := 195) (by decide +kernel)) (by decide +kernel)
theorem im_X12_climbs : Cond.instanceMethod yX12_climbs ∈ TB := tb_7 (List.mem_of_getElem? (i := 194) (by decide +kernel)) (by decide +kernel)
theorem se_X12_climbs : Cond.selects RX12 yX12_climbs yX12_climbs ∈ TB := tb_0 (y := yX12_climbs) (n := 51) (List.mem_of_getElem? (i := 74) (by decide +kernel)) (by decide +kernel)
theorem kc_X12_climbs : cV RX12 yX12_climbs cX12_climbs 3 none 2 := ⟨im_X12_climbs, se_X12_climbs, cd_X12_climbs, in_X12, ⟨by decide +kernel, by decide +kernel, by decide +kernel⟩⟩
theorem ml_X12_358 : Cond.methodLink RX12 358 yX12_climbs ∈ TB := tb_7 (List.mem_of_getElem? (i := 192) (by decide +kernel)) (by decide +kernel)
theorem cd_X12_isView : Cond.code yX12_isView cX12_isView 2 (some .boolean) ∈ TB := tb_7 (List.mem_of_getElem? (i := 214) (by decide +kernel)) (by decide +kernel)
theorem im_X12_isView : Cond.instanceMethod yX12_isView ∈ TB := tb_7 (List.mem_of_getElem? (i := 213) (by decide +kernel)) (by decide +kernel)
theorem se_X12_isView : Cond.selects RX12 yX12_isView yX12_isView ∈ TB := tb_0 (y := yX12_isView) (n := 51) (List.mem_of_getElem? (i := 76) (by decide +kernel)) (by decide +kernel)
theorem kc_X12_isView : cV RX12 yX12_isView cX12_isView 2 (some .boolean) 1 := ⟨im_X12_isView, se_X12_isView, cd_X12_isView, in_X12, ⟨by decide +kernel, by decide +kernel, by decide +kernel⟩⟩
theorem ml_X12_362 : Cond.methodLink RX12 362 yX12_isView ∈ TB := tb_7 (List.mem_of_getElem? (i := 211) (by decide +kernel)) (by decide +kernel)
theorem cd_X12_whyTell : Cond.code yX12_whyTell cX12_whyTell 4 (some .int) ∈ TB := tb_7 (List.mem_of_getElem? (i := 218) (by decide +kernel)) (by decide +kernel)
theorem im_X12_whyTell : Cond.instanceMethod yX12_whyTell ∈ TB := tb_7 (List.mem_of_getElem? (i := 217) (by decide +kernel)) (by decide +kernel)
theorem se_X12_whyTell : Cond.selects RX12 yX12_whyTell yX12_whyTell ∈ TB := tb_0 (y := yX12_whyTell) (n := 51) (List.mem_of_getElem? (i := 77) (by decide +kernel)) (by decide +kernel)
theorem kc_X12_whyTell : cV RX12 yX12_whyTell cX12_whyTell 4 (some .int) 3 := ⟨im_X12_whyTell, se_X12_whyTell, cd_X12_whyTell, in_X12, ⟨by decide +kernel, by decide +kernel, by decide +kernel⟩⟩
theorem ml_X12_365 : Cond.methodLink RX12 365 yX12_whyTell ∈ TB := tb_7 (List.mem_of_getElem? (i := 215) (by decide +kernel)) (by decide +kernel)
theorem cd_X12_whyStorm : Cond.code yX12_whyStorm cX12_whyStorm 3 (some .int) ∈ TB := tb_7 (List.mem_of_getElem? (i := 226) (by decide +kernel)) (by decide +kernel)
theorem im_X12_whyStorm : Cond.instanceMethod yX12_whyStorm ∈ TB := tb_7 (List.mem_of_getElem? (i := 225) (by decide +kernel)) (by decide +kernel)
theorem se_X12_whyStorm : Cond.selects RX12 yX12_whyStorm yX12_whyStorm ∈ TB := tb_0 (y := yX12_whyStorm) (n := 51) (List.mem_of_getElem? (i := 78) (by decide +kernel)) (by decide +kernel)
theorem kc_X12_whyStorm : cV RX12 yX12_whyStorm cX12_whyStorm 3 (some .int) 1 := ⟨im_X12_whyStorm, se_X12_whyStorm, cd_X12_whyStorm, in_X12, ⟨by decide +kernel, by decide +kernel, by decide +kernel⟩⟩
theorem ml_X12_369 : Cond.methodLink RX12 369 yX12_whyStorm ∈ TB := tb_7 (List.mem_of_getElem? (i := 223) (by decide +kernel)) (by decide +kernel)
theorem cd_X12_storms : Cond.code yX12_storms cX12_storms 3 none ∈ TB := tb_7 (List.mem_of_getElem? (i := 230) (by decide +kernel)) (by decide +kernel)
theorem im_X12_storms : Cond.instanceMethod yX12_storms ∈ TB := tb_7 (List.mem_of_getElem? (i := 229) (by decide +kernel)) (by decide +kernel)
theorem se_X12_storms : Cond.selects RX12 yX12_storms yX12_storms ∈ TB := tb_0 (y := yX12_storms) (n := 51) (List.mem_of_getElem? (i := 79) (by decide +kernel)) (by decide +kernel)
theorem kc_X12_storms : cV RX12 yX12_storms cX12_storms 3 none 1 := ⟨im_X12_storms, se_X12_storms, cd_X12_storms, in_X12, ⟨by decide +kernel, by decide +kernel, by decide +kernel⟩⟩
theorem ml_X12_372 : Cond.methodLink RX12 372 yX12_storms ∈ TB := tb_7 (List.mem_of_getElem? (i := 227) (by decide +kernel)) (by decide +kernel)
theorem cd_X12_whyWall : Cond.code yX12_whyWall cX12_whyWall 2 (some .int) ∈ TB := tb_7 (List.mem_of_getElem? (i := 238) (by decide +kernel)) (by decide +kernel)
theorem im_X12_whyWall : Cond.instanceMethod yX12_whyWall ∈ TB := tb_7 (List.mem_of_getElem? (i := 237) (by decide +kernel)) (by decide +kernel)
theorem se_X12_whyWall : Cond.selects RX12 yX12_whyWall yX12_whyWall ∈ TB := tb_0 (y := yX12_whyWall) (n := 51) (List.mem_of_getElem? (i := 80) (by decide +kernel)) (by decide +kernel)
theorem kc_X12_whyWall : cV RX12 yX12_whyWall cX12_whyWall 2 (some .int) 1 := ⟨im_X12_whyWall, se_X12_whyWall, cd_X12_whyWall, in_X12, ⟨by decide +kernel, by decide +kernel, by decide +kernel⟩⟩
theorem ml_X12_375 : Cond.methodLink RX12 375 yX12_whyWall ∈ TB := tb_7 (List.mem_of_getElem? (i := 235) (by decide +kernel)) (by decide +kernel)
theorem cd_X12_goesOn : Cond.code yX12_goesOn cX12_goesOn 3 (some .int) ∈ TB := tb_8 (List.mem_of_getElem? (i := 10) (by decide +kernel)) (by decide +kernel)
theorem im_X12_goesOn : Cond.instanceMethod yX12_goesOn ∈ TB := tb_8 (List.mem_of_getElem? (i := 9) (by decide +kernel)) (by decide +kernel)
theorem se_X12_goesOn : Cond.selects RX12 yX12_goesOn yX12_goesOn ∈ TB := tb_0 (y := yX12_goesOn) (n := 51) (List.mem_of_getElem? (i := 81) (by decide +kernel)) (by decide +kernel)
theorem kc_X12_goesOn : cV RX12 yX12_goesOn cX12_goesOn 3 (some .int) 1 := ⟨im_X12_goesOn, se_X12_goesOn, cd_X12_goesOn, in_X12, ⟨by decide +kernel, by decide +kernel, by decide +kernel⟩⟩
theorem ml_X12_378 : Cond.methodLink RX12 378 yX12_goesOn ∈ TB := tb_8 (List.mem_of_getElem? (i := 7) (by decide +kernel)) (by decide +kernel)
theorem fl_X12_53 : Cond.fieldLink RX12 53 RX12 (TX12 21).2.1 (TX12 21).2.2.1 ∈ TB := tb_6 (List.mem_of_getElem? (i := 108) (by decide +kernel)) (by decide +kernel)
theorem fg_X12_53 : fg RX12 53 12 21 := ⟨RX12, RX12, TX12, 51, rfl, by decide, tbX12, fl_X12_53, fun _ _ h => h⟩
theorem fl_X12_56 : Cond.fieldLink RX12 56 RX12 (TX12 23).2.1 (TX12 23).2.2.1 ∈ TB := tb_6 (List.mem_of_getElem? (i := 110) (by decide +kernel)) (by decide +kernel)
theorem fg_X12_56 : fg RX12 56 12 23 := ⟨RX12, RX12, TX12, 51, rfl, by decide, tbX12, fl_X12_56, fun _ _ h => h⟩
theorem kn_X12_381 : Cond.constant RX12 381 (1000000) ∈ TB := tb_8 (List.mem_of_getElem? (i := 31) (by decide +kernel)) (by decide +kernel)
theorem fl_X12_59 : Cond.fieldLink RX12 59 RX12 (TX12 24).2.1 (TX12 24).2.2.1 ∈ TB := tb_6 (List.mem_of_getElem? (i := 111) (by decide +kernel)) (by decide +kernel)
theorem fg_X12_59 : fg RX12 59 12 24 := ⟨RX12, RX12, TX12, 51, rfl, by decide, tbX12, fl_X12_59, fun _ _ h => h⟩
theorem fl_X12_62 : Cond.fieldLink RX12 62 RX12 (TX12 25).2.1 (TX12 25).2.2.1 ∈ TB := tb_6 (List.mem_of_getElem? (i := 112) (by decide +kernel)) (by decide +kernel)
theorem fg_X12_62 : fg RX12 62 12 25 := ⟨RX12, RX12, TX12, 51, rfl, by decide, tbX12, fl_X12_62, fun _ _ h => h⟩
theorem fp_X12_62 : fp RX12 62 12 25 .int := ⟨RX12, RX12, TX12, 51, tyX12, rfl, by decide, tbX12, fl_X12_62, fun _ _ h => h, tyX12_ok, nmX12, rfl, by decide +kernel⟩
theorem cd_X12_laysFew : Cond.code yX12_laysFew cX12_laysFew 6 none ∈ TB := tb_8 (List.mem_of_getElem? (i := 30) (by decide +kernel)) (by decide +kernel)
theorem im_X12_laysFew : Cond.instanceMethod yX12_laysFew ∈ TB := tb_8 (List.mem_of_getElem? (i := 29) (by decide +kernel)) (by decide +kernel)
theorem se_X12_laysFew : Cond.selects RX12 yX12_laysFew yX12_laysFew ∈ TB := tb_0 (y := yX12_laysFew) (n := 51) (List.mem_of_getElem? (i := 83) (by decide +kernel)) (by decide +kernel)
theorem kc_X12_laysFew : cV RX12 yX12_laysFew cX12_laysFew 6 none 2 := ⟨im_X12_laysFew, se_X12_laysFew, cd_X12_laysFew, in_X12, ⟨by decide +kernel, by decide +kernel, by decide +kernel⟩⟩
theorem ml_X12_382 : Cond.methodLink RX12 382 yX12_laysFew ∈ TB := tb_8 (List.mem_of_getElem? (i := 27) (by decide +kernel)) (by decide +kernel)
theorem fl_X12_65 : Cond.fieldLink RX12 65 RX12 (TX12 26).2.1 (TX12 26).2.2.1 ∈ TB := tb_6 (List.mem_of_getElem? (i := 113) (by decide +kernel)) (by decide +kernel)
theorem fg_X12_65 : fg RX12 65 12 26 := ⟨RX12, RX12, TX12, 51, rfl, by decide, tbX12, fl_X12_65, fun _ _ h => h⟩
theorem fl_X12_68 : Cond.fieldLink RX12 68 RX12 (TX12 27).2.1 (TX12 27).2.2.1 ∈ TB := tb_6 (List.mem_of_getElem? (i := 114) (by decide +kernel)) (by decide +kernel)
theorem fg_X12_68 : fg RX12 68 12 27 := ⟨RX12, RX12, TX12, 51, rfl, by decide, tbX12, fl_X12_68, fun _ _ h => h⟩
theorem fp_X12_68 : fp RX12 68 12 27 .int := ⟨RX12, RX12, TX12, 51, tyX12, rfl, by decide, tbX12, fl_X12_68, fun _ _ h => h, tyX12_ok, nmX12, rfl, by decide +kernel⟩
theorem cd_X12_octet : Cond.code yX12_octet cX12_octet 2 (some .int) ∈ TB := tb_8 (List.mem_of_getElem? (i := 43) (by decide +kernel)) (by decide +kernel)
theorem im_X12_octet : Cond.instanceMethod yX12_octet ∈ TB := tb_8 (List.mem_of_getElem? (i := 42) (by decide +kernel)) (by decide +kernel)
theorem se_X12_octet : Cond.selects RX12 yX12_octet yX12_octet ∈ TB := tb_0 (y := yX12_octet) (n := 51) (List.mem_of_getElem? (i := 84) (by decide +kernel)) (by decide +kernel)
theorem kc_X12_octet : cV RX12 yX12_octet cX12_octet 2 (some .int) 1 := ⟨im_X12_octet, se_X12_octet, cd_X12_octet, in_X12, ⟨by decide +kernel, by decide +kernel, by decide +kernel⟩⟩
theorem ml_X12_385 : Cond.methodLink RX12 385 yX12_octet ∈ TB := tb_8 (List.mem_of_getElem? (i := 40) (by decide +kernel)) (by decide +kernel)
theorem cd_X12_keepsRow : Cond.code yX12_keepsRow cX12_keepsRow 6 none ∈ TB := tb_8 (List.mem_of_getElem? (i := 47) (by decide +kernel)) (by decide +kernel)
theorem im_X12_keepsRow : Cond.instanceMethod yX12_keepsRow ∈ TB := tb_8 (List.mem_of_getElem? (i := 46) (by decide +kernel)) (by decide +kernel)
theorem se_X12_keepsRow : Cond.selects RX12 yX12_keepsRow yX12_keepsRow ∈ TB := tb_0 (y := yX12_keepsRow) (n := 51) (List.mem_of_getElem? (i := 85) (by decide +kernel)) (by decide +kernel)
theorem kc_X12_keepsRow : cV RX12 yX12_keepsRow cX12_keepsRow 6 none 3 := ⟨im_X12_keepsRow, se_X12_keepsRow, cd_X12_keepsRow, in_X12, ⟨by decide +kernel, by decide +kernel, by decide +kernel⟩⟩
theorem ml_X12_388 : Cond.methodLink RX12 388 yX12_keepsRow ∈ TB := tb_8 (List.mem_of_getElem? (i := 44) (by decide +kernel)) (by decide +kernel)
theorem cd_X12_greater : Cond.code yX12_greater cX12_greater 2 (some .int) ∈ TB := tb_8 (List.mem_of_getElem? (i := 62) (by decide +kernel)) (by decide +kernel)
theorem st_X12_greater : Cond.static yX12_greater ∈ TB := tb_8 (List.mem_of_getElem? (i := 61) (by decide +kernel)) (by decide +kernel)
theorem kc_X12_greater : cS yX12_greater cX12_greater 2 (some .int) 2 := ⟨st_X12_greater, cd_X12_greater, in_X12, ⟨by decide +kernel, by decide +kernel, by decide +kernel⟩⟩
theorem ml_X12_392 : Cond.methodLink RX12 392 yX12_greater ∈ TB := tb_8 (List.mem_of_getElem? (i := 60) (by decide +kernel)) (by decide +kernel)
theorem cd_X12_withView : Cond.code yX12_withView cX12_withView 4 (some .int) ∈ TB := tb_8 (List.mem_of_getElem? (i := 59) (by decide +kernel)) (by decide +kernel)
theorem im_X12_withView : Cond.instanceMethod yX12_withView ∈ TB := tb_8 (List.mem_of_getElem? (i := 58) (by decide +kernel)) (by decide +kernel)
theorem se_X12_withView : Cond.selects RX12 yX12_withView yX12_withView ∈ TB := tb_0 (y := yX12_withView) (n := 51) (List.mem_of_getElem? (i := 86) (by decide +kernel)) (by decide +kernel)
theorem kc_X12_withView : cV RX12 yX12_withView cX12_withView 4 (some .int) 1 := ⟨im_X12_withView, se_X12_withView, cd_X12_withView, in_X12, ⟨by decide +kernel, by decide +kernel, by decide +kernel⟩⟩
theorem ml_X12_395 : Cond.methodLink RX12 395 yX12_withView ∈ TB := tb_8 (List.mem_of_getElem? (i := 56) (by decide +kernel)) (by decide +kernel)
theorem fl_X12_398 : Cond.fieldLink RX12 398 RX12 (TX12 29).2.1 (TX12 29).2.2.1 ∈ TB := tb_6 (List.mem_of_getElem? (i := 116) (by decide +kernel)) (by decide +kernel)
theorem fg_X12_398 : fg RX12 398 12 29 := ⟨RX12, RX12, TX12, 51, rfl, by decide, tbX12, fl_X12_398, fun _ _ h => h⟩
theorem fp_X12_398 : fp RX12 398 12 29 .boolean := ⟨RX12, RX12, TX12, 51, tyX12, rfl, by decide, tbX12, fl_X12_398, fun _ _ h => h, tyX12_ok, nmX12, rfl, by decide +kernel⟩
theorem fl_X12_402 : Cond.fieldLink RX12 402 RX12 (TX12 28).2.1 (TX12 28).2.2.1 ∈ TB := tb_6 (List.mem_of_getElem? (i := 115) (by decide +kernel)) (by decide +kernel)
theorem fg_X12_402 : fg RX12 402 12 28 := ⟨RX12, RX12, TX12, 51, rfl, by decide, tbX12, fl_X12_402, fun _ _ h => h⟩
theorem fp_X12_402 : fp RX12 402 12 28 .int := ⟨RX12, RX12, TX12, 51, tyX12, rfl, by decide, tbX12, fl_X12_402, fun _ _ h => h, tyX12_ok, nmX12, rfl, by decide +kernel⟩
theorem fl_X12_71 : Cond.fieldLink RX12 71 RX12 (TX12 30).2.1 (TX12 30).2.2.1 ∈ TB := tb_6 (List.mem_of_getElem? (i := 117) (by decide +kernel)) (by decide +kernel)
theorem fg_X12_71 : fg RX12 71 12 30 := ⟨RX12, RX12, TX12, 51, rfl, by decide, tbX12, fl_X12_71, fun _ _ h => h⟩
theorem fl_X12_74 : Cond.fieldLink RX12 74 RX12 (TX12 31).2.1 (TX12 31).2.2.1 ∈ TB := tb_6 (List.mem_of_getElem? (i := 118) (by decide +kernel)) (by decide +kernel)
theorem fg_X12_74 : fg RX12 74 12 31 := ⟨RX12, RX12, TX12, 51, rfl, by decide, tbX12, fl_X12_74, fun _ _ h => h⟩
theorem cd_X12_mostBy : Cond.code yX12_mostBy cX12_mostBy 5 (some .int) ∈ TB := tb_8 (List.mem_of_getElem? (i := 78) (by decide +kernel)) (by decide +kernel)
theorem im_X12_mostBy : Cond.instanceMethod yX12_mostBy ∈ TB := tb_8 (List.mem_of_getElem? (i := 77) (by decide +kernel)) (by decide +kernel)
theorem se_X12_mostBy : Cond.selects RX12 yX12_mostBy yX12_mostBy ∈ TB := tb_0 (y := yX12_mostBy) (n := 51) (List.mem_of_getElem? (i := 87) (by decide +kernel)) (by decide +kernel)
theorem kc_X12_mostBy : cV RX12 yX12_mostBy cX12_mostBy 5 (some .int) 3 := ⟨im_X12_mostBy, se_X12_mostBy, cd_X12_mostBy, in_X12, ⟨by decide +kernel, by decide +kernel, by decide +kernel⟩⟩
theorem ml_X12_405 : Cond.methodLink RX12 405 yX12_mostBy ∈ TB := tb_8 (List.mem_of_getElem? (i := 75) (by decide +kernel)) (by decide +kernel)
theorem fl_X12_77 : Cond.fieldLink RX12 77 RX12 (TX12 32).2.1 (TX12 32).2.2.1 ∈ TB := tb_6 (List.mem_of_getElem? (i := 119) (by decide +kernel)) (by decide +kernel)
theorem fg_X12_77 : fg RX12 77 12 32 := ⟨RX12, RX12, TX12, 51, rfl, by decide, tbX12, fl_X12_77, fun _ _ h => h⟩
theorem fp_X12_77 : fp RX12 77 12 32 .int := ⟨RX12, RX12, TX12, 51, tyX12, rfl, by decide, tbX12, fl_X12_77, fun _ _ h => h, tyX12_ok, nmX12, rfl, by decide +kernel⟩
theorem fl_X12_80 : Cond.fieldLink RX12 80 RX12 (TX12 33).2.1 (TX12 33).2.2.1 ∈ TB := tb_6 (List.mem_of_getElem? (i := 120) (by decide +kernel)) (by decide +kernel)
theorem fg_X12_80 : fg RX12 80 12 33 := ⟨RX12, RX12, TX12, 51, rfl, by decide, tbX12, fl_X12_80, fun _ _ h => h⟩
theorem cd_X12_agrees : Cond.code yX12_agrees cX12_agrees 6 (some .boolean) ∈ TB := tb_8 (List.mem_of_getElem? (i := 90) (by decide +kernel)) (by decide +kernel)
theorem im_X12_agrees : Cond.instanceMethod yX12_agrees ∈ TB := tb_8 (List.mem_of_getElem? (i := 89) (by decide +kernel)) (by decide +kernel)
theorem se_X12_agrees : Cond.selects RX12 yX12_agrees yX12_agrees ∈ TB := tb_0 (y := yX12_agrees) (n := 51) (List.mem_of_getElem? (i := 88) (by decide +kernel)) (by decide +kernel)
theorem kc_X12_agrees : cV RX12 yX12_agrees cX12_agrees 6 (some .boolean) 1 := ⟨im_X12_agrees, se_X12_agrees, cd_X12_agrees, in_X12, ⟨by decide +kernel, by decide +kernel, by decide +kernel⟩⟩
theorem ml_X12_408 : Cond.methodLink RX12 408 yX12_agrees ∈ TB := tb_8 (List.mem_of_getElem? (i := 87) (by decide +kernel)) (by decide +kernel)
theorem fl_X12_83 : Cond.fieldLink RX12 83 RX12 (TX12 34).2.1 (TX12 34).2.2.1 ∈ TB := tb_6 (List.mem_of_getElem? (i := 121) (by decide +kernel)) (by decide +kernel)
theorem fg_X12_83 : fg RX12 83 12 34 := ⟨RX12, RX12, TX12, 51, rfl, by decide, tbX12, fl_X12_83, fun _ _ h => h⟩
theorem fp_X12_83 : fp RX12 83 12 34 .int := ⟨RX12, RX12, TX12, 51, tyX12, rfl, by decide, tbX12, fl_X12_83, fun _ _ h => h, tyX12_ok, nmX12, rfl, by decide +kernel⟩
theorem fl_X12_86 : Cond.fieldLink RX12 86 RX12 (TX12 35).2.1 (TX12 35).2.2.1 ∈ TB := tb_6 (List.mem_of_getElem? (i := 122) (by decide +kernel)) (by decide +kernel)
theorem fg_X12_86 : fg RX12 86 12 35 := ⟨RX12, RX12, TX12, 51, rfl, by decide, tbX12, fl_X12_86, fun _ _ h => h⟩
theorem fl_X12_411 : Cond.fieldLink RX12 411 RX12 (TX12 36).2.1 (TX12 36).2.2.1 ∈ TB := tb_6 (List.mem_of_getElem? (i := 123) (by decide +kernel)) (by decide +kernel)
theorem fg_X12_411 : fg RX12 411 12 36 := ⟨RX12, RX12, TX12, 51, rfl, by decide, tbX12, fl_X12_411, fun _ _ h => h⟩
theorem fp_X12_411 : fp RX12 411 12 36 .int := ⟨RX12, RX12, TX12, 51, tyX12, rfl, by decide, tbX12, fl_X12_411, fun _ _ h => h, tyX12_ok, nmX12, rfl, by decide +kernel⟩
theorem kL_X12_414 : Cond.constantLong RX12 414 (255) ∈ TB := tb_8 (List.mem_of_getElem? (i := 107) (by decide +kernel)) (by decide +kernel)
theorem cd_X12_lays : Cond.code yX12_lays cX12_lays 2 none ∈ TB := tb_8 (List.mem_of_getElem? (i := 111) (by decide +kernel)) (by decide +kernel)
theorem im_X12_lays : Cond.instanceMethod yX12_lays ∈ TB := tb_8 (List.mem_of_getElem? (i := 110) (by decide +kernel)) (by decide +kernel)
theorem se_X12_lays : Cond.selects RX12 yX12_lays yX12_lays ∈ TB := tb_0 (y := yX12_lays) (n := 51) (List.mem_of_getElem? (i := 90) (by decide +kernel)) (by decide +kernel)
theorem kc_X12_lays : cV RX12 yX12_lays cX12_lays 2 none 1 := ⟨im_X12_lays, se_X12_lays, cd_X12_lays, in_X12, ⟨by decide +kernel, by decide +kernel, by decide +kernel⟩⟩
theorem ml_X12_416 : Cond.methodLink RX12 416 yX12_lays ∈ TB := tb_8 (List.mem_of_getElem? (i := 108) (by decide +kernel)) (by decide +kernel)
theorem cd_X12_spells : Cond.code yX12_spells cX12_spells 4 none ∈ TB := tb_8 (List.mem_of_getElem? (i := 106) (by decide +kernel)) (by decide +kernel)
theorem im_X12_spells : Cond.instanceMethod yX12_spells ∈ TB := tb_8 (List.mem_of_getElem? (i := 105) (by decide +kernel)) (by decide +kernel)
theorem se_X12_spells : Cond.selects RX12 yX12_spells yX12_spells ∈ TB := tb_0 (y := yX12_spells) (n := 51) (List.mem_of_getElem? (i := 89) (by decide +kernel)) (by decide +kernel)
theorem kc_X12_spells : cV RX12 yX12_spells cX12_spells 4 none 1 := ⟨im_X12_spells, se_X12_spells, cd_X12_spells, in_X12, ⟨by decide +kernel, by decide +kernel, by decide +kernel⟩⟩
theorem ml_X12_419 : Cond.methodLink RX12 419 yX12_spells ∈ TB := tb_8 (List.mem_of_getElem? (i := 103) (by decide +kernel)) (by decide +kernel)
theorem cd_X12_says : Cond.code yX12_says cX12_says 3 none ∈ TB := tb_8 (List.mem_of_getElem? (i := 115) (by decide +kernel)) (by decide +kernel)
theorem im_X12_says : Cond.instanceMethod yX12_says ∈ TB := tb_8 (List.mem_of_getElem? (i := 114) (by decide +kernel)) (by decide +kernel)
theorem se_X12_says : Cond.selects RX12 yX12_says yX12_says ∈ TB := tb_0 (y := yX12_says) (n := 51) (List.mem_of_getElem? (i := 91) (by decide +kernel)) (by decide +kernel)
theorem kc_X12_says : cV RX12 yX12_says cX12_says 3 none 1 := ⟨im_X12_says, se_X12_says, cd_X12_says, in_X12, ⟨by decide +kernel, by decide +kernel, by decide +kernel⟩⟩
theorem ml_X12_423 : Cond.methodLink RX12 423 yX12_says ∈ TB := tb_8 (List.mem_of_getElem? (i := 112) (by decide +kernel)) (by decide +kernel)
theorem kL_X12_426 : Cond.constantLong RX12 426 (31084793196801639) ∈ TB := tb_8 (List.mem_of_getElem? (i := 116) (by decide +kernel)) (by decide +kernel)
theorem kL_X12_170 : Cond.constantLong RX12 170 (28526) ∈ TB := tb_6 (List.mem_of_getElem? (i := 78) (by decide +kernel)) (by decide +kernel)
theorem fl_X12_428 : Cond.fieldLink RX12 428 RX12 (TX12 37).2.1 (TX12 37).2.2.1 ∈ TB := tb_6 (List.mem_of_getElem? (i := 124) (by decide +kernel)) (by decide +kernel)
theorem fg_X12_428 : fg RX12 428 12 37 := ⟨RX12, RX12, TX12, 51, rfl, by decide, tbX12, fl_X12_428, fun _ _ h => h⟩
theorem kn_X12_431 : Cond.constant RX12 431 (1103515245) ∈ TB := tb_8 (List.mem_of_getElem? (i := 133) (by decide +kernel)) (by decide +kernel)
theorem fp_X12_428 : fp RX12 428 12 37 .int := ⟨RX12, RX12, TX12, 51, tyX12, rfl, by decide, tbX12, fl_X12_428, fun _ _ h => h, tyX12_ok, nmX12, rfl, by decide +kernel⟩
theorem cd_X12_draw : Cond.code yX12_draw cX12_draw 2 (some .int) ∈ TB := tb_8 (List.mem_of_getElem? (i := 132) (by decide +kernel)) (by decide +kernel)
theorem im_X12_draw : Cond.instanceMethod yX12_draw ∈ TB := tb_8 (List.mem_of_getElem? (i := 131) (by decide +kernel)) (by decide +kernel)
theorem se_X12_draw : Cond.selects RX12 yX12_draw yX12_draw ∈ TB := tb_0 (y := yX12_draw) (n := 51) (List.mem_of_getElem? (i := 93) (by decide +kernel)) (by decide +kernel)
theorem kc_X12_draw : cV RX12 yX12_draw cX12_draw 2 (some .int) 1 := ⟨im_X12_draw, se_X12_draw, cd_X12_draw, in_X12, ⟨by decide +kernel, by decide +kernel, by decide +kernel⟩⟩
theorem ml_X12_432 : Cond.methodLink RX12 432 yX12_draw ∈ TB := tb_8 (List.mem_of_getElem? (i := 129) (by decide +kernel)) (by decide +kernel)
theorem cd_X12_drawPerson : Cond.code yX12_drawPerson cX12_drawPerson 5 none ∈ TB := tb_8 (List.mem_of_getElem? (i := 137) (by decide +kernel)) (by decide +kernel)
theorem im_X12_drawPerson : Cond.instanceMethod yX12_drawPerson ∈ TB := tb_8 (List.mem_of_getElem? (i := 136) (by decide +kernel)) (by decide +kernel)
theorem se_X12_drawPerson : Cond.selects RX12 yX12_drawPerson yX12_drawPerson ∈ TB := tb_0 (y := yX12_drawPerson) (n := 51) (List.mem_of_getElem? (i := 94) (by decide +kernel)) (by decide +kernel)
theorem kc_X12_drawPerson : cV RX12 yX12_drawPerson cX12_drawPerson 5 none 1 := ⟨im_X12_drawPerson, se_X12_drawPerson, cd_X12_drawPerson, in_X12, ⟨by decide +kernel, by decide +kernel, by decide +kernel⟩⟩
theorem ml_X12_435 : Cond.methodLink RX12 435 yX12_drawPerson ∈ TB := tb_8 (List.mem_of_getElem? (i := 134) (by decide +kernel)) (by decide +kernel)
theorem cd_X12_draws : Cond.code yX12_draws cX12_draws 5 (some .int) ∈ TB := tb_8 (List.mem_of_getElem? (i := 128) (by decide +kernel)) (by decide +kernel)
theorem im_X12_draws : Cond.instanceMethod yX12_draws ∈ TB := tb_8 (List.mem_of_getElem? (i := 127) (by decide +kernel)) (by decide +kernel)
theorem se_X12_draws : Cond.selects RX12 yX12_draws yX12_draws ∈ TB := tb_0 (y := yX12_draws) (n := 51) (List.mem_of_getElem? (i := 92) (by decide +kernel)) (by decide +kernel)
theorem kc_X12_draws : cV RX12 yX12_draws cX12_draws 5 (some .int) 2 := ⟨im_X12_draws, se_X12_draws, cd_X12_draws, in_X12, ⟨by decide +kernel, by decide +kernel, by decide +kernel⟩⟩
theorem ml_X12_438 : Cond.methodLink RX12 438 yX12_draws ∈ TB := tb_8 (List.mem_of_getElem? (i := 125) (by decide +kernel)) (by decide +kernel)
theorem cd_X12_back : Cond.code yX12_back cX12_back 2 none ∈ TB := tb_8 (List.mem_of_getElem? (i := 149) (by decide +kernel)) (by decide +kernel)
theorem im_X12_back : Cond.instanceMethod yX12_back ∈ TB := tb_8 (List.mem_of_getElem? (i := 148) (by decide +kernel)) (by decide +kernel)
theorem se_X12_back : Cond.selects RX12 yX12_back yX12_back ∈ TB := tb_0 (y := yX12_back) (n := 51) (List.mem_of_getElem? (i := 96) (by decide +kernel)) (by decide +kernel)
theorem kc_X12_back : cV RX12 yX12_back cX12_back 2 none 0 := ⟨im_X12_back, se_X12_back, cd_X12_back, in_X12, ⟨by decide +kernel, by decide +kernel, by decide +kernel⟩⟩
theorem ml_X12_444 : Cond.methodLink RX12 444 yX12_back ∈ TB := tb_8 (List.mem_of_getElem? (i := 146) (by decide +kernel)) (by decide +kernel)
theorem cd_X12_tries : Cond.code yX12_tries cX12_tries 2 none ∈ TB := tb_8 (List.mem_of_getElem? (i := 145) (by decide +kernel)) (by decide +kernel)
theorem im_X12_tries : Cond.instanceMethod yX12_tries ∈ TB := tb_8 (List.mem_of_getElem? (i := 144) (by decide +kernel)) (by decide +kernel)
theorem se_X12_tries : Cond.selects RX12 yX12_tries yX12_tries ∈ TB := tb_0 (y := yX12_tries) (n := 51) (List.mem_of_getElem? (i := 95) (by decide +kernel)) (by decide +kernel)
theorem kc_X12_tries : cV RX12 yX12_tries cX12_tries 2 none 0 := ⟨im_X12_tries, se_X12_tries, cd_X12_tries, in_X12, ⟨by decide +kernel, by decide +kernel, by decide +kernel⟩⟩
theorem ml_X12_441 : Cond.methodLink RX12 441 yX12_tries ∈ TB := tb_8 (List.mem_of_getElem? (i := 142) (by decide +kernel)) (by decide +kernel)
theorem fl_X12_40 : Cond.fieldLink RX12 40 RX12 (TX12 8).2.1 (TX12 8).2.2.1 ∈ TB := tb_6 (List.mem_of_getElem? (i := 95) (by decide +kernel)) (by decide +kernel)
theorem fg_X12_40 : fg RX12 40 12 8 := ⟨RX12, RX12, TX12, 51, rfl, by decide, tbX12, fl_X12_40, fun _ _ h => h⟩
theorem fl_X12_447 : Cond.fieldLink RX12 447 RX12 (TX12 38).2.1 (TX12 38).2.2.1 ∈ TB := tb_6 (List.mem_of_getElem? (i := 125) (by decide +kernel)) (by decide +kernel)
theorem fg_X12_447 : fg RX12 447 12 38 := ⟨RX12, RX12, TX12, 51, rfl, by decide, tbX12, fl_X12_447, fun _ _ h => h⟩
theorem kL_X12_148 : Cond.constantLong RX12 148 (495874699885) ∈ TB := tb_6 (List.mem_of_getElem? (i := 67) (by decide +kernel)) (by decide +kernel)
theorem kL_X12_150 : Cond.constantLong RX12 150 (2002873452) ∈ TB := tb_6 (List.mem_of_getElem? (i := 68) (by decide +kernel)) (by decide +kernel)
theorem kL_X12_152 : Cond.constantLong RX12 152 (129117309725804) ∈ TB := tb_6 (List.mem_of_getElem? (i := 69) (by decide +kernel)) (by decide +kernel)
theorem kL_X12_154 : Cond.constantLong RX12 154 (6578553) ∈ TB := tb_6 (List.mem_of_getElem? (i := 70) (by decide +kernel)) (by decide +kernel)
theorem fl_X12_89 : Cond.fieldLink RX12 89 RX12 (TX12 39).2.1 (TX12 39).2.2.1 ∈ TB := tb_6 (List.mem_of_getElem? (i := 126) (by decide +kernel)) (by decide +kernel)
theorem fg_X12_89 : fg RX12 89 12 39 := ⟨RX12, RX12, TX12, 51, rfl, by decide, tbX12, fl_X12_89, fun _ _ h => h⟩
theorem fl_X12_457 : Cond.fieldLink RX12 457 RX12 (TX12 40).2.1 (TX12 40).2.2.1 ∈ TB := tb_6 (List.mem_of_getElem? (i := 127) (by decide +kernel)) (by decide +kernel)
theorem fg_X12_457 : fg RX12 457 12 40 := ⟨RX12, RX12, TX12, 51, rfl, by decide, tbX12, fl_X12_457, fun _ _ h => h⟩
theorem fp_X12_457 : fp RX12 457 12 40 .boolean := ⟨RX12, RX12, TX12, 51, tyX12, rfl, by decide, tbX12, fl_X12_457, fun _ _ h => h, tyX12_ok, nmX12, rfl, by decide +kernel⟩
theorem cd_X12_does : Cond.code yX12_does cX12_does 6 (some .int) ∈ TB := tb_8 (List.mem_of_getElem? (i := 161) (by decide +kernel)) (by decide +kernel)
theorem im_X12_does : Cond.instanceMethod yX12_does ∈ TB := tb_8 (List.mem_of_getElem? (i := 160) (by decide +kernel)) (by decide +kernel)
theorem se_X12_does : Cond.selects RX12 yX12_does yX12_does ∈ TB := tb_0 (y := yX12_does) (n := 51) (List.mem_of_getElem? (i := 98) (by decide +kernel)) (by decide +kernel)
theorem kc_X12_does : cV RX12 yX12_does cX12_does 6 (some .int) 4 := ⟨im_X12_does, se_X12_does, cd_X12_does, in_X12, ⟨by decide +kernel, by decide +kernel, by decide +kernel⟩⟩
theorem ml_X12_453 : Cond.methodLink RX12 453 yX12_does ∈ TB := tb_8 (List.mem_of_getElem? (i := 158) (by decide +kernel)) (by decide +kernel)
theorem cd_X12_bookLine : Cond.code yX12_bookLine cX12_bookLine 5 (some .boolean) ∈ TB := tb_8 (List.mem_of_getElem? (i := 157) (by decide +kernel)) (by decide +kernel)
theorem im_X12_bookLine : Cond.instanceMethod yX12_bookLine ∈ TB := tb_8 (List.mem_of_getElem? (i := 156) (by decide +kernel)) (by decide +kernel)
theorem se_X12_bookLine : Cond.selects RX12 yX12_bookLine yX12_bookLine ∈ TB := tb_0 (y := yX12_bookLine) (n := 51) (List.mem_of_getElem? (i := 97) (by decide +kernel)) (by decide +kernel)
theorem kc_X12_bookLine : cV RX12 yX12_bookLine cX12_bookLine 5 (some .boolean) 0 := ⟨im_X12_bookLine, se_X12_bookLine, cd_X12_bookLine, in_X12, ⟨by decide +kernel, by decide +kernel, by decide +kernel⟩⟩
theorem ml_X12_450 : Cond.methodLink RX12 450 yX12_bookLine ∈ TB := tb_8 (List.mem_of_getElem? (i := 154) (by decide +kernel)) (by decide +kernel)
theorem fp_X12_447 : fp RX12 447 12 38 .int := ⟨RX12, RX12, TX12, 51, tyX12, rfl, by decide, tbX12, fl_X12_447, fun _ _ h => h, tyX12_ok, nmX12, rfl, by decide +kernel⟩
theorem fl_X12_460 : Cond.fieldLink RX12 460 RX12 (TX12 42).2.1 (TX12 42).2.2.1 ∈ TB := tb_6 (List.mem_of_getElem? (i := 129) (by decide +kernel)) (by decide +kernel)
theorem fg_X12_460 : fg RX12 460 12 42 := ⟨RX12, RX12, TX12, 51, rfl, by decide, tbX12, fl_X12_460, fun _ _ h => h⟩
theorem fp_X12_460 : fp RX12 460 12 42 .int := ⟨RX12, RX12, TX12, 51, tyX12, rfl, by decide, tbX12, fl_X12_460, fun _ _ h => h, tyX12_ok, nmX12, rfl, by decide +kernel⟩
theorem fl_X12_463 : Cond.fieldLink RX12 463 RX12 (TX12 44).2.1 (TX12 44).2.2.1 ∈ TB := tb_6 (List.mem_of_getElem? (i := 131) (by decide +kernel)) (by decide +kernel)
theorem fg_X12_463 : fg RX12 463 12 44 := ⟨RX12, RX12, TX12, 51, rfl, by decide, tbX12, fl_X12_463, fun _ _ h => h⟩
theorem fp_X12_463 : fp RX12 463 12 44 .int := ⟨RX12, RX12, TX12, 51, tyX12, rfl, by decide, tbX12, fl_X12_463, fun _ _ h => h, tyX12_ok, nmX12, rfl, by decide +kernel⟩
theorem fl_X12_92 : Cond.fieldLink RX12 92 RX12 (TX12 41).2.1 (TX12 41).2.2.1 ∈ TB := tb_6 (List.mem_of_getElem? (i := 128) (by decide +kernel)) (by decide +kernel)
theorem fg_X12_92 : fg RX12 92 12 41 := ⟨RX12, RX12, TX12, 51, rfl, by decide, tbX12, fl_X12_92, fun _ _ h => h⟩
theorem cd_X12_code : Cond.code yX12_code cX12_code 4 none ∈ TB := tb_8 (List.mem_of_getElem? (i := 177) (by decide +kernel)) (by decide +kernel)
theorem im_X12_code : Cond.instanceMethod yX12_code ∈ TB := tb_8 (List.mem_of_getElem? (i := 176) (by decide +kernel)) (by decide +kernel)
theorem se_X12_code : Cond.selects RX12 yX12_code yX12_code ∈ TB := tb_0 (y := yX12_code) (n := 51) (List.mem_of_getElem? (i := 100) (by decide +kernel)) (by decide +kernel)
theorem kc_X12_code : cV RX12 yX12_code cX12_code 4 none 3 := ⟨im_X12_code, se_X12_code, cd_X12_code, in_X12, ⟨by decide +kernel, by decide +kernel, by decide +kernel⟩⟩
theorem ml_X12_466 : Cond.methodLink RX12 466 yX12_code ∈ TB := tb_8 (List.mem_of_getElem? (i := 174) (by decide +kernel)) (by decide +kernel)
theorem fl_X12_469 : Cond.fieldLink RX12 469 RX12 (TX12 45).2.1 (TX12 45).2.2.1 ∈ TB := tb_6 (List.mem_of_getElem? (i := 132) (by decide +kernel)) (by decide +kernel)
theorem fg_X12_469 : fg RX12 469 12 45 := ⟨RX12, RX12, TX12, 51, rfl, by decide, tbX12, fl_X12_469, fun _ _ h => h⟩
theorem fp_X12_469 : fp RX12 469 12 45 .int := ⟨RX12, RX12, TX12, 51, tyX12, rfl, by decide, tbX12, fl_X12_469, fun _ _ h => h, tyX12_ok, nmX12, rfl, by decide +kernel⟩
theorem kL_X12_162 : Cond.constantLong RX12 162 (30064) ∈ TB := tb_6 (List.mem_of_getElem? (i := 74) (by decide +kernel)) (by decide +kernel)
theorem kL_X12_164 : Cond.constantLong RX12 164 (1835625572) ∈ TB := tb_6 (List.mem_of_getElem? (i := 75) (by decide +kernel)) (by decide +kernel)
theorem kL_X12_166 : Cond.constantLong RX12 166 (31644380074042724) ∈ TB := tb_6 (List.mem_of_getElem? (i := 76) (by decide +kernel)) (by decide +kernel)
theorem kL_X12_168 : Cond.constantLong RX12 168 (6840691) ∈ TB := tb_6 (List.mem_of_getElem? (i := 77) (by decide +kernel)) (by decide +kernel)
theorem kL_X12_172 : Cond.constantLong RX12 172 (508574398323) ∈ TB := tb_6 (List.mem_of_getElem? (i := 79) (by decide +kernel)) (by decide +kernel)
theorem kL_X12_174 : Cond.constantLong RX12 174 (474148402789) ∈ TB := tb_6 (List.mem_of_getElem? (i := 80) (by decide +kernel)) (by decide +kernel)
theorem kL_X12_176 : Cond.constantLong RX12 176 (27985222756885860) ∈ TB := tb_6 (List.mem_of_getElem? (i := 81) (by decide +kernel)) (by decide +kernel)
theorem kL_X12_178 : Cond.constantLong RX12 178 (121450625394034) ∈ TB := tb_6 (List.mem_of_getElem? (i := 82) (by decide +kernel)) (by decide +kernel)
theorem fl_X12_475 : Cond.fieldLink RX12 475 RX12 (TX12 43).2.1 (TX12 43).2.2.1 ∈ TB := tb_6 (List.mem_of_getElem? (i := 130) (by decide +kernel)) (by decide +kernel)
theorem fg_X12_475 : fg RX12 475 12 43 := ⟨RX12, RX12, TX12, 51, rfl, by decide, tbX12, fl_X12_475, fun _ _ h => h⟩
theorem fp_X12_475 : fp RX12 475 12 43 .int := ⟨RX12, RX12, TX12, 51, tyX12, rfl, by decide, tbX12, fl_X12_475, fun _ _ h => h, tyX12_ok, nmX12, rfl, by decide +kernel⟩
theorem fl_X12_478 : Cond.fieldLink RX12 478 RX12 (TX12 46).2.1 (TX12 46).2.2.1 ∈ TB := tb_6 (List.mem_of_getElem? (i := 133) (by decide +kernel)) (by decide +kernel)
theorem fg_X12_478 : fg RX12 478 12 46 := ⟨RX12, RX12, TX12, 51, rfl, by decide, tbX12, fl_X12_478, fun _ _ h => h⟩
theorem fp_X12_478 : fp RX12 478 12 46 .boolean := ⟨RX12, RX12, TX12, 51, tyX12, rfl, by decide, tbX12, fl_X12_478, fun _ _ h => h, tyX12_ok, nmX12, rfl, by decide +kernel⟩
theorem kL_X12_160 : Cond.constantLong RX12 160 (7237492) ∈ TB := tb_6 (List.mem_of_getElem? (i := 73) (by decide +kernel)) (by decide +kernel)
theorem cd_X12_leafOf : Cond.code yX12_leafOf cX12_leafOf 1 (some .int) ∈ TB := tb_8 (List.mem_of_getElem? (i := 193) (by decide +kernel)) (by decide +kernel)
theorem im_X12_leafOf : Cond.instanceMethod yX12_leafOf ∈ TB := tb_8 (List.mem_of_getElem? (i := 192) (by decide +kernel)) (by decide +kernel)
theorem se_X12_leafOf : Cond.selects RX12 yX12_leafOf yX12_leafOf ∈ TB := tb_0 (y := yX12_leafOf) (n := 51) (List.mem_of_getElem? (i := 104) (by decide +kernel)) (by decide +kernel)
theorem kc_X12_leafOf : cV RX12 yX12_leafOf cX12_leafOf 1 (some .int) 0 := ⟨im_X12_leafOf, se_X12_leafOf, cd_X12_leafOf, in_X12, ⟨by decide +kernel, by decide +kernel, by decide +kernel⟩⟩
theorem ml_X12_472 : Cond.methodLink RX12 472 yX12_leafOf ∈ TB := tb_8 (List.mem_of_getElem? (i := 190) (by decide +kernel)) (by decide +kernel)
theorem cd_X12_joins : Cond.code yX12_joins cX12_joins 2 none ∈ TB := tb_8 (List.mem_of_getElem? (i := 181) (by decide +kernel)) (by decide +kernel)
theorem im_X12_joins : Cond.instanceMethod yX12_joins ∈ TB := tb_8 (List.mem_of_getElem? (i := 180) (by decide +kernel)) (by decide +kernel)
theorem se_X12_joins : Cond.selects RX12 yX12_joins yX12_joins ∈ TB := tb_0 (y := yX12_joins) (n := 51) (List.mem_of_getElem? (i := 101) (by decide +kernel)) (by decide +kernel)
theorem kc_X12_joins : cV RX12 yX12_joins cX12_joins 2 none 1 := ⟨im_X12_joins, se_X12_joins, cd_X12_joins, in_X12, ⟨by decide +kernel, by decide +kernel, by decide +kernel⟩⟩
theorem ml_X12_484 : Cond.methodLink RX12 484 yX12_joins ∈ TB := tb_8 (List.mem_of_getElem? (i := 178) (by decide +kernel)) (by decide +kernel)
theorem kL_X12_158 : Cond.constantLong RX12 158 (6385252) ∈ TB := tb_6 (List.mem_of_getElem? (i := 72) (by decide +kernel)) (by decide +kernel)
theorem cd_X12_nots : Cond.code yX12_nots cX12_nots 1 none ∈ TB := tb_8 (List.mem_of_getElem? (i := 173) (by decide +kernel)) (by decide +kernel)
theorem im_X12_nots : Cond.instanceMethod yX12_nots ∈ TB := tb_8 (List.mem_of_getElem? (i := 172) (by decide +kernel)) (by decide +kernel)
theorem se_X12_nots : Cond.selects RX12 yX12_nots yX12_nots ∈ TB := tb_0 (y := yX12_nots) (n := 51) (List.mem_of_getElem? (i := 99) (by decide +kernel)) (by decide +kernel)
theorem kc_X12_nots : cV RX12 yX12_nots cX12_nots 1 none 0 := ⟨im_X12_nots, se_X12_nots, cd_X12_nots, in_X12, ⟨by decide +kernel, by decide +kernel, by decide +kernel⟩⟩
theorem ml_X12_481 : Cond.methodLink RX12 481 yX12_nots ∈ TB := tb_8 (List.mem_of_getElem? (i := 170) (by decide +kernel)) (by decide +kernel)
theorem kL_X12_156 : Cond.constantLong RX12 156 (28530) ∈ TB := tb_6 (List.mem_of_getElem? (i := 71) (by decide +kernel)) (by decide +kernel)
theorem cd_X12_operand : Cond.code yX12_operand cX12_operand 5 (some .boolean) ∈ TB := tb_8 (List.mem_of_getElem? (i := 189) (by decide +kernel)) (by decide +kernel)
theorem im_X12_operand : Cond.instanceMethod yX12_operand ∈ TB := tb_8 (List.mem_of_getElem? (i := 188) (by decide +kernel)) (by decide +kernel)
theorem se_X12_operand : Cond.selects RX12 yX12_operand yX12_operand ∈ TB := tb_0 (y := yX12_operand) (n := 51) (List.mem_of_getElem? (i := 103) (by decide +kernel)) (by decide +kernel)
theorem kc_X12_operand : cV RX12 yX12_operand cX12_operand 5 (some .boolean) 0 := ⟨im_X12_operand, se_X12_operand, cd_X12_operand, in_X12, ⟨by decide +kernel, by decide +kernel, by decide +kernel⟩⟩
theorem ml_X12_490 : Cond.methodLink RX12 490 yX12_operand ∈ TB := tb_8 (List.mem_of_getElem? (i := 186) (by decide +kernel)) (by decide +kernel)
theorem cd_X12_behind_ : Cond.code yX12_behind_ cX12_behind_ 1 (some .boolean) ∈ TB := tb_8 (List.mem_of_getElem? (i := 185) (by decide +kernel)) (by decide +kernel)
theorem im_X12_behind_ : Cond.instanceMethod yX12_behind_ ∈ TB := tb_8 (List.mem_of_getElem? (i := 184) (by decide +kernel)) (by decide +kernel)
theorem se_X12_behind_ : Cond.selects RX12 yX12_behind_ yX12_behind_ ∈ TB := tb_0 (y := yX12_behind_) (n := 51) (List.mem_of_getElem? (i := 102) (by decide +kernel)) (by decide +kernel)
theorem kc_X12_behind_ : cV RX12 yX12_behind_ cX12_behind_ 1 (some .boolean) 0 := ⟨im_X12_behind_, se_X12_behind_, cd_X12_behind_, in_X12, ⟨by decide +kernel, by decide +kernel, by decide +kernel⟩⟩
theorem ml_X12_487 : Cond.methodLink RX12 487 yX12_behind_ ∈ TB := tb_8 (List.mem_of_getElem? (i := 182) (by decide +kernel)) (by decide +kernel)
theorem fl_X12_95 : Cond.fieldLink RX12 95 RX12 (TX12 47).2.1 (TX12 47).2.2.1 ∈ TB := tb_6 (List.mem_of_getElem? (i := 134) (by decide +kernel)) (by decide +kernel)
theorem fg_X12_95 : fg RX12 95 12 47 := ⟨RX12, RX12, TX12, 51, rfl, by decide, tbX12, fl_X12_95, fun _ _ h => h⟩
theorem cd_X12_isLeaf : Cond.code yX12_isLeaf cX12_isLeaf 6 (some .boolean) ∈ TB := tb_8 (List.mem_of_getElem? (i := 205) (by decide +kernel)) (by decide +kernel)
theorem im_X12_isLeaf : Cond.instanceMethod yX12_isLeaf ∈ TB := tb_8 (List.mem_of_getElem? (i := 204) (by decide +kernel)) (by decide +kernel)
theorem se_X12_isLeaf : Cond.selects RX12 yX12_isLeaf yX12_isLeaf ∈ TB := tb_0 (y := yX12_isLeaf) (n := 51) (List.mem_of_getElem? (i := 106) (by decide +kernel)) (by decide +kernel)
theorem kc_X12_isLeaf : cV RX12 yX12_isLeaf cX12_isLeaf 6 (some .boolean) 4 := ⟨im_X12_isLeaf, se_X12_isLeaf, cd_X12_isLeaf, in_X12, ⟨by decide +kernel, by decide +kernel, by decide +kernel⟩⟩
theorem ml_X12_493 : Cond.methodLink RX12 493 yX12_isLeaf ∈ TB := tb_8 (List.mem_of_getElem? (i := 202) (by decide +kernel)) (by decide +kernel)
theorem cd_X12_isSaid : Cond.code yX12_isSaid cX12_isSaid 5 (some .boolean) ∈ TB := tb_8 (List.mem_of_getElem? (i := 201) (by decide +kernel)) (by decide +kernel)
theorem im_X12_isSaid : Cond.instanceMethod yX12_isSaid ∈ TB := tb_8 (List.mem_of_getElem? (i := 200) (by decide +kernel)) (by decide +kernel)
theorem se_X12_isSaid : Cond.selects RX12 yX12_isSaid yX12_isSaid ∈ TB := tb_0 (y := yX12_isSaid) (n := 51) (List.mem_of_getElem? (i := 105) (by decide +kernel)) (by decide +kernel)
theorem kc_X12_isSaid : cV RX12 yX12_isSaid cX12_isSaid 5 (some .boolean) 1 := ⟨im_X12_isSaid, se_X12_isSaid, cd_X12_isSaid, in_X12, ⟨by decide +kernel, by decide +kernel, by decide +kernel⟩⟩
theorem ml_X12_497 : Cond.methodLink RX12 497 yX12_isSaid ∈ TB := tb_8 (List.mem_of_getElem? (i := 198) (by decide +kernel)) (by decide +kernel)
theorem fl_X12_105 : Cond.fieldLink RX12 105 RX12 (TX12 50).2.1 (TX12 50).2.2.1 ∈ TB := tb_6 (List.mem_of_getElem? (i := 137) (by decide +kernel)) (by decide +kernel)
theorem fg_X12_105 : fg RX12 105 12 50 := ⟨RX12, RX12, TX12, 51, rfl, by decide, tbX12, fl_X12_105, fun _ _ h => h⟩
theorem fl_X12_102 : Cond.fieldLink RX12 102 RX12 (TX12 49).2.1 (TX12 49).2.2.1 ∈ TB := tb_6 (List.mem_of_getElem? (i := 136) (by decide +kernel)) (by decide +kernel)
theorem fg_X12_102 : fg RX12 102 12 49 := ⟨RX12, RX12, TX12, 51, rfl, by decide, tbX12, fl_X12_102, fun _ _ h => h⟩
theorem fl_X12_99 : Cond.fieldLink RX12 99 RX12 (TX12 48).2.1 (TX12 48).2.2.1 ∈ TB := tb_6 (List.mem_of_getElem? (i := 135) (by decide +kernel)) (by decide +kernel)
theorem fg_X12_99 : fg RX12 99 12 48 := ⟨RX12, RX12, TX12, 51, rfl, by decide, tbX12, fl_X12_99, fun _ _ h => h⟩
