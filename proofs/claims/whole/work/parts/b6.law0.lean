/-! the law: words, the world between the calls -/
theorem ml_L_19 : Cond.methodLink RL 19 yX11_feed ∈ TB := tb_2 (List.mem_of_getElem? (i := 228) (by decide +kernel)) (by decide +kernel)
theorem cd_X11_feed : Cond.code yX11_feed cX11_feed 6 (some .int) ∈ TB := tb_2 (List.mem_of_getElem? (i := 231) (by decide +kernel)) (by decide +kernel)
theorem im_X11_feed : Cond.instanceMethod yX11_feed ∈ TB := tb_2 (List.mem_of_getElem? (i := 229) (by decide +kernel)) (by decide +kernel)
theorem se_X11_feed : Cond.selects RX11 yX11_feed yX11_feed ∈ TB := tb_2 (List.mem_of_getElem? (i := 230) (by decide +kernel)) (by decide +kernel)
theorem kc_X11_feed : cV RX11 yX11_feed cX11_feed 6 (some .int) 5 := ⟨im_X11_feed, se_X11_feed, cd_X11_feed, in_X11, ⟨by decide +kernel, by decide +kernel, by decide +kernel⟩⟩
theorem ml_L_23 : Cond.methodLink RL 23 yX12_feed ∈ TB := tb_6 (List.mem_of_getElem? (i := 29) (by decide +kernel)) (by decide +kernel)
theorem cd_X12_feed : Cond.code yX12_feed cX12_feed 6 (some .int) ∈ TB := tb_6 (List.mem_of_getElem? (i := 32) (by decide +kernel)) (by decide +kernel)
theorem im_X12_feed : Cond.instanceMethod yX12_feed ∈ TB := tb_6 (List.mem_of_getElem? (i := 30) (by decide +kernel)) (by decide +kernel)
theorem se_X12_feed : Cond.selects RX12 yX12_feed yX12_feed ∈ TB := tb_6 (List.mem_of_getElem? (i := 31) (by decide +kernel)) (by decide +kernel)
theorem kc_X12_feed : cV RX12 yX12_feed cX12_feed 6 (some .int) 5 := ⟨im_X12_feed, se_X12_feed, cd_X12_feed, in_X12, ⟨by decide +kernel, by decide +kernel, by decide +kernel⟩⟩
theorem ml_L_24 : Cond.methodLink RL 24 yX11_end ∈ TB := tb_3 (List.mem_of_getElem? (i := 0) (by decide +kernel)) (by decide +kernel)
theorem cd_X11_end : Cond.code yX11_end cX11_end 2 (some .boolean) ∈ TB := tb_3 (List.mem_of_getElem? (i := 3) (by decide +kernel)) (by decide +kernel)
theorem im_X11_end : Cond.instanceMethod yX11_end ∈ TB := tb_3 (List.mem_of_getElem? (i := 1) (by decide +kernel)) (by decide +kernel)
theorem se_X11_end : Cond.selects RX11 yX11_end yX11_end ∈ TB := tb_3 (List.mem_of_getElem? (i := 2) (by decide +kernel)) (by decide +kernel)
theorem kc_X11_end : cV RX11 yX11_end cX11_end 2 (some .boolean) 1 := ⟨im_X11_end, se_X11_end, cd_X11_end, in_X11, ⟨by decide +kernel, by decide +kernel, by decide +kernel⟩⟩
theorem ml_L_28 : Cond.methodLink RL 28 yX12_end ∈ TB := tb_6 (List.mem_of_getElem? (i := 38) (by decide +kernel)) (by decide +kernel)
theorem cd_X12_end : Cond.code yX12_end cX12_end 2 (some .boolean) ∈ TB := tb_6 (List.mem_of_getElem? (i := 41) (by decide +kernel)) (by decide +kernel)
theorem im_X12_end : Cond.instanceMethod yX12_end ∈ TB := tb_6 (List.mem_of_getElem? (i := 39) (by decide +kernel)) (by decide +kernel)
theorem se_X12_end : Cond.selects RX12 yX12_end yX12_end ∈ TB := tb_6 (List.mem_of_getElem? (i := 40) (by decide +kernel)) (by decide +kernel)
theorem kc_X12_end : cV RX12 yX12_end cX12_end 2 (some .boolean) 1 := ⟨im_X12_end, se_X12_end, cd_X12_end, in_X12, ⟨by decide +kernel, by decide +kernel, by decide +kernel⟩⟩
theorem ml_L_29 : Cond.methodLink RL 29 yX11_suburb ∈ TB := tb_3 (List.mem_of_getElem? (i := 4) (by decide +kernel)) (by decide +kernel)
theorem cd_X11_suburb : Cond.code yX11_suburb cX11_suburb 2 (some .int) ∈ TB := tb_3 (List.mem_of_getElem? (i := 7) (by decide +kernel)) (by decide +kernel)
theorem im_X11_suburb : Cond.instanceMethod yX11_suburb ∈ TB := tb_3 (List.mem_of_getElem? (i := 5) (by decide +kernel)) (by decide +kernel)
theorem se_X11_suburb : Cond.selects RX11 yX11_suburb yX11_suburb ∈ TB := tb_3 (List.mem_of_getElem? (i := 6) (by decide +kernel)) (by decide +kernel)
theorem kc_X11_suburb : cV RX11 yX11_suburb cX11_suburb 2 (some .int) 0 := ⟨im_X11_suburb, se_X11_suburb, cd_X11_suburb, in_X11, ⟨by decide +kernel, by decide +kernel, by decide +kernel⟩⟩
theorem ml_L_33 : Cond.methodLink RL 33 yX12_suburb ∈ TB := tb_7 (List.mem_of_getElem? (i := 2) (by decide +kernel)) (by decide +kernel)
theorem cd_X12_suburb : Cond.code yX12_suburb cX12_suburb 2 (some .int) ∈ TB := tb_7 (List.mem_of_getElem? (i := 5) (by decide +kernel)) (by decide +kernel)
theorem im_X12_suburb : Cond.instanceMethod yX12_suburb ∈ TB := tb_7 (List.mem_of_getElem? (i := 3) (by decide +kernel)) (by decide +kernel)
theorem se_X12_suburb : Cond.selects RX12 yX12_suburb yX12_suburb ∈ TB := tb_7 (List.mem_of_getElem? (i := 4) (by decide +kernel)) (by decide +kernel)
theorem kc_X12_suburb : cV RX12 yX12_suburb cX12_suburb 2 (some .int) 0 := ⟨im_X12_suburb, se_X12_suburb, cd_X12_suburb, in_X12, ⟨by decide +kernel, by decide +kernel, by decide +kernel⟩⟩
theorem ml_L_34 : Cond.methodLink RL 34 yX11_fault ∈ TB := tb_3 (List.mem_of_getElem? (i := 160) (by decide +kernel)) (by decide +kernel)
theorem cd_X11_fault : Cond.code yX11_fault cX11_fault 1 (some .int) ∈ TB := tb_3 (List.mem_of_getElem? (i := 163) (by decide +kernel)) (by decide +kernel)
theorem im_X11_fault : Cond.instanceMethod yX11_fault ∈ TB := tb_3 (List.mem_of_getElem? (i := 161) (by decide +kernel)) (by decide +kernel)
theorem se_X11_fault : Cond.selects RX11 yX11_fault yX11_fault ∈ TB := tb_3 (List.mem_of_getElem? (i := 162) (by decide +kernel)) (by decide +kernel)
theorem kc_X11_fault : cV RX11 yX11_fault cX11_fault 1 (some .int) 0 := ⟨im_X11_fault, se_X11_fault, cd_X11_fault, in_X11, ⟨by decide +kernel, by decide +kernel, by decide +kernel⟩⟩
theorem ml_L_37 : Cond.methodLink RL 37 yX12_fault ∈ TB := tb_7 (List.mem_of_getElem? (i := 98) (by decide +kernel)) (by decide +kernel)
theorem cd_X12_fault : Cond.code yX12_fault cX12_fault 1 (some .int) ∈ TB := tb_7 (List.mem_of_getElem? (i := 101) (by decide +kernel)) (by decide +kernel)
theorem im_X12_fault : Cond.instanceMethod yX12_fault ∈ TB := tb_7 (List.mem_of_getElem? (i := 99) (by decide +kernel)) (by decide +kernel)
theorem se_X12_fault : Cond.selects RX12 yX12_fault yX12_fault ∈ TB := tb_7 (List.mem_of_getElem? (i := 100) (by decide +kernel)) (by decide +kernel)
theorem kc_X12_fault : cV RX12 yX12_fault cX12_fault 1 (some .int) 0 := ⟨im_X12_fault, se_X12_fault, cd_X12_fault, in_X12, ⟨by decide +kernel, by decide +kernel, by decide +kernel⟩⟩
theorem ml_L_43 : Cond.methodLink RL 43 yX12_person ∈ TB := tb_7 (List.mem_of_getElem? (i := 102) (by decide +kernel)) (by decide +kernel)
theorem cd_X12_person : Cond.code yX12_person cX12_person 3 (some .int) ∈ TB := tb_7 (List.mem_of_getElem? (i := 105) (by decide +kernel)) (by decide +kernel)
theorem im_X12_person : Cond.instanceMethod yX12_person ∈ TB := tb_7 (List.mem_of_getElem? (i := 103) (by decide +kernel)) (by decide +kernel)
theorem se_X12_person : Cond.selects RX12 yX12_person yX12_person ∈ TB := tb_7 (List.mem_of_getElem? (i := 104) (by decide +kernel)) (by decide +kernel)
theorem kc_X12_person : cV RX12 yX12_person cX12_person 3 (some .int) 2 := ⟨im_X12_person, se_X12_person, cd_X12_person, in_X12, ⟨by decide +kernel, by decide +kernel, by decide +kernel⟩⟩
theorem ml_L_44 : Cond.methodLink RL 44 yX12_thrown ∈ TB := tb_6 (List.mem_of_getElem? (i := 25) (by decide +kernel)) (by decide +kernel)
theorem cd_X12_thrown : Cond.code yX12_thrown cX12_thrown 1 (some .int) ∈ TB := tb_6 (List.mem_of_getElem? (i := 28) (by decide +kernel)) (by decide +kernel)
theorem im_X12_thrown : Cond.instanceMethod yX12_thrown ∈ TB := tb_6 (List.mem_of_getElem? (i := 26) (by decide +kernel)) (by decide +kernel)
theorem se_X12_thrown : Cond.selects RX12 yX12_thrown yX12_thrown ∈ TB := tb_6 (List.mem_of_getElem? (i := 27) (by decide +kernel)) (by decide +kernel)
theorem kc_X12_thrown : cV RX12 yX12_thrown cX12_thrown 1 (some .int) 0 := ⟨im_X12_thrown, se_X12_thrown, cd_X12_thrown, in_X12, ⟨by decide +kernel, by decide +kernel, by decide +kernel⟩⟩
theorem ml_L_47 : Cond.methodLink RL 47 yX11_turret ∈ TB := tb_3 (List.mem_of_getElem? (i := 164) (by decide +kernel)) (by decide +kernel)
theorem cd_X11_turret : Cond.code yX11_turret cX11_turret 3 (some .int) ∈ TB := tb_3 (List.mem_of_getElem? (i := 167) (by decide +kernel)) (by decide +kernel)
theorem im_X11_turret : Cond.instanceMethod yX11_turret ∈ TB := tb_3 (List.mem_of_getElem? (i := 165) (by decide +kernel)) (by decide +kernel)
theorem se_X11_turret : Cond.selects RX11 yX11_turret yX11_turret ∈ TB := tb_3 (List.mem_of_getElem? (i := 166) (by decide +kernel)) (by decide +kernel)
theorem kc_X11_turret : cV RX11 yX11_turret cX11_turret 3 (some .int) 2 := ⟨im_X11_turret, se_X11_turret, cd_X11_turret, in_X11, ⟨by decide +kernel, by decide +kernel, by decide +kernel⟩⟩
theorem ml_L_50 : Cond.methodLink RL 50 yX12_turret ∈ TB := tb_7 (List.mem_of_getElem? (i := 137) (by decide +kernel)) (by decide +kernel)
theorem cd_X12_turret : Cond.code yX12_turret cX12_turret 3 (some .int) ∈ TB := tb_7 (List.mem_of_getElem? (i := 140) (by decide +kernel)) (by decide +kernel)
theorem im_X12_turret : Cond.instanceMethod yX12_turret ∈ TB := tb_7 (List.mem_of_getElem? (i := 138) (by decide +kernel)) (by decide +kernel)
theorem se_X12_turret : Cond.selects RX12 yX12_turret yX12_turret ∈ TB := tb_7 (List.mem_of_getElem? (i := 139) (by decide +kernel)) (by decide +kernel)
theorem kc_X12_turret : cV RX12 yX12_turret cX12_turret 3 (some .int) 2 := ⟨im_X12_turret, se_X12_turret, cd_X12_turret, in_X12, ⟨by decide +kernel, by decide +kernel, by decide +kernel⟩⟩
theorem ml_L_51 : Cond.methodLink RL 51 yX11_looks ∈ TB := tb_3 (List.mem_of_getElem? (i := 191) (by decide +kernel)) (by decide +kernel)
theorem cd_X11_looks : Cond.code yX11_looks cX11_looks 3 (some .int) ∈ TB := tb_3 (List.mem_of_getElem? (i := 194) (by decide +kernel)) (by decide +kernel)
theorem im_X11_looks : Cond.instanceMethod yX11_looks ∈ TB := tb_3 (List.mem_of_getElem? (i := 192) (by decide +kernel)) (by decide +kernel)
theorem se_X11_looks : Cond.selects RX11 yX11_looks yX11_looks ∈ TB := tb_3 (List.mem_of_getElem? (i := 193) (by decide +kernel)) (by decide +kernel)
theorem kc_X11_looks : cV RX11 yX11_looks cX11_looks 3 (some .int) 2 := ⟨im_X11_looks, se_X11_looks, cd_X11_looks, in_X11, ⟨by decide +kernel, by decide +kernel, by decide +kernel⟩⟩
theorem ml_L_54 : Cond.methodLink RL 54 yX12_looks ∈ TB := tb_7 (List.mem_of_getElem? (i := 157) (by decide +kernel)) (by decide +kernel)
theorem cd_X12_looks : Cond.code yX12_looks cX12_looks 3 (some .int) ∈ TB := tb_7 (List.mem_of_getElem? (i := 160) (by decide +kernel)) (by decide +kernel)
theorem im_X12_looks : Cond.instanceMethod yX12_looks ∈ TB := tb_7 (List.mem_of_getElem? (i := 158) (by decide +kernel)) (by decide +kernel)
theorem se_X12_looks : Cond.selects RX12 yX12_looks yX12_looks ∈ TB := tb_7 (List.mem_of_getElem? (i := 159) (by decide +kernel)) (by decide +kernel)
theorem kc_X12_looks : cV RX12 yX12_looks cX12_looks 3 (some .int) 2 := ⟨im_X12_looks, se_X12_looks, cd_X12_looks, in_X12, ⟨by decide +kernel, by decide +kernel, by decide +kernel⟩⟩
theorem ml_L_55 : Cond.methodLink RL 55 yX11_now ∈ TB := tb_3 (List.mem_of_getElem? (i := 197) (by decide +kernel)) (by decide +kernel)
theorem cd_X11_now : Cond.code yX11_now cX11_now 2 (some .int) ∈ TB := tb_3 (List.mem_of_getElem? (i := 200) (by decide +kernel)) (by decide +kernel)
theorem im_X11_now : Cond.instanceMethod yX11_now ∈ TB := tb_3 (List.mem_of_getElem? (i := 198) (by decide +kernel)) (by decide +kernel)
theorem se_X11_now : Cond.selects RX11 yX11_now yX11_now ∈ TB := tb_3 (List.mem_of_getElem? (i := 199) (by decide +kernel)) (by decide +kernel)
theorem kc_X11_now : cV RX11 yX11_now cX11_now 2 (some .int) 1 := ⟨im_X11_now, se_X11_now, cd_X11_now, in_X11, ⟨by decide +kernel, by decide +kernel, by decide +kernel⟩⟩
theorem ml_L_59 : Cond.methodLink RL 59 yX12_now ∈ TB := tb_7 (List.mem_of_getElem? (i := 161) (by decide +kernel)) (by decide +kernel)
theorem cd_X12_now : Cond.code yX12_now cX12_now 6 (some .int) ∈ TB := tb_7 (List.mem_of_getElem? (i := 164) (by decide +kernel)) (by decide +kernel)
theorem im_X12_now : Cond.instanceMethod yX12_now ∈ TB := tb_7 (List.mem_of_getElem? (i := 162) (by decide +kernel)) (by decide +kernel)
theorem se_X12_now : Cond.selects RX12 yX12_now yX12_now ∈ TB := tb_7 (List.mem_of_getElem? (i := 163) (by decide +kernel)) (by decide +kernel)
theorem kc_X12_now : cV RX12 yX12_now cX12_now 6 (some .int) 1 := ⟨im_X12_now, se_X12_now, cd_X12_now, in_X12, ⟨by decide +kernel, by decide +kernel, by decide +kernel⟩⟩
theorem ml_L_60 : Cond.methodLink RL 60 yX11_climb ∈ TB := tb_3 (List.mem_of_getElem? (i := 231) (by decide +kernel)) (by decide +kernel)
theorem cd_X11_climb : Cond.code yX11_climb cX11_climb 3 (some .int) ∈ TB := tb_3 (List.mem_of_getElem? (i := 234) (by decide +kernel)) (by decide +kernel)
theorem im_X11_climb : Cond.instanceMethod yX11_climb ∈ TB := tb_3 (List.mem_of_getElem? (i := 232) (by decide +kernel)) (by decide +kernel)
theorem se_X11_climb : Cond.selects RX11 yX11_climb yX11_climb ∈ TB := tb_3 (List.mem_of_getElem? (i := 233) (by decide +kernel)) (by decide +kernel)
theorem kc_X11_climb : cV RX11 yX11_climb cX11_climb 3 (some .int) 2 := ⟨im_X11_climb, se_X11_climb, cd_X11_climb, in_X11, ⟨by decide +kernel, by decide +kernel, by decide +kernel⟩⟩
theorem ml_L_63 : Cond.methodLink RL 63 yX12_climb ∈ TB := tb_7 (List.mem_of_getElem? (i := 180) (by decide +kernel)) (by decide +kernel)
theorem cd_X12_climb : Cond.code yX12_climb cX12_climb 4 (some .int) ∈ TB := tb_7 (List.mem_of_getElem? (i := 183) (by decide +kernel)) (by decide +kernel)
theorem im_X12_climb : Cond.instanceMethod yX12_climb ∈ TB := tb_7 (List.mem_of_getElem? (i := 181) (by decide +kernel)) (by decide +kernel)
theorem se_X12_climb : Cond.selects RX12 yX12_climb yX12_climb ∈ TB := tb_7 (List.mem_of_getElem? (i := 182) (by decide +kernel)) (by decide +kernel)
theorem kc_X12_climb : cV RX12 yX12_climb cX12_climb 4 (some .int) 2 := ⟨im_X12_climb, se_X12_climb, cd_X12_climb, in_X12, ⟨by decide +kernel, by decide +kernel, by decide +kernel⟩⟩
theorem ml_L_64 : Cond.methodLink RL 64 yX11_land ∈ TB := tb_4 (List.mem_of_getElem? (i := 26) (by decide +kernel)) (by decide +kernel)
theorem cd_X11_land : Cond.code yX11_land cX11_land 2 (some .int) ∈ TB := tb_4 (List.mem_of_getElem? (i := 29) (by decide +kernel)) (by decide +kernel)
theorem im_X11_land : Cond.instanceMethod yX11_land ∈ TB := tb_4 (List.mem_of_getElem? (i := 27) (by decide +kernel)) (by decide +kernel)
theorem se_X11_land : Cond.selects RX11 yX11_land yX11_land ∈ TB := tb_4 (List.mem_of_getElem? (i := 28) (by decide +kernel)) (by decide +kernel)
theorem kc_X11_land : cV RX11 yX11_land cX11_land 2 (some .int) 1 := ⟨im_X11_land, se_X11_land, cd_X11_land, in_X11, ⟨by decide +kernel, by decide +kernel, by decide +kernel⟩⟩
theorem ml_L_67 : Cond.methodLink RL 67 yX12_land ∈ TB := tb_7 (List.mem_of_getElem? (i := 203) (by decide +kernel)) (by decide +kernel)
theorem cd_X12_land : Cond.code yX12_land cX12_land 2 (some .int) ∈ TB := tb_7 (List.mem_of_getElem? (i := 206) (by decide +kernel)) (by decide +kernel)
theorem im_X12_land : Cond.instanceMethod yX12_land ∈ TB := tb_7 (List.mem_of_getElem? (i := 204) (by decide +kernel)) (by decide +kernel)
theorem se_X12_land : Cond.selects RX12 yX12_land yX12_land ∈ TB := tb_7 (List.mem_of_getElem? (i := 205) (by decide +kernel)) (by decide +kernel)
theorem kc_X12_land : cV RX12 yX12_land cX12_land 2 (some .int) 1 := ⟨im_X12_land, se_X12_land, cd_X12_land, in_X12, ⟨by decide +kernel, by decide +kernel, by decide +kernel⟩⟩
theorem ml_L_68 : Cond.methodLink RL 68 yX11_tell ∈ TB := tb_4 (List.mem_of_getElem? (i := 34) (by decide +kernel)) (by decide +kernel)
theorem cd_X11_tell : Cond.code yX11_tell cX11_tell 4 (some .int) ∈ TB := tb_4 (List.mem_of_getElem? (i := 37) (by decide +kernel)) (by decide +kernel)
theorem im_X11_tell : Cond.instanceMethod yX11_tell ∈ TB := tb_4 (List.mem_of_getElem? (i := 35) (by decide +kernel)) (by decide +kernel)
theorem se_X11_tell : Cond.selects RX11 yX11_tell yX11_tell ∈ TB := tb_4 (List.mem_of_getElem? (i := 36) (by decide +kernel)) (by decide +kernel)
theorem kc_X11_tell : cV RX11 yX11_tell cX11_tell 4 (some .int) 3 := ⟨im_X11_tell, se_X11_tell, cd_X11_tell, in_X11, ⟨by decide +kernel, by decide +kernel, by decide +kernel⟩⟩
theorem ml_L_72 : Cond.methodLink RL 72 yX12_tell ∈ TB := tb_7 (List.mem_of_getElem? (i := 207) (by decide +kernel)) (by decide +kernel)
theorem cd_X12_tell : Cond.code yX12_tell cX12_tell 5 (some .int) ∈ TB := tb_7 (List.mem_of_getElem? (i := 210) (by decide +kernel)) (by decide +kernel)
theorem im_X12_tell : Cond.instanceMethod yX12_tell ∈ TB := tb_7 (List.mem_of_getElem? (i := 208) (by decide +kernel)) (by decide +kernel)
theorem se_X12_tell : Cond.selects RX12 yX12_tell yX12_tell ∈ TB := tb_7 (List.mem_of_getElem? (i := 209) (by decide +kernel)) (by decide +kernel)
theorem kc_X12_tell : cV RX12 yX12_tell cX12_tell 5 (some .int) 3 := ⟨im_X12_tell, se_X12_tell, cd_X12_tell, in_X12, ⟨by decide +kernel, by decide +kernel, by decide +kernel⟩⟩
theorem ml_L_73 : Cond.methodLink RL 73 yX11_storm ∈ TB := tb_4 (List.mem_of_getElem? (i := 42) (by decide +kernel)) (by decide +kernel)
theorem cd_X11_storm : Cond.code yX11_storm cX11_storm 2 (some .int) ∈ TB := tb_4 (List.mem_of_getElem? (i := 45) (by decide +kernel)) (by decide +kernel)
theorem im_X11_storm : Cond.instanceMethod yX11_storm ∈ TB := tb_4 (List.mem_of_getElem? (i := 43) (by decide +kernel)) (by decide +kernel)
theorem se_X11_storm : Cond.selects RX11 yX11_storm yX11_storm ∈ TB := tb_4 (List.mem_of_getElem? (i := 44) (by decide +kernel)) (by decide +kernel)
theorem kc_X11_storm : cV RX11 yX11_storm cX11_storm 2 (some .int) 1 := ⟨im_X11_storm, se_X11_storm, cd_X11_storm, in_X11, ⟨by decide +kernel, by decide +kernel, by decide +kernel⟩⟩
theorem ml_L_76 : Cond.methodLink RL 76 yX12_storm ∈ TB := tb_7 (List.mem_of_getElem? (i := 219) (by decide +kernel)) (by decide +kernel)
theorem cd_X12_storm : Cond.code yX12_storm cX12_storm 2 (some .int) ∈ TB := tb_7 (List.mem_of_getElem? (i := 222) (by decide +kernel)) (by decide +kernel)
theorem im_X12_storm : Cond.instanceMethod yX12_storm ∈ TB := tb_7 (List.mem_of_getElem? (i := 220) (by decide +kernel)) (by decide +kernel)
theorem se_X12_storm : Cond.selects RX12 yX12_storm yX12_storm ∈ TB := tb_7 (List.mem_of_getElem? (i := 221) (by decide +kernel)) (by decide +kernel)
theorem kc_X12_storm : cV RX12 yX12_storm cX12_storm 2 (some .int) 1 := ⟨im_X12_storm, se_X12_storm, cd_X12_storm, in_X12, ⟨by decide +kernel, by decide +kernel, by decide +kernel⟩⟩
theorem ml_L_77 : Cond.methodLink RL 77 yX11_wall ∈ TB := tb_4 (List.mem_of_getElem? (i := 50) (by decide +kernel)) (by decide +kernel)
theorem cd_X11_wall : Cond.code yX11_wall cX11_wall 2 (some .int) ∈ TB := tb_4 (List.mem_of_getElem? (i := 53) (by decide +kernel)) (by decide +kernel)
theorem im_X11_wall : Cond.instanceMethod yX11_wall ∈ TB := tb_4 (List.mem_of_getElem? (i := 51) (by decide +kernel)) (by decide +kernel)
theorem se_X11_wall : Cond.selects RX11 yX11_wall yX11_wall ∈ TB := tb_4 (List.mem_of_getElem? (i := 52) (by decide +kernel)) (by decide +kernel)
theorem kc_X11_wall : cV RX11 yX11_wall cX11_wall 2 (some .int) 1 := ⟨im_X11_wall, se_X11_wall, cd_X11_wall, in_X11, ⟨by decide +kernel, by decide +kernel, by decide +kernel⟩⟩
theorem ml_L_80 : Cond.methodLink RL 80 yX12_wall ∈ TB := tb_7 (List.mem_of_getElem? (i := 231) (by decide +kernel)) (by decide +kernel)
theorem cd_X12_wall : Cond.code yX12_wall cX12_wall 3 (some .int) ∈ TB := tb_7 (List.mem_of_getElem? (i := 234) (by decide +kernel)) (by decide +kernel)
theorem im_X12_wall : Cond.instanceMethod yX12_wall ∈ TB := tb_7 (List.mem_of_getElem? (i := 232) (by decide +kernel)) (by decide +kernel)
theorem se_X12_wall : Cond.selects RX12 yX12_wall yX12_wall ∈ TB := tb_7 (List.mem_of_getElem? (i := 233) (by decide +kernel)) (by decide +kernel)
theorem kc_X12_wall : cV RX12 yX12_wall cX12_wall 3 (some .int) 1 := ⟨im_X12_wall, se_X12_wall, cd_X12_wall, in_X12, ⟨by decide +kernel, by decide +kernel, by decide +kernel⟩⟩
theorem ml_L_81 : Cond.methodLink RL 81 yX11_unwall ∈ TB := tb_4 (List.mem_of_getElem? (i := 58) (by decide +kernel)) (by decide +kernel)
theorem cd_X11_unwall : Cond.code yX11_unwall cX11_unwall 2 (some .int) ∈ TB := tb_4 (List.mem_of_getElem? (i := 61) (by decide +kernel)) (by decide +kernel)
theorem im_X11_unwall : Cond.instanceMethod yX11_unwall ∈ TB := tb_4 (List.mem_of_getElem? (i := 59) (by decide +kernel)) (by decide +kernel)
theorem se_X11_unwall : Cond.selects RX11 yX11_unwall yX11_unwall ∈ TB := tb_4 (List.mem_of_getElem? (i := 60) (by decide +kernel)) (by decide +kernel)
theorem kc_X11_unwall : cV RX11 yX11_unwall cX11_unwall 2 (some .int) 1 := ⟨im_X11_unwall, se_X11_unwall, cd_X11_unwall, in_X11, ⟨by decide +kernel, by decide +kernel, by decide +kernel⟩⟩
theorem ml_L_84 : Cond.methodLink RL 84 yX12_unwall ∈ TB := tb_7 (List.mem_of_getElem? (i := 239) (by decide +kernel)) (by decide +kernel)
theorem cd_X12_unwall : Cond.code yX12_unwall cX12_unwall 2 (some .int) ∈ TB := tb_8 (List.mem_of_getElem? (i := 2) (by decide +kernel)) (by decide +kernel)
theorem im_X12_unwall : Cond.instanceMethod yX12_unwall ∈ TB := tb_8 (List.mem_of_getElem? (i := 0) (by decide +kernel)) (by decide +kernel)
theorem se_X12_unwall : Cond.selects RX12 yX12_unwall yX12_unwall ∈ TB := tb_8 (List.mem_of_getElem? (i := 1) (by decide +kernel)) (by decide +kernel)
theorem kc_X12_unwall : cV RX12 yX12_unwall cX12_unwall 2 (some .int) 1 := ⟨im_X12_unwall, se_X12_unwall, cd_X12_unwall, in_X12, ⟨by decide +kernel, by decide +kernel, by decide +kernel⟩⟩
theorem ml_L_85 : Cond.methodLink RL 85 yX11_days ∈ TB := tb_4 (List.mem_of_getElem? (i := 66) (by decide +kernel)) (by decide +kernel)
theorem cd_X11_days : Cond.code yX11_days cX11_days 2 (some .int) ∈ TB := tb_4 (List.mem_of_getElem? (i := 69) (by decide +kernel)) (by decide +kernel)
theorem im_X11_days : Cond.instanceMethod yX11_days ∈ TB := tb_4 (List.mem_of_getElem? (i := 67) (by decide +kernel)) (by decide +kernel)
theorem se_X11_days : Cond.selects RX11 yX11_days yX11_days ∈ TB := tb_4 (List.mem_of_getElem? (i := 68) (by decide +kernel)) (by decide +kernel)
theorem kc_X11_days : cV RX11 yX11_days cX11_days 2 (some .int) 1 := ⟨im_X11_days, se_X11_days, cd_X11_days, in_X11, ⟨by decide +kernel, by decide +kernel, by decide +kernel⟩⟩
theorem ml_L_88 : Cond.methodLink RL 88 yX12_days ∈ TB := tb_8 (List.mem_of_getElem? (i := 3) (by decide +kernel)) (by decide +kernel)
theorem cd_X12_days : Cond.code yX12_days cX12_days 2 (some .int) ∈ TB := tb_8 (List.mem_of_getElem? (i := 6) (by decide +kernel)) (by decide +kernel)
theorem im_X12_days : Cond.instanceMethod yX12_days ∈ TB := tb_8 (List.mem_of_getElem? (i := 4) (by decide +kernel)) (by decide +kernel)
theorem se_X12_days : Cond.selects RX12 yX12_days yX12_days ∈ TB := tb_8 (List.mem_of_getElem? (i := 5) (by decide +kernel)) (by decide +kernel)
theorem kc_X12_days : cV RX12 yX12_days cX12_days 2 (some .int) 1 := ⟨im_X12_days, se_X12_days, cd_X12_days, in_X12, ⟨by decide +kernel, by decide +kernel, by decide +kernel⟩⟩
theorem ml_L_89 : Cond.methodLink RL 89 yX11_undo ∈ TB := tb_4 (List.mem_of_getElem? (i := 87) (by decide +kernel)) (by decide +kernel)
theorem cd_X11_undo : Cond.code yX11_undo cX11_undo 1 (some .int) ∈ TB := tb_4 (List.mem_of_getElem? (i := 90) (by decide +kernel)) (by decide +kernel)
theorem im_X11_undo : Cond.instanceMethod yX11_undo ∈ TB := tb_4 (List.mem_of_getElem? (i := 88) (by decide +kernel)) (by decide +kernel)
theorem se_X11_undo : Cond.selects RX11 yX11_undo yX11_undo ∈ TB := tb_4 (List.mem_of_getElem? (i := 89) (by decide +kernel)) (by decide +kernel)
theorem kc_X11_undo : cV RX11 yX11_undo cX11_undo 1 (some .int) 0 := ⟨im_X11_undo, se_X11_undo, cd_X11_undo, in_X11, ⟨by decide +kernel, by decide +kernel, by decide +kernel⟩⟩
theorem ml_L_92 : Cond.methodLink RL 92 yX12_undo ∈ TB := tb_8 (List.mem_of_getElem? (i := 15) (by decide +kernel)) (by decide +kernel)
theorem cd_X12_undo : Cond.code yX12_undo cX12_undo 2 (some .int) ∈ TB := tb_8 (List.mem_of_getElem? (i := 18) (by decide +kernel)) (by decide +kernel)
theorem im_X12_undo : Cond.instanceMethod yX12_undo ∈ TB := tb_8 (List.mem_of_getElem? (i := 16) (by decide +kernel)) (by decide +kernel)
theorem se_X12_undo : Cond.selects RX12 yX12_undo yX12_undo ∈ TB := tb_8 (List.mem_of_getElem? (i := 17) (by decide +kernel)) (by decide +kernel)
theorem kc_X12_undo : cV RX12 yX12_undo cX12_undo 2 (some .int) 0 := ⟨im_X12_undo, se_X12_undo, cd_X12_undo, in_X12, ⟨by decide +kernel, by decide +kernel, by decide +kernel⟩⟩
theorem ml_L_93 : Cond.methodLink RL 93 yX11_behind ∈ TB := tb_4 (List.mem_of_getElem? (i := 98) (by decide +kernel)) (by decide +kernel)
theorem cd_X11_behind : Cond.code yX11_behind cX11_behind 3 (some .int) ∈ TB := tb_4 (List.mem_of_getElem? (i := 101) (by decide +kernel)) (by decide +kernel)
theorem im_X11_behind : Cond.instanceMethod yX11_behind ∈ TB := tb_4 (List.mem_of_getElem? (i := 99) (by decide +kernel)) (by decide +kernel)
theorem se_X11_behind : Cond.selects RX11 yX11_behind yX11_behind ∈ TB := tb_4 (List.mem_of_getElem? (i := 100) (by decide +kernel)) (by decide +kernel)
theorem kc_X11_behind : cV RX11 yX11_behind cX11_behind 3 (some .int) 2 := ⟨im_X11_behind, se_X11_behind, cd_X11_behind, in_X11, ⟨by decide +kernel, by decide +kernel, by decide +kernel⟩⟩
theorem ml_L_96 : Cond.methodLink RL 96 yX12_behind ∈ TB := tb_8 (List.mem_of_getElem? (i := 19) (by decide +kernel)) (by decide +kernel)
theorem cd_X12_behind : Cond.code yX12_behind cX12_behind 3 (some .int) ∈ TB := tb_8 (List.mem_of_getElem? (i := 22) (by decide +kernel)) (by decide +kernel)
theorem im_X12_behind : Cond.instanceMethod yX12_behind ∈ TB := tb_8 (List.mem_of_getElem? (i := 20) (by decide +kernel)) (by decide +kernel)
theorem se_X12_behind : Cond.selects RX12 yX12_behind yX12_behind ∈ TB := tb_8 (List.mem_of_getElem? (i := 21) (by decide +kernel)) (by decide +kernel)
theorem kc_X12_behind : cV RX12 yX12_behind cX12_behind 3 (some .int) 2 := ⟨im_X12_behind, se_X12_behind, cd_X12_behind, in_X12, ⟨by decide +kernel, by decide +kernel, by decide +kernel⟩⟩
theorem ml_L_97 : Cond.methodLink RL 97 yX11_soonest ∈ TB := tb_4 (List.mem_of_getElem? (i := 103) (by decide +kernel)) (by decide +kernel)
theorem cd_X11_soonest : Cond.code yX11_soonest cX11_soonest 2 (some .int) ∈ TB := tb_4 (List.mem_of_getElem? (i := 106) (by decide +kernel)) (by decide +kernel)
theorem im_X11_soonest : Cond.instanceMethod yX11_soonest ∈ TB := tb_4 (List.mem_of_getElem? (i := 104) (by decide +kernel)) (by decide +kernel)
theorem se_X11_soonest : Cond.selects RX11 yX11_soonest yX11_soonest ∈ TB := tb_4 (List.mem_of_getElem? (i := 105) (by decide +kernel)) (by decide +kernel)
theorem kc_X11_soonest : cV RX11 yX11_soonest cX11_soonest 2 (some .int) 1 := ⟨im_X11_soonest, se_X11_soonest, cd_X11_soonest, in_X11, ⟨by decide +kernel, by decide +kernel, by decide +kernel⟩⟩
theorem ml_L_100 : Cond.methodLink RL 100 yX12_soonest ∈ TB := tb_8 (List.mem_of_getElem? (i := 23) (by decide +kernel)) (by decide +kernel)
theorem cd_X12_soonest : Cond.code yX12_soonest cX12_soonest 7 (some .int) ∈ TB := tb_8 (List.mem_of_getElem? (i := 26) (by decide +kernel)) (by decide +kernel)
theorem im_X12_soonest : Cond.instanceMethod yX12_soonest ∈ TB := tb_8 (List.mem_of_getElem? (i := 24) (by decide +kernel)) (by decide +kernel)
theorem se_X12_soonest : Cond.selects RX12 yX12_soonest yX12_soonest ∈ TB := tb_8 (List.mem_of_getElem? (i := 25) (by decide +kernel)) (by decide +kernel)
theorem kc_X12_soonest : cV RX12 yX12_soonest cX12_soonest 7 (some .int) 1 := ⟨im_X12_soonest, se_X12_soonest, cd_X12_soonest, in_X12, ⟨by decide +kernel, by decide +kernel, by decide +kernel⟩⟩
theorem ml_L_101 : Cond.methodLink RL 101 yX11_soonestAt ∈ TB := tb_4 (List.mem_of_getElem? (i := 121) (by decide +kernel)) (by decide +kernel)
theorem cd_X11_soonestAt : Cond.code yX11_soonestAt cX11_soonestAt 2 (some .int) ∈ TB := tb_4 (List.mem_of_getElem? (i := 124) (by decide +kernel)) (by decide +kernel)
theorem im_X11_soonestAt : Cond.instanceMethod yX11_soonestAt ∈ TB := tb_4 (List.mem_of_getElem? (i := 122) (by decide +kernel)) (by decide +kernel)
theorem se_X11_soonestAt : Cond.selects RX11 yX11_soonestAt yX11_soonestAt ∈ TB := tb_4 (List.mem_of_getElem? (i := 123) (by decide +kernel)) (by decide +kernel)
theorem kc_X11_soonestAt : cV RX11 yX11_soonestAt cX11_soonestAt 2 (some .int) 1 := ⟨im_X11_soonestAt, se_X11_soonestAt, cd_X11_soonestAt, in_X11, ⟨by decide +kernel, by decide +kernel, by decide +kernel⟩⟩
theorem ml_L_104 : Cond.methodLink RL 104 yX12_soonestAt ∈ TB := tb_8 (List.mem_of_getElem? (i := 32) (by decide +kernel)) (by decide +kernel)
theorem cd_X12_soonestAt : Cond.code yX12_soonestAt cX12_soonestAt 2 (some .int) ∈ TB := tb_8 (List.mem_of_getElem? (i := 35) (by decide +kernel)) (by decide +kernel)
theorem im_X12_soonestAt : Cond.instanceMethod yX12_soonestAt ∈ TB := tb_8 (List.mem_of_getElem? (i := 33) (by decide +kernel)) (by decide +kernel)
theorem se_X12_soonestAt : Cond.selects RX12 yX12_soonestAt yX12_soonestAt ∈ TB := tb_8 (List.mem_of_getElem? (i := 34) (by decide +kernel)) (by decide +kernel)
theorem kc_X12_soonestAt : cV RX12 yX12_soonestAt cX12_soonestAt 2 (some .int) 1 := ⟨im_X12_soonestAt, se_X12_soonestAt, cd_X12_soonestAt, in_X12, ⟨by decide +kernel, by decide +kernel, by decide +kernel⟩⟩
theorem ml_L_105 : Cond.methodLink RL 105 yX11_made ∈ TB := tb_4 (List.mem_of_getElem? (i := 125) (by decide +kernel)) (by decide +kernel)
theorem cd_X11_made : Cond.code yX11_made cX11_made 2 (some .int) ∈ TB := tb_4 (List.mem_of_getElem? (i := 128) (by decide +kernel)) (by decide +kernel)
theorem im_X11_made : Cond.instanceMethod yX11_made ∈ TB := tb_4 (List.mem_of_getElem? (i := 126) (by decide +kernel)) (by decide +kernel)
theorem se_X11_made : Cond.selects RX11 yX11_made yX11_made ∈ TB := tb_4 (List.mem_of_getElem? (i := 127) (by decide +kernel)) (by decide +kernel)
theorem kc_X11_made : cV RX11 yX11_made cX11_made 2 (some .int) 0 := ⟨im_X11_made, se_X11_made, cd_X11_made, in_X11, ⟨by decide +kernel, by decide +kernel, by decide +kernel⟩⟩
theorem ml_L_108 : Cond.methodLink RL 108 yX12_made ∈ TB := tb_8 (List.mem_of_getElem? (i := 36) (by decide +kernel)) (by decide +kernel)
theorem cd_X12_made : Cond.code yX12_made cX12_made 9 (some .int) ∈ TB := tb_8 (List.mem_of_getElem? (i := 39) (by decide +kernel)) (by decide +kernel)
theorem im_X12_made : Cond.instanceMethod yX12_made ∈ TB := tb_8 (List.mem_of_getElem? (i := 37) (by decide +kernel)) (by decide +kernel)
theorem se_X12_made : Cond.selects RX12 yX12_made yX12_made ∈ TB := tb_8 (List.mem_of_getElem? (i := 38) (by decide +kernel)) (by decide +kernel)
theorem kc_X12_made : cV RX12 yX12_made cX12_made 9 (some .int) 0 := ⟨im_X12_made, se_X12_made, cd_X12_made, in_X12, ⟨by decide +kernel, by decide +kernel, by decide +kernel⟩⟩
theorem ml_L_109 : Cond.methodLink RL 109 yX11_madeAt ∈ TB := tb_4 (List.mem_of_getElem? (i := 139) (by decide +kernel)) (by decide +kernel)
theorem cd_X11_madeAt : Cond.code yX11_madeAt cX11_madeAt 2 (some .int) ∈ TB := tb_4 (List.mem_of_getElem? (i := 142) (by decide +kernel)) (by decide +kernel)
theorem im_X11_madeAt : Cond.instanceMethod yX11_madeAt ∈ TB := tb_4 (List.mem_of_getElem? (i := 140) (by decide +kernel)) (by decide +kernel)
theorem se_X11_madeAt : Cond.selects RX11 yX11_madeAt yX11_madeAt ∈ TB := tb_4 (List.mem_of_getElem? (i := 141) (by decide +kernel)) (by decide +kernel)
theorem kc_X11_madeAt : cV RX11 yX11_madeAt cX11_madeAt 2 (some .int) 1 := ⟨im_X11_madeAt, se_X11_madeAt, cd_X11_madeAt, in_X11, ⟨by decide +kernel, by decide +kernel, by decide +kernel⟩⟩
theorem ml_L_112 : Cond.methodLink RL 112 yX12_madeAt ∈ TB := tb_8 (List.mem_of_getElem? (i := 48) (by decide +kernel)) (by decide +kernel)
theorem cd_X12_madeAt : Cond.code yX12_madeAt cX12_madeAt 2 (some .int) ∈ TB := tb_8 (List.mem_of_getElem? (i := 51) (by decide +kernel)) (by decide +kernel)
theorem im_X12_madeAt : Cond.instanceMethod yX12_madeAt ∈ TB := tb_8 (List.mem_of_getElem? (i := 49) (by decide +kernel)) (by decide +kernel)
theorem se_X12_madeAt : Cond.selects RX12 yX12_madeAt yX12_madeAt ∈ TB := tb_8 (List.mem_of_getElem? (i := 50) (by decide +kernel)) (by decide +kernel)
theorem kc_X12_madeAt : cV RX12 yX12_madeAt cX12_madeAt 2 (some .int) 1 := ⟨im_X12_madeAt, se_X12_madeAt, cd_X12_madeAt, in_X12, ⟨by decide +kernel, by decide +kernel, by decide +kernel⟩⟩
theorem ml_L_113 : Cond.methodLink RL 113 yX11_ask ∈ TB := tb_4 (List.mem_of_getElem? (i := 143) (by decide +kernel)) (by decide +kernel)
theorem cd_X11_ask : Cond.code yX11_ask cX11_ask 6 (some .int) ∈ TB := tb_4 (List.mem_of_getElem? (i := 146) (by decide +kernel)) (by decide +kernel)
theorem im_X11_ask : Cond.instanceMethod yX11_ask ∈ TB := tb_4 (List.mem_of_getElem? (i := 144) (by decide +kernel)) (by decide +kernel)
theorem se_X11_ask : Cond.selects RX11 yX11_ask yX11_ask ∈ TB := tb_4 (List.mem_of_getElem? (i := 145) (by decide +kernel)) (by decide +kernel)
theorem kc_X11_ask : cV RX11 yX11_ask cX11_ask 6 (some .int) 0 := ⟨im_X11_ask, se_X11_ask, cd_X11_ask, in_X11, ⟨by decide +kernel, by decide +kernel, by decide +kernel⟩⟩
theorem ml_L_116 : Cond.methodLink RL 116 yX12_ask ∈ TB := tb_8 (List.mem_of_getElem? (i := 52) (by decide +kernel)) (by decide +kernel)
theorem cd_X12_ask : Cond.code yX12_ask cX12_ask 3 (some .int) ∈ TB := tb_8 (List.mem_of_getElem? (i := 55) (by decide +kernel)) (by decide +kernel)
theorem im_X12_ask : Cond.instanceMethod yX12_ask ∈ TB := tb_8 (List.mem_of_getElem? (i := 53) (by decide +kernel)) (by decide +kernel)
theorem se_X12_ask : Cond.selects RX12 yX12_ask yX12_ask ∈ TB := tb_8 (List.mem_of_getElem? (i := 54) (by decide +kernel)) (by decide +kernel)
theorem kc_X12_ask : cV RX12 yX12_ask cX12_ask 3 (some .int) 0 := ⟨im_X12_ask, se_X12_ask, cd_X12_ask, in_X12, ⟨by decide +kernel, by decide +kernel, by decide +kernel⟩⟩
theorem ml_L_117 : Cond.methodLink RL 117 yX11_cover ∈ TB := tb_4 (List.mem_of_getElem? (i := 152) (by decide +kernel)) (by decide +kernel)
theorem cd_X11_cover : Cond.code yX11_cover cX11_cover 5 (some .int) ∈ TB := tb_4 (List.mem_of_getElem? (i := 155) (by decide +kernel)) (by decide +kernel)
theorem im_X11_cover : Cond.instanceMethod yX11_cover ∈ TB := tb_4 (List.mem_of_getElem? (i := 153) (by decide +kernel)) (by decide +kernel)
theorem se_X11_cover : Cond.selects RX11 yX11_cover yX11_cover ∈ TB := tb_4 (List.mem_of_getElem? (i := 154) (by decide +kernel)) (by decide +kernel)
theorem kc_X11_cover : cV RX11 yX11_cover cX11_cover 5 (some .int) 0 := ⟨im_X11_cover, se_X11_cover, cd_X11_cover, in_X11, ⟨by decide +kernel, by decide +kernel, by decide +kernel⟩⟩
theorem ml_L_120 : Cond.methodLink RL 120 yX12_cover ∈ TB := tb_8 (List.mem_of_getElem? (i := 63) (by decide +kernel)) (by decide +kernel)
theorem cd_X12_cover : Cond.code yX12_cover cX12_cover 5 (some .int) ∈ TB := tb_8 (List.mem_of_getElem? (i := 66) (by decide +kernel)) (by decide +kernel)
theorem im_X12_cover : Cond.instanceMethod yX12_cover ∈ TB := tb_8 (List.mem_of_getElem? (i := 64) (by decide +kernel)) (by decide +kernel)
theorem se_X12_cover : Cond.selects RX12 yX12_cover yX12_cover ∈ TB := tb_8 (List.mem_of_getElem? (i := 65) (by decide +kernel)) (by decide +kernel)
theorem kc_X12_cover : cV RX12 yX12_cover cX12_cover 5 (some .int) 0 := ⟨im_X12_cover, se_X12_cover, cd_X12_cover, in_X12, ⟨by decide +kernel, by decide +kernel, by decide +kernel⟩⟩
theorem ml_L_121 : Cond.methodLink RL 121 yX11_covering ∈ TB := tb_4 (List.mem_of_getElem? (i := 162) (by decide +kernel)) (by decide +kernel)
theorem cd_X11_covering : Cond.code yX11_covering cX11_covering 1 (some .int) ∈ TB := tb_4 (List.mem_of_getElem? (i := 165) (by decide +kernel)) (by decide +kernel)
theorem im_X11_covering : Cond.instanceMethod yX11_covering ∈ TB := tb_4 (List.mem_of_getElem? (i := 163) (by decide +kernel)) (by decide +kernel)
theorem se_X11_covering : Cond.selects RX11 yX11_covering yX11_covering ∈ TB := tb_4 (List.mem_of_getElem? (i := 164) (by decide +kernel)) (by decide +kernel)
theorem kc_X11_covering : cV RX11 yX11_covering cX11_covering 1 (some .int) 0 := ⟨im_X11_covering, se_X11_covering, cd_X11_covering, in_X11, ⟨by decide +kernel, by decide +kernel, by decide +kernel⟩⟩
theorem ml_L_124 : Cond.methodLink RL 124 yX12_covering ∈ TB := tb_8 (List.mem_of_getElem? (i := 67) (by decide +kernel)) (by decide +kernel)
theorem cd_X12_covering : Cond.code yX12_covering cX12_covering 1 (some .int) ∈ TB := tb_8 (List.mem_of_getElem? (i := 70) (by decide +kernel)) (by decide +kernel)
theorem im_X12_covering : Cond.instanceMethod yX12_covering ∈ TB := tb_8 (List.mem_of_getElem? (i := 68) (by decide +kernel)) (by decide +kernel)
theorem se_X12_covering : Cond.selects RX12 yX12_covering yX12_covering ∈ TB := tb_8 (List.mem_of_getElem? (i := 69) (by decide +kernel)) (by decide +kernel)
theorem kc_X12_covering : cV RX12 yX12_covering cX12_covering 1 (some .int) 0 := ⟨im_X12_covering, se_X12_covering, cd_X12_covering, in_X12, ⟨by decide +kernel, by decide +kernel, by decide +kernel⟩⟩
theorem ml_L_125 : Cond.methodLink RL 125 yX11_party ∈ TB := tb_4 (List.mem_of_getElem? (i := 166) (by decide +kernel)) (by decide +kernel)
theorem cd_X11_party : Cond.code yX11_party cX11_party 1 (some .int) ∈ TB := tb_4 (List.mem_of_getElem? (i := 169) (by decide +kernel)) (by decide +kernel)
theorem im_X11_party : Cond.instanceMethod yX11_party ∈ TB := tb_4 (List.mem_of_getElem? (i := 167) (by decide +kernel)) (by decide +kernel)
theorem se_X11_party : Cond.selects RX11 yX11_party yX11_party ∈ TB := tb_4 (List.mem_of_getElem? (i := 168) (by decide +kernel)) (by decide +kernel)
theorem kc_X11_party : cV RX11 yX11_party cX11_party 1 (some .int) 0 := ⟨im_X11_party, se_X11_party, cd_X11_party, in_X11, ⟨by decide +kernel, by decide +kernel, by decide +kernel⟩⟩
theorem ml_L_128 : Cond.methodLink RL 128 yX12_party ∈ TB := tb_8 (List.mem_of_getElem? (i := 71) (by decide +kernel)) (by decide +kernel)
theorem cd_X12_party : Cond.code yX12_party cX12_party 7 (some .int) ∈ TB := tb_8 (List.mem_of_getElem? (i := 74) (by decide +kernel)) (by decide +kernel)
theorem im_X12_party : Cond.instanceMethod yX12_party ∈ TB := tb_8 (List.mem_of_getElem? (i := 72) (by decide +kernel)) (by decide +kernel)
theorem se_X12_party : Cond.selects RX12 yX12_party yX12_party ∈ TB := tb_8 (List.mem_of_getElem? (i := 73) (by decide +kernel)) (by decide +kernel)
theorem kc_X12_party : cV RX12 yX12_party cX12_party 7 (some .int) 0 := ⟨im_X12_party, se_X12_party, cd_X12_party, in_X12, ⟨by decide +kernel, by decide +kernel, by decide +kernel⟩⟩
theorem ml_L_129 : Cond.methodLink RL 129 yX11_partyOf ∈ TB := tb_4 (List.mem_of_getElem? (i := 194) (by decide +kernel)) (by decide +kernel)
theorem cd_X11_partyOf : Cond.code yX11_partyOf cX11_partyOf 2 (some .int) ∈ TB := tb_4 (List.mem_of_getElem? (i := 197) (by decide +kernel)) (by decide +kernel)
theorem im_X11_partyOf : Cond.instanceMethod yX11_partyOf ∈ TB := tb_4 (List.mem_of_getElem? (i := 195) (by decide +kernel)) (by decide +kernel)
theorem se_X11_partyOf : Cond.selects RX11 yX11_partyOf yX11_partyOf ∈ TB := tb_4 (List.mem_of_getElem? (i := 196) (by decide +kernel)) (by decide +kernel)
theorem kc_X11_partyOf : cV RX11 yX11_partyOf cX11_partyOf 2 (some .int) 1 := ⟨im_X11_partyOf, se_X11_partyOf, cd_X11_partyOf, in_X11, ⟨by decide +kernel, by decide +kernel, by decide +kernel⟩⟩
theorem ml_L_132 : Cond.methodLink RL 132 yX12_partyOf ∈ TB := tb_8 (List.mem_of_getElem? (i := 79) (by decide +kernel)) (by decide +kernel)
theorem cd_X12_partyOf : Cond.code yX12_partyOf cX12_partyOf 2 (some .int) ∈ TB := tb_8 (List.mem_of_getElem? (i := 82) (by decide +kernel)) (by decide +kernel)
theorem im_X12_partyOf : Cond.instanceMethod yX12_partyOf ∈ TB := tb_8 (List.mem_of_getElem? (i := 80) (by decide +kernel)) (by decide +kernel)
theorem se_X12_partyOf : Cond.selects RX12 yX12_partyOf yX12_partyOf ∈ TB := tb_8 (List.mem_of_getElem? (i := 81) (by decide +kernel)) (by decide +kernel)
theorem kc_X12_partyOf : cV RX12 yX12_partyOf cX12_partyOf 2 (some .int) 1 := ⟨im_X12_partyOf, se_X12_partyOf, cd_X12_partyOf, in_X12, ⟨by decide +kernel, by decide +kernel, by decide +kernel⟩⟩
theorem ml_L_133 : Cond.methodLink RL 133 yX11_tea ∈ TB := tb_4 (List.mem_of_getElem? (i := 198) (by decide +kernel)) (by decide +kernel)
theorem cd_X11_tea : Cond.code yX11_tea cX11_tea 1 (some .int) ∈ TB := tb_4 (List.mem_of_getElem? (i := 201) (by decide +kernel)) (by decide +kernel)
theorem im_X11_tea : Cond.instanceMethod yX11_tea ∈ TB := tb_4 (List.mem_of_getElem? (i := 199) (by decide +kernel)) (by decide +kernel)
theorem se_X11_tea : Cond.selects RX11 yX11_tea yX11_tea ∈ TB := tb_4 (List.mem_of_getElem? (i := 200) (by decide +kernel)) (by decide +kernel)
theorem kc_X11_tea : cV RX11 yX11_tea cX11_tea 1 (some .int) 0 := ⟨im_X11_tea, se_X11_tea, cd_X11_tea, in_X11, ⟨by decide +kernel, by decide +kernel, by decide +kernel⟩⟩
theorem ml_L_136 : Cond.methodLink RL 136 yX12_tea ∈ TB := tb_8 (List.mem_of_getElem? (i := 83) (by decide +kernel)) (by decide +kernel)
theorem cd_X12_tea : Cond.code yX12_tea cX12_tea 5 (some .int) ∈ TB := tb_8 (List.mem_of_getElem? (i := 86) (by decide +kernel)) (by decide +kernel)
theorem im_X12_tea : Cond.instanceMethod yX12_tea ∈ TB := tb_8 (List.mem_of_getElem? (i := 84) (by decide +kernel)) (by decide +kernel)
theorem se_X12_tea : Cond.selects RX12 yX12_tea yX12_tea ∈ TB := tb_8 (List.mem_of_getElem? (i := 85) (by decide +kernel)) (by decide +kernel)
theorem kc_X12_tea : cV RX12 yX12_tea cX12_tea 5 (some .int) 0 := ⟨im_X12_tea, se_X12_tea, cd_X12_tea, in_X12, ⟨by decide +kernel, by decide +kernel, by decide +kernel⟩⟩
theorem ml_L_137 : Cond.methodLink RL 137 yX11_teaOf ∈ TB := tb_4 (List.mem_of_getElem? (i := 218) (by decide +kernel)) (by decide +kernel)
theorem cd_X11_teaOf : Cond.code yX11_teaOf cX11_teaOf 2 (some .int) ∈ TB := tb_4 (List.mem_of_getElem? (i := 221) (by decide +kernel)) (by decide +kernel)
theorem im_X11_teaOf : Cond.instanceMethod yX11_teaOf ∈ TB := tb_4 (List.mem_of_getElem? (i := 219) (by decide +kernel)) (by decide +kernel)
theorem se_X11_teaOf : Cond.selects RX11 yX11_teaOf yX11_teaOf ∈ TB := tb_4 (List.mem_of_getElem? (i := 220) (by decide +kernel)) (by decide +kernel)
theorem kc_X11_teaOf : cV RX11 yX11_teaOf cX11_teaOf 2 (some .int) 1 := ⟨im_X11_teaOf, se_X11_teaOf, cd_X11_teaOf, in_X11, ⟨by decide +kernel, by decide +kernel, by decide +kernel⟩⟩
theorem ml_L_140 : Cond.methodLink RL 140 yX12_teaOf ∈ TB := tb_8 (List.mem_of_getElem? (i := 91) (by decide +kernel)) (by decide +kernel)
theorem cd_X12_teaOf : Cond.code yX12_teaOf cX12_teaOf 2 (some .int) ∈ TB := tb_8 (List.mem_of_getElem? (i := 94) (by decide +kernel)) (by decide +kernel)
theorem im_X12_teaOf : Cond.instanceMethod yX12_teaOf ∈ TB := tb_8 (List.mem_of_getElem? (i := 92) (by decide +kernel)) (by decide +kernel)
theorem se_X12_teaOf : Cond.selects RX12 yX12_teaOf yX12_teaOf ∈ TB := tb_8 (List.mem_of_getElem? (i := 93) (by decide +kernel)) (by decide +kernel)
theorem kc_X12_teaOf : cV RX12 yX12_teaOf cX12_teaOf 2 (some .int) 1 := ⟨im_X12_teaOf, se_X12_teaOf, cd_X12_teaOf, in_X12, ⟨by decide +kernel, by decide +kernel, by decide +kernel⟩⟩
theorem ml_L_141 : Cond.methodLink RL 141 yX11_when ∈ TB := tb_4 (List.mem_of_getElem? (i := 222) (by decide +kernel)) (by decide +kernel)
theorem cd_X11_when : Cond.code yX11_when cX11_when 4 (some .int) ∈ TB := tb_4 (List.mem_of_getElem? (i := 225) (by decide +kernel)) (by decide +kernel)
theorem im_X11_when : Cond.instanceMethod yX11_when ∈ TB := tb_4 (List.mem_of_getElem? (i := 223) (by decide +kernel)) (by decide +kernel)
theorem se_X11_when : Cond.selects RX11 yX11_when yX11_when ∈ TB := tb_4 (List.mem_of_getElem? (i := 224) (by decide +kernel)) (by decide +kernel)
theorem kc_X11_when : cV RX11 yX11_when cX11_when 4 (some .int) 2 := ⟨im_X11_when, se_X11_when, cd_X11_when, in_X11, ⟨by decide +kernel, by decide +kernel, by decide +kernel⟩⟩
theorem ml_L_144 : Cond.methodLink RL 144 yX12_when ∈ TB := tb_8 (List.mem_of_getElem? (i := 95) (by decide +kernel)) (by decide +kernel)
theorem cd_X12_when : Cond.code yX12_when cX12_when 4 (some .int) ∈ TB := tb_8 (List.mem_of_getElem? (i := 98) (by decide +kernel)) (by decide +kernel)
theorem im_X12_when : Cond.instanceMethod yX12_when ∈ TB := tb_8 (List.mem_of_getElem? (i := 96) (by decide +kernel)) (by decide +kernel)
theorem se_X12_when : Cond.selects RX12 yX12_when yX12_when ∈ TB := tb_8 (List.mem_of_getElem? (i := 97) (by decide +kernel)) (by decide +kernel)
theorem kc_X12_when : cV RX12 yX12_when cX12_when 4 (some .int) 2 := ⟨im_X12_when, se_X12_when, cd_X12_when, in_X12, ⟨by decide +kernel, by decide +kernel, by decide +kernel⟩⟩
theorem ml_L_145 : Cond.methodLink RL 145 yX11_card ∈ TB := tb_4 (List.mem_of_getElem? (i := 227) (by decide +kernel)) (by decide +kernel)
theorem cd_X11_card : Cond.code yX11_card cX11_card 3 (some .int) ∈ TB := tb_4 (List.mem_of_getElem? (i := 230) (by decide +kernel)) (by decide +kernel)
theorem im_X11_card : Cond.instanceMethod yX11_card ∈ TB := tb_4 (List.mem_of_getElem? (i := 228) (by decide +kernel)) (by decide +kernel)
theorem se_X11_card : Cond.selects RX11 yX11_card yX11_card ∈ TB := tb_4 (List.mem_of_getElem? (i := 229) (by decide +kernel)) (by decide +kernel)
theorem kc_X11_card : cV RX11 yX11_card cX11_card 3 (some .int) 1 := ⟨im_X11_card, se_X11_card, cd_X11_card, in_X11, ⟨by decide +kernel, by decide +kernel, by decide +kernel⟩⟩
theorem ml_L_148 : Cond.methodLink RL 148 yX12_card ∈ TB := tb_8 (List.mem_of_getElem? (i := 99) (by decide +kernel)) (by decide +kernel)
theorem cd_X12_card : Cond.code yX12_card cX12_card 3 (some .int) ∈ TB := tb_8 (List.mem_of_getElem? (i := 102) (by decide +kernel)) (by decide +kernel)
theorem im_X12_card : Cond.instanceMethod yX12_card ∈ TB := tb_8 (List.mem_of_getElem? (i := 100) (by decide +kernel)) (by decide +kernel)
theorem se_X12_card : Cond.selects RX12 yX12_card yX12_card ∈ TB := tb_8 (List.mem_of_getElem? (i := 101) (by decide +kernel)) (by decide +kernel)
theorem kc_X12_card : cV RX12 yX12_card cX12_card 3 (some .int) 1 := ⟨im_X12_card, se_X12_card, cd_X12_card, in_X12, ⟨by decide +kernel, by decide +kernel, by decide +kernel⟩⟩
theorem ml_L_149 : Cond.methodLink RL 149 yX11_byteAt ∈ TB := tb_5 (List.mem_of_getElem? (i := 9) (by decide +kernel)) (by decide +kernel)
theorem cd_X11_byteAt : Cond.code yX11_byteAt cX11_byteAt 2 (some .int) ∈ TB := tb_5 (List.mem_of_getElem? (i := 12) (by decide +kernel)) (by decide +kernel)
theorem im_X11_byteAt : Cond.instanceMethod yX11_byteAt ∈ TB := tb_5 (List.mem_of_getElem? (i := 10) (by decide +kernel)) (by decide +kernel)
theorem se_X11_byteAt : Cond.selects RX11 yX11_byteAt yX11_byteAt ∈ TB := tb_5 (List.mem_of_getElem? (i := 11) (by decide +kernel)) (by decide +kernel)
theorem kc_X11_byteAt : cV RX11 yX11_byteAt cX11_byteAt 2 (some .int) 1 := ⟨im_X11_byteAt, se_X11_byteAt, cd_X11_byteAt, in_X11, ⟨by decide +kernel, by decide +kernel, by decide +kernel⟩⟩
theorem ml_L_152 : Cond.methodLink RL 152 yX12_byteAt ∈ TB := tb_8 (List.mem_of_getElem? (i := 117) (by decide +kernel)) (by decide +kernel)
theorem cd_X12_byteAt : Cond.code yX12_byteAt cX12_byteAt 2 (some .int) ∈ TB := tb_8 (List.mem_of_getElem? (i := 120) (by decide +kernel)) (by decide +kernel)
theorem im_X12_byteAt : Cond.instanceMethod yX12_byteAt ∈ TB := tb_8 (List.mem_of_getElem? (i := 118) (by decide +kernel)) (by decide +kernel)
theorem se_X12_byteAt : Cond.selects RX12 yX12_byteAt yX12_byteAt ∈ TB := tb_8 (List.mem_of_getElem? (i := 119) (by decide +kernel)) (by decide +kernel)
theorem kc_X12_byteAt : cV RX12 yX12_byteAt cX12_byteAt 2 (some .int) 1 := ⟨im_X12_byteAt, se_X12_byteAt, cd_X12_byteAt, in_X12, ⟨by decide +kernel, by decide +kernel, by decide +kernel⟩⟩
theorem ml_L_153 : Cond.methodLink RL 153 yX11_drawn ∈ TB := tb_5 (List.mem_of_getElem? (i := 13) (by decide +kernel)) (by decide +kernel)
theorem cd_X11_drawn : Cond.code yX11_drawn cX11_drawn 3 (some .int) ∈ TB := tb_5 (List.mem_of_getElem? (i := 16) (by decide +kernel)) (by decide +kernel)
theorem im_X11_drawn : Cond.instanceMethod yX11_drawn ∈ TB := tb_5 (List.mem_of_getElem? (i := 14) (by decide +kernel)) (by decide +kernel)
theorem se_X11_drawn : Cond.selects RX11 yX11_drawn yX11_drawn ∈ TB := tb_5 (List.mem_of_getElem? (i := 15) (by decide +kernel)) (by decide +kernel)
theorem kc_X11_drawn : cV RX11 yX11_drawn cX11_drawn 3 (some .int) 2 := ⟨im_X11_drawn, se_X11_drawn, cd_X11_drawn, in_X11, ⟨by decide +kernel, by decide +kernel, by decide +kernel⟩⟩
theorem ml_L_156 : Cond.methodLink RL 156 yX12_drawn ∈ TB := tb_8 (List.mem_of_getElem? (i := 121) (by decide +kernel)) (by decide +kernel)
theorem cd_X12_drawn : Cond.code yX12_drawn cX12_drawn 3 (some .int) ∈ TB := tb_8 (List.mem_of_getElem? (i := 124) (by decide +kernel)) (by decide +kernel)
theorem im_X12_drawn : Cond.instanceMethod yX12_drawn ∈ TB := tb_8 (List.mem_of_getElem? (i := 122) (by decide +kernel)) (by decide +kernel)
theorem se_X12_drawn : Cond.selects RX12 yX12_drawn yX12_drawn ∈ TB := tb_8 (List.mem_of_getElem? (i := 123) (by decide +kernel)) (by decide +kernel)
theorem kc_X12_drawn : cV RX12 yX12_drawn cX12_drawn 3 (some .int) 2 := ⟨im_X12_drawn, se_X12_drawn, cd_X12_drawn, in_X12, ⟨by decide +kernel, by decide +kernel, by decide +kernel⟩⟩
theorem ml_L_157 : Cond.methodLink RL 157 yX11_odds ∈ TB := tb_5 (List.mem_of_getElem? (i := 41) (by decide +kernel)) (by decide +kernel)
theorem cd_X11_odds : Cond.code yX11_odds cX11_odds 6 (some .int) ∈ TB := tb_5 (List.mem_of_getElem? (i := 44) (by decide +kernel)) (by decide +kernel)
theorem im_X11_odds : Cond.instanceMethod yX11_odds ∈ TB := tb_5 (List.mem_of_getElem? (i := 42) (by decide +kernel)) (by decide +kernel)
theorem se_X11_odds : Cond.selects RX11 yX11_odds yX11_odds ∈ TB := tb_5 (List.mem_of_getElem? (i := 43) (by decide +kernel)) (by decide +kernel)
theorem kc_X11_odds : cV RX11 yX11_odds cX11_odds 6 (some .int) 3 := ⟨im_X11_odds, se_X11_odds, cd_X11_odds, in_X11, ⟨by decide +kernel, by decide +kernel, by decide +kernel⟩⟩
theorem ml_L_160 : Cond.methodLink RL 160 yX12_odds ∈ TB := tb_8 (List.mem_of_getElem? (i := 138) (by decide +kernel)) (by decide +kernel)
theorem cd_X12_odds : Cond.code yX12_odds cX12_odds 6 (some .int) ∈ TB := tb_8 (List.mem_of_getElem? (i := 141) (by decide +kernel)) (by decide +kernel)
theorem im_X12_odds : Cond.instanceMethod yX12_odds ∈ TB := tb_8 (List.mem_of_getElem? (i := 139) (by decide +kernel)) (by decide +kernel)
theorem se_X12_odds : Cond.selects RX12 yX12_odds yX12_odds ∈ TB := tb_8 (List.mem_of_getElem? (i := 140) (by decide +kernel)) (by decide +kernel)
theorem kc_X12_odds : cV RX12 yX12_odds cX12_odds 6 (some .int) 3 := ⟨im_X12_odds, se_X12_odds, cd_X12_odds, in_X12, ⟨by decide +kernel, by decide +kernel, by decide +kernel⟩⟩
theorem ml_L_161 : Cond.methodLink RL 161 yX11_book ∈ TB := tb_5 (List.mem_of_getElem? (i := 46) (by decide +kernel)) (by decide +kernel)
theorem cd_X11_book : Cond.code yX11_book cX11_book 4 (some .int) ∈ TB := tb_5 (List.mem_of_getElem? (i := 49) (by decide +kernel)) (by decide +kernel)
theorem im_X11_book : Cond.instanceMethod yX11_book ∈ TB := tb_5 (List.mem_of_getElem? (i := 47) (by decide +kernel)) (by decide +kernel)
theorem se_X11_book : Cond.selects RX11 yX11_book yX11_book ∈ TB := tb_5 (List.mem_of_getElem? (i := 48) (by decide +kernel)) (by decide +kernel)
theorem kc_X11_book : cV RX11 yX11_book cX11_book 4 (some .int) 1 := ⟨im_X11_book, se_X11_book, cd_X11_book, in_X11, ⟨by decide +kernel, by decide +kernel, by decide +kernel⟩⟩
theorem ml_L_164 : Cond.methodLink RL 164 yX12_book ∈ TB := tb_8 (List.mem_of_getElem? (i := 150) (by decide +kernel)) (by decide +kernel)
theorem cd_X12_book : Cond.code yX12_book cX12_book 4 (some .int) ∈ TB := tb_8 (List.mem_of_getElem? (i := 153) (by decide +kernel)) (by decide +kernel)
theorem im_X12_book : Cond.instanceMethod yX12_book ∈ TB := tb_8 (List.mem_of_getElem? (i := 151) (by decide +kernel)) (by decide +kernel)
theorem se_X12_book : Cond.selects RX12 yX12_book yX12_book ∈ TB := tb_8 (List.mem_of_getElem? (i := 152) (by decide +kernel)) (by decide +kernel)
theorem kc_X12_book : cV RX12 yX12_book cX12_book 4 (some .int) 1 := ⟨im_X12_book, se_X12_book, cd_X12_book, in_X12, ⟨by decide +kernel, by decide +kernel, by decide +kernel⟩⟩
theorem ml_L_165 : Cond.methodLink RL 165 yX11_told ∈ TB := tb_5 (List.mem_of_getElem? (i := 103) (by decide +kernel)) (by decide +kernel)
theorem cd_X11_told : Cond.code yX11_told cX11_told 2 (some .int) ∈ TB := tb_5 (List.mem_of_getElem? (i := 106) (by decide +kernel)) (by decide +kernel)
theorem im_X11_told : Cond.instanceMethod yX11_told ∈ TB := tb_5 (List.mem_of_getElem? (i := 104) (by decide +kernel)) (by decide +kernel)
theorem se_X11_told : Cond.selects RX11 yX11_told yX11_told ∈ TB := tb_5 (List.mem_of_getElem? (i := 105) (by decide +kernel)) (by decide +kernel)
theorem kc_X11_told : cV RX11 yX11_told cX11_told 2 (some .int) 1 := ⟨im_X11_told, se_X11_told, cd_X11_told, in_X11, ⟨by decide +kernel, by decide +kernel, by decide +kernel⟩⟩
theorem ml_L_168 : Cond.methodLink RL 168 yX12_told ∈ TB := tb_8 (List.mem_of_getElem? (i := 162) (by decide +kernel)) (by decide +kernel)
theorem cd_X12_told : Cond.code yX12_told cX12_told 2 (some .int) ∈ TB := tb_8 (List.mem_of_getElem? (i := 165) (by decide +kernel)) (by decide +kernel)
theorem im_X12_told : Cond.instanceMethod yX12_told ∈ TB := tb_8 (List.mem_of_getElem? (i := 163) (by decide +kernel)) (by decide +kernel)
theorem se_X12_told : Cond.selects RX12 yX12_told yX12_told ∈ TB := tb_8 (List.mem_of_getElem? (i := 164) (by decide +kernel)) (by decide +kernel)
theorem kc_X12_told : cV RX12 yX12_told cX12_told 2 (some .int) 1 := ⟨im_X12_told, se_X12_told, cd_X12_told, in_X12, ⟨by decide +kernel, by decide +kernel, by decide +kernel⟩⟩
theorem ml_L_169 : Cond.methodLink RL 169 yX11_sentence ∈ TB := tb_5 (List.mem_of_getElem? (i := 107) (by decide +kernel)) (by decide +kernel)
theorem cd_X11_sentence : Cond.code yX11_sentence cX11_sentence 2 (some .int) ∈ TB := tb_5 (List.mem_of_getElem? (i := 110) (by decide +kernel)) (by decide +kernel)
theorem im_X11_sentence : Cond.instanceMethod yX11_sentence ∈ TB := tb_5 (List.mem_of_getElem? (i := 108) (by decide +kernel)) (by decide +kernel)
theorem se_X11_sentence : Cond.selects RX11 yX11_sentence yX11_sentence ∈ TB := tb_5 (List.mem_of_getElem? (i := 109) (by decide +kernel)) (by decide +kernel)
theorem kc_X11_sentence : cV RX11 yX11_sentence cX11_sentence 2 (some .int) 0 := ⟨im_X11_sentence, se_X11_sentence, cd_X11_sentence, in_X11, ⟨by decide +kernel, by decide +kernel, by decide +kernel⟩⟩
theorem ml_L_172 : Cond.methodLink RL 172 yX12_sentence ∈ TB := tb_8 (List.mem_of_getElem? (i := 166) (by decide +kernel)) (by decide +kernel)
theorem cd_X12_sentence : Cond.code yX12_sentence cX12_sentence 3 (some .int) ∈ TB := tb_8 (List.mem_of_getElem? (i := 169) (by decide +kernel)) (by decide +kernel)
theorem im_X12_sentence : Cond.instanceMethod yX12_sentence ∈ TB := tb_8 (List.mem_of_getElem? (i := 167) (by decide +kernel)) (by decide +kernel)
theorem se_X12_sentence : Cond.selects RX12 yX12_sentence yX12_sentence ∈ TB := tb_8 (List.mem_of_getElem? (i := 168) (by decide +kernel)) (by decide +kernel)
theorem kc_X12_sentence : cV RX12 yX12_sentence cX12_sentence 3 (some .int) 0 := ⟨im_X12_sentence, se_X12_sentence, cd_X12_sentence, in_X12, ⟨by decide +kernel, by decide +kernel, by decide +kernel⟩⟩
theorem ml_L_173 : Cond.methodLink RL 173 yX11_said ∈ TB := tb_5 (List.mem_of_getElem? (i := 156) (by decide +kernel)) (by decide +kernel)
theorem cd_X11_said : Cond.code yX11_said cX11_said 4 (some .int) ∈ TB := tb_5 (List.mem_of_getElem? (i := 159) (by decide +kernel)) (by decide +kernel)
theorem im_X11_said : Cond.instanceMethod yX11_said ∈ TB := tb_5 (List.mem_of_getElem? (i := 157) (by decide +kernel)) (by decide +kernel)
theorem se_X11_said : Cond.selects RX11 yX11_said yX11_said ∈ TB := tb_5 (List.mem_of_getElem? (i := 158) (by decide +kernel)) (by decide +kernel)
theorem kc_X11_said : cV RX11 yX11_said cX11_said 4 (some .int) 1 := ⟨im_X11_said, se_X11_said, cd_X11_said, in_X11, ⟨by decide +kernel, by decide +kernel, by decide +kernel⟩⟩
theorem ml_L_176 : Cond.methodLink RL 176 yX12_said ∈ TB := tb_8 (List.mem_of_getElem? (i := 194) (by decide +kernel)) (by decide +kernel)
theorem cd_X12_said : Cond.code yX12_said cX12_said 4 (some .int) ∈ TB := tb_8 (List.mem_of_getElem? (i := 197) (by decide +kernel)) (by decide +kernel)
theorem im_X12_said : Cond.instanceMethod yX12_said ∈ TB := tb_8 (List.mem_of_getElem? (i := 195) (by decide +kernel)) (by decide +kernel)
theorem se_X12_said : Cond.selects RX12 yX12_said yX12_said ∈ TB := tb_8 (List.mem_of_getElem? (i := 196) (by decide +kernel)) (by decide +kernel)
theorem kc_X12_said : cV RX12 yX12_said cX12_said 4 (some .int) 1 := ⟨im_X12_said, se_X12_said, cd_X12_said, in_X12, ⟨by decide +kernel, by decide +kernel, by decide +kernel⟩⟩
theorem ml_L_177 : Cond.methodLink RL 177 yX11_image ∈ TB := tb_5 (List.mem_of_getElem? (i := 174) (by decide +kernel)) (by decide +kernel)
theorem cd_X11_image : Cond.code yX11_image cX11_image 2 (some .boolean) ∈ TB := tb_5 (List.mem_of_getElem? (i := 177) (by decide +kernel)) (by decide +kernel)
theorem im_X11_image : Cond.instanceMethod yX11_image ∈ TB := tb_5 (List.mem_of_getElem? (i := 175) (by decide +kernel)) (by decide +kernel)
theorem se_X11_image : Cond.selects RX11 yX11_image yX11_image ∈ TB := tb_5 (List.mem_of_getElem? (i := 176) (by decide +kernel)) (by decide +kernel)
theorem kc_X11_image : cV RX11 yX11_image cX11_image 2 (some .boolean) 1 := ⟨im_X11_image, se_X11_image, cd_X11_image, in_X11, ⟨by decide +kernel, by decide +kernel, by decide +kernel⟩⟩
theorem ml_L_180 : Cond.methodLink RL 180 yX12_image ∈ TB := tb_8 (List.mem_of_getElem? (i := 206) (by decide +kernel)) (by decide +kernel)
theorem cd_X12_image : Cond.code yX12_image cX12_image 3 (some .boolean) ∈ TB := tb_8 (List.mem_of_getElem? (i := 209) (by decide +kernel)) (by decide +kernel)
theorem im_X12_image : Cond.instanceMethod yX12_image ∈ TB := tb_8 (List.mem_of_getElem? (i := 207) (by decide +kernel)) (by decide +kernel)
theorem se_X12_image : Cond.selects RX12 yX12_image yX12_image ∈ TB := tb_8 (List.mem_of_getElem? (i := 208) (by decide +kernel)) (by decide +kernel)
theorem kc_X12_image : cV RX12 yX12_image cX12_image 3 (some .boolean) 1 := ⟨im_X12_image, se_X12_image, cd_X12_image, in_X12, ⟨by decide +kernel, by decide +kernel, by decide +kernel⟩⟩
theorem ml_L_181 : Cond.methodLink RL 181 yX11_restore ∈ TB := tb_5 (List.mem_of_getElem? (i := 178) (by decide +kernel)) (by decide +kernel)
theorem cd_X11_restore : Cond.code yX11_restore cX11_restore 2 (some .boolean) ∈ TB := tb_5 (List.mem_of_getElem? (i := 181) (by decide +kernel)) (by decide +kernel)
theorem im_X11_restore : Cond.instanceMethod yX11_restore ∈ TB := tb_5 (List.mem_of_getElem? (i := 179) (by decide +kernel)) (by decide +kernel)
theorem se_X11_restore : Cond.selects RX11 yX11_restore yX11_restore ∈ TB := tb_5 (List.mem_of_getElem? (i := 180) (by decide +kernel)) (by decide +kernel)
theorem kc_X11_restore : cV RX11 yX11_restore cX11_restore 2 (some .boolean) 1 := ⟨im_X11_restore, se_X11_restore, cd_X11_restore, in_X11, ⟨by decide +kernel, by decide +kernel, by decide +kernel⟩⟩
theorem ml_L_184 : Cond.methodLink RL 184 yX12_restore ∈ TB := tb_8 (List.mem_of_getElem? (i := 210) (by decide +kernel)) (by decide +kernel)
theorem cd_X12_restore : Cond.code yX12_restore cX12_restore 3 (some .boolean) ∈ TB := tb_8 (List.mem_of_getElem? (i := 213) (by decide +kernel)) (by decide +kernel)
theorem im_X12_restore : Cond.instanceMethod yX12_restore ∈ TB := tb_8 (List.mem_of_getElem? (i := 211) (by decide +kernel)) (by decide +kernel)
theorem se_X12_restore : Cond.selects RX12 yX12_restore yX12_restore ∈ TB := tb_8 (List.mem_of_getElem? (i := 212) (by decide +kernel)) (by decide +kernel)
theorem kc_X12_restore : cV RX12 yX12_restore cX12_restore 3 (some .boolean) 1 := ⟨im_X12_restore, se_X12_restore, cd_X12_restore, in_X12, ⟨by decide +kernel, by decide +kernel, by decide +kernel⟩⟩
theorem ml_L_185 : Cond.methodLink RL 185 yX11_count ∈ TB := tb_5 (List.mem_of_getElem? (i := 182) (by decide +kernel)) (by decide +kernel)
theorem cd_X11_count : Cond.code yX11_count cX11_count 2 (some .int) ∈ TB := tb_5 (List.mem_of_getElem? (i := 185) (by decide +kernel)) (by decide +kernel)
theorem im_X11_count : Cond.instanceMethod yX11_count ∈ TB := tb_5 (List.mem_of_getElem? (i := 183) (by decide +kernel)) (by decide +kernel)
theorem se_X11_count : Cond.selects RX11 yX11_count yX11_count ∈ TB := tb_5 (List.mem_of_getElem? (i := 184) (by decide +kernel)) (by decide +kernel)
theorem kc_X11_count : cV RX11 yX11_count cX11_count 2 (some .int) 1 := ⟨im_X11_count, se_X11_count, cd_X11_count, in_X11, ⟨by decide +kernel, by decide +kernel, by decide +kernel⟩⟩
theorem ml_L_188 : Cond.methodLink RL 188 yX12_count ∈ TB := tb_8 (List.mem_of_getElem? (i := 214) (by decide +kernel)) (by decide +kernel)
theorem cd_X12_count : Cond.code yX12_count cX12_count 2 (some .int) ∈ TB := tb_8 (List.mem_of_getElem? (i := 217) (by decide +kernel)) (by decide +kernel)
theorem im_X12_count : Cond.instanceMethod yX12_count ∈ TB := tb_8 (List.mem_of_getElem? (i := 215) (by decide +kernel)) (by decide +kernel)
theorem se_X12_count : Cond.selects RX12 yX12_count yX12_count ∈ TB := tb_8 (List.mem_of_getElem? (i := 216) (by decide +kernel)) (by decide +kernel)
theorem kc_X12_count : cV RX12 yX12_count cX12_count 2 (some .int) 1 := ⟨im_X12_count, se_X12_count, cd_X12_count, in_X12, ⟨by decide +kernel, by decide +kernel, by decide +kernel⟩⟩
def GW (q : Nat → ClassId) (o om oo : Nat) (h : Nat → Nat → Nat) (hm : Nat → Nat) (sT sR sP sB sX sN sY sG sH : St) (sK : KSt) (sJR s0 sb0 sn0 s1 sb1 sn1 sW sQ sE sD sL sM : St) (fo : Nat → Int64) : List va_W := [g11 q o (h 0) (h 1 0) sT, g5 q (h 0 1) (h 2) (h 1 0) sR, g9 q (h 1 0) (h 3) 940 sP, g8 q (h 0 3) (h 4) sB, g8 q (h 0 4) (h 5) sX, g7 q (h 0 5) (h 6) sN, g7 q (h 0 6) (h 7) sY, g0 q (h 0 7) (h 8) sG, g2 q (h 0 8) (h 9) sH, g20 q (h 9 1) (h 10) (fun i => h (11 + i)) sK, g21 q (h 0 9) (h 20) sJR, g3 q (h 20 0) (h 21) s0, g8 q (h 21 1) (h 22) sb0, g7 q (h 21 2) (h 23) sn0, g3 q (h 20 1) (h 24) s1, g8 q (h 24 1) (h 25) sb1, g7 q (h 24 2) (h 26) sn1, g6 q (h 0 10) (h 27) sW, g4 q (h 0 11) (h 28) sQ, g10 q (h 0 12) (h 29) sE, g1 q (h 0 13) (h 30) sD, g9 q (h 0 14) (h 31) 96 sL, g12 q om hm sM, [(oo, .inl (q 2, 1, .inr (.inl fo)))]]
section LW0
variable {p : Program} {l : Launch} {e : Env} {R : Room} {s : State} {m : MethodId} {args : Array Value} {below : List Frame} {meth : Method} {c : Code} {H : Heap} {locs : List Loc} {cc : ByteArray} {nL : Nat} {ret : Option FieldType} {own : String} {D : va_G} {q : Nat → ClassId} {A : Nat → Prop} {Q : State → Prop}
variable {pc cells slots : Nat} {ls : Array Slot} {rest st0 : List Value} {aa : Array Value} {gs gs8 gc g1 gr : List va_W}
theorem GW_ad {q : Nat → ClassId} {o om oo : Nat} {h : Nat → Nat → Nat} {hm : Nat → Nat} {sT sR sP sB sX sN sY sG sH sJR s0 sb0 sn0 s1 sb1 sn1 sW sQ sE sD sL sM : St} {sK : KSt} {fo : Nat → Int64} {sT' sR' sP' sB' sX' sN' sY' sG' sH' sJR' s0' sb0' sn0' s1' sb1' sn1' sW' sQ' sE' sD' sL' sM' : St} {sK' : KSt} {fo' : Nat → Int64} : (GW q o om oo h hm sT' sR' sP' sB' sX' sN' sY' sG' sH' sK' sJR' s0' sb0' sn0' s1' sb1' sn1' sW' sQ' sE' sD' sL' sM' fo').map (fun g => g.map (fun x => x.1)) = (GW q o om oo h hm sT sR sP sB sX sN sY sG sH sK sJR s0 sb0 sn0 s1 sb1 sn1 sW sQ sE sD sL sM fo).map (fun g => g.map (fun x => x.1)) := by
  simp only [GW, List.map_cons, List.map_nil, gad0, gad1, gad2, gad3, gad4, gad5, gad6, gad7, gad8, gad9, gad10, gad11, gad12, gad20, gad21]
theorem k_igrpC {r : Int32} (C : cx p s m args meth c cc nL ret own D q A) (hr : va_Run p l e R s m args below meth c H locs cells slots 0 0 (F0 m pc ls st0) rest (QI D (va_A (fl gc) H.size) r (fl g1) aa) (va_A (fl gc) H.size)) (hP : va_P D vwCl (fl gs) H) (hD : va_D A (fl gs)) (hS : va_S A s.heap H locs) (isC isR : List Nat) (gr : List va_W) (N : Nat) (hn : isC.Nodup) (hC : isC.map (fun i => gs[i]?) = gc.map some) (hC8 : isC.map (fun i => gs8[i]?) = g1.map some) (h9 : isR.map (fun i => gs[i]?) = gr.map some) (h8 : isR.map (fun i => gs8[i]?) = gr.map some) (hl8 : gs8.length = N) (hc : (List.range N).all (fun k => isC.contains k || (isR.contains k && !isC.contains k)) = true) (hf : gs8.map (fun g => g.map (fun x => x.1)) = gs.map (fun g => g.map (fun x => x.1))) (kk : ∀ (H1 : Heap) (locs1 : List Loc), va_P D vwCl (fl gs8) H1 → va_D A (fl gs8) → va_S A s.heap H1 locs1 → W p l e R s m args below meth c H1 locs1 cells slots Q (F0 m (pc + 3) ls (.int r :: rest))) : W p l e R s m args below meth c H locs cells slots Q (F0 m pc ls st0) := by
  obtain ⟨hx, hb, hr0, hml, hown, hts, hlk, hA, hK, hN, hV⟩ := C
  have hF := ke_Aall (flD hD isC hn hC) hS hA
  refine va_calli hr hS (fun q _ h => hF q h) (hF) (fun r1 u t H1 locs1 ht hvm hw hB hz1 hk1 hS1 => ?_)
  rw [ht] at hB
  subst hw; obtain ⟨hP1, hD1⟩ := kw_grp (gs8 := gs8) hP hD isC isR N hC hC8 h9 h8 hl8 hc hf hk1 hB
  exact kk H1 locs1 hP1 hD1 hS1
theorem lw_in {i k L : Nat} (hi : i + k < L) (hL : L ≤ 3072) : vp_in (nI i + nI k) L := by
  rw [pu_add]
  exact no_oob hi (by omega)
end LW0
def LVL (b o om oo i : Nat) : List (Nat × Value) := [(0, .ref b), (1, .ref o), (2, .ref om), (3, .ref oo), (4, .int (nI i))]
/-- from behind a case the law goes on -/
def LWK (p : Program) (l : Launch) (e : Env) (s : State) (m : MethodId) (args : Array Value) (below : List Frame) (meth : Method) (c : Code) (D : va_G) (q : Nat → ClassId) (A : Nat → Prop) (Q : State → Prop) (b i o om oo : Nat) (h : Nat → Nat → Nat) (hm : Nat → Nat) (cells slots : Nat) : Prop := ∀ (sT sR sP sB sX sN sY sG sH : St) (sK : KSt) (sJR s0 sb0 sn0 s1 sb1 sn1 sW sQ sE sD sL sM : St) (fo : Nat → Int64) (V : Vt), REL sT sR sP sB sN sH sK s0 sb0 sn0 s1 sb1 sn1 sW sQ sE sL sM V → ∀ (H : Heap) (locs : List Loc) (ls : Array Slot), va_P D vwCl (fl (GW q o om oo h hm sT sR sP sB sX sN sY sG sH sK sJR s0 sb0 sn0 s1 sb1 sn1 sW sQ sE sD sL sM fo)) H → va_D A (fl (GW q o om oo h hm sT sR sP sB sX sN sY sG sH sK sJR s0 sb0 sn0 s1 sb1 sn1 sW sQ sE sD sL sM fo)) → va_S A s.heap H locs → lv_has ls 7 [(0, .ref b), (1, .ref o), (2, .ref om), (3, .ref oo), (4, .int (nI i))] → W p l e room_1 s m args below meth c H locs cells slots Q (F0 m 1307 ls [])
