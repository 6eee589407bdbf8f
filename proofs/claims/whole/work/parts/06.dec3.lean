theorem dX12_next_257 : decode cX12_next 257 = .ok (.bipush 10, 2) := by decide +kernel
theorem dX12_next_259 : decode cX12_next 259 = .ok (.aload_n 0, 1) := by decide +kernel
theorem dX12_next_260 : decode cX12_next 260 = .ok (.getfield 203, 3) := by decide +kernel
theorem dX12_next_263 : decode cX12_next 263 = .ok (.imul, 1) := by decide +kernel
theorem dX12_next_264 : decode cX12_next 264 = .ok (.aload_n 0, 1) := by decide +kernel
theorem dX12_next_265 : decode cX12_next 265 = .ok (.invokevirtual 183, 3) := by decide +kernel
theorem dX12_next_268 : decode cX12_next 268 = .ok (.iadd, 1) := by decide +kernel
theorem dX12_next_269 : decode cX12_next 269 = .ok (.bipush 48, 2) := by decide +kernel
theorem dX12_next_271 : decode cX12_next 271 = .ok (.isub, 1) := by decide +kernel
theorem dX12_next_272 : decode cX12_next 272 = .ok (.putfield 203, 3) := by decide +kernel
theorem dX12_next_275 : decode cX12_next 275 = .ok (.aload_n 0, 1) := by decide +kernel
theorem dX12_next_276 : decode cX12_next 276 = .ok (.dup, 1) := by decide +kernel
theorem dX12_next_277 : decode cX12_next 277 = .ok (.getfield 190, 3) := by decide +kernel
theorem dX12_next_280 : decode cX12_next 280 = .ok (.iconst 1, 1) := by decide +kernel
theorem dX12_next_281 : decode cX12_next 281 = .ok (.iadd, 1) := by decide +kernel
theorem dX12_next_282 : decode cX12_next 282 = .ok (.putfield 190, 3) := by decide +kernel
theorem dX12_next_285 : decode cX12_next 285 = .ok (.aload_n 0, 1) := by decide +kernel
theorem dX12_next_286 : decode cX12_next 286 = .ok (.dup, 1) := by decide +kernel
theorem dX12_next_287 : decode cX12_next 287 = .ok (.getfield 21, 3) := by decide +kernel
theorem dX12_next_290 : decode cX12_next 290 = .ok (.iconst 1, 1) := by decide +kernel
theorem dX12_next_291 : decode cX12_next 291 = .ok (.iadd, 1) := by decide +kernel
theorem dX12_next_292 : decode cX12_next 292 = .ok (.putfield 21, 3) := by decide +kernel
theorem dX12_next_295 : decode cX12_next 295 = .ok (.goto (-114), 3) := by decide +kernel
theorem dX12_next_298 : decode cX12_next 298 = .ok (.aload_n 0, 1) := by decide +kernel
theorem dX12_next_299 : decode cX12_next 299 = .ok (.iload_n 3, 1) := by decide +kernel
theorem dX12_next_300 : decode cX12_next 300 = .ok (.ifCond .eq 20, 3) := by decide +kernel
theorem dX12_next_303 : decode cX12_next 303 = .ok (.aload_n 0, 1) := by decide +kernel
theorem dX12_next_304 : decode cX12_next 304 = .ok (.getfield 190, 3) := by decide +kernel
theorem dX12_next_307 : decode cX12_next 307 = .ok (.iload_n 2, 1) := by decide +kernel
theorem dX12_next_308 : decode cX12_next 308 = .ok (.ifCond .eq 8, 3) := by decide +kernel
theorem dX12_next_311 : decode cX12_next 311 = .ok (.bipush 7, 2) := by decide +kernel
theorem dX12_next_313 : decode cX12_next 313 = .ok (.goto 4, 3) := by decide +kernel
theorem dX12_next_316 : decode cX12_next 316 = .ok (.iconst 3, 1) := by decide +kernel
theorem dX12_next_317 : decode cX12_next 317 = .ok (.if_icmp .le 7, 3) := by decide +kernel
theorem dX12_next_320 : decode cX12_next 320 = .ok (.iconst 4, 1) := by decide +kernel
theorem dX12_next_321 : decode cX12_next 321 = .ok (.goto 12, 3) := by decide +kernel
theorem dX12_next_324 : decode cX12_next 324 = .ok (.iload_n 2, 1) := by decide +kernel
theorem dX12_next_325 : decode cX12_next 325 = .ok (.ifCond .eq 7, 3) := by decide +kernel
theorem dX12_next_328 : decode cX12_next 328 = .ok (.iconst 1, 1) := by decide +kernel
theorem dX12_next_329 : decode cX12_next 329 = .ok (.goto 4, 3) := by decide +kernel
theorem dX12_next_332 : decode cX12_next 332 = .ok (.iconst 2, 1) := by decide +kernel
theorem dX12_next_333 : decode cX12_next 333 = .ok (.putfield 193, 3) := by decide +kernel
theorem dX12_next_336 : decode cX12_next 336 = .ok (.return_, 1) := by decide +kernel
theorem dX12_bad_0 : decode cX12_bad 0 = .ok (.aload_n 0, 1) := by decide +kernel
theorem dX12_bad_1 : decode cX12_bad 1 = .ok (.iload_n 1, 1) := by decide +kernel
theorem dX12_bad_2 : decode cX12_bad 2 = .ok (.putfield 210, 3) := by decide +kernel
theorem dX12_bad_5 : decode cX12_bad 5 = .ok (.aload_n 0, 1) := by decide +kernel
theorem dX12_bad_6 : decode cX12_bad 6 = .ok (.aload_n 0, 1) := by decide +kernel
theorem dX12_bad_7 : decode cX12_bad 7 = .ok (.getfield 187, 3) := by decide +kernel
theorem dX12_bad_10 : decode cX12_bad 10 = .ok (.putfield 213, 3) := by decide +kernel
theorem dX12_bad_13 : decode cX12_bad 13 = .ok (.iconst 0, 1) := by decide +kernel
theorem dX12_bad_14 : decode cX12_bad 14 = .ok (.ireturn, 1) := by decide +kernel
theorem dX12_isWord_0 : decode cX12_isWord 0 = .ok (.aload_n 0, 1) := by decide +kernel
theorem dX12_isWord_1 : decode cX12_isWord 1 = .ok (.getfield 193, 3) := by decide +kernel
theorem dX12_isWord_4 : decode cX12_isWord 4 = .ok (.iconst 1, 1) := by decide +kernel
theorem dX12_isWord_5 : decode cX12_isWord 5 = .ok (.if_icmp .ne 16, 3) := by decide +kernel
theorem dX12_isWord_8 : decode cX12_isWord 8 = .ok (.aload_n 0, 1) := by decide +kernel
theorem dX12_isWord_9 : decode cX12_isWord 9 = .ok (.getfield 206, 3) := by decide +kernel
theorem dX12_isWord_12 : decode cX12_isWord 12 = .ok (.lload_n 1, 1) := by decide +kernel
theorem dX12_isWord_13 : decode cX12_isWord 13 = .ok (.lcmp, 1) := by decide +kernel
theorem dX12_isWord_14 : decode cX12_isWord 14 = .ok (.ifCond .ne 7, 3) := by decide +kernel
theorem dX12_isWord_17 : decode cX12_isWord 17 = .ok (.iconst 1, 1) := by decide +kernel
theorem dX12_isWord_18 : decode cX12_isWord 18 = .ok (.goto 4, 3) := by decide +kernel
theorem dX12_isWord_21 : decode cX12_isWord 21 = .ok (.iconst 0, 1) := by decide +kernel
theorem dX12_isWord_22 : decode cX12_isWord 22 = .ok (.ireturn, 1) := by decide +kernel
theorem dX12_isSign_0 : decode cX12_isSign 0 = .ok (.aload_n 0, 1) := by decide +kernel
theorem dX12_isSign_1 : decode cX12_isSign 1 = .ok (.getfield 193, 3) := by decide +kernel
theorem dX12_isSign_4 : decode cX12_isSign 4 = .ok (.iconst 3, 1) := by decide +kernel
theorem dX12_isSign_5 : decode cX12_isSign 5 = .ok (.if_icmp .ne 15, 3) := by decide +kernel
theorem dX12_isSign_8 : decode cX12_isSign 8 = .ok (.aload_n 0, 1) := by decide +kernel
theorem dX12_isSign_9 : decode cX12_isSign 9 = .ok (.getfield 203, 3) := by decide +kernel
theorem dX12_isSign_12 : decode cX12_isSign 12 = .ok (.iload_n 1, 1) := by decide +kernel
theorem dX12_isSign_13 : decode cX12_isSign 13 = .ok (.if_icmp .ne 7, 3) := by decide +kernel
theorem dX12_isSign_16 : decode cX12_isSign 16 = .ok (.iconst 1, 1) := by decide +kernel
theorem dX12_isSign_17 : decode cX12_isSign 17 = .ok (.goto 4, 3) := by decide +kernel
theorem dX12_isSign_20 : decode cX12_isSign 20 = .ok (.iconst 0, 1) := by decide +kernel
theorem dX12_isSign_21 : decode cX12_isSign 21 = .ok (.ireturn, 1) := by decide +kernel
theorem dX12_sign_0 : decode cX12_sign 0 = .ok (.aload_n 0, 1) := by decide +kernel
theorem dX12_sign_1 : decode cX12_sign 1 = .ok (.iload_n 1, 1) := by decide +kernel
theorem dX12_sign_2 : decode cX12_sign 2 = .ok (.invokevirtual 216, 3) := by decide +kernel
theorem dX12_sign_5 : decode cX12_sign 5 = .ok (.ifCond .ne 9, 3) := by decide +kernel
theorem dX12_sign_8 : decode cX12_sign 8 = .ok (.aload_n 0, 1) := by decide +kernel
theorem dX12_sign_9 : decode cX12_sign 9 = .ok (.iconst 1, 1) := by decide +kernel
theorem dX12_sign_10 : decode cX12_sign 10 = .ok (.invokevirtual 219, 3) := by decide +kernel
theorem dX12_sign_13 : decode cX12_sign 13 = .ok (.ireturn, 1) := by decide +kernel
theorem dX12_sign_14 : decode cX12_sign 14 = .ok (.aload_n 0, 1) := by decide +kernel
theorem dX12_sign_15 : decode cX12_sign 15 = .ok (.invokevirtual 222, 3) := by decide +kernel
theorem dX12_sign_18 : decode cX12_sign 18 = .ok (.iconst 1, 1) := by decide +kernel
theorem dX12_sign_19 : decode cX12_sign 19 = .ok (.ireturn, 1) := by decide +kernel
theorem dX12_isName_0 : decode cX12_isName 0 = .ok (.aload_n 0, 1) := by decide +kernel
theorem dX12_isName_1 : decode cX12_isName 1 = .ok (.getfield 193, 3) := by decide +kernel
theorem dX12_isName_4 : decode cX12_isName 4 = .ok (.iconst 1, 1) := by decide +kernel
theorem dX12_isName_5 : decode cX12_isName 5 = .ok (.if_icmp .ne 7, 3) := by decide +kernel
theorem dX12_isName_8 : decode cX12_isName 8 = .ok (.iconst 1, 1) := by decide +kernel
theorem dX12_isName_9 : decode cX12_isName 9 = .ok (.goto 4, 3) := by decide +kernel
theorem dX12_isName_12 : decode cX12_isName 12 = .ok (.iconst 0, 1) := by decide +kernel
theorem dX12_isName_13 : decode cX12_isName 13 = .ok (.istore_n 1, 1) := by decide +kernel
theorem dX12_isName_14 : decode cX12_isName 14 = .ok (.iconst 0, 1) := by decide +kernel
theorem dX12_isName_15 : decode cX12_isName 15 = .ok (.istore_n 2, 1) := by decide +kernel
theorem dX12_isName_16 : decode cX12_isName 16 = .ok (.iload_n 2, 1) := by decide +kernel
theorem dX12_isName_17 : decode cX12_isName 17 = .ok (.bipush 36, 2) := by decide +kernel
theorem dX12_isName_19 : decode cX12_isName 19 = .ok (.if_icmp .ge 33, 3) := by decide +kernel
theorem dX12_isName_22 : decode cX12_isName 22 = .ok (.iload_n 1, 1) := by decide +kernel
theorem dX12_isName_23 : decode cX12_isName 23 = .ok (.ifCond .eq 21, 3) := by decide +kernel
theorem dX12_isName_26 : decode cX12_isName 26 = .ok (.aload_n 0, 1) := by decide +kernel
theorem dX12_isName_27 : decode cX12_isName 27 = .ok (.getfield 206, 3) := by decide +kernel
theorem dX12_isName_30 : decode cX12_isName 30 = .ok (.aload_n 0, 1) := by decide +kernel
theorem dX12_isName_31 : decode cX12_isName 31 = .ok (.getfield 47, 3) := by decide +kernel
theorem dX12_isName_34 : decode cX12_isName 34 = .ok (.iload_n 2, 1) := by decide +kernel
theorem dX12_isName_35 : decode cX12_isName 35 = .ok (.laload, 1) := by decide +kernel
theorem dX12_isName_36 : decode cX12_isName 36 = .ok (.lcmp, 1) := by decide +kernel
theorem dX12_isName_37 : decode cX12_isName 37 = .ok (.ifCond .eq 7, 3) := by decide +kernel
theorem dX12_isName_40 : decode cX12_isName 40 = .ok (.iconst 1, 1) := by decide +kernel
theorem dX12_isName_41 : decode cX12_isName 41 = .ok (.goto 4, 3) := by decide +kernel
theorem dX12_isName_44 : decode cX12_isName 44 = .ok (.iconst 0, 1) := by decide +kernel
theorem dX12_isName_45 : decode cX12_isName 45 = .ok (.istore_n 1, 1) := by decide +kernel
theorem dX12_isName_46 : decode cX12_isName 46 = .ok (.iinc 2 1, 3) := by decide +kernel
theorem dX12_isName_49 : decode cX12_isName 49 = .ok (.goto (-33), 3) := by decide +kernel
theorem dX12_isName_52 : decode cX12_isName 52 = .ok (.iload_n 1, 1) := by decide +kernel
theorem dX12_isName_53 : decode cX12_isName 53 = .ok (.ireturn, 1) := by decide +kernel
theorem dX12_takes_0 : decode cX12_takes 0 = .ok (.aload_n 0, 1) := by decide +kernel
theorem dX12_takes_1 : decode cX12_takes 1 = .ok (.getfield 193, 3) := by decide +kernel
theorem dX12_takes_4 : decode cX12_takes 4 = .ok (.iconst 2, 1) := by decide +kernel
theorem dX12_takes_5 : decode cX12_takes 5 = .ok (.if_icmp .eq 9, 3) := by decide +kernel
theorem dX12_takes_8 : decode cX12_takes 8 = .ok (.aload_n 0, 1) := by decide +kernel
theorem dX12_takes_9 : decode cX12_takes 9 = .ok (.iconst 1, 1) := by decide +kernel
theorem dX12_takes_10 : decode cX12_takes 10 = .ok (.invokevirtual 219, 3) := by decide +kernel
theorem dX12_takes_13 : decode cX12_takes 13 = .ok (.ireturn, 1) := by decide +kernel
theorem dX12_takes_14 : decode cX12_takes 14 = .ok (.aload_n 0, 1) := by decide +kernel
theorem dX12_takes_15 : decode cX12_takes 15 = .ok (.getfield 203, 3) := by decide +kernel
theorem dX12_takes_18 : decode cX12_takes 18 = .ok (.iload_n 1, 1) := by decide +kernel
theorem dX12_takes_19 : decode cX12_takes 19 = .ok (.iload_n 2, 1) := by decide +kernel
theorem dX12_takes_20 : decode cX12_takes 20 = .ok (.invokestatic 225, 3) := by decide +kernel
theorem dX12_takes_23 : decode cX12_takes 23 = .ok (.ifCond .ne 9, 3) := by decide +kernel
theorem dX12_takes_26 : decode cX12_takes 26 = .ok (.aload_n 0, 1) := by decide +kernel
theorem dX12_takes_27 : decode cX12_takes 27 = .ok (.iconst 2, 1) := by decide +kernel
theorem dX12_takes_28 : decode cX12_takes 28 = .ok (.invokevirtual 219, 3) := by decide +kernel
theorem dX12_takes_31 : decode cX12_takes 31 = .ok (.ireturn, 1) := by decide +kernel
theorem dX12_takes_32 : decode cX12_takes 32 = .ok (.aload_n 0, 1) := by decide +kernel
theorem dX12_takes_33 : decode cX12_takes 33 = .ok (.aload_n 0, 1) := by decide +kernel
theorem dX12_takes_34 : decode cX12_takes 34 = .ok (.getfield 203, 3) := by decide +kernel
theorem dX12_takes_37 : decode cX12_takes 37 = .ok (.putfield 229, 3) := by decide +kernel
theorem dX12_takes_40 : decode cX12_takes 40 = .ok (.aload_n 0, 1) := by decide +kernel
theorem dX12_takes_41 : decode cX12_takes 41 = .ok (.invokevirtual 222, 3) := by decide +kernel
theorem dX12_takes_44 : decode cX12_takes 44 = .ok (.iconst 1, 1) := by decide +kernel
theorem dX12_takes_45 : decode cX12_takes 45 = .ok (.ireturn, 1) := by decide +kernel
theorem dX12_puts_0 : decode cX12_puts 0 = .ok (.aload_n 0, 1) := by decide +kernel
theorem dX12_puts_1 : decode cX12_puts 1 = .ok (.iload_n 2, 1) := by decide +kernel
theorem dX12_puts_2 : decode cX12_puts 2 = .ok (.iload_n 3, 1) := by decide +kernel
theorem dX12_puts_3 : decode cX12_puts 3 = .ok (.invokevirtual 232, 3) := by decide +kernel
theorem dX12_puts_6 : decode cX12_puts 6 = .ok (.ifCond .ne 5, 3) := by decide +kernel
theorem dX12_puts_9 : decode cX12_puts 9 = .ok (.iconst 0, 1) := by decide +kernel
theorem dX12_puts_10 : decode cX12_puts 10 = .ok (.ireturn, 1) := by decide +kernel
theorem dX12_puts_11 : decode cX12_puts 11 = .ok (.aload_n 0, 1) := by decide +kernel
theorem dX12_puts_12 : decode cX12_puts 12 = .ok (.getfield 37, 3) := by decide +kernel
theorem dX12_puts_15 : decode cX12_puts 15 = .ok (.iload_n 1, 1) := by decide +kernel
theorem dX12_puts_16 : decode cX12_puts 16 = .ok (.aload_n 0, 1) := by decide +kernel
theorem dX12_puts_17 : decode cX12_puts 17 = .ok (.getfield 229, 3) := by decide +kernel
theorem dX12_puts_20 : decode cX12_puts 20 = .ok (.iastore, 1) := by decide +kernel
theorem dX12_puts_21 : decode cX12_puts 21 = .ok (.iconst 1, 1) := by decide +kernel
theorem dX12_puts_22 : decode cX12_puts 22 = .ok (.ireturn, 1) := by decide +kernel
theorem dX12_isOneOf_0 : decode cX12_isOneOf 0 = .ok (.aload_n 0, 1) := by decide +kernel
theorem dX12_isOneOf_1 : decode cX12_isOneOf 1 = .ok (.iconst (-1), 1) := by decide +kernel
theorem dX12_isOneOf_2 : decode cX12_isOneOf 2 = .ok (.putfield 229, 3) := by decide +kernel
theorem dX12_isOneOf_5 : decode cX12_isOneOf 5 = .ok (.iconst 0, 1) := by decide +kernel
theorem dX12_isOneOf_6 : decode cX12_isOneOf 6 = .ok (.istore_n 3, 1) := by decide +kernel
theorem dX12_isOneOf_7 : decode cX12_isOneOf 7 = .ok (.iload_n 3, 1) := by decide +kernel
theorem dX12_isOneOf_8 : decode cX12_isOneOf 8 = .ok (.iload_n 2, 1) := by decide +kernel
theorem dX12_isOneOf_9 : decode cX12_isOneOf 9 = .ok (.if_icmp .ge 45, 3) := by decide +kernel
theorem dX12_isOneOf_12 : decode cX12_isOneOf 12 = .ok (.aload_n 0, 1) := by decide +kernel
theorem dX12_isOneOf_13 : decode cX12_isOneOf 13 = .ok (.aload_n 0, 1) := by decide +kernel
theorem dX12_isOneOf_14 : decode cX12_isOneOf 14 = .ok (.getfield 193, 3) := by decide +kernel
theorem dX12_isOneOf_17 : decode cX12_isOneOf 17 = .ok (.iconst 1, 1) := by decide +kernel
theorem dX12_isOneOf_18 : decode cX12_isOneOf 18 = .ok (.if_icmp .ne 23, 3) := by decide +kernel
theorem dX12_isOneOf_21 : decode cX12_isOneOf 21 = .ok (.aload_n 0, 1) := by decide +kernel
theorem dX12_isOneOf_22 : decode cX12_isOneOf 22 = .ok (.getfield 206, 3) := by decide +kernel
theorem dX12_isOneOf_25 : decode cX12_isOneOf 25 = .ok (.aload_n 0, 1) := by decide +kernel
theorem dX12_isOneOf_26 : decode cX12_isOneOf 26 = .ok (.getfield 47, 3) := by decide +kernel
theorem dX12_isOneOf_29 : decode cX12_isOneOf 29 = .ok (.iload_n 1, 1) := by decide +kernel
theorem dX12_isOneOf_30 : decode cX12_isOneOf 30 = .ok (.iload_n 3, 1) := by decide +kernel
theorem dX12_isOneOf_31 : decode cX12_isOneOf 31 = .ok (.iadd, 1) := by decide +kernel
theorem dX12_isOneOf_32 : decode cX12_isOneOf 32 = .ok (.laload, 1) := by decide +kernel
theorem dX12_isOneOf_33 : decode cX12_isOneOf 33 = .ok (.lcmp, 1) := by decide +kernel
theorem dX12_isOneOf_34 : decode cX12_isOneOf 34 = .ok (.ifCond .ne 7, 3) := by decide +kernel
theorem dX12_isOneOf_37 : decode cX12_isOneOf 37 = .ok (.iload_n 3, 1) := by decide +kernel
theorem dX12_isOneOf_38 : decode cX12_isOneOf 38 = .ok (.goto 7, 3) := by decide +kernel
theorem dX12_isOneOf_41 : decode cX12_isOneOf 41 = .ok (.aload_n 0, 1) := by decide +kernel
theorem dX12_isOneOf_42 : decode cX12_isOneOf 42 = .ok (.getfield 229, 3) := by decide +kernel
theorem dX12_isOneOf_45 : decode cX12_isOneOf 45 = .ok (.putfield 229, 3) := by decide +kernel
theorem dX12_isOneOf_48 : decode cX12_isOneOf 48 = .ok (.iinc 3 1, 3) := by decide +kernel
theorem dX12_isOneOf_51 : decode cX12_isOneOf 51 = .ok (.goto (-44), 3) := by decide +kernel
theorem dX12_isOneOf_54 : decode cX12_isOneOf 54 = .ok (.aload_n 0, 1) := by decide +kernel
theorem dX12_isOneOf_55 : decode cX12_isOneOf 55 = .ok (.getfield 229, 3) := by decide +kernel
theorem dX12_isOneOf_58 : decode cX12_isOneOf 58 = .ok (.ifCond .ge 11, 3) := by decide +kernel
theorem dX12_isOneOf_61 : decode cX12_isOneOf 61 = .ok (.aload_n 0, 1) := by decide +kernel
theorem dX12_isOneOf_62 : decode cX12_isOneOf 62 = .ok (.iconst 1, 1) := by decide +kernel
theorem dX12_isOneOf_63 : decode cX12_isOneOf 63 = .ok (.invokevirtual 219, 3) := by decide +kernel
theorem dX12_isOneOf_66 : decode cX12_isOneOf 66 = .ok (.ifCond .eq 7, 3) := by decide +kernel
theorem dX12_isOneOf_69 : decode cX12_isOneOf 69 = .ok (.iconst 1, 1) := by decide +kernel
theorem dX12_isOneOf_70 : decode cX12_isOneOf 70 = .ok (.goto 4, 3) := by decide +kernel
theorem dX12_isOneOf_73 : decode cX12_isOneOf 73 = .ok (.iconst 0, 1) := by decide +kernel
theorem dX12_isOneOf_74 : decode cX12_isOneOf 74 = .ok (.ireturn, 1) := by decide +kernel
theorem dX12_takesOneOf_0 : decode cX12_takesOneOf 0 = .ok (.aload_n 0, 1) := by decide +kernel
theorem dX12_takesOneOf_1 : decode cX12_takesOneOf 1 = .ok (.iload_n 1, 1) := by decide +kernel
theorem dX12_takesOneOf_2 : decode cX12_takesOneOf 2 = .ok (.iload_n 2, 1) := by decide +kernel
theorem dX12_takesOneOf_3 : decode cX12_takesOneOf 3 = .ok (.invokevirtual 236, 3) := by decide +kernel
theorem dX12_takesOneOf_6 : decode cX12_takesOneOf 6 = .ok (.ifCond .ne 5, 3) := by decide +kernel
theorem dX12_takesOneOf_9 : decode cX12_takesOneOf 9 = .ok (.iconst 0, 1) := by decide +kernel
theorem dX12_takesOneOf_10 : decode cX12_takesOneOf 10 = .ok (.ireturn, 1) := by decide +kernel
theorem dX12_takesOneOf_11 : decode cX12_takesOneOf 11 = .ok (.aload_n 0, 1) := by decide +kernel
theorem dX12_takesOneOf_12 : decode cX12_takesOneOf 12 = .ok (.invokevirtual 222, 3) := by decide +kernel
theorem dX12_takesOneOf_15 : decode cX12_takesOneOf 15 = .ok (.iconst 1, 1) := by decide +kernel
theorem dX12_takesOneOf_16 : decode cX12_takesOneOf 16 = .ok (.ireturn, 1) := by decide +kernel
theorem dX12_seek_0 : decode cX12_seek 0 = .ok (.iconst 0, 1) := by decide +kernel
theorem dX12_seek_1 : decode cX12_seek 1 = .ok (.istore_n 3, 1) := by decide +kernel
theorem dX12_seek_2 : decode cX12_seek 2 = .ok (.iload_n 3, 1) := by decide +kernel
theorem dX12_seek_3 : decode cX12_seek 3 = .ok (.iload_n 2, 1) := by decide +kernel
theorem dX12_seek_4 : decode cX12_seek 4 = .ok (.if_icmp .ge 27, 3) := by decide +kernel
theorem dX12_seek_7 : decode cX12_seek 7 = .ok (.aload_n 0, 1) := by decide +kernel
theorem dX12_seek_8 : decode cX12_seek 8 = .ok (.getfield 43, 3) := by decide +kernel
theorem dX12_seek_11 : decode cX12_seek 11 = .ok (.iload_n 1, 1) := by decide +kernel
theorem dX12_seek_12 : decode cX12_seek 12 = .ok (.iload_n 3, 1) := by decide +kernel
theorem dX12_seek_13 : decode cX12_seek 13 = .ok (.iadd, 1) := by decide +kernel
theorem dX12_seek_14 : decode cX12_seek 14 = .ok (.laload, 1) := by decide +kernel
theorem dX12_seek_15 : decode cX12_seek 15 = .ok (.aload_n 0, 1) := by decide +kernel
theorem dX12_seek_16 : decode cX12_seek 16 = .ok (.getfield 206, 3) := by decide +kernel
theorem dX12_seek_19 : decode cX12_seek 19 = .ok (.lcmp, 1) := by decide +kernel
theorem dX12_seek_20 : decode cX12_seek 20 = .ok (.ifCond .ne 5, 3) := by decide +kernel
theorem dX12_seek_23 : decode cX12_seek 23 = .ok (.iload_n 3, 1) := by decide +kernel
theorem dX12_seek_24 : decode cX12_seek 24 = .ok (.ireturn, 1) := by decide +kernel
theorem dX12_seek_25 : decode cX12_seek 25 = .ok (.iinc 3 1, 3) := by decide +kernel
theorem dX12_seek_28 : decode cX12_seek 28 = .ok (.goto (-26), 3) := by decide +kernel
theorem dX12_seek_31 : decode cX12_seek 31 = .ok (.iconst (-1), 1) := by decide +kernel
theorem dX12_seek_32 : decode cX12_seek 32 = .ok (.ireturn, 1) := by decide +kernel
theorem dX12_fresh_0 : decode cX12_fresh 0 = .ok (.aload_n 0, 1) := by decide +kernel
theorem dX12_fresh_1 : decode cX12_fresh 1 = .ok (.invokevirtual 239, 3) := by decide +kernel
theorem dX12_fresh_4 : decode cX12_fresh 4 = .ok (.ifCond .ne 9, 3) := by decide +kernel
theorem dX12_fresh_7 : decode cX12_fresh 7 = .ok (.aload_n 0, 1) := by decide +kernel
theorem dX12_fresh_8 : decode cX12_fresh 8 = .ok (.iconst 1, 1) := by decide +kernel
theorem dX12_fresh_9 : decode cX12_fresh 9 = .ok (.invokevirtual 219, 3) := by decide +kernel
theorem dX12_fresh_12 : decode cX12_fresh 12 = .ok (.ireturn, 1) := by decide +kernel
theorem dX12_fresh_13 : decode cX12_fresh 13 = .ok (.aload_n 0, 1) := by decide +kernel
theorem dX12_fresh_14 : decode cX12_fresh 14 = .ok (.bipush 13, 2) := by decide +kernel
theorem dX12_fresh_16 : decode cX12_fresh 16 = .ok (.aload_n 0, 1) := by decide +kernel
theorem dX12_fresh_17 : decode cX12_fresh 17 = .ok (.getfield 37, 3) := by decide +kernel
theorem dX12_fresh_20 : decode cX12_fresh 20 = .ok (.iconst 0, 1) := by decide +kernel
theorem dX12_fresh_21 : decode cX12_fresh 21 = .ok (.iaload, 1) := by decide +kernel
theorem dX12_fresh_22 : decode cX12_fresh 22 = .ok (.invokevirtual 243, 3) := by decide +kernel
theorem dX12_fresh_25 : decode cX12_fresh 25 = .ok (.ifCond .ge 18, 3) := by decide +kernel
theorem dX12_fresh_28 : decode cX12_fresh 28 = .ok (.aload_n 0, 1) := by decide +kernel
theorem dX12_fresh_29 : decode cX12_fresh 29 = .ok (.bipush 20, 2) := by decide +kernel
theorem dX12_fresh_31 : decode cX12_fresh 31 = .ok (.aload_n 0, 1) := by decide +kernel
theorem dX12_fresh_32 : decode cX12_fresh 32 = .ok (.getfield 37, 3) := by decide +kernel
theorem dX12_fresh_35 : decode cX12_fresh 35 = .ok (.iconst 1, 1) := by decide +kernel
theorem dX12_fresh_36 : decode cX12_fresh 36 = .ok (.iaload, 1) := by decide +kernel
theorem dX12_fresh_37 : decode cX12_fresh 37 = .ok (.invokevirtual 243, 3) := by decide +kernel
theorem dX12_fresh_40 : decode cX12_fresh 40 = .ok (.ifCond .lt 9, 3) := by decide +kernel
theorem dX12_fresh_43 : decode cX12_fresh 43 = .ok (.aload_n 0, 1) := by decide +kernel
theorem dX12_fresh_44 : decode cX12_fresh 44 = .ok (.iconst 3, 1) := by decide +kernel
theorem dX12_fresh_45 : decode cX12_fresh 45 = .ok (.invokevirtual 219, 3) := by decide +kernel
theorem dX12_fresh_48 : decode cX12_fresh 48 = .ok (.ireturn, 1) := by decide +kernel
theorem dX12_fresh_49 : decode cX12_fresh 49 = .ok (.aload_n 0, 1) := by decide +kernel
theorem dX12_fresh_50 : decode cX12_fresh 50 = .ok (.getfield 43, 3) := by decide +kernel
theorem dX12_fresh_53 : decode cX12_fresh 53 = .ok (.iload_n 1, 1) := by decide +kernel
theorem dX12_fresh_54 : decode cX12_fresh 54 = .ok (.aload_n 0, 1) := by decide +kernel
theorem dX12_fresh_55 : decode cX12_fresh 55 = .ok (.getfield 206, 3) := by decide +kernel
theorem dX12_fresh_58 : decode cX12_fresh 58 = .ok (.lastore, 1) := by decide +kernel
theorem dX12_fresh_59 : decode cX12_fresh 59 = .ok (.aload_n 0, 1) := by decide +kernel
theorem dX12_fresh_60 : decode cX12_fresh 60 = .ok (.invokevirtual 222, 3) := by decide +kernel
theorem dX12_fresh_63 : decode cX12_fresh 63 = .ok (.iconst 1, 1) := by decide +kernel
theorem dX12_fresh_64 : decode cX12_fresh 64 = .ok (.ireturn, 1) := by decide +kernel
theorem dX12_looksAt_0 : decode cX12_looksAt 0 = .ok (.aload_n 0, 1) := by decide +kernel
theorem dX12_looksAt_1 : decode cX12_looksAt 1 = .ok (.invokevirtual 239, 3) := by decide +kernel
theorem dX12_looksAt_4 : decode cX12_looksAt 4 = .ok (.ifCond .ne 9, 3) := by decide +kernel
theorem dX12_looksAt_7 : decode cX12_looksAt 7 = .ok (.aload_n 0, 1) := by decide +kernel
theorem dX12_looksAt_8 : decode cX12_looksAt 8 = .ok (.iconst 1, 1) := by decide +kernel
theorem dX12_looksAt_9 : decode cX12_looksAt 9 = .ok (.invokevirtual 219, 3) := by decide +kernel
theorem dX12_looksAt_12 : decode cX12_looksAt 12 = .ok (.ireturn, 1) := by decide +kernel
theorem dX12_looksAt_13 : decode cX12_looksAt 13 = .ok (.aload_n 0, 1) := by decide +kernel
theorem dX12_looksAt_14 : decode cX12_looksAt 14 = .ok (.aload_n 0, 1) := by decide +kernel
theorem dX12_looksAt_15 : decode cX12_looksAt 15 = .ok (.iload_n 1, 1) := by decide +kernel
theorem dX12_looksAt_16 : decode cX12_looksAt 16 = .ok (.iload_n 2, 1) := by decide +kernel
theorem dX12_looksAt_17 : decode cX12_looksAt 17 = .ok (.invokevirtual 243, 3) := by decide +kernel
theorem dX12_looksAt_20 : decode cX12_looksAt 20 = .ok (.putfield 229, 3) := by decide +kernel
theorem dX12_looksAt_23 : decode cX12_looksAt 23 = .ok (.aload_n 0, 1) := by decide +kernel
theorem dX12_looksAt_24 : decode cX12_looksAt 24 = .ok (.getfield 229, 3) := by decide +kernel
theorem dX12_looksAt_27 : decode cX12_looksAt 27 = .ok (.ifCond .ge 11, 3) := by decide +kernel
theorem dX12_looksAt_30 : decode cX12_looksAt 30 = .ok (.aload_n 0, 1) := by decide +kernel
theorem dX12_looksAt_31 : decode cX12_looksAt 31 = .ok (.iconst 3, 1) := by decide +kernel
theorem dX12_looksAt_32 : decode cX12_looksAt 32 = .ok (.invokevirtual 219, 3) := by decide +kernel
theorem dX12_looksAt_35 : decode cX12_looksAt 35 = .ok (.ifCond .eq 7, 3) := by decide +kernel
theorem dX12_looksAt_38 : decode cX12_looksAt 38 = .ok (.iconst 1, 1) := by decide +kernel
theorem dX12_looksAt_39 : decode cX12_looksAt 39 = .ok (.goto 4, 3) := by decide +kernel
theorem dX12_looksAt_42 : decode cX12_looksAt 42 = .ok (.iconst 0, 1) := by decide +kernel
theorem dX12_looksAt_43 : decode cX12_looksAt 43 = .ok (.ireturn, 1) := by decide +kernel
theorem dX12_takesName_0 : decode cX12_takesName 0 = .ok (.aload_n 0, 1) := by decide +kernel
theorem dX12_takesName_1 : decode cX12_takesName 1 = .ok (.iload_n 1, 1) := by decide +kernel
theorem dX12_takesName_2 : decode cX12_takesName 2 = .ok (.iload_n 2, 1) := by decide +kernel
theorem dX12_takesName_3 : decode cX12_takesName 3 = .ok (.invokevirtual 247, 3) := by decide +kernel
theorem dX12_takesName_6 : decode cX12_takesName 6 = .ok (.ifCond .ne 5, 3) := by decide +kernel
theorem dX12_takesName_9 : decode cX12_takesName 9 = .ok (.iconst 0, 1) := by decide +kernel
theorem dX12_takesName_10 : decode cX12_takesName 10 = .ok (.ireturn, 1) := by decide +kernel
theorem dX12_takesName_11 : decode cX12_takesName 11 = .ok (.aload_n 0, 1) := by decide +kernel
theorem dX12_takesName_12 : decode cX12_takesName 12 = .ok (.invokevirtual 222, 3) := by decide +kernel
theorem dX12_takesName_15 : decode cX12_takesName 15 = .ok (.iconst 1, 1) := by decide +kernel
theorem dX12_takesName_16 : decode cX12_takesName 16 = .ok (.ireturn, 1) := by decide +kernel
theorem dX12_line_0 : decode cX12_line 0 = .ok (.aload_n 0, 1) := by decide +kernel
theorem dX12_line_1 : decode cX12_line 1 = .ok (.ldc2_w 108, 3) := by decide +kernel
theorem dX12_line_4 : decode cX12_line 4 = .ok (.invokevirtual 250, 3) := by decide +kernel
theorem dX12_line_7 : decode cX12_line 7 = .ok (.ifCond .eq 8, 3) := by decide +kernel
theorem dX12_line_10 : decode cX12_line 10 = .ok (.aload_n 0, 1) := by decide +kernel
theorem dX12_line_11 : decode cX12_line 11 = .ok (.invokevirtual 254, 3) := by decide +kernel
theorem dX12_line_14 : decode cX12_line 14 = .ok (.ireturn, 1) := by decide +kernel
theorem dX12_line_15 : decode cX12_line 15 = .ok (.aload_n 0, 1) := by decide +kernel
theorem dX12_line_16 : decode cX12_line 16 = .ok (.ldc2_w 136, 3) := by decide +kernel
theorem dX12_line_19 : decode cX12_line 19 = .ok (.invokevirtual 250, 3) := by decide +kernel
theorem dX12_line_22 : decode cX12_line 22 = .ok (.ifCond .eq 8, 3) := by decide +kernel
theorem dX12_line_25 : decode cX12_line 25 = .ok (.aload_n 0, 1) := by decide +kernel
theorem dX12_line_26 : decode cX12_line 26 = .ok (.invokevirtual 257, 3) := by decide +kernel
theorem dX12_line_29 : decode cX12_line 29 = .ok (.ireturn, 1) := by decide +kernel
theorem dX12_line_30 : decode cX12_line 30 = .ok (.aload_n 0, 1) := by decide +kernel
theorem dX12_line_31 : decode cX12_line 31 = .ok (.ldc2_w 138, 3) := by decide +kernel
theorem dX12_line_34 : decode cX12_line 34 = .ok (.invokevirtual 250, 3) := by decide +kernel
theorem dX12_line_37 : decode cX12_line 37 = .ok (.ifCond .eq 10, 3) := by decide +kernel
theorem dX12_line_40 : decode cX12_line 40 = .ok (.aload_n 0, 1) := by decide +kernel
theorem dX12_line_41 : decode cX12_line 41 = .ok (.bipush 30, 2) := by decide +kernel
theorem dX12_line_43 : decode cX12_line 43 = .ok (.invokevirtual 260, 3) := by decide +kernel
theorem dX12_line_46 : decode cX12_line 46 = .ok (.ireturn, 1) := by decide +kernel
theorem dX12_line_47 : decode cX12_line 47 = .ok (.aload_n 0, 1) := by decide +kernel
theorem dX12_line_48 : decode cX12_line 48 = .ok (.ldc2_w 140, 3) := by decide +kernel
theorem dX12_line_51 : decode cX12_line 51 = .ok (.invokevirtual 250, 3) := by decide +kernel
theorem dX12_line_54 : decode cX12_line 54 = .ok (.ifCond .eq 12, 3) := by decide +kernel
theorem dX12_line_57 : decode cX12_line 57 = .ok (.aload_n 0, 1) := by decide +kernel
theorem dX12_line_58 : decode cX12_line 58 = .ok (.bipush 36, 2) := by decide +kernel
theorem dX12_line_60 : decode cX12_line 60 = .ok (.invokevirtual 260, 3) := by decide +kernel
theorem dX12_line_63 : decode cX12_line 63 = .ok (.goto 8, 3) := by decide +kernel
theorem dX12_line_66 : decode cX12_line 66 = .ok (.aload_n 0, 1) := by decide +kernel
theorem dX12_line_67 : decode cX12_line 67 = .ok (.iconst 1, 1) := by decide +kernel
theorem dX12_line_68 : decode cX12_line 68 = .ok (.invokevirtual 219, 3) := by decide +kernel
theorem dX12_line_71 : decode cX12_line 71 = .ok (.ireturn, 1) := by decide +kernel
theorem dX12_readTurret_0 : decode cX12_readTurret 0 = .ok (.aload_n 0, 1) := by decide +kernel
theorem dX12_readTurret_1 : decode cX12_readTurret 1 = .ok (.getfield 37, 3) := by decide +kernel
theorem dX12_readTurret_4 : decode cX12_readTurret 4 = .ok (.iconst 0, 1) := by decide +kernel
theorem dX12_readTurret_5 : decode cX12_readTurret 5 = .ok (.iaload, 1) := by decide +kernel
theorem dX12_readTurret_6 : decode cX12_readTurret 6 = .ok (.istore_n 1, 1) := by decide +kernel
theorem dX12_readTurret_7 : decode cX12_readTurret 7 = .ok (.iload_n 1, 1) := by decide +kernel
theorem dX12_readTurret_8 : decode cX12_readTurret 8 = .ok (.bipush 7, 2) := by decide +kernel
theorem dX12_readTurret_10 : decode cX12_readTurret 10 = .ok (.if_icmp .ne 9, 3) := by decide +kernel
theorem dX12_readTurret_13 : decode cX12_readTurret 13 = .ok (.aload_n 0, 1) := by decide +kernel
theorem dX12_readTurret_14 : decode cX12_readTurret 14 = .ok (.iconst 4, 1) := by decide +kernel
theorem dX12_readTurret_15 : decode cX12_readTurret 15 = .ok (.invokevirtual 219, 3) := by decide +kernel
theorem dX12_readTurret_18 : decode cX12_readTurret 18 = .ok (.ireturn, 1) := by decide +kernel
theorem dX12_readTurret_19 : decode cX12_readTurret 19 = .ok (.aload_n 0, 1) := by decide +kernel
theorem dX12_readTurret_20 : decode cX12_readTurret 20 = .ok (.invokevirtual 222, 3) := by decide +kernel
theorem dX12_readTurret_23 : decode cX12_readTurret 23 = .ok (.aload_n 0, 1) := by decide +kernel
theorem dX12_readTurret_24 : decode cX12_readTurret 24 = .ok (.bipush 13, 2) := by decide +kernel
theorem dX12_readTurret_26 : decode cX12_readTurret 26 = .ok (.iload_n 1, 1) := by decide +kernel
theorem dX12_readTurret_27 : decode cX12_readTurret 27 = .ok (.iadd, 1) := by decide +kernel
theorem dX12_readTurret_28 : decode cX12_readTurret 28 = .ok (.invokevirtual 263, 3) := by decide +kernel
theorem dX12_readTurret_31 : decode cX12_readTurret 31 = .ok (.ifCond .eq 12, 3) := by decide +kernel
theorem dX12_readTurret_34 : decode cX12_readTurret 34 = .ok (.aload_n 0, 1) := by decide +kernel
theorem dX12_readTurret_35 : decode cX12_readTurret 35 = .ok (.iconst 1, 1) := by decide +kernel
theorem dX12_readTurret_36 : decode cX12_readTurret 36 = .ok (.iconst 4, 1) := by decide +kernel
theorem dX12_readTurret_37 : decode cX12_readTurret 37 = .ok (.invokevirtual 266, 3) := by decide +kernel
theorem dX12_readTurret_40 : decode cX12_readTurret 40 = .ok (.ifCond .ne 5, 3) := by decide +kernel
theorem dX12_readTurret_43 : decode cX12_readTurret 43 = .ok (.iconst 0, 1) := by decide +kernel
theorem dX12_readTurret_44 : decode cX12_readTurret 44 = .ok (.ireturn, 1) := by decide +kernel
theorem dX12_readTurret_45 : decode cX12_readTurret 45 = .ok (.aload_n 0, 1) := by decide +kernel
theorem dX12_readTurret_46 : decode cX12_readTurret 46 = .ok (.getfield 37, 3) := by decide +kernel
theorem dX12_readTurret_49 : decode cX12_readTurret 49 = .ok (.iconst 2, 1) := by decide +kernel
theorem dX12_readTurret_50 : decode cX12_readTurret 50 = .ok (.iload_n 1, 1) := by decide +kernel
theorem dX12_readTurret_51 : decode cX12_readTurret 51 = .ok (.iadd, 1) := by decide +kernel
theorem dX12_readTurret_52 : decode cX12_readTurret 52 = .ok (.aload_n 0, 1) := by decide +kernel
theorem dX12_readTurret_53 : decode cX12_readTurret 53 = .ok (.getfield 229, 3) := by decide +kernel
theorem dX12_readTurret_56 : decode cX12_readTurret 56 = .ok (.iastore, 1) := by decide +kernel
theorem dX12_readTurret_57 : decode cX12_readTurret 57 = .ok (.aload_n 0, 1) := by decide +kernel
theorem dX12_readTurret_58 : decode cX12_readTurret 58 = .ok (.iconst 5, 1) := by decide +kernel
theorem dX12_readTurret_59 : decode cX12_readTurret 59 = .ok (.bipush 8, 2) := by decide +kernel
theorem dX12_readTurret_61 : decode cX12_readTurret 61 = .ok (.invokevirtual 266, 3) := by decide +kernel
theorem dX12_readTurret_64 : decode cX12_readTurret 64 = .ok (.ifCond .ne 5, 3) := by decide +kernel
theorem dX12_readTurret_67 : decode cX12_readTurret 67 = .ok (.iconst 0, 1) := by decide +kernel
theorem dX12_readTurret_68 : decode cX12_readTurret 68 = .ok (.ireturn, 1) := by decide +kernel
theorem dX12_readTurret_69 : decode cX12_readTurret 69 = .ok (.aload_n 0, 1) := by decide +kernel
theorem dX12_readTurret_70 : decode cX12_readTurret 70 = .ok (.getfield 37, 3) := by decide +kernel
theorem dX12_readTurret_73 : decode cX12_readTurret 73 = .ok (.bipush 9, 2) := by decide +kernel
theorem dX12_readTurret_75 : decode cX12_readTurret 75 = .ok (.iload_n 1, 1) := by decide +kernel
theorem dX12_readTurret_76 : decode cX12_readTurret 76 = .ok (.iadd, 1) := by decide +kernel
theorem dX12_readTurret_77 : decode cX12_readTurret 77 = .ok (.aload_n 0, 1) := by decide +kernel
theorem dX12_readTurret_78 : decode cX12_readTurret 78 = .ok (.getfield 229, 3) := by decide +kernel
theorem dX12_readTurret_81 : decode cX12_readTurret 81 = .ok (.iastore, 1) := by decide +kernel
theorem dX12_readTurret_82 : decode cX12_readTurret 82 = .ok (.aload_n 0, 1) := by decide +kernel
theorem dX12_readTurret_83 : decode cX12_readTurret 83 = .ok (.bipush 16, 2) := by decide +kernel
theorem dX12_readTurret_85 : decode cX12_readTurret 85 = .ok (.iload_n 1, 1) := by decide +kernel
theorem dX12_readTurret_86 : decode cX12_readTurret 86 = .ok (.iadd, 1) := by decide +kernel
theorem dX12_readTurret_87 : decode cX12_readTurret 87 = .ok (.iconst 1, 1) := by decide +kernel
theorem dX12_readTurret_88 : decode cX12_readTurret 88 = .ok (.bipush 60, 2) := by decide +kernel
theorem dX12_readTurret_90 : decode cX12_readTurret 90 = .ok (.invokevirtual 269, 3) := by decide +kernel
theorem dX12_readTurret_93 : decode cX12_readTurret 93 = .ok (.ifCond .ne 5, 3) := by decide +kernel
theorem dX12_readTurret_96 : decode cX12_readTurret 96 = .ok (.iconst 0, 1) := by decide +kernel
theorem dX12_readTurret_97 : decode cX12_readTurret 97 = .ok (.ireturn, 1) := by decide +kernel
theorem dX12_readTurret_98 : decode cX12_readTurret 98 = .ok (.aload_n 0, 1) := by decide +kernel
theorem dX12_readTurret_99 : decode cX12_readTurret 99 = .ok (.ldc2_w 134, 3) := by decide +kernel
theorem dX12_readTurret_102 : decode cX12_readTurret 102 = .ok (.invokevirtual 250, 3) := by decide +kernel
theorem dX12_readTurret_105 : decode cX12_readTurret 105 = .ok (.ifCond .eq 20, 3) := by decide +kernel
theorem dX12_readTurret_108 : decode cX12_readTurret 108 = .ok (.aload_n 0, 1) := by decide +kernel
theorem dX12_readTurret_109 : decode cX12_readTurret 109 = .ok (.getfield 37, 3) := by decide +kernel
theorem dX12_readTurret_112 : decode cX12_readTurret 112 = .ok (.bipush 23, 2) := by decide +kernel
theorem dX12_readTurret_114 : decode cX12_readTurret 114 = .ok (.dup2, 1) := by decide +kernel
theorem dX12_readTurret_115 : decode cX12_readTurret 115 = .ok (.iaload, 1) := by decide +kernel
theorem dX12_readTurret_116 : decode cX12_readTurret 116 = .ok (.iconst 1, 1) := by decide +kernel
theorem dX12_readTurret_117 : decode cX12_readTurret 117 = .ok (.iload_n 1, 1) := by decide +kernel
theorem dX12_readTurret_118 : decode cX12_readTurret 118 = .ok (.ishl, 1) := by decide +kernel
theorem dX12_readTurret_119 : decode cX12_readTurret 119 = .ok (.ior, 1) := by decide +kernel
theorem dX12_readTurret_120 : decode cX12_readTurret 120 = .ok (.iastore, 1) := by decide +kernel
theorem dX12_readTurret_121 : decode cX12_readTurret 121 = .ok (.aload_n 0, 1) := by decide +kernel
theorem dX12_readTurret_122 : decode cX12_readTurret 122 = .ok (.invokevirtual 222, 3) := by decide +kernel
theorem dX12_readTurret_125 : decode cX12_readTurret 125 = .ok (.aload_n 0, 1) := by decide +kernel
theorem dX12_readTurret_126 : decode cX12_readTurret 126 = .ok (.getfield 37, 3) := by decide +kernel
theorem dX12_readTurret_129 : decode cX12_readTurret 129 = .ok (.iconst 0, 1) := by decide +kernel
theorem dX12_readTurret_130 : decode cX12_readTurret 130 = .ok (.dup2, 1) := by decide +kernel
theorem dX12_readTurret_131 : decode cX12_readTurret 131 = .ok (.iaload, 1) := by decide +kernel
theorem dX12_readTurret_132 : decode cX12_readTurret 132 = .ok (.iconst 1, 1) := by decide +kernel
theorem dX12_readTurret_133 : decode cX12_readTurret 133 = .ok (.iadd, 1) := by decide +kernel
theorem dX12_readTurret_134 : decode cX12_readTurret 134 = .ok (.iastore, 1) := by decide +kernel
theorem dX12_readTurret_135 : decode cX12_readTurret 135 = .ok (.iconst 1, 1) := by decide +kernel
theorem dX12_readTurret_136 : decode cX12_readTurret 136 = .ok (.ireturn, 1) := by decide +kernel
theorem dX12_readPerson_0 : decode cX12_readPerson 0 = .ok (.aload_n 0, 1) := by decide +kernel
theorem dX12_readPerson_1 : decode cX12_readPerson 1 = .ok (.getfield 37, 3) := by decide +kernel
theorem dX12_readPerson_4 : decode cX12_readPerson 4 = .ok (.iconst 1, 1) := by decide +kernel
theorem dX12_readPerson_5 : decode cX12_readPerson 5 = .ok (.iaload, 1) := by decide +kernel
theorem dX12_readPerson_6 : decode cX12_readPerson 6 = .ok (.istore_n 1, 1) := by decide +kernel
theorem dX12_readPerson_7 : decode cX12_readPerson 7 = .ok (.iload_n 1, 1) := by decide +kernel
theorem dX12_readPerson_8 : decode cX12_readPerson 8 = .ok (.bipush 6, 2) := by decide +kernel
theorem dX12_readPerson_10 : decode cX12_readPerson 10 = .ok (.if_icmp .ne 9, 3) := by decide +kernel
theorem dX12_readPerson_13 : decode cX12_readPerson 13 = .ok (.aload_n 0, 1) := by decide +kernel
theorem dX12_readPerson_14 : decode cX12_readPerson 14 = .ok (.iconst 4, 1) := by decide +kernel
theorem dX12_readPerson_15 : decode cX12_readPerson 15 = .ok (.invokevirtual 219, 3) := by decide +kernel
theorem dX12_readPerson_18 : decode cX12_readPerson 18 = .ok (.ireturn, 1) := by decide +kernel
theorem dX12_readPerson_19 : decode cX12_readPerson 19 = .ok (.aload_n 0, 1) := by decide +kernel
theorem dX12_readPerson_20 : decode cX12_readPerson 20 = .ok (.invokevirtual 222, 3) := by decide +kernel
theorem dX12_readPerson_23 : decode cX12_readPerson 23 = .ok (.aload_n 0, 1) := by decide +kernel
theorem dX12_readPerson_24 : decode cX12_readPerson 24 = .ok (.bipush 20, 2) := by decide +kernel
theorem dX12_readPerson_26 : decode cX12_readPerson 26 = .ok (.iload_n 1, 1) := by decide +kernel
theorem dX12_readPerson_27 : decode cX12_readPerson 27 = .ok (.iadd, 1) := by decide +kernel
theorem dX12_readPerson_28 : decode cX12_readPerson 28 = .ok (.invokevirtual 263, 3) := by decide +kernel
theorem dX12_readPerson_31 : decode cX12_readPerson 31 = .ok (.ifCond .eq 17, 3) := by decide +kernel
theorem dX12_readPerson_34 : decode cX12_readPerson 34 = .ok (.aload_n 0, 1) := by decide +kernel
theorem dX12_readPerson_35 : decode cX12_readPerson 35 = .ok (.bipush 24, 2) := by decide +kernel
theorem dX12_readPerson_37 : decode cX12_readPerson 37 = .ok (.iload_n 1, 1) := by decide +kernel
theorem dX12_readPerson_38 : decode cX12_readPerson 38 = .ok (.iadd, 1) := by decide +kernel
theorem dX12_readPerson_39 : decode cX12_readPerson 39 = .ok (.iconst 0, 1) := by decide +kernel
theorem dX12_readPerson_40 : decode cX12_readPerson 40 = .ok (.bipush 60, 2) := by decide +kernel
theorem dX12_readPerson_42 : decode cX12_readPerson 42 = .ok (.invokevirtual 269, 3) := by decide +kernel
theorem dX12_readPerson_45 : decode cX12_readPerson 45 = .ok (.ifCond .ne 5, 3) := by decide +kernel
theorem dX12_readPerson_48 : decode cX12_readPerson 48 = .ok (.iconst 0, 1) := by decide +kernel
theorem dX12_readPerson_49 : decode cX12_readPerson 49 = .ok (.ireturn, 1) := by decide +kernel
theorem dX12_readPerson_50 : decode cX12_readPerson 50 = .ok (.aload_n 0, 1) := by decide +kernel
theorem dX12_readPerson_51 : decode cX12_readPerson 51 = .ok (.getfield 37, 3) := by decide +kernel
theorem dX12_readPerson_54 : decode cX12_readPerson 54 = .ok (.iconst 1, 1) := by decide +kernel
theorem dX12_readPerson_55 : decode cX12_readPerson 55 = .ok (.dup2, 1) := by decide +kernel
theorem dX12_readPerson_56 : decode cX12_readPerson 56 = .ok (.iaload, 1) := by decide +kernel
theorem dX12_readPerson_57 : decode cX12_readPerson 57 = .ok (.iconst 1, 1) := by decide +kernel
theorem dX12_readPerson_58 : decode cX12_readPerson 58 = .ok (.iadd, 1) := by decide +kernel
theorem dX12_readPerson_59 : decode cX12_readPerson 59 = .ok (.iastore, 1) := by decide +kernel
theorem dX12_readPerson_60 : decode cX12_readPerson 60 = .ok (.iconst 1, 1) := by decide +kernel
theorem dX12_readPerson_61 : decode cX12_readPerson 61 = .ok (.ireturn, 1) := by decide +kernel
theorem dX12_readMind_0 : decode cX12_readMind 0 = .ok (.aload_n 0, 1) := by decide +kernel
theorem dX12_readMind_1 : decode cX12_readMind 1 = .ok (.invokevirtual 222, 3) := by decide +kernel
theorem dX12_readMind_4 : decode cX12_readMind 4 = .ok (.aload_n 0, 1) := by decide +kernel
theorem dX12_readMind_5 : decode cX12_readMind 5 = .ok (.bipush 20, 2) := by decide +kernel
theorem dX12_readMind_7 : decode cX12_readMind 7 = .ok (.aload_n 0, 1) := by decide +kernel
theorem dX12_readMind_8 : decode cX12_readMind 8 = .ok (.getfield 37, 3) := by decide +kernel
theorem dX12_readMind_11 : decode cX12_readMind 11 = .ok (.iconst 1, 1) := by decide +kernel
theorem dX12_readMind_12 : decode cX12_readMind 12 = .ok (.iaload, 1) := by decide +kernel
theorem dX12_readMind_13 : decode cX12_readMind 13 = .ok (.invokevirtual 272, 3) := by decide +kernel
theorem dX12_readMind_16 : decode cX12_readMind 16 = .ok (.ifCond .ne 5, 3) := by decide +kernel
theorem dX12_readMind_19 : decode cX12_readMind 19 = .ok (.iconst 0, 1) := by decide +kernel
theorem dX12_readMind_20 : decode cX12_readMind 20 = .ok (.ireturn, 1) := by decide +kernel
theorem dX12_readMind_21 : decode cX12_readMind 21 = .ok (.aload_n 0, 1) := by decide +kernel
theorem dX12_readMind_22 : decode cX12_readMind 22 = .ok (.getfield 229, 3) := by decide +kernel
theorem dX12_readMind_25 : decode cX12_readMind 25 = .ok (.istore_n 2, 1) := by decide +kernel
theorem dX12_readMind_26 : decode cX12_readMind 26 = .ok (.aload_n 0, 1) := by decide +kernel
theorem dX12_readMind_27 : decode cX12_readMind 27 = .ok (.iconst 5, 1) := by decide +kernel
theorem dX12_readMind_28 : decode cX12_readMind 28 = .ok (.bipush 8, 2) := by decide +kernel
theorem dX12_readMind_30 : decode cX12_readMind 30 = .ok (.invokevirtual 236, 3) := by decide +kernel
theorem dX12_readMind_33 : decode cX12_readMind 33 = .ok (.ifCond .ne 5, 3) := by decide +kernel
theorem dX12_readMind_36 : decode cX12_readMind 36 = .ok (.iconst 0, 1) := by decide +kernel
theorem dX12_readMind_37 : decode cX12_readMind 37 = .ok (.ireturn, 1) := by decide +kernel
theorem dX12_readMind_38 : decode cX12_readMind 38 = .ok (.aload_n 0, 1) := by decide +kernel
theorem dX12_readMind_39 : decode cX12_readMind 39 = .ok (.getfield 37, 3) := by decide +kernel
theorem dX12_readMind_42 : decode cX12_readMind 42 = .ok (.iload_n 1, 1) := by decide +kernel
theorem dX12_readMind_43 : decode cX12_readMind 43 = .ok (.iload_n 2, 1) := by decide +kernel
theorem dX12_readMind_44 : decode cX12_readMind 44 = .ok (.iadd, 1) := by decide +kernel
theorem dX12_readMind_45 : decode cX12_readMind 45 = .ok (.iaload, 1) := by decide +kernel
theorem dX12_readMind_46 : decode cX12_readMind 46 = .ok (.aload_n 0, 1) := by decide +kernel
theorem dX12_readMind_47 : decode cX12_readMind 47 = .ok (.getfield 229, 3) := by decide +kernel
theorem dX12_readMind_50 : decode cX12_readMind 50 = .ok (.invokestatic 275, 3) := by decide +kernel
theorem dX12_readMind_53 : decode cX12_readMind 53 = .ok (.ifCond .ne 23, 3) := by decide +kernel
theorem dX12_readMind_56 : decode cX12_readMind 56 = .ok (.aload_n 0, 1) := by decide +kernel
theorem dX12_readMind_57 : decode cX12_readMind 57 = .ok (.getfield 37, 3) := by decide +kernel
theorem dX12_readMind_60 : decode cX12_readMind 60 = .ok (.iload_n 1, 1) := by decide +kernel
theorem dX12_readMind_61 : decode cX12_readMind 61 = .ok (.iload_n 2, 1) := by decide +kernel
theorem dX12_readMind_62 : decode cX12_readMind 62 = .ok (.iadd, 1) := by decide +kernel
theorem dX12_readMind_63 : decode cX12_readMind 63 = .ok (.iaload, 1) := by decide +kernel
theorem dX12_readMind_64 : decode cX12_readMind 64 = .ok (.aload_n 0, 1) := by decide +kernel
theorem dX12_readMind_65 : decode cX12_readMind 65 = .ok (.getfield 229, 3) := by decide +kernel
theorem dX12_readMind_68 : decode cX12_readMind 68 = .ok (.iconst 4, 1) := by decide +kernel
theorem dX12_readMind_69 : decode cX12_readMind 69 = .ok (.ixor, 1) := by decide +kernel
theorem dX12_readMind_70 : decode cX12_readMind 70 = .ok (.invokestatic 275, 3) := by decide +kernel
theorem dX12_readMind_73 : decode cX12_readMind 73 = .ok (.ifCond .eq 9, 3) := by decide +kernel
theorem dX12_readMind_76 : decode cX12_readMind 76 = .ok (.aload_n 0, 1) := by decide +kernel
theorem dX12_readMind_77 : decode cX12_readMind 77 = .ok (.iconst 3, 1) := by decide +kernel
theorem dX12_readMind_78 : decode cX12_readMind 78 = .ok (.invokevirtual 219, 3) := by decide +kernel
theorem dX12_readMind_81 : decode cX12_readMind 81 = .ok (.ireturn, 1) := by decide +kernel
theorem dX12_readMind_82 : decode cX12_readMind 82 = .ok (.aload_n 0, 1) := by decide +kernel
theorem dX12_readMind_83 : decode cX12_readMind 83 = .ok (.getfield 37, 3) := by decide +kernel
theorem dX12_readMind_86 : decode cX12_readMind 86 = .ok (.iload_n 1, 1) := by decide +kernel
theorem dX12_readMind_87 : decode cX12_readMind 87 = .ok (.iload_n 2, 1) := by decide +kernel
theorem dX12_readMind_88 : decode cX12_readMind 88 = .ok (.iadd, 1) := by decide +kernel
theorem dX12_readMind_89 : decode cX12_readMind 89 = .ok (.dup2, 1) := by decide +kernel
theorem dX12_readMind_90 : decode cX12_readMind 90 = .ok (.iaload, 1) := by decide +kernel
theorem dX12_readMind_91 : decode cX12_readMind 91 = .ok (.iconst 1, 1) := by decide +kernel
theorem dX12_readMind_92 : decode cX12_readMind 92 = .ok (.aload_n 0, 1) := by decide +kernel
theorem dX12_readMind_93 : decode cX12_readMind 93 = .ok (.getfield 229, 3) := by decide +kernel
theorem dX12_readMind_96 : decode cX12_readMind 96 = .ok (.ishl, 1) := by decide +kernel
theorem dX12_readMind_97 : decode cX12_readMind 97 = .ok (.ior, 1) := by decide +kernel
theorem dX12_readMind_98 : decode cX12_readMind 98 = .ok (.iastore, 1) := by decide +kernel
theorem dX12_readMind_99 : decode cX12_readMind 99 = .ok (.aload_n 0, 1) := by decide +kernel
theorem dX12_readMind_100 : decode cX12_readMind 100 = .ok (.invokevirtual 222, 3) := by decide +kernel
theorem dX12_readMind_103 : decode cX12_readMind 103 = .ok (.iconst 1, 1) := by decide +kernel
theorem dX12_readMind_104 : decode cX12_readMind 104 = .ok (.ireturn, 1) := by decide +kernel
theorem dX12_suburb_0 : decode cX12_suburb 0 = .ok (.aload_n 0, 1) := by decide +kernel
theorem dX12_suburb_1 : decode cX12_suburb 1 = .ok (.iconst 0, 1) := by decide +kernel
theorem dX12_suburb_2 : decode cX12_suburb 2 = .ok (.putfield 1, 3) := by decide +kernel
theorem dX12_suburb_5 : decode cX12_suburb 5 = .ok (.aload_n 0, 1) := by decide +kernel
theorem dX12_suburb_6 : decode cX12_suburb 6 = .ok (.sipush 900, 3) := by decide +kernel
theorem dX12_suburb_9 : decode cX12_suburb 9 = .ok (.invokevirtual 278, 3) := by decide +kernel
theorem dX12_suburb_12 : decode cX12_suburb 12 = .ok (.aload_n 0, 1) := by decide +kernel
theorem dX12_suburb_13 : decode cX12_suburb 13 = .ok (.iconst 0, 1) := by decide +kernel
theorem dX12_suburb_14 : decode cX12_suburb 14 = .ok (.putfield 210, 3) := by decide +kernel
theorem dX12_suburb_17 : decode cX12_suburb 17 = .ok (.aload_n 0, 1) := by decide +kernel
theorem dX12_suburb_18 : decode cX12_suburb 18 = .ok (.iconst 0, 1) := by decide +kernel
theorem dX12_suburb_19 : decode cX12_suburb 19 = .ok (.putfield 281, 3) := by decide +kernel
theorem dX12_suburb_22 : decode cX12_suburb 22 = .ok (.aload_n 0, 1) := by decide +kernel
theorem dX12_suburb_23 : decode cX12_suburb 23 = .ok (.invokevirtual 180, 3) := by decide +kernel
theorem dX12_suburb_26 : decode cX12_suburb 26 = .ok (.aload_n 0, 1) := by decide +kernel
theorem dX12_suburb_27 : decode cX12_suburb 27 = .ok (.invokevirtual 222, 3) := by decide +kernel
theorem dX12_suburb_30 : decode cX12_suburb 30 = .ok (.aload_n 0, 1) := by decide +kernel
theorem dX12_suburb_31 : decode cX12_suburb 31 = .ok (.getfield 193, 3) := by decide +kernel
theorem dX12_suburb_34 : decode cX12_suburb 34 = .ok (.ifCond .eq 39, 3) := by decide +kernel
theorem dX12_suburb_37 : decode cX12_suburb 37 = .ok (.aload_n 0, 1) := by decide +kernel
theorem dX12_suburb_38 : decode cX12_suburb 38 = .ok (.invokevirtual 284, 3) := by decide +kernel
theorem dX12_suburb_41 : decode cX12_suburb 41 = .ok (.ifCond .eq 12, 3) := by decide +kernel
theorem dX12_suburb_44 : decode cX12_suburb 44 = .ok (.aload_n 0, 1) := by decide +kernel
theorem dX12_suburb_45 : decode cX12_suburb 45 = .ok (.bipush 59, 2) := by decide +kernel
theorem dX12_suburb_47 : decode cX12_suburb 47 = .ok (.invokevirtual 287, 3) := by decide +kernel
theorem dX12_suburb_50 : decode cX12_suburb 50 = .ok (.ifCond .ne 10, 3) := by decide +kernel
theorem dX12_suburb_53 : decode cX12_suburb 53 = .ok (.iconst (-1), 1) := by decide +kernel
theorem dX12_suburb_54 : decode cX12_suburb 54 = .ok (.aload_n 0, 1) := by decide +kernel
theorem dX12_suburb_55 : decode cX12_suburb 55 = .ok (.getfield 213, 3) := by decide +kernel
theorem dX12_suburb_58 : decode cX12_suburb 58 = .ok (.isub, 1) := by decide +kernel
theorem dX12_suburb_59 : decode cX12_suburb 59 = .ok (.ireturn, 1) := by decide +kernel
theorem dX12_suburb_60 : decode cX12_suburb 60 = .ok (.aload_n 0, 1) := by decide +kernel
theorem dX12_suburb_61 : decode cX12_suburb 61 = .ok (.dup, 1) := by decide +kernel
theorem dX12_suburb_62 : decode cX12_suburb 62 = .ok (.getfield 281, 3) := by decide +kernel
theorem dX12_suburb_65 : decode cX12_suburb 65 = .ok (.iconst 1, 1) := by decide +kernel
theorem dX12_suburb_66 : decode cX12_suburb 66 = .ok (.iadd, 1) := by decide +kernel
theorem dX12_suburb_67 : decode cX12_suburb 67 = .ok (.putfield 281, 3) := by decide +kernel
theorem dX12_suburb_70 : decode cX12_suburb 70 = .ok (.goto (-40), 3) := by decide +kernel
theorem dX12_suburb_73 : decode cX12_suburb 73 = .ok (.iconst 0, 1) := by decide +kernel
theorem dX12_suburb_74 : decode cX12_suburb 74 = .ok (.istore_n 1, 1) := by decide +kernel
theorem dX12_suburb_75 : decode cX12_suburb 75 = .ok (.iload_n 1, 1) := by decide +kernel
theorem dX12_suburb_76 : decode cX12_suburb 76 = .ok (.sipush 258, 3) := by decide +kernel
theorem dX12_suburb_79 : decode cX12_suburb 79 = .ok (.if_icmp .ge 31, 3) := by decide +kernel
theorem dX12_suburb_82 : decode cX12_suburb 82 = .ok (.aload_n 0, 1) := by decide +kernel
theorem dX12_suburb_83 : decode cX12_suburb 83 = .ok (.getfield 33, 3) := by decide +kernel
theorem dX12_suburb_86 : decode cX12_suburb 86 = .ok (.iload_n 1, 1) := by decide +kernel
theorem dX12_suburb_87 : decode cX12_suburb 87 = .ok (.iload_n 1, 1) := by decide +kernel
theorem dX12_suburb_88 : decode cX12_suburb 88 = .ok (.bipush 42, 2) := by decide +kernel
theorem dX12_suburb_90 : decode cX12_suburb 90 = .ok (.if_icmp .ge 12, 3) := by decide +kernel
theorem dX12_suburb_93 : decode cX12_suburb 93 = .ok (.aload_n 0, 1) := by decide +kernel
theorem dX12_suburb_94 : decode cX12_suburb 94 = .ok (.getfield 37, 3) := by decide +kernel
theorem dX12_suburb_97 : decode cX12_suburb 97 = .ok (.iload_n 1, 1) := by decide +kernel
theorem dX12_suburb_98 : decode cX12_suburb 98 = .ok (.iaload, 1) := by decide +kernel
theorem dX12_suburb_99 : decode cX12_suburb 99 = .ok (.goto 4, 3) := by decide +kernel
theorem dX12_suburb_102 : decode cX12_suburb 102 = .ok (.iconst 0, 1) := by decide +kernel
theorem dX12_suburb_103 : decode cX12_suburb 103 = .ok (.iastore, 1) := by decide +kernel
theorem dX12_suburb_104 : decode cX12_suburb 104 = .ok (.iinc 1 1, 3) := by decide +kernel
theorem dX12_suburb_107 : decode cX12_suburb 107 = .ok (.goto (-32), 3) := by decide +kernel
theorem dX12_suburb_110 : decode cX12_suburb 110 = .ok (.iconst 0, 1) := by decide +kernel
theorem dX12_suburb_111 : decode cX12_suburb 111 = .ok (.istore_n 1, 1) := by decide +kernel
theorem dX12_suburb_112 : decode cX12_suburb 112 = .ok (.iload_n 1, 1) := by decide +kernel
theorem dX12_suburb_113 : decode cX12_suburb 113 = .ok (.bipush 13, 2) := by decide +kernel
theorem dX12_suburb_115 : decode cX12_suburb 115 = .ok (.if_icmp .ge 24, 3) := by decide +kernel
theorem dX12_suburb_118 : decode cX12_suburb 118 = .ok (.aload_n 0, 1) := by decide +kernel
theorem dX12_suburb_119 : decode cX12_suburb 119 = .ok (.getfield 43, 3) := by decide +kernel
theorem dX12_suburb_122 : decode cX12_suburb 122 = .ok (.iload_n 1, 1) := by decide +kernel
theorem dX12_suburb_123 : decode cX12_suburb 123 = .ok (.aload_n 0, 1) := by decide +kernel
theorem dX12_suburb_124 : decode cX12_suburb 124 = .ok (.getfield 43, 3) := by decide +kernel
theorem dX12_suburb_127 : decode cX12_suburb 127 = .ok (.bipush 13, 2) := by decide +kernel
theorem dX12_suburb_129 : decode cX12_suburb 129 = .ok (.iload_n 1, 1) := by decide +kernel
theorem dX12_suburb_130 : decode cX12_suburb 130 = .ok (.iadd, 1) := by decide +kernel
theorem dX12_suburb_131 : decode cX12_suburb 131 = .ok (.laload, 1) := by decide +kernel
theorem dX12_suburb_132 : decode cX12_suburb 132 = .ok (.lastore, 1) := by decide +kernel
theorem dX12_suburb_133 : decode cX12_suburb 133 = .ok (.iinc 1 1, 3) := by decide +kernel
theorem dX12_suburb_136 : decode cX12_suburb 136 = .ok (.goto (-24), 3) := by decide +kernel
theorem dX12_suburb_139 : decode cX12_suburb 139 = .ok (.iconst 0, 1) := by decide +kernel
theorem dX12_suburb_140 : decode cX12_suburb 140 = .ok (.istore_n 1, 1) := by decide +kernel
theorem dX12_suburb_141 : decode cX12_suburb 141 = .ok (.iload_n 1, 1) := by decide +kernel
theorem dX12_suburb_142 : decode cX12_suburb 142 = .ok (.bipush 7, 2) := by decide +kernel
theorem dX12_suburb_144 : decode cX12_suburb 144 = .ok (.if_icmp .ge 45, 3) := by decide +kernel
theorem dX12_suburb_147 : decode cX12_suburb 147 = .ok (.aload_n 0, 1) := by decide +kernel
theorem dX12_suburb_148 : decode cX12_suburb 148 = .ok (.getfield 33, 3) := by decide +kernel
theorem dX12_suburb_151 : decode cX12_suburb 151 = .ok (.bipush 45, 2) := by decide +kernel
theorem dX12_suburb_153 : decode cX12_suburb 153 = .ok (.iload_n 1, 1) := by decide +kernel
theorem dX12_suburb_154 : decode cX12_suburb 154 = .ok (.iadd, 1) := by decide +kernel
theorem dX12_suburb_155 : decode cX12_suburb 155 = .ok (.aload_n 0, 1) := by decide +kernel
theorem dX12_suburb_156 : decode cX12_suburb 156 = .ok (.getfield 33, 3) := by decide +kernel
theorem dX12_suburb_159 : decode cX12_suburb 159 = .ok (.bipush 9, 2) := by decide +kernel
theorem dX12_suburb_161 : decode cX12_suburb 161 = .ok (.iload_n 1, 1) := by decide +kernel
theorem dX12_suburb_162 : decode cX12_suburb 162 = .ok (.iadd, 1) := by decide +kernel
theorem dX12_suburb_163 : decode cX12_suburb 163 = .ok (.iaload, 1) := by decide +kernel
theorem dX12_suburb_164 : decode cX12_suburb 164 = .ok (.iastore, 1) := by decide +kernel
theorem dX12_suburb_165 : decode cX12_suburb 165 = .ok (.aload_n 0, 1) := by decide +kernel
theorem dX12_suburb_166 : decode cX12_suburb 166 = .ok (.getfield 33, 3) := by decide +kernel
theorem dX12_suburb_169 : decode cX12_suburb 169 = .ok (.bipush 52, 2) := by decide +kernel
theorem dX12_suburb_171 : decode cX12_suburb 171 = .ok (.iload_n 1, 1) := by decide +kernel
theorem dX12_suburb_172 : decode cX12_suburb 172 = .ok (.iadd, 1) := by decide +kernel
theorem dX12_suburb_173 : decode cX12_suburb 173 = .ok (.aload_n 0, 1) := by decide +kernel
theorem dX12_suburb_174 : decode cX12_suburb 174 = .ok (.getfield 33, 3) := by decide +kernel
theorem dX12_suburb_177 : decode cX12_suburb 177 = .ok (.bipush 16, 2) := by decide +kernel
theorem dX12_suburb_179 : decode cX12_suburb 179 = .ok (.iload_n 1, 1) := by decide +kernel
theorem dX12_suburb_180 : decode cX12_suburb 180 = .ok (.iadd, 1) := by decide +kernel
theorem dX12_suburb_181 : decode cX12_suburb 181 = .ok (.iaload, 1) := by decide +kernel
theorem dX12_suburb_182 : decode cX12_suburb 182 = .ok (.iastore, 1) := by decide +kernel
theorem dX12_suburb_183 : decode cX12_suburb 183 = .ok (.iinc 1 1, 3) := by decide +kernel
theorem dX12_suburb_186 : decode cX12_suburb 186 = .ok (.goto (-45), 3) := by decide +kernel
theorem dX12_suburb_189 : decode cX12_suburb 189 = .ok (.iconst 0, 1) := by decide +kernel
theorem dX12_suburb_190 : decode cX12_suburb 190 = .ok (.istore_n 1, 1) := by decide +kernel
theorem dX12_suburb_191 : decode cX12_suburb 191 = .ok (.iload_n 1, 1) := by decide +kernel
theorem dX12_suburb_192 : decode cX12_suburb 192 = .ok (.bipush 6, 2) := by decide +kernel
theorem dX12_suburb_194 : decode cX12_suburb 194 = .ok (.if_icmp .ge 27, 3) := by decide +kernel
theorem dX12_suburb_197 : decode cX12_suburb 197 = .ok (.aload_n 0, 1) := by decide +kernel
theorem dX12_suburb_198 : decode cX12_suburb 198 = .ok (.getfield 33, 3) := by decide +kernel
theorem dX12_suburb_201 : decode cX12_suburb 201 = .ok (.bipush 59, 2) := by decide +kernel
theorem dX12_suburb_203 : decode cX12_suburb 203 = .ok (.iload_n 1, 1) := by decide +kernel
theorem dX12_suburb_204 : decode cX12_suburb 204 = .ok (.iadd, 1) := by decide +kernel
theorem dX12_suburb_205 : decode cX12_suburb 205 = .ok (.aload_n 0, 1) := by decide +kernel
theorem dX12_suburb_206 : decode cX12_suburb 206 = .ok (.getfield 33, 3) := by decide +kernel
theorem dX12_suburb_209 : decode cX12_suburb 209 = .ok (.bipush 30, 2) := by decide +kernel
theorem dX12_suburb_211 : decode cX12_suburb 211 = .ok (.iload_n 1, 1) := by decide +kernel
theorem dX12_suburb_212 : decode cX12_suburb 212 = .ok (.iadd, 1) := by decide +kernel
theorem dX12_suburb_213 : decode cX12_suburb 213 = .ok (.iaload, 1) := by decide +kernel
theorem dX12_suburb_214 : decode cX12_suburb 214 = .ok (.iastore, 1) := by decide +kernel
theorem dX12_suburb_215 : decode cX12_suburb 215 = .ok (.iinc 1 1, 3) := by decide +kernel
theorem dX12_suburb_218 : decode cX12_suburb 218 = .ok (.goto (-27), 3) := by decide +kernel
theorem dX12_suburb_221 : decode cX12_suburb 221 = .ok (.aload_n 0, 1) := by decide +kernel
theorem dX12_suburb_222 : decode cX12_suburb 222 = .ok (.iconst 0, 1) := by decide +kernel
theorem dX12_suburb_223 : decode cX12_suburb 223 = .ok (.putfield 290, 3) := by decide +kernel
theorem dX12_suburb_226 : decode cX12_suburb 226 = .ok (.aload_n 0, 1) := by decide +kernel
theorem dX12_suburb_227 : decode cX12_suburb 227 = .ok (.getfield 281, 3) := by decide +kernel
theorem dX12_suburb_230 : decode cX12_suburb 230 = .ok (.ireturn, 1) := by decide +kernel
theorem dX12_fault_0 : decode cX12_fault 0 = .ok (.aload_n 0, 1) := by decide +kernel
theorem dX12_fault_1 : decode cX12_fault 1 = .ok (.iconst 0, 1) := by decide +kernel
theorem dX12_fault_2 : decode cX12_fault 2 = .ok (.putfield 1, 3) := by decide +kernel
theorem dX12_fault_5 : decode cX12_fault 5 = .ok (.aload_n 0, 1) := by decide +kernel
theorem dX12_fault_6 : decode cX12_fault 6 = .ok (.getfield 210, 3) := by decide +kernel
theorem dX12_fault_9 : decode cX12_fault 9 = .ok (.ireturn, 1) := by decide +kernel
theorem dX12_isTurret_0 : decode cX12_isTurret 0 = .ok (.iload_n 1, 1) := by decide +kernel
theorem dX12_isTurret_1 : decode cX12_isTurret 1 = .ok (.iconst 0, 1) := by decide +kernel
theorem dX12_isTurret_2 : decode cX12_isTurret 2 = .ok (.aload_n 0, 1) := by decide +kernel
theorem dX12_isTurret_3 : decode cX12_isTurret 3 = .ok (.getfield 33, 3) := by decide +kernel
theorem dX12_isTurret_6 : decode cX12_isTurret 6 = .ok (.iconst 0, 1) := by decide +kernel
theorem dX12_isTurret_7 : decode cX12_isTurret 7 = .ok (.iaload, 1) := by decide +kernel
theorem dX12_isTurret_8 : decode cX12_isTurret 8 = .ok (.iconst 1, 1) := by decide +kernel
theorem dX12_isTurret_9 : decode cX12_isTurret 9 = .ok (.isub, 1) := by decide +kernel
theorem dX12_isTurret_10 : decode cX12_isTurret 10 = .ok (.invokestatic 225, 3) := by decide +kernel
theorem dX12_isTurret_13 : decode cX12_isTurret 13 = .ok (.ireturn, 1) := by decide +kernel
theorem dX12_isPerson_0 : decode cX12_isPerson 0 = .ok (.iload_n 1, 1) := by decide +kernel
theorem dX12_isPerson_1 : decode cX12_isPerson 1 = .ok (.iconst 0, 1) := by decide +kernel
theorem dX12_isPerson_2 : decode cX12_isPerson 2 = .ok (.aload_n 0, 1) := by decide +kernel
theorem dX12_isPerson_3 : decode cX12_isPerson 3 = .ok (.getfield 33, 3) := by decide +kernel
theorem dX12_isPerson_6 : decode cX12_isPerson 6 = .ok (.iconst 1, 1) := by decide +kernel
theorem dX12_isPerson_7 : decode cX12_isPerson 7 = .ok (.iaload, 1) := by decide +kernel
theorem dX12_isPerson_8 : decode cX12_isPerson 8 = .ok (.iconst 1, 1) := by decide +kernel
theorem dX12_isPerson_9 : decode cX12_isPerson 9 = .ok (.isub, 1) := by decide +kernel
theorem dX12_isPerson_10 : decode cX12_isPerson 10 = .ok (.invokestatic 225, 3) := by decide +kernel
theorem dX12_isPerson_13 : decode cX12_isPerson 13 = .ok (.ireturn, 1) := by decide +kernel
theorem dX12_isView_0 : decode cX12_isView 0 = .ok (.iload_n 1, 1) := by decide +kernel
theorem dX12_isView_1 : decode cX12_isView 1 = .ok (.iconst 0, 1) := by decide +kernel
theorem dX12_isView_2 : decode cX12_isView 2 = .ok (.bipush 7, 2) := by decide +kernel
theorem dX12_isView_4 : decode cX12_isView 4 = .ok (.invokestatic 225, 3) := by decide +kernel
theorem dX12_isView_7 : decode cX12_isView 7 = .ok (.ireturn, 1) := by decide +kernel
theorem dX12_isUp_0 : decode cX12_isUp 0 = .ok (.aload_n 0, 1) := by decide +kernel
theorem dX12_isUp_1 : decode cX12_isUp 1 = .ok (.getfield 33, 3) := by decide +kernel
theorem dX12_isUp_4 : decode cX12_isUp 4 = .ok (.bipush 65, 2) := by decide +kernel
theorem dX12_isUp_6 : decode cX12_isUp 6 = .ok (.iload_n 1, 1) := by decide +kernel
theorem dX12_isUp_7 : decode cX12_isUp 7 = .ok (.iadd, 1) := by decide +kernel
theorem dX12_isUp_8 : decode cX12_isUp 8 = .ok (.iaload, 1) := by decide +kernel
theorem dX12_isUp_9 : decode cX12_isUp 9 = .ok (.ifCond .le 7, 3) := by decide +kernel
theorem dX12_isUp_12 : decode cX12_isUp 12 = .ok (.iconst 1, 1) := by decide +kernel
theorem dX12_isUp_13 : decode cX12_isUp 13 = .ok (.goto 4, 3) := by decide +kernel
theorem dX12_isUp_16 : decode cX12_isUp 16 = .ok (.iconst 0, 1) := by decide +kernel
theorem dX12_isUp_17 : decode cX12_isUp 17 = .ok (.ireturn, 1) := by decide +kernel
theorem dX12_isWalled_0 : decode cX12_isWalled 0 = .ok (.aload_n 0, 1) := by decide +kernel
theorem dX12_isWalled_1 : decode cX12_isWalled 1 = .ok (.getfield 33, 3) := by decide +kernel
theorem dX12_isWalled_4 : decode cX12_isWalled 4 = .ok (.bipush 44, 2) := by decide +kernel
theorem dX12_isWalled_6 : decode cX12_isWalled 6 = .ok (.iaload, 1) := by decide +kernel
theorem dX12_isWalled_7 : decode cX12_isWalled 7 = .ok (.iload_n 1, 1) := by decide +kernel
theorem dX12_isWalled_8 : decode cX12_isWalled 8 = .ok (.invokestatic 275, 3) := by decide +kernel
theorem dX12_isWalled_11 : decode cX12_isWalled 11 = .ok (.ireturn, 1) := by decide +kernel
theorem dX12_manyOf_0 : decode cX12_manyOf 0 = .ok (.aload_n 0, 1) := by decide +kernel
theorem dX12_manyOf_1 : decode cX12_manyOf 1 = .ok (.getfield 33, 3) := by decide +kernel
theorem dX12_manyOf_4 : decode cX12_manyOf 4 = .ok (.iconst 2, 1) := by decide +kernel
theorem dX12_manyOf_5 : decode cX12_manyOf 5 = .ok (.iload_n 1, 1) := by decide +kernel
theorem dX12_manyOf_6 : decode cX12_manyOf 6 = .ok (.iadd, 1) := by decide +kernel
theorem dX12_manyOf_7 : decode cX12_manyOf 7 = .ok (.iaload, 1) := by decide +kernel
theorem dX12_manyOf_8 : decode cX12_manyOf 8 = .ok (.ifCond .ne 7, 3) := by decide +kernel
theorem dX12_manyOf_11 : decode cX12_manyOf 11 = .ok (.iconst 1, 1) := by decide +kernel
theorem dX12_manyOf_12 : decode cX12_manyOf 12 = .ok (.goto 21, 3) := by decide +kernel
theorem dX12_manyOf_15 : decode cX12_manyOf 15 = .ok (.aload_n 0, 1) := by decide +kernel
theorem dX12_manyOf_16 : decode cX12_manyOf 16 = .ok (.getfield 33, 3) := by decide +kernel
theorem dX12_manyOf_19 : decode cX12_manyOf 19 = .ok (.iconst 2, 1) := by decide +kernel
theorem dX12_manyOf_20 : decode cX12_manyOf 20 = .ok (.iload_n 1, 1) := by decide +kernel
theorem dX12_manyOf_21 : decode cX12_manyOf 21 = .ok (.iadd, 1) := by decide +kernel
theorem dX12_manyOf_22 : decode cX12_manyOf 22 = .ok (.iaload, 1) := by decide +kernel
theorem dX12_manyOf_23 : decode cX12_manyOf 23 = .ok (.iconst 1, 1) := by decide +kernel
theorem dX12_manyOf_24 : decode cX12_manyOf 24 = .ok (.if_icmp .ne 7, 3) := by decide +kernel
theorem dX12_manyOf_27 : decode cX12_manyOf 27 = .ok (.iconst 3, 1) := by decide +kernel
theorem dX12_manyOf_28 : decode cX12_manyOf 28 = .ok (.goto 5, 3) := by decide +kernel
theorem dX12_manyOf_31 : decode cX12_manyOf 31 = .ok (.bipush 8, 2) := by decide +kernel
theorem dX12_manyOf_33 : decode cX12_manyOf 33 = .ok (.ireturn, 1) := by decide +kernel
theorem dX12_lookOf_0 : decode cX12_lookOf 0 = .ok (.aload_n 0, 1) := by decide +kernel
theorem dX12_lookOf_1 : decode cX12_lookOf 1 = .ok (.getfield 33, 3) := by decide +kernel
theorem dX12_lookOf_4 : decode cX12_lookOf 4 = .ok (.iconst 2, 1) := by decide +kernel
theorem dX12_lookOf_5 : decode cX12_lookOf 5 = .ok (.iload_n 1, 1) := by decide +kernel
theorem dX12_lookOf_6 : decode cX12_lookOf 6 = .ok (.iadd, 1) := by decide +kernel
theorem dX12_lookOf_7 : decode cX12_lookOf 7 = .ok (.iaload, 1) := by decide +kernel
theorem dX12_lookOf_8 : decode cX12_lookOf 8 = .ok (.iconst 3, 1) := by decide +kernel
theorem dX12_lookOf_9 : decode cX12_lookOf 9 = .ok (.if_icmp .ne 8, 3) := by decide +kernel
theorem dX12_lookOf_12 : decode cX12_lookOf 12 = .ok (.iload_n 2, 1) := by decide +kernel
theorem dX12_lookOf_13 : decode cX12_lookOf 13 = .ok (.ineg, 1) := by decide +kernel
theorem dX12_lookOf_14 : decode cX12_lookOf 14 = .ok (.goto 37, 3) := by decide +kernel
theorem dX12_lookOf_17 : decode cX12_lookOf 17 = .ok (.aload_n 0, 1) := by decide +kernel
theorem dX12_lookOf_18 : decode cX12_lookOf 18 = .ok (.getfield 33, 3) := by decide +kernel
theorem dX12_lookOf_21 : decode cX12_lookOf 21 = .ok (.iconst 2, 1) := by decide +kernel
theorem dX12_lookOf_22 : decode cX12_lookOf 22 = .ok (.iload_n 1, 1) := by decide +kernel
theorem dX12_lookOf_23 : decode cX12_lookOf 23 = .ok (.iadd, 1) := by decide +kernel
theorem dX12_lookOf_24 : decode cX12_lookOf 24 = .ok (.iaload, 1) := by decide +kernel
theorem dX12_lookOf_25 : decode cX12_lookOf 25 = .ok (.iconst 2, 1) := by decide +kernel
theorem dX12_lookOf_26 : decode cX12_lookOf 26 = .ok (.if_icmp .ne 7, 3) := by decide +kernel
theorem dX12_lookOf_29 : decode cX12_lookOf 29 = .ok (.iload_n 2, 1) := by decide +kernel
theorem dX12_lookOf_30 : decode cX12_lookOf 30 = .ok (.goto 21, 3) := by decide +kernel
theorem dX12_lookOf_33 : decode cX12_lookOf 33 = .ok (.iload_n 2, 1) := by decide +kernel
theorem dX12_lookOf_34 : decode cX12_lookOf 34 = .ok (.ifCond .ne 7, 3) := by decide +kernel
theorem dX12_lookOf_37 : decode cX12_lookOf 37 = .ok (.iconst 0, 1) := by decide +kernel
theorem dX12_lookOf_38 : decode cX12_lookOf 38 = .ok (.goto 13, 3) := by decide +kernel
theorem dX12_lookOf_41 : decode cX12_lookOf 41 = .ok (.iload_n 2, 1) := by decide +kernel
theorem dX12_lookOf_42 : decode cX12_lookOf 42 = .ok (.iconst 1, 1) := by decide +kernel
theorem dX12_lookOf_43 : decode cX12_lookOf 43 = .ok (.if_icmp .ne 7, 3) := by decide +kernel
theorem dX12_lookOf_46 : decode cX12_lookOf 46 = .ok (.iconst (-1), 1) := by decide +kernel
theorem dX12_lookOf_47 : decode cX12_lookOf 47 = .ok (.goto 4, 3) := by decide +kernel
theorem dX12_lookOf_50 : decode cX12_lookOf 50 = .ok (.iconst 1, 1) := by decide +kernel
theorem dX12_lookOf_51 : decode cX12_lookOf 51 = .ok (.istore_n 3, 1) := by decide +kernel
theorem dX12_lookOf_52 : decode cX12_lookOf 52 = .ok (.aload_n 0, 1) := by decide +kernel
theorem dX12_lookOf_53 : decode cX12_lookOf 53 = .ok (.getfield 33, 3) := by decide +kernel
theorem dX12_lookOf_56 : decode cX12_lookOf 56 = .ok (.bipush 45, 2) := by decide +kernel
theorem dX12_lookOf_58 : decode cX12_lookOf 58 = .ok (.iload_n 1, 1) := by decide +kernel
theorem dX12_lookOf_59 : decode cX12_lookOf 59 = .ok (.iadd, 1) := by decide +kernel
theorem dX12_lookOf_60 : decode cX12_lookOf 60 = .ok (.iaload, 1) := by decide +kernel
theorem dX12_lookOf_61 : decode cX12_lookOf 61 = .ok (.iload_n 3, 1) := by decide +kernel
theorem dX12_lookOf_62 : decode cX12_lookOf 62 = .ok (.iadd, 1) := by decide +kernel
theorem dX12_lookOf_63 : decode cX12_lookOf 63 = .ok (.bipush 7, 2) := by decide +kernel
theorem dX12_lookOf_65 : decode cX12_lookOf 65 = .ok (.iand, 1) := by decide +kernel
theorem dX12_lookOf_66 : decode cX12_lookOf 66 = .ok (.ireturn, 1) := by decide +kernel
theorem dX12_looksOf_0 : decode cX12_looksOf 0 = .ok (.iconst 0, 1) := by decide +kernel
theorem dX12_looksOf_1 : decode cX12_looksOf 1 = .ok (.istore_n 2, 1) := by decide +kernel
theorem dX12_looksOf_2 : decode cX12_looksOf 2 = .ok (.iconst 0, 1) := by decide +kernel
theorem dX12_looksOf_3 : decode cX12_looksOf 3 = .ok (.istore_n 3, 1) := by decide +kernel
theorem dX12_looksOf_4 : decode cX12_looksOf 4 = .ok (.iload_n 3, 1) := by decide +kernel
theorem dX12_looksOf_5 : decode cX12_looksOf 5 = .ok (.aload_n 0, 1) := by decide +kernel
theorem dX12_looksOf_6 : decode cX12_looksOf 6 = .ok (.iload_n 1, 1) := by decide +kernel
theorem dX12_looksOf_7 : decode cX12_looksOf 7 = .ok (.invokevirtual 293, 3) := by decide +kernel
theorem dX12_looksOf_10 : decode cX12_looksOf 10 = .ok (.if_icmp .ge 20, 3) := by decide +kernel
theorem dX12_looksOf_13 : decode cX12_looksOf 13 = .ok (.iload_n 2, 1) := by decide +kernel
theorem dX12_looksOf_14 : decode cX12_looksOf 14 = .ok (.iconst 1, 1) := by decide +kernel
theorem dX12_looksOf_15 : decode cX12_looksOf 15 = .ok (.aload_n 0, 1) := by decide +kernel
theorem dX12_looksOf_16 : decode cX12_looksOf 16 = .ok (.iload_n 1, 1) := by decide +kernel
theorem dX12_looksOf_17 : decode cX12_looksOf 17 = .ok (.iload_n 3, 1) := by decide +kernel
theorem dX12_looksOf_18 : decode cX12_looksOf 18 = .ok (.invokevirtual 297, 3) := by decide +kernel
theorem dX12_looksOf_21 : decode cX12_looksOf 21 = .ok (.ishl, 1) := by decide +kernel
theorem dX12_looksOf_22 : decode cX12_looksOf 22 = .ok (.ior, 1) := by decide +kernel
theorem dX12_looksOf_23 : decode cX12_looksOf 23 = .ok (.istore_n 2, 1) := by decide +kernel
theorem dX12_looksOf_24 : decode cX12_looksOf 24 = .ok (.iinc 3 1, 3) := by decide +kernel
theorem dX12_looksOf_27 : decode cX12_looksOf 27 = .ok (.goto (-23), 3) := by decide +kernel
theorem dX12_looksOf_30 : decode cX12_looksOf 30 = .ok (.iload_n 2, 1) := by decide +kernel
theorem dX12_looksOf_31 : decode cX12_looksOf 31 = .ok (.ireturn, 1) := by decide +kernel
theorem dX12_having_0 : decode cX12_having 0 = .ok (.iload_n 0, 1) := by decide +kernel
theorem dX12_having_1 : decode cX12_having 1 = .ok (.iconst 1, 1) := by decide +kernel
theorem dX12_having_2 : decode cX12_having 2 = .ok (.iload_n 1, 1) := by decide +kernel
theorem dX12_having_3 : decode cX12_having 3 = .ok (.iconst 4, 1) := by decide +kernel
theorem dX12_having_4 : decode cX12_having 4 = .ok (.ixor, 1) := by decide +kernel
theorem dX12_having_5 : decode cX12_having 5 = .ok (.ishl, 1) := by decide +kernel
theorem dX12_having_6 : decode cX12_having 6 = .ok (.iconst (-1), 1) := by decide +kernel
theorem dX12_having_7 : decode cX12_having 7 = .ok (.ixor, 1) := by decide +kernel
theorem dX12_having_8 : decode cX12_having 8 = .ok (.iand, 1) := by decide +kernel
theorem dX12_having_9 : decode cX12_having 9 = .ok (.iconst 1, 1) := by decide +kernel
theorem dX12_having_10 : decode cX12_having 10 = .ok (.iload_n 1, 1) := by decide +kernel
theorem dX12_having_11 : decode cX12_having 11 = .ok (.ishl, 1) := by decide +kernel
theorem dX12_having_12 : decode cX12_having 12 = .ok (.ior, 1) := by decide +kernel
theorem dX12_having_13 : decode cX12_having 13 = .ok (.ireturn, 1) := by decide +kernel
theorem dX12_behindOf_0 : decode cX12_behindOf 0 = .ok (.iload_n 1, 1) := by decide +kernel
theorem dX12_behindOf_1 : decode cX12_behindOf 1 = .ok (.istore_n 3, 1) := by decide +kernel
theorem dX12_behindOf_2 : decode cX12_behindOf 2 = .ok (.iconst 0, 1) := by decide +kernel
theorem dX12_behindOf_3 : decode cX12_behindOf 3 = .ok (.istore 4, 2) := by decide +kernel
theorem dX12_behindOf_5 : decode cX12_behindOf 5 = .ok (.iload 4, 2) := by decide +kernel
theorem dX12_behindOf_7 : decode cX12_behindOf 7 = .ok (.aload_n 0, 1) := by decide +kernel
theorem dX12_behindOf_8 : decode cX12_behindOf 8 = .ok (.iload_n 2, 1) := by decide +kernel
theorem dX12_behindOf_9 : decode cX12_behindOf 9 = .ok (.invokevirtual 293, 3) := by decide +kernel
theorem dX12_behindOf_12 : decode cX12_behindOf 12 = .ok (.if_icmp .ge 21, 3) := by decide +kernel
theorem dX12_behindOf_15 : decode cX12_behindOf 15 = .ok (.iload_n 3, 1) := by decide +kernel
theorem dX12_behindOf_16 : decode cX12_behindOf 16 = .ok (.aload_n 0, 1) := by decide +kernel
theorem dX12_behindOf_17 : decode cX12_behindOf 17 = .ok (.iload_n 2, 1) := by decide +kernel
theorem dX12_behindOf_18 : decode cX12_behindOf 18 = .ok (.iload 4, 2) := by decide +kernel
theorem dX12_behindOf_20 : decode cX12_behindOf 20 = .ok (.invokevirtual 297, 3) := by decide +kernel
theorem dX12_behindOf_23 : decode cX12_behindOf 23 = .ok (.invokestatic 300, 3) := by decide +kernel
theorem dX12_behindOf_26 : decode cX12_behindOf 26 = .ok (.istore_n 3, 1) := by decide +kernel
theorem dX12_behindOf_27 : decode cX12_behindOf 27 = .ok (.iinc 4 1, 3) := by decide +kernel
theorem dX12_behindOf_30 : decode cX12_behindOf 30 = .ok (.goto (-25), 3) := by decide +kernel
theorem dX12_behindOf_33 : decode cX12_behindOf 33 = .ok (.iload_n 3, 1) := by decide +kernel
theorem dX12_behindOf_34 : decode cX12_behindOf 34 = .ok (.ireturn, 1) := by decide +kernel
theorem dX12_whoIsUp_0 : decode cX12_whoIsUp 0 = .ok (.iconst 0, 1) := by decide +kernel
theorem dX12_whoIsUp_1 : decode cX12_whoIsUp 1 = .ok (.istore_n 2, 1) := by decide +kernel
theorem dX12_whoIsUp_2 : decode cX12_whoIsUp 2 = .ok (.iload_n 2, 1) := by decide +kernel
theorem dX12_whoIsUp_3 : decode cX12_whoIsUp 3 = .ok (.aload_n 0, 1) := by decide +kernel
theorem dX12_whoIsUp_4 : decode cX12_whoIsUp 4 = .ok (.getfield 33, 3) := by decide +kernel
theorem dX12_whoIsUp_7 : decode cX12_whoIsUp 7 = .ok (.iconst 1, 1) := by decide +kernel
theorem dX12_whoIsUp_8 : decode cX12_whoIsUp 8 = .ok (.iaload, 1) := by decide +kernel
theorem dX12_whoIsUp_9 : decode cX12_whoIsUp 9 = .ok (.if_icmp .ge 26, 3) := by decide +kernel
theorem dX12_whoIsUp_12 : decode cX12_whoIsUp 12 = .ok (.aload_n 0, 1) := by decide +kernel
theorem dX12_whoIsUp_13 : decode cX12_whoIsUp 13 = .ok (.getfield 33, 3) := by decide +kernel
theorem dX12_whoIsUp_16 : decode cX12_whoIsUp 16 = .ok (.bipush 65, 2) := by decide +kernel
theorem dX12_whoIsUp_18 : decode cX12_whoIsUp 18 = .ok (.iload_n 2, 1) := by decide +kernel
theorem dX12_whoIsUp_19 : decode cX12_whoIsUp 19 = .ok (.iadd, 1) := by decide +kernel
theorem dX12_whoIsUp_20 : decode cX12_whoIsUp 20 = .ok (.iaload, 1) := by decide +kernel
theorem dX12_whoIsUp_21 : decode cX12_whoIsUp 21 = .ok (.iload_n 1, 1) := by decide +kernel
theorem dX12_whoIsUp_22 : decode cX12_whoIsUp 22 = .ok (.iconst 1, 1) := by decide +kernel
theorem dX12_whoIsUp_23 : decode cX12_whoIsUp 23 = .ok (.iadd, 1) := by decide +kernel
theorem dX12_whoIsUp_24 : decode cX12_whoIsUp 24 = .ok (.if_icmp .ne 5, 3) := by decide +kernel
theorem dX12_whoIsUp_27 : decode cX12_whoIsUp 27 = .ok (.iload_n 2, 1) := by decide +kernel
theorem dX12_whoIsUp_28 : decode cX12_whoIsUp 28 = .ok (.ireturn, 1) := by decide +kernel
theorem dX12_whoIsUp_29 : decode cX12_whoIsUp 29 = .ok (.iinc 2 1, 3) := by decide +kernel
theorem dX12_whoIsUp_32 : decode cX12_whoIsUp 32 = .ok (.goto (-30), 3) := by decide +kernel
theorem dX12_whoIsUp_35 : decode cX12_whoIsUp 35 = .ok (.iconst (-1), 1) := by decide +kernel
theorem dX12_whoIsUp_36 : decode cX12_whoIsUp 36 = .ok (.ireturn, 1) := by decide +kernel
theorem dX12_canClimb_0 : decode cX12_canClimb 0 = .ok (.aload_n 0, 1) := by decide +kernel
theorem dX12_canClimb_1 : decode cX12_canClimb 1 = .ok (.iload_n 2, 1) := by decide +kernel
theorem dX12_canClimb_2 : decode cX12_canClimb 2 = .ok (.invokevirtual 303, 3) := by decide +kernel
theorem dX12_canClimb_5 : decode cX12_canClimb 5 = .ok (.ifCond .ne 45, 3) := by decide +kernel
theorem dX12_canClimb_8 : decode cX12_canClimb 8 = .ok (.aload_n 0, 1) := by decide +kernel
theorem dX12_canClimb_9 : decode cX12_canClimb 9 = .ok (.getfield 33, 3) := by decide +kernel
theorem dX12_canClimb_12 : decode cX12_canClimb 12 = .ok (.bipush 52, 2) := by decide +kernel
theorem dX12_canClimb_14 : decode cX12_canClimb 14 = .ok (.iload_n 2, 1) := by decide +kernel
theorem dX12_canClimb_15 : decode cX12_canClimb 15 = .ok (.iadd, 1) := by decide +kernel
theorem dX12_canClimb_16 : decode cX12_canClimb 16 = .ok (.iaload, 1) := by decide +kernel
theorem dX12_canClimb_17 : decode cX12_canClimb 17 = .ok (.aload_n 0, 1) := by decide +kernel
theorem dX12_canClimb_18 : decode cX12_canClimb 18 = .ok (.getfield 33, 3) := by decide +kernel
theorem dX12_canClimb_21 : decode cX12_canClimb 21 = .ok (.bipush 24, 2) := by decide +kernel
theorem dX12_canClimb_23 : decode cX12_canClimb 23 = .ok (.iload_n 1, 1) := by decide +kernel
theorem dX12_canClimb_24 : decode cX12_canClimb 24 = .ok (.iadd, 1) := by decide +kernel
theorem dX12_canClimb_25 : decode cX12_canClimb 25 = .ok (.iaload, 1) := by decide +kernel
theorem dX12_canClimb_26 : decode cX12_canClimb 26 = .ok (.if_icmp .gt 24, 3) := by decide +kernel
theorem dX12_canClimb_29 : decode cX12_canClimb 29 = .ok (.aload_n 0, 1) := by decide +kernel
theorem dX12_canClimb_30 : decode cX12_canClimb 30 = .ok (.iload_n 2, 1) := by decide +kernel
theorem dX12_canClimb_31 : decode cX12_canClimb 31 = .ok (.invokevirtual 306, 3) := by decide +kernel
theorem dX12_canClimb_34 : decode cX12_canClimb 34 = .ok (.ifCond .lt 12, 3) := by decide +kernel
theorem dX12_canClimb_37 : decode cX12_canClimb 37 = .ok (.aload_n 0, 1) := by decide +kernel
theorem dX12_canClimb_38 : decode cX12_canClimb 38 = .ok (.iload_n 2, 1) := by decide +kernel
theorem dX12_canClimb_39 : decode cX12_canClimb 39 = .ok (.invokevirtual 306, 3) := by decide +kernel
theorem dX12_canClimb_42 : decode cX12_canClimb 42 = .ok (.iload_n 1, 1) := by decide +kernel
theorem dX12_canClimb_43 : decode cX12_canClimb 43 = .ok (.if_icmp .ne 7, 3) := by decide +kernel
theorem dX12_canClimb_46 : decode cX12_canClimb 46 = .ok (.iconst 1, 1) := by decide +kernel
theorem dX12_canClimb_47 : decode cX12_canClimb 47 = .ok (.goto 4, 3) := by decide +kernel
theorem dX12_canClimb_50 : decode cX12_canClimb 50 = .ok (.iconst 0, 1) := by decide +kernel
theorem dX12_canClimb_51 : decode cX12_canClimb 51 = .ok (.ireturn, 1) := by decide +kernel
theorem dX12_canOf_0 : decode cX12_canOf 0 = .ok (.iconst 0, 1) := by decide +kernel
theorem dX12_canOf_1 : decode cX12_canOf 1 = .ok (.istore_n 2, 1) := by decide +kernel
theorem dX12_canOf_2 : decode cX12_canOf 2 = .ok (.iconst 0, 1) := by decide +kernel
theorem dX12_canOf_3 : decode cX12_canOf 3 = .ok (.istore_n 3, 1) := by decide +kernel
theorem dX12_canOf_4 : decode cX12_canOf 4 = .ok (.iload_n 3, 1) := by decide +kernel
theorem dX12_canOf_5 : decode cX12_canOf 5 = .ok (.aload_n 0, 1) := by decide +kernel
theorem dX12_canOf_6 : decode cX12_canOf 6 = .ok (.getfield 33, 3) := by decide +kernel
theorem dX12_canOf_9 : decode cX12_canOf 9 = .ok (.iconst 0, 1) := by decide +kernel
theorem dX12_canOf_10 : decode cX12_canOf 10 = .ok (.iaload, 1) := by decide +kernel
theorem dX12_canOf_11 : decode cX12_canOf 11 = .ok (.if_icmp .ge 28, 3) := by decide +kernel
theorem dX12_canOf_14 : decode cX12_canOf 14 = .ok (.iload_n 2, 1) := by decide +kernel
theorem dX12_canOf_15 : decode cX12_canOf 15 = .ok (.aload_n 0, 1) := by decide +kernel
theorem dX12_canOf_16 : decode cX12_canOf 16 = .ok (.iload_n 1, 1) := by decide +kernel
theorem dX12_canOf_17 : decode cX12_canOf 17 = .ok (.iload_n 3, 1) := by decide +kernel
theorem dX12_canOf_18 : decode cX12_canOf 18 = .ok (.invokevirtual 309, 3) := by decide +kernel
theorem dX12_canOf_21 : decode cX12_canOf 21 = .ok (.ifCond .eq 9, 3) := by decide +kernel
theorem dX12_canOf_24 : decode cX12_canOf 24 = .ok (.iconst 1, 1) := by decide +kernel
theorem dX12_canOf_25 : decode cX12_canOf 25 = .ok (.iload_n 3, 1) := by decide +kernel
theorem dX12_canOf_26 : decode cX12_canOf 26 = .ok (.ishl, 1) := by decide +kernel
theorem dX12_canOf_27 : decode cX12_canOf 27 = .ok (.goto 4, 3) := by decide +kernel
theorem dX12_canOf_30 : decode cX12_canOf 30 = .ok (.iconst 0, 1) := by decide +kernel
theorem dX12_canOf_31 : decode cX12_canOf 31 = .ok (.ior, 1) := by decide +kernel
theorem dX12_canOf_32 : decode cX12_canOf 32 = .ok (.istore_n 2, 1) := by decide +kernel
theorem dX12_canOf_33 : decode cX12_canOf 33 = .ok (.iinc 3 1, 3) := by decide +kernel
theorem dX12_canOf_36 : decode cX12_canOf 36 = .ok (.goto (-32), 3) := by decide +kernel
theorem dX12_canOf_39 : decode cX12_canOf 39 = .ok (.iload_n 2, 1) := by decide +kernel
theorem dX12_canOf_40 : decode cX12_canOf 40 = .ok (.ireturn, 1) := by decide +kernel
theorem dX12_opposite_0 : decode cX12_opposite 0 = .ok (.iload_n 0, 1) := by decide +kernel
theorem dX12_opposite_1 : decode cX12_opposite 1 = .ok (.iconst 4, 1) := by decide +kernel
theorem dX12_opposite_2 : decode cX12_opposite 2 = .ok (.ishl, 1) := by decide +kernel
theorem dX12_opposite_3 : decode cX12_opposite 3 = .ok (.sipush 255, 3) := by decide +kernel
theorem dX12_opposite_6 : decode cX12_opposite 6 = .ok (.iand, 1) := by decide +kernel
theorem dX12_opposite_7 : decode cX12_opposite 7 = .ok (.iload_n 0, 1) := by decide +kernel
theorem dX12_opposite_8 : decode cX12_opposite 8 = .ok (.iconst 4, 1) := by decide +kernel
theorem dX12_opposite_9 : decode cX12_opposite 9 = .ok (.ishr, 1) := by decide +kernel
theorem dX12_opposite_10 : decode cX12_opposite 10 = .ok (.ior, 1) := by decide +kernel
theorem dX12_opposite_11 : decode cX12_opposite 11 = .ok (.ireturn, 1) := by decide +kernel
theorem dX12_friendsOf_0 : decode cX12_friendsOf 0 = .ok (.iconst 0, 1) := by decide +kernel
theorem dX12_friendsOf_1 : decode cX12_friendsOf 1 = .ok (.istore_n 2, 1) := by decide +kernel
theorem dX12_friendsOf_2 : decode cX12_friendsOf 2 = .ok (.iconst 0, 1) := by decide +kernel
theorem dX12_friendsOf_3 : decode cX12_friendsOf 3 = .ok (.istore_n 3, 1) := by decide +kernel
theorem dX12_friendsOf_4 : decode cX12_friendsOf 4 = .ok (.iload_n 3, 1) := by decide +kernel
theorem dX12_friendsOf_5 : decode cX12_friendsOf 5 = .ok (.aload_n 0, 1) := by decide +kernel
theorem dX12_friendsOf_6 : decode cX12_friendsOf 6 = .ok (.getfield 33, 3) := by decide +kernel
theorem dX12_friendsOf_9 : decode cX12_friendsOf 9 = .ok (.iconst 1, 1) := by decide +kernel
theorem dX12_friendsOf_10 : decode cX12_friendsOf 10 = .ok (.iaload, 1) := by decide +kernel
theorem dX12_friendsOf_11 : decode cX12_friendsOf 11 = .ok (.if_icmp .ge 71, 3) := by decide +kernel
theorem dX12_friendsOf_14 : decode cX12_friendsOf 14 = .ok (.iload_n 2, 1) := by decide +kernel
theorem dX12_friendsOf_15 : decode cX12_friendsOf 15 = .ok (.iload_n 3, 1) := by decide +kernel
theorem dX12_friendsOf_16 : decode cX12_friendsOf 16 = .ok (.iload_n 1, 1) := by decide +kernel
theorem dX12_friendsOf_17 : decode cX12_friendsOf 17 = .ok (.if_icmp .eq 56, 3) := by decide +kernel
theorem dX12_friendsOf_20 : decode cX12_friendsOf 20 = .ok (.aload_n 0, 1) := by decide +kernel
theorem dX12_friendsOf_21 : decode cX12_friendsOf 21 = .ok (.getfield 33, 3) := by decide +kernel
theorem dX12_friendsOf_24 : decode cX12_friendsOf 24 = .ok (.bipush 59, 2) := by decide +kernel
theorem dX12_friendsOf_26 : decode cX12_friendsOf 26 = .ok (.iload_n 3, 1) := by decide +kernel
theorem dX12_friendsOf_27 : decode cX12_friendsOf 27 = .ok (.iadd, 1) := by decide +kernel
theorem dX12_friendsOf_28 : decode cX12_friendsOf 28 = .ok (.iaload, 1) := by decide +kernel
theorem dX12_friendsOf_29 : decode cX12_friendsOf 29 = .ok (.aload_n 0, 1) := by decide +kernel
theorem dX12_friendsOf_30 : decode cX12_friendsOf 30 = .ok (.getfield 33, 3) := by decide +kernel
theorem dX12_friendsOf_33 : decode cX12_friendsOf 33 = .ok (.bipush 59, 2) := by decide +kernel
theorem dX12_friendsOf_35 : decode cX12_friendsOf 35 = .ok (.iload_n 1, 1) := by decide +kernel
theorem dX12_friendsOf_36 : decode cX12_friendsOf 36 = .ok (.iadd, 1) := by decide +kernel
theorem dX12_friendsOf_37 : decode cX12_friendsOf 37 = .ok (.iaload, 1) := by decide +kernel
theorem dX12_friendsOf_38 : decode cX12_friendsOf 38 = .ok (.invokestatic 312, 3) := by decide +kernel
theorem dX12_friendsOf_41 : decode cX12_friendsOf 41 = .ok (.iand, 1) := by decide +kernel
theorem dX12_friendsOf_42 : decode cX12_friendsOf 42 = .ok (.ifCond .ne 31, 3) := by decide +kernel
theorem dX12_friendsOf_45 : decode cX12_friendsOf 45 = .ok (.aload_n 0, 1) := by decide +kernel
theorem dX12_friendsOf_46 : decode cX12_friendsOf 46 = .ok (.getfield 33, 3) := by decide +kernel
theorem dX12_friendsOf_49 : decode cX12_friendsOf 49 = .ok (.bipush 59, 2) := by decide +kernel
theorem dX12_friendsOf_51 : decode cX12_friendsOf 51 = .ok (.iload_n 3, 1) := by decide +kernel
theorem dX12_friendsOf_52 : decode cX12_friendsOf 52 = .ok (.iadd, 1) := by decide +kernel
theorem dX12_friendsOf_53 : decode cX12_friendsOf 53 = .ok (.iaload, 1) := by decide +kernel
theorem dX12_friendsOf_54 : decode cX12_friendsOf 54 = .ok (.aload_n 0, 1) := by decide +kernel
theorem dX12_friendsOf_55 : decode cX12_friendsOf 55 = .ok (.getfield 33, 3) := by decide +kernel
theorem dX12_friendsOf_58 : decode cX12_friendsOf 58 = .ok (.bipush 59, 2) := by decide +kernel
theorem dX12_friendsOf_60 : decode cX12_friendsOf 60 = .ok (.iload_n 1, 1) := by decide +kernel
theorem dX12_friendsOf_61 : decode cX12_friendsOf 61 = .ok (.iadd, 1) := by decide +kernel
theorem dX12_friendsOf_62 : decode cX12_friendsOf 62 = .ok (.iaload, 1) := by decide +kernel
theorem dX12_friendsOf_63 : decode cX12_friendsOf 63 = .ok (.iand, 1) := by decide +kernel
theorem dX12_friendsOf_64 : decode cX12_friendsOf 64 = .ok (.ifCond .eq 9, 3) := by decide +kernel
theorem dX12_friendsOf_67 : decode cX12_friendsOf 67 = .ok (.iconst 1, 1) := by decide +kernel
theorem dX12_friendsOf_68 : decode cX12_friendsOf 68 = .ok (.iload_n 3, 1) := by decide +kernel
theorem dX12_friendsOf_69 : decode cX12_friendsOf 69 = .ok (.ishl, 1) := by decide +kernel
theorem dX12_friendsOf_70 : decode cX12_friendsOf 70 = .ok (.goto 4, 3) := by decide +kernel
theorem dX12_friendsOf_73 : decode cX12_friendsOf 73 = .ok (.iconst 0, 1) := by decide +kernel
theorem dX12_friendsOf_74 : decode cX12_friendsOf 74 = .ok (.ior, 1) := by decide +kernel
theorem dX12_friendsOf_75 : decode cX12_friendsOf 75 = .ok (.istore_n 2, 1) := by decide +kernel
theorem dX12_friendsOf_76 : decode cX12_friendsOf 76 = .ok (.iinc 3 1, 3) := by decide +kernel
theorem dX12_friendsOf_79 : decode cX12_friendsOf 79 = .ok (.goto (-75), 3) := by decide +kernel
theorem dX12_friendsOf_82 : decode cX12_friendsOf 82 = .ok (.iload_n 2, 1) := by decide +kernel
theorem dX12_friendsOf_83 : decode cX12_friendsOf 83 = .ok (.ireturn, 1) := by decide +kernel
theorem dX12_isPleased_0 : decode cX12_isPleased 0 = .ok (.aload_n 0, 1) := by decide +kernel
theorem dX12_isPleased_1 : decode cX12_isPleased 1 = .ok (.getfield 33, 3) := by decide +kernel
theorem dX12_isPleased_4 : decode cX12_isPleased 4 = .ok (.bipush 36, 2) := by decide +kernel
theorem dX12_isPleased_6 : decode cX12_isPleased 6 = .ok (.iload_n 1, 1) := by decide +kernel
theorem dX12_isPleased_7 : decode cX12_isPleased 7 = .ok (.iadd, 1) := by decide +kernel
theorem dX12_isPleased_8 : decode cX12_isPleased 8 = .ok (.iaload, 1) := by decide +kernel
theorem dX12_isPleased_9 : decode cX12_isPleased 9 = .ok (.iload_n 2, 1) := by decide +kernel
theorem dX12_isPleased_10 : decode cX12_isPleased 10 = .ok (.iconst (-1), 1) := by decide +kernel
theorem dX12_isPleased_11 : decode cX12_isPleased 11 = .ok (.ixor, 1) := by decide +kernel
theorem dX12_isPleased_12 : decode cX12_isPleased 12 = .ok (.iand, 1) := by decide +kernel
theorem dX12_isPleased_13 : decode cX12_isPleased 13 = .ok (.ifCond .ne 7, 3) := by decide +kernel
theorem dX12_isPleased_16 : decode cX12_isPleased 16 = .ok (.iconst 1, 1) := by decide +kernel
theorem dX12_isPleased_17 : decode cX12_isPleased 17 = .ok (.goto 4, 3) := by decide +kernel
theorem dX12_isPleased_20 : decode cX12_isPleased 20 = .ok (.iconst 0, 1) := by decide +kernel
theorem dX12_isPleased_21 : decode cX12_isPleased 21 = .ok (.ireturn, 1) := by decide +kernel
theorem dX12_pleased_0 : decode cX12_pleased 0 = .ok (.iconst 0, 1) := by decide +kernel
theorem dX12_pleased_1 : decode cX12_pleased 1 = .ok (.istore_n 1, 1) := by decide +kernel
theorem dX12_pleased_2 : decode cX12_pleased 2 = .ok (.iconst 0, 1) := by decide +kernel
theorem dX12_pleased_3 : decode cX12_pleased 3 = .ok (.istore_n 2, 1) := by decide +kernel
theorem dX12_pleased_4 : decode cX12_pleased 4 = .ok (.iload_n 2, 1) := by decide +kernel
theorem dX12_pleased_5 : decode cX12_pleased 5 = .ok (.aload_n 0, 1) := by decide +kernel
theorem dX12_pleased_6 : decode cX12_pleased 6 = .ok (.getfield 33, 3) := by decide +kernel
theorem dX12_pleased_9 : decode cX12_pleased 9 = .ok (.iconst 1, 1) := by decide +kernel
theorem dX12_pleased_10 : decode cX12_pleased 10 = .ok (.iaload, 1) := by decide +kernel
theorem dX12_pleased_11 : decode cX12_pleased 11 = .ok (.if_icmp .ge 36, 3) := by decide +kernel
theorem dX12_pleased_14 : decode cX12_pleased 14 = .ok (.iload_n 1, 1) := by decide +kernel
theorem dX12_pleased_15 : decode cX12_pleased 15 = .ok (.aload_n 0, 1) := by decide +kernel
theorem dX12_pleased_16 : decode cX12_pleased 16 = .ok (.iload_n 2, 1) := by decide +kernel
theorem dX12_pleased_17 : decode cX12_pleased 17 = .ok (.aload_n 0, 1) := by decide +kernel
theorem dX12_pleased_18 : decode cX12_pleased 18 = .ok (.getfield 33, 3) := by decide +kernel
theorem dX12_pleased_21 : decode cX12_pleased 21 = .ok (.bipush 59, 2) := by decide +kernel
theorem dX12_pleased_23 : decode cX12_pleased 23 = .ok (.iload_n 2, 1) := by decide +kernel
theorem dX12_pleased_24 : decode cX12_pleased 24 = .ok (.iadd, 1) := by decide +kernel
theorem dX12_pleased_25 : decode cX12_pleased 25 = .ok (.iaload, 1) := by decide +kernel
theorem dX12_pleased_26 : decode cX12_pleased 26 = .ok (.invokevirtual 315, 3) := by decide +kernel
theorem dX12_pleased_29 : decode cX12_pleased 29 = .ok (.ifCond .eq 9, 3) := by decide +kernel
theorem dX12_pleased_32 : decode cX12_pleased 32 = .ok (.iconst 1, 1) := by decide +kernel
theorem dX12_pleased_33 : decode cX12_pleased 33 = .ok (.iload_n 2, 1) := by decide +kernel
theorem dX12_pleased_34 : decode cX12_pleased 34 = .ok (.ishl, 1) := by decide +kernel
theorem dX12_pleased_35 : decode cX12_pleased 35 = .ok (.goto 4, 3) := by decide +kernel
theorem dX12_pleased_38 : decode cX12_pleased 38 = .ok (.iconst 0, 1) := by decide +kernel
theorem dX12_pleased_39 : decode cX12_pleased 39 = .ok (.ior, 1) := by decide +kernel
theorem dX12_pleased_40 : decode cX12_pleased 40 = .ok (.istore_n 1, 1) := by decide +kernel
theorem dX12_pleased_41 : decode cX12_pleased 41 = .ok (.iinc 2 1, 3) := by decide +kernel
theorem dX12_pleased_44 : decode cX12_pleased 44 = .ok (.goto (-40), 3) := by decide +kernel
theorem dX12_pleased_47 : decode cX12_pleased 47 = .ok (.iload_n 1, 1) := by decide +kernel
theorem dX12_pleased_48 : decode cX12_pleased 48 = .ok (.ireturn, 1) := by decide +kernel
theorem dX12_person_0 : decode cX12_person 0 = .ok (.aload_n 0, 1) := by decide +kernel
theorem dX12_person_1 : decode cX12_person 1 = .ok (.aload_n 0, 1) := by decide +kernel
theorem dX12_person_2 : decode cX12_person 2 = .ok (.iload_n 1, 1) := by decide +kernel
theorem dX12_person_3 : decode cX12_person 3 = .ok (.invokevirtual 318, 3) := by decide +kernel
theorem dX12_person_6 : decode cX12_person 6 = .ok (.ifCond .eq 13, 3) := by decide +kernel
theorem dX12_person_9 : decode cX12_person 9 = .ok (.iload_n 2, 1) := by decide +kernel
theorem dX12_person_10 : decode cX12_person 10 = .ok (.iconst 0, 1) := by decide +kernel
theorem dX12_person_11 : decode cX12_person 11 = .ok (.bipush 6, 2) := by decide +kernel
theorem dX12_person_13 : decode cX12_person 13 = .ok (.invokestatic 225, 3) := by decide +kernel
theorem dX12_person_16 : decode cX12_person 16 = .ok (.ifCond .ne 7, 3) := by decide +kernel
theorem dX12_person_19 : decode cX12_person 19 = .ok (.iconst 1, 1) := by decide +kernel
theorem dX12_person_20 : decode cX12_person 20 = .ok (.goto 4, 3) := by decide +kernel
theorem dX12_person_23 : decode cX12_person 23 = .ok (.iconst 0, 1) := by decide +kernel
theorem dX12_person_24 : decode cX12_person 24 = .ok (.invokevirtual 321, 3) := by decide +kernel
theorem dX12_person_27 : decode cX12_person 27 = .ok (.ifCond .eq 5, 3) := by decide +kernel
theorem dX12_person_30 : decode cX12_person 30 = .ok (.iconst 0, 1) := by decide +kernel
theorem dX12_person_31 : decode cX12_person 31 = .ok (.ireturn, 1) := by decide +kernel
theorem dX12_person_32 : decode cX12_person 32 = .ok (.iload_n 2, 1) := by decide +kernel
theorem dX12_person_33 : decode cX12_person 33 = .ok (.tableswitch 97 0 5 #[39, 49, 59, 69, 81, 91], 39) := by decide +kernel
theorem dX12_person_72 : decode cX12_person 72 = .ok (.aload_n 0, 1) := by decide +kernel
theorem dX12_person_73 : decode cX12_person 73 = .ok (.getfield 33, 3) := by decide +kernel
theorem dX12_person_76 : decode cX12_person 76 = .ok (.bipush 59, 2) := by decide +kernel
theorem dX12_person_78 : decode cX12_person 78 = .ok (.iload_n 1, 1) := by decide +kernel
theorem dX12_person_79 : decode cX12_person 79 = .ok (.iadd, 1) := by decide +kernel
theorem dX12_person_80 : decode cX12_person 80 = .ok (.iaload, 1) := by decide +kernel
theorem dX12_person_81 : decode cX12_person 81 = .ok (.ireturn, 1) := by decide +kernel
theorem dX12_person_82 : decode cX12_person 82 = .ok (.aload_n 0, 1) := by decide +kernel
theorem dX12_person_83 : decode cX12_person 83 = .ok (.getfield 33, 3) := by decide +kernel
theorem dX12_person_86 : decode cX12_person 86 = .ok (.bipush 36, 2) := by decide +kernel
theorem dX12_person_88 : decode cX12_person 88 = .ok (.iload_n 1, 1) := by decide +kernel
theorem dX12_person_89 : decode cX12_person 89 = .ok (.iadd, 1) := by decide +kernel
theorem dX12_person_90 : decode cX12_person 90 = .ok (.iaload, 1) := by decide +kernel
theorem dX12_person_91 : decode cX12_person 91 = .ok (.ireturn, 1) := by decide +kernel
theorem dX12_person_92 : decode cX12_person 92 = .ok (.aload_n 0, 1) := by decide +kernel
theorem dX12_person_93 : decode cX12_person 93 = .ok (.getfield 33, 3) := by decide +kernel
theorem dX12_person_96 : decode cX12_person 96 = .ok (.bipush 24, 2) := by decide +kernel
theorem dX12_person_98 : decode cX12_person 98 = .ok (.iload_n 1, 1) := by decide +kernel
theorem dX12_person_99 : decode cX12_person 99 = .ok (.iadd, 1) := by decide +kernel
theorem dX12_person_100 : decode cX12_person 100 = .ok (.iaload, 1) := by decide +kernel
theorem dX12_person_101 : decode cX12_person 101 = .ok (.ireturn, 1) := by decide +kernel
theorem dX12_person_102 : decode cX12_person 102 = .ok (.aload_n 0, 1) := by decide +kernel
theorem dX12_person_103 : decode cX12_person 103 = .ok (.getfield 33, 3) := by decide +kernel
theorem dX12_person_106 : decode cX12_person 106 = .ok (.bipush 65, 2) := by decide +kernel
theorem dX12_person_108 : decode cX12_person 108 = .ok (.iload_n 1, 1) := by decide +kernel
theorem dX12_person_109 : decode cX12_person 109 = .ok (.iadd, 1) := by decide +kernel
theorem dX12_person_110 : decode cX12_person 110 = .ok (.iaload, 1) := by decide +kernel
theorem dX12_person_111 : decode cX12_person 111 = .ok (.iconst 1, 1) := by decide +kernel
theorem dX12_person_112 : decode cX12_person 112 = .ok (.isub, 1) := by decide +kernel
theorem dX12_person_113 : decode cX12_person 113 = .ok (.ireturn, 1) := by decide +kernel
theorem dX12_person_114 : decode cX12_person 114 = .ok (.aload_n 0, 1) := by decide +kernel
theorem dX12_person_115 : decode cX12_person 115 = .ok (.getfield 33, 3) := by decide +kernel
theorem dX12_person_118 : decode cX12_person 118 = .ok (.bipush 71, 2) := by decide +kernel
theorem dX12_person_120 : decode cX12_person 120 = .ok (.iload_n 1, 1) := by decide +kernel
theorem dX12_person_121 : decode cX12_person 121 = .ok (.iadd, 1) := by decide +kernel
theorem dX12_person_122 : decode cX12_person 122 = .ok (.iaload, 1) := by decide +kernel
theorem dX12_person_123 : decode cX12_person 123 = .ok (.ireturn, 1) := by decide +kernel
theorem dX12_person_124 : decode cX12_person 124 = .ok (.aload_n 0, 1) := by decide +kernel
theorem dX12_person_125 : decode cX12_person 125 = .ok (.iload_n 1, 1) := by decide +kernel
theorem dX12_person_126 : decode cX12_person 126 = .ok (.invokevirtual 325, 3) := by decide +kernel
theorem dX12_person_129 : decode cX12_person 129 = .ok (.ireturn, 1) := by decide +kernel
theorem dX12_person_130 : decode cX12_person 130 = .ok (.aload_n 0, 1) := by decide +kernel
theorem dX12_person_131 : decode cX12_person 131 = .ok (.iload_n 1, 1) := by decide +kernel
theorem dX12_person_132 : decode cX12_person 132 = .ok (.invokevirtual 328, 3) := by decide +kernel
theorem dX12_person_135 : decode cX12_person 135 = .ok (.ireturn, 1) := by decide +kernel
theorem dX12_turret_0 : decode cX12_turret 0 = .ok (.aload_n 0, 1) := by decide +kernel
theorem dX12_turret_1 : decode cX12_turret 1 = .ok (.iconst 0, 1) := by decide +kernel
theorem dX12_turret_2 : decode cX12_turret 2 = .ok (.putfield 1, 3) := by decide +kernel
theorem dX12_turret_5 : decode cX12_turret 5 = .ok (.aload_n 0, 1) := by decide +kernel
theorem dX12_turret_6 : decode cX12_turret 6 = .ok (.iload_n 1, 1) := by decide +kernel
theorem dX12_turret_7 : decode cX12_turret 7 = .ok (.invokevirtual 331, 3) := by decide +kernel
theorem dX12_turret_10 : decode cX12_turret 10 = .ok (.ifCond .ne 5, 3) := by decide +kernel
theorem dX12_turret_13 : decode cX12_turret 13 = .ok (.iconst (-1), 1) := by decide +kernel
theorem dX12_turret_14 : decode cX12_turret 14 = .ok (.ireturn, 1) := by decide +kernel
theorem dX12_turret_15 : decode cX12_turret 15 = .ok (.iload_n 2, 1) := by decide +kernel
theorem dX12_turret_16 : decode cX12_turret 16 = .ok (.tableswitch 111 0 6 #[44, 53, 63, 73, 85, 99, 105], 44) := by decide +kernel
theorem dX12_turret_60 : decode cX12_turret 60 = .ok (.aload_n 0, 1) := by decide +kernel
theorem dX12_turret_61 : decode cX12_turret 61 = .ok (.getfield 33, 3) := by decide +kernel
theorem dX12_turret_64 : decode cX12_turret 64 = .ok (.iconst 2, 1) := by decide +kernel
theorem dX12_turret_65 : decode cX12_turret 65 = .ok (.iload_n 1, 1) := by decide +kernel
theorem dX12_turret_66 : decode cX12_turret 66 = .ok (.iadd, 1) := by decide +kernel
theorem dX12_turret_67 : decode cX12_turret 67 = .ok (.iaload, 1) := by decide +kernel
theorem dX12_turret_68 : decode cX12_turret 68 = .ok (.ireturn, 1) := by decide +kernel
theorem dX12_turret_69 : decode cX12_turret 69 = .ok (.aload_n 0, 1) := by decide +kernel
theorem dX12_turret_70 : decode cX12_turret 70 = .ok (.getfield 33, 3) := by decide +kernel
theorem dX12_turret_73 : decode cX12_turret 73 = .ok (.bipush 45, 2) := by decide +kernel
theorem dX12_turret_75 : decode cX12_turret 75 = .ok (.iload_n 1, 1) := by decide +kernel
theorem dX12_turret_76 : decode cX12_turret 76 = .ok (.iadd, 1) := by decide +kernel
theorem dX12_turret_77 : decode cX12_turret 77 = .ok (.iaload, 1) := by decide +kernel
theorem dX12_turret_78 : decode cX12_turret 78 = .ok (.ireturn, 1) := by decide +kernel
theorem dX12_turret_79 : decode cX12_turret 79 = .ok (.aload_n 0, 1) := by decide +kernel
theorem dX12_turret_80 : decode cX12_turret 80 = .ok (.getfield 33, 3) := by decide +kernel
theorem dX12_turret_83 : decode cX12_turret 83 = .ok (.bipush 52, 2) := by decide +kernel
theorem dX12_turret_85 : decode cX12_turret 85 = .ok (.iload_n 1, 1) := by decide +kernel
theorem dX12_turret_86 : decode cX12_turret 86 = .ok (.iadd, 1) := by decide +kernel
theorem dX12_turret_87 : decode cX12_turret 87 = .ok (.iaload, 1) := by decide +kernel
theorem dX12_turret_88 : decode cX12_turret 88 = .ok (.ireturn, 1) := by decide +kernel
theorem dX12_turret_89 : decode cX12_turret 89 = .ok (.aload_n 0, 1) := by decide +kernel
theorem dX12_turret_90 : decode cX12_turret 90 = .ok (.getfield 33, 3) := by decide +kernel
theorem dX12_turret_93 : decode cX12_turret 93 = .ok (.bipush 23, 2) := by decide +kernel
theorem dX12_turret_95 : decode cX12_turret 95 = .ok (.iaload, 1) := by decide +kernel
theorem dX12_turret_96 : decode cX12_turret 96 = .ok (.iload_n 1, 1) := by decide +kernel
theorem dX12_turret_97 : decode cX12_turret 97 = .ok (.ishr, 1) := by decide +kernel
theorem dX12_turret_98 : decode cX12_turret 98 = .ok (.iconst 1, 1) := by decide +kernel
theorem dX12_turret_99 : decode cX12_turret 99 = .ok (.iand, 1) := by decide +kernel
theorem dX12_turret_100 : decode cX12_turret 100 = .ok (.ireturn, 1) := by decide +kernel
theorem dX12_turret_101 : decode cX12_turret 101 = .ok (.aload_n 0, 1) := by decide +kernel
theorem dX12_turret_102 : decode cX12_turret 102 = .ok (.iload_n 1, 1) := by decide +kernel
theorem dX12_turret_103 : decode cX12_turret 103 = .ok (.invokevirtual 303, 3) := by decide +kernel
theorem dX12_turret_106 : decode cX12_turret 106 = .ok (.ifCond .eq 7, 3) := by decide +kernel
theorem dX12_turret_109 : decode cX12_turret 109 = .ok (.iconst 1, 1) := by decide +kernel
theorem dX12_turret_110 : decode cX12_turret 110 = .ok (.goto 4, 3) := by decide +kernel
theorem dX12_turret_113 : decode cX12_turret 113 = .ok (.iconst 0, 1) := by decide +kernel
theorem dX12_turret_114 : decode cX12_turret 114 = .ok (.ireturn, 1) := by decide +kernel
theorem dX12_turret_115 : decode cX12_turret 115 = .ok (.aload_n 0, 1) := by decide +kernel
theorem dX12_turret_116 : decode cX12_turret 116 = .ok (.iload_n 1, 1) := by decide +kernel
theorem dX12_turret_117 : decode cX12_turret 117 = .ok (.invokevirtual 306, 3) := by decide +kernel
theorem dX12_turret_120 : decode cX12_turret 120 = .ok (.ireturn, 1) := by decide +kernel
theorem dX12_turret_121 : decode cX12_turret 121 = .ok (.aload_n 0, 1) := by decide +kernel
theorem dX12_turret_122 : decode cX12_turret 122 = .ok (.iload_n 1, 1) := by decide +kernel
theorem dX12_turret_123 : decode cX12_turret 123 = .ok (.invokevirtual 334, 3) := by decide +kernel
theorem dX12_turret_126 : decode cX12_turret 126 = .ok (.ireturn, 1) := by decide +kernel
theorem dX12_turret_127 : decode cX12_turret 127 = .ok (.iconst (-1), 1) := by decide +kernel
theorem dX12_turret_128 : decode cX12_turret 128 = .ok (.ireturn, 1) := by decide +kernel
theorem dX12_looks_0 : decode cX12_looks 0 = .ok (.aload_n 0, 1) := by decide +kernel
theorem dX12_looks_1 : decode cX12_looks 1 = .ok (.iconst 0, 1) := by decide +kernel
theorem dX12_looks_2 : decode cX12_looks 2 = .ok (.putfield 1, 3) := by decide +kernel
theorem dX12_looks_5 : decode cX12_looks 5 = .ok (.aload_n 0, 1) := by decide +kernel
theorem dX12_looks_6 : decode cX12_looks 6 = .ok (.iload_n 1, 1) := by decide +kernel
theorem dX12_looks_7 : decode cX12_looks 7 = .ok (.invokevirtual 331, 3) := by decide +kernel
theorem dX12_looks_10 : decode cX12_looks 10 = .ok (.ifCond .eq 27, 3) := by decide +kernel
theorem dX12_looks_13 : decode cX12_looks 13 = .ok (.iload_n 2, 1) := by decide +kernel
theorem dX12_looks_14 : decode cX12_looks 14 = .ok (.iconst 0, 1) := by decide +kernel
theorem dX12_looks_15 : decode cX12_looks 15 = .ok (.aload_n 0, 1) := by decide +kernel
theorem dX12_looks_16 : decode cX12_looks 16 = .ok (.iload_n 1, 1) := by decide +kernel
theorem dX12_looks_17 : decode cX12_looks 17 = .ok (.invokevirtual 293, 3) := by decide +kernel
theorem dX12_looks_20 : decode cX12_looks 20 = .ok (.iconst 1, 1) := by decide +kernel
theorem dX12_looks_21 : decode cX12_looks 21 = .ok (.isub, 1) := by decide +kernel
theorem dX12_looks_22 : decode cX12_looks 22 = .ok (.invokestatic 225, 3) := by decide +kernel
theorem dX12_looks_25 : decode cX12_looks 25 = .ok (.ifCond .eq 12, 3) := by decide +kernel
theorem dX12_looks_28 : decode cX12_looks 28 = .ok (.aload_n 0, 1) := by decide +kernel
theorem dX12_looks_29 : decode cX12_looks 29 = .ok (.iload_n 1, 1) := by decide +kernel
theorem dX12_looks_30 : decode cX12_looks 30 = .ok (.iload_n 2, 1) := by decide +kernel
theorem dX12_looks_31 : decode cX12_looks 31 = .ok (.invokevirtual 297, 3) := by decide +kernel
theorem dX12_looks_34 : decode cX12_looks 34 = .ok (.goto 4, 3) := by decide +kernel
theorem dX12_looks_37 : decode cX12_looks 37 = .ok (.iconst (-1), 1) := by decide +kernel
theorem dX12_looks_38 : decode cX12_looks 38 = .ok (.ireturn, 1) := by decide +kernel
theorem dX12_now_0 : decode cX12_now 0 = .ok (.aload_n 0, 1) := by decide +kernel
theorem dX12_now_1 : decode cX12_now 1 = .ok (.iconst 0, 1) := by decide +kernel
theorem dX12_now_2 : decode cX12_now 2 = .ok (.putfield 1, 3) := by decide +kernel
theorem dX12_now_5 : decode cX12_now 5 = .ok (.iconst 0, 1) := by decide +kernel
theorem dX12_now_6 : decode cX12_now 6 = .ok (.istore_n 2, 1) := by decide +kernel
theorem dX12_now_7 : decode cX12_now 7 = .ok (.iconst 0, 1) := by decide +kernel
theorem dX12_now_8 : decode cX12_now 8 = .ok (.istore_n 3, 1) := by decide +kernel
theorem dX12_now_9 : decode cX12_now 9 = .ok (.iconst 0, 1) := by decide +kernel
theorem dX12_now_10 : decode cX12_now 10 = .ok (.istore 4, 2) := by decide +kernel
theorem dX12_now_12 : decode cX12_now 12 = .ok (.iconst 0, 1) := by decide +kernel
theorem dX12_now_13 : decode cX12_now 13 = .ok (.istore 5, 2) := by decide +kernel
theorem dX12_now_15 : decode cX12_now 15 = .ok (.iload 5, 2) := by decide +kernel
theorem dX12_now_17 : decode cX12_now 17 = .ok (.aload_n 0, 1) := by decide +kernel
theorem dX12_now_18 : decode cX12_now 18 = .ok (.getfield 33, 3) := by decide +kernel
theorem dX12_now_21 : decode cX12_now 21 = .ok (.iconst 1, 1) := by decide +kernel
theorem dX12_now_22 : decode cX12_now 22 = .ok (.iaload, 1) := by decide +kernel
theorem dX12_now_23 : decode cX12_now 23 = .ok (.if_icmp .ge 71, 3) := by decide +kernel
theorem dX12_now_26 : decode cX12_now 26 = .ok (.iload_n 2, 1) := by decide +kernel
theorem dX12_now_27 : decode cX12_now 27 = .ok (.aload_n 0, 1) := by decide +kernel
theorem dX12_now_28 : decode cX12_now 28 = .ok (.iload 5, 2) := by decide +kernel
theorem dX12_now_30 : decode cX12_now 30 = .ok (.invokevirtual 337, 3) := by decide +kernel
theorem dX12_now_33 : decode cX12_now 33 = .ok (.ifCond .eq 10, 3) := by decide +kernel
theorem dX12_now_36 : decode cX12_now 36 = .ok (.iconst 1, 1) := by decide +kernel
theorem dX12_now_37 : decode cX12_now 37 = .ok (.iload 5, 2) := by decide +kernel
theorem dX12_now_39 : decode cX12_now 39 = .ok (.ishl, 1) := by decide +kernel
theorem dX12_now_40 : decode cX12_now 40 = .ok (.goto 4, 3) := by decide +kernel
theorem dX12_now_43 : decode cX12_now 43 = .ok (.iconst 0, 1) := by decide +kernel
theorem dX12_now_44 : decode cX12_now 44 = .ok (.ior, 1) := by decide +kernel
theorem dX12_now_45 : decode cX12_now 45 = .ok (.istore_n 2, 1) := by decide +kernel
theorem dX12_now_46 : decode cX12_now 46 = .ok (.iload_n 3, 1) := by decide +kernel
theorem dX12_now_47 : decode cX12_now 47 = .ok (.aload_n 0, 1) := by decide +kernel
theorem dX12_now_48 : decode cX12_now 48 = .ok (.getfield 33, 3) := by decide +kernel
theorem dX12_now_51 : decode cX12_now 51 = .ok (.bipush 59, 2) := by decide +kernel
theorem dX12_now_53 : decode cX12_now 53 = .ok (.iload 5, 2) := by decide +kernel
theorem dX12_now_55 : decode cX12_now 55 = .ok (.iadd, 1) := by decide +kernel
theorem dX12_now_56 : decode cX12_now 56 = .ok (.iaload, 1) := by decide +kernel
theorem dX12_now_57 : decode cX12_now 57 = .ok (.ifCond .ne 10, 3) := by decide +kernel
theorem dX12_now_60 : decode cX12_now 60 = .ok (.iconst 1, 1) := by decide +kernel
theorem dX12_now_61 : decode cX12_now 61 = .ok (.iload 5, 2) := by decide +kernel
theorem dX12_now_63 : decode cX12_now 63 = .ok (.ishl, 1) := by decide +kernel
theorem dX12_now_64 : decode cX12_now 64 = .ok (.goto 4, 3) := by decide +kernel
theorem dX12_now_67 : decode cX12_now 67 = .ok (.iconst 0, 1) := by decide +kernel
theorem dX12_now_68 : decode cX12_now 68 = .ok (.ior, 1) := by decide +kernel
theorem dX12_now_69 : decode cX12_now 69 = .ok (.istore_n 3, 1) := by decide +kernel
theorem dX12_now_70 : decode cX12_now 70 = .ok (.iload 4, 2) := by decide +kernel
theorem dX12_now_72 : decode cX12_now 72 = .ok (.aload_n 0, 1) := by decide +kernel
theorem dX12_now_73 : decode cX12_now 73 = .ok (.getfield 33, 3) := by decide +kernel
theorem dX12_now_76 : decode cX12_now 76 = .ok (.bipush 59, 2) := by decide +kernel
theorem dX12_now_78 : decode cX12_now 78 = .ok (.iload 5, 2) := by decide +kernel
theorem dX12_now_80 : decode cX12_now 80 = .ok (.iadd, 1) := by decide +kernel
theorem dX12_now_81 : decode cX12_now 81 = .ok (.iaload, 1) := by decide +kernel
theorem dX12_now_82 : decode cX12_now 82 = .ok (.invokestatic 340, 3) := by decide +kernel
theorem dX12_now_85 : decode cX12_now 85 = .ok (.iadd, 1) := by decide +kernel
theorem dX12_now_86 : decode cX12_now 86 = .ok (.istore 4, 2) := by decide +kernel
theorem dX12_now_88 : decode cX12_now 88 = .ok (.iinc 5 1, 3) := by decide +kernel
theorem dX12_now_91 : decode cX12_now 91 = .ok (.goto (-76), 3) := by decide +kernel
theorem dX12_now_94 : decode cX12_now 94 = .ok (.iload_n 1, 1) := by decide +kernel
theorem dX12_now_95 : decode cX12_now 95 = .ok (.tableswitch 77 0 6 #[41, 49, 51, 53, 58, 66, 74], 41) := by decide +kernel
theorem dX12_now_136 : decode cX12_now 136 = .ok (.aload_n 0, 1) := by decide +kernel
theorem dX12_now_137 : decode cX12_now 137 = .ok (.getfield 33, 3) := by decide +kernel
theorem dX12_now_140 : decode cX12_now 140 = .ok (.bipush 42, 2) := by decide +kernel
theorem dX12_now_142 : decode cX12_now 142 = .ok (.iaload, 1) := by decide +kernel
theorem dX12_now_143 : decode cX12_now 143 = .ok (.ireturn, 1) := by decide +kernel
theorem dX12_now_144 : decode cX12_now 144 = .ok (.iload_n 2, 1) := by decide +kernel
theorem dX12_now_145 : decode cX12_now 145 = .ok (.ireturn, 1) := by decide +kernel
theorem dX12_now_146 : decode cX12_now 146 = .ok (.iload_n 3, 1) := by decide +kernel
theorem dX12_now_147 : decode cX12_now 147 = .ok (.ireturn, 1) := by decide +kernel
theorem dX12_now_148 : decode cX12_now 148 = .ok (.aload_n 0, 1) := by decide +kernel
theorem dX12_now_149 : decode cX12_now 149 = .ok (.invokevirtual 343, 3) := by decide +kernel
theorem dX12_now_152 : decode cX12_now 152 = .ok (.ireturn, 1) := by decide +kernel
theorem dX12_now_153 : decode cX12_now 153 = .ok (.aload_n 0, 1) := by decide +kernel
theorem dX12_now_154 : decode cX12_now 154 = .ok (.getfield 33, 3) := by decide +kernel
theorem dX12_now_157 : decode cX12_now 157 = .ok (.bipush 44, 2) := by decide +kernel
theorem dX12_now_159 : decode cX12_now 159 = .ok (.iaload, 1) := by decide +kernel
theorem dX12_now_160 : decode cX12_now 160 = .ok (.ireturn, 1) := by decide +kernel
theorem dX12_now_161 : decode cX12_now 161 = .ok (.aload_n 0, 1) := by decide +kernel
theorem dX12_now_162 : decode cX12_now 162 = .ok (.getfield 33, 3) := by decide +kernel
theorem dX12_now_165 : decode cX12_now 165 = .ok (.bipush 43, 2) := by decide +kernel
theorem dX12_now_167 : decode cX12_now 167 = .ok (.iaload, 1) := by decide +kernel
theorem dX12_now_168 : decode cX12_now 168 = .ok (.ireturn, 1) := by decide +kernel
theorem dX12_now_169 : decode cX12_now 169 = .ok (.iload 4, 2) := by decide +kernel
theorem dX12_now_171 : decode cX12_now 171 = .ok (.ireturn, 1) := by decide +kernel
theorem dX12_now_172 : decode cX12_now 172 = .ok (.iconst (-1), 1) := by decide +kernel
theorem dX12_now_173 : decode cX12_now 173 = .ok (.ireturn, 1) := by decide +kernel
theorem dX12_whyClimb_0 : decode cX12_whyClimb 0 = .ok (.aload_n 0, 1) := by decide +kernel
theorem dX12_whyClimb_1 : decode cX12_whyClimb 1 = .ok (.iload_n 1, 1) := by decide +kernel
theorem dX12_whyClimb_2 : decode cX12_whyClimb 2 = .ok (.invokevirtual 337, 3) := by decide +kernel
theorem dX12_whyClimb_5 : decode cX12_whyClimb 5 = .ok (.ifCond .eq 7, 3) := by decide +kernel
theorem dX12_whyClimb_8 : decode cX12_whyClimb 8 = .ok (.iconst 1, 1) := by decide +kernel
theorem dX12_whyClimb_9 : decode cX12_whyClimb 9 = .ok (.goto 53, 3) := by decide +kernel
theorem dX12_whyClimb_12 : decode cX12_whyClimb 12 = .ok (.aload_n 0, 1) := by decide +kernel
theorem dX12_whyClimb_13 : decode cX12_whyClimb 13 = .ok (.iload_n 2, 1) := by decide +kernel
theorem dX12_whyClimb_14 : decode cX12_whyClimb 14 = .ok (.invokevirtual 306, 3) := by decide +kernel
theorem dX12_whyClimb_17 : decode cX12_whyClimb 17 = .ok (.ifCond .lt 7, 3) := by decide +kernel
theorem dX12_whyClimb_20 : decode cX12_whyClimb 20 = .ok (.iconst 2, 1) := by decide +kernel
theorem dX12_whyClimb_21 : decode cX12_whyClimb 21 = .ok (.goto 41, 3) := by decide +kernel
theorem dX12_whyClimb_24 : decode cX12_whyClimb 24 = .ok (.aload_n 0, 1) := by decide +kernel
theorem dX12_whyClimb_25 : decode cX12_whyClimb 25 = .ok (.iload_n 2, 1) := by decide +kernel
theorem dX12_whyClimb_26 : decode cX12_whyClimb 26 = .ok (.invokevirtual 303, 3) := by decide +kernel
theorem dX12_whyClimb_29 : decode cX12_whyClimb 29 = .ok (.ifCond .eq 7, 3) := by decide +kernel
theorem dX12_whyClimb_32 : decode cX12_whyClimb 32 = .ok (.iconst 3, 1) := by decide +kernel
theorem dX12_whyClimb_33 : decode cX12_whyClimb 33 = .ok (.goto 29, 3) := by decide +kernel
theorem dX12_whyClimb_36 : decode cX12_whyClimb 36 = .ok (.aload_n 0, 1) := by decide +kernel
theorem dX12_whyClimb_37 : decode cX12_whyClimb 37 = .ok (.getfield 33, 3) := by decide +kernel
theorem dX12_whyClimb_40 : decode cX12_whyClimb 40 = .ok (.bipush 52, 2) := by decide +kernel
theorem dX12_whyClimb_42 : decode cX12_whyClimb 42 = .ok (.iload_n 2, 1) := by decide +kernel
theorem dX12_whyClimb_43 : decode cX12_whyClimb 43 = .ok (.iadd, 1) := by decide +kernel
theorem dX12_whyClimb_44 : decode cX12_whyClimb 44 = .ok (.iaload, 1) := by decide +kernel
theorem dX12_whyClimb_45 : decode cX12_whyClimb 45 = .ok (.aload_n 0, 1) := by decide +kernel
theorem dX12_whyClimb_46 : decode cX12_whyClimb 46 = .ok (.getfield 33, 3) := by decide +kernel
theorem dX12_whyClimb_49 : decode cX12_whyClimb 49 = .ok (.bipush 24, 2) := by decide +kernel
theorem dX12_whyClimb_51 : decode cX12_whyClimb 51 = .ok (.iload_n 1, 1) := by decide +kernel
theorem dX12_whyClimb_52 : decode cX12_whyClimb 52 = .ok (.iadd, 1) := by decide +kernel
theorem dX12_whyClimb_53 : decode cX12_whyClimb 53 = .ok (.iaload, 1) := by decide +kernel
theorem dX12_whyClimb_54 : decode cX12_whyClimb 54 = .ok (.if_icmp .le 7, 3) := by decide +kernel
theorem dX12_whyClimb_57 : decode cX12_whyClimb 57 = .ok (.iconst 4, 1) := by decide +kernel
theorem dX12_whyClimb_58 : decode cX12_whyClimb 58 = .ok (.goto 4, 3) := by decide +kernel
theorem dX12_whyClimb_61 : decode cX12_whyClimb 61 = .ok (.iconst 0, 1) := by decide +kernel
theorem dX12_whyClimb_62 : decode cX12_whyClimb 62 = .ok (.ireturn, 1) := by decide +kernel
theorem dX12_climbs_0 : decode cX12_climbs 0 = .ok (.aload_n 0, 1) := by decide +kernel
theorem dX12_climbs_1 : decode cX12_climbs 1 = .ok (.getfield 33, 3) := by decide +kernel
theorem dX12_climbs_4 : decode cX12_climbs 4 = .ok (.bipush 65, 2) := by decide +kernel
theorem dX12_climbs_6 : decode cX12_climbs 6 = .ok (.iload_n 1, 1) := by decide +kernel
theorem dX12_climbs_7 : decode cX12_climbs 7 = .ok (.iadd, 1) := by decide +kernel
theorem dX12_climbs_8 : decode cX12_climbs 8 = .ok (.iload_n 2, 1) := by decide +kernel
theorem dX12_climbs_9 : decode cX12_climbs 9 = .ok (.iconst 1, 1) := by decide +kernel
theorem dX12_climbs_10 : decode cX12_climbs 10 = .ok (.iadd, 1) := by decide +kernel
theorem dX12_climbs_11 : decode cX12_climbs 11 = .ok (.iastore, 1) := by decide +kernel
theorem dX12_climbs_12 : decode cX12_climbs 12 = .ok (.aload_n 0, 1) := by decide +kernel
theorem dX12_climbs_13 : decode cX12_climbs 13 = .ok (.getfield 33, 3) := by decide +kernel
theorem dX12_climbs_16 : decode cX12_climbs 16 = .ok (.bipush 59, 2) := by decide +kernel
theorem dX12_climbs_18 : decode cX12_climbs 18 = .ok (.iload_n 1, 1) := by decide +kernel
theorem dX12_climbs_19 : decode cX12_climbs 19 = .ok (.iadd, 1) := by decide +kernel
theorem dX12_climbs_20 : decode cX12_climbs 20 = .ok (.aload_n 0, 1) := by decide +kernel
theorem dX12_climbs_21 : decode cX12_climbs 21 = .ok (.aload_n 0, 1) := by decide +kernel
theorem dX12_climbs_22 : decode cX12_climbs 22 = .ok (.getfield 33, 3) := by decide +kernel
theorem dX12_climbs_25 : decode cX12_climbs 25 = .ok (.bipush 59, 2) := by decide +kernel
theorem dX12_climbs_27 : decode cX12_climbs 27 = .ok (.iload_n 1, 1) := by decide +kernel
theorem dX12_climbs_28 : decode cX12_climbs 28 = .ok (.iadd, 1) := by decide +kernel
theorem dX12_climbs_29 : decode cX12_climbs 29 = .ok (.iaload, 1) := by decide +kernel
theorem dX12_climbs_30 : decode cX12_climbs 30 = .ok (.iload_n 2, 1) := by decide +kernel
theorem dX12_climbs_31 : decode cX12_climbs 31 = .ok (.invokevirtual 346, 3) := by decide +kernel
theorem dX12_climbs_34 : decode cX12_climbs 34 = .ok (.iastore, 1) := by decide +kernel
theorem dX12_climbs_35 : decode cX12_climbs 35 = .ok (.aload_n 0, 1) := by decide +kernel
theorem dX12_climbs_36 : decode cX12_climbs 36 = .ok (.getfield 33, 3) := by decide +kernel
theorem dX12_climbs_39 : decode cX12_climbs 39 = .ok (.bipush 71, 2) := by decide +kernel
theorem dX12_climbs_41 : decode cX12_climbs 41 = .ok (.iload_n 1, 1) := by decide +kernel
theorem dX12_climbs_42 : decode cX12_climbs 42 = .ok (.iadd, 1) := by decide +kernel
theorem dX12_climbs_43 : decode cX12_climbs 43 = .ok (.dup2, 1) := by decide +kernel
theorem dX12_climbs_44 : decode cX12_climbs 44 = .ok (.iaload, 1) := by decide +kernel
theorem dX12_climbs_45 : decode cX12_climbs 45 = .ok (.iconst 1, 1) := by decide +kernel
theorem dX12_climbs_46 : decode cX12_climbs 46 = .ok (.iadd, 1) := by decide +kernel
theorem dX12_climbs_47 : decode cX12_climbs 47 = .ok (.iastore, 1) := by decide +kernel
theorem dX12_climbs_48 : decode cX12_climbs 48 = .ok (.aload_n 0, 1) := by decide +kernel
theorem dX12_climbs_49 : decode cX12_climbs 49 = .ok (.getfield 33, 3) := by decide +kernel
theorem dX12_climbs_52 : decode cX12_climbs 52 = .ok (.bipush 43, 2) := by decide +kernel
theorem dX12_climbs_54 : decode cX12_climbs 54 = .ok (.dup2, 1) := by decide +kernel
theorem dX12_climbs_55 : decode cX12_climbs 55 = .ok (.iaload, 1) := by decide +kernel
theorem dX12_climbs_56 : decode cX12_climbs 56 = .ok (.iconst 1, 1) := by decide +kernel
theorem dX12_climbs_57 : decode cX12_climbs 57 = .ok (.iadd, 1) := by decide +kernel
theorem dX12_climbs_58 : decode cX12_climbs 58 = .ok (.iastore, 1) := by decide +kernel
theorem dX12_climbs_59 : decode cX12_climbs 59 = .ok (.return_, 1) := by decide +kernel
theorem dX12_whyTell_0 : decode cX12_whyTell 0 = .ok (.iload_n 1, 1) := by decide +kernel
theorem dX12_whyTell_1 : decode cX12_whyTell 1 = .ok (.iload_n 2, 1) := by decide +kernel
theorem dX12_whyTell_2 : decode cX12_whyTell 2 = .ok (.if_icmp .eq 19, 3) := by decide +kernel
theorem dX12_whyTell_5 : decode cX12_whyTell 5 = .ok (.aload_n 0, 1) := by decide +kernel
theorem dX12_whyTell_6 : decode cX12_whyTell 6 = .ok (.iload_n 1, 1) := by decide +kernel
theorem dX12_whyTell_7 : decode cX12_whyTell 7 = .ok (.invokevirtual 337, 3) := by decide +kernel
theorem dX12_whyTell_10 : decode cX12_whyTell 10 = .ok (.ifCond .ne 11, 3) := by decide +kernel
theorem dX12_whyTell_13 : decode cX12_whyTell 13 = .ok (.aload_n 0, 1) := by decide +kernel
theorem dX12_whyTell_14 : decode cX12_whyTell 14 = .ok (.iload_n 2, 1) := by decide +kernel
theorem dX12_whyTell_15 : decode cX12_whyTell 15 = .ok (.invokevirtual 337, 3) := by decide +kernel
theorem dX12_whyTell_18 : decode cX12_whyTell 18 = .ok (.ifCond .eq 7, 3) := by decide +kernel
theorem dX12_whyTell_21 : decode cX12_whyTell 21 = .ok (.iconst 1, 1) := by decide +kernel
theorem dX12_whyTell_22 : decode cX12_whyTell 22 = .ok (.goto 44, 3) := by decide +kernel
theorem dX12_whyTell_25 : decode cX12_whyTell 25 = .ok (.aload_n 0, 1) := by decide +kernel
theorem dX12_whyTell_26 : decode cX12_whyTell 26 = .ok (.getfield 33, 3) := by decide +kernel
theorem dX12_whyTell_29 : decode cX12_whyTell 29 = .ok (.bipush 59, 2) := by decide +kernel
theorem dX12_whyTell_31 : decode cX12_whyTell 31 = .ok (.iload_n 1, 1) := by decide +kernel
theorem dX12_whyTell_32 : decode cX12_whyTell 32 = .ok (.iadd, 1) := by decide +kernel
theorem dX12_whyTell_33 : decode cX12_whyTell 33 = .ok (.iaload, 1) := by decide +kernel
theorem dX12_whyTell_34 : decode cX12_whyTell 34 = .ok (.iload_n 3, 1) := by decide +kernel
theorem dX12_whyTell_35 : decode cX12_whyTell 35 = .ok (.invokestatic 275, 3) := by decide +kernel
theorem dX12_whyTell_38 : decode cX12_whyTell 38 = .ok (.ifCond .ne 7, 3) := by decide +kernel
theorem dX12_whyTell_41 : decode cX12_whyTell 41 = .ok (.iconst 2, 1) := by decide +kernel
theorem dX12_whyTell_42 : decode cX12_whyTell 42 = .ok (.goto 24, 3) := by decide +kernel
theorem dX12_whyTell_45 : decode cX12_whyTell 45 = .ok (.aload_n 0, 1) := by decide +kernel
theorem dX12_whyTell_46 : decode cX12_whyTell 46 = .ok (.getfield 33, 3) := by decide +kernel
theorem dX12_whyTell_49 : decode cX12_whyTell 49 = .ok (.bipush 59, 2) := by decide +kernel
theorem dX12_whyTell_51 : decode cX12_whyTell 51 = .ok (.iload_n 2, 1) := by decide +kernel
theorem dX12_whyTell_52 : decode cX12_whyTell 52 = .ok (.iadd, 1) := by decide +kernel
theorem dX12_whyTell_53 : decode cX12_whyTell 53 = .ok (.iaload, 1) := by decide +kernel
theorem dX12_whyTell_54 : decode cX12_whyTell 54 = .ok (.iload_n 3, 1) := by decide +kernel
theorem dX12_whyTell_55 : decode cX12_whyTell 55 = .ok (.invokestatic 275, 3) := by decide +kernel
theorem dX12_whyTell_58 : decode cX12_whyTell 58 = .ok (.ifCond .eq 7, 3) := by decide +kernel
theorem dX12_whyTell_61 : decode cX12_whyTell 61 = .ok (.iconst 3, 1) := by decide +kernel
theorem dX12_whyTell_62 : decode cX12_whyTell 62 = .ok (.goto 4, 3) := by decide +kernel
theorem dX12_whyTell_65 : decode cX12_whyTell 65 = .ok (.iconst 0, 1) := by decide +kernel
theorem dX12_whyTell_66 : decode cX12_whyTell 66 = .ok (.ireturn, 1) := by decide +kernel
theorem dX12_whyStorm_0 : decode cX12_whyStorm 0 = .ok (.iconst 0, 1) := by decide +kernel
theorem dX12_whyStorm_1 : decode cX12_whyStorm 1 = .ok (.istore_n 2, 1) := by decide +kernel
theorem dX12_whyStorm_2 : decode cX12_whyStorm 2 = .ok (.iload_n 2, 1) := by decide +kernel
theorem dX12_whyStorm_3 : decode cX12_whyStorm 3 = .ok (.aload_n 0, 1) := by decide +kernel
theorem dX12_whyStorm_4 : decode cX12_whyStorm 4 = .ok (.getfield 33, 3) := by decide +kernel
theorem dX12_whyStorm_7 : decode cX12_whyStorm 7 = .ok (.iconst 0, 1) := by decide +kernel
theorem dX12_whyStorm_8 : decode cX12_whyStorm 8 = .ok (.iaload, 1) := by decide +kernel
theorem dX12_whyStorm_9 : decode cX12_whyStorm 9 = .ok (.if_icmp .ge 24, 3) := by decide +kernel
theorem dX12_whyStorm_12 : decode cX12_whyStorm 12 = .ok (.aload_n 0, 1) := by decide +kernel
theorem dX12_whyStorm_13 : decode cX12_whyStorm 13 = .ok (.getfield 33, 3) := by decide +kernel
theorem dX12_whyStorm_16 : decode cX12_whyStorm 16 = .ok (.bipush 52, 2) := by decide +kernel
theorem dX12_whyStorm_18 : decode cX12_whyStorm 18 = .ok (.iload_n 2, 1) := by decide +kernel
theorem dX12_whyStorm_19 : decode cX12_whyStorm 19 = .ok (.iadd, 1) := by decide +kernel
theorem dX12_whyStorm_20 : decode cX12_whyStorm 20 = .ok (.iaload, 1) := by decide +kernel
theorem dX12_whyStorm_21 : decode cX12_whyStorm 21 = .ok (.iload_n 1, 1) := by decide +kernel
theorem dX12_whyStorm_22 : decode cX12_whyStorm 22 = .ok (.if_icmp .le 5, 3) := by decide +kernel
theorem dX12_whyStorm_25 : decode cX12_whyStorm 25 = .ok (.iconst 0, 1) := by decide +kernel
theorem dX12_whyStorm_26 : decode cX12_whyStorm 26 = .ok (.ireturn, 1) := by decide +kernel
theorem dX12_whyStorm_27 : decode cX12_whyStorm 27 = .ok (.iinc 2 1, 3) := by decide +kernel
theorem dX12_whyStorm_30 : decode cX12_whyStorm 30 = .ok (.goto (-28), 3) := by decide +kernel
theorem dX12_whyStorm_33 : decode cX12_whyStorm 33 = .ok (.iconst 1, 1) := by decide +kernel
theorem dX12_whyStorm_34 : decode cX12_whyStorm 34 = .ok (.ireturn, 1) := by decide +kernel
theorem dX12_storms_0 : decode cX12_storms 0 = .ok (.iconst 0, 1) := by decide +kernel
theorem dX12_storms_1 : decode cX12_storms 1 = .ok (.istore_n 2, 1) := by decide +kernel
theorem dX12_storms_2 : decode cX12_storms 2 = .ok (.iload_n 2, 1) := by decide +kernel
theorem dX12_storms_3 : decode cX12_storms 3 = .ok (.aload_n 0, 1) := by decide +kernel
theorem dX12_storms_4 : decode cX12_storms 4 = .ok (.getfield 33, 3) := by decide +kernel
theorem dX12_storms_7 : decode cX12_storms 7 = .ok (.iconst 0, 1) := by decide +kernel
theorem dX12_storms_8 : decode cX12_storms 8 = .ok (.iaload, 1) := by decide +kernel
theorem dX12_storms_9 : decode cX12_storms 9 = .ok (.if_icmp .ge 32, 3) := by decide +kernel
theorem dX12_storms_12 : decode cX12_storms 12 = .ok (.aload_n 0, 1) := by decide +kernel
theorem dX12_storms_13 : decode cX12_storms 13 = .ok (.getfield 33, 3) := by decide +kernel
theorem dX12_storms_16 : decode cX12_storms 16 = .ok (.bipush 52, 2) := by decide +kernel
theorem dX12_storms_18 : decode cX12_storms 18 = .ok (.iload_n 2, 1) := by decide +kernel
theorem dX12_storms_19 : decode cX12_storms 19 = .ok (.iadd, 1) := by decide +kernel
theorem dX12_storms_20 : decode cX12_storms 20 = .ok (.iaload, 1) := by decide +kernel
theorem dX12_storms_21 : decode cX12_storms 21 = .ok (.iload_n 1, 1) := by decide +kernel
theorem dX12_storms_22 : decode cX12_storms 22 = .ok (.if_icmp .le 13, 3) := by decide +kernel
theorem dX12_storms_25 : decode cX12_storms 25 = .ok (.aload_n 0, 1) := by decide +kernel
theorem dX12_storms_26 : decode cX12_storms 26 = .ok (.getfield 33, 3) := by decide +kernel
theorem dX12_storms_29 : decode cX12_storms 29 = .ok (.bipush 52, 2) := by decide +kernel
theorem dX12_storms_31 : decode cX12_storms 31 = .ok (.iload_n 2, 1) := by decide +kernel
theorem dX12_storms_32 : decode cX12_storms 32 = .ok (.iadd, 1) := by decide +kernel
theorem dX12_storms_33 : decode cX12_storms 33 = .ok (.iload_n 1, 1) := by decide +kernel
theorem dX12_storms_34 : decode cX12_storms 34 = .ok (.iastore, 1) := by decide +kernel
theorem dX12_storms_35 : decode cX12_storms 35 = .ok (.iinc 2 1, 3) := by decide +kernel
theorem dX12_storms_38 : decode cX12_storms 38 = .ok (.goto (-36), 3) := by decide +kernel
theorem dX12_storms_41 : decode cX12_storms 41 = .ok (.return_, 1) := by decide +kernel
theorem dX12_whyWall_0 : decode cX12_whyWall 0 = .ok (.aload_n 0, 1) := by decide +kernel
theorem dX12_whyWall_1 : decode cX12_whyWall 1 = .ok (.iload_n 1, 1) := by decide +kernel
theorem dX12_whyWall_2 : decode cX12_whyWall 2 = .ok (.invokevirtual 303, 3) := by decide +kernel
theorem dX12_whyWall_5 : decode cX12_whyWall 5 = .ok (.ifCond .eq 7, 3) := by decide +kernel
theorem dX12_whyWall_8 : decode cX12_whyWall 8 = .ok (.iconst 1, 1) := by decide +kernel
theorem dX12_whyWall_9 : decode cX12_whyWall 9 = .ok (.goto 16, 3) := by decide +kernel
theorem dX12_whyWall_12 : decode cX12_whyWall 12 = .ok (.aload_n 0, 1) := by decide +kernel
theorem dX12_whyWall_13 : decode cX12_whyWall 13 = .ok (.iload_n 1, 1) := by decide +kernel
theorem dX12_whyWall_14 : decode cX12_whyWall 14 = .ok (.invokevirtual 306, 3) := by decide +kernel
theorem dX12_whyWall_17 : decode cX12_whyWall 17 = .ok (.ifCond .lt 7, 3) := by decide +kernel
theorem dX12_whyWall_20 : decode cX12_whyWall 20 = .ok (.iconst 2, 1) := by decide +kernel
theorem dX12_whyWall_21 : decode cX12_whyWall 21 = .ok (.goto 4, 3) := by decide +kernel
theorem dX12_whyWall_24 : decode cX12_whyWall 24 = .ok (.iconst 0, 1) := by decide +kernel
theorem dX12_whyWall_25 : decode cX12_whyWall 25 = .ok (.ireturn, 1) := by decide +kernel
theorem dX12_day_0 : decode cX12_day 0 = .ok (.iconst 0, 1) := by decide +kernel
theorem dX12_day_1 : decode cX12_day 1 = .ok (.istore_n 1, 1) := by decide +kernel
theorem dX12_day_2 : decode cX12_day 2 = .ok (.iload_n 1, 1) := by decide +kernel
theorem dX12_day_3 : decode cX12_day 3 = .ok (.aload_n 0, 1) := by decide +kernel
theorem dX12_day_4 : decode cX12_day 4 = .ok (.getfield 33, 3) := by decide +kernel
theorem dX12_day_7 : decode cX12_day 7 = .ok (.iconst 0, 1) := by decide +kernel
theorem dX12_day_8 : decode cX12_day 8 = .ok (.iaload, 1) := by decide +kernel
theorem dX12_day_9 : decode cX12_day 9 = .ok (.if_icmp .ge 42, 3) := by decide +kernel
theorem dX12_day_12 : decode cX12_day 12 = .ok (.aload_n 0, 1) := by decide +kernel
theorem dX12_day_13 : decode cX12_day 13 = .ok (.getfield 33, 3) := by decide +kernel
theorem dX12_day_16 : decode cX12_day 16 = .ok (.bipush 45, 2) := by decide +kernel
theorem dX12_day_18 : decode cX12_day 18 = .ok (.iload_n 1, 1) := by decide +kernel
theorem dX12_day_19 : decode cX12_day 19 = .ok (.iadd, 1) := by decide +kernel
theorem dX12_day_20 : decode cX12_day 20 = .ok (.aload_n 0, 1) := by decide +kernel
theorem dX12_day_21 : decode cX12_day 21 = .ok (.getfield 33, 3) := by decide +kernel
theorem dX12_day_24 : decode cX12_day 24 = .ok (.bipush 45, 2) := by decide +kernel
theorem dX12_day_26 : decode cX12_day 26 = .ok (.iload_n 1, 1) := by decide +kernel
theorem dX12_day_27 : decode cX12_day 27 = .ok (.iadd, 1) := by decide +kernel
theorem dX12_day_28 : decode cX12_day 28 = .ok (.iaload, 1) := by decide +kernel
theorem dX12_day_29 : decode cX12_day 29 = .ok (.aload_n 0, 1) := by decide +kernel
theorem dX12_day_30 : decode cX12_day 30 = .ok (.getfield 33, 3) := by decide +kernel
theorem dX12_day_33 : decode cX12_day 33 = .ok (.bipush 23, 2) := by decide +kernel
theorem dX12_day_35 : decode cX12_day 35 = .ok (.iaload, 1) := by decide +kernel
theorem dX12_day_36 : decode cX12_day 36 = .ok (.iload_n 1, 1) := by decide +kernel
theorem dX12_day_37 : decode cX12_day 37 = .ok (.ishr, 1) := by decide +kernel
theorem dX12_day_38 : decode cX12_day 38 = .ok (.iconst 1, 1) := by decide +kernel
theorem dX12_day_39 : decode cX12_day 39 = .ok (.iand, 1) := by decide +kernel
theorem dX12_day_40 : decode cX12_day 40 = .ok (.iadd, 1) := by decide +kernel
theorem dX12_day_41 : decode cX12_day 41 = .ok (.bipush 7, 2) := by decide +kernel
theorem dX12_day_43 : decode cX12_day 43 = .ok (.iand, 1) := by decide +kernel
theorem dX12_day_44 : decode cX12_day 44 = .ok (.iastore, 1) := by decide +kernel
theorem dX12_day_45 : decode cX12_day 45 = .ok (.iinc 1 1, 3) := by decide +kernel
theorem dX12_day_48 : decode cX12_day 48 = .ok (.goto (-46), 3) := by decide +kernel
theorem dX12_day_51 : decode cX12_day 51 = .ok (.aload_n 0, 1) := by decide +kernel
theorem dX12_day_52 : decode cX12_day 52 = .ok (.getfield 33, 3) := by decide +kernel
theorem dX12_day_55 : decode cX12_day 55 = .ok (.bipush 42, 2) := by decide +kernel
theorem dX12_day_57 : decode cX12_day 57 = .ok (.dup2, 1) := by decide +kernel
theorem dX12_day_58 : decode cX12_day 58 = .ok (.iaload, 1) := by decide +kernel
theorem dX12_day_59 : decode cX12_day 59 = .ok (.iconst 1, 1) := by decide +kernel
theorem dX12_day_60 : decode cX12_day 60 = .ok (.iadd, 1) := by decide +kernel
theorem dX12_day_61 : decode cX12_day 61 = .ok (.iastore, 1) := by decide +kernel
theorem dX12_day_62 : decode cX12_day 62 = .ok (.return_, 1) := by decide +kernel
theorem dX12_goesOn_0 : decode cX12_goesOn 0 = .ok (.iconst 0, 1) := by decide +kernel
theorem dX12_goesOn_1 : decode cX12_goesOn 1 = .ok (.istore_n 2, 1) := by decide +kernel
theorem dX12_goesOn_2 : decode cX12_goesOn 2 = .ok (.iload_n 2, 1) := by decide +kernel
theorem dX12_goesOn_3 : decode cX12_goesOn 3 = .ok (.iload_n 1, 1) := by decide +kernel
theorem dX12_goesOn_4 : decode cX12_goesOn 4 = .ok (.if_icmp .ge 26, 3) := by decide +kernel
theorem dX12_goesOn_7 : decode cX12_goesOn 7 = .ok (.aload_n 0, 1) := by decide +kernel
theorem dX12_goesOn_8 : decode cX12_goesOn 8 = .ok (.getfield 33, 3) := by decide +kernel
theorem dX12_goesOn_11 : decode cX12_goesOn 11 = .ok (.bipush 42, 2) := by decide +kernel
theorem dX12_goesOn_13 : decode cX12_goesOn 13 = .ok (.iaload, 1) := by decide +kernel
theorem dX12_goesOn_14 : decode cX12_goesOn 14 = .ok (.sipush 400, 3) := by decide +kernel
theorem dX12_goesOn_17 : decode cX12_goesOn 17 = .ok (.if_icmp .ge 13, 3) := by decide +kernel
theorem dX12_goesOn_20 : decode cX12_goesOn 20 = .ok (.aload_n 0, 1) := by decide +kernel
theorem dX12_goesOn_21 : decode cX12_goesOn 21 = .ok (.invokevirtual 349, 3) := by decide +kernel
theorem dX12_goesOn_24 : decode cX12_goesOn 24 = .ok (.iinc 2 1, 3) := by decide +kernel
theorem dX12_goesOn_27 : decode cX12_goesOn 27 = .ok (.goto (-25), 3) := by decide +kernel
theorem dX12_goesOn_30 : decode cX12_goesOn 30 = .ok (.iload_n 2, 1) := by decide +kernel
theorem dX12_goesOn_31 : decode cX12_goesOn 31 = .ok (.ireturn, 1) := by decide +kernel
theorem dX12_climb_0 : decode cX12_climb 0 = .ok (.aload_n 0, 1) := by decide +kernel
theorem dX12_climb_1 : decode cX12_climb 1 = .ok (.iconst 0, 1) := by decide +kernel
theorem dX12_climb_2 : decode cX12_climb 2 = .ok (.putfield 1, 3) := by decide +kernel
theorem dX12_climb_5 : decode cX12_climb 5 = .ok (.aload_n 0, 1) := by decide +kernel
theorem dX12_climb_6 : decode cX12_climb 6 = .ok (.iload_n 1, 1) := by decide +kernel
theorem dX12_climb_7 : decode cX12_climb 7 = .ok (.invokevirtual 318, 3) := by decide +kernel
theorem dX12_climb_10 : decode cX12_climb 10 = .ok (.ifCond .eq 11, 3) := by decide +kernel
theorem dX12_climb_13 : decode cX12_climb 13 = .ok (.aload_n 0, 1) := by decide +kernel
theorem dX12_climb_14 : decode cX12_climb 14 = .ok (.iload_n 2, 1) := by decide +kernel
theorem dX12_climb_15 : decode cX12_climb 15 = .ok (.invokevirtual 331, 3) := by decide +kernel
theorem dX12_climb_18 : decode cX12_climb 18 = .ok (.ifCond .ne 5, 3) := by decide +kernel
theorem dX12_climb_21 : decode cX12_climb 21 = .ok (.iconst (-1), 1) := by decide +kernel
theorem dX12_climb_22 : decode cX12_climb 22 = .ok (.ireturn, 1) := by decide +kernel
theorem dX12_climb_23 : decode cX12_climb 23 = .ok (.aload_n 0, 1) := by decide +kernel
theorem dX12_climb_24 : decode cX12_climb 24 = .ok (.iload_n 1, 1) := by decide +kernel
theorem dX12_climb_25 : decode cX12_climb 25 = .ok (.iload_n 2, 1) := by decide +kernel
theorem dX12_climb_26 : decode cX12_climb 26 = .ok (.invokevirtual 352, 3) := by decide +kernel
theorem dX12_climb_29 : decode cX12_climb 29 = .ok (.istore_n 3, 1) := by decide +kernel
theorem dX12_climb_30 : decode cX12_climb 30 = .ok (.iload_n 3, 1) := by decide +kernel
theorem dX12_climb_31 : decode cX12_climb 31 = .ok (.ifCond .le 5, 3) := by decide +kernel
theorem dX12_climb_34 : decode cX12_climb 34 = .ok (.iload_n 3, 1) := by decide +kernel
theorem dX12_climb_35 : decode cX12_climb 35 = .ok (.ireturn, 1) := by decide +kernel
theorem dX12_climb_36 : decode cX12_climb 36 = .ok (.aload_n 0, 1) := by decide +kernel
theorem dX12_climb_37 : decode cX12_climb 37 = .ok (.invokevirtual 355, 3) := by decide +kernel
theorem dX12_climb_40 : decode cX12_climb 40 = .ok (.aload_n 0, 1) := by decide +kernel
theorem dX12_climb_41 : decode cX12_climb 41 = .ok (.iload_n 1, 1) := by decide +kernel
theorem dX12_climb_42 : decode cX12_climb 42 = .ok (.iload_n 2, 1) := by decide +kernel
theorem dX12_climb_43 : decode cX12_climb 43 = .ok (.invokevirtual 358, 3) := by decide +kernel
theorem dX12_climb_46 : decode cX12_climb 46 = .ok (.iconst 0, 1) := by decide +kernel
theorem dX12_climb_47 : decode cX12_climb 47 = .ok (.ireturn, 1) := by decide +kernel
theorem dX12_land_0 : decode cX12_land 0 = .ok (.aload_n 0, 1) := by decide +kernel
theorem dX12_land_1 : decode cX12_land 1 = .ok (.iconst 0, 1) := by decide +kernel
theorem dX12_land_2 : decode cX12_land 2 = .ok (.putfield 1, 3) := by decide +kernel
theorem dX12_land_5 : decode cX12_land 5 = .ok (.aload_n 0, 1) := by decide +kernel
theorem dX12_land_6 : decode cX12_land 6 = .ok (.iload_n 1, 1) := by decide +kernel
theorem dX12_land_7 : decode cX12_land 7 = .ok (.invokevirtual 318, 3) := by decide +kernel
theorem dX12_land_10 : decode cX12_land 10 = .ok (.ifCond .ne 5, 3) := by decide +kernel
theorem dX12_land_13 : decode cX12_land 13 = .ok (.iconst (-1), 1) := by decide +kernel
theorem dX12_land_14 : decode cX12_land 14 = .ok (.ireturn, 1) := by decide +kernel
theorem dX12_land_15 : decode cX12_land 15 = .ok (.aload_n 0, 1) := by decide +kernel
theorem dX12_land_16 : decode cX12_land 16 = .ok (.iload_n 1, 1) := by decide +kernel
theorem dX12_land_17 : decode cX12_land 17 = .ok (.invokevirtual 337, 3) := by decide +kernel
theorem dX12_land_20 : decode cX12_land 20 = .ok (.ifCond .ne 5, 3) := by decide +kernel
theorem dX12_land_23 : decode cX12_land 23 = .ok (.iconst 1, 1) := by decide +kernel
theorem dX12_land_24 : decode cX12_land 24 = .ok (.ireturn, 1) := by decide +kernel
theorem dX12_land_25 : decode cX12_land 25 = .ok (.aload_n 0, 1) := by decide +kernel
theorem dX12_land_26 : decode cX12_land 26 = .ok (.invokevirtual 355, 3) := by decide +kernel
theorem dX12_land_29 : decode cX12_land 29 = .ok (.aload_n 0, 1) := by decide +kernel
theorem dX12_land_30 : decode cX12_land 30 = .ok (.getfield 33, 3) := by decide +kernel
theorem dX12_land_33 : decode cX12_land 33 = .ok (.bipush 65, 2) := by decide +kernel
theorem dX12_land_35 : decode cX12_land 35 = .ok (.iload_n 1, 1) := by decide +kernel
theorem dX12_land_36 : decode cX12_land 36 = .ok (.iadd, 1) := by decide +kernel
theorem dX12_land_37 : decode cX12_land 37 = .ok (.iconst 0, 1) := by decide +kernel
theorem dX12_land_38 : decode cX12_land 38 = .ok (.iastore, 1) := by decide +kernel
theorem dX12_land_39 : decode cX12_land 39 = .ok (.iconst 0, 1) := by decide +kernel
theorem dX12_land_40 : decode cX12_land 40 = .ok (.ireturn, 1) := by decide +kernel
theorem dX12_tell_0 : decode cX12_tell 0 = .ok (.aload_n 0, 1) := by decide +kernel
theorem dX12_tell_1 : decode cX12_tell 1 = .ok (.iconst 0, 1) := by decide +kernel
theorem dX12_tell_2 : decode cX12_tell 2 = .ok (.putfield 1, 3) := by decide +kernel
theorem dX12_tell_5 : decode cX12_tell 5 = .ok (.aload_n 0, 1) := by decide +kernel
theorem dX12_tell_6 : decode cX12_tell 6 = .ok (.iload_n 1, 1) := by decide +kernel
theorem dX12_tell_7 : decode cX12_tell 7 = .ok (.invokevirtual 318, 3) := by decide +kernel
theorem dX12_tell_10 : decode cX12_tell 10 = .ok (.ifCond .eq 19, 3) := by decide +kernel
theorem dX12_tell_13 : decode cX12_tell 13 = .ok (.aload_n 0, 1) := by decide +kernel
theorem dX12_tell_14 : decode cX12_tell 14 = .ok (.iload_n 2, 1) := by decide +kernel
theorem dX12_tell_15 : decode cX12_tell 15 = .ok (.invokevirtual 318, 3) := by decide +kernel
theorem dX12_tell_18 : decode cX12_tell 18 = .ok (.ifCond .eq 11, 3) := by decide +kernel
theorem dX12_tell_21 : decode cX12_tell 21 = .ok (.aload_n 0, 1) := by decide +kernel
theorem dX12_tell_22 : decode cX12_tell 22 = .ok (.iload_n 3, 1) := by decide +kernel
theorem dX12_tell_23 : decode cX12_tell 23 = .ok (.invokevirtual 362, 3) := by decide +kernel
theorem dX12_tell_26 : decode cX12_tell 26 = .ok (.ifCond .ne 5, 3) := by decide +kernel
theorem dX12_tell_29 : decode cX12_tell 29 = .ok (.iconst (-1), 1) := by decide +kernel
theorem dX12_tell_30 : decode cX12_tell 30 = .ok (.ireturn, 1) := by decide +kernel
theorem dX12_tell_31 : decode cX12_tell 31 = .ok (.aload_n 0, 1) := by decide +kernel
theorem dX12_tell_32 : decode cX12_tell 32 = .ok (.iload_n 1, 1) := by decide +kernel
theorem dX12_tell_33 : decode cX12_tell 33 = .ok (.iload_n 2, 1) := by decide +kernel
theorem dX12_tell_34 : decode cX12_tell 34 = .ok (.iload_n 3, 1) := by decide +kernel
theorem dX12_tell_35 : decode cX12_tell 35 = .ok (.invokevirtual 365, 3) := by decide +kernel
theorem dX12_tell_38 : decode cX12_tell 38 = .ok (.istore 4, 2) := by decide +kernel
theorem dX12_tell_40 : decode cX12_tell 40 = .ok (.iload 4, 2) := by decide +kernel
theorem dX12_tell_42 : decode cX12_tell 42 = .ok (.ifCond .le 6, 3) := by decide +kernel
theorem dX12_tell_45 : decode cX12_tell 45 = .ok (.iload 4, 2) := by decide +kernel
theorem dX12_tell_47 : decode cX12_tell 47 = .ok (.ireturn, 1) := by decide +kernel
theorem dX12_tell_48 : decode cX12_tell 48 = .ok (.aload_n 0, 1) := by decide +kernel
theorem dX12_tell_49 : decode cX12_tell 49 = .ok (.invokevirtual 355, 3) := by decide +kernel
theorem dX12_tell_52 : decode cX12_tell 52 = .ok (.aload_n 0, 1) := by decide +kernel
theorem dX12_tell_53 : decode cX12_tell 53 = .ok (.getfield 33, 3) := by decide +kernel
theorem dX12_tell_56 : decode cX12_tell 56 = .ok (.bipush 59, 2) := by decide +kernel
theorem dX12_tell_58 : decode cX12_tell 58 = .ok (.iload_n 2, 1) := by decide +kernel
theorem dX12_tell_59 : decode cX12_tell 59 = .ok (.iadd, 1) := by decide +kernel
theorem dX12_tell_60 : decode cX12_tell 60 = .ok (.aload_n 0, 1) := by decide +kernel
theorem dX12_tell_61 : decode cX12_tell 61 = .ok (.getfield 33, 3) := by decide +kernel
theorem dX12_tell_64 : decode cX12_tell 64 = .ok (.bipush 59, 2) := by decide +kernel
theorem dX12_tell_66 : decode cX12_tell 66 = .ok (.iload_n 2, 1) := by decide +kernel
theorem dX12_tell_67 : decode cX12_tell 67 = .ok (.iadd, 1) := by decide +kernel
theorem dX12_tell_68 : decode cX12_tell 68 = .ok (.iaload, 1) := by decide +kernel
theorem dX12_tell_69 : decode cX12_tell 69 = .ok (.iload_n 3, 1) := by decide +kernel
theorem dX12_tell_70 : decode cX12_tell 70 = .ok (.invokestatic 300, 3) := by decide +kernel
theorem dX12_tell_73 : decode cX12_tell 73 = .ok (.iastore, 1) := by decide +kernel
theorem dX12_tell_74 : decode cX12_tell 74 = .ok (.iconst 0, 1) := by decide +kernel
theorem dX12_tell_75 : decode cX12_tell 75 = .ok (.ireturn, 1) := by decide +kernel
theorem dX12_storm_0 : decode cX12_storm 0 = .ok (.aload_n 0, 1) := by decide +kernel
theorem dX12_storm_1 : decode cX12_storm 1 = .ok (.iconst 0, 1) := by decide +kernel
theorem dX12_storm_2 : decode cX12_storm 2 = .ok (.putfield 1, 3) := by decide +kernel
theorem dX12_storm_5 : decode cX12_storm 5 = .ok (.iload_n 1, 1) := by decide +kernel
theorem dX12_storm_6 : decode cX12_storm 6 = .ok (.iconst 1, 1) := by decide +kernel
theorem dX12_storm_7 : decode cX12_storm 7 = .ok (.bipush 60, 2) := by decide +kernel
theorem dX12_storm_9 : decode cX12_storm 9 = .ok (.invokestatic 225, 3) := by decide +kernel
theorem dX12_storm_12 : decode cX12_storm 12 = .ok (.ifCond .ne 5, 3) := by decide +kernel
theorem dX12_storm_15 : decode cX12_storm 15 = .ok (.iconst (-1), 1) := by decide +kernel
theorem dX12_storm_16 : decode cX12_storm 16 = .ok (.ireturn, 1) := by decide +kernel
theorem dX12_storm_17 : decode cX12_storm 17 = .ok (.aload_n 0, 1) := by decide +kernel
theorem dX12_storm_18 : decode cX12_storm 18 = .ok (.iload_n 1, 1) := by decide +kernel
theorem dX12_storm_19 : decode cX12_storm 19 = .ok (.invokevirtual 369, 3) := by decide +kernel
theorem dX12_storm_22 : decode cX12_storm 22 = .ok (.ifCond .le 5, 3) := by decide +kernel
theorem dX12_storm_25 : decode cX12_storm 25 = .ok (.iconst 1, 1) := by decide +kernel
theorem dX12_storm_26 : decode cX12_storm 26 = .ok (.ireturn, 1) := by decide +kernel
theorem dX12_storm_27 : decode cX12_storm 27 = .ok (.aload_n 0, 1) := by decide +kernel
theorem dX12_storm_28 : decode cX12_storm 28 = .ok (.invokevirtual 355, 3) := by decide +kernel
theorem dX12_storm_31 : decode cX12_storm 31 = .ok (.aload_n 0, 1) := by decide +kernel
theorem dX12_storm_32 : decode cX12_storm 32 = .ok (.iload_n 1, 1) := by decide +kernel
theorem dX12_storm_33 : decode cX12_storm 33 = .ok (.invokevirtual 372, 3) := by decide +kernel
theorem dX12_storm_36 : decode cX12_storm 36 = .ok (.iconst 0, 1) := by decide +kernel
theorem dX12_storm_37 : decode cX12_storm 37 = .ok (.ireturn, 1) := by decide +kernel
theorem dX12_wall_0 : decode cX12_wall 0 = .ok (.aload_n 0, 1) := by decide +kernel
theorem dX12_wall_1 : decode cX12_wall 1 = .ok (.iconst 0, 1) := by decide +kernel
theorem dX12_wall_2 : decode cX12_wall 2 = .ok (.putfield 1, 3) := by decide +kernel
theorem dX12_wall_5 : decode cX12_wall 5 = .ok (.aload_n 0, 1) := by decide +kernel
theorem dX12_wall_6 : decode cX12_wall 6 = .ok (.iload_n 1, 1) := by decide +kernel
theorem dX12_wall_7 : decode cX12_wall 7 = .ok (.invokevirtual 331, 3) := by decide +kernel
theorem dX12_wall_10 : decode cX12_wall 10 = .ok (.ifCond .ne 5, 3) := by decide +kernel
theorem dX12_wall_13 : decode cX12_wall 13 = .ok (.iconst (-1), 1) := by decide +kernel
theorem dX12_wall_14 : decode cX12_wall 14 = .ok (.ireturn, 1) := by decide +kernel
theorem dX12_wall_15 : decode cX12_wall 15 = .ok (.aload_n 0, 1) := by decide +kernel
theorem dX12_wall_16 : decode cX12_wall 16 = .ok (.iload_n 1, 1) := by decide +kernel
theorem dX12_wall_17 : decode cX12_wall 17 = .ok (.invokevirtual 375, 3) := by decide +kernel
theorem dX12_wall_20 : decode cX12_wall 20 = .ok (.istore_n 2, 1) := by decide +kernel
theorem dX12_wall_21 : decode cX12_wall 21 = .ok (.iload_n 2, 1) := by decide +kernel
theorem dX12_wall_22 : decode cX12_wall 22 = .ok (.ifCond .le 5, 3) := by decide +kernel
theorem dX12_wall_25 : decode cX12_wall 25 = .ok (.iload_n 2, 1) := by decide +kernel
theorem dX12_wall_26 : decode cX12_wall 26 = .ok (.ireturn, 1) := by decide +kernel
theorem dX12_wall_27 : decode cX12_wall 27 = .ok (.aload_n 0, 1) := by decide +kernel
theorem dX12_wall_28 : decode cX12_wall 28 = .ok (.invokevirtual 355, 3) := by decide +kernel
theorem dX12_wall_31 : decode cX12_wall 31 = .ok (.aload_n 0, 1) := by decide +kernel
theorem dX12_wall_32 : decode cX12_wall 32 = .ok (.getfield 33, 3) := by decide +kernel
theorem dX12_wall_35 : decode cX12_wall 35 = .ok (.bipush 44, 2) := by decide +kernel
theorem dX12_wall_37 : decode cX12_wall 37 = .ok (.dup2, 1) := by decide +kernel
theorem dX12_wall_38 : decode cX12_wall 38 = .ok (.iaload, 1) := by decide +kernel
theorem dX12_wall_39 : decode cX12_wall 39 = .ok (.iconst 1, 1) := by decide +kernel
theorem dX12_wall_40 : decode cX12_wall 40 = .ok (.iload_n 1, 1) := by decide +kernel
theorem dX12_wall_41 : decode cX12_wall 41 = .ok (.ishl, 1) := by decide +kernel
theorem dX12_wall_42 : decode cX12_wall 42 = .ok (.ior, 1) := by decide +kernel
theorem dX12_wall_43 : decode cX12_wall 43 = .ok (.iastore, 1) := by decide +kernel
theorem dX12_wall_44 : decode cX12_wall 44 = .ok (.iconst 0, 1) := by decide +kernel
theorem dX12_wall_45 : decode cX12_wall 45 = .ok (.ireturn, 1) := by decide +kernel
theorem dX12_unwall_0 : decode cX12_unwall 0 = .ok (.aload_n 0, 1) := by decide +kernel
theorem dX12_unwall_1 : decode cX12_unwall 1 = .ok (.iconst 0, 1) := by decide +kernel
theorem dX12_unwall_2 : decode cX12_unwall 2 = .ok (.putfield 1, 3) := by decide +kernel
theorem dX12_unwall_5 : decode cX12_unwall 5 = .ok (.aload_n 0, 1) := by decide +kernel
theorem dX12_unwall_6 : decode cX12_unwall 6 = .ok (.iload_n 1, 1) := by decide +kernel
theorem dX12_unwall_7 : decode cX12_unwall 7 = .ok (.invokevirtual 331, 3) := by decide +kernel
theorem dX12_unwall_10 : decode cX12_unwall 10 = .ok (.ifCond .ne 5, 3) := by decide +kernel
theorem dX12_unwall_13 : decode cX12_unwall 13 = .ok (.iconst (-1), 1) := by decide +kernel
theorem dX12_unwall_14 : decode cX12_unwall 14 = .ok (.ireturn, 1) := by decide +kernel
theorem dX12_unwall_15 : decode cX12_unwall 15 = .ok (.aload_n 0, 1) := by decide +kernel
theorem dX12_unwall_16 : decode cX12_unwall 16 = .ok (.iload_n 1, 1) := by decide +kernel
theorem dX12_unwall_17 : decode cX12_unwall 17 = .ok (.invokevirtual 303, 3) := by decide +kernel
theorem dX12_unwall_20 : decode cX12_unwall 20 = .ok (.ifCond .ne 5, 3) := by decide +kernel
theorem dX12_unwall_23 : decode cX12_unwall 23 = .ok (.iconst 1, 1) := by decide +kernel
theorem dX12_unwall_24 : decode cX12_unwall 24 = .ok (.ireturn, 1) := by decide +kernel
theorem dX12_unwall_25 : decode cX12_unwall 25 = .ok (.aload_n 0, 1) := by decide +kernel
theorem dX12_unwall_26 : decode cX12_unwall 26 = .ok (.invokevirtual 355, 3) := by decide +kernel
theorem dX12_unwall_29 : decode cX12_unwall 29 = .ok (.aload_n 0, 1) := by decide +kernel
theorem dX12_unwall_30 : decode cX12_unwall 30 = .ok (.getfield 33, 3) := by decide +kernel
theorem dX12_unwall_33 : decode cX12_unwall 33 = .ok (.bipush 44, 2) := by decide +kernel
theorem dX12_unwall_35 : decode cX12_unwall 35 = .ok (.dup2, 1) := by decide +kernel
theorem dX12_unwall_36 : decode cX12_unwall 36 = .ok (.iaload, 1) := by decide +kernel
theorem dX12_unwall_37 : decode cX12_unwall 37 = .ok (.iconst 1, 1) := by decide +kernel
theorem dX12_unwall_38 : decode cX12_unwall 38 = .ok (.iload_n 1, 1) := by decide +kernel
theorem dX12_unwall_39 : decode cX12_unwall 39 = .ok (.ishl, 1) := by decide +kernel
theorem dX12_unwall_40 : decode cX12_unwall 40 = .ok (.ixor, 1) := by decide +kernel
theorem dX12_unwall_41 : decode cX12_unwall 41 = .ok (.iastore, 1) := by decide +kernel
theorem dX12_unwall_42 : decode cX12_unwall 42 = .ok (.iconst 0, 1) := by decide +kernel
theorem dX12_unwall_43 : decode cX12_unwall 43 = .ok (.ireturn, 1) := by decide +kernel
theorem dX12_days_0 : decode cX12_days 0 = .ok (.aload_n 0, 1) := by decide +kernel
theorem dX12_days_1 : decode cX12_days 1 = .ok (.iconst 0, 1) := by decide +kernel
theorem dX12_days_2 : decode cX12_days 2 = .ok (.putfield 1, 3) := by decide +kernel
theorem dX12_days_5 : decode cX12_days 5 = .ok (.iload_n 1, 1) := by decide +kernel
theorem dX12_days_6 : decode cX12_days 6 = .ok (.iconst 1, 1) := by decide +kernel
theorem dX12_days_7 : decode cX12_days 7 = .ok (.bipush 60, 2) := by decide +kernel
theorem dX12_days_9 : decode cX12_days 9 = .ok (.invokestatic 225, 3) := by decide +kernel
theorem dX12_days_12 : decode cX12_days 12 = .ok (.ifCond .ne 5, 3) := by decide +kernel
theorem dX12_days_15 : decode cX12_days 15 = .ok (.iconst (-1), 1) := by decide +kernel
theorem dX12_days_16 : decode cX12_days 16 = .ok (.ireturn, 1) := by decide +kernel
theorem dX12_days_17 : decode cX12_days 17 = .ok (.aload_n 0, 1) := by decide +kernel
theorem dX12_days_18 : decode cX12_days 18 = .ok (.getfield 33, 3) := by decide +kernel
theorem dX12_days_21 : decode cX12_days 21 = .ok (.bipush 42, 2) := by decide +kernel
theorem dX12_days_23 : decode cX12_days 23 = .ok (.iaload, 1) := by decide +kernel
theorem dX12_days_24 : decode cX12_days 24 = .ok (.sipush 400, 3) := by decide +kernel
theorem dX12_days_27 : decode cX12_days 27 = .ok (.if_icmp .ne 5, 3) := by decide +kernel
theorem dX12_days_30 : decode cX12_days 30 = .ok (.iconst 0, 1) := by decide +kernel
theorem dX12_days_31 : decode cX12_days 31 = .ok (.ireturn, 1) := by decide +kernel
theorem dX12_days_32 : decode cX12_days 32 = .ok (.aload_n 0, 1) := by decide +kernel
theorem dX12_days_33 : decode cX12_days 33 = .ok (.invokevirtual 355, 3) := by decide +kernel
theorem dX12_days_36 : decode cX12_days 36 = .ok (.aload_n 0, 1) := by decide +kernel
theorem dX12_days_37 : decode cX12_days 37 = .ok (.iload_n 1, 1) := by decide +kernel
theorem dX12_days_38 : decode cX12_days 38 = .ok (.invokevirtual 378, 3) := by decide +kernel
theorem dX12_days_41 : decode cX12_days 41 = .ok (.ireturn, 1) := by decide +kernel
theorem dX12_keep_0 : decode cX12_keep 0 = .ok (.aload_n 0, 1) := by decide +kernel
theorem dX12_keep_1 : decode cX12_keep 1 = .ok (.getfield 290, 3) := by decide +kernel
theorem dX12_keep_4 : decode cX12_keep 4 = .ok (.bipush 8, 2) := by decide +kernel
theorem dX12_keep_6 : decode cX12_keep 6 = .ok (.if_icmp .ne 39, 3) := by decide +kernel
theorem dX12_keep_9 : decode cX12_keep 9 = .ok (.iconst 0, 1) := by decide +kernel
theorem dX12_keep_10 : decode cX12_keep 10 = .ok (.istore_n 1, 1) := by decide +kernel
theorem dX12_keep_11 : decode cX12_keep 11 = .ok (.iload_n 1, 1) := by decide +kernel
theorem dX12_keep_12 : decode cX12_keep 12 = .ok (.sipush 245, 3) := by decide +kernel
theorem dX12_keep_15 : decode cX12_keep 15 = .ok (.if_icmp .ge 24, 3) := by decide +kernel
theorem dX12_keep_18 : decode cX12_keep 18 = .ok (.aload_n 0, 1) := by decide +kernel
theorem dX12_keep_19 : decode cX12_keep 19 = .ok (.getfield 50, 3) := by decide +kernel
theorem dX12_keep_22 : decode cX12_keep 22 = .ok (.iload_n 1, 1) := by decide +kernel
theorem dX12_keep_23 : decode cX12_keep 23 = .ok (.aload_n 0, 1) := by decide +kernel
theorem dX12_keep_24 : decode cX12_keep 24 = .ok (.getfield 50, 3) := by decide +kernel
theorem dX12_keep_27 : decode cX12_keep 27 = .ok (.iload_n 1, 1) := by decide +kernel
theorem dX12_keep_28 : decode cX12_keep 28 = .ok (.bipush 35, 2) := by decide +kernel
theorem dX12_keep_30 : decode cX12_keep 30 = .ok (.iadd, 1) := by decide +kernel
theorem dX12_keep_31 : decode cX12_keep 31 = .ok (.iaload, 1) := by decide +kernel
theorem dX12_keep_32 : decode cX12_keep 32 = .ok (.iastore, 1) := by decide +kernel
theorem dX12_keep_33 : decode cX12_keep 33 = .ok (.iinc 1 1, 3) := by decide +kernel
theorem dX12_keep_36 : decode cX12_keep 36 = .ok (.goto (-25), 3) := by decide +kernel
theorem dX12_keep_39 : decode cX12_keep 39 = .ok (.aload_n 0, 1) := by decide +kernel
theorem dX12_keep_40 : decode cX12_keep 40 = .ok (.bipush 7, 2) := by decide +kernel
theorem dX12_keep_42 : decode cX12_keep 42 = .ok (.putfield 290, 3) := by decide +kernel
theorem dX12_keep_45 : decode cX12_keep 45 = .ok (.iconst 0, 1) := by decide +kernel
theorem dX12_keep_46 : decode cX12_keep 46 = .ok (.istore_n 1, 1) := by decide +kernel
theorem dX12_keep_47 : decode cX12_keep 47 = .ok (.iload_n 1, 1) := by decide +kernel
theorem dX12_keep_48 : decode cX12_keep 48 = .ok (.bipush 35, 2) := by decide +kernel
theorem dX12_keep_50 : decode cX12_keep 50 = .ok (.if_icmp .ge 32, 3) := by decide +kernel
theorem dX12_keep_53 : decode cX12_keep 53 = .ok (.aload_n 0, 1) := by decide +kernel
theorem dX12_keep_54 : decode cX12_keep 54 = .ok (.getfield 50, 3) := by decide +kernel
theorem dX12_keep_57 : decode cX12_keep 57 = .ok (.bipush 35, 2) := by decide +kernel
theorem dX12_keep_59 : decode cX12_keep 59 = .ok (.aload_n 0, 1) := by decide +kernel
theorem dX12_keep_60 : decode cX12_keep 60 = .ok (.getfield 290, 3) := by decide +kernel
theorem dX12_keep_63 : decode cX12_keep 63 = .ok (.imul, 1) := by decide +kernel
theorem dX12_keep_64 : decode cX12_keep 64 = .ok (.iload_n 1, 1) := by decide +kernel
theorem dX12_keep_65 : decode cX12_keep 65 = .ok (.iadd, 1) := by decide +kernel
theorem dX12_keep_66 : decode cX12_keep 66 = .ok (.aload_n 0, 1) := by decide +kernel
theorem dX12_keep_67 : decode cX12_keep 67 = .ok (.getfield 33, 3) := by decide +kernel
theorem dX12_keep_70 : decode cX12_keep 70 = .ok (.bipush 42, 2) := by decide +kernel
theorem dX12_keep_72 : decode cX12_keep 72 = .ok (.iload_n 1, 1) := by decide +kernel
theorem dX12_keep_73 : decode cX12_keep 73 = .ok (.iadd, 1) := by decide +kernel
theorem dX12_keep_74 : decode cX12_keep 74 = .ok (.iaload, 1) := by decide +kernel
theorem dX12_keep_75 : decode cX12_keep 75 = .ok (.iastore, 1) := by decide +kernel
theorem dX12_keep_76 : decode cX12_keep 76 = .ok (.iinc 1 1, 3) := by decide +kernel
theorem dX12_keep_79 : decode cX12_keep 79 = .ok (.goto (-32), 3) := by decide +kernel
theorem dX12_keep_82 : decode cX12_keep 82 = .ok (.aload_n 0, 1) := by decide +kernel
theorem dX12_keep_83 : decode cX12_keep 83 = .ok (.dup, 1) := by decide +kernel
theorem dX12_keep_84 : decode cX12_keep 84 = .ok (.getfield 290, 3) := by decide +kernel
theorem dX12_keep_87 : decode cX12_keep 87 = .ok (.iconst 1, 1) := by decide +kernel
theorem dX12_keep_88 : decode cX12_keep 88 = .ok (.iadd, 1) := by decide +kernel
theorem dX12_keep_89 : decode cX12_keep 89 = .ok (.putfield 290, 3) := by decide +kernel
theorem dX12_keep_92 : decode cX12_keep 92 = .ok (.return_, 1) := by decide +kernel
theorem dX12_undo_0 : decode cX12_undo 0 = .ok (.aload_n 0, 1) := by decide +kernel
theorem dX12_undo_1 : decode cX12_undo 1 = .ok (.iconst 0, 1) := by decide +kernel
theorem dX12_undo_2 : decode cX12_undo 2 = .ok (.putfield 1, 3) := by decide +kernel
theorem dX12_undo_5 : decode cX12_undo 5 = .ok (.aload_n 0, 1) := by decide +kernel
theorem dX12_undo_6 : decode cX12_undo 6 = .ok (.getfield 290, 3) := by decide +kernel
theorem dX12_undo_9 : decode cX12_undo 9 = .ok (.ifCond .ne 5, 3) := by decide +kernel
theorem dX12_undo_12 : decode cX12_undo 12 = .ok (.iconst (-1), 1) := by decide +kernel
theorem dX12_undo_13 : decode cX12_undo 13 = .ok (.ireturn, 1) := by decide +kernel
theorem dX12_undo_14 : decode cX12_undo 14 = .ok (.aload_n 0, 1) := by decide +kernel
theorem dX12_undo_15 : decode cX12_undo 15 = .ok (.dup, 1) := by decide +kernel
theorem dX12_undo_16 : decode cX12_undo 16 = .ok (.getfield 290, 3) := by decide +kernel
theorem dX12_undo_19 : decode cX12_undo 19 = .ok (.iconst 1, 1) := by decide +kernel
theorem dX12_undo_20 : decode cX12_undo 20 = .ok (.isub, 1) := by decide +kernel
theorem dX12_undo_21 : decode cX12_undo 21 = .ok (.putfield 290, 3) := by decide +kernel
theorem dX12_undo_24 : decode cX12_undo 24 = .ok (.iconst 0, 1) := by decide +kernel
theorem dX12_undo_25 : decode cX12_undo 25 = .ok (.istore_n 1, 1) := by decide +kernel
theorem dX12_undo_26 : decode cX12_undo 26 = .ok (.iload_n 1, 1) := by decide +kernel
theorem dX12_undo_27 : decode cX12_undo 27 = .ok (.bipush 35, 2) := by decide +kernel
theorem dX12_undo_29 : decode cX12_undo 29 = .ok (.if_icmp .ge 32, 3) := by decide +kernel
theorem dX12_undo_32 : decode cX12_undo 32 = .ok (.aload_n 0, 1) := by decide +kernel
theorem dX12_undo_33 : decode cX12_undo 33 = .ok (.getfield 33, 3) := by decide +kernel
theorem dX12_undo_36 : decode cX12_undo 36 = .ok (.bipush 42, 2) := by decide +kernel
theorem dX12_undo_38 : decode cX12_undo 38 = .ok (.iload_n 1, 1) := by decide +kernel
theorem dX12_undo_39 : decode cX12_undo 39 = .ok (.iadd, 1) := by decide +kernel
theorem dX12_undo_40 : decode cX12_undo 40 = .ok (.aload_n 0, 1) := by decide +kernel
theorem dX12_undo_41 : decode cX12_undo 41 = .ok (.getfield 50, 3) := by decide +kernel
theorem dX12_undo_44 : decode cX12_undo 44 = .ok (.bipush 35, 2) := by decide +kernel
theorem dX12_undo_46 : decode cX12_undo 46 = .ok (.aload_n 0, 1) := by decide +kernel
theorem dX12_undo_47 : decode cX12_undo 47 = .ok (.getfield 290, 3) := by decide +kernel
theorem dX12_undo_50 : decode cX12_undo 50 = .ok (.imul, 1) := by decide +kernel
theorem dX12_undo_51 : decode cX12_undo 51 = .ok (.iload_n 1, 1) := by decide +kernel
theorem dX12_undo_52 : decode cX12_undo 52 = .ok (.iadd, 1) := by decide +kernel
theorem dX12_undo_53 : decode cX12_undo 53 = .ok (.iaload, 1) := by decide +kernel
theorem dX12_undo_54 : decode cX12_undo 54 = .ok (.iastore, 1) := by decide +kernel
theorem dX12_undo_55 : decode cX12_undo 55 = .ok (.iinc 1 1, 3) := by decide +kernel
theorem dX12_undo_58 : decode cX12_undo 58 = .ok (.goto (-32), 3) := by decide +kernel
theorem dX12_undo_61 : decode cX12_undo 61 = .ok (.aload_n 0, 1) := by decide +kernel
theorem dX12_undo_62 : decode cX12_undo 62 = .ok (.getfield 290, 3) := by decide +kernel
theorem dX12_undo_65 : decode cX12_undo 65 = .ok (.ireturn, 1) := by decide +kernel
theorem dX12_tries_0 : decode cX12_tries 0 = .ok (.iconst 0, 1) := by decide +kernel
theorem dX12_tries_1 : decode cX12_tries 1 = .ok (.istore_n 1, 1) := by decide +kernel
theorem dX12_tries_2 : decode cX12_tries 2 = .ok (.iload_n 1, 1) := by decide +kernel
theorem dX12_tries_3 : decode cX12_tries 3 = .ok (.bipush 35, 2) := by decide +kernel
theorem dX12_tries_5 : decode cX12_tries 5 = .ok (.if_icmp .ge 24, 3) := by decide +kernel
theorem dX12_tries_8 : decode cX12_tries 8 = .ok (.aload_n 0, 1) := by decide +kernel
theorem dX12_tries_9 : decode cX12_tries 9 = .ok (.getfield 53, 3) := by decide +kernel
theorem dX12_tries_12 : decode cX12_tries 12 = .ok (.iload_n 1, 1) := by decide +kernel
theorem dX12_tries_13 : decode cX12_tries 13 = .ok (.aload_n 0, 1) := by decide +kernel
theorem dX12_tries_14 : decode cX12_tries 14 = .ok (.getfield 33, 3) := by decide +kernel
theorem dX12_tries_17 : decode cX12_tries 17 = .ok (.bipush 42, 2) := by decide +kernel
theorem dX12_tries_19 : decode cX12_tries 19 = .ok (.iload_n 1, 1) := by decide +kernel
theorem dX12_tries_20 : decode cX12_tries 20 = .ok (.iadd, 1) := by decide +kernel
theorem dX12_tries_21 : decode cX12_tries 21 = .ok (.iaload, 1) := by decide +kernel
theorem dX12_tries_22 : decode cX12_tries 22 = .ok (.iastore, 1) := by decide +kernel
theorem dX12_tries_23 : decode cX12_tries 23 = .ok (.iinc 1 1, 3) := by decide +kernel
theorem dX12_tries_26 : decode cX12_tries 26 = .ok (.goto (-24), 3) := by decide +kernel
theorem dX12_tries_29 : decode cX12_tries 29 = .ok (.return_, 1) := by decide +kernel
theorem dX12_back_0 : decode cX12_back 0 = .ok (.iconst 0, 1) := by decide +kernel
theorem dX12_back_1 : decode cX12_back 1 = .ok (.istore_n 1, 1) := by decide +kernel
theorem dX12_back_2 : decode cX12_back 2 = .ok (.iload_n 1, 1) := by decide +kernel
theorem dX12_back_3 : decode cX12_back 3 = .ok (.bipush 35, 2) := by decide +kernel
theorem dX12_back_5 : decode cX12_back 5 = .ok (.if_icmp .ge 24, 3) := by decide +kernel
theorem dX12_back_8 : decode cX12_back 8 = .ok (.aload_n 0, 1) := by decide +kernel
theorem dX12_back_9 : decode cX12_back 9 = .ok (.getfield 33, 3) := by decide +kernel
theorem dX12_back_12 : decode cX12_back 12 = .ok (.bipush 42, 2) := by decide +kernel
theorem dX12_back_14 : decode cX12_back 14 = .ok (.iload_n 1, 1) := by decide +kernel
theorem dX12_back_15 : decode cX12_back 15 = .ok (.iadd, 1) := by decide +kernel
theorem dX12_back_16 : decode cX12_back 16 = .ok (.aload_n 0, 1) := by decide +kernel
theorem dX12_back_17 : decode cX12_back 17 = .ok (.getfield 53, 3) := by decide +kernel
theorem dX12_back_20 : decode cX12_back 20 = .ok (.iload_n 1, 1) := by decide +kernel
theorem dX12_back_21 : decode cX12_back 21 = .ok (.iaload, 1) := by decide +kernel
theorem dX12_back_22 : decode cX12_back 22 = .ok (.iastore, 1) := by decide +kernel
theorem dX12_back_23 : decode cX12_back 23 = .ok (.iinc 1 1, 3) := by decide +kernel
theorem dX12_back_26 : decode cX12_back 26 = .ok (.goto (-24), 3) := by decide +kernel
theorem dX12_back_29 : decode cX12_back 29 = .ok (.return_, 1) := by decide +kernel
theorem dX12_behind_0 : decode cX12_behind 0 = .ok (.aload_n 0, 1) := by decide +kernel
theorem dX12_behind_1 : decode cX12_behind 1 = .ok (.iconst 0, 1) := by decide +kernel
theorem dX12_behind_2 : decode cX12_behind 2 = .ok (.putfield 1, 3) := by decide +kernel
theorem dX12_behind_5 : decode cX12_behind 5 = .ok (.iload_n 1, 1) := by decide +kernel
theorem dX12_behind_6 : decode cX12_behind 6 = .ok (.iconst 0, 1) := by decide +kernel
theorem dX12_behind_7 : decode cX12_behind 7 = .ok (.sipush 255, 3) := by decide +kernel
theorem dX12_behind_10 : decode cX12_behind 10 = .ok (.invokestatic 225, 3) := by decide +kernel
theorem dX12_behind_13 : decode cX12_behind 13 = .ok (.ifCond .eq 20, 3) := by decide +kernel
theorem dX12_behind_16 : decode cX12_behind 16 = .ok (.aload_n 0, 1) := by decide +kernel
theorem dX12_behind_17 : decode cX12_behind 17 = .ok (.iload_n 2, 1) := by decide +kernel
theorem dX12_behind_18 : decode cX12_behind 18 = .ok (.invokevirtual 331, 3) := by decide +kernel
theorem dX12_behind_21 : decode cX12_behind 21 = .ok (.ifCond .eq 12, 3) := by decide +kernel
theorem dX12_behind_24 : decode cX12_behind 24 = .ok (.aload_n 0, 1) := by decide +kernel
theorem dX12_behind_25 : decode cX12_behind 25 = .ok (.iload_n 1, 1) := by decide +kernel
theorem dX12_behind_26 : decode cX12_behind 26 = .ok (.iload_n 2, 1) := by decide +kernel
theorem dX12_behind_27 : decode cX12_behind 27 = .ok (.invokevirtual 346, 3) := by decide +kernel
theorem dX12_behind_30 : decode cX12_behind 30 = .ok (.goto 4, 3) := by decide +kernel
theorem dX12_behind_33 : decode cX12_behind 33 = .ok (.iconst (-1), 1) := by decide +kernel
theorem dX12_behind_34 : decode cX12_behind 34 = .ok (.ireturn, 1) := by decide +kernel
theorem dX12_laysFew_0 : decode cX12_laysFew 0 = .ok (.iconst 0, 1) := by decide +kernel
theorem dX12_laysFew_1 : decode cX12_laysFew 1 = .ok (.istore_n 3, 1) := by decide +kernel
theorem dX12_laysFew_2 : decode cX12_laysFew 2 = .ok (.iload_n 3, 1) := by decide +kernel
theorem dX12_laysFew_3 : decode cX12_laysFew 3 = .ok (.sipush 256, 3) := by decide +kernel
theorem dX12_laysFew_6 : decode cX12_laysFew 6 = .ok (.if_icmp .ge 31, 3) := by decide +kernel
theorem dX12_laysFew_9 : decode cX12_laysFew 9 = .ok (.aload_n 0, 1) := by decide +kernel
theorem dX12_laysFew_10 : decode cX12_laysFew 10 = .ok (.getfield 56, 3) := by decide +kernel
theorem dX12_laysFew_13 : decode cX12_laysFew 13 = .ok (.iload_n 3, 1) := by decide +kernel
theorem dX12_laysFew_14 : decode cX12_laysFew 14 = .ok (.aload_n 0, 1) := by decide +kernel
theorem dX12_laysFew_15 : decode cX12_laysFew 15 = .ok (.iload_n 1, 1) := by decide +kernel
theorem dX12_laysFew_16 : decode cX12_laysFew 16 = .ok (.iload_n 3, 1) := by decide +kernel
theorem dX12_laysFew_17 : decode cX12_laysFew 17 = .ok (.invokevirtual 315, 3) := by decide +kernel
theorem dX12_laysFew_20 : decode cX12_laysFew 20 = .ok (.ifCond .eq 7, 3) := by decide +kernel
theorem dX12_laysFew_23 : decode cX12_laysFew 23 = .ok (.iconst 0, 1) := by decide +kernel
theorem dX12_laysFew_24 : decode cX12_laysFew 24 = .ok (.goto 6, 3) := by decide +kernel
theorem dX12_laysFew_27 : decode cX12_laysFew 27 = .ok (.ldc_w 381, 3) := by decide +kernel
theorem dX12_laysFew_30 : decode cX12_laysFew 30 = .ok (.iastore, 1) := by decide +kernel
theorem dX12_laysFew_31 : decode cX12_laysFew 31 = .ok (.iinc 3 1, 3) := by decide +kernel
theorem dX12_laysFew_34 : decode cX12_laysFew 34 = .ok (.goto (-32), 3) := by decide +kernel
theorem dX12_laysFew_37 : decode cX12_laysFew 37 = .ok (.iconst 1, 1) := by decide +kernel
theorem dX12_laysFew_38 : decode cX12_laysFew 38 = .ok (.istore_n 3, 1) := by decide +kernel
theorem dX12_laysFew_39 : decode cX12_laysFew 39 = .ok (.iload_n 3, 1) := by decide +kernel
theorem dX12_laysFew_40 : decode cX12_laysFew 40 = .ok (.ifCond .eq 106, 3) := by decide +kernel
theorem dX12_laysFew_43 : decode cX12_laysFew 43 = .ok (.iconst 0, 1) := by decide +kernel
theorem dX12_laysFew_44 : decode cX12_laysFew 44 = .ok (.istore_n 3, 1) := by decide +kernel
theorem dX12_laysFew_45 : decode cX12_laysFew 45 = .ok (.iconst 0, 1) := by decide +kernel
theorem dX12_laysFew_46 : decode cX12_laysFew 46 = .ok (.istore 4, 2) := by decide +kernel
theorem dX12_laysFew_48 : decode cX12_laysFew 48 = .ok (.iload 4, 2) := by decide +kernel
theorem dX12_laysFew_50 : decode cX12_laysFew 50 = .ok (.sipush 256, 3) := by decide +kernel
theorem dX12_laysFew_53 : decode cX12_laysFew 53 = .ok (.if_icmp .ge 90, 3) := by decide +kernel
theorem dX12_laysFew_56 : decode cX12_laysFew 56 = .ok (.iconst 0, 1) := by decide +kernel
theorem dX12_laysFew_57 : decode cX12_laysFew 57 = .ok (.istore 5, 2) := by decide +kernel
theorem dX12_laysFew_59 : decode cX12_laysFew 59 = .ok (.iload 5, 2) := by decide +kernel
theorem dX12_laysFew_61 : decode cX12_laysFew 61 = .ok (.aload_n 0, 1) := by decide +kernel
theorem dX12_laysFew_62 : decode cX12_laysFew 62 = .ok (.getfield 33, 3) := by decide +kernel
theorem dX12_laysFew_65 : decode cX12_laysFew 65 = .ok (.iconst 0, 1) := by decide +kernel
theorem dX12_laysFew_66 : decode cX12_laysFew 66 = .ok (.iaload, 1) := by decide +kernel
theorem dX12_laysFew_67 : decode cX12_laysFew 67 = .ok (.if_icmp .ge 70, 3) := by decide +kernel
theorem dX12_laysFew_70 : decode cX12_laysFew 70 = .ok (.iload_n 2, 1) := by decide +kernel
theorem dX12_laysFew_71 : decode cX12_laysFew 71 = .ok (.iload 5, 2) := by decide +kernel
theorem dX12_laysFew_73 : decode cX12_laysFew 73 = .ok (.invokestatic 275, 3) := by decide +kernel
theorem dX12_laysFew_76 : decode cX12_laysFew 76 = .ok (.ifCond .eq 55, 3) := by decide +kernel
theorem dX12_laysFew_79 : decode cX12_laysFew 79 = .ok (.aload_n 0, 1) := by decide +kernel
theorem dX12_laysFew_80 : decode cX12_laysFew 80 = .ok (.getfield 56, 3) := by decide +kernel
theorem dX12_laysFew_83 : decode cX12_laysFew 83 = .ok (.aload_n 0, 1) := by decide +kernel
theorem dX12_laysFew_84 : decode cX12_laysFew 84 = .ok (.iload 4, 2) := by decide +kernel
theorem dX12_laysFew_86 : decode cX12_laysFew 86 = .ok (.iload 5, 2) := by decide +kernel
theorem dX12_laysFew_88 : decode cX12_laysFew 88 = .ok (.invokevirtual 346, 3) := by decide +kernel
theorem dX12_laysFew_91 : decode cX12_laysFew 91 = .ok (.iaload, 1) := by decide +kernel
theorem dX12_laysFew_92 : decode cX12_laysFew 92 = .ok (.iconst 1, 1) := by decide +kernel
theorem dX12_laysFew_93 : decode cX12_laysFew 93 = .ok (.iadd, 1) := by decide +kernel
theorem dX12_laysFew_94 : decode cX12_laysFew 94 = .ok (.aload_n 0, 1) := by decide +kernel
theorem dX12_laysFew_95 : decode cX12_laysFew 95 = .ok (.getfield 56, 3) := by decide +kernel
theorem dX12_laysFew_98 : decode cX12_laysFew 98 = .ok (.iload 4, 2) := by decide +kernel
theorem dX12_laysFew_100 : decode cX12_laysFew 100 = .ok (.iaload, 1) := by decide +kernel
theorem dX12_laysFew_101 : decode cX12_laysFew 101 = .ok (.if_icmp .lt 6, 3) := by decide +kernel
theorem dX12_laysFew_104 : decode cX12_laysFew 104 = .ok (.goto 27, 3) := by decide +kernel
theorem dX12_laysFew_107 : decode cX12_laysFew 107 = .ok (.aload_n 0, 1) := by decide +kernel
theorem dX12_laysFew_108 : decode cX12_laysFew 108 = .ok (.getfield 56, 3) := by decide +kernel
theorem dX12_laysFew_111 : decode cX12_laysFew 111 = .ok (.iload 4, 2) := by decide +kernel
theorem dX12_laysFew_113 : decode cX12_laysFew 113 = .ok (.aload_n 0, 1) := by decide +kernel
theorem dX12_laysFew_114 : decode cX12_laysFew 114 = .ok (.getfield 56, 3) := by decide +kernel
theorem dX12_laysFew_117 : decode cX12_laysFew 117 = .ok (.aload_n 0, 1) := by decide +kernel
theorem dX12_laysFew_118 : decode cX12_laysFew 118 = .ok (.iload 4, 2) := by decide +kernel
theorem dX12_laysFew_120 : decode cX12_laysFew 120 = .ok (.iload 5, 2) := by decide +kernel
theorem dX12_laysFew_122 : decode cX12_laysFew 122 = .ok (.invokevirtual 346, 3) := by decide +kernel
theorem dX12_laysFew_125 : decode cX12_laysFew 125 = .ok (.iaload, 1) := by decide +kernel
theorem dX12_laysFew_126 : decode cX12_laysFew 126 = .ok (.iconst 1, 1) := by decide +kernel
theorem dX12_laysFew_127 : decode cX12_laysFew 127 = .ok (.iadd, 1) := by decide +kernel
theorem dX12_laysFew_128 : decode cX12_laysFew 128 = .ok (.iastore, 1) := by decide +kernel
theorem dX12_laysFew_129 : decode cX12_laysFew 129 = .ok (.iconst 1, 1) := by decide +kernel
theorem dX12_laysFew_130 : decode cX12_laysFew 130 = .ok (.istore_n 3, 1) := by decide +kernel
theorem dX12_laysFew_131 : decode cX12_laysFew 131 = .ok (.iinc 5 1, 3) := by decide +kernel
theorem dX12_laysFew_134 : decode cX12_laysFew 134 = .ok (.goto (-75), 3) := by decide +kernel
theorem dX12_laysFew_137 : decode cX12_laysFew 137 = .ok (.iinc 4 1, 3) := by decide +kernel
theorem dX12_laysFew_140 : decode cX12_laysFew 140 = .ok (.goto (-92), 3) := by decide +kernel
theorem dX12_laysFew_143 : decode cX12_laysFew 143 = .ok (.goto (-104), 3) := by decide +kernel
theorem dX12_laysFew_146 : decode cX12_laysFew 146 = .ok (.return_, 1) := by decide +kernel
theorem dX12_soonest_0 : decode cX12_soonest 0 = .ok (.aload_n 0, 1) := by decide +kernel
theorem dX12_soonest_1 : decode cX12_soonest 1 = .ok (.iconst 0, 1) := by decide +kernel
theorem dX12_soonest_2 : decode cX12_soonest 2 = .ok (.putfield 1, 3) := by decide +kernel
theorem dX12_soonest_5 : decode cX12_soonest 5 = .ok (.aload_n 0, 1) := by decide +kernel
theorem dX12_soonest_6 : decode cX12_soonest 6 = .ok (.iload_n 1, 1) := by decide +kernel
theorem dX12_soonest_7 : decode cX12_soonest 7 = .ok (.invokevirtual 318, 3) := by decide +kernel
theorem dX12_soonest_10 : decode cX12_soonest 10 = .ok (.ifCond .ne 5, 3) := by decide +kernel
theorem dX12_soonest_13 : decode cX12_soonest 13 = .ok (.iconst (-1), 1) := by decide +kernel
theorem dX12_soonest_14 : decode cX12_soonest 14 = .ok (.ireturn, 1) := by decide +kernel
theorem dX12_soonest_15 : decode cX12_soonest 15 = .ok (.aload_n 0, 1) := by decide +kernel
theorem dX12_soonest_16 : decode cX12_soonest 16 = .ok (.iload_n 1, 1) := by decide +kernel
theorem dX12_soonest_17 : decode cX12_soonest 17 = .ok (.invokevirtual 325, 3) := by decide +kernel
theorem dX12_soonest_20 : decode cX12_soonest 20 = .ok (.istore_n 2, 1) := by decide +kernel
theorem dX12_soonest_21 : decode cX12_soonest 21 = .ok (.aload_n 0, 1) := by decide +kernel
theorem dX12_soonest_22 : decode cX12_soonest 22 = .ok (.iload_n 1, 1) := by decide +kernel
theorem dX12_soonest_23 : decode cX12_soonest 23 = .ok (.iload_n 2, 1) := by decide +kernel
theorem dX12_soonest_24 : decode cX12_soonest 24 = .ok (.invokevirtual 382, 3) := by decide +kernel
theorem dX12_soonest_27 : decode cX12_soonest 27 = .ok (.aload_n 0, 1) := by decide +kernel
theorem dX12_soonest_28 : decode cX12_soonest 28 = .ok (.getfield 33, 3) := by decide +kernel
theorem dX12_soonest_31 : decode cX12_soonest 31 = .ok (.bipush 59, 2) := by decide +kernel
theorem dX12_soonest_33 : decode cX12_soonest 33 = .ok (.iload_n 1, 1) := by decide +kernel
theorem dX12_soonest_34 : decode cX12_soonest 34 = .ok (.iadd, 1) := by decide +kernel
theorem dX12_soonest_35 : decode cX12_soonest 35 = .ok (.iaload, 1) := by decide +kernel
theorem dX12_soonest_36 : decode cX12_soonest 36 = .ok (.istore_n 3, 1) := by decide +kernel
theorem dX12_soonest_37 : decode cX12_soonest 37 = .ok (.aload_n 0, 1) := by decide +kernel
theorem dX12_soonest_38 : decode cX12_soonest 38 = .ok (.getfield 56, 3) := by decide +kernel
theorem dX12_soonest_41 : decode cX12_soonest 41 = .ok (.iload_n 3, 1) := by decide +kernel
theorem dX12_soonest_42 : decode cX12_soonest 42 = .ok (.iaload, 1) := by decide +kernel
theorem dX12_soonest_43 : decode cX12_soonest 43 = .ok (.istore 4, 2) := by decide +kernel
theorem dX12_soonest_45 : decode cX12_soonest 45 = .ok (.iload 4, 2) := by decide +kernel
theorem dX12_soonest_47 : decode cX12_soonest 47 = .ok (.ldc_w 381, 3) := by decide +kernel
theorem dX12_soonest_50 : decode cX12_soonest 50 = .ok (.if_icmp .lt 5, 3) := by decide +kernel
theorem dX12_soonest_53 : decode cX12_soonest 53 = .ok (.iconst (-1), 1) := by decide +kernel
theorem dX12_soonest_54 : decode cX12_soonest 54 = .ok (.ireturn, 1) := by decide +kernel
theorem dX12_soonest_55 : decode cX12_soonest 55 = .ok (.iconst 0, 1) := by decide +kernel
theorem dX12_soonest_56 : decode cX12_soonest 56 = .ok (.istore 5, 2) := by decide +kernel
theorem dX12_soonest_58 : decode cX12_soonest 58 = .ok (.iload 5, 2) := by decide +kernel
theorem dX12_soonest_60 : decode cX12_soonest 60 = .ok (.iload 4, 2) := by decide +kernel
theorem dX12_soonest_62 : decode cX12_soonest 62 = .ok (.if_icmp .ge 66, 3) := by decide +kernel
theorem dX12_soonest_65 : decode cX12_soonest 65 = .ok (.iconst 0, 1) := by decide +kernel
theorem dX12_soonest_66 : decode cX12_soonest 66 = .ok (.istore 6, 2) := by decide +kernel
theorem dX12_soonest_68 : decode cX12_soonest 68 = .ok (.iload_n 2, 1) := by decide +kernel
theorem dX12_soonest_69 : decode cX12_soonest 69 = .ok (.iload 6, 2) := by decide +kernel
theorem dX12_soonest_71 : decode cX12_soonest 71 = .ok (.invokestatic 275, 3) := by decide +kernel
theorem dX12_soonest_74 : decode cX12_soonest 74 = .ok (.ifCond .eq 25, 3) := by decide +kernel
theorem dX12_soonest_77 : decode cX12_soonest 77 = .ok (.aload_n 0, 1) := by decide +kernel
theorem dX12_soonest_78 : decode cX12_soonest 78 = .ok (.getfield 56, 3) := by decide +kernel
theorem dX12_soonest_81 : decode cX12_soonest 81 = .ok (.aload_n 0, 1) := by decide +kernel
theorem dX12_soonest_82 : decode cX12_soonest 82 = .ok (.iload_n 3, 1) := by decide +kernel
theorem dX12_soonest_83 : decode cX12_soonest 83 = .ok (.iload 6, 2) := by decide +kernel
theorem dX12_soonest_85 : decode cX12_soonest 85 = .ok (.invokevirtual 346, 3) := by decide +kernel
theorem dX12_soonest_88 : decode cX12_soonest 88 = .ok (.iaload, 1) := by decide +kernel
theorem dX12_soonest_89 : decode cX12_soonest 89 = .ok (.iload 4, 2) := by decide +kernel
theorem dX12_soonest_91 : decode cX12_soonest 91 = .ok (.iconst 1, 1) := by decide +kernel
theorem dX12_soonest_92 : decode cX12_soonest 92 = .ok (.isub, 1) := by decide +kernel
theorem dX12_soonest_93 : decode cX12_soonest 93 = .ok (.iload 5, 2) := by decide +kernel
theorem dX12_soonest_95 : decode cX12_soonest 95 = .ok (.isub, 1) := by decide +kernel
theorem dX12_soonest_96 : decode cX12_soonest 96 = .ok (.if_icmp .eq 9, 3) := by decide +kernel
theorem dX12_soonest_99 : decode cX12_soonest 99 = .ok (.iinc 6 1, 3) := by decide +kernel
theorem dX12_soonest_102 : decode cX12_soonest 102 = .ok (.goto (-34), 3) := by decide +kernel
theorem dX12_soonest_105 : decode cX12_soonest 105 = .ok (.aload_n 0, 1) := by decide +kernel
theorem dX12_soonest_106 : decode cX12_soonest 106 = .ok (.getfield 59, 3) := by decide +kernel
theorem dX12_soonest_109 : decode cX12_soonest 109 = .ok (.iload 5, 2) := by decide +kernel
theorem dX12_soonest_111 : decode cX12_soonest 111 = .ok (.iload 6, 2) := by decide +kernel
theorem dX12_soonest_113 : decode cX12_soonest 113 = .ok (.iastore, 1) := by decide +kernel
theorem dX12_soonest_114 : decode cX12_soonest 114 = .ok (.aload_n 0, 1) := by decide +kernel
theorem dX12_soonest_115 : decode cX12_soonest 115 = .ok (.iload_n 3, 1) := by decide +kernel
theorem dX12_soonest_116 : decode cX12_soonest 116 = .ok (.iload 6, 2) := by decide +kernel
theorem dX12_soonest_118 : decode cX12_soonest 118 = .ok (.invokevirtual 346, 3) := by decide +kernel
theorem dX12_soonest_121 : decode cX12_soonest 121 = .ok (.istore_n 3, 1) := by decide +kernel
theorem dX12_soonest_122 : decode cX12_soonest 122 = .ok (.iinc 5 1, 3) := by decide +kernel
theorem dX12_soonest_125 : decode cX12_soonest 125 = .ok (.goto (-67), 3) := by decide +kernel
theorem dX12_soonest_128 : decode cX12_soonest 128 = .ok (.aload_n 0, 1) := by decide +kernel
theorem dX12_soonest_129 : decode cX12_soonest 129 = .ok (.iload 4, 2) := by decide +kernel
theorem dX12_soonest_131 : decode cX12_soonest 131 = .ok (.putfield 62, 3) := by decide +kernel
theorem dX12_soonest_134 : decode cX12_soonest 134 = .ok (.iload 4, 2) := by decide +kernel
theorem dX12_soonest_136 : decode cX12_soonest 136 = .ok (.ireturn, 1) := by decide +kernel
theorem dX12_soonestAt_0 : decode cX12_soonestAt 0 = .ok (.aload_n 0, 1) := by decide +kernel
theorem dX12_soonestAt_1 : decode cX12_soonestAt 1 = .ok (.iconst 0, 1) := by decide +kernel
theorem dX12_soonestAt_2 : decode cX12_soonestAt 2 = .ok (.putfield 1, 3) := by decide +kernel
theorem dX12_soonestAt_5 : decode cX12_soonestAt 5 = .ok (.iload_n 1, 1) := by decide +kernel
theorem dX12_soonestAt_6 : decode cX12_soonestAt 6 = .ok (.iconst 0, 1) := by decide +kernel
theorem dX12_soonestAt_7 : decode cX12_soonestAt 7 = .ok (.aload_n 0, 1) := by decide +kernel
theorem dX12_soonestAt_8 : decode cX12_soonestAt 8 = .ok (.getfield 62, 3) := by decide +kernel
theorem dX12_soonestAt_11 : decode cX12_soonestAt 11 = .ok (.iconst 1, 1) := by decide +kernel
theorem dX12_soonestAt_12 : decode cX12_soonestAt 12 = .ok (.isub, 1) := by decide +kernel
theorem dX12_soonestAt_13 : decode cX12_soonestAt 13 = .ok (.invokestatic 225, 3) := by decide +kernel
theorem dX12_soonestAt_16 : decode cX12_soonestAt 16 = .ok (.ifCond .eq 12, 3) := by decide +kernel
theorem dX12_soonestAt_19 : decode cX12_soonestAt 19 = .ok (.aload_n 0, 1) := by decide +kernel
theorem dX12_soonestAt_20 : decode cX12_soonestAt 20 = .ok (.getfield 59, 3) := by decide +kernel
theorem dX12_soonestAt_23 : decode cX12_soonestAt 23 = .ok (.iload_n 1, 1) := by decide +kernel
theorem dX12_soonestAt_24 : decode cX12_soonestAt 24 = .ok (.iaload, 1) := by decide +kernel
theorem dX12_soonestAt_25 : decode cX12_soonestAt 25 = .ok (.goto 4, 3) := by decide +kernel
theorem dX12_soonestAt_28 : decode cX12_soonestAt 28 = .ok (.iconst (-1), 1) := by decide +kernel
theorem dX12_soonestAt_29 : decode cX12_soonestAt 29 = .ok (.ireturn, 1) := by decide +kernel
theorem dX12_made_0 : decode cX12_made 0 = .ok (.aload_n 0, 1) := by decide +kernel
theorem dX12_made_1 : decode cX12_made 1 = .ok (.iconst 0, 1) := by decide +kernel
theorem dX12_made_2 : decode cX12_made 2 = .ok (.putfield 1, 3) := by decide +kernel
theorem dX12_made_5 : decode cX12_made 5 = .ok (.aload_n 0, 1) := by decide +kernel
theorem dX12_made_6 : decode cX12_made 6 = .ok (.sipush 940, 3) := by decide +kernel
theorem dX12_made_9 : decode cX12_made 9 = .ok (.invokevirtual 278, 3) := by decide +kernel
theorem dX12_made_12 : decode cX12_made 12 = .ok (.aload_n 0, 1) := by decide +kernel
theorem dX12_made_13 : decode cX12_made 13 = .ok (.getfield 18, 3) := by decide +kernel
theorem dX12_made_16 : decode cX12_made 16 = .ok (.iconst 2, 1) := by decide +kernel
theorem dX12_made_17 : decode cX12_made 17 = .ok (.if_icmp .eq 5, 3) := by decide +kernel
theorem dX12_made_20 : decode cX12_made 20 = .ok (.iconst (-1), 1) := by decide +kernel
theorem dX12_made_21 : decode cX12_made 21 = .ok (.ireturn, 1) := by decide +kernel
theorem dX12_made_22 : decode cX12_made 22 = .ok (.iconst 0, 1) := by decide +kernel
theorem dX12_made_23 : decode cX12_made 23 = .ok (.istore_n 1, 1) := by decide +kernel
theorem dX12_made_24 : decode cX12_made 24 = .ok (.aload_n 0, 1) := by decide +kernel
theorem dX12_made_25 : decode cX12_made 25 = .ok (.getfield 33, 3) := by decide +kernel
theorem dX12_made_28 : decode cX12_made 28 = .ok (.iconst 0, 1) := by decide +kernel
theorem dX12_made_29 : decode cX12_made 29 = .ok (.iaload, 1) := by decide +kernel
theorem dX12_made_30 : decode cX12_made 30 = .ok (.istore_n 2, 1) := by decide +kernel
theorem dX12_made_31 : decode cX12_made 31 = .ok (.iconst 1, 1) := by decide +kernel
theorem dX12_made_32 : decode cX12_made 32 = .ok (.istore_n 3, 1) := by decide +kernel
theorem dX12_made_33 : decode cX12_made 33 = .ok (.iconst 1, 1) := by decide +kernel
theorem dX12_made_34 : decode cX12_made 34 = .ok (.istore 4, 2) := by decide +kernel
theorem dX12_made_36 : decode cX12_made 36 = .ok (.iload 4, 2) := by decide +kernel
theorem dX12_made_38 : decode cX12_made 38 = .ok (.iconst 4, 1) := by decide +kernel
theorem dX12_made_39 : decode cX12_made 39 = .ok (.if_icmp .ge 104, 3) := by decide +kernel
theorem dX12_made_42 : decode cX12_made 42 = .ok (.iload_n 3, 1) := by decide +kernel
theorem dX12_made_43 : decode cX12_made 43 = .ok (.iload_n 2, 1) := by decide +kernel
theorem dX12_made_44 : decode cX12_made 44 = .ok (.imul, 1) := by decide +kernel
theorem dX12_made_45 : decode cX12_made 45 = .ok (.istore_n 3, 1) := by decide +kernel
theorem dX12_made_46 : decode cX12_made 46 = .ok (.iconst 0, 1) := by decide +kernel
theorem dX12_made_47 : decode cX12_made 47 = .ok (.istore 5, 2) := by decide +kernel
theorem dX12_made_49 : decode cX12_made 49 = .ok (.iload 5, 2) := by decide +kernel
theorem dX12_made_51 : decode cX12_made 51 = .ok (.iload_n 3, 1) := by decide +kernel
theorem dX12_made_52 : decode cX12_made 52 = .ok (.if_icmp .ge 85, 3) := by decide +kernel
theorem dX12_made_55 : decode cX12_made 55 = .ok (.aload_n 0, 1) := by decide +kernel
theorem dX12_made_56 : decode cX12_made 56 = .ok (.iconst 0, 1) := by decide +kernel
theorem dX12_made_57 : decode cX12_made 57 = .ok (.invokevirtual 385, 3) := by decide +kernel
theorem dX12_made_60 : decode cX12_made 60 = .ok (.istore 6, 2) := by decide +kernel
theorem dX12_made_62 : decode cX12_made 62 = .ok (.iload_n 3, 1) := by decide +kernel
theorem dX12_made_63 : decode cX12_made 63 = .ok (.istore 7, 2) := by decide +kernel
theorem dX12_made_65 : decode cX12_made 65 = .ok (.iconst 0, 1) := by decide +kernel
theorem dX12_made_66 : decode cX12_made 66 = .ok (.istore 8, 2) := by decide +kernel
theorem dX12_made_68 : decode cX12_made 68 = .ok (.iload 8, 2) := by decide +kernel
theorem dX12_made_70 : decode cX12_made 70 = .ok (.iload 4, 2) := by decide +kernel
theorem dX12_made_72 : decode cX12_made 72 = .ok (.if_icmp .ge 30, 3) := by decide +kernel
theorem dX12_made_75 : decode cX12_made 75 = .ok (.iload 7, 2) := by decide +kernel
theorem dX12_made_77 : decode cX12_made 77 = .ok (.iload_n 2, 1) := by decide +kernel
theorem dX12_made_78 : decode cX12_made 78 = .ok (.idiv, 1) := by decide +kernel
theorem dX12_made_79 : decode cX12_made 79 = .ok (.istore 7, 2) := by decide +kernel
theorem dX12_made_81 : decode cX12_made 81 = .ok (.aload_n 0, 1) := by decide +kernel
theorem dX12_made_82 : decode cX12_made 82 = .ok (.iload 6, 2) := by decide +kernel
theorem dX12_made_84 : decode cX12_made 84 = .ok (.iload 5, 2) := by decide +kernel
theorem dX12_made_86 : decode cX12_made 86 = .ok (.iload 7, 2) := by decide +kernel
theorem dX12_made_88 : decode cX12_made 88 = .ok (.idiv, 1) := by decide +kernel
theorem dX12_made_89 : decode cX12_made 89 = .ok (.iload_n 2, 1) := by decide +kernel
theorem dX12_made_90 : decode cX12_made 90 = .ok (.irem, 1) := by decide +kernel
theorem dX12_made_91 : decode cX12_made 91 = .ok (.invokevirtual 346, 3) := by decide +kernel
theorem dX12_made_94 : decode cX12_made 94 = .ok (.istore 6, 2) := by decide +kernel
theorem dX12_made_96 : decode cX12_made 96 = .ok (.iinc 8 1, 3) := by decide +kernel
theorem dX12_made_99 : decode cX12_made 99 = .ok (.goto (-31), 3) := by decide +kernel
theorem dX12_made_102 : decode cX12_made 102 = .ok (.iload 6, 2) := by decide +kernel
theorem dX12_made_104 : decode cX12_made 104 = .ok (.aload_n 0, 1) := by decide +kernel
theorem dX12_made_105 : decode cX12_made 105 = .ok (.iconst 1, 1) := by decide +kernel
theorem dX12_made_106 : decode cX12_made 106 = .ok (.invokevirtual 385, 3) := by decide +kernel
theorem dX12_made_109 : decode cX12_made 109 = .ok (.if_icmp .eq 6, 3) := by decide +kernel
theorem dX12_made_112 : decode cX12_made 112 = .ok (.goto 19, 3) := by decide +kernel
theorem dX12_made_115 : decode cX12_made 115 = .ok (.iload_n 1, 1) := by decide +kernel
theorem dX12_made_116 : decode cX12_made 116 = .ok (.ifCond .ne 12, 3) := by decide +kernel
theorem dX12_made_119 : decode cX12_made 119 = .ok (.aload_n 0, 1) := by decide +kernel
theorem dX12_made_120 : decode cX12_made 120 = .ok (.iload 5, 2) := by decide +kernel
theorem dX12_made_122 : decode cX12_made 122 = .ok (.iload 4, 2) := by decide +kernel
theorem dX12_made_124 : decode cX12_made 124 = .ok (.iload_n 2, 1) := by decide +kernel
theorem dX12_made_125 : decode cX12_made 125 = .ok (.invokevirtual 388, 3) := by decide +kernel
theorem dX12_made_128 : decode cX12_made 128 = .ok (.iinc 1 1, 3) := by decide +kernel
theorem dX12_made_131 : decode cX12_made 131 = .ok (.iinc 5 1, 3) := by decide +kernel
theorem dX12_made_134 : decode cX12_made 134 = .ok (.goto (-85), 3) := by decide +kernel
theorem dX12_made_137 : decode cX12_made 137 = .ok (.iinc 4 1, 3) := by decide +kernel
theorem dX12_made_140 : decode cX12_made 140 = .ok (.goto (-104), 3) := by decide +kernel
theorem dX12_made_143 : decode cX12_made 143 = .ok (.iload_n 1, 1) := by decide +kernel
theorem dX12_made_144 : decode cX12_made 144 = .ok (.ireturn, 1) := by decide +kernel
theorem dX12_keepsRow_0 : decode cX12_keepsRow 0 = .ok (.aload_n 0, 1) := by decide +kernel
theorem dX12_keepsRow_1 : decode cX12_keepsRow 1 = .ok (.iload_n 2, 1) := by decide +kernel
theorem dX12_keepsRow_2 : decode cX12_keepsRow 2 = .ok (.putfield 68, 3) := by decide +kernel
theorem dX12_keepsRow_5 : decode cX12_keepsRow 5 = .ok (.iload_n 1, 1) := by decide +kernel
theorem dX12_keepsRow_6 : decode cX12_keepsRow 6 = .ok (.istore 4, 2) := by decide +kernel
theorem dX12_keepsRow_8 : decode cX12_keepsRow 8 = .ok (.iload_n 2, 1) := by decide +kernel
theorem dX12_keepsRow_9 : decode cX12_keepsRow 9 = .ok (.iconst 1, 1) := by decide +kernel
theorem dX12_keepsRow_10 : decode cX12_keepsRow 10 = .ok (.isub, 1) := by decide +kernel
theorem dX12_keepsRow_11 : decode cX12_keepsRow 11 = .ok (.istore 5, 2) := by decide +kernel
theorem dX12_keepsRow_13 : decode cX12_keepsRow 13 = .ok (.iload 5, 2) := by decide +kernel
theorem dX12_keepsRow_15 : decode cX12_keepsRow 15 = .ok (.ifCond .lt 26, 3) := by decide +kernel
theorem dX12_keepsRow_18 : decode cX12_keepsRow 18 = .ok (.aload_n 0, 1) := by decide +kernel
theorem dX12_keepsRow_19 : decode cX12_keepsRow 19 = .ok (.getfield 65, 3) := by decide +kernel
theorem dX12_keepsRow_22 : decode cX12_keepsRow 22 = .ok (.iload 5, 2) := by decide +kernel
theorem dX12_keepsRow_24 : decode cX12_keepsRow 24 = .ok (.iload 4, 2) := by decide +kernel
theorem dX12_keepsRow_26 : decode cX12_keepsRow 26 = .ok (.iload_n 3, 1) := by decide +kernel
theorem dX12_keepsRow_27 : decode cX12_keepsRow 27 = .ok (.irem, 1) := by decide +kernel
theorem dX12_keepsRow_28 : decode cX12_keepsRow 28 = .ok (.iastore, 1) := by decide +kernel
theorem dX12_keepsRow_29 : decode cX12_keepsRow 29 = .ok (.iload 4, 2) := by decide +kernel
theorem dX12_keepsRow_31 : decode cX12_keepsRow 31 = .ok (.iload_n 3, 1) := by decide +kernel
theorem dX12_keepsRow_32 : decode cX12_keepsRow 32 = .ok (.idiv, 1) := by decide +kernel
theorem dX12_keepsRow_33 : decode cX12_keepsRow 33 = .ok (.istore 4, 2) := by decide +kernel
theorem dX12_keepsRow_35 : decode cX12_keepsRow 35 = .ok (.iinc 5 (-1), 3) := by decide +kernel
theorem dX12_keepsRow_38 : decode cX12_keepsRow 38 = .ok (.goto (-25), 3) := by decide +kernel
theorem dX12_keepsRow_41 : decode cX12_keepsRow 41 = .ok (.return_, 1) := by decide +kernel
theorem dX12_madeAt_0 : decode cX12_madeAt 0 = .ok (.aload_n 0, 1) := by decide +kernel
theorem dX12_madeAt_1 : decode cX12_madeAt 1 = .ok (.iconst 0, 1) := by decide +kernel
theorem dX12_madeAt_2 : decode cX12_madeAt 2 = .ok (.putfield 1, 3) := by decide +kernel
theorem dX12_madeAt_5 : decode cX12_madeAt 5 = .ok (.iload_n 1, 1) := by decide +kernel
theorem dX12_madeAt_6 : decode cX12_madeAt 6 = .ok (.iconst 0, 1) := by decide +kernel
theorem dX12_madeAt_7 : decode cX12_madeAt 7 = .ok (.aload_n 0, 1) := by decide +kernel
theorem dX12_madeAt_8 : decode cX12_madeAt 8 = .ok (.getfield 68, 3) := by decide +kernel
theorem dX12_madeAt_11 : decode cX12_madeAt 11 = .ok (.iconst 1, 1) := by decide +kernel
theorem dX12_madeAt_12 : decode cX12_madeAt 12 = .ok (.isub, 1) := by decide +kernel
theorem dX12_madeAt_13 : decode cX12_madeAt 13 = .ok (.invokestatic 225, 3) := by decide +kernel
theorem dX12_madeAt_16 : decode cX12_madeAt 16 = .ok (.ifCond .eq 12, 3) := by decide +kernel
theorem dX12_madeAt_19 : decode cX12_madeAt 19 = .ok (.aload_n 0, 1) := by decide +kernel
theorem dX12_madeAt_20 : decode cX12_madeAt 20 = .ok (.getfield 65, 3) := by decide +kernel
theorem dX12_madeAt_23 : decode cX12_madeAt 23 = .ok (.iload_n 1, 1) := by decide +kernel
theorem dX12_madeAt_24 : decode cX12_madeAt 24 = .ok (.iaload, 1) := by decide +kernel
theorem dX12_madeAt_25 : decode cX12_madeAt 25 = .ok (.goto 4, 3) := by decide +kernel
theorem dX12_madeAt_28 : decode cX12_madeAt 28 = .ok (.iconst (-1), 1) := by decide +kernel
theorem dX12_madeAt_29 : decode cX12_madeAt 29 = .ok (.ireturn, 1) := by decide +kernel
theorem dX12_withView_0 : decode cX12_withView 0 = .ok (.iconst 0, 1) := by decide +kernel
theorem dX12_withView_1 : decode cX12_withView 1 = .ok (.istore_n 2, 1) := by decide +kernel
theorem dX12_withView_2 : decode cX12_withView 2 = .ok (.iconst 0, 1) := by decide +kernel
theorem dX12_withView_3 : decode cX12_withView 3 = .ok (.istore_n 3, 1) := by decide +kernel
theorem dX12_withView_4 : decode cX12_withView 4 = .ok (.iload_n 3, 1) := by decide +kernel
theorem dX12_withView_5 : decode cX12_withView 5 = .ok (.aload_n 0, 1) := by decide +kernel
theorem dX12_withView_6 : decode cX12_withView 6 = .ok (.getfield 33, 3) := by decide +kernel
theorem dX12_withView_9 : decode cX12_withView 9 = .ok (.iconst 1, 1) := by decide +kernel
theorem dX12_withView_10 : decode cX12_withView 10 = .ok (.iaload, 1) := by decide +kernel
theorem dX12_withView_11 : decode cX12_withView 11 = .ok (.if_icmp .ge 33, 3) := by decide +kernel
theorem dX12_withView_14 : decode cX12_withView 14 = .ok (.iload_n 2, 1) := by decide +kernel
theorem dX12_withView_15 : decode cX12_withView 15 = .ok (.aload_n 0, 1) := by decide +kernel
theorem dX12_withView_16 : decode cX12_withView 16 = .ok (.getfield 33, 3) := by decide +kernel
theorem dX12_withView_19 : decode cX12_withView 19 = .ok (.bipush 59, 2) := by decide +kernel
theorem dX12_withView_21 : decode cX12_withView 21 = .ok (.iload_n 3, 1) := by decide +kernel
theorem dX12_withView_22 : decode cX12_withView 22 = .ok (.iadd, 1) := by decide +kernel
theorem dX12_withView_23 : decode cX12_withView 23 = .ok (.iaload, 1) := by decide +kernel
theorem dX12_withView_24 : decode cX12_withView 24 = .ok (.iload_n 1, 1) := by decide +kernel
theorem dX12_withView_25 : decode cX12_withView 25 = .ok (.invokestatic 275, 3) := by decide +kernel
theorem dX12_withView_28 : decode cX12_withView 28 = .ok (.ifCond .eq 7, 3) := by decide +kernel
theorem dX12_withView_31 : decode cX12_withView 31 = .ok (.iconst 1, 1) := by decide +kernel
theorem dX12_withView_32 : decode cX12_withView 32 = .ok (.goto 4, 3) := by decide +kernel
theorem dX12_withView_35 : decode cX12_withView 35 = .ok (.iconst 0, 1) := by decide +kernel
theorem dX12_withView_36 : decode cX12_withView 36 = .ok (.iadd, 1) := by decide +kernel
theorem dX12_withView_37 : decode cX12_withView 37 = .ok (.istore_n 2, 1) := by decide +kernel
theorem dX12_withView_38 : decode cX12_withView 38 = .ok (.iinc 3 1, 3) := by decide +kernel
theorem dX12_withView_41 : decode cX12_withView 41 = .ok (.goto (-37), 3) := by decide +kernel
theorem dX12_withView_44 : decode cX12_withView 44 = .ok (.iload_n 2, 1) := by decide +kernel
theorem dX12_withView_45 : decode cX12_withView 45 = .ok (.aload_n 0, 1) := by decide +kernel
theorem dX12_withView_46 : decode cX12_withView 46 = .ok (.getfield 33, 3) := by decide +kernel
theorem dX12_withView_49 : decode cX12_withView 49 = .ok (.iconst 1, 1) := by decide +kernel
theorem dX12_withView_50 : decode cX12_withView 50 = .ok (.iaload, 1) := by decide +kernel
theorem dX12_withView_51 : decode cX12_withView 51 = .ok (.iload_n 2, 1) := by decide +kernel
theorem dX12_withView_52 : decode cX12_withView 52 = .ok (.isub, 1) := by decide +kernel
theorem dX12_withView_53 : decode cX12_withView 53 = .ok (.invokestatic 392, 3) := by decide +kernel
theorem dX12_withView_56 : decode cX12_withView 56 = .ok (.ireturn, 1) := by decide +kernel
theorem dX12_ask_0 : decode cX12_ask 0 = .ok (.aload_n 0, 1) := by decide +kernel
theorem dX12_ask_1 : decode cX12_ask 1 = .ok (.iconst 0, 1) := by decide +kernel
theorem dX12_ask_2 : decode cX12_ask 2 = .ok (.putfield 1, 3) := by decide +kernel
theorem dX12_ask_5 : decode cX12_ask 5 = .ok (.aload_n 0, 1) := by decide +kernel
theorem dX12_ask_6 : decode cX12_ask 6 = .ok (.getfield 33, 3) := by decide +kernel
theorem dX12_ask_9 : decode cX12_ask 9 = .ok (.iconst 1, 1) := by decide +kernel
theorem dX12_ask_10 : decode cX12_ask 10 = .ok (.iaload, 1) := by decide +kernel
theorem dX12_ask_11 : decode cX12_ask 11 = .ok (.ifCond .ne 5, 3) := by decide +kernel
theorem dX12_ask_14 : decode cX12_ask 14 = .ok (.iconst (-1), 1) := by decide +kernel
theorem dX12_ask_15 : decode cX12_ask 15 = .ok (.ireturn, 1) := by decide +kernel
theorem dX12_ask_16 : decode cX12_ask 16 = .ok (.iconst 0, 1) := by decide +kernel
theorem dX12_ask_17 : decode cX12_ask 17 = .ok (.istore_n 1, 1) := by decide +kernel
theorem dX12_ask_18 : decode cX12_ask 18 = .ok (.iconst 1, 1) := by decide +kernel
theorem dX12_ask_19 : decode cX12_ask 19 = .ok (.istore_n 2, 1) := by decide +kernel
theorem dX12_ask_20 : decode cX12_ask 20 = .ok (.iload_n 2, 1) := by decide +kernel
theorem dX12_ask_21 : decode cX12_ask 21 = .ok (.bipush 8, 2) := by decide +kernel
theorem dX12_ask_23 : decode cX12_ask 23 = .ok (.if_icmp .ge 24, 3) := by decide +kernel
theorem dX12_ask_26 : decode cX12_ask 26 = .ok (.aload_n 0, 1) := by decide +kernel
theorem dX12_ask_27 : decode cX12_ask 27 = .ok (.iload_n 2, 1) := by decide +kernel
theorem dX12_ask_28 : decode cX12_ask 28 = .ok (.invokevirtual 395, 3) := by decide +kernel
theorem dX12_ask_31 : decode cX12_ask 31 = .ok (.aload_n 0, 1) := by decide +kernel
theorem dX12_ask_32 : decode cX12_ask 32 = .ok (.iload_n 1, 1) := by decide +kernel
theorem dX12_ask_33 : decode cX12_ask 33 = .ok (.invokevirtual 395, 3) := by decide +kernel
theorem dX12_ask_36 : decode cX12_ask 36 = .ok (.if_icmp .ge 5, 3) := by decide +kernel
theorem dX12_ask_39 : decode cX12_ask 39 = .ok (.iload_n 2, 1) := by decide +kernel
theorem dX12_ask_40 : decode cX12_ask 40 = .ok (.istore_n 1, 1) := by decide +kernel
theorem dX12_ask_41 : decode cX12_ask 41 = .ok (.iinc 2 1, 3) := by decide +kernel
theorem dX12_ask_44 : decode cX12_ask 44 = .ok (.goto (-24), 3) := by decide +kernel
theorem dX12_ask_47 : decode cX12_ask 47 = .ok (.iload_n 1, 1) := by decide +kernel
theorem dX12_ask_48 : decode cX12_ask 48 = .ok (.ireturn, 1) := by decide +kernel
theorem dX12_cover_0 : decode cX12_cover 0 = .ok (.aload_n 0, 1) := by decide +kernel
theorem dX12_cover_1 : decode cX12_cover 1 = .ok (.iconst 0, 1) := by decide +kernel
theorem dX12_cover_2 : decode cX12_cover 2 = .ok (.putfield 1, 3) := by decide +kernel
theorem dX12_cover_5 : decode cX12_cover 5 = .ok (.iconst (-1), 1) := by decide +kernel
theorem dX12_cover_6 : decode cX12_cover 6 = .ok (.istore_n 1, 1) := by decide +kernel
theorem dX12_cover_7 : decode cX12_cover 7 = .ok (.iconst 1, 1) := by decide +kernel
theorem dX12_cover_8 : decode cX12_cover 8 = .ok (.istore_n 2, 1) := by decide +kernel
theorem dX12_cover_9 : decode cX12_cover 9 = .ok (.iload_n 2, 1) := by decide +kernel
theorem dX12_cover_10 : decode cX12_cover 10 = .ok (.iconst 1, 1) := by decide +kernel
theorem dX12_cover_11 : decode cX12_cover 11 = .ok (.aload_n 0, 1) := by decide +kernel
theorem dX12_cover_12 : decode cX12_cover 12 = .ok (.getfield 33, 3) := by decide +kernel
theorem dX12_cover_15 : decode cX12_cover 15 = .ok (.iconst 0, 1) := by decide +kernel
theorem dX12_cover_16 : decode cX12_cover 16 = .ok (.iaload, 1) := by decide +kernel
theorem dX12_cover_17 : decode cX12_cover 17 = .ok (.ishl, 1) := by decide +kernel
theorem dX12_cover_18 : decode cX12_cover 18 = .ok (.if_icmp .ge 92, 3) := by decide +kernel
theorem dX12_cover_21 : decode cX12_cover 21 = .ok (.iload_n 2, 1) := by decide +kernel
theorem dX12_cover_22 : decode cX12_cover 22 = .ok (.aload_n 0, 1) := by decide +kernel
theorem dX12_cover_23 : decode cX12_cover 23 = .ok (.getfield 33, 3) := by decide +kernel
theorem dX12_cover_26 : decode cX12_cover 26 = .ok (.bipush 44, 2) := by decide +kernel
theorem dX12_cover_28 : decode cX12_cover 28 = .ok (.iaload, 1) := by decide +kernel
theorem dX12_cover_29 : decode cX12_cover 29 = .ok (.iand, 1) := by decide +kernel
theorem dX12_cover_30 : decode cX12_cover 30 = .ok (.ifCond .ne 74, 3) := by decide +kernel
theorem dX12_cover_33 : decode cX12_cover 33 = .ok (.iload_n 1, 1) := by decide +kernel
theorem dX12_cover_34 : decode cX12_cover 34 = .ok (.ifCond .lt 17, 3) := by decide +kernel
theorem dX12_cover_37 : decode cX12_cover 37 = .ok (.iload_n 2, 1) := by decide +kernel
theorem dX12_cover_38 : decode cX12_cover 38 = .ok (.invokestatic 340, 3) := by decide +kernel
theorem dX12_cover_41 : decode cX12_cover 41 = .ok (.iload_n 1, 1) := by decide +kernel
theorem dX12_cover_42 : decode cX12_cover 42 = .ok (.invokestatic 340, 3) := by decide +kernel
theorem dX12_cover_45 : decode cX12_cover 45 = .ok (.if_icmp .lt 6, 3) := by decide +kernel
theorem dX12_cover_48 : decode cX12_cover 48 = .ok (.goto 56, 3) := by decide +kernel
theorem dX12_cover_51 : decode cX12_cover 51 = .ok (.iconst 0, 1) := by decide +kernel
theorem dX12_cover_52 : decode cX12_cover 52 = .ok (.istore_n 3, 1) := by decide +kernel
theorem dX12_cover_53 : decode cX12_cover 53 = .ok (.iconst 0, 1) := by decide +kernel
theorem dX12_cover_54 : decode cX12_cover 54 = .ok (.istore 4, 2) := by decide +kernel
theorem dX12_cover_56 : decode cX12_cover 56 = .ok (.iload 4, 2) := by decide +kernel
theorem dX12_cover_58 : decode cX12_cover 58 = .ok (.aload_n 0, 1) := by decide +kernel
theorem dX12_cover_59 : decode cX12_cover 59 = .ok (.getfield 33, 3) := by decide +kernel
theorem dX12_cover_62 : decode cX12_cover 62 = .ok (.iconst 0, 1) := by decide +kernel
theorem dX12_cover_63 : decode cX12_cover 63 = .ok (.iaload, 1) := by decide +kernel
theorem dX12_cover_64 : decode cX12_cover 64 = .ok (.if_icmp .ge 31, 3) := by decide +kernel
theorem dX12_cover_67 : decode cX12_cover 67 = .ok (.iload_n 3, 1) := by decide +kernel
theorem dX12_cover_68 : decode cX12_cover 68 = .ok (.iload_n 2, 1) := by decide +kernel
theorem dX12_cover_69 : decode cX12_cover 69 = .ok (.iload 4, 2) := by decide +kernel
theorem dX12_cover_71 : decode cX12_cover 71 = .ok (.invokestatic 275, 3) := by decide +kernel
theorem dX12_cover_74 : decode cX12_cover 74 = .ok (.ifCond .eq 12, 3) := by decide +kernel
theorem dX12_cover_77 : decode cX12_cover 77 = .ok (.aload_n 0, 1) := by decide +kernel
theorem dX12_cover_78 : decode cX12_cover 78 = .ok (.iload 4, 2) := by decide +kernel
theorem dX12_cover_80 : decode cX12_cover 80 = .ok (.invokevirtual 334, 3) := by decide +kernel
theorem dX12_cover_83 : decode cX12_cover 83 = .ok (.goto 4, 3) := by decide +kernel
theorem dX12_cover_86 : decode cX12_cover 86 = .ok (.iconst 0, 1) := by decide +kernel
theorem dX12_cover_87 : decode cX12_cover 87 = .ok (.ior, 1) := by decide +kernel
theorem dX12_cover_88 : decode cX12_cover 88 = .ok (.istore_n 3, 1) := by decide +kernel
theorem dX12_cover_89 : decode cX12_cover 89 = .ok (.iinc 4 1, 3) := by decide +kernel
theorem dX12_cover_92 : decode cX12_cover 92 = .ok (.goto (-36), 3) := by decide +kernel
theorem dX12_cover_95 : decode cX12_cover 95 = .ok (.iload_n 3, 1) := by decide +kernel
theorem dX12_cover_96 : decode cX12_cover 96 = .ok (.sipush 255, 3) := by decide +kernel
theorem dX12_cover_99 : decode cX12_cover 99 = .ok (.if_icmp .ne 5, 3) := by decide +kernel
theorem dX12_cover_102 : decode cX12_cover 102 = .ok (.iload_n 2, 1) := by decide +kernel
theorem dX12_cover_103 : decode cX12_cover 103 = .ok (.istore_n 1, 1) := by decide +kernel
theorem dX12_cover_104 : decode cX12_cover 104 = .ok (.iinc 2 1, 3) := by decide +kernel
theorem dX12_cover_107 : decode cX12_cover 107 = .ok (.goto (-98), 3) := by decide +kernel
theorem dX12_cover_110 : decode cX12_cover 110 = .ok (.iload_n 1, 1) := by decide +kernel
theorem dX12_cover_111 : decode cX12_cover 111 = .ok (.ifCond .ge 5, 3) := by decide +kernel
theorem dX12_cover_114 : decode cX12_cover 114 = .ok (.iconst (-1), 1) := by decide +kernel
theorem dX12_cover_115 : decode cX12_cover 115 = .ok (.ireturn, 1) := by decide +kernel
theorem dX12_cover_116 : decode cX12_cover 116 = .ok (.aload_n 0, 1) := by decide +kernel
theorem dX12_cover_117 : decode cX12_cover 117 = .ok (.iconst 1, 1) := by decide +kernel
theorem dX12_cover_118 : decode cX12_cover 118 = .ok (.putfield 398, 3) := by decide +kernel
theorem dX12_cover_121 : decode cX12_cover 121 = .ok (.aload_n 0, 1) := by decide +kernel
theorem dX12_cover_122 : decode cX12_cover 122 = .ok (.iload_n 1, 1) := by decide +kernel
theorem dX12_cover_123 : decode cX12_cover 123 = .ok (.putfield 402, 3) := by decide +kernel
theorem dX12_cover_126 : decode cX12_cover 126 = .ok (.iload_n 1, 1) := by decide +kernel
theorem dX12_cover_127 : decode cX12_cover 127 = .ok (.invokestatic 340, 3) := by decide +kernel
theorem dX12_cover_130 : decode cX12_cover 130 = .ok (.ireturn, 1) := by decide +kernel
theorem dX12_covering_0 : decode cX12_covering 0 = .ok (.aload_n 0, 1) := by decide +kernel
theorem dX12_covering_1 : decode cX12_covering 1 = .ok (.iconst 0, 1) := by decide +kernel
theorem dX12_covering_2 : decode cX12_covering 2 = .ok (.putfield 1, 3) := by decide +kernel
theorem dX12_covering_5 : decode cX12_covering 5 = .ok (.aload_n 0, 1) := by decide +kernel
theorem dX12_covering_6 : decode cX12_covering 6 = .ok (.getfield 398, 3) := by decide +kernel
theorem dX12_covering_9 : decode cX12_covering 9 = .ok (.ifCond .eq 10, 3) := by decide +kernel
theorem dX12_covering_12 : decode cX12_covering 12 = .ok (.aload_n 0, 1) := by decide +kernel
theorem dX12_covering_13 : decode cX12_covering 13 = .ok (.getfield 402, 3) := by decide +kernel
theorem dX12_covering_16 : decode cX12_covering 16 = .ok (.goto 4, 3) := by decide +kernel
theorem dX12_covering_19 : decode cX12_covering 19 = .ok (.iconst (-1), 1) := by decide +kernel
theorem dX12_covering_20 : decode cX12_covering 20 = .ok (.ireturn, 1) := by decide +kernel
theorem dX12_mostBy_0 : decode cX12_mostBy 0 = .ok (.iload_n 3, 1) := by decide +kernel
theorem dX12_mostBy_1 : decode cX12_mostBy 1 = .ok (.ifCond .ge 15, 3) := by decide +kernel
theorem dX12_mostBy_4 : decode cX12_mostBy 4 = .ok (.aload_n 0, 1) := by decide +kernel
theorem dX12_mostBy_5 : decode cX12_mostBy 5 = .ok (.getfield 33, 3) := by decide +kernel
theorem dX12_mostBy_8 : decode cX12_mostBy 8 = .ok (.bipush 59, 2) := by decide +kernel
theorem dX12_mostBy_10 : decode cX12_mostBy 10 = .ok (.iload_n 1, 1) := by decide +kernel
theorem dX12_mostBy_11 : decode cX12_mostBy 11 = .ok (.iadd, 1) := by decide +kernel
theorem dX12_mostBy_12 : decode cX12_mostBy 12 = .ok (.iaload, 1) := by decide +kernel
theorem dX12_mostBy_13 : decode cX12_mostBy 13 = .ok (.goto 17, 3) := by decide +kernel
theorem dX12_mostBy_16 : decode cX12_mostBy 16 = .ok (.aload_n 0, 1) := by decide +kernel
theorem dX12_mostBy_17 : decode cX12_mostBy 17 = .ok (.aload_n 0, 1) := by decide +kernel
theorem dX12_mostBy_18 : decode cX12_mostBy 18 = .ok (.getfield 33, 3) := by decide +kernel
theorem dX12_mostBy_21 : decode cX12_mostBy 21 = .ok (.bipush 59, 2) := by decide +kernel
theorem dX12_mostBy_23 : decode cX12_mostBy 23 = .ok (.iload_n 1, 1) := by decide +kernel
theorem dX12_mostBy_24 : decode cX12_mostBy 24 = .ok (.iadd, 1) := by decide +kernel
theorem dX12_mostBy_25 : decode cX12_mostBy 25 = .ok (.iaload, 1) := by decide +kernel
theorem dX12_mostBy_26 : decode cX12_mostBy 26 = .ok (.iload_n 3, 1) := by decide +kernel
theorem dX12_mostBy_27 : decode cX12_mostBy 27 = .ok (.invokevirtual 346, 3) := by decide +kernel
theorem dX12_mostBy_30 : decode cX12_mostBy 30 = .ok (.istore 4, 2) := by decide +kernel
theorem dX12_mostBy_32 : decode cX12_mostBy 32 = .ok (.aload_n 0, 1) := by decide +kernel
theorem dX12_mostBy_33 : decode cX12_mostBy 33 = .ok (.iload_n 1, 1) := by decide +kernel
theorem dX12_mostBy_34 : decode cX12_mostBy 34 = .ok (.iload 4, 2) := by decide +kernel
theorem dX12_mostBy_36 : decode cX12_mostBy 36 = .ok (.invokevirtual 315, 3) := by decide +kernel
theorem dX12_mostBy_39 : decode cX12_mostBy 39 = .ok (.ifCond .eq 7, 3) := by decide +kernel
theorem dX12_mostBy_42 : decode cX12_mostBy 42 = .ok (.iconst 1, 1) := by decide +kernel
theorem dX12_mostBy_43 : decode cX12_mostBy 43 = .ok (.goto 4, 3) := by decide +kernel
theorem dX12_mostBy_46 : decode cX12_mostBy 46 = .ok (.iconst 0, 1) := by decide +kernel
theorem dX12_mostBy_47 : decode cX12_mostBy 47 = .ok (.aload_n 0, 1) := by decide +kernel
theorem dX12_mostBy_48 : decode cX12_mostBy 48 = .ok (.getfield 71, 3) := by decide +kernel
theorem dX12_mostBy_51 : decode cX12_mostBy 51 = .ok (.sipush 128, 3) := by decide +kernel
theorem dX12_mostBy_54 : decode cX12_mostBy 54 = .ok (.iload_n 1, 1) := by decide +kernel
theorem dX12_mostBy_55 : decode cX12_mostBy 55 = .ok (.iconst 1, 1) := by decide +kernel
theorem dX12_mostBy_56 : decode cX12_mostBy 56 = .ok (.iadd, 1) := by decide +kernel
theorem dX12_mostBy_57 : decode cX12_mostBy 57 = .ok (.imul, 1) := by decide +kernel
theorem dX12_mostBy_58 : decode cX12_mostBy 58 = .ok (.iload_n 3, 1) := by decide +kernel
theorem dX12_mostBy_59 : decode cX12_mostBy 59 = .ok (.ifCond .ge 7, 3) := by decide +kernel
theorem dX12_mostBy_62 : decode cX12_mostBy 62 = .ok (.iload_n 2, 1) := by decide +kernel
theorem dX12_mostBy_63 : decode cX12_mostBy 63 = .ok (.goto 8, 3) := by decide +kernel
theorem dX12_mostBy_66 : decode cX12_mostBy 66 = .ok (.iload_n 2, 1) := by decide +kernel
theorem dX12_mostBy_67 : decode cX12_mostBy 67 = .ok (.iconst 1, 1) := by decide +kernel
theorem dX12_mostBy_68 : decode cX12_mostBy 68 = .ok (.iload_n 3, 1) := by decide +kernel
theorem dX12_mostBy_69 : decode cX12_mostBy 69 = .ok (.ishl, 1) := by decide +kernel
theorem dX12_mostBy_70 : decode cX12_mostBy 70 = .ok (.ior, 1) := by decide +kernel
theorem dX12_mostBy_71 : decode cX12_mostBy 71 = .ok (.iadd, 1) := by decide +kernel
theorem dX12_mostBy_72 : decode cX12_mostBy 72 = .ok (.iaload, 1) := by decide +kernel
theorem dX12_mostBy_73 : decode cX12_mostBy 73 = .ok (.iadd, 1) := by decide +kernel
theorem dX12_mostBy_74 : decode cX12_mostBy 74 = .ok (.ireturn, 1) := by decide +kernel
theorem dX12_party_0 : decode cX12_party 0 = .ok (.aload_n 0, 1) := by decide +kernel
theorem dX12_party_1 : decode cX12_party 1 = .ok (.iconst 0, 1) := by decide +kernel
theorem dX12_party_2 : decode cX12_party 2 = .ok (.putfield 1, 3) := by decide +kernel
theorem dX12_party_5 : decode cX12_party 5 = .ok (.aload_n 0, 1) := by decide +kernel
theorem dX12_party_6 : decode cX12_party 6 = .ok (.getfield 33, 3) := by decide +kernel
theorem dX12_party_9 : decode cX12_party 9 = .ok (.iconst 1, 1) := by decide +kernel
theorem dX12_party_10 : decode cX12_party 10 = .ok (.iaload, 1) := by decide +kernel
theorem dX12_party_11 : decode cX12_party 11 = .ok (.istore_n 1, 1) := by decide +kernel
theorem dX12_party_12 : decode cX12_party 12 = .ok (.iconst 0, 1) := by decide +kernel
theorem dX12_party_13 : decode cX12_party 13 = .ok (.istore_n 2, 1) := by decide +kernel
theorem dX12_party_14 : decode cX12_party 14 = .ok (.iload_n 2, 1) := by decide +kernel
theorem dX12_party_15 : decode cX12_party 15 = .ok (.sipush 128, 3) := by decide +kernel
theorem dX12_party_18 : decode cX12_party 18 = .ok (.if_icmp .ge 22, 3) := by decide +kernel
theorem dX12_party_21 : decode cX12_party 21 = .ok (.aload_n 0, 1) := by decide +kernel
theorem dX12_party_22 : decode cX12_party 22 = .ok (.getfield 71, 3) := by decide +kernel
theorem dX12_party_25 : decode cX12_party 25 = .ok (.sipush 128, 3) := by decide +kernel
theorem dX12_party_28 : decode cX12_party 28 = .ok (.iload_n 1, 1) := by decide +kernel
theorem dX12_party_29 : decode cX12_party 29 = .ok (.imul, 1) := by decide +kernel
theorem dX12_party_30 : decode cX12_party 30 = .ok (.iload_n 2, 1) := by decide +kernel
theorem dX12_party_31 : decode cX12_party 31 = .ok (.iadd, 1) := by decide +kernel
theorem dX12_party_32 : decode cX12_party 32 = .ok (.iconst 0, 1) := by decide +kernel
theorem dX12_party_33 : decode cX12_party 33 = .ok (.iastore, 1) := by decide +kernel
theorem dX12_party_34 : decode cX12_party 34 = .ok (.iinc 2 1, 3) := by decide +kernel
theorem dX12_party_37 : decode cX12_party 37 = .ok (.goto (-23), 3) := by decide +kernel
theorem dX12_party_40 : decode cX12_party 40 = .ok (.iload_n 1, 1) := by decide +kernel
theorem dX12_party_41 : decode cX12_party 41 = .ok (.iconst 1, 1) := by decide +kernel
theorem dX12_party_42 : decode cX12_party 42 = .ok (.isub, 1) := by decide +kernel
theorem dX12_party_43 : decode cX12_party 43 = .ok (.istore_n 2, 1) := by decide +kernel
theorem dX12_party_44 : decode cX12_party 44 = .ok (.iload_n 2, 1) := by decide +kernel
theorem dX12_party_45 : decode cX12_party 45 = .ok (.ifCond .lt 107, 3) := by decide +kernel
theorem dX12_party_48 : decode cX12_party 48 = .ok (.aload_n 0, 1) := by decide +kernel
theorem dX12_party_49 : decode cX12_party 49 = .ok (.iload_n 2, 1) := by decide +kernel
theorem dX12_party_50 : decode cX12_party 50 = .ok (.invokevirtual 325, 3) := by decide +kernel
theorem dX12_party_53 : decode cX12_party 53 = .ok (.istore_n 3, 1) := by decide +kernel
theorem dX12_party_54 : decode cX12_party 54 = .ok (.iconst 0, 1) := by decide +kernel
theorem dX12_party_55 : decode cX12_party 55 = .ok (.istore 4, 2) := by decide +kernel
theorem dX12_party_57 : decode cX12_party 57 = .ok (.iload 4, 2) := by decide +kernel
theorem dX12_party_59 : decode cX12_party 59 = .ok (.sipush 128, 3) := by decide +kernel
theorem dX12_party_62 : decode cX12_party 62 = .ok (.if_icmp .ge 84, 3) := by decide +kernel
theorem dX12_party_65 : decode cX12_party 65 = .ok (.aload_n 0, 1) := by decide +kernel
theorem dX12_party_66 : decode cX12_party 66 = .ok (.iload_n 2, 1) := by decide +kernel
theorem dX12_party_67 : decode cX12_party 67 = .ok (.iload 4, 2) := by decide +kernel
theorem dX12_party_69 : decode cX12_party 69 = .ok (.iconst (-1), 1) := by decide +kernel
theorem dX12_party_70 : decode cX12_party 70 = .ok (.invokevirtual 405, 3) := by decide +kernel
theorem dX12_party_73 : decode cX12_party 73 = .ok (.istore 5, 2) := by decide +kernel
theorem dX12_party_75 : decode cX12_party 75 = .ok (.iconst 0, 1) := by decide +kernel
theorem dX12_party_76 : decode cX12_party 76 = .ok (.istore 6, 2) := by decide +kernel
theorem dX12_party_78 : decode cX12_party 78 = .ok (.iload 6, 2) := by decide +kernel
theorem dX12_party_80 : decode cX12_party 80 = .ok (.aload_n 0, 1) := by decide +kernel
theorem dX12_party_81 : decode cX12_party 81 = .ok (.getfield 33, 3) := by decide +kernel
theorem dX12_party_84 : decode cX12_party 84 = .ok (.iconst 0, 1) := by decide +kernel
theorem dX12_party_85 : decode cX12_party 85 = .ok (.iaload, 1) := by decide +kernel
theorem dX12_party_86 : decode cX12_party 86 = .ok (.if_icmp .ge 39, 3) := by decide +kernel
theorem dX12_party_89 : decode cX12_party 89 = .ok (.iload_n 3, 1) := by decide +kernel
theorem dX12_party_90 : decode cX12_party 90 = .ok (.iload 4, 2) := by decide +kernel
theorem dX12_party_92 : decode cX12_party 92 = .ok (.iconst (-1), 1) := by decide +kernel
theorem dX12_party_93 : decode cX12_party 93 = .ok (.ixor, 1) := by decide +kernel
theorem dX12_party_94 : decode cX12_party 94 = .ok (.iand, 1) := by decide +kernel
theorem dX12_party_95 : decode cX12_party 95 = .ok (.iload 6, 2) := by decide +kernel
theorem dX12_party_97 : decode cX12_party 97 = .ok (.invokestatic 275, 3) := by decide +kernel
theorem dX12_party_100 : decode cX12_party 100 = .ok (.ifCond .eq 19, 3) := by decide +kernel
theorem dX12_party_103 : decode cX12_party 103 = .ok (.iload 5, 2) := by decide +kernel
theorem dX12_party_105 : decode cX12_party 105 = .ok (.aload_n 0, 1) := by decide +kernel
theorem dX12_party_106 : decode cX12_party 106 = .ok (.iload_n 2, 1) := by decide +kernel
theorem dX12_party_107 : decode cX12_party 107 = .ok (.iload 4, 2) := by decide +kernel
theorem dX12_party_109 : decode cX12_party 109 = .ok (.iload 6, 2) := by decide +kernel
theorem dX12_party_111 : decode cX12_party 111 = .ok (.invokevirtual 405, 3) := by decide +kernel
theorem dX12_party_114 : decode cX12_party 114 = .ok (.invokestatic 392, 3) := by decide +kernel
theorem dX12_party_117 : decode cX12_party 117 = .ok (.istore 5, 2) := by decide +kernel
theorem dX12_party_119 : decode cX12_party 119 = .ok (.iinc 6 1, 3) := by decide +kernel
theorem dX12_party_122 : decode cX12_party 122 = .ok (.goto (-44), 3) := by decide +kernel
theorem dX12_party_125 : decode cX12_party 125 = .ok (.aload_n 0, 1) := by decide +kernel
theorem dX12_party_126 : decode cX12_party 126 = .ok (.getfield 71, 3) := by decide +kernel
theorem dX12_party_129 : decode cX12_party 129 = .ok (.sipush 128, 3) := by decide +kernel
theorem dX12_party_132 : decode cX12_party 132 = .ok (.iload_n 2, 1) := by decide +kernel
theorem dX12_party_133 : decode cX12_party 133 = .ok (.imul, 1) := by decide +kernel
theorem dX12_party_134 : decode cX12_party 134 = .ok (.iload 4, 2) := by decide +kernel
theorem dX12_party_136 : decode cX12_party 136 = .ok (.iadd, 1) := by decide +kernel
theorem dX12_party_137 : decode cX12_party 137 = .ok (.iload 5, 2) := by decide +kernel
theorem dX12_party_139 : decode cX12_party 139 = .ok (.iastore, 1) := by decide +kernel
theorem dX12_party_140 : decode cX12_party 140 = .ok (.iinc 4 1, 3) := by decide +kernel
theorem dX12_party_143 : decode cX12_party 143 = .ok (.goto (-86), 3) := by decide +kernel
theorem dX12_party_146 : decode cX12_party 146 = .ok (.iinc 2 (-1), 3) := by decide +kernel
theorem dX12_party_149 : decode cX12_party 149 = .ok (.goto (-105), 3) := by decide +kernel
theorem dX12_party_152 : decode cX12_party 152 = .ok (.aload_n 0, 1) := by decide +kernel
theorem dX12_party_153 : decode cX12_party 153 = .ok (.iload_n 1, 1) := by decide +kernel
theorem dX12_party_154 : decode cX12_party 154 = .ok (.putfield 77, 3) := by decide +kernel
theorem dX12_party_157 : decode cX12_party 157 = .ok (.iconst 0, 1) := by decide +kernel
theorem dX12_party_158 : decode cX12_party 158 = .ok (.istore_n 2, 1) := by decide +kernel
theorem dX12_party_159 : decode cX12_party 159 = .ok (.iconst 0, 1) := by decide +kernel
theorem dX12_party_160 : decode cX12_party 160 = .ok (.istore_n 3, 1) := by decide +kernel
theorem dX12_party_161 : decode cX12_party 161 = .ok (.iload_n 3, 1) := by decide +kernel
theorem dX12_party_162 : decode cX12_party 162 = .ok (.iload_n 1, 1) := by decide +kernel
theorem dX12_party_163 : decode cX12_party 163 = .ok (.if_icmp .ge 118, 3) := by decide +kernel
theorem dX12_party_166 : decode cX12_party 166 = .ok (.aload_n 0, 1) := by decide +kernel
theorem dX12_party_167 : decode cX12_party 167 = .ok (.iload_n 3, 1) := by decide +kernel
theorem dX12_party_168 : decode cX12_party 168 = .ok (.invokevirtual 325, 3) := by decide +kernel
theorem dX12_party_171 : decode cX12_party 171 = .ok (.iload_n 2, 1) := by decide +kernel
theorem dX12_party_172 : decode cX12_party 172 = .ok (.iconst (-1), 1) := by decide +kernel
theorem dX12_party_173 : decode cX12_party 173 = .ok (.ixor, 1) := by decide +kernel
theorem dX12_party_174 : decode cX12_party 174 = .ok (.iand, 1) := by decide +kernel
theorem dX12_party_175 : decode cX12_party 175 = .ok (.istore 4, 2) := by decide +kernel
theorem dX12_party_177 : decode cX12_party 177 = .ok (.iconst 0, 1) := by decide +kernel
theorem dX12_party_178 : decode cX12_party 178 = .ok (.istore 5, 2) := by decide +kernel
theorem dX12_party_180 : decode cX12_party 180 = .ok (.iload 5, 2) := by decide +kernel
theorem dX12_party_182 : decode cX12_party 182 = .ok (.aload_n 0, 1) := by decide +kernel
theorem dX12_party_183 : decode cX12_party 183 = .ok (.getfield 33, 3) := by decide +kernel
theorem dX12_party_186 : decode cX12_party 186 = .ok (.iconst 0, 1) := by decide +kernel
theorem dX12_party_187 : decode cX12_party 187 = .ok (.iaload, 1) := by decide +kernel
theorem dX12_party_188 : decode cX12_party 188 = .ok (.if_icmp .ge 42, 3) := by decide +kernel
theorem dX12_party_191 : decode cX12_party 191 = .ok (.iload 4, 2) := by decide +kernel
theorem dX12_party_193 : decode cX12_party 193 = .ok (.iload 5, 2) := by decide +kernel
theorem dX12_party_195 : decode cX12_party 195 = .ok (.invokestatic 275, 3) := by decide +kernel
theorem dX12_party_198 : decode cX12_party 198 = .ok (.ifCond .eq 26, 3) := by decide +kernel
theorem dX12_party_201 : decode cX12_party 201 = .ok (.aload_n 0, 1) := by decide +kernel
theorem dX12_party_202 : decode cX12_party 202 = .ok (.iload_n 3, 1) := by decide +kernel
theorem dX12_party_203 : decode cX12_party 203 = .ok (.iload_n 2, 1) := by decide +kernel
theorem dX12_party_204 : decode cX12_party 204 = .ok (.iload 5, 2) := by decide +kernel
theorem dX12_party_206 : decode cX12_party 206 = .ok (.invokevirtual 405, 3) := by decide +kernel
theorem dX12_party_209 : decode cX12_party 209 = .ok (.aload_n 0, 1) := by decide +kernel
theorem dX12_party_210 : decode cX12_party 210 = .ok (.getfield 71, 3) := by decide +kernel
theorem dX12_party_213 : decode cX12_party 213 = .ok (.sipush 128, 3) := by decide +kernel
theorem dX12_party_216 : decode cX12_party 216 = .ok (.iload_n 3, 1) := by decide +kernel
theorem dX12_party_217 : decode cX12_party 217 = .ok (.imul, 1) := by decide +kernel
theorem dX12_party_218 : decode cX12_party 218 = .ok (.iload_n 2, 1) := by decide +kernel
theorem dX12_party_219 : decode cX12_party 219 = .ok (.iadd, 1) := by decide +kernel
theorem dX12_party_220 : decode cX12_party 220 = .ok (.iaload, 1) := by decide +kernel
theorem dX12_party_221 : decode cX12_party 221 = .ok (.if_icmp .eq 9, 3) := by decide +kernel
theorem dX12_party_224 : decode cX12_party 224 = .ok (.iinc 5 1, 3) := by decide +kernel
theorem dX12_party_227 : decode cX12_party 227 = .ok (.goto (-47), 3) := by decide +kernel
theorem dX12_party_230 : decode cX12_party 230 = .ok (.aload_n 0, 1) := by decide +kernel
theorem dX12_party_231 : decode cX12_party 231 = .ok (.getfield 74, 3) := by decide +kernel
theorem dX12_party_234 : decode cX12_party 234 = .ok (.iload_n 3, 1) := by decide +kernel
theorem dX12_party_235 : decode cX12_party 235 = .ok (.iload 5, 2) := by decide +kernel
theorem dX12_party_237 : decode cX12_party 237 = .ok (.aload_n 0, 1) := by decide +kernel
theorem dX12_party_238 : decode cX12_party 238 = .ok (.getfield 33, 3) := by decide +kernel
theorem dX12_party_241 : decode cX12_party 241 = .ok (.iconst 0, 1) := by decide +kernel
theorem dX12_party_242 : decode cX12_party 242 = .ok (.iaload, 1) := by decide +kernel
theorem dX12_party_243 : decode cX12_party 243 = .ok (.if_icmp .ge 8, 3) := by decide +kernel
theorem dX12_party_246 : decode cX12_party 246 = .ok (.iload 5, 2) := by decide +kernel
theorem dX12_party_248 : decode cX12_party 248 = .ok (.goto 4, 3) := by decide +kernel
theorem dX12_party_251 : decode cX12_party 251 = .ok (.iconst (-1), 1) := by decide +kernel
theorem dX12_party_252 : decode cX12_party 252 = .ok (.iastore, 1) := by decide +kernel
theorem dX12_party_253 : decode cX12_party 253 = .ok (.iload_n 2, 1) := by decide +kernel
theorem dX12_party_254 : decode cX12_party 254 = .ok (.iload 5, 2) := by decide +kernel
theorem dX12_party_256 : decode cX12_party 256 = .ok (.aload_n 0, 1) := by decide +kernel
theorem dX12_party_257 : decode cX12_party 257 = .ok (.getfield 33, 3) := by decide +kernel
theorem dX12_party_260 : decode cX12_party 260 = .ok (.iconst 0, 1) := by decide +kernel
theorem dX12_party_261 : decode cX12_party 261 = .ok (.iaload, 1) := by decide +kernel
theorem dX12_party_262 : decode cX12_party 262 = .ok (.if_icmp .ge 10, 3) := by decide +kernel
theorem dX12_party_265 : decode cX12_party 265 = .ok (.iconst 1, 1) := by decide +kernel
theorem dX12_party_266 : decode cX12_party 266 = .ok (.iload 5, 2) := by decide +kernel
theorem dX12_party_268 : decode cX12_party 268 = .ok (.ishl, 1) := by decide +kernel
theorem dX12_party_269 : decode cX12_party 269 = .ok (.goto 4, 3) := by decide +kernel
theorem dX12_party_272 : decode cX12_party 272 = .ok (.iconst 0, 1) := by decide +kernel
theorem dX12_party_273 : decode cX12_party 273 = .ok (.ior, 1) := by decide +kernel
theorem dX12_party_274 : decode cX12_party 274 = .ok (.istore_n 2, 1) := by decide +kernel
theorem dX12_party_275 : decode cX12_party 275 = .ok (.iinc 3 1, 3) := by decide +kernel
theorem dX12_party_278 : decode cX12_party 278 = .ok (.goto (-117), 3) := by decide +kernel
theorem dX12_party_281 : decode cX12_party 281 = .ok (.aload_n 0, 1) := by decide +kernel
theorem dX12_party_282 : decode cX12_party 282 = .ok (.getfield 71, 3) := by decide +kernel
theorem dX12_party_285 : decode cX12_party 285 = .ok (.iconst 0, 1) := by decide +kernel
theorem dX12_party_286 : decode cX12_party 286 = .ok (.iaload, 1) := by decide +kernel
theorem dX12_party_287 : decode cX12_party 287 = .ok (.ireturn, 1) := by decide +kernel
theorem dX12_partyOf_0 : decode cX12_partyOf 0 = .ok (.aload_n 0, 1) := by decide +kernel
theorem dX12_partyOf_1 : decode cX12_partyOf 1 = .ok (.iconst 0, 1) := by decide +kernel
theorem dX12_partyOf_2 : decode cX12_partyOf 2 = .ok (.putfield 1, 3) := by decide +kernel
theorem dX12_partyOf_5 : decode cX12_partyOf 5 = .ok (.iload_n 1, 1) := by decide +kernel
theorem dX12_partyOf_6 : decode cX12_partyOf 6 = .ok (.iconst 0, 1) := by decide +kernel
theorem dX12_partyOf_7 : decode cX12_partyOf 7 = .ok (.aload_n 0, 1) := by decide +kernel
theorem dX12_partyOf_8 : decode cX12_partyOf 8 = .ok (.getfield 77, 3) := by decide +kernel
theorem dX12_partyOf_11 : decode cX12_partyOf 11 = .ok (.iconst 1, 1) := by decide +kernel
theorem dX12_partyOf_12 : decode cX12_partyOf 12 = .ok (.isub, 1) := by decide +kernel
theorem dX12_partyOf_13 : decode cX12_partyOf 13 = .ok (.invokestatic 225, 3) := by decide +kernel
theorem dX12_partyOf_16 : decode cX12_partyOf 16 = .ok (.ifCond .eq 12, 3) := by decide +kernel
theorem dX12_partyOf_19 : decode cX12_partyOf 19 = .ok (.aload_n 0, 1) := by decide +kernel
theorem dX12_partyOf_20 : decode cX12_partyOf 20 = .ok (.getfield 74, 3) := by decide +kernel
theorem dX12_partyOf_23 : decode cX12_partyOf 23 = .ok (.iload_n 1, 1) := by decide +kernel
theorem dX12_partyOf_24 : decode cX12_partyOf 24 = .ok (.iaload, 1) := by decide +kernel
theorem dX12_partyOf_25 : decode cX12_partyOf 25 = .ok (.goto 4, 3) := by decide +kernel
theorem dX12_partyOf_28 : decode cX12_partyOf 28 = .ok (.iconst (-1), 1) := by decide +kernel
theorem dX12_partyOf_29 : decode cX12_partyOf 29 = .ok (.ireturn, 1) := by decide +kernel
theorem dX12_agrees_0 : decode cX12_agrees 0 = .ok (.aload_n 0, 1) := by decide +kernel
theorem dX12_agrees_1 : decode cX12_agrees 1 = .ok (.getfield 80, 3) := by decide +kernel
theorem dX12_agrees_4 : decode cX12_agrees 4 = .ok (.iload_n 1, 1) := by decide +kernel
theorem dX12_agrees_5 : decode cX12_agrees 5 = .ok (.iaload, 1) := by decide +kernel
theorem dX12_agrees_6 : decode cX12_agrees 6 = .ok (.istore_n 2, 1) := by decide +kernel
theorem dX12_agrees_7 : decode cX12_agrees 7 = .ok (.iconst 0, 1) := by decide +kernel
theorem dX12_agrees_8 : decode cX12_agrees 8 = .ok (.istore_n 3, 1) := by decide +kernel
theorem dX12_agrees_9 : decode cX12_agrees 9 = .ok (.iload_n 3, 1) := by decide +kernel
theorem dX12_agrees_10 : decode cX12_agrees 10 = .ok (.iconst 4, 1) := by decide +kernel
theorem dX12_agrees_11 : decode cX12_agrees 11 = .ok (.if_icmp .ge 112, 3) := by decide +kernel
theorem dX12_agrees_14 : decode cX12_agrees 14 = .ok (.iconst 0, 1) := by decide +kernel
theorem dX12_agrees_15 : decode cX12_agrees 15 = .ok (.istore 4, 2) := by decide +kernel
theorem dX12_agrees_17 : decode cX12_agrees 17 = .ok (.iconst 0, 1) := by decide +kernel
theorem dX12_agrees_18 : decode cX12_agrees 18 = .ok (.istore 5, 2) := by decide +kernel
theorem dX12_agrees_20 : decode cX12_agrees 20 = .ok (.iload 5, 2) := by decide +kernel
theorem dX12_agrees_22 : decode cX12_agrees 22 = .ok (.aload_n 0, 1) := by decide +kernel
theorem dX12_agrees_23 : decode cX12_agrees 23 = .ok (.getfield 33, 3) := by decide +kernel
theorem dX12_agrees_26 : decode cX12_agrees 26 = .ok (.iconst 1, 1) := by decide +kernel
theorem dX12_agrees_27 : decode cX12_agrees 27 = .ok (.iaload, 1) := by decide +kernel
theorem dX12_agrees_28 : decode cX12_agrees 28 = .ok (.if_icmp .ge 57, 3) := by decide +kernel
theorem dX12_agrees_31 : decode cX12_agrees 31 = .ok (.iload 5, 2) := by decide +kernel
theorem dX12_agrees_33 : decode cX12_agrees 33 = .ok (.iload_n 1, 1) := by decide +kernel
theorem dX12_agrees_34 : decode cX12_agrees 34 = .ok (.if_icmp .eq 45, 3) := by decide +kernel
theorem dX12_agrees_37 : decode cX12_agrees 37 = .ok (.aload_n 0, 1) := by decide +kernel
theorem dX12_agrees_38 : decode cX12_agrees 38 = .ok (.iload 5, 2) := by decide +kernel
theorem dX12_agrees_40 : decode cX12_agrees 40 = .ok (.invokevirtual 337, 3) := by decide +kernel
theorem dX12_agrees_43 : decode cX12_agrees 43 = .ok (.ifCond .eq 6, 3) := by decide +kernel
theorem dX12_agrees_46 : decode cX12_agrees 46 = .ok (.goto 33, 3) := by decide +kernel
theorem dX12_agrees_49 : decode cX12_agrees 49 = .ok (.iload 4, 2) := by decide +kernel
theorem dX12_agrees_51 : decode cX12_agrees 51 = .ok (.aload_n 0, 1) := by decide +kernel
theorem dX12_agrees_52 : decode cX12_agrees 52 = .ok (.getfield 80, 3) := by decide +kernel
theorem dX12_agrees_55 : decode cX12_agrees 55 = .ok (.iload 5, 2) := by decide +kernel
theorem dX12_agrees_57 : decode cX12_agrees 57 = .ok (.iaload, 1) := by decide +kernel
theorem dX12_agrees_58 : decode cX12_agrees 58 = .ok (.iload_n 3, 1) := by decide +kernel
theorem dX12_agrees_59 : decode cX12_agrees 59 = .ok (.ishr, 1) := by decide +kernel
theorem dX12_agrees_60 : decode cX12_agrees 60 = .ok (.iconst 1, 1) := by decide +kernel
theorem dX12_agrees_61 : decode cX12_agrees 61 = .ok (.iand, 1) := by decide +kernel
theorem dX12_agrees_62 : decode cX12_agrees 62 = .ok (.aload_n 0, 1) := by decide +kernel
theorem dX12_agrees_63 : decode cX12_agrees 63 = .ok (.getfield 80, 3) := by decide +kernel
theorem dX12_agrees_66 : decode cX12_agrees 66 = .ok (.iload 5, 2) := by decide +kernel
theorem dX12_agrees_68 : decode cX12_agrees 68 = .ok (.iaload, 1) := by decide +kernel
theorem dX12_agrees_69 : decode cX12_agrees 69 = .ok (.iload_n 3, 1) := by decide +kernel
theorem dX12_agrees_70 : decode cX12_agrees 70 = .ok (.iconst 4, 1) := by decide +kernel
theorem dX12_agrees_71 : decode cX12_agrees 71 = .ok (.iadd, 1) := by decide +kernel
theorem dX12_agrees_72 : decode cX12_agrees 72 = .ok (.ishr, 1) := by decide +kernel
theorem dX12_agrees_73 : decode cX12_agrees 73 = .ok (.iconst 1, 1) := by decide +kernel
theorem dX12_agrees_74 : decode cX12_agrees 74 = .ok (.iand, 1) := by decide +kernel
theorem dX12_agrees_75 : decode cX12_agrees 75 = .ok (.isub, 1) := by decide +kernel
theorem dX12_agrees_76 : decode cX12_agrees 76 = .ok (.iadd, 1) := by decide +kernel
theorem dX12_agrees_77 : decode cX12_agrees 77 = .ok (.istore 4, 2) := by decide +kernel
theorem dX12_agrees_79 : decode cX12_agrees 79 = .ok (.iinc 5 1, 3) := by decide +kernel
theorem dX12_agrees_82 : decode cX12_agrees 82 = .ok (.goto (-62), 3) := by decide +kernel
theorem dX12_agrees_85 : decode cX12_agrees 85 = .ok (.iload 4, 2) := by decide +kernel
theorem dX12_agrees_87 : decode cX12_agrees 87 = .ok (.ifCond .eq 30, 3) := by decide +kernel
theorem dX12_agrees_90 : decode cX12_agrees 90 = .ok (.aload_n 0, 1) := by decide +kernel
theorem dX12_agrees_91 : decode cX12_agrees 91 = .ok (.getfield 80, 3) := by decide +kernel
theorem dX12_agrees_94 : decode cX12_agrees 94 = .ok (.iload_n 1, 1) := by decide +kernel
theorem dX12_agrees_95 : decode cX12_agrees 95 = .ok (.aload_n 0, 1) := by decide +kernel
theorem dX12_agrees_96 : decode cX12_agrees 96 = .ok (.getfield 80, 3) := by decide +kernel
theorem dX12_agrees_99 : decode cX12_agrees 99 = .ok (.iload_n 1, 1) := by decide +kernel
theorem dX12_agrees_100 : decode cX12_agrees 100 = .ok (.iaload, 1) := by decide +kernel
theorem dX12_agrees_101 : decode cX12_agrees 101 = .ok (.iload 4, 2) := by decide +kernel
theorem dX12_agrees_103 : decode cX12_agrees 103 = .ok (.ifCond .le 7, 3) := by decide +kernel
theorem dX12_agrees_106 : decode cX12_agrees 106 = .ok (.iload_n 3, 1) := by decide +kernel
theorem dX12_agrees_107 : decode cX12_agrees 107 = .ok (.goto 6, 3) := by decide +kernel
theorem dX12_agrees_110 : decode cX12_agrees 110 = .ok (.iload_n 3, 1) := by decide +kernel
theorem dX12_agrees_111 : decode cX12_agrees 111 = .ok (.iconst 4, 1) := by decide +kernel
theorem dX12_agrees_112 : decode cX12_agrees 112 = .ok (.iadd, 1) := by decide +kernel
theorem dX12_agrees_113 : decode cX12_agrees 113 = .ok (.invokestatic 300, 3) := by decide +kernel
theorem dX12_agrees_116 : decode cX12_agrees 116 = .ok (.iastore, 1) := by decide +kernel
theorem dX12_agrees_117 : decode cX12_agrees 117 = .ok (.iinc 3 1, 3) := by decide +kernel
theorem dX12_agrees_120 : decode cX12_agrees 120 = .ok (.goto (-111), 3) := by decide +kernel
theorem dX12_agrees_123 : decode cX12_agrees 123 = .ok (.aload_n 0, 1) := by decide +kernel
theorem dX12_agrees_124 : decode cX12_agrees 124 = .ok (.getfield 80, 3) := by decide +kernel
theorem dX12_agrees_127 : decode cX12_agrees 127 = .ok (.iload_n 1, 1) := by decide +kernel
theorem dX12_agrees_128 : decode cX12_agrees 128 = .ok (.iaload, 1) := by decide +kernel
theorem dX12_agrees_129 : decode cX12_agrees 129 = .ok (.iload_n 2, 1) := by decide +kernel
theorem dX12_agrees_130 : decode cX12_agrees 130 = .ok (.if_icmp .ne 7, 3) := by decide +kernel
theorem dX12_agrees_133 : decode cX12_agrees 133 = .ok (.iconst 1, 1) := by decide +kernel
theorem dX12_agrees_134 : decode cX12_agrees 134 = .ok (.goto 4, 3) := by decide +kernel
theorem dX12_agrees_137 : decode cX12_agrees 137 = .ok (.iconst 0, 1) := by decide +kernel
theorem dX12_agrees_138 : decode cX12_agrees 138 = .ok (.ireturn, 1) := by decide +kernel
theorem dX12_tea_0 : decode cX12_tea 0 = .ok (.aload_n 0, 1) := by decide +kernel
theorem dX12_tea_1 : decode cX12_tea 1 = .ok (.iconst 0, 1) := by decide +kernel
theorem dX12_tea_2 : decode cX12_tea 2 = .ok (.putfield 1, 3) := by decide +kernel
theorem dX12_tea_5 : decode cX12_tea 5 = .ok (.aload_n 0, 1) := by decide +kernel
theorem dX12_tea_6 : decode cX12_tea 6 = .ok (.aload_n 0, 1) := by decide +kernel
theorem dX12_tea_7 : decode cX12_tea 7 = .ok (.getfield 33, 3) := by decide +kernel
theorem dX12_tea_10 : decode cX12_tea 10 = .ok (.iconst 1, 1) := by decide +kernel
theorem dX12_tea_11 : decode cX12_tea 11 = .ok (.iaload, 1) := by decide +kernel
theorem dX12_tea_12 : decode cX12_tea 12 = .ok (.putfield 83, 3) := by decide +kernel
theorem dX12_tea_15 : decode cX12_tea 15 = .ok (.iconst 0, 1) := by decide +kernel
theorem dX12_tea_16 : decode cX12_tea 16 = .ok (.istore_n 1, 1) := by decide +kernel
theorem dX12_tea_17 : decode cX12_tea 17 = .ok (.iload_n 1, 1) := by decide +kernel
theorem dX12_tea_18 : decode cX12_tea 18 = .ok (.bipush 6, 2) := by decide +kernel
theorem dX12_tea_20 : decode cX12_tea 20 = .ok (.if_icmp .ge 24, 3) := by decide +kernel
theorem dX12_tea_23 : decode cX12_tea 23 = .ok (.aload_n 0, 1) := by decide +kernel
theorem dX12_tea_24 : decode cX12_tea 24 = .ok (.getfield 80, 3) := by decide +kernel
theorem dX12_tea_27 : decode cX12_tea 27 = .ok (.iload_n 1, 1) := by decide +kernel
theorem dX12_tea_28 : decode cX12_tea 28 = .ok (.aload_n 0, 1) := by decide +kernel
theorem dX12_tea_29 : decode cX12_tea 29 = .ok (.getfield 33, 3) := by decide +kernel
theorem dX12_tea_32 : decode cX12_tea 32 = .ok (.bipush 59, 2) := by decide +kernel
theorem dX12_tea_34 : decode cX12_tea 34 = .ok (.iload_n 1, 1) := by decide +kernel
theorem dX12_tea_35 : decode cX12_tea 35 = .ok (.iadd, 1) := by decide +kernel
theorem dX12_tea_36 : decode cX12_tea 36 = .ok (.iaload, 1) := by decide +kernel
theorem dX12_tea_37 : decode cX12_tea 37 = .ok (.iastore, 1) := by decide +kernel
theorem dX12_tea_38 : decode cX12_tea 38 = .ok (.iinc 1 1, 3) := by decide +kernel
theorem dX12_tea_41 : decode cX12_tea 41 = .ok (.goto (-24), 3) := by decide +kernel
theorem dX12_tea_44 : decode cX12_tea 44 = .ok (.iconst 1, 1) := by decide +kernel
theorem dX12_tea_45 : decode cX12_tea 45 = .ok (.istore_n 1, 1) := by decide +kernel
theorem dX12_tea_46 : decode cX12_tea 46 = .ok (.iconst 0, 1) := by decide +kernel
theorem dX12_tea_47 : decode cX12_tea 47 = .ok (.istore_n 2, 1) := by decide +kernel
theorem dX12_tea_48 : decode cX12_tea 48 = .ok (.iload_n 1, 1) := by decide +kernel
theorem dX12_tea_49 : decode cX12_tea 49 = .ok (.ifCond .eq 68, 3) := by decide +kernel
theorem dX12_tea_52 : decode cX12_tea 52 = .ok (.iload_n 2, 1) := by decide +kernel
theorem dX12_tea_53 : decode cX12_tea 53 = .ok (.bipush 10, 2) := by decide +kernel
theorem dX12_tea_55 : decode cX12_tea 55 = .ok (.if_icmp .ge 62, 3) := by decide +kernel
theorem dX12_tea_58 : decode cX12_tea 58 = .ok (.iconst 0, 1) := by decide +kernel
theorem dX12_tea_59 : decode cX12_tea 59 = .ok (.istore_n 1, 1) := by decide +kernel
theorem dX12_tea_60 : decode cX12_tea 60 = .ok (.iconst 0, 1) := by decide +kernel
theorem dX12_tea_61 : decode cX12_tea 61 = .ok (.istore_n 3, 1) := by decide +kernel
theorem dX12_tea_62 : decode cX12_tea 62 = .ok (.iload_n 3, 1) := by decide +kernel
theorem dX12_tea_63 : decode cX12_tea 63 = .ok (.aload_n 0, 1) := by decide +kernel
theorem dX12_tea_64 : decode cX12_tea 64 = .ok (.getfield 33, 3) := by decide +kernel
theorem dX12_tea_67 : decode cX12_tea 67 = .ok (.iconst 1, 1) := by decide +kernel
theorem dX12_tea_68 : decode cX12_tea 68 = .ok (.iaload, 1) := by decide +kernel
theorem dX12_tea_69 : decode cX12_tea 69 = .ok (.if_icmp .ge 42, 3) := by decide +kernel
theorem dX12_tea_72 : decode cX12_tea 72 = .ok (.aload_n 0, 1) := by decide +kernel
theorem dX12_tea_73 : decode cX12_tea 73 = .ok (.iload_n 3, 1) := by decide +kernel
theorem dX12_tea_74 : decode cX12_tea 74 = .ok (.invokevirtual 337, 3) := by decide +kernel
theorem dX12_tea_77 : decode cX12_tea 77 = .ok (.ifCond .eq 6, 3) := by decide +kernel
theorem dX12_tea_80 : decode cX12_tea 80 = .ok (.goto 25, 3) := by decide +kernel
theorem dX12_tea_83 : decode cX12_tea 83 = .ok (.aload_n 0, 1) := by decide +kernel
theorem dX12_tea_84 : decode cX12_tea 84 = .ok (.iload_n 3, 1) := by decide +kernel
theorem dX12_tea_85 : decode cX12_tea 85 = .ok (.invokevirtual 408, 3) := by decide +kernel
theorem dX12_tea_88 : decode cX12_tea 88 = .ok (.istore 4, 2) := by decide +kernel
theorem dX12_tea_90 : decode cX12_tea 90 = .ok (.iload_n 1, 1) := by decide +kernel
theorem dX12_tea_91 : decode cX12_tea 91 = .ok (.ifCond .ne 8, 3) := by decide +kernel
theorem dX12_tea_94 : decode cX12_tea 94 = .ok (.iload 4, 2) := by decide +kernel
theorem dX12_tea_96 : decode cX12_tea 96 = .ok (.ifCond .ne 7, 3) := by decide +kernel
theorem dX12_tea_99 : decode cX12_tea 99 = .ok (.iconst 1, 1) := by decide +kernel
theorem dX12_tea_100 : decode cX12_tea 100 = .ok (.goto 4, 3) := by decide +kernel
theorem dX12_tea_103 : decode cX12_tea 103 = .ok (.iconst 0, 1) := by decide +kernel
theorem dX12_tea_104 : decode cX12_tea 104 = .ok (.istore_n 1, 1) := by decide +kernel
theorem dX12_tea_105 : decode cX12_tea 105 = .ok (.iinc 3 1, 3) := by decide +kernel
theorem dX12_tea_108 : decode cX12_tea 108 = .ok (.goto (-46), 3) := by decide +kernel
theorem dX12_tea_111 : decode cX12_tea 111 = .ok (.iinc 2 1, 3) := by decide +kernel
theorem dX12_tea_114 : decode cX12_tea 114 = .ok (.goto (-66), 3) := by decide +kernel
theorem dX12_tea_117 : decode cX12_tea 117 = .ok (.iload_n 2, 1) := by decide +kernel
theorem dX12_tea_118 : decode cX12_tea 118 = .ok (.ireturn, 1) := by decide +kernel
theorem dX12_teaOf_0 : decode cX12_teaOf 0 = .ok (.aload_n 0, 1) := by decide +kernel
theorem dX12_teaOf_1 : decode cX12_teaOf 1 = .ok (.iconst 0, 1) := by decide +kernel
theorem dX12_teaOf_2 : decode cX12_teaOf 2 = .ok (.putfield 1, 3) := by decide +kernel
theorem dX12_teaOf_5 : decode cX12_teaOf 5 = .ok (.iload_n 1, 1) := by decide +kernel
theorem dX12_teaOf_6 : decode cX12_teaOf 6 = .ok (.iconst 0, 1) := by decide +kernel
theorem dX12_teaOf_7 : decode cX12_teaOf 7 = .ok (.aload_n 0, 1) := by decide +kernel
theorem dX12_teaOf_8 : decode cX12_teaOf 8 = .ok (.getfield 83, 3) := by decide +kernel
theorem dX12_teaOf_11 : decode cX12_teaOf 11 = .ok (.iconst 1, 1) := by decide +kernel
theorem dX12_teaOf_12 : decode cX12_teaOf 12 = .ok (.isub, 1) := by decide +kernel
theorem dX12_teaOf_13 : decode cX12_teaOf 13 = .ok (.invokestatic 225, 3) := by decide +kernel
theorem dX12_teaOf_16 : decode cX12_teaOf 16 = .ok (.ifCond .eq 12, 3) := by decide +kernel
theorem dX12_teaOf_19 : decode cX12_teaOf 19 = .ok (.aload_n 0, 1) := by decide +kernel
theorem dX12_teaOf_20 : decode cX12_teaOf 20 = .ok (.getfield 80, 3) := by decide +kernel
theorem dX12_teaOf_23 : decode cX12_teaOf 23 = .ok (.iload_n 1, 1) := by decide +kernel
theorem dX12_teaOf_24 : decode cX12_teaOf 24 = .ok (.iaload, 1) := by decide +kernel
theorem dX12_teaOf_25 : decode cX12_teaOf 25 = .ok (.goto 4, 3) := by decide +kernel
theorem dX12_teaOf_28 : decode cX12_teaOf 28 = .ok (.iconst (-1), 1) := by decide +kernel
theorem dX12_teaOf_29 : decode cX12_teaOf 29 = .ok (.ireturn, 1) := by decide +kernel
theorem dX12_when_0 : decode cX12_when 0 = .ok (.aload_n 0, 1) := by decide +kernel
theorem dX12_when_1 : decode cX12_when 1 = .ok (.iconst 0, 1) := by decide +kernel
theorem dX12_when_2 : decode cX12_when 2 = .ok (.putfield 1, 3) := by decide +kernel
theorem dX12_when_5 : decode cX12_when 5 = .ok (.aload_n 0, 1) := by decide +kernel
theorem dX12_when_6 : decode cX12_when 6 = .ok (.iload_n 1, 1) := by decide +kernel
theorem dX12_when_7 : decode cX12_when 7 = .ok (.invokevirtual 331, 3) := by decide +kernel
theorem dX12_when_10 : decode cX12_when 10 = .ok (.ifCond .eq 11, 3) := by decide +kernel
theorem dX12_when_13 : decode cX12_when 13 = .ok (.aload_n 0, 1) := by decide +kernel
theorem dX12_when_14 : decode cX12_when 14 = .ok (.iload_n 2, 1) := by decide +kernel
theorem dX12_when_15 : decode cX12_when 15 = .ok (.invokevirtual 362, 3) := by decide +kernel
theorem dX12_when_18 : decode cX12_when 18 = .ok (.ifCond .ne 5, 3) := by decide +kernel
theorem dX12_when_21 : decode cX12_when 21 = .ok (.iconst (-1), 1) := by decide +kernel
theorem dX12_when_22 : decode cX12_when 22 = .ok (.ireturn, 1) := by decide +kernel
theorem dX12_when_23 : decode cX12_when 23 = .ok (.iload_n 2, 1) := by decide +kernel
theorem dX12_when_24 : decode cX12_when 24 = .ok (.aload_n 0, 1) := by decide +kernel
theorem dX12_when_25 : decode cX12_when 25 = .ok (.getfield 33, 3) := by decide +kernel
theorem dX12_when_28 : decode cX12_when 28 = .ok (.bipush 45, 2) := by decide +kernel
theorem dX12_when_30 : decode cX12_when 30 = .ok (.iload_n 1, 1) := by decide +kernel
theorem dX12_when_31 : decode cX12_when 31 = .ok (.iadd, 1) := by decide +kernel
theorem dX12_when_32 : decode cX12_when 32 = .ok (.iaload, 1) := by decide +kernel
theorem dX12_when_33 : decode cX12_when 33 = .ok (.isub, 1) := by decide +kernel
theorem dX12_when_34 : decode cX12_when 34 = .ok (.bipush 7, 2) := by decide +kernel
theorem dX12_when_36 : decode cX12_when 36 = .ok (.iand, 1) := by decide +kernel
theorem dX12_when_37 : decode cX12_when 37 = .ok (.istore_n 3, 1) := by decide +kernel
theorem dX12_when_38 : decode cX12_when 38 = .ok (.iload_n 3, 1) := by decide +kernel
theorem dX12_when_39 : decode cX12_when 39 = .ok (.ifCond .eq 17, 3) := by decide +kernel
theorem dX12_when_42 : decode cX12_when 42 = .ok (.aload_n 0, 1) := by decide +kernel
theorem dX12_when_43 : decode cX12_when 43 = .ok (.getfield 33, 3) := by decide +kernel
theorem dX12_when_46 : decode cX12_when 46 = .ok (.bipush 23, 2) := by decide +kernel
theorem dX12_when_48 : decode cX12_when 48 = .ok (.iaload, 1) := by decide +kernel
theorem dX12_when_49 : decode cX12_when 49 = .ok (.iload_n 1, 1) := by decide +kernel
theorem dX12_when_50 : decode cX12_when 50 = .ok (.invokestatic 275, 3) := by decide +kernel
theorem dX12_when_53 : decode cX12_when 53 = .ok (.ifCond .eq 7, 3) := by decide +kernel
theorem dX12_when_56 : decode cX12_when 56 = .ok (.iload_n 3, 1) := by decide +kernel
theorem dX12_when_57 : decode cX12_when 57 = .ok (.goto 4, 3) := by decide +kernel
theorem dX12_when_60 : decode cX12_when 60 = .ok (.iconst (-1), 1) := by decide +kernel
theorem dX12_when_61 : decode cX12_when 61 = .ok (.ireturn, 1) := by decide +kernel
