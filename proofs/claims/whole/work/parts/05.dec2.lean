theorem dX8_lookBits_26 : decode cX8_lookBits 26 = .ok (.ishl, 1) := by decide +kernel
theorem dX8_lookBits_27 : decode cX8_lookBits 27 = .ok (.ior, 1) := by decide +kernel
theorem dX8_lookBits_28 : decode cX8_lookBits 28 = .ok (.istore_n 2, 1) := by decide +kernel
theorem dX8_lookBits_29 : decode cX8_lookBits 29 = .ok (.iinc 4 1, 3) := by decide +kernel
theorem dX8_lookBits_32 : decode cX8_lookBits 32 = .ok (.goto (-21), 3) := by decide +kernel
theorem dX8_lookBits_35 : decode cX8_lookBits 35 = .ok (.iload_n 2, 1) := by decide +kernel
theorem dX8_lookBits_36 : decode cX8_lookBits 36 = .ok (.ireturn, 1) := by decide +kernel
theorem dX8_lookBitsOfAll_0 : decode cX8_lookBitsOfAll 0 = .ok (.iconst 0, 1) := by decide +kernel
theorem dX8_lookBitsOfAll_1 : decode cX8_lookBitsOfAll 1 = .ok (.istore_n 2, 1) := by decide +kernel
theorem dX8_lookBitsOfAll_2 : decode cX8_lookBitsOfAll 2 = .ok (.iconst 0, 1) := by decide +kernel
theorem dX8_lookBitsOfAll_3 : decode cX8_lookBitsOfAll 3 = .ok (.istore_n 3, 1) := by decide +kernel
theorem dX8_lookBitsOfAll_4 : decode cX8_lookBitsOfAll 4 = .ok (.iload_n 3, 1) := by decide +kernel
theorem dX8_lookBitsOfAll_5 : decode cX8_lookBitsOfAll 5 = .ok (.aload_n 0, 1) := by decide +kernel
theorem dX8_lookBitsOfAll_6 : decode cX8_lookBitsOfAll 6 = .ok (.getfield 43, 3) := by decide +kernel
theorem dX8_lookBitsOfAll_9 : decode cX8_lookBitsOfAll 9 = .ok (.if_icmp .ge 26, 3) := by decide +kernel
theorem dX8_lookBitsOfAll_12 : decode cX8_lookBitsOfAll 12 = .ok (.iload_n 1, 1) := by decide +kernel
theorem dX8_lookBitsOfAll_13 : decode cX8_lookBitsOfAll 13 = .ok (.iload_n 3, 1) := by decide +kernel
theorem dX8_lookBitsOfAll_14 : decode cX8_lookBitsOfAll 14 = .ok (.ishr, 1) := by decide +kernel
theorem dX8_lookBitsOfAll_15 : decode cX8_lookBitsOfAll 15 = .ok (.iconst 1, 1) := by decide +kernel
theorem dX8_lookBitsOfAll_16 : decode cX8_lookBitsOfAll 16 = .ok (.iand, 1) := by decide +kernel
theorem dX8_lookBitsOfAll_17 : decode cX8_lookBitsOfAll 17 = .ok (.iconst 1, 1) := by decide +kernel
theorem dX8_lookBitsOfAll_18 : decode cX8_lookBitsOfAll 18 = .ok (.if_icmp .ne 11, 3) := by decide +kernel
theorem dX8_lookBitsOfAll_21 : decode cX8_lookBitsOfAll 21 = .ok (.iload_n 2, 1) := by decide +kernel
theorem dX8_lookBitsOfAll_22 : decode cX8_lookBitsOfAll 22 = .ok (.aload_n 0, 1) := by decide +kernel
theorem dX8_lookBitsOfAll_23 : decode cX8_lookBitsOfAll 23 = .ok (.iload_n 3, 1) := by decide +kernel
theorem dX8_lookBitsOfAll_24 : decode cX8_lookBitsOfAll 24 = .ok (.invokevirtual 137, 3) := by decide +kernel
theorem dX8_lookBitsOfAll_27 : decode cX8_lookBitsOfAll 27 = .ok (.ior, 1) := by decide +kernel
theorem dX8_lookBitsOfAll_28 : decode cX8_lookBitsOfAll 28 = .ok (.istore_n 2, 1) := by decide +kernel
theorem dX8_lookBitsOfAll_29 : decode cX8_lookBitsOfAll 29 = .ok (.iinc 3 1, 3) := by decide +kernel
theorem dX8_lookBitsOfAll_32 : decode cX8_lookBitsOfAll 32 = .ok (.goto (-28), 3) := by decide +kernel
theorem dX8_lookBitsOfAll_35 : decode cX8_lookBitsOfAll 35 = .ok (.iload_n 2, 1) := by decide +kernel
theorem dX8_lookBitsOfAll_36 : decode cX8_lookBitsOfAll 36 = .ok (.ireturn, 1) := by decide +kernel
theorem dX8_afterClimb_0 : decode cX8_afterClimb 0 = .ok (.iload_n 1, 1) := by decide +kernel
theorem dX8_afterClimb_1 : decode cX8_afterClimb 1 = .ok (.istore_n 3, 1) := by decide +kernel
theorem dX8_afterClimb_2 : decode cX8_afterClimb 2 = .ok (.aload_n 0, 1) := by decide +kernel
theorem dX8_afterClimb_3 : decode cX8_afterClimb 3 = .ok (.iload_n 2, 1) := by decide +kernel
theorem dX8_afterClimb_4 : decode cX8_afterClimb 4 = .ok (.invokevirtual 131, 3) := by decide +kernel
theorem dX8_afterClimb_7 : decode cX8_afterClimb 7 = .ok (.istore 4, 2) := by decide +kernel
theorem dX8_afterClimb_9 : decode cX8_afterClimb 9 = .ok (.iconst 0, 1) := by decide +kernel
theorem dX8_afterClimb_10 : decode cX8_afterClimb 10 = .ok (.istore 5, 2) := by decide +kernel
theorem dX8_afterClimb_12 : decode cX8_afterClimb 12 = .ok (.iload 5, 2) := by decide +kernel
theorem dX8_afterClimb_14 : decode cX8_afterClimb 14 = .ok (.iload 4, 2) := by decide +kernel
theorem dX8_afterClimb_16 : decode cX8_afterClimb 16 = .ok (.if_icmp .ge 21, 3) := by decide +kernel
theorem dX8_afterClimb_19 : decode cX8_afterClimb 19 = .ok (.iload_n 3, 1) := by decide +kernel
theorem dX8_afterClimb_20 : decode cX8_afterClimb 20 = .ok (.aload_n 0, 1) := by decide +kernel
theorem dX8_afterClimb_21 : decode cX8_afterClimb 21 = .ok (.iload_n 2, 1) := by decide +kernel
theorem dX8_afterClimb_22 : decode cX8_afterClimb 22 = .ok (.iload 5, 2) := by decide +kernel
theorem dX8_afterClimb_24 : decode cX8_afterClimb 24 = .ok (.invokevirtual 134, 3) := by decide +kernel
theorem dX8_afterClimb_27 : decode cX8_afterClimb 27 = .ok (.invokestatic 140, 3) := by decide +kernel
theorem dX8_afterClimb_30 : decode cX8_afterClimb 30 = .ok (.istore_n 3, 1) := by decide +kernel
theorem dX8_afterClimb_31 : decode cX8_afterClimb 31 = .ok (.iinc 5 1, 3) := by decide +kernel
theorem dX8_afterClimb_34 : decode cX8_afterClimb 34 = .ok (.goto (-22), 3) := by decide +kernel
theorem dX8_afterClimb_37 : decode cX8_afterClimb 37 = .ok (.iload_n 3, 1) := by decide +kernel
theorem dX8_afterClimb_38 : decode cX8_afterClimb 38 = .ok (.ireturn, 1) := by decide +kernel
theorem dX8_whoIsUp_0 : decode cX8_whoIsUp 0 = .ok (.iconst 0, 1) := by decide +kernel
theorem dX8_whoIsUp_1 : decode cX8_whoIsUp 1 = .ok (.istore_n 2, 1) := by decide +kernel
theorem dX8_whoIsUp_2 : decode cX8_whoIsUp 2 = .ok (.iload_n 2, 1) := by decide +kernel
theorem dX8_whoIsUp_3 : decode cX8_whoIsUp 3 = .ok (.aload_n 0, 1) := by decide +kernel
theorem dX8_whoIsUp_4 : decode cX8_whoIsUp 4 = .ok (.getfield 59, 3) := by decide +kernel
theorem dX8_whoIsUp_7 : decode cX8_whoIsUp 7 = .ok (.if_icmp .ge 21, 3) := by decide +kernel
theorem dX8_whoIsUp_10 : decode cX8_whoIsUp 10 = .ok (.aload_n 0, 1) := by decide +kernel
theorem dX8_whoIsUp_11 : decode cX8_whoIsUp 11 = .ok (.getfield 37, 3) := by decide +kernel
theorem dX8_whoIsUp_14 : decode cX8_whoIsUp 14 = .ok (.iload_n 2, 1) := by decide +kernel
theorem dX8_whoIsUp_15 : decode cX8_whoIsUp 15 = .ok (.iaload, 1) := by decide +kernel
theorem dX8_whoIsUp_16 : decode cX8_whoIsUp 16 = .ok (.iload_n 1, 1) := by decide +kernel
theorem dX8_whoIsUp_17 : decode cX8_whoIsUp 17 = .ok (.if_icmp .ne 5, 3) := by decide +kernel
theorem dX8_whoIsUp_20 : decode cX8_whoIsUp 20 = .ok (.iload_n 2, 1) := by decide +kernel
theorem dX8_whoIsUp_21 : decode cX8_whoIsUp 21 = .ok (.ireturn, 1) := by decide +kernel
theorem dX8_whoIsUp_22 : decode cX8_whoIsUp 22 = .ok (.iinc 2 1, 3) := by decide +kernel
theorem dX8_whoIsUp_25 : decode cX8_whoIsUp 25 = .ok (.goto (-23), 3) := by decide +kernel
theorem dX8_whoIsUp_28 : decode cX8_whoIsUp 28 = .ok (.iconst (-1), 1) := by decide +kernel
theorem dX8_whoIsUp_29 : decode cX8_whoIsUp 29 = .ok (.ireturn, 1) := by decide +kernel
theorem dX8_isPleased_0 : decode cX8_isPleased 0 = .ok (.aload_n 0, 1) := by decide +kernel
theorem dX8_isPleased_1 : decode cX8_isPleased 1 = .ok (.getfield 28, 3) := by decide +kernel
theorem dX8_isPleased_4 : decode cX8_isPleased 4 = .ok (.iload_n 1, 1) := by decide +kernel
theorem dX8_isPleased_5 : decode cX8_isPleased 5 = .ok (.iaload, 1) := by decide +kernel
theorem dX8_isPleased_6 : decode cX8_isPleased 6 = .ok (.aload_n 0, 1) := by decide +kernel
theorem dX8_isPleased_7 : decode cX8_isPleased 7 = .ok (.getfield 31, 3) := by decide +kernel
theorem dX8_isPleased_10 : decode cX8_isPleased 10 = .ok (.iload_n 1, 1) := by decide +kernel
theorem dX8_isPleased_11 : decode cX8_isPleased 11 = .ok (.iaload, 1) := by decide +kernel
theorem dX8_isPleased_12 : decode cX8_isPleased 12 = .ok (.iand, 1) := by decide +kernel
theorem dX8_isPleased_13 : decode cX8_isPleased 13 = .ok (.aload_n 0, 1) := by decide +kernel
theorem dX8_isPleased_14 : decode cX8_isPleased 14 = .ok (.getfield 31, 3) := by decide +kernel
theorem dX8_isPleased_17 : decode cX8_isPleased 17 = .ok (.iload_n 1, 1) := by decide +kernel
theorem dX8_isPleased_18 : decode cX8_isPleased 18 = .ok (.iaload, 1) := by decide +kernel
theorem dX8_isPleased_19 : decode cX8_isPleased 19 = .ok (.if_icmp .ne 7, 3) := by decide +kernel
theorem dX8_isPleased_22 : decode cX8_isPleased 22 = .ok (.iconst 1, 1) := by decide +kernel
theorem dX8_isPleased_23 : decode cX8_isPleased 23 = .ok (.goto 4, 3) := by decide +kernel
theorem dX8_isPleased_26 : decode cX8_isPleased 26 = .ok (.iconst 0, 1) := by decide +kernel
theorem dX8_isPleased_27 : decode cX8_isPleased 27 = .ok (.ireturn, 1) := by decide +kernel
theorem dX8_upBits_0 : decode cX8_upBits 0 = .ok (.iconst 0, 1) := by decide +kernel
theorem dX8_upBits_1 : decode cX8_upBits 1 = .ok (.istore_n 1, 1) := by decide +kernel
theorem dX8_upBits_2 : decode cX8_upBits 2 = .ok (.iconst 0, 1) := by decide +kernel
theorem dX8_upBits_3 : decode cX8_upBits 3 = .ok (.istore_n 2, 1) := by decide +kernel
theorem dX8_upBits_4 : decode cX8_upBits 4 = .ok (.iload_n 2, 1) := by decide +kernel
theorem dX8_upBits_5 : decode cX8_upBits 5 = .ok (.aload_n 0, 1) := by decide +kernel
theorem dX8_upBits_6 : decode cX8_upBits 6 = .ok (.getfield 59, 3) := by decide +kernel
theorem dX8_upBits_9 : decode cX8_upBits 9 = .ok (.if_icmp .ge 29, 3) := by decide +kernel
theorem dX8_upBits_12 : decode cX8_upBits 12 = .ok (.iload_n 1, 1) := by decide +kernel
theorem dX8_upBits_13 : decode cX8_upBits 13 = .ok (.aload_n 0, 1) := by decide +kernel
theorem dX8_upBits_14 : decode cX8_upBits 14 = .ok (.getfield 37, 3) := by decide +kernel
theorem dX8_upBits_17 : decode cX8_upBits 17 = .ok (.iload_n 2, 1) := by decide +kernel
theorem dX8_upBits_18 : decode cX8_upBits 18 = .ok (.iaload, 1) := by decide +kernel
theorem dX8_upBits_19 : decode cX8_upBits 19 = .ok (.iconst (-1), 1) := by decide +kernel
theorem dX8_upBits_20 : decode cX8_upBits 20 = .ok (.if_icmp .ne 7, 3) := by decide +kernel
theorem dX8_upBits_23 : decode cX8_upBits 23 = .ok (.iconst 0, 1) := by decide +kernel
theorem dX8_upBits_24 : decode cX8_upBits 24 = .ok (.goto 6, 3) := by decide +kernel
theorem dX8_upBits_27 : decode cX8_upBits 27 = .ok (.iconst 1, 1) := by decide +kernel
theorem dX8_upBits_28 : decode cX8_upBits 28 = .ok (.iload_n 2, 1) := by decide +kernel
theorem dX8_upBits_29 : decode cX8_upBits 29 = .ok (.ishl, 1) := by decide +kernel
theorem dX8_upBits_30 : decode cX8_upBits 30 = .ok (.ior, 1) := by decide +kernel
theorem dX8_upBits_31 : decode cX8_upBits 31 = .ok (.istore_n 1, 1) := by decide +kernel
theorem dX8_upBits_32 : decode cX8_upBits 32 = .ok (.iinc 2 1, 3) := by decide +kernel
theorem dX8_upBits_35 : decode cX8_upBits 35 = .ok (.goto (-31), 3) := by decide +kernel
theorem dX8_upBits_38 : decode cX8_upBits 38 = .ok (.iload_n 1, 1) := by decide +kernel
theorem dX8_upBits_39 : decode cX8_upBits 39 = .ok (.ireturn, 1) := by decide +kernel
theorem dX8_mildBits_0 : decode cX8_mildBits 0 = .ok (.iconst 0, 1) := by decide +kernel
theorem dX8_mildBits_1 : decode cX8_mildBits 1 = .ok (.istore_n 1, 1) := by decide +kernel
theorem dX8_mildBits_2 : decode cX8_mildBits 2 = .ok (.iconst 0, 1) := by decide +kernel
theorem dX8_mildBits_3 : decode cX8_mildBits 3 = .ok (.istore_n 2, 1) := by decide +kernel
theorem dX8_mildBits_4 : decode cX8_mildBits 4 = .ok (.iload_n 2, 1) := by decide +kernel
theorem dX8_mildBits_5 : decode cX8_mildBits 5 = .ok (.aload_n 0, 1) := by decide +kernel
theorem dX8_mildBits_6 : decode cX8_mildBits 6 = .ok (.getfield 59, 3) := by decide +kernel
theorem dX8_mildBits_9 : decode cX8_mildBits 9 = .ok (.if_icmp .ge 28, 3) := by decide +kernel
theorem dX8_mildBits_12 : decode cX8_mildBits 12 = .ok (.iload_n 1, 1) := by decide +kernel
theorem dX8_mildBits_13 : decode cX8_mildBits 13 = .ok (.aload_n 0, 1) := by decide +kernel
theorem dX8_mildBits_14 : decode cX8_mildBits 14 = .ok (.getfield 28, 3) := by decide +kernel
theorem dX8_mildBits_17 : decode cX8_mildBits 17 = .ok (.iload_n 2, 1) := by decide +kernel
theorem dX8_mildBits_18 : decode cX8_mildBits 18 = .ok (.iaload, 1) := by decide +kernel
theorem dX8_mildBits_19 : decode cX8_mildBits 19 = .ok (.ifCond .ne 9, 3) := by decide +kernel
theorem dX8_mildBits_22 : decode cX8_mildBits 22 = .ok (.iconst 1, 1) := by decide +kernel
theorem dX8_mildBits_23 : decode cX8_mildBits 23 = .ok (.iload_n 2, 1) := by decide +kernel
theorem dX8_mildBits_24 : decode cX8_mildBits 24 = .ok (.ishl, 1) := by decide +kernel
theorem dX8_mildBits_25 : decode cX8_mildBits 25 = .ok (.goto 4, 3) := by decide +kernel
theorem dX8_mildBits_28 : decode cX8_mildBits 28 = .ok (.iconst 0, 1) := by decide +kernel
theorem dX8_mildBits_29 : decode cX8_mildBits 29 = .ok (.ior, 1) := by decide +kernel
theorem dX8_mildBits_30 : decode cX8_mildBits 30 = .ok (.istore_n 1, 1) := by decide +kernel
theorem dX8_mildBits_31 : decode cX8_mildBits 31 = .ok (.iinc 2 1, 3) := by decide +kernel
theorem dX8_mildBits_34 : decode cX8_mildBits 34 = .ok (.goto (-30), 3) := by decide +kernel
theorem dX8_mildBits_37 : decode cX8_mildBits 37 = .ok (.iload_n 1, 1) := by decide +kernel
theorem dX8_mildBits_38 : decode cX8_mildBits 38 = .ok (.ireturn, 1) := by decide +kernel
theorem dX8_pleasedBits_0 : decode cX8_pleasedBits 0 = .ok (.iconst 0, 1) := by decide +kernel
theorem dX8_pleasedBits_1 : decode cX8_pleasedBits 1 = .ok (.istore_n 1, 1) := by decide +kernel
theorem dX8_pleasedBits_2 : decode cX8_pleasedBits 2 = .ok (.iconst 0, 1) := by decide +kernel
theorem dX8_pleasedBits_3 : decode cX8_pleasedBits 3 = .ok (.istore_n 2, 1) := by decide +kernel
theorem dX8_pleasedBits_4 : decode cX8_pleasedBits 4 = .ok (.iload_n 2, 1) := by decide +kernel
theorem dX8_pleasedBits_5 : decode cX8_pleasedBits 5 = .ok (.aload_n 0, 1) := by decide +kernel
theorem dX8_pleasedBits_6 : decode cX8_pleasedBits 6 = .ok (.getfield 59, 3) := by decide +kernel
theorem dX8_pleasedBits_9 : decode cX8_pleasedBits 9 = .ok (.if_icmp .ge 27, 3) := by decide +kernel
theorem dX8_pleasedBits_12 : decode cX8_pleasedBits 12 = .ok (.iload_n 1, 1) := by decide +kernel
theorem dX8_pleasedBits_13 : decode cX8_pleasedBits 13 = .ok (.aload_n 0, 1) := by decide +kernel
theorem dX8_pleasedBits_14 : decode cX8_pleasedBits 14 = .ok (.iload_n 2, 1) := by decide +kernel
theorem dX8_pleasedBits_15 : decode cX8_pleasedBits 15 = .ok (.invokevirtual 143, 3) := by decide +kernel
theorem dX8_pleasedBits_18 : decode cX8_pleasedBits 18 = .ok (.ifCond .eq 9, 3) := by decide +kernel
theorem dX8_pleasedBits_21 : decode cX8_pleasedBits 21 = .ok (.iconst 1, 1) := by decide +kernel
theorem dX8_pleasedBits_22 : decode cX8_pleasedBits 22 = .ok (.iload_n 2, 1) := by decide +kernel
theorem dX8_pleasedBits_23 : decode cX8_pleasedBits 23 = .ok (.ishl, 1) := by decide +kernel
theorem dX8_pleasedBits_24 : decode cX8_pleasedBits 24 = .ok (.goto 4, 3) := by decide +kernel
theorem dX8_pleasedBits_27 : decode cX8_pleasedBits 27 = .ok (.iconst 0, 1) := by decide +kernel
theorem dX8_pleasedBits_28 : decode cX8_pleasedBits 28 = .ok (.ior, 1) := by decide +kernel
theorem dX8_pleasedBits_29 : decode cX8_pleasedBits 29 = .ok (.istore_n 1, 1) := by decide +kernel
theorem dX8_pleasedBits_30 : decode cX8_pleasedBits 30 = .ok (.iinc 2 1, 3) := by decide +kernel
theorem dX8_pleasedBits_33 : decode cX8_pleasedBits 33 = .ok (.goto (-29), 3) := by decide +kernel
theorem dX8_pleasedBits_36 : decode cX8_pleasedBits 36 = .ok (.iload_n 1, 1) := by decide +kernel
theorem dX8_pleasedBits_37 : decode cX8_pleasedBits 37 = .ok (.ireturn, 1) := by decide +kernel
theorem dX8_allClimbs_0 : decode cX8_allClimbs 0 = .ok (.iconst 0, 1) := by decide +kernel
theorem dX8_allClimbs_1 : decode cX8_allClimbs 1 = .ok (.istore_n 1, 1) := by decide +kernel
theorem dX8_allClimbs_2 : decode cX8_allClimbs 2 = .ok (.iconst 0, 1) := by decide +kernel
theorem dX8_allClimbs_3 : decode cX8_allClimbs 3 = .ok (.istore_n 2, 1) := by decide +kernel
theorem dX8_allClimbs_4 : decode cX8_allClimbs 4 = .ok (.iload_n 2, 1) := by decide +kernel
theorem dX8_allClimbs_5 : decode cX8_allClimbs 5 = .ok (.aload_n 0, 1) := by decide +kernel
theorem dX8_allClimbs_6 : decode cX8_allClimbs 6 = .ok (.getfield 59, 3) := by decide +kernel
theorem dX8_allClimbs_9 : decode cX8_allClimbs 9 = .ok (.if_icmp .ge 18, 3) := by decide +kernel
theorem dX8_allClimbs_12 : decode cX8_allClimbs 12 = .ok (.iload_n 1, 1) := by decide +kernel
theorem dX8_allClimbs_13 : decode cX8_allClimbs 13 = .ok (.aload_n 0, 1) := by decide +kernel
theorem dX8_allClimbs_14 : decode cX8_allClimbs 14 = .ok (.getfield 40, 3) := by decide +kernel
theorem dX8_allClimbs_17 : decode cX8_allClimbs 17 = .ok (.iload_n 2, 1) := by decide +kernel
theorem dX8_allClimbs_18 : decode cX8_allClimbs 18 = .ok (.iaload, 1) := by decide +kernel
theorem dX8_allClimbs_19 : decode cX8_allClimbs 19 = .ok (.iadd, 1) := by decide +kernel
theorem dX8_allClimbs_20 : decode cX8_allClimbs 20 = .ok (.istore_n 1, 1) := by decide +kernel
theorem dX8_allClimbs_21 : decode cX8_allClimbs 21 = .ok (.iinc 2 1, 3) := by decide +kernel
theorem dX8_allClimbs_24 : decode cX8_allClimbs 24 = .ok (.goto (-20), 3) := by decide +kernel
theorem dX8_allClimbs_27 : decode cX8_allClimbs 27 = .ok (.iload_n 1, 1) := by decide +kernel
theorem dX8_allClimbs_28 : decode cX8_allClimbs 28 = .ok (.ireturn, 1) := by decide +kernel
theorem dX8_allViews_0 : decode cX8_allViews 0 = .ok (.iconst 0, 1) := by decide +kernel
theorem dX8_allViews_1 : decode cX8_allViews 1 = .ok (.istore_n 1, 1) := by decide +kernel
theorem dX8_allViews_2 : decode cX8_allViews 2 = .ok (.iconst 0, 1) := by decide +kernel
theorem dX8_allViews_3 : decode cX8_allViews 3 = .ok (.istore_n 2, 1) := by decide +kernel
theorem dX8_allViews_4 : decode cX8_allViews 4 = .ok (.iload_n 2, 1) := by decide +kernel
theorem dX8_allViews_5 : decode cX8_allViews 5 = .ok (.aload_n 0, 1) := by decide +kernel
theorem dX8_allViews_6 : decode cX8_allViews 6 = .ok (.getfield 59, 3) := by decide +kernel
theorem dX8_allViews_9 : decode cX8_allViews 9 = .ok (.if_icmp .ge 21, 3) := by decide +kernel
theorem dX8_allViews_12 : decode cX8_allViews 12 = .ok (.iload_n 1, 1) := by decide +kernel
theorem dX8_allViews_13 : decode cX8_allViews 13 = .ok (.aload_n 0, 1) := by decide +kernel
theorem dX8_allViews_14 : decode cX8_allViews 14 = .ok (.getfield 28, 3) := by decide +kernel
theorem dX8_allViews_17 : decode cX8_allViews 17 = .ok (.iload_n 2, 1) := by decide +kernel
theorem dX8_allViews_18 : decode cX8_allViews 18 = .ok (.iaload, 1) := by decide +kernel
theorem dX8_allViews_19 : decode cX8_allViews 19 = .ok (.invokestatic 146, 3) := by decide +kernel
theorem dX8_allViews_22 : decode cX8_allViews 22 = .ok (.iadd, 1) := by decide +kernel
theorem dX8_allViews_23 : decode cX8_allViews 23 = .ok (.istore_n 1, 1) := by decide +kernel
theorem dX8_allViews_24 : decode cX8_allViews 24 = .ok (.iinc 2 1, 3) := by decide +kernel
theorem dX8_allViews_27 : decode cX8_allViews 27 = .ok (.goto (-23), 3) := by decide +kernel
theorem dX8_allViews_30 : decode cX8_allViews 30 = .ok (.iload_n 1, 1) := by decide +kernel
theorem dX8_allViews_31 : decode cX8_allViews 31 = .ok (.ireturn, 1) := by decide +kernel
theorem dX8_howManyHave_0 : decode cX8_howManyHave 0 = .ok (.iconst 0, 1) := by decide +kernel
theorem dX8_howManyHave_1 : decode cX8_howManyHave 1 = .ok (.istore_n 2, 1) := by decide +kernel
theorem dX8_howManyHave_2 : decode cX8_howManyHave 2 = .ok (.iconst 0, 1) := by decide +kernel
theorem dX8_howManyHave_3 : decode cX8_howManyHave 3 = .ok (.istore_n 3, 1) := by decide +kernel
theorem dX8_howManyHave_4 : decode cX8_howManyHave 4 = .ok (.iload_n 3, 1) := by decide +kernel
theorem dX8_howManyHave_5 : decode cX8_howManyHave 5 = .ok (.aload_n 0, 1) := by decide +kernel
theorem dX8_howManyHave_6 : decode cX8_howManyHave 6 = .ok (.getfield 59, 3) := by decide +kernel
theorem dX8_howManyHave_9 : decode cX8_howManyHave 9 = .ok (.if_icmp .ge 22, 3) := by decide +kernel
theorem dX8_howManyHave_12 : decode cX8_howManyHave 12 = .ok (.iload_n 2, 1) := by decide +kernel
theorem dX8_howManyHave_13 : decode cX8_howManyHave 13 = .ok (.aload_n 0, 1) := by decide +kernel
theorem dX8_howManyHave_14 : decode cX8_howManyHave 14 = .ok (.getfield 28, 3) := by decide +kernel
theorem dX8_howManyHave_17 : decode cX8_howManyHave 17 = .ok (.iload_n 3, 1) := by decide +kernel
theorem dX8_howManyHave_18 : decode cX8_howManyHave 18 = .ok (.iaload, 1) := by decide +kernel
theorem dX8_howManyHave_19 : decode cX8_howManyHave 19 = .ok (.iload_n 1, 1) := by decide +kernel
theorem dX8_howManyHave_20 : decode cX8_howManyHave 20 = .ok (.ishr, 1) := by decide +kernel
theorem dX8_howManyHave_21 : decode cX8_howManyHave 21 = .ok (.iconst 1, 1) := by decide +kernel
theorem dX8_howManyHave_22 : decode cX8_howManyHave 22 = .ok (.iand, 1) := by decide +kernel
theorem dX8_howManyHave_23 : decode cX8_howManyHave 23 = .ok (.iadd, 1) := by decide +kernel
theorem dX8_howManyHave_24 : decode cX8_howManyHave 24 = .ok (.istore_n 2, 1) := by decide +kernel
theorem dX8_howManyHave_25 : decode cX8_howManyHave 25 = .ok (.iinc 3 1, 3) := by decide +kernel
theorem dX8_howManyHave_28 : decode cX8_howManyHave 28 = .ok (.goto (-24), 3) := by decide +kernel
theorem dX8_howManyHave_31 : decode cX8_howManyHave 31 = .ok (.iload_n 2, 1) := by decide +kernel
theorem dX8_howManyHave_32 : decode cX8_howManyHave 32 = .ok (.ireturn, 1) := by decide +kernel
theorem dX8_climbable_0 : decode cX8_climbable 0 = .ok (.iconst 0, 1) := by decide +kernel
theorem dX8_climbable_1 : decode cX8_climbable 1 = .ok (.istore_n 2, 1) := by decide +kernel
theorem dX8_climbable_2 : decode cX8_climbable 2 = .ok (.iconst 0, 1) := by decide +kernel
theorem dX8_climbable_3 : decode cX8_climbable 3 = .ok (.istore_n 3, 1) := by decide +kernel
theorem dX8_climbable_4 : decode cX8_climbable 4 = .ok (.iload_n 3, 1) := by decide +kernel
theorem dX8_climbable_5 : decode cX8_climbable 5 = .ok (.aload_n 0, 1) := by decide +kernel
theorem dX8_climbable_6 : decode cX8_climbable 6 = .ok (.getfield 43, 3) := by decide +kernel
theorem dX8_climbable_9 : decode cX8_climbable 9 = .ok (.if_icmp .ge 60, 3) := by decide +kernel
theorem dX8_climbable_12 : decode cX8_climbable 12 = .ok (.aload_n 0, 1) := by decide +kernel
theorem dX8_climbable_13 : decode cX8_climbable 13 = .ok (.iload_n 3, 1) := by decide +kernel
theorem dX8_climbable_14 : decode cX8_climbable 14 = .ok (.invokevirtual 151, 3) := by decide +kernel
theorem dX8_climbable_17 : decode cX8_climbable 17 = .ok (.istore 4, 2) := by decide +kernel
theorem dX8_climbable_19 : decode cX8_climbable 19 = .ok (.aload_n 0, 1) := by decide +kernel
theorem dX8_climbable_20 : decode cX8_climbable 20 = .ok (.getfield 56, 3) := by decide +kernel
theorem dX8_climbable_23 : decode cX8_climbable 23 = .ok (.iload_n 3, 1) := by decide +kernel
theorem dX8_climbable_24 : decode cX8_climbable 24 = .ok (.ishr, 1) := by decide +kernel
theorem dX8_climbable_25 : decode cX8_climbable 25 = .ok (.iconst 1, 1) := by decide +kernel
theorem dX8_climbable_26 : decode cX8_climbable 26 = .ok (.iand, 1) := by decide +kernel
theorem dX8_climbable_27 : decode cX8_climbable 27 = .ok (.ifCond .ne 36, 3) := by decide +kernel
theorem dX8_climbable_30 : decode cX8_climbable 30 = .ok (.aload_n 0, 1) := by decide +kernel
theorem dX8_climbable_31 : decode cX8_climbable 31 = .ok (.getfield 22, 3) := by decide +kernel
theorem dX8_climbable_34 : decode cX8_climbable 34 = .ok (.iload_n 3, 1) := by decide +kernel
theorem dX8_climbable_35 : decode cX8_climbable 35 = .ok (.iaload, 1) := by decide +kernel
theorem dX8_climbable_36 : decode cX8_climbable 36 = .ok (.aload_n 0, 1) := by decide +kernel
theorem dX8_climbable_37 : decode cX8_climbable 37 = .ok (.getfield 34, 3) := by decide +kernel
theorem dX8_climbable_40 : decode cX8_climbable 40 = .ok (.iload_n 1, 1) := by decide +kernel
theorem dX8_climbable_41 : decode cX8_climbable 41 = .ok (.iaload, 1) := by decide +kernel
theorem dX8_climbable_42 : decode cX8_climbable 42 = .ok (.if_icmp .gt 21, 3) := by decide +kernel
theorem dX8_climbable_45 : decode cX8_climbable 45 = .ok (.iload 4, 2) := by decide +kernel
theorem dX8_climbable_47 : decode cX8_climbable 47 = .ok (.iconst (-1), 1) := by decide +kernel
theorem dX8_climbable_48 : decode cX8_climbable 48 = .ok (.if_icmp .eq 9, 3) := by decide +kernel
theorem dX8_climbable_51 : decode cX8_climbable 51 = .ok (.iload 4, 2) := by decide +kernel
theorem dX8_climbable_53 : decode cX8_climbable 53 = .ok (.iload_n 1, 1) := by decide +kernel
theorem dX8_climbable_54 : decode cX8_climbable 54 = .ok (.if_icmp .ne 9, 3) := by decide +kernel
theorem dX8_climbable_57 : decode cX8_climbable 57 = .ok (.iload_n 2, 1) := by decide +kernel
theorem dX8_climbable_58 : decode cX8_climbable 58 = .ok (.iconst 1, 1) := by decide +kernel
theorem dX8_climbable_59 : decode cX8_climbable 59 = .ok (.iload_n 3, 1) := by decide +kernel
theorem dX8_climbable_60 : decode cX8_climbable 60 = .ok (.ishl, 1) := by decide +kernel
theorem dX8_climbable_61 : decode cX8_climbable 61 = .ok (.ior, 1) := by decide +kernel
theorem dX8_climbable_62 : decode cX8_climbable 62 = .ok (.istore_n 2, 1) := by decide +kernel
theorem dX8_climbable_63 : decode cX8_climbable 63 = .ok (.iinc 3 1, 3) := by decide +kernel
theorem dX8_climbable_66 : decode cX8_climbable 66 = .ok (.goto (-62), 3) := by decide +kernel
theorem dX8_climbable_69 : decode cX8_climbable 69 = .ok (.iload_n 2, 1) := by decide +kernel
theorem dX8_climbable_70 : decode cX8_climbable 70 = .ok (.ireturn, 1) := by decide +kernel
theorem dX8_friendsOf_0 : decode cX8_friendsOf 0 = .ok (.aload_n 0, 1) := by decide +kernel
theorem dX8_friendsOf_1 : decode cX8_friendsOf 1 = .ok (.getfield 28, 3) := by decide +kernel
theorem dX8_friendsOf_4 : decode cX8_friendsOf 4 = .ok (.iload_n 1, 1) := by decide +kernel
theorem dX8_friendsOf_5 : decode cX8_friendsOf 5 = .ok (.iaload, 1) := by decide +kernel
theorem dX8_friendsOf_6 : decode cX8_friendsOf 6 = .ok (.iconst 4, 1) := by decide +kernel
theorem dX8_friendsOf_7 : decode cX8_friendsOf 7 = .ok (.ishl, 1) := by decide +kernel
theorem dX8_friendsOf_8 : decode cX8_friendsOf 8 = .ok (.aload_n 0, 1) := by decide +kernel
theorem dX8_friendsOf_9 : decode cX8_friendsOf 9 = .ok (.getfield 28, 3) := by decide +kernel
theorem dX8_friendsOf_12 : decode cX8_friendsOf 12 = .ok (.iload_n 1, 1) := by decide +kernel
theorem dX8_friendsOf_13 : decode cX8_friendsOf 13 = .ok (.iaload, 1) := by decide +kernel
theorem dX8_friendsOf_14 : decode cX8_friendsOf 14 = .ok (.iconst 4, 1) := by decide +kernel
theorem dX8_friendsOf_15 : decode cX8_friendsOf 15 = .ok (.ishr, 1) := by decide +kernel
theorem dX8_friendsOf_16 : decode cX8_friendsOf 16 = .ok (.ior, 1) := by decide +kernel
theorem dX8_friendsOf_17 : decode cX8_friendsOf 17 = .ok (.sipush 255, 3) := by decide +kernel
theorem dX8_friendsOf_20 : decode cX8_friendsOf 20 = .ok (.iand, 1) := by decide +kernel
theorem dX8_friendsOf_21 : decode cX8_friendsOf 21 = .ok (.istore_n 2, 1) := by decide +kernel
theorem dX8_friendsOf_22 : decode cX8_friendsOf 22 = .ok (.iconst 0, 1) := by decide +kernel
theorem dX8_friendsOf_23 : decode cX8_friendsOf 23 = .ok (.istore_n 3, 1) := by decide +kernel
theorem dX8_friendsOf_24 : decode cX8_friendsOf 24 = .ok (.iconst 0, 1) := by decide +kernel
theorem dX8_friendsOf_25 : decode cX8_friendsOf 25 = .ok (.istore 4, 2) := by decide +kernel
theorem dX8_friendsOf_27 : decode cX8_friendsOf 27 = .ok (.iload 4, 2) := by decide +kernel
theorem dX8_friendsOf_29 : decode cX8_friendsOf 29 = .ok (.aload_n 0, 1) := by decide +kernel
theorem dX8_friendsOf_30 : decode cX8_friendsOf 30 = .ok (.getfield 59, 3) := by decide +kernel
theorem dX8_friendsOf_33 : decode cX8_friendsOf 33 = .ok (.if_icmp .ge 51, 3) := by decide +kernel
theorem dX8_friendsOf_36 : decode cX8_friendsOf 36 = .ok (.iload 4, 2) := by decide +kernel
theorem dX8_friendsOf_38 : decode cX8_friendsOf 38 = .ok (.iload_n 1, 1) := by decide +kernel
theorem dX8_friendsOf_39 : decode cX8_friendsOf 39 = .ok (.if_icmp .eq 39, 3) := by decide +kernel
theorem dX8_friendsOf_42 : decode cX8_friendsOf 42 = .ok (.aload_n 0, 1) := by decide +kernel
theorem dX8_friendsOf_43 : decode cX8_friendsOf 43 = .ok (.getfield 28, 3) := by decide +kernel
theorem dX8_friendsOf_46 : decode cX8_friendsOf 46 = .ok (.iload 4, 2) := by decide +kernel
theorem dX8_friendsOf_48 : decode cX8_friendsOf 48 = .ok (.iaload, 1) := by decide +kernel
theorem dX8_friendsOf_49 : decode cX8_friendsOf 49 = .ok (.iload_n 2, 1) := by decide +kernel
theorem dX8_friendsOf_50 : decode cX8_friendsOf 50 = .ok (.iand, 1) := by decide +kernel
theorem dX8_friendsOf_51 : decode cX8_friendsOf 51 = .ok (.ifCond .ne 27, 3) := by decide +kernel
theorem dX8_friendsOf_54 : decode cX8_friendsOf 54 = .ok (.aload_n 0, 1) := by decide +kernel
theorem dX8_friendsOf_55 : decode cX8_friendsOf 55 = .ok (.getfield 28, 3) := by decide +kernel
theorem dX8_friendsOf_58 : decode cX8_friendsOf 58 = .ok (.iload 4, 2) := by decide +kernel
theorem dX8_friendsOf_60 : decode cX8_friendsOf 60 = .ok (.iaload, 1) := by decide +kernel
theorem dX8_friendsOf_61 : decode cX8_friendsOf 61 = .ok (.aload_n 0, 1) := by decide +kernel
theorem dX8_friendsOf_62 : decode cX8_friendsOf 62 = .ok (.getfield 28, 3) := by decide +kernel
theorem dX8_friendsOf_65 : decode cX8_friendsOf 65 = .ok (.iload_n 1, 1) := by decide +kernel
theorem dX8_friendsOf_66 : decode cX8_friendsOf 66 = .ok (.iaload, 1) := by decide +kernel
theorem dX8_friendsOf_67 : decode cX8_friendsOf 67 = .ok (.iand, 1) := by decide +kernel
theorem dX8_friendsOf_68 : decode cX8_friendsOf 68 = .ok (.ifCond .eq 10, 3) := by decide +kernel
theorem dX8_friendsOf_71 : decode cX8_friendsOf 71 = .ok (.iload_n 3, 1) := by decide +kernel
theorem dX8_friendsOf_72 : decode cX8_friendsOf 72 = .ok (.iconst 1, 1) := by decide +kernel
theorem dX8_friendsOf_73 : decode cX8_friendsOf 73 = .ok (.iload 4, 2) := by decide +kernel
theorem dX8_friendsOf_75 : decode cX8_friendsOf 75 = .ok (.ishl, 1) := by decide +kernel
theorem dX8_friendsOf_76 : decode cX8_friendsOf 76 = .ok (.ior, 1) := by decide +kernel
theorem dX8_friendsOf_77 : decode cX8_friendsOf 77 = .ok (.istore_n 3, 1) := by decide +kernel
theorem dX8_friendsOf_78 : decode cX8_friendsOf 78 = .ok (.iinc 4 1, 3) := by decide +kernel
theorem dX8_friendsOf_81 : decode cX8_friendsOf 81 = .ok (.goto (-54), 3) := by decide +kernel
theorem dX8_friendsOf_84 : decode cX8_friendsOf 84 = .ok (.iload_n 3, 1) := by decide +kernel
theorem dX8_friendsOf_85 : decode cX8_friendsOf 85 = .ok (.ireturn, 1) := by decide +kernel
theorem dX8_goUp_0 : decode cX8_goUp 0 = .ok (.aload_n 0, 1) := by decide +kernel
theorem dX8_goUp_1 : decode cX8_goUp 1 = .ok (.getfield 37, 3) := by decide +kernel
theorem dX8_goUp_4 : decode cX8_goUp 4 = .ok (.iload_n 1, 1) := by decide +kernel
theorem dX8_goUp_5 : decode cX8_goUp 5 = .ok (.iaload, 1) := by decide +kernel
theorem dX8_goUp_6 : decode cX8_goUp 6 = .ok (.iconst (-1), 1) := by decide +kernel
theorem dX8_goUp_7 : decode cX8_goUp 7 = .ok (.if_icmp .eq 5, 3) := by decide +kernel
theorem dX8_goUp_10 : decode cX8_goUp 10 = .ok (.iconst 1, 1) := by decide +kernel
theorem dX8_goUp_11 : decode cX8_goUp 11 = .ok (.ireturn, 1) := by decide +kernel
theorem dX8_goUp_12 : decode cX8_goUp 12 = .ok (.aload_n 0, 1) := by decide +kernel
theorem dX8_goUp_13 : decode cX8_goUp 13 = .ok (.iload_n 2, 1) := by decide +kernel
theorem dX8_goUp_14 : decode cX8_goUp 14 = .ok (.invokevirtual 151, 3) := by decide +kernel
theorem dX8_goUp_17 : decode cX8_goUp 17 = .ok (.iconst (-1), 1) := by decide +kernel
theorem dX8_goUp_18 : decode cX8_goUp 18 = .ok (.if_icmp .eq 5, 3) := by decide +kernel
theorem dX8_goUp_21 : decode cX8_goUp 21 = .ok (.iconst 2, 1) := by decide +kernel
theorem dX8_goUp_22 : decode cX8_goUp 22 = .ok (.ireturn, 1) := by decide +kernel
theorem dX8_goUp_23 : decode cX8_goUp 23 = .ok (.aload_n 0, 1) := by decide +kernel
theorem dX8_goUp_24 : decode cX8_goUp 24 = .ok (.getfield 56, 3) := by decide +kernel
theorem dX8_goUp_27 : decode cX8_goUp 27 = .ok (.iload_n 2, 1) := by decide +kernel
theorem dX8_goUp_28 : decode cX8_goUp 28 = .ok (.ishr, 1) := by decide +kernel
theorem dX8_goUp_29 : decode cX8_goUp 29 = .ok (.iconst 1, 1) := by decide +kernel
theorem dX8_goUp_30 : decode cX8_goUp 30 = .ok (.iand, 1) := by decide +kernel
theorem dX8_goUp_31 : decode cX8_goUp 31 = .ok (.iconst 1, 1) := by decide +kernel
theorem dX8_goUp_32 : decode cX8_goUp 32 = .ok (.if_icmp .ne 5, 3) := by decide +kernel
theorem dX8_goUp_35 : decode cX8_goUp 35 = .ok (.iconst 3, 1) := by decide +kernel
theorem dX8_goUp_36 : decode cX8_goUp 36 = .ok (.ireturn, 1) := by decide +kernel
theorem dX8_goUp_37 : decode cX8_goUp 37 = .ok (.aload_n 0, 1) := by decide +kernel
theorem dX8_goUp_38 : decode cX8_goUp 38 = .ok (.getfield 22, 3) := by decide +kernel
theorem dX8_goUp_41 : decode cX8_goUp 41 = .ok (.iload_n 2, 1) := by decide +kernel
theorem dX8_goUp_42 : decode cX8_goUp 42 = .ok (.iaload, 1) := by decide +kernel
theorem dX8_goUp_43 : decode cX8_goUp 43 = .ok (.aload_n 0, 1) := by decide +kernel
theorem dX8_goUp_44 : decode cX8_goUp 44 = .ok (.getfield 34, 3) := by decide +kernel
theorem dX8_goUp_47 : decode cX8_goUp 47 = .ok (.iload_n 1, 1) := by decide +kernel
theorem dX8_goUp_48 : decode cX8_goUp 48 = .ok (.iaload, 1) := by decide +kernel
theorem dX8_goUp_49 : decode cX8_goUp 49 = .ok (.if_icmp .le 5, 3) := by decide +kernel
theorem dX8_goUp_52 : decode cX8_goUp 52 = .ok (.iconst 4, 1) := by decide +kernel
theorem dX8_goUp_53 : decode cX8_goUp 53 = .ok (.ireturn, 1) := by decide +kernel
theorem dX8_goUp_54 : decode cX8_goUp 54 = .ok (.aload_n 0, 1) := by decide +kernel
theorem dX8_goUp_55 : decode cX8_goUp 55 = .ok (.getfield 37, 3) := by decide +kernel
theorem dX8_goUp_58 : decode cX8_goUp 58 = .ok (.iload_n 1, 1) := by decide +kernel
theorem dX8_goUp_59 : decode cX8_goUp 59 = .ok (.iload_n 2, 1) := by decide +kernel
theorem dX8_goUp_60 : decode cX8_goUp 60 = .ok (.iastore, 1) := by decide +kernel
theorem dX8_goUp_61 : decode cX8_goUp 61 = .ok (.aload_n 0, 1) := by decide +kernel
theorem dX8_goUp_62 : decode cX8_goUp 62 = .ok (.getfield 40, 3) := by decide +kernel
theorem dX8_goUp_65 : decode cX8_goUp 65 = .ok (.iload_n 1, 1) := by decide +kernel
theorem dX8_goUp_66 : decode cX8_goUp 66 = .ok (.dup2, 1) := by decide +kernel
theorem dX8_goUp_67 : decode cX8_goUp 67 = .ok (.iaload, 1) := by decide +kernel
theorem dX8_goUp_68 : decode cX8_goUp 68 = .ok (.iconst 1, 1) := by decide +kernel
theorem dX8_goUp_69 : decode cX8_goUp 69 = .ok (.iadd, 1) := by decide +kernel
theorem dX8_goUp_70 : decode cX8_goUp 70 = .ok (.iastore, 1) := by decide +kernel
theorem dX8_goUp_71 : decode cX8_goUp 71 = .ok (.aload_n 0, 1) := by decide +kernel
theorem dX8_goUp_72 : decode cX8_goUp 72 = .ok (.getfield 28, 3) := by decide +kernel
theorem dX8_goUp_75 : decode cX8_goUp 75 = .ok (.iload_n 1, 1) := by decide +kernel
theorem dX8_goUp_76 : decode cX8_goUp 76 = .ok (.aload_n 0, 1) := by decide +kernel
theorem dX8_goUp_77 : decode cX8_goUp 77 = .ok (.aload_n 0, 1) := by decide +kernel
theorem dX8_goUp_78 : decode cX8_goUp 78 = .ok (.getfield 28, 3) := by decide +kernel
theorem dX8_goUp_81 : decode cX8_goUp 81 = .ok (.iload_n 1, 1) := by decide +kernel
theorem dX8_goUp_82 : decode cX8_goUp 82 = .ok (.iaload, 1) := by decide +kernel
theorem dX8_goUp_83 : decode cX8_goUp 83 = .ok (.iload_n 2, 1) := by decide +kernel
theorem dX8_goUp_84 : decode cX8_goUp 84 = .ok (.invokevirtual 154, 3) := by decide +kernel
theorem dX8_goUp_87 : decode cX8_goUp 87 = .ok (.iastore, 1) := by decide +kernel
theorem dX8_goUp_88 : decode cX8_goUp 88 = .ok (.iconst 0, 1) := by decide +kernel
theorem dX8_goUp_89 : decode cX8_goUp 89 = .ok (.ireturn, 1) := by decide +kernel
theorem dX8_comeDown_0 : decode cX8_comeDown 0 = .ok (.aload_n 0, 1) := by decide +kernel
theorem dX8_comeDown_1 : decode cX8_comeDown 1 = .ok (.getfield 37, 3) := by decide +kernel
theorem dX8_comeDown_4 : decode cX8_comeDown 4 = .ok (.iload_n 1, 1) := by decide +kernel
theorem dX8_comeDown_5 : decode cX8_comeDown 5 = .ok (.iaload, 1) := by decide +kernel
theorem dX8_comeDown_6 : decode cX8_comeDown 6 = .ok (.iconst (-1), 1) := by decide +kernel
theorem dX8_comeDown_7 : decode cX8_comeDown 7 = .ok (.if_icmp .ne 5, 3) := by decide +kernel
theorem dX8_comeDown_10 : decode cX8_comeDown 10 = .ok (.iconst 1, 1) := by decide +kernel
theorem dX8_comeDown_11 : decode cX8_comeDown 11 = .ok (.ireturn, 1) := by decide +kernel
theorem dX8_comeDown_12 : decode cX8_comeDown 12 = .ok (.aload_n 0, 1) := by decide +kernel
theorem dX8_comeDown_13 : decode cX8_comeDown 13 = .ok (.getfield 37, 3) := by decide +kernel
theorem dX8_comeDown_16 : decode cX8_comeDown 16 = .ok (.iload_n 1, 1) := by decide +kernel
theorem dX8_comeDown_17 : decode cX8_comeDown 17 = .ok (.iconst (-1), 1) := by decide +kernel
theorem dX8_comeDown_18 : decode cX8_comeDown 18 = .ok (.iastore, 1) := by decide +kernel
theorem dX8_comeDown_19 : decode cX8_comeDown 19 = .ok (.iconst 0, 1) := by decide +kernel
theorem dX8_comeDown_20 : decode cX8_comeDown 20 = .ok (.ireturn, 1) := by decide +kernel
theorem dX8_passOn_0 : decode cX8_passOn 0 = .ok (.iload_n 1, 1) := by decide +kernel
theorem dX8_passOn_1 : decode cX8_passOn 1 = .ok (.iload_n 2, 1) := by decide +kernel
theorem dX8_passOn_2 : decode cX8_passOn 2 = .ok (.if_icmp .eq 23, 3) := by decide +kernel
theorem dX8_passOn_5 : decode cX8_passOn 5 = .ok (.aload_n 0, 1) := by decide +kernel
theorem dX8_passOn_6 : decode cX8_passOn 6 = .ok (.getfield 37, 3) := by decide +kernel
theorem dX8_passOn_9 : decode cX8_passOn 9 = .ok (.iload_n 1, 1) := by decide +kernel
theorem dX8_passOn_10 : decode cX8_passOn 10 = .ok (.iaload, 1) := by decide +kernel
theorem dX8_passOn_11 : decode cX8_passOn 11 = .ok (.iconst (-1), 1) := by decide +kernel
theorem dX8_passOn_12 : decode cX8_passOn 12 = .ok (.if_icmp .ne 13, 3) := by decide +kernel
theorem dX8_passOn_15 : decode cX8_passOn 15 = .ok (.aload_n 0, 1) := by decide +kernel
theorem dX8_passOn_16 : decode cX8_passOn 16 = .ok (.getfield 37, 3) := by decide +kernel
theorem dX8_passOn_19 : decode cX8_passOn 19 = .ok (.iload_n 2, 1) := by decide +kernel
theorem dX8_passOn_20 : decode cX8_passOn 20 = .ok (.iaload, 1) := by decide +kernel
theorem dX8_passOn_21 : decode cX8_passOn 21 = .ok (.iconst (-1), 1) := by decide +kernel
theorem dX8_passOn_22 : decode cX8_passOn 22 = .ok (.if_icmp .eq 5, 3) := by decide +kernel
theorem dX8_passOn_25 : decode cX8_passOn 25 = .ok (.iconst 1, 1) := by decide +kernel
theorem dX8_passOn_26 : decode cX8_passOn 26 = .ok (.ireturn, 1) := by decide +kernel
theorem dX8_passOn_27 : decode cX8_passOn 27 = .ok (.aload_n 0, 1) := by decide +kernel
theorem dX8_passOn_28 : decode cX8_passOn 28 = .ok (.getfield 28, 3) := by decide +kernel
theorem dX8_passOn_31 : decode cX8_passOn 31 = .ok (.iload_n 1, 1) := by decide +kernel
theorem dX8_passOn_32 : decode cX8_passOn 32 = .ok (.iaload, 1) := by decide +kernel
theorem dX8_passOn_33 : decode cX8_passOn 33 = .ok (.iload_n 3, 1) := by decide +kernel
theorem dX8_passOn_34 : decode cX8_passOn 34 = .ok (.ishr, 1) := by decide +kernel
theorem dX8_passOn_35 : decode cX8_passOn 35 = .ok (.iconst 1, 1) := by decide +kernel
theorem dX8_passOn_36 : decode cX8_passOn 36 = .ok (.iand, 1) := by decide +kernel
theorem dX8_passOn_37 : decode cX8_passOn 37 = .ok (.ifCond .ne 5, 3) := by decide +kernel
theorem dX8_passOn_40 : decode cX8_passOn 40 = .ok (.iconst 2, 1) := by decide +kernel
theorem dX8_passOn_41 : decode cX8_passOn 41 = .ok (.ireturn, 1) := by decide +kernel
theorem dX8_passOn_42 : decode cX8_passOn 42 = .ok (.aload_n 0, 1) := by decide +kernel
theorem dX8_passOn_43 : decode cX8_passOn 43 = .ok (.getfield 28, 3) := by decide +kernel
theorem dX8_passOn_46 : decode cX8_passOn 46 = .ok (.iload_n 2, 1) := by decide +kernel
theorem dX8_passOn_47 : decode cX8_passOn 47 = .ok (.iaload, 1) := by decide +kernel
theorem dX8_passOn_48 : decode cX8_passOn 48 = .ok (.iload_n 3, 1) := by decide +kernel
theorem dX8_passOn_49 : decode cX8_passOn 49 = .ok (.ishr, 1) := by decide +kernel
theorem dX8_passOn_50 : decode cX8_passOn 50 = .ok (.iconst 1, 1) := by decide +kernel
theorem dX8_passOn_51 : decode cX8_passOn 51 = .ok (.iand, 1) := by decide +kernel
theorem dX8_passOn_52 : decode cX8_passOn 52 = .ok (.iconst 1, 1) := by decide +kernel
theorem dX8_passOn_53 : decode cX8_passOn 53 = .ok (.if_icmp .ne 5, 3) := by decide +kernel
theorem dX8_passOn_56 : decode cX8_passOn 56 = .ok (.iconst 3, 1) := by decide +kernel
theorem dX8_passOn_57 : decode cX8_passOn 57 = .ok (.ireturn, 1) := by decide +kernel
theorem dX8_passOn_58 : decode cX8_passOn 58 = .ok (.aload_n 0, 1) := by decide +kernel
theorem dX8_passOn_59 : decode cX8_passOn 59 = .ok (.getfield 28, 3) := by decide +kernel
theorem dX8_passOn_62 : decode cX8_passOn 62 = .ok (.iload_n 2, 1) := by decide +kernel
theorem dX8_passOn_63 : decode cX8_passOn 63 = .ok (.aload_n 0, 1) := by decide +kernel
theorem dX8_passOn_64 : decode cX8_passOn 64 = .ok (.getfield 28, 3) := by decide +kernel
theorem dX8_passOn_67 : decode cX8_passOn 67 = .ok (.iload_n 2, 1) := by decide +kernel
theorem dX8_passOn_68 : decode cX8_passOn 68 = .ok (.iaload, 1) := by decide +kernel
theorem dX8_passOn_69 : decode cX8_passOn 69 = .ok (.iload_n 3, 1) := by decide +kernel
theorem dX8_passOn_70 : decode cX8_passOn 70 = .ok (.invokestatic 140, 3) := by decide +kernel
theorem dX8_passOn_73 : decode cX8_passOn 73 = .ok (.iastore, 1) := by decide +kernel
theorem dX8_passOn_74 : decode cX8_passOn 74 = .ok (.iconst 0, 1) := by decide +kernel
theorem dX8_passOn_75 : decode cX8_passOn 75 = .ok (.ireturn, 1) := by decide +kernel
theorem dX8_blow_0 : decode cX8_blow 0 = .ok (.iconst 1, 1) := by decide +kernel
theorem dX8_blow_1 : decode cX8_blow 1 = .ok (.istore_n 2, 1) := by decide +kernel
theorem dX8_blow_2 : decode cX8_blow 2 = .ok (.iconst 0, 1) := by decide +kernel
theorem dX8_blow_3 : decode cX8_blow 3 = .ok (.istore_n 3, 1) := by decide +kernel
theorem dX8_blow_4 : decode cX8_blow 4 = .ok (.iload_n 3, 1) := by decide +kernel
theorem dX8_blow_5 : decode cX8_blow 5 = .ok (.aload_n 0, 1) := by decide +kernel
theorem dX8_blow_6 : decode cX8_blow 6 = .ok (.getfield 43, 3) := by decide +kernel
theorem dX8_blow_9 : decode cX8_blow 9 = .ok (.if_icmp .ge 28, 3) := by decide +kernel
theorem dX8_blow_12 : decode cX8_blow 12 = .ok (.aload_n 0, 1) := by decide +kernel
theorem dX8_blow_13 : decode cX8_blow 13 = .ok (.getfield 22, 3) := by decide +kernel
theorem dX8_blow_16 : decode cX8_blow 16 = .ok (.iload_n 3, 1) := by decide +kernel
theorem dX8_blow_17 : decode cX8_blow 17 = .ok (.iaload, 1) := by decide +kernel
theorem dX8_blow_18 : decode cX8_blow 18 = .ok (.iload_n 1, 1) := by decide +kernel
theorem dX8_blow_19 : decode cX8_blow 19 = .ok (.if_icmp .le 12, 3) := by decide +kernel
theorem dX8_blow_22 : decode cX8_blow 22 = .ok (.aload_n 0, 1) := by decide +kernel
theorem dX8_blow_23 : decode cX8_blow 23 = .ok (.getfield 22, 3) := by decide +kernel
theorem dX8_blow_26 : decode cX8_blow 26 = .ok (.iload_n 3, 1) := by decide +kernel
theorem dX8_blow_27 : decode cX8_blow 27 = .ok (.iload_n 1, 1) := by decide +kernel
theorem dX8_blow_28 : decode cX8_blow 28 = .ok (.iastore, 1) := by decide +kernel
theorem dX8_blow_29 : decode cX8_blow 29 = .ok (.iconst 0, 1) := by decide +kernel
theorem dX8_blow_30 : decode cX8_blow 30 = .ok (.istore_n 2, 1) := by decide +kernel
theorem dX8_blow_31 : decode cX8_blow 31 = .ok (.iinc 3 1, 3) := by decide +kernel
theorem dX8_blow_34 : decode cX8_blow 34 = .ok (.goto (-30), 3) := by decide +kernel
theorem dX8_blow_37 : decode cX8_blow 37 = .ok (.iload_n 2, 1) := by decide +kernel
theorem dX8_blow_38 : decode cX8_blow 38 = .ok (.ireturn, 1) := by decide +kernel
theorem dX8_close_0 : decode cX8_close 0 = .ok (.aload_n 0, 1) := by decide +kernel
theorem dX8_close_1 : decode cX8_close 1 = .ok (.getfield 56, 3) := by decide +kernel
theorem dX8_close_4 : decode cX8_close 4 = .ok (.iload_n 1, 1) := by decide +kernel
theorem dX8_close_5 : decode cX8_close 5 = .ok (.ishr, 1) := by decide +kernel
theorem dX8_close_6 : decode cX8_close 6 = .ok (.iconst 1, 1) := by decide +kernel
theorem dX8_close_7 : decode cX8_close 7 = .ok (.iand, 1) := by decide +kernel
theorem dX8_close_8 : decode cX8_close 8 = .ok (.iconst 1, 1) := by decide +kernel
theorem dX8_close_9 : decode cX8_close 9 = .ok (.if_icmp .ne 5, 3) := by decide +kernel
theorem dX8_close_12 : decode cX8_close 12 = .ok (.iconst 1, 1) := by decide +kernel
theorem dX8_close_13 : decode cX8_close 13 = .ok (.ireturn, 1) := by decide +kernel
theorem dX8_close_14 : decode cX8_close 14 = .ok (.aload_n 0, 1) := by decide +kernel
theorem dX8_close_15 : decode cX8_close 15 = .ok (.iload_n 1, 1) := by decide +kernel
theorem dX8_close_16 : decode cX8_close 16 = .ok (.invokevirtual 151, 3) := by decide +kernel
theorem dX8_close_19 : decode cX8_close 19 = .ok (.iconst (-1), 1) := by decide +kernel
theorem dX8_close_20 : decode cX8_close 20 = .ok (.if_icmp .eq 5, 3) := by decide +kernel
theorem dX8_close_23 : decode cX8_close 23 = .ok (.iconst 2, 1) := by decide +kernel
theorem dX8_close_24 : decode cX8_close 24 = .ok (.ireturn, 1) := by decide +kernel
theorem dX8_close_25 : decode cX8_close 25 = .ok (.aload_n 0, 1) := by decide +kernel
theorem dX8_close_26 : decode cX8_close 26 = .ok (.dup, 1) := by decide +kernel
theorem dX8_close_27 : decode cX8_close 27 = .ok (.getfield 56, 3) := by decide +kernel
theorem dX8_close_30 : decode cX8_close 30 = .ok (.iconst 1, 1) := by decide +kernel
theorem dX8_close_31 : decode cX8_close 31 = .ok (.iload_n 1, 1) := by decide +kernel
theorem dX8_close_32 : decode cX8_close 32 = .ok (.ishl, 1) := by decide +kernel
theorem dX8_close_33 : decode cX8_close 33 = .ok (.ior, 1) := by decide +kernel
theorem dX8_close_34 : decode cX8_close 34 = .ok (.putfield 56, 3) := by decide +kernel
theorem dX8_close_37 : decode cX8_close 37 = .ok (.iconst 0, 1) := by decide +kernel
theorem dX8_close_38 : decode cX8_close 38 = .ok (.ireturn, 1) := by decide +kernel
theorem dX8_open_0 : decode cX8_open 0 = .ok (.aload_n 0, 1) := by decide +kernel
theorem dX8_open_1 : decode cX8_open 1 = .ok (.getfield 56, 3) := by decide +kernel
theorem dX8_open_4 : decode cX8_open 4 = .ok (.iload_n 1, 1) := by decide +kernel
theorem dX8_open_5 : decode cX8_open 5 = .ok (.ishr, 1) := by decide +kernel
theorem dX8_open_6 : decode cX8_open 6 = .ok (.iconst 1, 1) := by decide +kernel
theorem dX8_open_7 : decode cX8_open 7 = .ok (.iand, 1) := by decide +kernel
theorem dX8_open_8 : decode cX8_open 8 = .ok (.ifCond .ne 5, 3) := by decide +kernel
theorem dX8_open_11 : decode cX8_open 11 = .ok (.iconst 1, 1) := by decide +kernel
theorem dX8_open_12 : decode cX8_open 12 = .ok (.ireturn, 1) := by decide +kernel
theorem dX8_open_13 : decode cX8_open 13 = .ok (.aload_n 0, 1) := by decide +kernel
theorem dX8_open_14 : decode cX8_open 14 = .ok (.dup, 1) := by decide +kernel
theorem dX8_open_15 : decode cX8_open 15 = .ok (.getfield 56, 3) := by decide +kernel
theorem dX8_open_18 : decode cX8_open 18 = .ok (.iconst 1, 1) := by decide +kernel
theorem dX8_open_19 : decode cX8_open 19 = .ok (.iload_n 1, 1) := by decide +kernel
theorem dX8_open_20 : decode cX8_open 20 = .ok (.ishl, 1) := by decide +kernel
theorem dX8_open_21 : decode cX8_open 21 = .ok (.iconst (-1), 1) := by decide +kernel
theorem dX8_open_22 : decode cX8_open 22 = .ok (.ixor, 1) := by decide +kernel
theorem dX8_open_23 : decode cX8_open 23 = .ok (.iand, 1) := by decide +kernel
theorem dX8_open_24 : decode cX8_open 24 = .ok (.putfield 56, 3) := by decide +kernel
theorem dX8_open_27 : decode cX8_open 27 = .ok (.iconst 0, 1) := by decide +kernel
theorem dX8_open_28 : decode cX8_open 28 = .ok (.ireturn, 1) := by decide +kernel
theorem dX8_daysLeft_0 : decode cX8_daysLeft 0 = .ok (.sipush 400, 3) := by decide +kernel
theorem dX8_daysLeft_3 : decode cX8_daysLeft 3 = .ok (.aload_n 0, 1) := by decide +kernel
theorem dX8_daysLeft_4 : decode cX8_daysLeft 4 = .ok (.getfield 62, 3) := by decide +kernel
theorem dX8_daysLeft_7 : decode cX8_daysLeft 7 = .ok (.isub, 1) := by decide +kernel
theorem dX8_daysLeft_8 : decode cX8_daysLeft 8 = .ok (.ireturn, 1) := by decide +kernel
theorem dX8_passDays_0 : decode cX8_passDays 0 = .ok (.iload_n 1, 1) := by decide +kernel
theorem dX8_passDays_1 : decode cX8_passDays 1 = .ok (.aload_n 0, 1) := by decide +kernel
theorem dX8_passDays_2 : decode cX8_passDays 2 = .ok (.invokevirtual 157, 3) := by decide +kernel
theorem dX8_passDays_5 : decode cX8_passDays 5 = .ok (.invokestatic 161, 3) := by decide +kernel
theorem dX8_passDays_8 : decode cX8_passDays 8 = .ok (.istore_n 2, 1) := by decide +kernel
theorem dX8_passDays_9 : decode cX8_passDays 9 = .ok (.iconst 0, 1) := by decide +kernel
theorem dX8_passDays_10 : decode cX8_passDays 10 = .ok (.istore_n 3, 1) := by decide +kernel
theorem dX8_passDays_11 : decode cX8_passDays 11 = .ok (.iload_n 3, 1) := by decide +kernel
theorem dX8_passDays_12 : decode cX8_passDays 12 = .ok (.iload_n 2, 1) := by decide +kernel
theorem dX8_passDays_13 : decode cX8_passDays 13 = .ok (.if_icmp .ge 13, 3) := by decide +kernel
theorem dX8_passDays_16 : decode cX8_passDays 16 = .ok (.aload_n 0, 1) := by decide +kernel
theorem dX8_passDays_17 : decode cX8_passDays 17 = .ok (.invokevirtual 166, 3) := by decide +kernel
theorem dX8_passDays_20 : decode cX8_passDays 20 = .ok (.iinc 3 1, 3) := by decide +kernel
theorem dX8_passDays_23 : decode cX8_passDays 23 = .ok (.goto (-12), 3) := by decide +kernel
theorem dX8_passDays_26 : decode cX8_passDays 26 = .ok (.iload_n 2, 1) := by decide +kernel
theorem dX8_passDays_27 : decode cX8_passDays 27 = .ok (.ireturn, 1) := by decide +kernel
theorem dX8_passDay_0 : decode cX8_passDay 0 = .ok (.iconst 0, 1) := by decide +kernel
theorem dX8_passDay_1 : decode cX8_passDay 1 = .ok (.istore_n 1, 1) := by decide +kernel
theorem dX8_passDay_2 : decode cX8_passDay 2 = .ok (.iload_n 1, 1) := by decide +kernel
theorem dX8_passDay_3 : decode cX8_passDay 3 = .ok (.aload_n 0, 1) := by decide +kernel
theorem dX8_passDay_4 : decode cX8_passDay 4 = .ok (.getfield 43, 3) := by decide +kernel
theorem dX8_passDay_7 : decode cX8_passDay 7 = .ok (.if_icmp .ge 38, 3) := by decide +kernel
theorem dX8_passDay_10 : decode cX8_passDay 10 = .ok (.aload_n 0, 1) := by decide +kernel
theorem dX8_passDay_11 : decode cX8_passDay 11 = .ok (.getfield 53, 3) := by decide +kernel
theorem dX8_passDay_14 : decode cX8_passDay 14 = .ok (.iload_n 1, 1) := by decide +kernel
theorem dX8_passDay_15 : decode cX8_passDay 15 = .ok (.ishr, 1) := by decide +kernel
theorem dX8_passDay_16 : decode cX8_passDay 16 = .ok (.iconst 1, 1) := by decide +kernel
theorem dX8_passDay_17 : decode cX8_passDay 17 = .ok (.iand, 1) := by decide +kernel
theorem dX8_passDay_18 : decode cX8_passDay 18 = .ok (.iconst 1, 1) := by decide +kernel
theorem dX8_passDay_19 : decode cX8_passDay 19 = .ok (.if_icmp .ne 20, 3) := by decide +kernel
theorem dX8_passDay_22 : decode cX8_passDay 22 = .ok (.aload_n 0, 1) := by decide +kernel
theorem dX8_passDay_23 : decode cX8_passDay 23 = .ok (.getfield 19, 3) := by decide +kernel
theorem dX8_passDay_26 : decode cX8_passDay 26 = .ok (.iload_n 1, 1) := by decide +kernel
theorem dX8_passDay_27 : decode cX8_passDay 27 = .ok (.aload_n 0, 1) := by decide +kernel
theorem dX8_passDay_28 : decode cX8_passDay 28 = .ok (.getfield 19, 3) := by decide +kernel
theorem dX8_passDay_31 : decode cX8_passDay 31 = .ok (.iload_n 1, 1) := by decide +kernel
theorem dX8_passDay_32 : decode cX8_passDay 32 = .ok (.iaload, 1) := by decide +kernel
theorem dX8_passDay_33 : decode cX8_passDay 33 = .ok (.iconst 1, 1) := by decide +kernel
theorem dX8_passDay_34 : decode cX8_passDay 34 = .ok (.iadd, 1) := by decide +kernel
theorem dX8_passDay_35 : decode cX8_passDay 35 = .ok (.invokestatic 128, 3) := by decide +kernel
theorem dX8_passDay_38 : decode cX8_passDay 38 = .ok (.iastore, 1) := by decide +kernel
theorem dX8_passDay_39 : decode cX8_passDay 39 = .ok (.iinc 1 1, 3) := by decide +kernel
theorem dX8_passDay_42 : decode cX8_passDay 42 = .ok (.goto (-40), 3) := by decide +kernel
theorem dX8_passDay_45 : decode cX8_passDay 45 = .ok (.aload_n 0, 1) := by decide +kernel
theorem dX8_passDay_46 : decode cX8_passDay 46 = .ok (.dup, 1) := by decide +kernel
theorem dX8_passDay_47 : decode cX8_passDay 47 = .ok (.getfield 62, 3) := by decide +kernel
theorem dX8_passDay_50 : decode cX8_passDay 50 = .ok (.iconst 1, 1) := by decide +kernel
theorem dX8_passDay_51 : decode cX8_passDay 51 = .ok (.iadd, 1) := by decide +kernel
theorem dX8_passDay_52 : decode cX8_passDay 52 = .ok (.putfield 62, 3) := by decide +kernel
theorem dX8_passDay_55 : decode cX8_passDay 55 = .ok (.return_, 1) := by decide +kernel
theorem dX9_init_0 : decode cX9_init 0 = .ok (.aload_n 0, 1) := by decide +kernel
theorem dX9_init_1 : decode cX9_init 1 = .ok (.invokespecial 3, 3) := by decide +kernel
theorem dX9_init_4 : decode cX9_init 4 = .ok (.aload_n 0, 1) := by decide +kernel
theorem dX9_init_5 : decode cX9_init 5 = .ok (.iload_n 1, 1) := by decide +kernel
theorem dX9_init_6 : decode cX9_init 6 = .ok (.newarray .int, 2) := by decide +kernel
theorem dX9_init_8 : decode cX9_init 8 = .ok (.putfield 9, 3) := by decide +kernel
theorem dX9_init_11 : decode cX9_init 11 = .ok (.aload_n 0, 1) := by decide +kernel
theorem dX9_init_12 : decode cX9_init 12 = .ok (.iconst 0, 1) := by decide +kernel
theorem dX9_init_13 : decode cX9_init 13 = .ok (.putfield 15, 3) := by decide +kernel
theorem dX9_init_16 : decode cX9_init 16 = .ok (.return_, 1) := by decide +kernel
theorem dX9_addByte_0 : decode cX9_addByte 0 = .ok (.aload_n 0, 1) := by decide +kernel
theorem dX9_addByte_1 : decode cX9_addByte 1 = .ok (.getfield 15, 3) := by decide +kernel
theorem dX9_addByte_4 : decode cX9_addByte 4 = .ok (.aload_n 0, 1) := by decide +kernel
theorem dX9_addByte_5 : decode cX9_addByte 5 = .ok (.getfield 9, 3) := by decide +kernel
theorem dX9_addByte_8 : decode cX9_addByte 8 = .ok (.arraylength, 1) := by decide +kernel
theorem dX9_addByte_9 : decode cX9_addByte 9 = .ok (.if_icmp .ge 23, 3) := by decide +kernel
theorem dX9_addByte_12 : decode cX9_addByte 12 = .ok (.aload_n 0, 1) := by decide +kernel
theorem dX9_addByte_13 : decode cX9_addByte 13 = .ok (.getfield 9, 3) := by decide +kernel
theorem dX9_addByte_16 : decode cX9_addByte 16 = .ok (.aload_n 0, 1) := by decide +kernel
theorem dX9_addByte_17 : decode cX9_addByte 17 = .ok (.getfield 15, 3) := by decide +kernel
theorem dX9_addByte_20 : decode cX9_addByte 20 = .ok (.iload_n 1, 1) := by decide +kernel
theorem dX9_addByte_21 : decode cX9_addByte 21 = .ok (.iastore, 1) := by decide +kernel
theorem dX9_addByte_22 : decode cX9_addByte 22 = .ok (.aload_n 0, 1) := by decide +kernel
theorem dX9_addByte_23 : decode cX9_addByte 23 = .ok (.dup, 1) := by decide +kernel
theorem dX9_addByte_24 : decode cX9_addByte 24 = .ok (.getfield 15, 3) := by decide +kernel
theorem dX9_addByte_27 : decode cX9_addByte 27 = .ok (.iconst 1, 1) := by decide +kernel
theorem dX9_addByte_28 : decode cX9_addByte 28 = .ok (.iadd, 1) := by decide +kernel
theorem dX9_addByte_29 : decode cX9_addByte 29 = .ok (.putfield 15, 3) := by decide +kernel
theorem dX9_addByte_32 : decode cX9_addByte 32 = .ok (.return_, 1) := by decide +kernel
theorem dX9_addNumber_0 : decode cX9_addNumber 0 = .ok (.bipush 24, 2) := by decide +kernel
theorem dX9_addNumber_2 : decode cX9_addNumber 2 = .ok (.istore_n 2, 1) := by decide +kernel
theorem dX9_addNumber_3 : decode cX9_addNumber 3 = .ok (.iload_n 2, 1) := by decide +kernel
theorem dX9_addNumber_4 : decode cX9_addNumber 4 = .ok (.ifCond .lt 20, 3) := by decide +kernel
theorem dX9_addNumber_7 : decode cX9_addNumber 7 = .ok (.aload_n 0, 1) := by decide +kernel
theorem dX9_addNumber_8 : decode cX9_addNumber 8 = .ok (.iload_n 1, 1) := by decide +kernel
theorem dX9_addNumber_9 : decode cX9_addNumber 9 = .ok (.iload_n 2, 1) := by decide +kernel
theorem dX9_addNumber_10 : decode cX9_addNumber 10 = .ok (.iushr, 1) := by decide +kernel
theorem dX9_addNumber_11 : decode cX9_addNumber 11 = .ok (.sipush 255, 3) := by decide +kernel
theorem dX9_addNumber_14 : decode cX9_addNumber 14 = .ok (.iand, 1) := by decide +kernel
theorem dX9_addNumber_15 : decode cX9_addNumber 15 = .ok (.invokevirtual 19, 3) := by decide +kernel
theorem dX9_addNumber_18 : decode cX9_addNumber 18 = .ok (.iinc 2 (-8), 3) := by decide +kernel
theorem dX9_addNumber_21 : decode cX9_addNumber 21 = .ok (.goto (-18), 3) := by decide +kernel
theorem dX9_addNumber_24 : decode cX9_addNumber 24 = .ok (.return_, 1) := by decide +kernel
theorem dX9_addText_0 : decode cX9_addText 0 = .ok (.iconst 0, 1) := by decide +kernel
theorem dX9_addText_1 : decode cX9_addText 1 = .ok (.istore_n 2, 1) := by decide +kernel
theorem dX9_addText_2 : decode cX9_addText 2 = .ok (.iload_n 2, 1) := by decide +kernel
theorem dX9_addText_3 : decode cX9_addText 3 = .ok (.aload_n 1, 1) := by decide +kernel
theorem dX9_addText_4 : decode cX9_addText 4 = .ok (.invokevirtual 23, 3) := by decide +kernel
theorem dX9_addText_7 : decode cX9_addText 7 = .ok (.if_icmp .ge 18, 3) := by decide +kernel
theorem dX9_addText_10 : decode cX9_addText 10 = .ok (.aload_n 0, 1) := by decide +kernel
theorem dX9_addText_11 : decode cX9_addText 11 = .ok (.aload_n 1, 1) := by decide +kernel
theorem dX9_addText_12 : decode cX9_addText 12 = .ok (.iload_n 2, 1) := by decide +kernel
theorem dX9_addText_13 : decode cX9_addText 13 = .ok (.invokevirtual 28, 3) := by decide +kernel
theorem dX9_addText_16 : decode cX9_addText 16 = .ok (.invokevirtual 19, 3) := by decide +kernel
theorem dX9_addText_19 : decode cX9_addText 19 = .ok (.iinc 2 1, 3) := by decide +kernel
theorem dX9_addText_22 : decode cX9_addText 22 = .ok (.goto (-20), 3) := by decide +kernel
theorem dX9_addText_25 : decode cX9_addText 25 = .ok (.return_, 1) := by decide +kernel
theorem dX9_addWord_0 : decode cX9_addWord 0 = .ok (.bipush 30, 2) := by decide +kernel
theorem dX9_addWord_2 : decode cX9_addWord 2 = .ok (.istore_n 3, 1) := by decide +kernel
theorem dX9_addWord_3 : decode cX9_addWord 3 = .ok (.iload_n 3, 1) := by decide +kernel
theorem dX9_addWord_4 : decode cX9_addWord 4 = .ok (.ifCond .lt 32, 3) := by decide +kernel
theorem dX9_addWord_7 : decode cX9_addWord 7 = .ok (.lload_n 1, 1) := by decide +kernel
theorem dX9_addWord_8 : decode cX9_addWord 8 = .ok (.iload_n 3, 1) := by decide +kernel
theorem dX9_addWord_9 : decode cX9_addWord 9 = .ok (.lushr, 1) := by decide +kernel
theorem dX9_addWord_10 : decode cX9_addWord 10 = .ok (.l2i, 1) := by decide +kernel
theorem dX9_addWord_11 : decode cX9_addWord 11 = .ok (.bipush 31, 2) := by decide +kernel
theorem dX9_addWord_13 : decode cX9_addWord 13 = .ok (.iand, 1) := by decide +kernel
theorem dX9_addWord_14 : decode cX9_addWord 14 = .ok (.istore 4, 2) := by decide +kernel
theorem dX9_addWord_16 : decode cX9_addWord 16 = .ok (.iload 4, 2) := by decide +kernel
theorem dX9_addWord_18 : decode cX9_addWord 18 = .ok (.ifCond .eq 12, 3) := by decide +kernel
theorem dX9_addWord_21 : decode cX9_addWord 21 = .ok (.aload_n 0, 1) := by decide +kernel
theorem dX9_addWord_22 : decode cX9_addWord 22 = .ok (.iload 4, 2) := by decide +kernel
theorem dX9_addWord_24 : decode cX9_addWord 24 = .ok (.bipush 96, 2) := by decide +kernel
theorem dX9_addWord_26 : decode cX9_addWord 26 = .ok (.iadd, 1) := by decide +kernel
theorem dX9_addWord_27 : decode cX9_addWord 27 = .ok (.invokevirtual 19, 3) := by decide +kernel
theorem dX9_addWord_30 : decode cX9_addWord 30 = .ok (.iinc 3 (-5), 3) := by decide +kernel
theorem dX9_addWord_33 : decode cX9_addWord 33 = .ok (.goto (-30), 3) := by decide +kernel
theorem dX9_addWord_36 : decode cX9_addWord 36 = .ok (.return_, 1) := by decide +kernel
theorem dX10_init_0 : decode cX10_init 0 = .ok (.aload_n 0, 1) := by decide +kernel
theorem dX10_init_1 : decode cX10_init 1 = .ok (.invokespecial 3, 3) := by decide +kernel
theorem dX10_init_4 : decode cX10_init 4 = .ok (.aload_n 0, 1) := by decide +kernel
theorem dX10_init_5 : decode cX10_init 5 = .ok (.bipush 6, 2) := by decide +kernel
theorem dX10_init_7 : decode cX10_init 7 = .ok (.newarray .int, 2) := by decide +kernel
theorem dX10_init_9 : decode cX10_init 9 = .ok (.putfield 9, 3) := by decide +kernel
theorem dX10_init_12 : decode cX10_init 12 = .ok (.aload_n 0, 1) := by decide +kernel
theorem dX10_init_13 : decode cX10_init 13 = .ok (.iconst 0, 1) := by decide +kernel
theorem dX10_init_14 : decode cX10_init 14 = .ok (.putfield 15, 3) := by decide +kernel
theorem dX10_init_17 : decode cX10_init 17 = .ok (.return_, 1) := by decide +kernel
theorem dX10_sit_0 : decode cX10_sit 0 = .ok (.aload_n 0, 1) := by decide +kernel
theorem dX10_sit_1 : decode cX10_sit 1 = .ok (.aload_n 1, 1) := by decide +kernel
theorem dX10_sit_2 : decode cX10_sit 2 = .ok (.getfield 19, 3) := by decide +kernel
theorem dX10_sit_5 : decode cX10_sit 5 = .ok (.putfield 15, 3) := by decide +kernel
theorem dX10_sit_8 : decode cX10_sit 8 = .ok (.aload_n 0, 1) := by decide +kernel
theorem dX10_sit_9 : decode cX10_sit 9 = .ok (.iconst 1, 1) := by decide +kernel
theorem dX10_sit_10 : decode cX10_sit 10 = .ok (.aload_n 0, 1) := by decide +kernel
theorem dX10_sit_11 : decode cX10_sit 11 = .ok (.getfield 15, 3) := by decide +kernel
theorem dX10_sit_14 : decode cX10_sit 14 = .ok (.ishl, 1) := by decide +kernel
theorem dX10_sit_15 : decode cX10_sit 15 = .ok (.iconst 1, 1) := by decide +kernel
theorem dX10_sit_16 : decode cX10_sit 16 = .ok (.isub, 1) := by decide +kernel
theorem dX10_sit_17 : decode cX10_sit 17 = .ok (.aload_n 1, 1) := by decide +kernel
theorem dX10_sit_18 : decode cX10_sit 18 = .ok (.invokevirtual 22, 3) := by decide +kernel
theorem dX10_sit_21 : decode cX10_sit 21 = .ok (.iconst (-1), 1) := by decide +kernel
theorem dX10_sit_22 : decode cX10_sit 22 = .ok (.ixor, 1) := by decide +kernel
theorem dX10_sit_23 : decode cX10_sit 23 = .ok (.iand, 1) := by decide +kernel
theorem dX10_sit_24 : decode cX10_sit 24 = .ok (.putfield 26, 3) := by decide +kernel
theorem dX10_sit_27 : decode cX10_sit 27 = .ok (.aload_n 1, 1) := by decide +kernel
theorem dX10_sit_28 : decode cX10_sit 28 = .ok (.getfield 29, 3) := by decide +kernel
theorem dX10_sit_31 : decode cX10_sit 31 = .ok (.iconst 0, 1) := by decide +kernel
theorem dX10_sit_32 : decode cX10_sit 32 = .ok (.aload_n 0, 1) := by decide +kernel
theorem dX10_sit_33 : decode cX10_sit 33 = .ok (.getfield 9, 3) := by decide +kernel
theorem dX10_sit_36 : decode cX10_sit 36 = .ok (.iconst 0, 1) := by decide +kernel
theorem dX10_sit_37 : decode cX10_sit 37 = .ok (.bipush 6, 2) := by decide +kernel
theorem dX10_sit_39 : decode cX10_sit 39 = .ok (.invokestatic 30, 3) := by decide +kernel
theorem dX10_sit_42 : decode cX10_sit 42 = .ok (.iconst 0, 1) := by decide +kernel
theorem dX10_sit_43 : decode cX10_sit 43 = .ok (.istore_n 2, 1) := by decide +kernel
theorem dX10_sit_44 : decode cX10_sit 44 = .ok (.iconst 1, 1) := by decide +kernel
theorem dX10_sit_45 : decode cX10_sit 45 = .ok (.istore_n 3, 1) := by decide +kernel
theorem dX10_sit_46 : decode cX10_sit 46 = .ok (.iload_n 3, 1) := by decide +kernel
theorem dX10_sit_47 : decode cX10_sit 47 = .ok (.ifCond .eq 20, 3) := by decide +kernel
theorem dX10_sit_50 : decode cX10_sit 50 = .ok (.iload_n 2, 1) := by decide +kernel
theorem dX10_sit_51 : decode cX10_sit 51 = .ok (.bipush 10, 2) := by decide +kernel
theorem dX10_sit_53 : decode cX10_sit 53 = .ok (.if_icmp .ge 14, 3) := by decide +kernel
theorem dX10_sit_56 : decode cX10_sit 56 = .ok (.aload_n 0, 1) := by decide +kernel
theorem dX10_sit_57 : decode cX10_sit 57 = .ok (.invokevirtual 36, 3) := by decide +kernel
theorem dX10_sit_60 : decode cX10_sit 60 = .ok (.istore_n 3, 1) := by decide +kernel
theorem dX10_sit_61 : decode cX10_sit 61 = .ok (.iinc 2 1, 3) := by decide +kernel
theorem dX10_sit_64 : decode cX10_sit 64 = .ok (.goto (-18), 3) := by decide +kernel
theorem dX10_sit_67 : decode cX10_sit 67 = .ok (.iload_n 2, 1) := by decide +kernel
theorem dX10_sit_68 : decode cX10_sit 68 = .ok (.ireturn, 1) := by decide +kernel
theorem dX10_goRound_0 : decode cX10_goRound 0 = .ok (.iconst 0, 1) := by decide +kernel
theorem dX10_goRound_1 : decode cX10_goRound 1 = .ok (.istore_n 1, 1) := by decide +kernel
theorem dX10_goRound_2 : decode cX10_goRound 2 = .ok (.iconst 0, 1) := by decide +kernel
theorem dX10_goRound_3 : decode cX10_goRound 3 = .ok (.istore_n 2, 1) := by decide +kernel
theorem dX10_goRound_4 : decode cX10_goRound 4 = .ok (.iload_n 2, 1) := by decide +kernel
theorem dX10_goRound_5 : decode cX10_goRound 5 = .ok (.aload_n 0, 1) := by decide +kernel
theorem dX10_goRound_6 : decode cX10_goRound 6 = .ok (.getfield 15, 3) := by decide +kernel
theorem dX10_goRound_9 : decode cX10_goRound 9 = .ok (.if_icmp .ge 68, 3) := by decide +kernel
theorem dX10_goRound_12 : decode cX10_goRound 12 = .ok (.aload_n 0, 1) := by decide +kernel
theorem dX10_goRound_13 : decode cX10_goRound 13 = .ok (.getfield 26, 3) := by decide +kernel
theorem dX10_goRound_16 : decode cX10_goRound 16 = .ok (.iload_n 2, 1) := by decide +kernel
theorem dX10_goRound_17 : decode cX10_goRound 17 = .ok (.ishr, 1) := by decide +kernel
theorem dX10_goRound_18 : decode cX10_goRound 18 = .ok (.iconst 1, 1) := by decide +kernel
theorem dX10_goRound_19 : decode cX10_goRound 19 = .ok (.iand, 1) := by decide +kernel
theorem dX10_goRound_20 : decode cX10_goRound 20 = .ok (.iconst 1, 1) := by decide +kernel
theorem dX10_goRound_21 : decode cX10_goRound 21 = .ok (.if_icmp .ne 50, 3) := by decide +kernel
theorem dX10_goRound_24 : decode cX10_goRound 24 = .ok (.aload_n 0, 1) := by decide +kernel
theorem dX10_goRound_25 : decode cX10_goRound 25 = .ok (.getfield 9, 3) := by decide +kernel
theorem dX10_goRound_28 : decode cX10_goRound 28 = .ok (.iload_n 2, 1) := by decide +kernel
theorem dX10_goRound_29 : decode cX10_goRound 29 = .ok (.iaload, 1) := by decide +kernel
theorem dX10_goRound_30 : decode cX10_goRound 30 = .ok (.istore_n 3, 1) := by decide +kernel
theorem dX10_goRound_31 : decode cX10_goRound 31 = .ok (.iconst 0, 1) := by decide +kernel
theorem dX10_goRound_32 : decode cX10_goRound 32 = .ok (.istore 4, 2) := by decide +kernel
theorem dX10_goRound_34 : decode cX10_goRound 34 = .ok (.iload 4, 2) := by decide +kernel
theorem dX10_goRound_36 : decode cX10_goRound 36 = .ok (.iconst 4, 1) := by decide +kernel
theorem dX10_goRound_37 : decode cX10_goRound 37 = .ok (.if_icmp .ge 16, 3) := by decide +kernel
theorem dX10_goRound_40 : decode cX10_goRound 40 = .ok (.aload_n 0, 1) := by decide +kernel
theorem dX10_goRound_41 : decode cX10_goRound 41 = .ok (.iload_n 2, 1) := by decide +kernel
theorem dX10_goRound_42 : decode cX10_goRound 42 = .ok (.iload 4, 2) := by decide +kernel
theorem dX10_goRound_44 : decode cX10_goRound 44 = .ok (.invokevirtual 40, 3) := by decide +kernel
theorem dX10_goRound_47 : decode cX10_goRound 47 = .ok (.iinc 4 1, 3) := by decide +kernel
theorem dX10_goRound_50 : decode cX10_goRound 50 = .ok (.goto (-16), 3) := by decide +kernel
theorem dX10_goRound_53 : decode cX10_goRound 53 = .ok (.iload_n 1, 1) := by decide +kernel
theorem dX10_goRound_54 : decode cX10_goRound 54 = .ok (.aload_n 0, 1) := by decide +kernel
theorem dX10_goRound_55 : decode cX10_goRound 55 = .ok (.getfield 9, 3) := by decide +kernel
theorem dX10_goRound_58 : decode cX10_goRound 58 = .ok (.iload_n 2, 1) := by decide +kernel
theorem dX10_goRound_59 : decode cX10_goRound 59 = .ok (.iaload, 1) := by decide +kernel
theorem dX10_goRound_60 : decode cX10_goRound 60 = .ok (.iload_n 3, 1) := by decide +kernel
theorem dX10_goRound_61 : decode cX10_goRound 61 = .ok (.if_icmp .eq 7, 3) := by decide +kernel
theorem dX10_goRound_64 : decode cX10_goRound 64 = .ok (.iconst 1, 1) := by decide +kernel
theorem dX10_goRound_65 : decode cX10_goRound 65 = .ok (.goto 4, 3) := by decide +kernel
theorem dX10_goRound_68 : decode cX10_goRound 68 = .ok (.iconst 0, 1) := by decide +kernel
theorem dX10_goRound_69 : decode cX10_goRound 69 = .ok (.ior, 1) := by decide +kernel
theorem dX10_goRound_70 : decode cX10_goRound 70 = .ok (.istore_n 1, 1) := by decide +kernel
theorem dX10_goRound_71 : decode cX10_goRound 71 = .ok (.iinc 2 1, 3) := by decide +kernel
theorem dX10_goRound_74 : decode cX10_goRound 74 = .ok (.goto (-70), 3) := by decide +kernel
theorem dX10_goRound_77 : decode cX10_goRound 77 = .ok (.iload_n 1, 1) := by decide +kernel
theorem dX10_goRound_78 : decode cX10_goRound 78 = .ok (.ireturn, 1) := by decide +kernel
theorem dX10_listen_0 : decode cX10_listen 0 = .ok (.iconst 0, 1) := by decide +kernel
theorem dX10_listen_1 : decode cX10_listen 1 = .ok (.istore_n 3, 1) := by decide +kernel
theorem dX10_listen_2 : decode cX10_listen 2 = .ok (.iconst 0, 1) := by decide +kernel
theorem dX10_listen_3 : decode cX10_listen 3 = .ok (.istore 4, 2) := by decide +kernel
theorem dX10_listen_5 : decode cX10_listen 5 = .ok (.iload 4, 2) := by decide +kernel
theorem dX10_listen_7 : decode cX10_listen 7 = .ok (.aload_n 0, 1) := by decide +kernel
theorem dX10_listen_8 : decode cX10_listen 8 = .ok (.getfield 15, 3) := by decide +kernel
theorem dX10_listen_11 : decode cX10_listen 11 = .ok (.if_icmp .ge 57, 3) := by decide +kernel
theorem dX10_listen_14 : decode cX10_listen 14 = .ok (.iload 4, 2) := by decide +kernel
theorem dX10_listen_16 : decode cX10_listen 16 = .ok (.iload_n 1, 1) := by decide +kernel
theorem dX10_listen_17 : decode cX10_listen 17 = .ok (.if_icmp .eq 45, 3) := by decide +kernel
theorem dX10_listen_20 : decode cX10_listen 20 = .ok (.aload_n 0, 1) := by decide +kernel
theorem dX10_listen_21 : decode cX10_listen 21 = .ok (.getfield 26, 3) := by decide +kernel
theorem dX10_listen_24 : decode cX10_listen 24 = .ok (.iload 4, 2) := by decide +kernel
theorem dX10_listen_26 : decode cX10_listen 26 = .ok (.ishr, 1) := by decide +kernel
theorem dX10_listen_27 : decode cX10_listen 27 = .ok (.iconst 1, 1) := by decide +kernel
theorem dX10_listen_28 : decode cX10_listen 28 = .ok (.iand, 1) := by decide +kernel
theorem dX10_listen_29 : decode cX10_listen 29 = .ok (.iconst 1, 1) := by decide +kernel
theorem dX10_listen_30 : decode cX10_listen 30 = .ok (.if_icmp .ne 32, 3) := by decide +kernel
theorem dX10_listen_33 : decode cX10_listen 33 = .ok (.iload_n 3, 1) := by decide +kernel
theorem dX10_listen_34 : decode cX10_listen 34 = .ok (.aload_n 0, 1) := by decide +kernel
theorem dX10_listen_35 : decode cX10_listen 35 = .ok (.getfield 9, 3) := by decide +kernel
theorem dX10_listen_38 : decode cX10_listen 38 = .ok (.iload 4, 2) := by decide +kernel
theorem dX10_listen_40 : decode cX10_listen 40 = .ok (.iaload, 1) := by decide +kernel
theorem dX10_listen_41 : decode cX10_listen 41 = .ok (.iload_n 2, 1) := by decide +kernel
theorem dX10_listen_42 : decode cX10_listen 42 = .ok (.ishr, 1) := by decide +kernel
theorem dX10_listen_43 : decode cX10_listen 43 = .ok (.iconst 1, 1) := by decide +kernel
theorem dX10_listen_44 : decode cX10_listen 44 = .ok (.iand, 1) := by decide +kernel
theorem dX10_listen_45 : decode cX10_listen 45 = .ok (.aload_n 0, 1) := by decide +kernel
theorem dX10_listen_46 : decode cX10_listen 46 = .ok (.getfield 9, 3) := by decide +kernel
theorem dX10_listen_49 : decode cX10_listen 49 = .ok (.iload 4, 2) := by decide +kernel
theorem dX10_listen_51 : decode cX10_listen 51 = .ok (.iaload, 1) := by decide +kernel
theorem dX10_listen_52 : decode cX10_listen 52 = .ok (.iload_n 2, 1) := by decide +kernel
theorem dX10_listen_53 : decode cX10_listen 53 = .ok (.invokestatic 44, 3) := by decide +kernel
theorem dX10_listen_56 : decode cX10_listen 56 = .ok (.ishr, 1) := by decide +kernel
theorem dX10_listen_57 : decode cX10_listen 57 = .ok (.iconst 1, 1) := by decide +kernel
theorem dX10_listen_58 : decode cX10_listen 58 = .ok (.iand, 1) := by decide +kernel
theorem dX10_listen_59 : decode cX10_listen 59 = .ok (.isub, 1) := by decide +kernel
theorem dX10_listen_60 : decode cX10_listen 60 = .ok (.iadd, 1) := by decide +kernel
theorem dX10_listen_61 : decode cX10_listen 61 = .ok (.istore_n 3, 1) := by decide +kernel
theorem dX10_listen_62 : decode cX10_listen 62 = .ok (.iinc 4 1, 3) := by decide +kernel
theorem dX10_listen_65 : decode cX10_listen 65 = .ok (.goto (-60), 3) := by decide +kernel
theorem dX10_listen_68 : decode cX10_listen 68 = .ok (.iload_n 3, 1) := by decide +kernel
theorem dX10_listen_69 : decode cX10_listen 69 = .ok (.ifCond .le 22, 3) := by decide +kernel
theorem dX10_listen_72 : decode cX10_listen 72 = .ok (.aload_n 0, 1) := by decide +kernel
theorem dX10_listen_73 : decode cX10_listen 73 = .ok (.getfield 9, 3) := by decide +kernel
theorem dX10_listen_76 : decode cX10_listen 76 = .ok (.iload_n 1, 1) := by decide +kernel
theorem dX10_listen_77 : decode cX10_listen 77 = .ok (.aload_n 0, 1) := by decide +kernel
theorem dX10_listen_78 : decode cX10_listen 78 = .ok (.getfield 9, 3) := by decide +kernel
theorem dX10_listen_81 : decode cX10_listen 81 = .ok (.iload_n 1, 1) := by decide +kernel
theorem dX10_listen_82 : decode cX10_listen 82 = .ok (.iaload, 1) := by decide +kernel
theorem dX10_listen_83 : decode cX10_listen 83 = .ok (.iload_n 2, 1) := by decide +kernel
theorem dX10_listen_84 : decode cX10_listen 84 = .ok (.invokestatic 48, 3) := by decide +kernel
theorem dX10_listen_87 : decode cX10_listen 87 = .ok (.iastore, 1) := by decide +kernel
theorem dX10_listen_88 : decode cX10_listen 88 = .ok (.goto 26, 3) := by decide +kernel
theorem dX10_listen_91 : decode cX10_listen 91 = .ok (.iload_n 3, 1) := by decide +kernel
theorem dX10_listen_92 : decode cX10_listen 92 = .ok (.ifCond .ge 22, 3) := by decide +kernel
theorem dX10_listen_95 : decode cX10_listen 95 = .ok (.aload_n 0, 1) := by decide +kernel
theorem dX10_listen_96 : decode cX10_listen 96 = .ok (.getfield 9, 3) := by decide +kernel
theorem dX10_listen_99 : decode cX10_listen 99 = .ok (.iload_n 1, 1) := by decide +kernel
theorem dX10_listen_100 : decode cX10_listen 100 = .ok (.aload_n 0, 1) := by decide +kernel
theorem dX10_listen_101 : decode cX10_listen 101 = .ok (.getfield 9, 3) := by decide +kernel
theorem dX10_listen_104 : decode cX10_listen 104 = .ok (.iload_n 1, 1) := by decide +kernel
theorem dX10_listen_105 : decode cX10_listen 105 = .ok (.iaload, 1) := by decide +kernel
theorem dX10_listen_106 : decode cX10_listen 106 = .ok (.iload_n 2, 1) := by decide +kernel
theorem dX10_listen_107 : decode cX10_listen 107 = .ok (.invokestatic 44, 3) := by decide +kernel
theorem dX10_listen_110 : decode cX10_listen 110 = .ok (.invokestatic 48, 3) := by decide +kernel
theorem dX10_listen_113 : decode cX10_listen 113 = .ok (.iastore, 1) := by decide +kernel
theorem dX10_listen_114 : decode cX10_listen 114 = .ok (.return_, 1) := by decide +kernel
theorem dX11_init_0 : decode cX11_init 0 = .ok (.aload_n 0, 1) := by decide +kernel
theorem dX11_init_1 : decode cX11_init 1 = .ok (.invokespecial 1, 3) := by decide +kernel
theorem dX11_init_4 : decode cX11_init 4 = .ok (.aload_n 0, 1) := by decide +kernel
theorem dX11_init_5 : decode cX11_init 5 = .ok (.new 7, 3) := by decide +kernel
theorem dX11_init_8 : decode cX11_init 8 = .ok (.dup, 1) := by decide +kernel
theorem dX11_init_9 : decode cX11_init 9 = .ok (.invokespecial 9, 3) := by decide +kernel
theorem dX11_init_12 : decode cX11_init 12 = .ok (.putfield 10, 3) := by decide +kernel
theorem dX11_init_15 : decode cX11_init 15 = .ok (.aload_n 0, 1) := by decide +kernel
theorem dX11_init_16 : decode cX11_init 16 = .ok (.aload_n 0, 1) := by decide +kernel
theorem dX11_init_17 : decode cX11_init 17 = .ok (.getfield 10, 3) := by decide +kernel
theorem dX11_init_20 : decode cX11_init 20 = .ok (.getfield 16, 3) := by decide +kernel
theorem dX11_init_23 : decode cX11_init 23 = .ok (.putfield 20, 3) := by decide +kernel
theorem dX11_init_26 : decode cX11_init 26 = .ok (.aload_n 0, 1) := by decide +kernel
theorem dX11_init_27 : decode cX11_init 27 = .ok (.new 23, 3) := by decide +kernel
theorem dX11_init_30 : decode cX11_init 30 = .ok (.dup, 1) := by decide +kernel
theorem dX11_init_31 : decode cX11_init 31 = .ok (.invokespecial 25, 3) := by decide +kernel
theorem dX11_init_34 : decode cX11_init 34 = .ok (.putfield 26, 3) := by decide +kernel
theorem dX11_init_37 : decode cX11_init 37 = .ok (.aload_n 0, 1) := by decide +kernel
theorem dX11_init_38 : decode cX11_init 38 = .ok (.new 23, 3) := by decide +kernel
theorem dX11_init_41 : decode cX11_init 41 = .ok (.dup, 1) := by decide +kernel
theorem dX11_init_42 : decode cX11_init 42 = .ok (.invokespecial 25, 3) := by decide +kernel
theorem dX11_init_45 : decode cX11_init 45 = .ok (.putfield 30, 3) := by decide +kernel
theorem dX11_init_48 : decode cX11_init 48 = .ok (.aload_n 0, 1) := by decide +kernel
theorem dX11_init_49 : decode cX11_init 49 = .ok (.new 33, 3) := by decide +kernel
theorem dX11_init_52 : decode cX11_init 52 = .ok (.dup, 1) := by decide +kernel
theorem dX11_init_53 : decode cX11_init 53 = .ok (.invokespecial 35, 3) := by decide +kernel
theorem dX11_init_56 : decode cX11_init 56 = .ok (.putfield 36, 3) := by decide +kernel
theorem dX11_init_59 : decode cX11_init 59 = .ok (.aload_n 0, 1) := by decide +kernel
theorem dX11_init_60 : decode cX11_init 60 = .ok (.new 33, 3) := by decide +kernel
theorem dX11_init_63 : decode cX11_init 63 = .ok (.dup, 1) := by decide +kernel
theorem dX11_init_64 : decode cX11_init 64 = .ok (.invokespecial 35, 3) := by decide +kernel
theorem dX11_init_67 : decode cX11_init 67 = .ok (.putfield 40, 3) := by decide +kernel
theorem dX11_init_70 : decode cX11_init 70 = .ok (.aload_n 0, 1) := by decide +kernel
theorem dX11_init_71 : decode cX11_init 71 = .ok (.new 43, 3) := by decide +kernel
theorem dX11_init_74 : decode cX11_init 74 = .ok (.dup, 1) := by decide +kernel
theorem dX11_init_75 : decode cX11_init 75 = .ok (.invokespecial 45, 3) := by decide +kernel
theorem dX11_init_78 : decode cX11_init 78 = .ok (.putfield 46, 3) := by decide +kernel
theorem dX11_init_81 : decode cX11_init 81 = .ok (.aload_n 0, 1) := by decide +kernel
theorem dX11_init_82 : decode cX11_init 82 = .ok (.new 50, 3) := by decide +kernel
theorem dX11_init_85 : decode cX11_init 85 = .ok (.dup, 1) := by decide +kernel
theorem dX11_init_86 : decode cX11_init 86 = .ok (.invokespecial 52, 3) := by decide +kernel
theorem dX11_init_89 : decode cX11_init 89 = .ok (.putfield 53, 3) := by decide +kernel
theorem dX11_init_92 : decode cX11_init 92 = .ok (.aload_n 0, 1) := by decide +kernel
theorem dX11_init_93 : decode cX11_init 93 = .ok (.iconst 2, 1) := by decide +kernel
theorem dX11_init_94 : decode cX11_init 94 = .ok (.anewarray 57, 3) := by decide +kernel
theorem dX11_init_97 : decode cX11_init 97 = .ok (.putfield 59, 3) := by decide +kernel
theorem dX11_init_100 : decode cX11_init 100 = .ok (.iconst 0, 1) := by decide +kernel
theorem dX11_init_101 : decode cX11_init 101 = .ok (.istore_n 1, 1) := by decide +kernel
theorem dX11_init_102 : decode cX11_init 102 = .ok (.iload_n 1, 1) := by decide +kernel
theorem dX11_init_103 : decode cX11_init 103 = .ok (.iconst 2, 1) := by decide +kernel
theorem dX11_init_104 : decode cX11_init 104 = .ok (.if_icmp .ge 22, 3) := by decide +kernel
theorem dX11_init_107 : decode cX11_init 107 = .ok (.aload_n 0, 1) := by decide +kernel
theorem dX11_init_108 : decode cX11_init 108 = .ok (.getfield 59, 3) := by decide +kernel
theorem dX11_init_111 : decode cX11_init 111 = .ok (.iload_n 1, 1) := by decide +kernel
theorem dX11_init_112 : decode cX11_init 112 = .ok (.new 57, 3) := by decide +kernel
theorem dX11_init_115 : decode cX11_init 115 = .ok (.dup, 1) := by decide +kernel
theorem dX11_init_116 : decode cX11_init 116 = .ok (.invokespecial 63, 3) := by decide +kernel
theorem dX11_init_119 : decode cX11_init 119 = .ok (.aastore, 1) := by decide +kernel
theorem dX11_init_120 : decode cX11_init 120 = .ok (.iinc 1 1, 3) := by decide +kernel
theorem dX11_init_123 : decode cX11_init 123 = .ok (.goto (-21), 3) := by decide +kernel
theorem dX11_init_126 : decode cX11_init 126 = .ok (.aload_n 0, 1) := by decide +kernel
theorem dX11_init_127 : decode cX11_init 127 = .ok (.new 64, 3) := by decide +kernel
theorem dX11_init_130 : decode cX11_init 130 = .ok (.dup, 1) := by decide +kernel
theorem dX11_init_131 : decode cX11_init 131 = .ok (.invokespecial 66, 3) := by decide +kernel
theorem dX11_init_134 : decode cX11_init 134 = .ok (.putfield 67, 3) := by decide +kernel
theorem dX11_init_137 : decode cX11_init 137 = .ok (.aload_n 0, 1) := by decide +kernel
theorem dX11_init_138 : decode cX11_init 138 = .ok (.new 71, 3) := by decide +kernel
theorem dX11_init_141 : decode cX11_init 141 = .ok (.dup, 1) := by decide +kernel
theorem dX11_init_142 : decode cX11_init 142 = .ok (.invokespecial 73, 3) := by decide +kernel
theorem dX11_init_145 : decode cX11_init 145 = .ok (.putfield 74, 3) := by decide +kernel
theorem dX11_init_148 : decode cX11_init 148 = .ok (.aload_n 0, 1) := by decide +kernel
theorem dX11_init_149 : decode cX11_init 149 = .ok (.new 78, 3) := by decide +kernel
theorem dX11_init_152 : decode cX11_init 152 = .ok (.dup, 1) := by decide +kernel
theorem dX11_init_153 : decode cX11_init 153 = .ok (.invokespecial 80, 3) := by decide +kernel
theorem dX11_init_156 : decode cX11_init 156 = .ok (.putfield 81, 3) := by decide +kernel
theorem dX11_init_159 : decode cX11_init 159 = .ok (.aload_n 0, 1) := by decide +kernel
theorem dX11_init_160 : decode cX11_init 160 = .ok (.new 85, 3) := by decide +kernel
theorem dX11_init_163 : decode cX11_init 163 = .ok (.dup, 1) := by decide +kernel
theorem dX11_init_164 : decode cX11_init 164 = .ok (.invokespecial 87, 3) := by decide +kernel
theorem dX11_init_167 : decode cX11_init 167 = .ok (.putfield 88, 3) := by decide +kernel
theorem dX11_init_170 : decode cX11_init 170 = .ok (.aload_n 0, 1) := by decide +kernel
theorem dX11_init_171 : decode cX11_init 171 = .ok (.new 92, 3) := by decide +kernel
theorem dX11_init_174 : decode cX11_init 174 = .ok (.dup, 1) := by decide +kernel
theorem dX11_init_175 : decode cX11_init 175 = .ok (.bipush 96, 2) := by decide +kernel
theorem dX11_init_177 : decode cX11_init 177 = .ok (.invokespecial 94, 3) := by decide +kernel
theorem dX11_init_180 : decode cX11_init 180 = .ok (.putfield 97, 3) := by decide +kernel
theorem dX11_init_183 : decode cX11_init 183 = .ok (.aload_n 0, 1) := by decide +kernel
theorem dX11_init_184 : decode cX11_init 184 = .ok (.iconst 4, 1) := by decide +kernel
theorem dX11_init_185 : decode cX11_init 185 = .ok (.newarray .int, 2) := by decide +kernel
theorem dX11_init_187 : decode cX11_init 187 = .ok (.dup, 1) := by decide +kernel
theorem dX11_init_188 : decode cX11_init 188 = .ok (.iconst 0, 1) := by decide +kernel
theorem dX11_init_189 : decode cX11_init 189 = .ok (.iconst (-1), 1) := by decide +kernel
theorem dX11_init_190 : decode cX11_init 190 = .ok (.iastore, 1) := by decide +kernel
theorem dX11_init_191 : decode cX11_init 191 = .ok (.dup, 1) := by decide +kernel
theorem dX11_init_192 : decode cX11_init 192 = .ok (.iconst 1, 1) := by decide +kernel
theorem dX11_init_193 : decode cX11_init 193 = .ok (.iconst (-1), 1) := by decide +kernel
theorem dX11_init_194 : decode cX11_init 194 = .ok (.iastore, 1) := by decide +kernel
theorem dX11_init_195 : decode cX11_init 195 = .ok (.dup, 1) := by decide +kernel
theorem dX11_init_196 : decode cX11_init 196 = .ok (.iconst 2, 1) := by decide +kernel
theorem dX11_init_197 : decode cX11_init 197 = .ok (.iconst (-1), 1) := by decide +kernel
theorem dX11_init_198 : decode cX11_init 198 = .ok (.iastore, 1) := by decide +kernel
theorem dX11_init_199 : decode cX11_init 199 = .ok (.dup, 1) := by decide +kernel
theorem dX11_init_200 : decode cX11_init 200 = .ok (.iconst 3, 1) := by decide +kernel
theorem dX11_init_201 : decode cX11_init 201 = .ok (.iconst (-1), 1) := by decide +kernel
theorem dX11_init_202 : decode cX11_init 202 = .ok (.iastore, 1) := by decide +kernel
theorem dX11_init_203 : decode cX11_init 203 = .ok (.putfield 100, 3) := by decide +kernel
theorem dX11_init_206 : decode cX11_init 206 = .ok (.aload_n 0, 1) := by decide +kernel
theorem dX11_init_207 : decode cX11_init 207 = .ok (.iconst 0, 1) := by decide +kernel
theorem dX11_init_208 : decode cX11_init 208 = .ok (.putfield 104, 3) := by decide +kernel
theorem dX11_init_211 : decode cX11_init 211 = .ok (.aload_n 0, 1) := by decide +kernel
theorem dX11_init_212 : decode cX11_init 212 = .ok (.iconst (-1), 1) := by decide +kernel
theorem dX11_init_213 : decode cX11_init 213 = .ok (.putfield 108, 3) := by decide +kernel
theorem dX11_init_216 : decode cX11_init 216 = .ok (.return_, 1) := by decide +kernel
theorem dX11_feed_0 : decode cX11_feed 0 = .ok (.aload_n 0, 1) := by decide +kernel
theorem dX11_feed_1 : decode cX11_feed 1 = .ok (.getfield 20, 3) := by decide +kernel
theorem dX11_feed_4 : decode cX11_feed 4 = .ok (.getfield 111, 3) := by decide +kernel
theorem dX11_feed_7 : decode cX11_feed 7 = .ok (.bipush 20, 2) := by decide +kernel
theorem dX11_feed_9 : decode cX11_feed 9 = .ok (.iadd, 1) := by decide +kernel
theorem dX11_feed_10 : decode cX11_feed 10 = .ok (.sipush 940, 3) := by decide +kernel
theorem dX11_feed_13 : decode cX11_feed 13 = .ok (.if_icmp .le 5, 3) := by decide +kernel
theorem dX11_feed_16 : decode cX11_feed 16 = .ok (.iconst (-1), 1) := by decide +kernel
theorem dX11_feed_17 : decode cX11_feed 17 = .ok (.ireturn, 1) := by decide +kernel
theorem dX11_feed_18 : decode cX11_feed 18 = .ok (.aload_n 0, 1) := by decide +kernel
theorem dX11_feed_19 : decode cX11_feed 19 = .ok (.getfield 20, 3) := by decide +kernel
theorem dX11_feed_22 : decode cX11_feed 22 = .ok (.iload_n 1, 1) := by decide +kernel
theorem dX11_feed_23 : decode cX11_feed 23 = .ok (.invokevirtual 114, 3) := by decide +kernel
theorem dX11_feed_26 : decode cX11_feed 26 = .ok (.aload_n 0, 1) := by decide +kernel
theorem dX11_feed_27 : decode cX11_feed 27 = .ok (.getfield 20, 3) := by decide +kernel
theorem dX11_feed_30 : decode cX11_feed 30 = .ok (.iload_n 2, 1) := by decide +kernel
theorem dX11_feed_31 : decode cX11_feed 31 = .ok (.invokevirtual 114, 3) := by decide +kernel
theorem dX11_feed_34 : decode cX11_feed 34 = .ok (.aload_n 0, 1) := by decide +kernel
theorem dX11_feed_35 : decode cX11_feed 35 = .ok (.getfield 20, 3) := by decide +kernel
theorem dX11_feed_38 : decode cX11_feed 38 = .ok (.iload_n 3, 1) := by decide +kernel
theorem dX11_feed_39 : decode cX11_feed 39 = .ok (.invokevirtual 114, 3) := by decide +kernel
theorem dX11_feed_42 : decode cX11_feed 42 = .ok (.aload_n 0, 1) := by decide +kernel
theorem dX11_feed_43 : decode cX11_feed 43 = .ok (.getfield 20, 3) := by decide +kernel
theorem dX11_feed_46 : decode cX11_feed 46 = .ok (.iload 4, 2) := by decide +kernel
theorem dX11_feed_48 : decode cX11_feed 48 = .ok (.invokevirtual 114, 3) := by decide +kernel
theorem dX11_feed_51 : decode cX11_feed 51 = .ok (.aload_n 0, 1) := by decide +kernel
theorem dX11_feed_52 : decode cX11_feed 52 = .ok (.getfield 20, 3) := by decide +kernel
theorem dX11_feed_55 : decode cX11_feed 55 = .ok (.iload 5, 2) := by decide +kernel
theorem dX11_feed_57 : decode cX11_feed 57 = .ok (.invokevirtual 114, 3) := by decide +kernel
theorem dX11_feed_60 : decode cX11_feed 60 = .ok (.aload_n 0, 1) := by decide +kernel
theorem dX11_feed_61 : decode cX11_feed 61 = .ok (.getfield 20, 3) := by decide +kernel
theorem dX11_feed_64 : decode cX11_feed 64 = .ok (.getfield 111, 3) := by decide +kernel
theorem dX11_feed_67 : decode cX11_feed 67 = .ok (.ireturn, 1) := by decide +kernel
theorem dX11_end_0 : decode cX11_end 0 = .ok (.iload_n 1, 1) := by decide +kernel
theorem dX11_end_1 : decode cX11_end 1 = .ok (.ifCond .lt 14, 3) := by decide +kernel
theorem dX11_end_4 : decode cX11_end 4 = .ok (.iload_n 1, 1) := by decide +kernel
theorem dX11_end_5 : decode cX11_end 5 = .ok (.aload_n 0, 1) := by decide +kernel
theorem dX11_end_6 : decode cX11_end 6 = .ok (.getfield 20, 3) := by decide +kernel
theorem dX11_end_9 : decode cX11_end 9 = .ok (.getfield 111, 3) := by decide +kernel
theorem dX11_end_12 : decode cX11_end 12 = .ok (.if_icmp .le 5, 3) := by decide +kernel
theorem dX11_end_15 : decode cX11_end 15 = .ok (.iconst 0, 1) := by decide +kernel
theorem dX11_end_16 : decode cX11_end 16 = .ok (.ireturn, 1) := by decide +kernel
theorem dX11_end_17 : decode cX11_end 17 = .ok (.aload_n 0, 1) := by decide +kernel
theorem dX11_end_18 : decode cX11_end 18 = .ok (.getfield 20, 3) := by decide +kernel
theorem dX11_end_21 : decode cX11_end 21 = .ok (.iload_n 1, 1) := by decide +kernel
theorem dX11_end_22 : decode cX11_end 22 = .ok (.putfield 111, 3) := by decide +kernel
theorem dX11_end_25 : decode cX11_end 25 = .ok (.iconst 1, 1) := by decide +kernel
theorem dX11_end_26 : decode cX11_end 26 = .ok (.ireturn, 1) := by decide +kernel
theorem dX11_suburb_0 : decode cX11_suburb 0 = .ok (.aload_n 0, 1) := by decide +kernel
theorem dX11_suburb_1 : decode cX11_suburb 1 = .ok (.getfield 30, 3) := by decide +kernel
theorem dX11_suburb_4 : decode cX11_suburb 4 = .ok (.aload_n 0, 1) := by decide +kernel
theorem dX11_suburb_5 : decode cX11_suburb 5 = .ok (.getfield 10, 3) := by decide +kernel
theorem dX11_suburb_8 : decode cX11_suburb 8 = .ok (.invokevirtual 117, 3) := by decide +kernel
theorem dX11_suburb_11 : decode cX11_suburb 11 = .ok (.istore_n 1, 1) := by decide +kernel
theorem dX11_suburb_12 : decode cX11_suburb 12 = .ok (.aload_n 0, 1) := by decide +kernel
theorem dX11_suburb_13 : decode cX11_suburb 13 = .ok (.invokevirtual 121, 3) := by decide +kernel
theorem dX11_suburb_16 : decode cX11_suburb 16 = .ok (.iload_n 1, 1) := by decide +kernel
theorem dX11_suburb_17 : decode cX11_suburb 17 = .ok (.iconst (-1), 1) := by decide +kernel
theorem dX11_suburb_18 : decode cX11_suburb 18 = .ok (.if_icmp .ne 13, 3) := by decide +kernel
theorem dX11_suburb_21 : decode cX11_suburb 21 = .ok (.iconst (-1), 1) := by decide +kernel
theorem dX11_suburb_22 : decode cX11_suburb 22 = .ok (.aload_n 0, 1) := by decide +kernel
theorem dX11_suburb_23 : decode cX11_suburb 23 = .ok (.getfield 10, 3) := by decide +kernel
theorem dX11_suburb_26 : decode cX11_suburb 26 = .ok (.getfield 124, 3) := by decide +kernel
theorem dX11_suburb_29 : decode cX11_suburb 29 = .ok (.isub, 1) := by decide +kernel
theorem dX11_suburb_30 : decode cX11_suburb 30 = .ok (.ireturn, 1) := by decide +kernel
theorem dX11_suburb_31 : decode cX11_suburb 31 = .ok (.aload_n 0, 1) := by decide +kernel
theorem dX11_suburb_32 : decode cX11_suburb 32 = .ok (.getfield 26, 3) := by decide +kernel
theorem dX11_suburb_35 : decode cX11_suburb 35 = .ok (.aload_n 0, 1) := by decide +kernel
theorem dX11_suburb_36 : decode cX11_suburb 36 = .ok (.getfield 30, 3) := by decide +kernel
theorem dX11_suburb_39 : decode cX11_suburb 39 = .ok (.invokevirtual 127, 3) := by decide +kernel
theorem dX11_suburb_42 : decode cX11_suburb 42 = .ok (.aload_n 0, 1) := by decide +kernel
theorem dX11_suburb_43 : decode cX11_suburb 43 = .ok (.getfield 36, 3) := by decide +kernel
theorem dX11_suburb_46 : decode cX11_suburb 46 = .ok (.invokevirtual 131, 3) := by decide +kernel
theorem dX11_suburb_49 : decode cX11_suburb 49 = .ok (.aload_n 0, 1) := by decide +kernel
theorem dX11_suburb_50 : decode cX11_suburb 50 = .ok (.getfield 53, 3) := by decide +kernel
theorem dX11_suburb_53 : decode cX11_suburb 53 = .ok (.invokevirtual 134, 3) := by decide +kernel
theorem dX11_suburb_56 : decode cX11_suburb 56 = .ok (.iload_n 1, 1) := by decide +kernel
theorem dX11_suburb_57 : decode cX11_suburb 57 = .ok (.ireturn, 1) := by decide +kernel
theorem dX11_fault_0 : decode cX11_fault 0 = .ok (.aload_n 0, 1) := by decide +kernel
theorem dX11_fault_1 : decode cX11_fault 1 = .ok (.getfield 104, 3) := by decide +kernel
theorem dX11_fault_4 : decode cX11_fault 4 = .ok (.ireturn, 1) := by decide +kernel
theorem dX11_person_0 : decode cX11_person 0 = .ok (.aload_n 0, 1) := by decide +kernel
theorem dX11_person_1 : decode cX11_person 1 = .ok (.getfield 26, 3) := by decide +kernel
theorem dX11_person_4 : decode cX11_person 4 = .ok (.iload_n 1, 1) := by decide +kernel
theorem dX11_person_5 : decode cX11_person 5 = .ok (.invokevirtual 137, 3) := by decide +kernel
theorem dX11_person_8 : decode cX11_person 8 = .ok (.ifCond .ne 13, 3) := by decide +kernel
theorem dX11_person_11 : decode cX11_person 11 = .ok (.new 141, 3) := by decide +kernel
theorem dX11_person_14 : decode cX11_person 14 = .ok (.dup, 1) := by decide +kernel
theorem dX11_person_15 : decode cX11_person 15 = .ok (.ldc 143, 2) := by decide +kernel
theorem dX11_person_17 : decode cX11_person 17 = .ok (.invokespecial 145, 3) := by decide +kernel
theorem dX11_person_20 : decode cX11_person 20 = .ok (.athrow, 1) := by decide +kernel
theorem dX11_person_21 : decode cX11_person 21 = .ok (.iload_n 2, 1) := by decide +kernel
theorem dX11_person_22 : decode cX11_person 22 = .ok (.tableswitch 110 0 6 #[42, 52, 62, 72, 82, 92, 101], 42) := by decide +kernel
theorem dX11_person_64 : decode cX11_person 64 = .ok (.aload_n 0, 1) := by decide +kernel
theorem dX11_person_65 : decode cX11_person 65 = .ok (.getfield 26, 3) := by decide +kernel
theorem dX11_person_68 : decode cX11_person 68 = .ok (.getfield 148, 3) := by decide +kernel
theorem dX11_person_71 : decode cX11_person 71 = .ok (.iload_n 1, 1) := by decide +kernel
theorem dX11_person_72 : decode cX11_person 72 = .ok (.iaload, 1) := by decide +kernel
theorem dX11_person_73 : decode cX11_person 73 = .ok (.ireturn, 1) := by decide +kernel
theorem dX11_person_74 : decode cX11_person 74 = .ok (.aload_n 0, 1) := by decide +kernel
theorem dX11_person_75 : decode cX11_person 75 = .ok (.getfield 26, 3) := by decide +kernel
theorem dX11_person_78 : decode cX11_person 78 = .ok (.getfield 151, 3) := by decide +kernel
theorem dX11_person_81 : decode cX11_person 81 = .ok (.iload_n 1, 1) := by decide +kernel
theorem dX11_person_82 : decode cX11_person 82 = .ok (.iaload, 1) := by decide +kernel
theorem dX11_person_83 : decode cX11_person 83 = .ok (.ireturn, 1) := by decide +kernel
theorem dX11_person_84 : decode cX11_person 84 = .ok (.aload_n 0, 1) := by decide +kernel
theorem dX11_person_85 : decode cX11_person 85 = .ok (.getfield 26, 3) := by decide +kernel
theorem dX11_person_88 : decode cX11_person 88 = .ok (.getfield 154, 3) := by decide +kernel
theorem dX11_person_91 : decode cX11_person 91 = .ok (.iload_n 1, 1) := by decide +kernel
theorem dX11_person_92 : decode cX11_person 92 = .ok (.iaload, 1) := by decide +kernel
theorem dX11_person_93 : decode cX11_person 93 = .ok (.ireturn, 1) := by decide +kernel
theorem dX11_person_94 : decode cX11_person 94 = .ok (.aload_n 0, 1) := by decide +kernel
theorem dX11_person_95 : decode cX11_person 95 = .ok (.getfield 26, 3) := by decide +kernel
theorem dX11_person_98 : decode cX11_person 98 = .ok (.getfield 157, 3) := by decide +kernel
theorem dX11_person_101 : decode cX11_person 101 = .ok (.iload_n 1, 1) := by decide +kernel
theorem dX11_person_102 : decode cX11_person 102 = .ok (.iaload, 1) := by decide +kernel
theorem dX11_person_103 : decode cX11_person 103 = .ok (.ireturn, 1) := by decide +kernel
theorem dX11_person_104 : decode cX11_person 104 = .ok (.aload_n 0, 1) := by decide +kernel
theorem dX11_person_105 : decode cX11_person 105 = .ok (.getfield 26, 3) := by decide +kernel
theorem dX11_person_108 : decode cX11_person 108 = .ok (.getfield 160, 3) := by decide +kernel
theorem dX11_person_111 : decode cX11_person 111 = .ok (.iload_n 1, 1) := by decide +kernel
theorem dX11_person_112 : decode cX11_person 112 = .ok (.iaload, 1) := by decide +kernel
theorem dX11_person_113 : decode cX11_person 113 = .ok (.ireturn, 1) := by decide +kernel
theorem dX11_person_114 : decode cX11_person 114 = .ok (.aload_n 0, 1) := by decide +kernel
theorem dX11_person_115 : decode cX11_person 115 = .ok (.getfield 26, 3) := by decide +kernel
theorem dX11_person_118 : decode cX11_person 118 = .ok (.iload_n 1, 1) := by decide +kernel
theorem dX11_person_119 : decode cX11_person 119 = .ok (.invokevirtual 163, 3) := by decide +kernel
theorem dX11_person_122 : decode cX11_person 122 = .ok (.ireturn, 1) := by decide +kernel
theorem dX11_person_123 : decode cX11_person 123 = .ok (.aload_n 0, 1) := by decide +kernel
theorem dX11_person_124 : decode cX11_person 124 = .ok (.getfield 26, 3) := by decide +kernel
theorem dX11_person_127 : decode cX11_person 127 = .ok (.iload_n 1, 1) := by decide +kernel
theorem dX11_person_128 : decode cX11_person 128 = .ok (.invokevirtual 167, 3) := by decide +kernel
theorem dX11_person_131 : decode cX11_person 131 = .ok (.ireturn, 1) := by decide +kernel
theorem dX11_person_132 : decode cX11_person 132 = .ok (.new 141, 3) := by decide +kernel
theorem dX11_person_135 : decode cX11_person 135 = .ok (.dup, 1) := by decide +kernel
theorem dX11_person_136 : decode cX11_person 136 = .ok (.ldc 170, 2) := by decide +kernel
theorem dX11_person_138 : decode cX11_person 138 = .ok (.invokespecial 145, 3) := by decide +kernel
theorem dX11_person_141 : decode cX11_person 141 = .ok (.athrow, 1) := by decide +kernel
theorem dX11_turret_0 : decode cX11_turret 0 = .ok (.aload_n 0, 1) := by decide +kernel
theorem dX11_turret_1 : decode cX11_turret 1 = .ok (.getfield 26, 3) := by decide +kernel
theorem dX11_turret_4 : decode cX11_turret 4 = .ok (.iload_n 1, 1) := by decide +kernel
theorem dX11_turret_5 : decode cX11_turret 5 = .ok (.invokevirtual 172, 3) := by decide +kernel
theorem dX11_turret_8 : decode cX11_turret 8 = .ok (.ifCond .ne 5, 3) := by decide +kernel
theorem dX11_turret_11 : decode cX11_turret 11 = .ok (.iconst (-1), 1) := by decide +kernel
theorem dX11_turret_12 : decode cX11_turret 12 = .ok (.ireturn, 1) := by decide +kernel
theorem dX11_turret_13 : decode cX11_turret 13 = .ok (.iload_n 2, 1) := by decide +kernel
theorem dX11_turret_14 : decode cX11_turret 14 = .ok (.tableswitch 114 0 6 #[42, 52, 62, 72, 84, 96, 105], 42) := by decide +kernel
theorem dX11_turret_56 : decode cX11_turret 56 = .ok (.aload_n 0, 1) := by decide +kernel
theorem dX11_turret_57 : decode cX11_turret 57 = .ok (.getfield 26, 3) := by decide +kernel
theorem dX11_turret_60 : decode cX11_turret 60 = .ok (.getfield 175, 3) := by decide +kernel
theorem dX11_turret_63 : decode cX11_turret 63 = .ok (.iload_n 1, 1) := by decide +kernel
theorem dX11_turret_64 : decode cX11_turret 64 = .ok (.iaload, 1) := by decide +kernel
theorem dX11_turret_65 : decode cX11_turret 65 = .ok (.ireturn, 1) := by decide +kernel
theorem dX11_turret_66 : decode cX11_turret 66 = .ok (.aload_n 0, 1) := by decide +kernel
theorem dX11_turret_67 : decode cX11_turret 67 = .ok (.getfield 26, 3) := by decide +kernel
theorem dX11_turret_70 : decode cX11_turret 70 = .ok (.getfield 178, 3) := by decide +kernel
theorem dX11_turret_73 : decode cX11_turret 73 = .ok (.iload_n 1, 1) := by decide +kernel
theorem dX11_turret_74 : decode cX11_turret 74 = .ok (.iaload, 1) := by decide +kernel
theorem dX11_turret_75 : decode cX11_turret 75 = .ok (.ireturn, 1) := by decide +kernel
theorem dX11_turret_76 : decode cX11_turret 76 = .ok (.aload_n 0, 1) := by decide +kernel
theorem dX11_turret_77 : decode cX11_turret 77 = .ok (.getfield 26, 3) := by decide +kernel
theorem dX11_turret_80 : decode cX11_turret 80 = .ok (.getfield 181, 3) := by decide +kernel
theorem dX11_turret_83 : decode cX11_turret 83 = .ok (.iload_n 1, 1) := by decide +kernel
theorem dX11_turret_84 : decode cX11_turret 84 = .ok (.iaload, 1) := by decide +kernel
theorem dX11_turret_85 : decode cX11_turret 85 = .ok (.ireturn, 1) := by decide +kernel
theorem dX11_turret_86 : decode cX11_turret 86 = .ok (.aload_n 0, 1) := by decide +kernel
theorem dX11_turret_87 : decode cX11_turret 87 = .ok (.getfield 26, 3) := by decide +kernel
theorem dX11_turret_90 : decode cX11_turret 90 = .ok (.getfield 184, 3) := by decide +kernel
theorem dX11_turret_93 : decode cX11_turret 93 = .ok (.iload_n 1, 1) := by decide +kernel
theorem dX11_turret_94 : decode cX11_turret 94 = .ok (.ishr, 1) := by decide +kernel
theorem dX11_turret_95 : decode cX11_turret 95 = .ok (.iconst 1, 1) := by decide +kernel
theorem dX11_turret_96 : decode cX11_turret 96 = .ok (.iand, 1) := by decide +kernel
theorem dX11_turret_97 : decode cX11_turret 97 = .ok (.ireturn, 1) := by decide +kernel
theorem dX11_turret_98 : decode cX11_turret 98 = .ok (.aload_n 0, 1) := by decide +kernel
theorem dX11_turret_99 : decode cX11_turret 99 = .ok (.getfield 26, 3) := by decide +kernel
theorem dX11_turret_102 : decode cX11_turret 102 = .ok (.getfield 187, 3) := by decide +kernel
theorem dX11_turret_105 : decode cX11_turret 105 = .ok (.iload_n 1, 1) := by decide +kernel
theorem dX11_turret_106 : decode cX11_turret 106 = .ok (.ishr, 1) := by decide +kernel
theorem dX11_turret_107 : decode cX11_turret 107 = .ok (.iconst 1, 1) := by decide +kernel
theorem dX11_turret_108 : decode cX11_turret 108 = .ok (.iand, 1) := by decide +kernel
theorem dX11_turret_109 : decode cX11_turret 109 = .ok (.ireturn, 1) := by decide +kernel
theorem dX11_turret_110 : decode cX11_turret 110 = .ok (.aload_n 0, 1) := by decide +kernel
theorem dX11_turret_111 : decode cX11_turret 111 = .ok (.getfield 26, 3) := by decide +kernel
theorem dX11_turret_114 : decode cX11_turret 114 = .ok (.iload_n 1, 1) := by decide +kernel
theorem dX11_turret_115 : decode cX11_turret 115 = .ok (.invokevirtual 190, 3) := by decide +kernel
theorem dX11_turret_118 : decode cX11_turret 118 = .ok (.ireturn, 1) := by decide +kernel
theorem dX11_turret_119 : decode cX11_turret 119 = .ok (.aload_n 0, 1) := by decide +kernel
theorem dX11_turret_120 : decode cX11_turret 120 = .ok (.getfield 26, 3) := by decide +kernel
theorem dX11_turret_123 : decode cX11_turret 123 = .ok (.iload_n 1, 1) := by decide +kernel
theorem dX11_turret_124 : decode cX11_turret 124 = .ok (.invokevirtual 193, 3) := by decide +kernel
theorem dX11_turret_127 : decode cX11_turret 127 = .ok (.ireturn, 1) := by decide +kernel
theorem dX11_turret_128 : decode cX11_turret 128 = .ok (.iconst (-1), 1) := by decide +kernel
theorem dX11_turret_129 : decode cX11_turret 129 = .ok (.ireturn, 1) := by decide +kernel
theorem dX11_looks_0 : decode cX11_looks 0 = .ok (.aload_n 0, 1) := by decide +kernel
theorem dX11_looks_1 : decode cX11_looks 1 = .ok (.getfield 26, 3) := by decide +kernel
theorem dX11_looks_4 : decode cX11_looks 4 = .ok (.iload_n 1, 1) := by decide +kernel
theorem dX11_looks_5 : decode cX11_looks 5 = .ok (.invokevirtual 172, 3) := by decide +kernel
theorem dX11_looks_8 : decode cX11_looks 8 = .ok (.ifCond .eq 19, 3) := by decide +kernel
theorem dX11_looks_11 : decode cX11_looks 11 = .ok (.iload_n 2, 1) := by decide +kernel
theorem dX11_looks_12 : decode cX11_looks 12 = .ok (.ifCond .lt 15, 3) := by decide +kernel
theorem dX11_looks_15 : decode cX11_looks 15 = .ok (.iload_n 2, 1) := by decide +kernel
theorem dX11_looks_16 : decode cX11_looks 16 = .ok (.aload_n 0, 1) := by decide +kernel
theorem dX11_looks_17 : decode cX11_looks 17 = .ok (.getfield 26, 3) := by decide +kernel
theorem dX11_looks_20 : decode cX11_looks 20 = .ok (.iload_n 1, 1) := by decide +kernel
theorem dX11_looks_21 : decode cX11_looks 21 = .ok (.invokevirtual 196, 3) := by decide +kernel
theorem dX11_looks_24 : decode cX11_looks 24 = .ok (.if_icmp .lt 5, 3) := by decide +kernel
theorem dX11_looks_27 : decode cX11_looks 27 = .ok (.iconst (-1), 1) := by decide +kernel
theorem dX11_looks_28 : decode cX11_looks 28 = .ok (.ireturn, 1) := by decide +kernel
theorem dX11_looks_29 : decode cX11_looks 29 = .ok (.aload_n 0, 1) := by decide +kernel
theorem dX11_looks_30 : decode cX11_looks 30 = .ok (.getfield 26, 3) := by decide +kernel
theorem dX11_looks_33 : decode cX11_looks 33 = .ok (.iload_n 1, 1) := by decide +kernel
theorem dX11_looks_34 : decode cX11_looks 34 = .ok (.iload_n 2, 1) := by decide +kernel
theorem dX11_looks_35 : decode cX11_looks 35 = .ok (.invokevirtual 199, 3) := by decide +kernel
theorem dX11_looks_38 : decode cX11_looks 38 = .ok (.ireturn, 1) := by decide +kernel
theorem dX11_now_0 : decode cX11_now 0 = .ok (.iload_n 1, 1) := by decide +kernel
theorem dX11_now_1 : decode cX11_now 1 = .ok (.tableswitch 99 0 6 #[43, 51, 59, 67, 75, 83, 91], 43) := by decide +kernel
theorem dX11_now_44 : decode cX11_now 44 = .ok (.aload_n 0, 1) := by decide +kernel
theorem dX11_now_45 : decode cX11_now 45 = .ok (.getfield 26, 3) := by decide +kernel
theorem dX11_now_48 : decode cX11_now 48 = .ok (.getfield 203, 3) := by decide +kernel
theorem dX11_now_51 : decode cX11_now 51 = .ok (.ireturn, 1) := by decide +kernel
theorem dX11_now_52 : decode cX11_now 52 = .ok (.aload_n 0, 1) := by decide +kernel
theorem dX11_now_53 : decode cX11_now 53 = .ok (.getfield 26, 3) := by decide +kernel
theorem dX11_now_56 : decode cX11_now 56 = .ok (.invokevirtual 206, 3) := by decide +kernel
theorem dX11_now_59 : decode cX11_now 59 = .ok (.ireturn, 1) := by decide +kernel
theorem dX11_now_60 : decode cX11_now 60 = .ok (.aload_n 0, 1) := by decide +kernel
theorem dX11_now_61 : decode cX11_now 61 = .ok (.getfield 26, 3) := by decide +kernel
theorem dX11_now_64 : decode cX11_now 64 = .ok (.invokevirtual 210, 3) := by decide +kernel
theorem dX11_now_67 : decode cX11_now 67 = .ok (.ireturn, 1) := by decide +kernel
theorem dX11_now_68 : decode cX11_now 68 = .ok (.aload_n 0, 1) := by decide +kernel
theorem dX11_now_69 : decode cX11_now 69 = .ok (.getfield 26, 3) := by decide +kernel
theorem dX11_now_72 : decode cX11_now 72 = .ok (.invokevirtual 213, 3) := by decide +kernel
theorem dX11_now_75 : decode cX11_now 75 = .ok (.ireturn, 1) := by decide +kernel
theorem dX11_now_76 : decode cX11_now 76 = .ok (.aload_n 0, 1) := by decide +kernel
theorem dX11_now_77 : decode cX11_now 77 = .ok (.getfield 26, 3) := by decide +kernel
theorem dX11_now_80 : decode cX11_now 80 = .ok (.getfield 187, 3) := by decide +kernel
theorem dX11_now_83 : decode cX11_now 83 = .ok (.ireturn, 1) := by decide +kernel
theorem dX11_now_84 : decode cX11_now 84 = .ok (.aload_n 0, 1) := by decide +kernel
theorem dX11_now_85 : decode cX11_now 85 = .ok (.getfield 26, 3) := by decide +kernel
theorem dX11_now_88 : decode cX11_now 88 = .ok (.invokevirtual 216, 3) := by decide +kernel
theorem dX11_now_91 : decode cX11_now 91 = .ok (.ireturn, 1) := by decide +kernel
theorem dX11_now_92 : decode cX11_now 92 = .ok (.aload_n 0, 1) := by decide +kernel
theorem dX11_now_93 : decode cX11_now 93 = .ok (.getfield 26, 3) := by decide +kernel
theorem dX11_now_96 : decode cX11_now 96 = .ok (.invokevirtual 219, 3) := by decide +kernel
theorem dX11_now_99 : decode cX11_now 99 = .ok (.ireturn, 1) := by decide +kernel
theorem dX11_now_100 : decode cX11_now 100 = .ok (.iconst (-1), 1) := by decide +kernel
theorem dX11_now_101 : decode cX11_now 101 = .ok (.ireturn, 1) := by decide +kernel
theorem dX11_climb_0 : decode cX11_climb 0 = .ok (.aload_n 0, 1) := by decide +kernel
theorem dX11_climb_1 : decode cX11_climb 1 = .ok (.getfield 26, 3) := by decide +kernel
theorem dX11_climb_4 : decode cX11_climb 4 = .ok (.iload_n 1, 1) := by decide +kernel
theorem dX11_climb_5 : decode cX11_climb 5 = .ok (.invokevirtual 137, 3) := by decide +kernel
theorem dX11_climb_8 : decode cX11_climb 8 = .ok (.ifCond .eq 14, 3) := by decide +kernel
theorem dX11_climb_11 : decode cX11_climb 11 = .ok (.aload_n 0, 1) := by decide +kernel
theorem dX11_climb_12 : decode cX11_climb 12 = .ok (.getfield 26, 3) := by decide +kernel
theorem dX11_climb_15 : decode cX11_climb 15 = .ok (.iload_n 2, 1) := by decide +kernel
theorem dX11_climb_16 : decode cX11_climb 16 = .ok (.invokevirtual 172, 3) := by decide +kernel
theorem dX11_climb_19 : decode cX11_climb 19 = .ok (.ifCond .ne 5, 3) := by decide +kernel
theorem dX11_climb_22 : decode cX11_climb 22 = .ok (.iconst (-1), 1) := by decide +kernel
theorem dX11_climb_23 : decode cX11_climb 23 = .ok (.ireturn, 1) := by decide +kernel
theorem dX11_climb_24 : decode cX11_climb 24 = .ok (.aload_n 0, 1) := by decide +kernel
theorem dX11_climb_25 : decode cX11_climb 25 = .ok (.getfield 53, 3) := by decide +kernel
theorem dX11_climb_28 : decode cX11_climb 28 = .ok (.aload_n 0, 1) := by decide +kernel
theorem dX11_climb_29 : decode cX11_climb 29 = .ok (.getfield 26, 3) := by decide +kernel
theorem dX11_climb_32 : decode cX11_climb 32 = .ok (.invokevirtual 222, 3) := by decide +kernel
theorem dX11_climb_35 : decode cX11_climb 35 = .ok (.aload_n 0, 1) := by decide +kernel
theorem dX11_climb_36 : decode cX11_climb 36 = .ok (.aload_n 0, 1) := by decide +kernel
theorem dX11_climb_37 : decode cX11_climb 37 = .ok (.getfield 26, 3) := by decide +kernel
theorem dX11_climb_40 : decode cX11_climb 40 = .ok (.iload_n 1, 1) := by decide +kernel
theorem dX11_climb_41 : decode cX11_climb 41 = .ok (.iload_n 2, 1) := by decide +kernel
theorem dX11_climb_42 : decode cX11_climb 42 = .ok (.invokevirtual 225, 3) := by decide +kernel
theorem dX11_climb_45 : decode cX11_climb 45 = .ok (.invokevirtual 228, 3) := by decide +kernel
theorem dX11_climb_48 : decode cX11_climb 48 = .ok (.ireturn, 1) := by decide +kernel
theorem dX11_land_0 : decode cX11_land 0 = .ok (.aload_n 0, 1) := by decide +kernel
theorem dX11_land_1 : decode cX11_land 1 = .ok (.getfield 26, 3) := by decide +kernel
theorem dX11_land_4 : decode cX11_land 4 = .ok (.iload_n 1, 1) := by decide +kernel
theorem dX11_land_5 : decode cX11_land 5 = .ok (.invokevirtual 137, 3) := by decide +kernel
theorem dX11_land_8 : decode cX11_land 8 = .ok (.ifCond .ne 5, 3) := by decide +kernel
theorem dX11_land_11 : decode cX11_land 11 = .ok (.iconst (-1), 1) := by decide +kernel
theorem dX11_land_12 : decode cX11_land 12 = .ok (.ireturn, 1) := by decide +kernel
theorem dX11_land_13 : decode cX11_land 13 = .ok (.aload_n 0, 1) := by decide +kernel
theorem dX11_land_14 : decode cX11_land 14 = .ok (.getfield 53, 3) := by decide +kernel
theorem dX11_land_17 : decode cX11_land 17 = .ok (.aload_n 0, 1) := by decide +kernel
theorem dX11_land_18 : decode cX11_land 18 = .ok (.getfield 26, 3) := by decide +kernel
theorem dX11_land_21 : decode cX11_land 21 = .ok (.invokevirtual 222, 3) := by decide +kernel
theorem dX11_land_24 : decode cX11_land 24 = .ok (.aload_n 0, 1) := by decide +kernel
theorem dX11_land_25 : decode cX11_land 25 = .ok (.aload_n 0, 1) := by decide +kernel
theorem dX11_land_26 : decode cX11_land 26 = .ok (.getfield 26, 3) := by decide +kernel
theorem dX11_land_29 : decode cX11_land 29 = .ok (.iload_n 1, 1) := by decide +kernel
theorem dX11_land_30 : decode cX11_land 30 = .ok (.invokevirtual 231, 3) := by decide +kernel
theorem dX11_land_33 : decode cX11_land 33 = .ok (.invokevirtual 228, 3) := by decide +kernel
theorem dX11_land_36 : decode cX11_land 36 = .ok (.ireturn, 1) := by decide +kernel
theorem dX11_tell_0 : decode cX11_tell 0 = .ok (.aload_n 0, 1) := by decide +kernel
theorem dX11_tell_1 : decode cX11_tell 1 = .ok (.getfield 26, 3) := by decide +kernel
theorem dX11_tell_4 : decode cX11_tell 4 = .ok (.iload_n 1, 1) := by decide +kernel
theorem dX11_tell_5 : decode cX11_tell 5 = .ok (.invokevirtual 137, 3) := by decide +kernel
theorem dX11_tell_8 : decode cX11_tell 8 = .ok (.ifCond .eq 24, 3) := by decide +kernel
theorem dX11_tell_11 : decode cX11_tell 11 = .ok (.aload_n 0, 1) := by decide +kernel
theorem dX11_tell_12 : decode cX11_tell 12 = .ok (.getfield 26, 3) := by decide +kernel
theorem dX11_tell_15 : decode cX11_tell 15 = .ok (.iload_n 2, 1) := by decide +kernel
theorem dX11_tell_16 : decode cX11_tell 16 = .ok (.invokevirtual 137, 3) := by decide +kernel
theorem dX11_tell_19 : decode cX11_tell 19 = .ok (.ifCond .eq 13, 3) := by decide +kernel
theorem dX11_tell_22 : decode cX11_tell 22 = .ok (.iload_n 3, 1) := by decide +kernel
theorem dX11_tell_23 : decode cX11_tell 23 = .ok (.ifCond .lt 9, 3) := by decide +kernel
theorem dX11_tell_26 : decode cX11_tell 26 = .ok (.iload_n 3, 1) := by decide +kernel
theorem dX11_tell_27 : decode cX11_tell 27 = .ok (.bipush 8, 2) := by decide +kernel
theorem dX11_tell_29 : decode cX11_tell 29 = .ok (.if_icmp .lt 5, 3) := by decide +kernel
theorem dX11_tell_32 : decode cX11_tell 32 = .ok (.iconst (-1), 1) := by decide +kernel
theorem dX11_tell_33 : decode cX11_tell 33 = .ok (.ireturn, 1) := by decide +kernel
theorem dX11_tell_34 : decode cX11_tell 34 = .ok (.aload_n 0, 1) := by decide +kernel
theorem dX11_tell_35 : decode cX11_tell 35 = .ok (.getfield 53, 3) := by decide +kernel
theorem dX11_tell_38 : decode cX11_tell 38 = .ok (.aload_n 0, 1) := by decide +kernel
theorem dX11_tell_39 : decode cX11_tell 39 = .ok (.getfield 26, 3) := by decide +kernel
theorem dX11_tell_42 : decode cX11_tell 42 = .ok (.invokevirtual 222, 3) := by decide +kernel
theorem dX11_tell_45 : decode cX11_tell 45 = .ok (.aload_n 0, 1) := by decide +kernel
theorem dX11_tell_46 : decode cX11_tell 46 = .ok (.aload_n 0, 1) := by decide +kernel
theorem dX11_tell_47 : decode cX11_tell 47 = .ok (.getfield 26, 3) := by decide +kernel
theorem dX11_tell_50 : decode cX11_tell 50 = .ok (.iload_n 1, 1) := by decide +kernel
theorem dX11_tell_51 : decode cX11_tell 51 = .ok (.iload_n 2, 1) := by decide +kernel
theorem dX11_tell_52 : decode cX11_tell 52 = .ok (.iload_n 3, 1) := by decide +kernel
theorem dX11_tell_53 : decode cX11_tell 53 = .ok (.invokevirtual 234, 3) := by decide +kernel
theorem dX11_tell_56 : decode cX11_tell 56 = .ok (.invokevirtual 228, 3) := by decide +kernel
theorem dX11_tell_59 : decode cX11_tell 59 = .ok (.ireturn, 1) := by decide +kernel
theorem dX11_storm_0 : decode cX11_storm 0 = .ok (.iload_n 1, 1) := by decide +kernel
theorem dX11_storm_1 : decode cX11_storm 1 = .ok (.iconst 1, 1) := by decide +kernel
theorem dX11_storm_2 : decode cX11_storm 2 = .ok (.if_icmp .lt 9, 3) := by decide +kernel
theorem dX11_storm_5 : decode cX11_storm 5 = .ok (.iload_n 1, 1) := by decide +kernel
theorem dX11_storm_6 : decode cX11_storm 6 = .ok (.bipush 60, 2) := by decide +kernel
theorem dX11_storm_8 : decode cX11_storm 8 = .ok (.if_icmp .le 5, 3) := by decide +kernel
theorem dX11_storm_11 : decode cX11_storm 11 = .ok (.iconst (-1), 1) := by decide +kernel
theorem dX11_storm_12 : decode cX11_storm 12 = .ok (.ireturn, 1) := by decide +kernel
theorem dX11_storm_13 : decode cX11_storm 13 = .ok (.aload_n 0, 1) := by decide +kernel
theorem dX11_storm_14 : decode cX11_storm 14 = .ok (.getfield 53, 3) := by decide +kernel
theorem dX11_storm_17 : decode cX11_storm 17 = .ok (.aload_n 0, 1) := by decide +kernel
theorem dX11_storm_18 : decode cX11_storm 18 = .ok (.getfield 26, 3) := by decide +kernel
theorem dX11_storm_21 : decode cX11_storm 21 = .ok (.invokevirtual 222, 3) := by decide +kernel
theorem dX11_storm_24 : decode cX11_storm 24 = .ok (.aload_n 0, 1) := by decide +kernel
theorem dX11_storm_25 : decode cX11_storm 25 = .ok (.aload_n 0, 1) := by decide +kernel
theorem dX11_storm_26 : decode cX11_storm 26 = .ok (.getfield 26, 3) := by decide +kernel
theorem dX11_storm_29 : decode cX11_storm 29 = .ok (.iload_n 1, 1) := by decide +kernel
theorem dX11_storm_30 : decode cX11_storm 30 = .ok (.invokevirtual 238, 3) := by decide +kernel
theorem dX11_storm_33 : decode cX11_storm 33 = .ok (.invokevirtual 228, 3) := by decide +kernel
theorem dX11_storm_36 : decode cX11_storm 36 = .ok (.ireturn, 1) := by decide +kernel
theorem dX11_wall_0 : decode cX11_wall 0 = .ok (.aload_n 0, 1) := by decide +kernel
theorem dX11_wall_1 : decode cX11_wall 1 = .ok (.getfield 26, 3) := by decide +kernel
theorem dX11_wall_4 : decode cX11_wall 4 = .ok (.iload_n 1, 1) := by decide +kernel
theorem dX11_wall_5 : decode cX11_wall 5 = .ok (.invokevirtual 172, 3) := by decide +kernel
theorem dX11_wall_8 : decode cX11_wall 8 = .ok (.ifCond .ne 5, 3) := by decide +kernel
theorem dX11_wall_11 : decode cX11_wall 11 = .ok (.iconst (-1), 1) := by decide +kernel
theorem dX11_wall_12 : decode cX11_wall 12 = .ok (.ireturn, 1) := by decide +kernel
theorem dX11_wall_13 : decode cX11_wall 13 = .ok (.aload_n 0, 1) := by decide +kernel
theorem dX11_wall_14 : decode cX11_wall 14 = .ok (.getfield 53, 3) := by decide +kernel
theorem dX11_wall_17 : decode cX11_wall 17 = .ok (.aload_n 0, 1) := by decide +kernel
theorem dX11_wall_18 : decode cX11_wall 18 = .ok (.getfield 26, 3) := by decide +kernel
theorem dX11_wall_21 : decode cX11_wall 21 = .ok (.invokevirtual 222, 3) := by decide +kernel
theorem dX11_wall_24 : decode cX11_wall 24 = .ok (.aload_n 0, 1) := by decide +kernel
theorem dX11_wall_25 : decode cX11_wall 25 = .ok (.aload_n 0, 1) := by decide +kernel
theorem dX11_wall_26 : decode cX11_wall 26 = .ok (.getfield 26, 3) := by decide +kernel
theorem dX11_wall_29 : decode cX11_wall 29 = .ok (.iload_n 1, 1) := by decide +kernel
theorem dX11_wall_30 : decode cX11_wall 30 = .ok (.invokevirtual 241, 3) := by decide +kernel
theorem dX11_wall_33 : decode cX11_wall 33 = .ok (.invokevirtual 228, 3) := by decide +kernel
theorem dX11_wall_36 : decode cX11_wall 36 = .ok (.ireturn, 1) := by decide +kernel
theorem dX11_unwall_0 : decode cX11_unwall 0 = .ok (.aload_n 0, 1) := by decide +kernel
theorem dX11_unwall_1 : decode cX11_unwall 1 = .ok (.getfield 26, 3) := by decide +kernel
theorem dX11_unwall_4 : decode cX11_unwall 4 = .ok (.iload_n 1, 1) := by decide +kernel
theorem dX11_unwall_5 : decode cX11_unwall 5 = .ok (.invokevirtual 172, 3) := by decide +kernel
theorem dX11_unwall_8 : decode cX11_unwall 8 = .ok (.ifCond .ne 5, 3) := by decide +kernel
theorem dX11_unwall_11 : decode cX11_unwall 11 = .ok (.iconst (-1), 1) := by decide +kernel
theorem dX11_unwall_12 : decode cX11_unwall 12 = .ok (.ireturn, 1) := by decide +kernel
theorem dX11_unwall_13 : decode cX11_unwall 13 = .ok (.aload_n 0, 1) := by decide +kernel
theorem dX11_unwall_14 : decode cX11_unwall 14 = .ok (.getfield 53, 3) := by decide +kernel
theorem dX11_unwall_17 : decode cX11_unwall 17 = .ok (.aload_n 0, 1) := by decide +kernel
theorem dX11_unwall_18 : decode cX11_unwall 18 = .ok (.getfield 26, 3) := by decide +kernel
theorem dX11_unwall_21 : decode cX11_unwall 21 = .ok (.invokevirtual 222, 3) := by decide +kernel
theorem dX11_unwall_24 : decode cX11_unwall 24 = .ok (.aload_n 0, 1) := by decide +kernel
theorem dX11_unwall_25 : decode cX11_unwall 25 = .ok (.aload_n 0, 1) := by decide +kernel
theorem dX11_unwall_26 : decode cX11_unwall 26 = .ok (.getfield 26, 3) := by decide +kernel
theorem dX11_unwall_29 : decode cX11_unwall 29 = .ok (.iload_n 1, 1) := by decide +kernel
theorem dX11_unwall_30 : decode cX11_unwall 30 = .ok (.invokevirtual 244, 3) := by decide +kernel
theorem dX11_unwall_33 : decode cX11_unwall 33 = .ok (.invokevirtual 228, 3) := by decide +kernel
theorem dX11_unwall_36 : decode cX11_unwall 36 = .ok (.ireturn, 1) := by decide +kernel
theorem dX11_days_0 : decode cX11_days 0 = .ok (.iload_n 1, 1) := by decide +kernel
theorem dX11_days_1 : decode cX11_days 1 = .ok (.iconst 1, 1) := by decide +kernel
theorem dX11_days_2 : decode cX11_days 2 = .ok (.if_icmp .lt 9, 3) := by decide +kernel
theorem dX11_days_5 : decode cX11_days 5 = .ok (.iload_n 1, 1) := by decide +kernel
theorem dX11_days_6 : decode cX11_days 6 = .ok (.bipush 60, 2) := by decide +kernel
theorem dX11_days_8 : decode cX11_days 8 = .ok (.if_icmp .le 5, 3) := by decide +kernel
theorem dX11_days_11 : decode cX11_days 11 = .ok (.iconst (-1), 1) := by decide +kernel
theorem dX11_days_12 : decode cX11_days 12 = .ok (.ireturn, 1) := by decide +kernel
theorem dX11_days_13 : decode cX11_days 13 = .ok (.aload_n 0, 1) := by decide +kernel
theorem dX11_days_14 : decode cX11_days 14 = .ok (.getfield 53, 3) := by decide +kernel
theorem dX11_days_17 : decode cX11_days 17 = .ok (.aload_n 0, 1) := by decide +kernel
theorem dX11_days_18 : decode cX11_days 18 = .ok (.getfield 26, 3) := by decide +kernel
theorem dX11_days_21 : decode cX11_days 21 = .ok (.invokevirtual 222, 3) := by decide +kernel
theorem dX11_days_24 : decode cX11_days 24 = .ok (.aload_n 0, 1) := by decide +kernel
theorem dX11_days_25 : decode cX11_days 25 = .ok (.aload_n 0, 1) := by decide +kernel
theorem dX11_days_26 : decode cX11_days 26 = .ok (.getfield 26, 3) := by decide +kernel
theorem dX11_days_29 : decode cX11_days 29 = .ok (.iload_n 1, 1) := by decide +kernel
theorem dX11_days_30 : decode cX11_days 30 = .ok (.invokevirtual 246, 3) := by decide +kernel
theorem dX11_days_33 : decode cX11_days 33 = .ok (.invokevirtual 249, 3) := by decide +kernel
theorem dX11_days_36 : decode cX11_days 36 = .ok (.ireturn, 1) := by decide +kernel
theorem dX11_undo_0 : decode cX11_undo 0 = .ok (.aload_n 0, 1) := by decide +kernel
theorem dX11_undo_1 : decode cX11_undo 1 = .ok (.getfield 53, 3) := by decide +kernel
theorem dX11_undo_4 : decode cX11_undo 4 = .ok (.getfield 252, 3) := by decide +kernel
theorem dX11_undo_7 : decode cX11_undo 7 = .ok (.ifCond .ne 5, 3) := by decide +kernel
theorem dX11_undo_10 : decode cX11_undo 10 = .ok (.iconst (-1), 1) := by decide +kernel
theorem dX11_undo_11 : decode cX11_undo 11 = .ok (.ireturn, 1) := by decide +kernel
theorem dX11_undo_12 : decode cX11_undo 12 = .ok (.aload_n 0, 1) := by decide +kernel
theorem dX11_undo_13 : decode cX11_undo 13 = .ok (.getfield 26, 3) := by decide +kernel
theorem dX11_undo_16 : decode cX11_undo 16 = .ok (.aload_n 0, 1) := by decide +kernel
theorem dX11_undo_17 : decode cX11_undo 17 = .ok (.getfield 53, 3) := by decide +kernel
theorem dX11_undo_20 : decode cX11_undo 20 = .ok (.invokevirtual 255, 3) := by decide +kernel
theorem dX11_undo_23 : decode cX11_undo 23 = .ok (.invokevirtual 127, 3) := by decide +kernel
theorem dX11_undo_26 : decode cX11_undo 26 = .ok (.aload_n 0, 1) := by decide +kernel
theorem dX11_undo_27 : decode cX11_undo 27 = .ok (.getfield 53, 3) := by decide +kernel
theorem dX11_undo_30 : decode cX11_undo 30 = .ok (.getfield 252, 3) := by decide +kernel
theorem dX11_undo_33 : decode cX11_undo 33 = .ok (.ireturn, 1) := by decide +kernel
theorem dX11_behind_0 : decode cX11_behind 0 = .ok (.iload_n 1, 1) := by decide +kernel
theorem dX11_behind_1 : decode cX11_behind 1 = .ok (.ifCond .lt 21, 3) := by decide +kernel
theorem dX11_behind_4 : decode cX11_behind 4 = .ok (.iload_n 1, 1) := by decide +kernel
theorem dX11_behind_5 : decode cX11_behind 5 = .ok (.sipush 255, 3) := by decide +kernel
theorem dX11_behind_8 : decode cX11_behind 8 = .ok (.if_icmp .gt 14, 3) := by decide +kernel
theorem dX11_behind_11 : decode cX11_behind 11 = .ok (.aload_n 0, 1) := by decide +kernel
theorem dX11_behind_12 : decode cX11_behind 12 = .ok (.getfield 26, 3) := by decide +kernel
theorem dX11_behind_15 : decode cX11_behind 15 = .ok (.iload_n 2, 1) := by decide +kernel
theorem dX11_behind_16 : decode cX11_behind 16 = .ok (.invokevirtual 172, 3) := by decide +kernel
theorem dX11_behind_19 : decode cX11_behind 19 = .ok (.ifCond .ne 5, 3) := by decide +kernel
theorem dX11_behind_22 : decode cX11_behind 22 = .ok (.iconst (-1), 1) := by decide +kernel
theorem dX11_behind_23 : decode cX11_behind 23 = .ok (.ireturn, 1) := by decide +kernel
theorem dX11_behind_24 : decode cX11_behind 24 = .ok (.aload_n 0, 1) := by decide +kernel
theorem dX11_behind_25 : decode cX11_behind 25 = .ok (.getfield 26, 3) := by decide +kernel
theorem dX11_behind_28 : decode cX11_behind 28 = .ok (.iload_n 1, 1) := by decide +kernel
theorem dX11_behind_29 : decode cX11_behind 29 = .ok (.iload_n 2, 1) := by decide +kernel
theorem dX11_behind_30 : decode cX11_behind 30 = .ok (.invokevirtual 259, 3) := by decide +kernel
theorem dX11_behind_33 : decode cX11_behind 33 = .ok (.ireturn, 1) := by decide +kernel
theorem dX11_soonest_0 : decode cX11_soonest 0 = .ok (.aload_n 0, 1) := by decide +kernel
theorem dX11_soonest_1 : decode cX11_soonest 1 = .ok (.getfield 26, 3) := by decide +kernel
theorem dX11_soonest_4 : decode cX11_soonest 4 = .ok (.iload_n 1, 1) := by decide +kernel
theorem dX11_soonest_5 : decode cX11_soonest 5 = .ok (.invokevirtual 137, 3) := by decide +kernel
theorem dX11_soonest_8 : decode cX11_soonest 8 = .ok (.ifCond .eq 18, 3) := by decide +kernel
theorem dX11_soonest_11 : decode cX11_soonest 11 = .ok (.aload_n 0, 1) := by decide +kernel
theorem dX11_soonest_12 : decode cX11_soonest 12 = .ok (.getfield 67, 3) := by decide +kernel
theorem dX11_soonest_15 : decode cX11_soonest 15 = .ok (.aload_n 0, 1) := by decide +kernel
theorem dX11_soonest_16 : decode cX11_soonest 16 = .ok (.getfield 26, 3) := by decide +kernel
theorem dX11_soonest_19 : decode cX11_soonest 19 = .ok (.iload_n 1, 1) := by decide +kernel
theorem dX11_soonest_20 : decode cX11_soonest 20 = .ok (.invokevirtual 262, 3) := by decide +kernel
theorem dX11_soonest_23 : decode cX11_soonest 23 = .ok (.goto 4, 3) := by decide +kernel
theorem dX11_soonest_26 : decode cX11_soonest 26 = .ok (.iconst (-1), 1) := by decide +kernel
theorem dX11_soonest_27 : decode cX11_soonest 27 = .ok (.ireturn, 1) := by decide +kernel
theorem dX11_soonestAt_0 : decode cX11_soonestAt 0 = .ok (.iload_n 1, 1) := by decide +kernel
theorem dX11_soonestAt_1 : decode cX11_soonestAt 1 = .ok (.ifCond .lt 14, 3) := by decide +kernel
theorem dX11_soonestAt_4 : decode cX11_soonestAt 4 = .ok (.iload_n 1, 1) := by decide +kernel
theorem dX11_soonestAt_5 : decode cX11_soonestAt 5 = .ok (.aload_n 0, 1) := by decide +kernel
theorem dX11_soonestAt_6 : decode cX11_soonestAt 6 = .ok (.getfield 67, 3) := by decide +kernel
theorem dX11_soonestAt_9 : decode cX11_soonestAt 9 = .ok (.getfield 266, 3) := by decide +kernel
theorem dX11_soonestAt_12 : decode cX11_soonestAt 12 = .ok (.if_icmp .lt 7, 3) := by decide +kernel
theorem dX11_soonestAt_15 : decode cX11_soonestAt 15 = .ok (.iconst (-1), 1) := by decide +kernel
theorem dX11_soonestAt_16 : decode cX11_soonestAt 16 = .ok (.goto 12, 3) := by decide +kernel
theorem dX11_soonestAt_19 : decode cX11_soonestAt 19 = .ok (.aload_n 0, 1) := by decide +kernel
theorem dX11_soonestAt_20 : decode cX11_soonestAt 20 = .ok (.getfield 67, 3) := by decide +kernel
theorem dX11_soonestAt_23 : decode cX11_soonestAt 23 = .ok (.getfield 269, 3) := by decide +kernel
theorem dX11_soonestAt_26 : decode cX11_soonestAt 26 = .ok (.iload_n 1, 1) := by decide +kernel
theorem dX11_soonestAt_27 : decode cX11_soonestAt 27 = .ok (.iaload, 1) := by decide +kernel
theorem dX11_soonestAt_28 : decode cX11_soonestAt 28 = .ok (.ireturn, 1) := by decide +kernel
theorem dX11_made_0 : decode cX11_made 0 = .ok (.aload_n 0, 1) := by decide +kernel
theorem dX11_made_1 : decode cX11_made 1 = .ok (.getfield 20, 3) := by decide +kernel
theorem dX11_made_4 : decode cX11_made 4 = .ok (.getfield 111, 3) := by decide +kernel
theorem dX11_made_7 : decode cX11_made 7 = .ok (.iconst 2, 1) := by decide +kernel
theorem dX11_made_8 : decode cX11_made 8 = .ok (.if_icmp .ne 7, 3) := by decide +kernel
theorem dX11_made_11 : decode cX11_made 11 = .ok (.iconst 1, 1) := by decide +kernel
theorem dX11_made_12 : decode cX11_made 12 = .ok (.goto 4, 3) := by decide +kernel
theorem dX11_made_15 : decode cX11_made 15 = .ok (.iconst 0, 1) := by decide +kernel
theorem dX11_made_16 : decode cX11_made 16 = .ok (.istore_n 1, 1) := by decide +kernel
theorem dX11_made_17 : decode cX11_made 17 = .ok (.aload_n 0, 1) := by decide +kernel
theorem dX11_made_18 : decode cX11_made 18 = .ok (.getfield 20, 3) := by decide +kernel
theorem dX11_made_21 : decode cX11_made 21 = .ok (.iconst 0, 1) := by decide +kernel
theorem dX11_made_22 : decode cX11_made 22 = .ok (.putfield 111, 3) := by decide +kernel
theorem dX11_made_25 : decode cX11_made 25 = .ok (.iload_n 1, 1) := by decide +kernel
theorem dX11_made_26 : decode cX11_made 26 = .ok (.ifCond .eq 35, 3) := by decide +kernel
theorem dX11_made_29 : decode cX11_made 29 = .ok (.aload_n 0, 1) := by decide +kernel
theorem dX11_made_30 : decode cX11_made 30 = .ok (.getfield 67, 3) := by decide +kernel
theorem dX11_made_33 : decode cX11_made 33 = .ok (.aload_n 0, 1) := by decide +kernel
theorem dX11_made_34 : decode cX11_made 34 = .ok (.getfield 26, 3) := by decide +kernel
theorem dX11_made_37 : decode cX11_made 37 = .ok (.aload_n 0, 1) := by decide +kernel
theorem dX11_made_38 : decode cX11_made 38 = .ok (.getfield 20, 3) := by decide +kernel
theorem dX11_made_41 : decode cX11_made 41 = .ok (.getfield 272, 3) := by decide +kernel
theorem dX11_made_44 : decode cX11_made 44 = .ok (.iconst 0, 1) := by decide +kernel
theorem dX11_made_45 : decode cX11_made 45 = .ok (.iaload, 1) := by decide +kernel
theorem dX11_made_46 : decode cX11_made 46 = .ok (.aload_n 0, 1) := by decide +kernel
theorem dX11_made_47 : decode cX11_made 47 = .ok (.getfield 20, 3) := by decide +kernel
theorem dX11_made_50 : decode cX11_made 50 = .ok (.getfield 272, 3) := by decide +kernel
theorem dX11_made_53 : decode cX11_made 53 = .ok (.iconst 1, 1) := by decide +kernel
theorem dX11_made_54 : decode cX11_made 54 = .ok (.iaload, 1) := by decide +kernel
theorem dX11_made_55 : decode cX11_made 55 = .ok (.invokevirtual 275, 3) := by decide +kernel
theorem dX11_made_58 : decode cX11_made 58 = .ok (.goto 4, 3) := by decide +kernel
theorem dX11_made_61 : decode cX11_made 61 = .ok (.iconst (-1), 1) := by decide +kernel
theorem dX11_made_62 : decode cX11_made 62 = .ok (.ireturn, 1) := by decide +kernel
theorem dX11_madeAt_0 : decode cX11_madeAt 0 = .ok (.iload_n 1, 1) := by decide +kernel
theorem dX11_madeAt_1 : decode cX11_madeAt 1 = .ok (.ifCond .lt 14, 3) := by decide +kernel
theorem dX11_madeAt_4 : decode cX11_madeAt 4 = .ok (.iload_n 1, 1) := by decide +kernel
theorem dX11_madeAt_5 : decode cX11_madeAt 5 = .ok (.aload_n 0, 1) := by decide +kernel
theorem dX11_madeAt_6 : decode cX11_madeAt 6 = .ok (.getfield 67, 3) := by decide +kernel
theorem dX11_madeAt_9 : decode cX11_madeAt 9 = .ok (.getfield 279, 3) := by decide +kernel
theorem dX11_madeAt_12 : decode cX11_madeAt 12 = .ok (.if_icmp .lt 7, 3) := by decide +kernel
theorem dX11_madeAt_15 : decode cX11_madeAt 15 = .ok (.iconst (-1), 1) := by decide +kernel
theorem dX11_madeAt_16 : decode cX11_madeAt 16 = .ok (.goto 12, 3) := by decide +kernel
theorem dX11_madeAt_19 : decode cX11_madeAt 19 = .ok (.aload_n 0, 1) := by decide +kernel
theorem dX11_madeAt_20 : decode cX11_madeAt 20 = .ok (.getfield 67, 3) := by decide +kernel
theorem dX11_madeAt_23 : decode cX11_madeAt 23 = .ok (.getfield 282, 3) := by decide +kernel
theorem dX11_madeAt_26 : decode cX11_madeAt 26 = .ok (.iload_n 1, 1) := by decide +kernel
theorem dX11_madeAt_27 : decode cX11_madeAt 27 = .ok (.iaload, 1) := by decide +kernel
theorem dX11_madeAt_28 : decode cX11_madeAt 28 = .ok (.ireturn, 1) := by decide +kernel
theorem dX11_ask_0 : decode cX11_ask 0 = .ok (.iconst (-1), 1) := by decide +kernel
theorem dX11_ask_1 : decode cX11_ask 1 = .ok (.istore_n 1, 1) := by decide +kernel
theorem dX11_ask_2 : decode cX11_ask 2 = .ok (.aload_n 0, 1) := by decide +kernel
theorem dX11_ask_3 : decode cX11_ask 3 = .ok (.getfield 26, 3) := by decide +kernel
theorem dX11_ask_6 : decode cX11_ask 6 = .ok (.getfield 285, 3) := by decide +kernel
theorem dX11_ask_9 : decode cX11_ask 9 = .ok (.iconst 1, 1) := by decide +kernel
theorem dX11_ask_10 : decode cX11_ask 10 = .ok (.iadd, 1) := by decide +kernel
theorem dX11_ask_11 : decode cX11_ask 11 = .ok (.istore_n 2, 1) := by decide +kernel
theorem dX11_ask_12 : decode cX11_ask 12 = .ok (.iconst 0, 1) := by decide +kernel
theorem dX11_ask_13 : decode cX11_ask 13 = .ok (.istore_n 3, 1) := by decide +kernel
theorem dX11_ask_14 : decode cX11_ask 14 = .ok (.iload_n 3, 1) := by decide +kernel
theorem dX11_ask_15 : decode cX11_ask 15 = .ok (.bipush 8, 2) := by decide +kernel
theorem dX11_ask_17 : decode cX11_ask 17 = .ok (.if_icmp .ge 57, 3) := by decide +kernel
theorem dX11_ask_20 : decode cX11_ask 20 = .ok (.aload_n 0, 1) := by decide +kernel
theorem dX11_ask_21 : decode cX11_ask 21 = .ok (.getfield 26, 3) := by decide +kernel
theorem dX11_ask_24 : decode cX11_ask 24 = .ok (.getfield 285, 3) := by decide +kernel
theorem dX11_ask_27 : decode cX11_ask 27 = .ok (.ifCond .le 47, 3) := by decide +kernel
theorem dX11_ask_30 : decode cX11_ask 30 = .ok (.aload_n 0, 1) := by decide +kernel
theorem dX11_ask_31 : decode cX11_ask 31 = .ok (.getfield 26, 3) := by decide +kernel
theorem dX11_ask_34 : decode cX11_ask 34 = .ok (.iload_n 3, 1) := by decide +kernel
theorem dX11_ask_35 : decode cX11_ask 35 = .ok (.invokevirtual 288, 3) := by decide +kernel
theorem dX11_ask_38 : decode cX11_ask 38 = .ok (.istore 4, 2) := by decide +kernel
theorem dX11_ask_40 : decode cX11_ask 40 = .ok (.iload 4, 2) := by decide +kernel
theorem dX11_ask_42 : decode cX11_ask 42 = .ok (.aload_n 0, 1) := by decide +kernel
theorem dX11_ask_43 : decode cX11_ask 43 = .ok (.getfield 26, 3) := by decide +kernel
theorem dX11_ask_46 : decode cX11_ask 46 = .ok (.getfield 285, 3) := by decide +kernel
theorem dX11_ask_49 : decode cX11_ask 49 = .ok (.iload 4, 2) := by decide +kernel
theorem dX11_ask_51 : decode cX11_ask 51 = .ok (.isub, 1) := by decide +kernel
theorem dX11_ask_52 : decode cX11_ask 52 = .ok (.invokestatic 291, 3) := by decide +kernel
theorem dX11_ask_55 : decode cX11_ask 55 = .ok (.istore 5, 2) := by decide +kernel
theorem dX11_ask_57 : decode cX11_ask 57 = .ok (.iload 5, 2) := by decide +kernel
theorem dX11_ask_59 : decode cX11_ask 59 = .ok (.iload_n 2, 1) := by decide +kernel
theorem dX11_ask_60 : decode cX11_ask 60 = .ok (.if_icmp .ge 8, 3) := by decide +kernel
theorem dX11_ask_63 : decode cX11_ask 63 = .ok (.iload 5, 2) := by decide +kernel
theorem dX11_ask_65 : decode cX11_ask 65 = .ok (.istore_n 2, 1) := by decide +kernel
theorem dX11_ask_66 : decode cX11_ask 66 = .ok (.iload_n 3, 1) := by decide +kernel
theorem dX11_ask_67 : decode cX11_ask 67 = .ok (.istore_n 1, 1) := by decide +kernel
theorem dX11_ask_68 : decode cX11_ask 68 = .ok (.iinc 3 1, 3) := by decide +kernel
theorem dX11_ask_71 : decode cX11_ask 71 = .ok (.goto (-57), 3) := by decide +kernel
theorem dX11_ask_74 : decode cX11_ask 74 = .ok (.iload_n 1, 1) := by decide +kernel
theorem dX11_ask_75 : decode cX11_ask 75 = .ok (.ireturn, 1) := by decide +kernel
theorem dX11_cover_0 : decode cX11_cover 0 = .ok (.bipush 8, 2) := by decide +kernel
theorem dX11_cover_2 : decode cX11_cover 2 = .ok (.istore_n 1, 1) := by decide +kernel
theorem dX11_cover_3 : decode cX11_cover 3 = .ok (.iconst (-1), 1) := by decide +kernel
theorem dX11_cover_4 : decode cX11_cover 4 = .ok (.istore_n 2, 1) := by decide +kernel
theorem dX11_cover_5 : decode cX11_cover 5 = .ok (.iconst 0, 1) := by decide +kernel
theorem dX11_cover_6 : decode cX11_cover 6 = .ok (.istore_n 3, 1) := by decide +kernel
theorem dX11_cover_7 : decode cX11_cover 7 = .ok (.iload_n 3, 1) := by decide +kernel
theorem dX11_cover_8 : decode cX11_cover 8 = .ok (.iconst 1, 1) := by decide +kernel
theorem dX11_cover_9 : decode cX11_cover 9 = .ok (.aload_n 0, 1) := by decide +kernel
theorem dX11_cover_10 : decode cX11_cover 10 = .ok (.getfield 26, 3) := by decide +kernel
theorem dX11_cover_13 : decode cX11_cover 13 = .ok (.getfield 296, 3) := by decide +kernel
theorem dX11_cover_16 : decode cX11_cover 16 = .ok (.ishl, 1) := by decide +kernel
theorem dX11_cover_17 : decode cX11_cover 17 = .ok (.if_icmp .ge 52, 3) := by decide +kernel
theorem dX11_cover_20 : decode cX11_cover 20 = .ok (.iload_n 3, 1) := by decide +kernel
theorem dX11_cover_21 : decode cX11_cover 21 = .ok (.invokestatic 299, 3) := by decide +kernel
theorem dX11_cover_24 : decode cX11_cover 24 = .ok (.istore 4, 2) := by decide +kernel
theorem dX11_cover_26 : decode cX11_cover 26 = .ok (.iload 4, 2) := by decide +kernel
theorem dX11_cover_28 : decode cX11_cover 28 = .ok (.iload_n 1, 1) := by decide +kernel
theorem dX11_cover_29 : decode cX11_cover 29 = .ok (.if_icmp .ge 34, 3) := by decide +kernel
theorem dX11_cover_32 : decode cX11_cover 32 = .ok (.iload_n 3, 1) := by decide +kernel
theorem dX11_cover_33 : decode cX11_cover 33 = .ok (.aload_n 0, 1) := by decide +kernel
theorem dX11_cover_34 : decode cX11_cover 34 = .ok (.getfield 26, 3) := by decide +kernel
theorem dX11_cover_37 : decode cX11_cover 37 = .ok (.getfield 187, 3) := by decide +kernel
theorem dX11_cover_40 : decode cX11_cover 40 = .ok (.iand, 1) := by decide +kernel
theorem dX11_cover_41 : decode cX11_cover 41 = .ok (.ifCond .ne 22, 3) := by decide +kernel
theorem dX11_cover_44 : decode cX11_cover 44 = .ok (.aload_n 0, 1) := by decide +kernel
theorem dX11_cover_45 : decode cX11_cover 45 = .ok (.getfield 26, 3) := by decide +kernel
theorem dX11_cover_48 : decode cX11_cover 48 = .ok (.iload_n 3, 1) := by decide +kernel
theorem dX11_cover_49 : decode cX11_cover 49 = .ok (.invokevirtual 304, 3) := by decide +kernel
theorem dX11_cover_52 : decode cX11_cover 52 = .ok (.sipush 255, 3) := by decide +kernel
theorem dX11_cover_55 : decode cX11_cover 55 = .ok (.if_icmp .ne 8, 3) := by decide +kernel
theorem dX11_cover_58 : decode cX11_cover 58 = .ok (.iload 4, 2) := by decide +kernel
theorem dX11_cover_60 : decode cX11_cover 60 = .ok (.istore_n 1, 1) := by decide +kernel
theorem dX11_cover_61 : decode cX11_cover 61 = .ok (.iload_n 3, 1) := by decide +kernel
theorem dX11_cover_62 : decode cX11_cover 62 = .ok (.istore_n 2, 1) := by decide +kernel
theorem dX11_cover_63 : decode cX11_cover 63 = .ok (.iinc 3 1, 3) := by decide +kernel
theorem dX11_cover_66 : decode cX11_cover 66 = .ok (.goto (-59), 3) := by decide +kernel
theorem dX11_cover_69 : decode cX11_cover 69 = .ok (.iload_n 2, 1) := by decide +kernel
theorem dX11_cover_70 : decode cX11_cover 70 = .ok (.iconst (-1), 1) := by decide +kernel
theorem dX11_cover_71 : decode cX11_cover 71 = .ok (.if_icmp .ne 5, 3) := by decide +kernel
theorem dX11_cover_74 : decode cX11_cover 74 = .ok (.iconst (-1), 1) := by decide +kernel
theorem dX11_cover_75 : decode cX11_cover 75 = .ok (.ireturn, 1) := by decide +kernel
theorem dX11_cover_76 : decode cX11_cover 76 = .ok (.aload_n 0, 1) := by decide +kernel
theorem dX11_cover_77 : decode cX11_cover 77 = .ok (.iload_n 2, 1) := by decide +kernel
theorem dX11_cover_78 : decode cX11_cover 78 = .ok (.putfield 108, 3) := by decide +kernel
theorem dX11_cover_81 : decode cX11_cover 81 = .ok (.iload_n 1, 1) := by decide +kernel
theorem dX11_cover_82 : decode cX11_cover 82 = .ok (.ireturn, 1) := by decide +kernel
theorem dX11_covering_0 : decode cX11_covering 0 = .ok (.aload_n 0, 1) := by decide +kernel
theorem dX11_covering_1 : decode cX11_covering 1 = .ok (.getfield 108, 3) := by decide +kernel
theorem dX11_covering_4 : decode cX11_covering 4 = .ok (.ireturn, 1) := by decide +kernel
theorem dX11_party_0 : decode cX11_party 0 = .ok (.aload_n 0, 1) := by decide +kernel
theorem dX11_party_1 : decode cX11_party 1 = .ok (.getfield 74, 3) := by decide +kernel
theorem dX11_party_4 : decode cX11_party 4 = .ok (.aload_n 0, 1) := by decide +kernel
theorem dX11_party_5 : decode cX11_party 5 = .ok (.getfield 26, 3) := by decide +kernel
theorem dX11_party_8 : decode cX11_party 8 = .ok (.invokevirtual 307, 3) := by decide +kernel
theorem dX11_party_11 : decode cX11_party 11 = .ok (.ireturn, 1) := by decide +kernel
theorem dX11_partyOf_0 : decode cX11_partyOf 0 = .ok (.iload_n 1, 1) := by decide +kernel
theorem dX11_partyOf_1 : decode cX11_partyOf 1 = .ok (.ifCond .lt 9, 3) := by decide +kernel
theorem dX11_partyOf_4 : decode cX11_partyOf 4 = .ok (.iload_n 1, 1) := by decide +kernel
theorem dX11_partyOf_5 : decode cX11_partyOf 5 = .ok (.bipush 6, 2) := by decide +kernel
theorem dX11_partyOf_7 : decode cX11_partyOf 7 = .ok (.if_icmp .lt 7, 3) := by decide +kernel
theorem dX11_partyOf_10 : decode cX11_partyOf 10 = .ok (.iconst (-1), 1) := by decide +kernel
theorem dX11_partyOf_11 : decode cX11_partyOf 11 = .ok (.goto 12, 3) := by decide +kernel
theorem dX11_partyOf_14 : decode cX11_partyOf 14 = .ok (.aload_n 0, 1) := by decide +kernel
theorem dX11_partyOf_15 : decode cX11_partyOf 15 = .ok (.getfield 74, 3) := by decide +kernel
theorem dX11_partyOf_18 : decode cX11_partyOf 18 = .ok (.getfield 311, 3) := by decide +kernel
theorem dX11_partyOf_21 : decode cX11_partyOf 21 = .ok (.iload_n 1, 1) := by decide +kernel
theorem dX11_partyOf_22 : decode cX11_partyOf 22 = .ok (.iaload, 1) := by decide +kernel
theorem dX11_partyOf_23 : decode cX11_partyOf 23 = .ok (.ireturn, 1) := by decide +kernel
theorem dX11_tea_0 : decode cX11_tea 0 = .ok (.aload_n 0, 1) := by decide +kernel
theorem dX11_tea_1 : decode cX11_tea 1 = .ok (.getfield 81, 3) := by decide +kernel
theorem dX11_tea_4 : decode cX11_tea 4 = .ok (.aload_n 0, 1) := by decide +kernel
theorem dX11_tea_5 : decode cX11_tea 5 = .ok (.getfield 26, 3) := by decide +kernel
theorem dX11_tea_8 : decode cX11_tea 8 = .ok (.invokevirtual 314, 3) := by decide +kernel
theorem dX11_tea_11 : decode cX11_tea 11 = .ok (.ireturn, 1) := by decide +kernel
theorem dX11_teaOf_0 : decode cX11_teaOf 0 = .ok (.iload_n 1, 1) := by decide +kernel
theorem dX11_teaOf_1 : decode cX11_teaOf 1 = .ok (.ifCond .lt 14, 3) := by decide +kernel
theorem dX11_teaOf_4 : decode cX11_teaOf 4 = .ok (.iload_n 1, 1) := by decide +kernel
theorem dX11_teaOf_5 : decode cX11_teaOf 5 = .ok (.aload_n 0, 1) := by decide +kernel
theorem dX11_teaOf_6 : decode cX11_teaOf 6 = .ok (.getfield 81, 3) := by decide +kernel
theorem dX11_teaOf_9 : decode cX11_teaOf 9 = .ok (.getfield 317, 3) := by decide +kernel
theorem dX11_teaOf_12 : decode cX11_teaOf 12 = .ok (.if_icmp .lt 7, 3) := by decide +kernel
theorem dX11_teaOf_15 : decode cX11_teaOf 15 = .ok (.iconst (-1), 1) := by decide +kernel
theorem dX11_teaOf_16 : decode cX11_teaOf 16 = .ok (.goto 12, 3) := by decide +kernel
theorem dX11_teaOf_19 : decode cX11_teaOf 19 = .ok (.aload_n 0, 1) := by decide +kernel
theorem dX11_teaOf_20 : decode cX11_teaOf 20 = .ok (.getfield 81, 3) := by decide +kernel
theorem dX11_teaOf_23 : decode cX11_teaOf 23 = .ok (.getfield 318, 3) := by decide +kernel
theorem dX11_teaOf_26 : decode cX11_teaOf 26 = .ok (.iload_n 1, 1) := by decide +kernel
theorem dX11_teaOf_27 : decode cX11_teaOf 27 = .ok (.iaload, 1) := by decide +kernel
theorem dX11_teaOf_28 : decode cX11_teaOf 28 = .ok (.ireturn, 1) := by decide +kernel
theorem dX11_when_0 : decode cX11_when 0 = .ok (.aload_n 0, 1) := by decide +kernel
theorem dX11_when_1 : decode cX11_when 1 = .ok (.getfield 26, 3) := by decide +kernel
theorem dX11_when_4 : decode cX11_when 4 = .ok (.iload_n 1, 1) := by decide +kernel
theorem dX11_when_5 : decode cX11_when 5 = .ok (.invokevirtual 172, 3) := by decide +kernel
theorem dX11_when_8 : decode cX11_when 8 = .ok (.ifCond .eq 13, 3) := by decide +kernel
theorem dX11_when_11 : decode cX11_when 11 = .ok (.iload_n 2, 1) := by decide +kernel
theorem dX11_when_12 : decode cX11_when 12 = .ok (.ifCond .lt 9, 3) := by decide +kernel
theorem dX11_when_15 : decode cX11_when 15 = .ok (.iload_n 2, 1) := by decide +kernel
theorem dX11_when_16 : decode cX11_when 16 = .ok (.bipush 8, 2) := by decide +kernel
theorem dX11_when_18 : decode cX11_when 18 = .ok (.if_icmp .lt 5, 3) := by decide +kernel
theorem dX11_when_21 : decode cX11_when 21 = .ok (.iconst (-1), 1) := by decide +kernel
theorem dX11_when_22 : decode cX11_when 22 = .ok (.ireturn, 1) := by decide +kernel
theorem dX11_when_23 : decode cX11_when 23 = .ok (.iload_n 2, 1) := by decide +kernel
theorem dX11_when_24 : decode cX11_when 24 = .ok (.aload_n 0, 1) := by decide +kernel
theorem dX11_when_25 : decode cX11_when 25 = .ok (.getfield 26, 3) := by decide +kernel
theorem dX11_when_28 : decode cX11_when 28 = .ok (.getfield 178, 3) := by decide +kernel
theorem dX11_when_31 : decode cX11_when 31 = .ok (.iload_n 1, 1) := by decide +kernel
theorem dX11_when_32 : decode cX11_when 32 = .ok (.iaload, 1) := by decide +kernel
theorem dX11_when_33 : decode cX11_when 33 = .ok (.isub, 1) := by decide +kernel
theorem dX11_when_34 : decode cX11_when 34 = .ok (.invokestatic 319, 3) := by decide +kernel
theorem dX11_when_37 : decode cX11_when 37 = .ok (.istore_n 3, 1) := by decide +kernel
theorem dX11_when_38 : decode cX11_when 38 = .ok (.iload_n 3, 1) := by decide +kernel
theorem dX11_when_39 : decode cX11_when 39 = .ok (.ifCond .eq 18, 3) := by decide +kernel
theorem dX11_when_42 : decode cX11_when 42 = .ok (.aload_n 0, 1) := by decide +kernel
theorem dX11_when_43 : decode cX11_when 43 = .ok (.getfield 26, 3) := by decide +kernel
theorem dX11_when_46 : decode cX11_when 46 = .ok (.getfield 184, 3) := by decide +kernel
theorem dX11_when_49 : decode cX11_when 49 = .ok (.iload_n 1, 1) := by decide +kernel
theorem dX11_when_50 : decode cX11_when 50 = .ok (.ishr, 1) := by decide +kernel
theorem dX11_when_51 : decode cX11_when 51 = .ok (.iconst 1, 1) := by decide +kernel
theorem dX11_when_52 : decode cX11_when 52 = .ok (.iand, 1) := by decide +kernel
theorem dX11_when_53 : decode cX11_when 53 = .ok (.iconst 1, 1) := by decide +kernel
theorem dX11_when_54 : decode cX11_when 54 = .ok (.if_icmp .ne 7, 3) := by decide +kernel
theorem dX11_when_57 : decode cX11_when 57 = .ok (.iload_n 3, 1) := by decide +kernel
theorem dX11_when_58 : decode cX11_when 58 = .ok (.goto 4, 3) := by decide +kernel
theorem dX11_when_61 : decode cX11_when 61 = .ok (.iconst (-1), 1) := by decide +kernel
theorem dX11_when_62 : decode cX11_when 62 = .ok (.ireturn, 1) := by decide +kernel
theorem dX11_card_0 : decode cX11_card 0 = .ok (.aload_n 0, 1) := by decide +kernel
theorem dX11_card_1 : decode cX11_card 1 = .ok (.getfield 26, 3) := by decide +kernel
theorem dX11_card_4 : decode cX11_card 4 = .ok (.iload_n 1, 1) := by decide +kernel
theorem dX11_card_5 : decode cX11_card 5 = .ok (.invokevirtual 137, 3) := by decide +kernel
theorem dX11_card_8 : decode cX11_card 8 = .ok (.ifCond .ne 5, 3) := by decide +kernel
theorem dX11_card_11 : decode cX11_card 11 = .ok (.iconst (-1), 1) := by decide +kernel
theorem dX11_card_12 : decode cX11_card 12 = .ok (.ireturn, 1) := by decide +kernel
theorem dX11_card_13 : decode cX11_card 13 = .ok (.aload_n 0, 1) := by decide +kernel
theorem dX11_card_14 : decode cX11_card 14 = .ok (.getfield 97, 3) := by decide +kernel
theorem dX11_card_17 : decode cX11_card 17 = .ok (.iconst 0, 1) := by decide +kernel
theorem dX11_card_18 : decode cX11_card 18 = .ok (.putfield 111, 3) := by decide +kernel
theorem dX11_card_21 : decode cX11_card 21 = .ok (.aload_n 0, 1) := by decide +kernel
theorem dX11_card_22 : decode cX11_card 22 = .ok (.getfield 97, 3) := by decide +kernel
theorem dX11_card_25 : decode cX11_card 25 = .ok (.aload_n 0, 1) := by decide +kernel
theorem dX11_card_26 : decode cX11_card 26 = .ok (.getfield 26, 3) := by decide +kernel
theorem dX11_card_29 : decode cX11_card 29 = .ok (.getfield 322, 3) := by decide +kernel
theorem dX11_card_32 : decode cX11_card 32 = .ok (.iload_n 1, 1) := by decide +kernel
theorem dX11_card_33 : decode cX11_card 33 = .ok (.laload, 1) := by decide +kernel
theorem dX11_card_34 : decode cX11_card 34 = .ok (.invokevirtual 326, 3) := by decide +kernel
theorem dX11_card_37 : decode cX11_card 37 = .ok (.aload_n 0, 1) := by decide +kernel
theorem dX11_card_38 : decode cX11_card 38 = .ok (.getfield 26, 3) := by decide +kernel
theorem dX11_card_41 : decode cX11_card 41 = .ok (.getfield 157, 3) := by decide +kernel
theorem dX11_card_44 : decode cX11_card 44 = .ok (.iload_n 1, 1) := by decide +kernel
theorem dX11_card_45 : decode cX11_card 45 = .ok (.iaload, 1) := by decide +kernel
theorem dX11_card_46 : decode cX11_card 46 = .ok (.istore_n 2, 1) := by decide +kernel
theorem dX11_card_47 : decode cX11_card 47 = .ok (.iload_n 2, 1) := by decide +kernel
theorem dX11_card_48 : decode cX11_card 48 = .ok (.iconst (-1), 1) := by decide +kernel
theorem dX11_card_49 : decode cX11_card 49 = .ok (.if_icmp .eq 29, 3) := by decide +kernel
theorem dX11_card_52 : decode cX11_card 52 = .ok (.aload_n 0, 1) := by decide +kernel
theorem dX11_card_53 : decode cX11_card 53 = .ok (.getfield 97, 3) := by decide +kernel
theorem dX11_card_56 : decode cX11_card 56 = .ok (.ldc_w 330, 3) := by decide +kernel
theorem dX11_card_59 : decode cX11_card 59 = .ok (.invokevirtual 332, 3) := by decide +kernel
theorem dX11_card_62 : decode cX11_card 62 = .ok (.aload_n 0, 1) := by decide +kernel
theorem dX11_card_63 : decode cX11_card 63 = .ok (.getfield 97, 3) := by decide +kernel
theorem dX11_card_66 : decode cX11_card 66 = .ok (.aload_n 0, 1) := by decide +kernel
theorem dX11_card_67 : decode cX11_card 67 = .ok (.getfield 26, 3) := by decide +kernel
theorem dX11_card_70 : decode cX11_card 70 = .ok (.getfield 335, 3) := by decide +kernel
theorem dX11_card_73 : decode cX11_card 73 = .ok (.iload_n 2, 1) := by decide +kernel
theorem dX11_card_74 : decode cX11_card 74 = .ok (.laload, 1) := by decide +kernel
theorem dX11_card_75 : decode cX11_card 75 = .ok (.invokevirtual 326, 3) := by decide +kernel
theorem dX11_card_78 : decode cX11_card 78 = .ok (.aload_n 0, 1) := by decide +kernel
theorem dX11_card_79 : decode cX11_card 79 = .ok (.getfield 97, 3) := by decide +kernel
theorem dX11_card_82 : decode cX11_card 82 = .ok (.ldc_w 338, 3) := by decide +kernel
theorem dX11_card_85 : decode cX11_card 85 = .ok (.invokevirtual 332, 3) := by decide +kernel
theorem dX11_card_88 : decode cX11_card 88 = .ok (.aload_n 0, 1) := by decide +kernel
theorem dX11_card_89 : decode cX11_card 89 = .ok (.aload_n 0, 1) := by decide +kernel
theorem dX11_card_90 : decode cX11_card 90 = .ok (.getfield 26, 3) := by decide +kernel
theorem dX11_card_93 : decode cX11_card 93 = .ok (.getfield 148, 3) := by decide +kernel
theorem dX11_card_96 : decode cX11_card 96 = .ok (.iload_n 1, 1) := by decide +kernel
theorem dX11_card_97 : decode cX11_card 97 = .ok (.iaload, 1) := by decide +kernel
theorem dX11_card_98 : decode cX11_card 98 = .ok (.invokevirtual 340, 3) := by decide +kernel
theorem dX11_card_101 : decode cX11_card 101 = .ok (.aload_n 0, 1) := by decide +kernel
theorem dX11_card_102 : decode cX11_card 102 = .ok (.getfield 97, 3) := by decide +kernel
theorem dX11_card_105 : decode cX11_card 105 = .ok (.getfield 111, 3) := by decide +kernel
theorem dX11_card_108 : decode cX11_card 108 = .ok (.ireturn, 1) := by decide +kernel
theorem dX11_byteAt_0 : decode cX11_byteAt 0 = .ok (.iload_n 1, 1) := by decide +kernel
theorem dX11_byteAt_1 : decode cX11_byteAt 1 = .ok (.ifCond .lt 14, 3) := by decide +kernel
theorem dX11_byteAt_4 : decode cX11_byteAt 4 = .ok (.iload_n 1, 1) := by decide +kernel
theorem dX11_byteAt_5 : decode cX11_byteAt 5 = .ok (.aload_n 0, 1) := by decide +kernel
theorem dX11_byteAt_6 : decode cX11_byteAt 6 = .ok (.getfield 97, 3) := by decide +kernel
theorem dX11_byteAt_9 : decode cX11_byteAt 9 = .ok (.getfield 111, 3) := by decide +kernel
theorem dX11_byteAt_12 : decode cX11_byteAt 12 = .ok (.if_icmp .lt 7, 3) := by decide +kernel
theorem dX11_byteAt_15 : decode cX11_byteAt 15 = .ok (.iconst (-1), 1) := by decide +kernel
theorem dX11_byteAt_16 : decode cX11_byteAt 16 = .ok (.goto 12, 3) := by decide +kernel
theorem dX11_byteAt_19 : decode cX11_byteAt 19 = .ok (.aload_n 0, 1) := by decide +kernel
theorem dX11_byteAt_20 : decode cX11_byteAt 20 = .ok (.getfield 97, 3) := by decide +kernel
theorem dX11_byteAt_23 : decode cX11_byteAt 23 = .ok (.getfield 272, 3) := by decide +kernel
theorem dX11_byteAt_26 : decode cX11_byteAt 26 = .ok (.iload_n 1, 1) := by decide +kernel
theorem dX11_byteAt_27 : decode cX11_byteAt 27 = .ok (.iaload, 1) := by decide +kernel
theorem dX11_byteAt_28 : decode cX11_byteAt 28 = .ok (.ireturn, 1) := by decide +kernel
theorem dX11_drawn_0 : decode cX11_drawn 0 = .ok (.iload_n 1, 1) := by decide +kernel
theorem dX11_drawn_1 : decode cX11_drawn 1 = .ok (.iconst 1, 1) := by decide +kernel
theorem dX11_drawn_2 : decode cX11_drawn 2 = .ok (.if_icmp .lt 9, 3) := by decide +kernel
theorem dX11_drawn_5 : decode cX11_drawn 5 = .ok (.iload_n 1, 1) := by decide +kernel
theorem dX11_drawn_6 : decode cX11_drawn 6 = .ok (.bipush 60, 2) := by decide +kernel
theorem dX11_drawn_8 : decode cX11_drawn 8 = .ok (.if_icmp .le 5, 3) := by decide +kernel
theorem dX11_drawn_11 : decode cX11_drawn 11 = .ok (.iconst (-1), 1) := by decide +kernel
theorem dX11_drawn_12 : decode cX11_drawn 12 = .ok (.ireturn, 1) := by decide +kernel
theorem dX11_drawn_13 : decode cX11_drawn 13 = .ok (.aload_n 0, 1) := by decide +kernel
theorem dX11_drawn_14 : decode cX11_drawn 14 = .ok (.getfield 53, 3) := by decide +kernel
theorem dX11_drawn_17 : decode cX11_drawn 17 = .ok (.aload_n 0, 1) := by decide +kernel
theorem dX11_drawn_18 : decode cX11_drawn 18 = .ok (.getfield 26, 3) := by decide +kernel
theorem dX11_drawn_21 : decode cX11_drawn 21 = .ok (.invokevirtual 222, 3) := by decide +kernel
theorem dX11_drawn_24 : decode cX11_drawn 24 = .ok (.aload_n 0, 1) := by decide +kernel
theorem dX11_drawn_25 : decode cX11_drawn 25 = .ok (.aload_n 0, 1) := by decide +kernel
theorem dX11_drawn_26 : decode cX11_drawn 26 = .ok (.getfield 88, 3) := by decide +kernel
theorem dX11_drawn_29 : decode cX11_drawn 29 = .ok (.aload_n 0, 1) := by decide +kernel
theorem dX11_drawn_30 : decode cX11_drawn 30 = .ok (.getfield 26, 3) := by decide +kernel
theorem dX11_drawn_33 : decode cX11_drawn 33 = .ok (.iload_n 1, 1) := by decide +kernel
theorem dX11_drawn_34 : decode cX11_drawn 34 = .ok (.iload_n 2, 1) := by decide +kernel
theorem dX11_drawn_35 : decode cX11_drawn 35 = .ok (.invokevirtual 343, 3) := by decide +kernel
theorem dX11_drawn_38 : decode cX11_drawn 38 = .ok (.invokevirtual 249, 3) := by decide +kernel
theorem dX11_drawn_41 : decode cX11_drawn 41 = .ok (.ireturn, 1) := by decide +kernel
theorem dX11_odds_0 : decode cX11_odds 0 = .ok (.aload_n 0, 1) := by decide +kernel
theorem dX11_odds_1 : decode cX11_odds 1 = .ok (.getfield 26, 3) := by decide +kernel
theorem dX11_odds_4 : decode cX11_odds 4 = .ok (.iload_n 1, 1) := by decide +kernel
theorem dX11_odds_5 : decode cX11_odds 5 = .ok (.invokevirtual 137, 3) := by decide +kernel
theorem dX11_odds_8 : decode cX11_odds 8 = .ok (.ifCond .eq 14, 3) := by decide +kernel
theorem dX11_odds_11 : decode cX11_odds 11 = .ok (.iload_n 2, 1) := by decide +kernel
theorem dX11_odds_12 : decode cX11_odds 12 = .ok (.iconst 1, 1) := by decide +kernel
theorem dX11_odds_13 : decode cX11_odds 13 = .ok (.if_icmp .lt 9, 3) := by decide +kernel
theorem dX11_odds_16 : decode cX11_odds 16 = .ok (.iload_n 2, 1) := by decide +kernel
theorem dX11_odds_17 : decode cX11_odds 17 = .ok (.bipush 30, 2) := by decide +kernel
theorem dX11_odds_19 : decode cX11_odds 19 = .ok (.if_icmp .le 5, 3) := by decide +kernel
theorem dX11_odds_22 : decode cX11_odds 22 = .ok (.iconst (-1), 1) := by decide +kernel
theorem dX11_odds_23 : decode cX11_odds 23 = .ok (.ireturn, 1) := by decide +kernel
theorem dX11_odds_24 : decode cX11_odds 24 = .ok (.iconst 0, 1) := by decide +kernel
theorem dX11_odds_25 : decode cX11_odds 25 = .ok (.istore 4, 2) := by decide +kernel
theorem dX11_odds_27 : decode cX11_odds 27 = .ok (.iconst 0, 1) := by decide +kernel
theorem dX11_odds_28 : decode cX11_odds 28 = .ok (.istore 5, 2) := by decide +kernel
theorem dX11_odds_30 : decode cX11_odds 30 = .ok (.iload 5, 2) := by decide +kernel
theorem dX11_odds_32 : decode cX11_odds 32 = .ok (.iload_n 2, 1) := by decide +kernel
theorem dX11_odds_33 : decode cX11_odds 33 = .ok (.if_icmp .ge 52, 3) := by decide +kernel
theorem dX11_odds_36 : decode cX11_odds 36 = .ok (.aload_n 0, 1) := by decide +kernel
theorem dX11_odds_37 : decode cX11_odds 37 = .ok (.getfield 30, 3) := by decide +kernel
theorem dX11_odds_40 : decode cX11_odds 40 = .ok (.aload_n 0, 1) := by decide +kernel
theorem dX11_odds_41 : decode cX11_odds 41 = .ok (.getfield 26, 3) := by decide +kernel
theorem dX11_odds_44 : decode cX11_odds 44 = .ok (.invokevirtual 127, 3) := by decide +kernel
theorem dX11_odds_47 : decode cX11_odds 47 = .ok (.aload_n 0, 1) := by decide +kernel
theorem dX11_odds_48 : decode cX11_odds 48 = .ok (.getfield 88, 3) := by decide +kernel
theorem dX11_odds_51 : decode cX11_odds 51 = .ok (.aload_n 0, 1) := by decide +kernel
theorem dX11_odds_52 : decode cX11_odds 52 = .ok (.getfield 30, 3) := by decide +kernel
theorem dX11_odds_55 : decode cX11_odds 55 = .ok (.bipush 20, 2) := by decide +kernel
theorem dX11_odds_57 : decode cX11_odds 57 = .ok (.iload_n 3, 1) := by decide +kernel
theorem dX11_odds_58 : decode cX11_odds 58 = .ok (.iload 5, 2) := by decide +kernel
theorem dX11_odds_60 : decode cX11_odds 60 = .ok (.iadd, 1) := by decide +kernel
theorem dX11_odds_61 : decode cX11_odds 61 = .ok (.invokevirtual 343, 3) := by decide +kernel
theorem dX11_odds_64 : decode cX11_odds 64 = .ok (.pop, 1) := by decide +kernel
theorem dX11_odds_65 : decode cX11_odds 65 = .ok (.aload_n 0, 1) := by decide +kernel
theorem dX11_odds_66 : decode cX11_odds 66 = .ok (.getfield 30, 3) := by decide +kernel
theorem dX11_odds_69 : decode cX11_odds 69 = .ok (.iload_n 1, 1) := by decide +kernel
theorem dX11_odds_70 : decode cX11_odds 70 = .ok (.invokevirtual 346, 3) := by decide +kernel
theorem dX11_odds_73 : decode cX11_odds 73 = .ok (.ifCond .eq 6, 3) := by decide +kernel
theorem dX11_odds_76 : decode cX11_odds 76 = .ok (.iinc 4 1, 3) := by decide +kernel
theorem dX11_odds_79 : decode cX11_odds 79 = .ok (.iinc 5 1, 3) := by decide +kernel
theorem dX11_odds_82 : decode cX11_odds 82 = .ok (.goto (-52), 3) := by decide +kernel
theorem dX11_odds_85 : decode cX11_odds 85 = .ok (.iload 4, 2) := by decide +kernel
theorem dX11_odds_87 : decode cX11_odds 87 = .ok (.ireturn, 1) := by decide +kernel
theorem dX11_book_0 : decode cX11_book 0 = .ok (.iload_n 1, 1) := by decide +kernel
theorem dX11_book_1 : decode cX11_book 1 = .ok (.ifCond .eq 12, 3) := by decide +kernel
theorem dX11_book_4 : decode cX11_book 4 = .ok (.iload_n 1, 1) := by decide +kernel
theorem dX11_book_5 : decode cX11_book 5 = .ok (.iconst 1, 1) := by decide +kernel
theorem dX11_book_6 : decode cX11_book 6 = .ok (.if_icmp .eq 7, 3) := by decide +kernel
theorem dX11_book_9 : decode cX11_book 9 = .ok (.sipush (-1000), 3) := by decide +kernel
theorem dX11_book_12 : decode cX11_book 12 = .ok (.ireturn, 1) := by decide +kernel
theorem dX11_book_13 : decode cX11_book 13 = .ok (.aload_n 0, 1) := by decide +kernel
theorem dX11_book_14 : decode cX11_book 14 = .ok (.getfield 46, 3) := by decide +kernel
theorem dX11_book_17 : decode cX11_book 17 = .ok (.aload_n 0, 1) := by decide +kernel
theorem dX11_book_18 : decode cX11_book 18 = .ok (.getfield 10, 3) := by decide +kernel
theorem dX11_book_21 : decode cX11_book 21 = .ok (.aload_n 0, 1) := by decide +kernel
theorem dX11_book_22 : decode cX11_book 22 = .ok (.getfield 26, 3) := by decide +kernel
theorem dX11_book_25 : decode cX11_book 25 = .ok (.invokevirtual 349, 3) := by decide +kernel
theorem dX11_book_28 : decode cX11_book 28 = .ok (.istore_n 2, 1) := by decide +kernel
theorem dX11_book_29 : decode cX11_book 29 = .ok (.aload_n 0, 1) := by decide +kernel
theorem dX11_book_30 : decode cX11_book 30 = .ok (.invokevirtual 121, 3) := by decide +kernel
theorem dX11_book_33 : decode cX11_book 33 = .ok (.iload_n 2, 1) := by decide +kernel
theorem dX11_book_34 : decode cX11_book 34 = .ok (.ifCond .ne 14, 3) := by decide +kernel
theorem dX11_book_37 : decode cX11_book 37 = .ok (.bipush (-2), 2) := by decide +kernel
theorem dX11_book_39 : decode cX11_book 39 = .ok (.aload_n 0, 1) := by decide +kernel
theorem dX11_book_40 : decode cX11_book 40 = .ok (.getfield 10, 3) := by decide +kernel
theorem dX11_book_43 : decode cX11_book 43 = .ok (.getfield 124, 3) := by decide +kernel
theorem dX11_book_46 : decode cX11_book 46 = .ok (.isub, 1) := by decide +kernel
theorem dX11_book_47 : decode cX11_book 47 = .ok (.ireturn, 1) := by decide +kernel
theorem dX11_book_48 : decode cX11_book 48 = .ok (.iload_n 1, 1) := by decide +kernel
theorem dX11_book_49 : decode cX11_book 49 = .ok (.ifCond .ne 23, 3) := by decide +kernel
theorem dX11_book_52 : decode cX11_book 52 = .ok (.aload_n 0, 1) := by decide +kernel
theorem dX11_book_53 : decode cX11_book 53 = .ok (.getfield 30, 3) := by decide +kernel
theorem dX11_book_56 : decode cX11_book 56 = .ok (.aload_n 0, 1) := by decide +kernel
theorem dX11_book_57 : decode cX11_book 57 = .ok (.getfield 26, 3) := by decide +kernel
theorem dX11_book_60 : decode cX11_book 60 = .ok (.invokevirtual 127, 3) := by decide +kernel
theorem dX11_book_63 : decode cX11_book 63 = .ok (.aload_n 0, 1) := by decide +kernel
theorem dX11_book_64 : decode cX11_book 64 = .ok (.aload_n 0, 1) := by decide +kernel
theorem dX11_book_65 : decode cX11_book 65 = .ok (.getfield 30, 3) := by decide +kernel
theorem dX11_book_68 : decode cX11_book 68 = .ok (.invokevirtual 352, 3) := by decide +kernel
theorem dX11_book_71 : decode cX11_book 71 = .ok (.ireturn, 1) := by decide +kernel
theorem dX11_book_72 : decode cX11_book 72 = .ok (.aload_n 0, 1) := by decide +kernel
theorem dX11_book_73 : decode cX11_book 73 = .ok (.getfield 53, 3) := by decide +kernel
theorem dX11_book_76 : decode cX11_book 76 = .ok (.aload_n 0, 1) := by decide +kernel
theorem dX11_book_77 : decode cX11_book 77 = .ok (.getfield 26, 3) := by decide +kernel
theorem dX11_book_80 : decode cX11_book 80 = .ok (.invokevirtual 222, 3) := by decide +kernel
theorem dX11_book_83 : decode cX11_book 83 = .ok (.aload_n 0, 1) := by decide +kernel
theorem dX11_book_84 : decode cX11_book 84 = .ok (.aload_n 0, 1) := by decide +kernel
theorem dX11_book_85 : decode cX11_book 85 = .ok (.getfield 26, 3) := by decide +kernel
theorem dX11_book_88 : decode cX11_book 88 = .ok (.invokevirtual 352, 3) := by decide +kernel
theorem dX11_book_91 : decode cX11_book 91 = .ok (.istore_n 3, 1) := by decide +kernel
theorem dX11_book_92 : decode cX11_book 92 = .ok (.aload_n 0, 1) := by decide +kernel
theorem dX11_book_93 : decode cX11_book 93 = .ok (.aload_n 0, 1) := by decide +kernel
theorem dX11_book_94 : decode cX11_book 94 = .ok (.getfield 100, 3) := by decide +kernel
theorem dX11_book_97 : decode cX11_book 97 = .ok (.iconst 1, 1) := by decide +kernel
theorem dX11_book_98 : decode cX11_book 98 = .ok (.iaload, 1) := by decide +kernel
theorem dX11_book_99 : decode cX11_book 99 = .ok (.invokevirtual 249, 3) := by decide +kernel
theorem dX11_book_102 : decode cX11_book 102 = .ok (.pop, 1) := by decide +kernel
theorem dX11_book_103 : decode cX11_book 103 = .ok (.iload_n 3, 1) := by decide +kernel
theorem dX11_book_104 : decode cX11_book 104 = .ok (.ireturn, 1) := by decide +kernel
theorem dX11_told_0 : decode cX11_told 0 = .ok (.iload_n 1, 1) := by decide +kernel
theorem dX11_told_1 : decode cX11_told 1 = .ok (.ifCond .lt 12, 3) := by decide +kernel
theorem dX11_told_4 : decode cX11_told 4 = .ok (.iload_n 1, 1) := by decide +kernel
theorem dX11_told_5 : decode cX11_told 5 = .ok (.aload_n 0, 1) := by decide +kernel
theorem dX11_told_6 : decode cX11_told 6 = .ok (.getfield 100, 3) := by decide +kernel
theorem dX11_told_9 : decode cX11_told 9 = .ok (.arraylength, 1) := by decide +kernel
theorem dX11_told_10 : decode cX11_told 10 = .ok (.if_icmp .lt 7, 3) := by decide +kernel
theorem dX11_told_13 : decode cX11_told 13 = .ok (.iconst (-1), 1) := by decide +kernel
theorem dX11_told_14 : decode cX11_told 14 = .ok (.goto 9, 3) := by decide +kernel
theorem dX11_told_17 : decode cX11_told 17 = .ok (.aload_n 0, 1) := by decide +kernel
theorem dX11_told_18 : decode cX11_told 18 = .ok (.getfield 100, 3) := by decide +kernel
theorem dX11_told_21 : decode cX11_told 21 = .ok (.iload_n 1, 1) := by decide +kernel
theorem dX11_told_22 : decode cX11_told 22 = .ok (.iaload, 1) := by decide +kernel
theorem dX11_told_23 : decode cX11_told 23 = .ok (.ireturn, 1) := by decide +kernel
theorem dX11_sentence_0 : decode cX11_sentence 0 = .ok (.aload_n 0, 1) := by decide +kernel
theorem dX11_sentence_1 : decode cX11_sentence 1 = .ok (.getfield 40, 3) := by decide +kernel
theorem dX11_sentence_4 : decode cX11_sentence 4 = .ok (.aload_n 0, 1) := by decide +kernel
theorem dX11_sentence_5 : decode cX11_sentence 5 = .ok (.getfield 10, 3) := by decide +kernel
theorem dX11_sentence_8 : decode cX11_sentence 8 = .ok (.aload_n 0, 1) := by decide +kernel
theorem dX11_sentence_9 : decode cX11_sentence 9 = .ok (.getfield 26, 3) := by decide +kernel
theorem dX11_sentence_12 : decode cX11_sentence 12 = .ok (.invokevirtual 355, 3) := by decide +kernel
theorem dX11_sentence_15 : decode cX11_sentence 15 = .ok (.istore_n 1, 1) := by decide +kernel
theorem dX11_sentence_16 : decode cX11_sentence 16 = .ok (.aload_n 0, 1) := by decide +kernel
theorem dX11_sentence_17 : decode cX11_sentence 17 = .ok (.invokevirtual 121, 3) := by decide +kernel
theorem dX11_sentence_20 : decode cX11_sentence 20 = .ok (.iload_n 1, 1) := by decide +kernel
theorem dX11_sentence_21 : decode cX11_sentence 21 = .ok (.ifCond .ne 13, 3) := by decide +kernel
theorem dX11_sentence_24 : decode cX11_sentence 24 = .ok (.iconst (-1), 1) := by decide +kernel
theorem dX11_sentence_25 : decode cX11_sentence 25 = .ok (.aload_n 0, 1) := by decide +kernel
theorem dX11_sentence_26 : decode cX11_sentence 26 = .ok (.getfield 10, 3) := by decide +kernel
theorem dX11_sentence_29 : decode cX11_sentence 29 = .ok (.getfield 124, 3) := by decide +kernel
theorem dX11_sentence_32 : decode cX11_sentence 32 = .ok (.isub, 1) := by decide +kernel
theorem dX11_sentence_33 : decode cX11_sentence 33 = .ok (.ireturn, 1) := by decide +kernel
theorem dX11_sentence_34 : decode cX11_sentence 34 = .ok (.aload_n 0, 1) := by decide +kernel
theorem dX11_sentence_35 : decode cX11_sentence 35 = .ok (.getfield 36, 3) := by decide +kernel
theorem dX11_sentence_38 : decode cX11_sentence 38 = .ok (.aload_n 0, 1) := by decide +kernel
theorem dX11_sentence_39 : decode cX11_sentence 39 = .ok (.getfield 40, 3) := by decide +kernel
theorem dX11_sentence_42 : decode cX11_sentence 42 = .ok (.invokevirtual 356, 3) := by decide +kernel
theorem dX11_sentence_45 : decode cX11_sentence 45 = .ok (.aload_n 0, 1) := by decide +kernel
theorem dX11_sentence_46 : decode cX11_sentence 46 = .ok (.getfield 36, 3) := by decide +kernel
theorem dX11_sentence_49 : decode cX11_sentence 49 = .ok (.getfield 359, 3) := by decide +kernel
theorem dX11_sentence_52 : decode cX11_sentence 52 = .ok (.ireturn, 1) := by decide +kernel
theorem dX11_said_0 : decode cX11_said 0 = .ok (.aload_n 0, 1) := by decide +kernel
theorem dX11_said_1 : decode cX11_said 1 = .ok (.getfield 36, 3) := by decide +kernel
theorem dX11_said_4 : decode cX11_said 4 = .ok (.getfield 359, 3) := by decide +kernel
theorem dX11_said_7 : decode cX11_said 7 = .ok (.ifCond .eq 8, 3) := by decide +kernel
theorem dX11_said_10 : decode cX11_said 10 = .ok (.iload_n 1, 1) := by decide +kernel
theorem dX11_said_11 : decode cX11_said 11 = .ok (.iconst (-1), 1) := by decide +kernel
theorem dX11_said_12 : decode cX11_said 12 = .ok (.if_icmp .ge 5, 3) := by decide +kernel
theorem dX11_said_15 : decode cX11_said 15 = .ok (.iconst (-1), 1) := by decide +kernel
theorem dX11_said_16 : decode cX11_said 16 = .ok (.ireturn, 1) := by decide +kernel
theorem dX11_said_17 : decode cX11_said 17 = .ok (.iconst 0, 1) := by decide +kernel
theorem dX11_said_18 : decode cX11_said 18 = .ok (.istore_n 2, 1) := by decide +kernel
theorem dX11_said_19 : decode cX11_said 19 = .ok (.iconst 0, 1) := by decide +kernel
theorem dX11_said_20 : decode cX11_said 20 = .ok (.istore_n 3, 1) := by decide +kernel
theorem dX11_said_21 : decode cX11_said 21 = .ok (.iload_n 3, 1) := by decide +kernel
theorem dX11_said_22 : decode cX11_said 22 = .ok (.aload_n 0, 1) := by decide +kernel
theorem dX11_said_23 : decode cX11_said 23 = .ok (.getfield 26, 3) := by decide +kernel
theorem dX11_said_26 : decode cX11_said 26 = .ok (.getfield 285, 3) := by decide +kernel
theorem dX11_said_29 : decode cX11_said 29 = .ok (.if_icmp .ge 34, 3) := by decide +kernel
theorem dX11_said_32 : decode cX11_said 32 = .ok (.aload_n 0, 1) := by decide +kernel
theorem dX11_said_33 : decode cX11_said 33 = .ok (.getfield 36, 3) := by decide +kernel
theorem dX11_said_36 : decode cX11_said 36 = .ok (.aload_n 0, 1) := by decide +kernel
theorem dX11_said_37 : decode cX11_said 37 = .ok (.getfield 26, 3) := by decide +kernel
theorem dX11_said_40 : decode cX11_said 40 = .ok (.iload_n 3, 1) := by decide +kernel
theorem dX11_said_41 : decode cX11_said 41 = .ok (.invokevirtual 362, 3) := by decide +kernel
theorem dX11_said_44 : decode cX11_said 44 = .ok (.ifCond .eq 13, 3) := by decide +kernel
theorem dX11_said_47 : decode cX11_said 47 = .ok (.iload_n 2, 1) := by decide +kernel
theorem dX11_said_48 : decode cX11_said 48 = .ok (.iload_n 1, 1) := by decide +kernel
theorem dX11_said_49 : decode cX11_said 49 = .ok (.if_icmp .ne 5, 3) := by decide +kernel
theorem dX11_said_52 : decode cX11_said 52 = .ok (.iload_n 3, 1) := by decide +kernel
theorem dX11_said_53 : decode cX11_said 53 = .ok (.ireturn, 1) := by decide +kernel
theorem dX11_said_54 : decode cX11_said 54 = .ok (.iinc 2 1, 3) := by decide +kernel
theorem dX11_said_57 : decode cX11_said 57 = .ok (.iinc 3 1, 3) := by decide +kernel
theorem dX11_said_60 : decode cX11_said 60 = .ok (.goto (-39), 3) := by decide +kernel
theorem dX11_said_63 : decode cX11_said 63 = .ok (.iload_n 1, 1) := by decide +kernel
theorem dX11_said_64 : decode cX11_said 64 = .ok (.iconst (-1), 1) := by decide +kernel
theorem dX11_said_65 : decode cX11_said 65 = .ok (.if_icmp .ne 7, 3) := by decide +kernel
theorem dX11_said_68 : decode cX11_said 68 = .ok (.iload_n 2, 1) := by decide +kernel
theorem dX11_said_69 : decode cX11_said 69 = .ok (.goto 4, 3) := by decide +kernel
theorem dX11_said_72 : decode cX11_said 72 = .ok (.iconst (-1), 1) := by decide +kernel
theorem dX11_said_73 : decode cX11_said 73 = .ok (.ireturn, 1) := by decide +kernel
theorem dX11_image_0 : decode cX11_image 0 = .ok (.iload_n 1, 1) := by decide +kernel
theorem dX11_image_1 : decode cX11_image 1 = .ok (.ifCond .lt 8, 3) := by decide +kernel
theorem dX11_image_4 : decode cX11_image 4 = .ok (.iload_n 1, 1) := by decide +kernel
theorem dX11_image_5 : decode cX11_image 5 = .ok (.iconst 2, 1) := by decide +kernel
theorem dX11_image_6 : decode cX11_image 6 = .ok (.if_icmp .lt 5, 3) := by decide +kernel
theorem dX11_image_9 : decode cX11_image 9 = .ok (.iconst 0, 1) := by decide +kernel
theorem dX11_image_10 : decode cX11_image 10 = .ok (.ireturn, 1) := by decide +kernel
theorem dX11_image_11 : decode cX11_image 11 = .ok (.aload_n 0, 1) := by decide +kernel
theorem dX11_image_12 : decode cX11_image 12 = .ok (.getfield 59, 3) := by decide +kernel
theorem dX11_image_15 : decode cX11_image 15 = .ok (.iload_n 1, 1) := by decide +kernel
theorem dX11_image_16 : decode cX11_image 16 = .ok (.aaload, 1) := by decide +kernel
theorem dX11_image_17 : decode cX11_image 17 = .ok (.getfield 366, 3) := by decide +kernel
theorem dX11_image_20 : decode cX11_image 20 = .ok (.aload_n 0, 1) := by decide +kernel
theorem dX11_image_21 : decode cX11_image 21 = .ok (.getfield 26, 3) := by decide +kernel
theorem dX11_image_24 : decode cX11_image 24 = .ok (.invokevirtual 127, 3) := by decide +kernel
theorem dX11_image_27 : decode cX11_image 27 = .ok (.aload_n 0, 1) := by decide +kernel
theorem dX11_image_28 : decode cX11_image 28 = .ok (.getfield 59, 3) := by decide +kernel
theorem dX11_image_31 : decode cX11_image 31 = .ok (.iload_n 1, 1) := by decide +kernel
theorem dX11_image_32 : decode cX11_image 32 = .ok (.aaload, 1) := by decide +kernel
theorem dX11_image_33 : decode cX11_image 33 = .ok (.getfield 367, 3) := by decide +kernel
theorem dX11_image_36 : decode cX11_image 36 = .ok (.aload_n 0, 1) := by decide +kernel
theorem dX11_image_37 : decode cX11_image 37 = .ok (.getfield 36, 3) := by decide +kernel
theorem dX11_image_40 : decode cX11_image 40 = .ok (.invokevirtual 356, 3) := by decide +kernel
theorem dX11_image_43 : decode cX11_image 43 = .ok (.aload_n 0, 1) := by decide +kernel
theorem dX11_image_44 : decode cX11_image 44 = .ok (.getfield 59, 3) := by decide +kernel
theorem dX11_image_47 : decode cX11_image 47 = .ok (.iload_n 1, 1) := by decide +kernel
theorem dX11_image_48 : decode cX11_image 48 = .ok (.aaload, 1) := by decide +kernel
theorem dX11_image_49 : decode cX11_image 49 = .ok (.iconst 1, 1) := by decide +kernel
theorem dX11_image_50 : decode cX11_image 50 = .ok (.putfield 368, 3) := by decide +kernel
theorem dX11_image_53 : decode cX11_image 53 = .ok (.iconst 1, 1) := by decide +kernel
theorem dX11_image_54 : decode cX11_image 54 = .ok (.ireturn, 1) := by decide +kernel
theorem dX11_restore_0 : decode cX11_restore 0 = .ok (.iload_n 1, 1) := by decide +kernel
theorem dX11_restore_1 : decode cX11_restore 1 = .ok (.ifCond .lt 20, 3) := by decide +kernel
theorem dX11_restore_4 : decode cX11_restore 4 = .ok (.iload_n 1, 1) := by decide +kernel
theorem dX11_restore_5 : decode cX11_restore 5 = .ok (.iconst 2, 1) := by decide +kernel
theorem dX11_restore_6 : decode cX11_restore 6 = .ok (.if_icmp .ge 15, 3) := by decide +kernel
theorem dX11_restore_9 : decode cX11_restore 9 = .ok (.aload_n 0, 1) := by decide +kernel
theorem dX11_restore_10 : decode cX11_restore 10 = .ok (.getfield 59, 3) := by decide +kernel
theorem dX11_restore_13 : decode cX11_restore 13 = .ok (.iload_n 1, 1) := by decide +kernel
theorem dX11_restore_14 : decode cX11_restore 14 = .ok (.aaload, 1) := by decide +kernel
theorem dX11_restore_15 : decode cX11_restore 15 = .ok (.getfield 368, 3) := by decide +kernel
theorem dX11_restore_18 : decode cX11_restore 18 = .ok (.ifCond .ne 5, 3) := by decide +kernel
theorem dX11_restore_21 : decode cX11_restore 21 = .ok (.iconst 0, 1) := by decide +kernel
theorem dX11_restore_22 : decode cX11_restore 22 = .ok (.ireturn, 1) := by decide +kernel
theorem dX11_restore_23 : decode cX11_restore 23 = .ok (.aload_n 0, 1) := by decide +kernel
theorem dX11_restore_24 : decode cX11_restore 24 = .ok (.getfield 26, 3) := by decide +kernel
theorem dX11_restore_27 : decode cX11_restore 27 = .ok (.aload_n 0, 1) := by decide +kernel
theorem dX11_restore_28 : decode cX11_restore 28 = .ok (.getfield 59, 3) := by decide +kernel
theorem dX11_restore_31 : decode cX11_restore 31 = .ok (.iload_n 1, 1) := by decide +kernel
theorem dX11_restore_32 : decode cX11_restore 32 = .ok (.aaload, 1) := by decide +kernel
theorem dX11_restore_33 : decode cX11_restore 33 = .ok (.getfield 366, 3) := by decide +kernel
theorem dX11_restore_36 : decode cX11_restore 36 = .ok (.invokevirtual 127, 3) := by decide +kernel
theorem dX11_restore_39 : decode cX11_restore 39 = .ok (.aload_n 0, 1) := by decide +kernel
theorem dX11_restore_40 : decode cX11_restore 40 = .ok (.getfield 36, 3) := by decide +kernel
theorem dX11_restore_43 : decode cX11_restore 43 = .ok (.aload_n 0, 1) := by decide +kernel
theorem dX11_restore_44 : decode cX11_restore 44 = .ok (.getfield 59, 3) := by decide +kernel
theorem dX11_restore_47 : decode cX11_restore 47 = .ok (.iload_n 1, 1) := by decide +kernel
theorem dX11_restore_48 : decode cX11_restore 48 = .ok (.aaload, 1) := by decide +kernel
theorem dX11_restore_49 : decode cX11_restore 49 = .ok (.getfield 367, 3) := by decide +kernel
theorem dX11_restore_52 : decode cX11_restore 52 = .ok (.invokevirtual 356, 3) := by decide +kernel
theorem dX11_restore_55 : decode cX11_restore 55 = .ok (.aload_n 0, 1) := by decide +kernel
theorem dX11_restore_56 : decode cX11_restore 56 = .ok (.getfield 53, 3) := by decide +kernel
theorem dX11_restore_59 : decode cX11_restore 59 = .ok (.invokevirtual 134, 3) := by decide +kernel
theorem dX11_restore_62 : decode cX11_restore 62 = .ok (.iconst 1, 1) := by decide +kernel
theorem dX11_restore_63 : decode cX11_restore 63 = .ok (.ireturn, 1) := by decide +kernel
theorem dX11_count_0 : decode cX11_count 0 = .ok (.iload_n 1, 1) := by decide +kernel
theorem dX11_count_1 : decode cX11_count 1 = .ok (.tableswitch 51 0 2 #[27, 35, 43], 27) := by decide +kernel
theorem dX11_count_28 : decode cX11_count 28 = .ok (.aload_n 0, 1) := by decide +kernel
theorem dX11_count_29 : decode cX11_count 29 = .ok (.getfield 26, 3) := by decide +kernel
theorem dX11_count_32 : decode cX11_count 32 = .ok (.getfield 296, 3) := by decide +kernel
theorem dX11_count_35 : decode cX11_count 35 = .ok (.ireturn, 1) := by decide +kernel
theorem dX11_count_36 : decode cX11_count 36 = .ok (.aload_n 0, 1) := by decide +kernel
theorem dX11_count_37 : decode cX11_count 37 = .ok (.getfield 26, 3) := by decide +kernel
theorem dX11_count_40 : decode cX11_count 40 = .ok (.getfield 285, 3) := by decide +kernel
theorem dX11_count_43 : decode cX11_count 43 = .ok (.ireturn, 1) := by decide +kernel
theorem dX11_count_44 : decode cX11_count 44 = .ok (.aload_n 0, 1) := by decide +kernel
theorem dX11_count_45 : decode cX11_count 45 = .ok (.getfield 20, 3) := by decide +kernel
theorem dX11_count_48 : decode cX11_count 48 = .ok (.getfield 111, 3) := by decide +kernel
theorem dX11_count_51 : decode cX11_count 51 = .ok (.ireturn, 1) := by decide +kernel
theorem dX11_count_52 : decode cX11_count 52 = .ok (.iconst (-1), 1) := by decide +kernel
theorem dX11_count_53 : decode cX11_count 53 = .ok (.ireturn, 1) := by decide +kernel
theorem dX11_closeText_0 : decode cX11_closeText 0 = .ok (.aload_n 0, 1) := by decide +kernel
theorem dX11_closeText_1 : decode cX11_closeText 1 = .ok (.aload_n 0, 1) := by decide +kernel
theorem dX11_closeText_2 : decode cX11_closeText 2 = .ok (.getfield 10, 3) := by decide +kernel
theorem dX11_closeText_5 : decode cX11_closeText 5 = .ok (.getfield 372, 3) := by decide +kernel
theorem dX11_closeText_8 : decode cX11_closeText 8 = .ok (.putfield 104, 3) := by decide +kernel
theorem dX11_closeText_11 : decode cX11_closeText 11 = .ok (.aload_n 0, 1) := by decide +kernel
theorem dX11_closeText_12 : decode cX11_closeText 12 = .ok (.getfield 20, 3) := by decide +kernel
theorem dX11_closeText_15 : decode cX11_closeText 15 = .ok (.iconst 0, 1) := by decide +kernel
theorem dX11_closeText_16 : decode cX11_closeText 16 = .ok (.putfield 111, 3) := by decide +kernel
theorem dX11_closeText_19 : decode cX11_closeText 19 = .ok (.return_, 1) := by decide +kernel
theorem dX11_settle_0 : decode cX11_settle 0 = .ok (.iload_n 1, 1) := by decide +kernel
theorem dX11_settle_1 : decode cX11_settle 1 = .ok (.ifCond .ne 10, 3) := by decide +kernel
theorem dX11_settle_4 : decode cX11_settle 4 = .ok (.aload_n 0, 1) := by decide +kernel
theorem dX11_settle_5 : decode cX11_settle 5 = .ok (.getfield 53, 3) := by decide +kernel
theorem dX11_settle_8 : decode cX11_settle 8 = .ok (.invokevirtual 375, 3) := by decide +kernel
theorem dX11_settle_11 : decode cX11_settle 11 = .ok (.iload_n 1, 1) := by decide +kernel
theorem dX11_settle_12 : decode cX11_settle 12 = .ok (.ireturn, 1) := by decide +kernel
theorem dX11_settleMany_0 : decode cX11_settleMany 0 = .ok (.iload_n 1, 1) := by decide +kernel
theorem dX11_settleMany_1 : decode cX11_settleMany 1 = .ok (.ifCond .le 10, 3) := by decide +kernel
theorem dX11_settleMany_4 : decode cX11_settleMany 4 = .ok (.aload_n 0, 1) := by decide +kernel
theorem dX11_settleMany_5 : decode cX11_settleMany 5 = .ok (.getfield 53, 3) := by decide +kernel
theorem dX11_settleMany_8 : decode cX11_settleMany 8 = .ok (.invokevirtual 375, 3) := by decide +kernel
theorem dX11_settleMany_11 : decode cX11_settleMany 11 = .ok (.iload_n 1, 1) := by decide +kernel
theorem dX11_settleMany_12 : decode cX11_settleMany 12 = .ok (.ireturn, 1) := by decide +kernel
theorem dX11_addViews_0 : decode cX11_addViews 0 = .ok (.iload_n 1, 1) := by decide +kernel
theorem dX11_addViews_1 : decode cX11_addViews 1 = .ok (.ifCond .ne 13, 3) := by decide +kernel
theorem dX11_addViews_4 : decode cX11_addViews 4 = .ok (.aload_n 0, 1) := by decide +kernel
theorem dX11_addViews_5 : decode cX11_addViews 5 = .ok (.getfield 97, 3) := by decide +kernel
theorem dX11_addViews_8 : decode cX11_addViews 8 = .ok (.ldc_w 378, 3) := by decide +kernel
theorem dX11_addViews_11 : decode cX11_addViews 11 = .ok (.invokevirtual 332, 3) := by decide +kernel
theorem dX11_addViews_14 : decode cX11_addViews 14 = .ok (.iconst 0, 1) := by decide +kernel
theorem dX11_addViews_15 : decode cX11_addViews 15 = .ok (.istore_n 2, 1) := by decide +kernel
theorem dX11_addViews_16 : decode cX11_addViews 16 = .ok (.iload_n 2, 1) := by decide +kernel
theorem dX11_addViews_17 : decode cX11_addViews 17 = .ok (.bipush 8, 2) := by decide +kernel
theorem dX11_addViews_19 : decode cX11_addViews 19 = .ok (.if_icmp .ge 47, 3) := by decide +kernel
theorem dX11_addViews_22 : decode cX11_addViews 22 = .ok (.iload_n 1, 1) := by decide +kernel
theorem dX11_addViews_23 : decode cX11_addViews 23 = .ok (.iload_n 2, 1) := by decide +kernel
theorem dX11_addViews_24 : decode cX11_addViews 24 = .ok (.ishr, 1) := by decide +kernel
theorem dX11_addViews_25 : decode cX11_addViews 25 = .ok (.iconst 1, 1) := by decide +kernel
theorem dX11_addViews_26 : decode cX11_addViews 26 = .ok (.iand, 1) := by decide +kernel
theorem dX11_addViews_27 : decode cX11_addViews 27 = .ok (.iconst 1, 1) := by decide +kernel
theorem dX11_addViews_28 : decode cX11_addViews 28 = .ok (.if_icmp .ne 32, 3) := by decide +kernel
theorem dX11_addViews_31 : decode cX11_addViews 31 = .ok (.aload_n 0, 1) := by decide +kernel
theorem dX11_addViews_32 : decode cX11_addViews 32 = .ok (.getfield 97, 3) := by decide +kernel
theorem dX11_addViews_35 : decode cX11_addViews 35 = .ok (.ldc_w 380, 3) := by decide +kernel
theorem dX11_addViews_38 : decode cX11_addViews 38 = .ok (.invokevirtual 332, 3) := by decide +kernel
theorem dX11_addViews_41 : decode cX11_addViews 41 = .ok (.aload_n 0, 1) := by decide +kernel
theorem dX11_addViews_42 : decode cX11_addViews 42 = .ok (.getfield 97, 3) := by decide +kernel
theorem dX11_addViews_45 : decode cX11_addViews 45 = .ok (.aload_n 0, 1) := by decide +kernel
theorem dX11_addViews_46 : decode cX11_addViews 46 = .ok (.getfield 10, 3) := by decide +kernel
theorem dX11_addViews_49 : decode cX11_addViews 49 = .ok (.getfield 382, 3) := by decide +kernel
theorem dX11_addViews_52 : decode cX11_addViews 52 = .ok (.bipush 9, 2) := by decide +kernel
theorem dX11_addViews_54 : decode cX11_addViews 54 = .ok (.iload_n 2, 1) := by decide +kernel
theorem dX11_addViews_55 : decode cX11_addViews 55 = .ok (.iadd, 1) := by decide +kernel
theorem dX11_addViews_56 : decode cX11_addViews 56 = .ok (.laload, 1) := by decide +kernel
theorem dX11_addViews_57 : decode cX11_addViews 57 = .ok (.invokevirtual 326, 3) := by decide +kernel
theorem dX11_addViews_60 : decode cX11_addViews 60 = .ok (.iinc 2 1, 3) := by decide +kernel
theorem dX11_addViews_63 : decode cX11_addViews 63 = .ok (.goto (-47), 3) := by decide +kernel
theorem dX11_addViews_66 : decode cX11_addViews 66 = .ok (.return_, 1) := by decide +kernel
theorem dX11_judge_0 : decode cX11_judge 0 = .ok (.iconst 0, 1) := by decide +kernel
theorem dX11_judge_1 : decode cX11_judge 1 = .ok (.istore_n 2, 1) := by decide +kernel
theorem dX11_judge_2 : decode cX11_judge 2 = .ok (.iconst 0, 1) := by decide +kernel
theorem dX11_judge_3 : decode cX11_judge 3 = .ok (.istore_n 3, 1) := by decide +kernel
theorem dX11_judge_4 : decode cX11_judge 4 = .ok (.iload_n 3, 1) := by decide +kernel
theorem dX11_judge_5 : decode cX11_judge 5 = .ok (.aload_n 0, 1) := by decide +kernel
theorem dX11_judge_6 : decode cX11_judge 6 = .ok (.getfield 46, 3) := by decide +kernel
theorem dX11_judge_9 : decode cX11_judge 9 = .ok (.getfield 385, 3) := by decide +kernel
theorem dX11_judge_12 : decode cX11_judge 12 = .ok (.if_icmp .ge 26, 3) := by decide +kernel
theorem dX11_judge_15 : decode cX11_judge 15 = .ok (.aload_n 0, 1) := by decide +kernel
theorem dX11_judge_16 : decode cX11_judge 16 = .ok (.getfield 46, 3) := by decide +kernel
theorem dX11_judge_19 : decode cX11_judge 19 = .ok (.aload_n 1, 1) := by decide +kernel
theorem dX11_judge_20 : decode cX11_judge 20 = .ok (.iload_n 3, 1) := by decide +kernel
theorem dX11_judge_21 : decode cX11_judge 21 = .ok (.invokevirtual 388, 3) := by decide +kernel
theorem dX11_judge_24 : decode cX11_judge 24 = .ok (.istore_n 2, 1) := by decide +kernel
theorem dX11_judge_25 : decode cX11_judge 25 = .ok (.iload_n 2, 1) := by decide +kernel
theorem dX11_judge_26 : decode cX11_judge 26 = .ok (.ifCond .eq 6, 3) := by decide +kernel
theorem dX11_judge_29 : decode cX11_judge 29 = .ok (.goto 9, 3) := by decide +kernel
theorem dX11_judge_32 : decode cX11_judge 32 = .ok (.iinc 3 1, 3) := by decide +kernel
theorem dX11_judge_35 : decode cX11_judge 35 = .ok (.goto (-31), 3) := by decide +kernel
theorem dX11_judge_38 : decode cX11_judge 38 = .ok (.aload_n 0, 1) := by decide +kernel
theorem dX11_judge_39 : decode cX11_judge 39 = .ok (.getfield 100, 3) := by decide +kernel
theorem dX11_judge_42 : decode cX11_judge 42 = .ok (.iconst 0, 1) := by decide +kernel
theorem dX11_judge_43 : decode cX11_judge 43 = .ok (.iload_n 2, 1) := by decide +kernel
theorem dX11_judge_44 : decode cX11_judge 44 = .ok (.iastore, 1) := by decide +kernel
theorem dX11_judge_45 : decode cX11_judge 45 = .ok (.aload_n 0, 1) := by decide +kernel
theorem dX11_judge_46 : decode cX11_judge 46 = .ok (.getfield 100, 3) := by decide +kernel
theorem dX11_judge_49 : decode cX11_judge 49 = .ok (.iconst 1, 1) := by decide +kernel
theorem dX11_judge_50 : decode cX11_judge 50 = .ok (.iload_n 3, 1) := by decide +kernel
theorem dX11_judge_51 : decode cX11_judge 51 = .ok (.iastore, 1) := by decide +kernel
theorem dX11_judge_52 : decode cX11_judge 52 = .ok (.aload_n 0, 1) := by decide +kernel
theorem dX11_judge_53 : decode cX11_judge 53 = .ok (.getfield 100, 3) := by decide +kernel
theorem dX11_judge_56 : decode cX11_judge 56 = .ok (.iconst 2, 1) := by decide +kernel
theorem dX11_judge_57 : decode cX11_judge 57 = .ok (.aload_n 1, 1) := by decide +kernel
theorem dX11_judge_58 : decode cX11_judge 58 = .ok (.getfield 203, 3) := by decide +kernel
theorem dX11_judge_61 : decode cX11_judge 61 = .ok (.iastore, 1) := by decide +kernel
theorem dX11_judge_62 : decode cX11_judge 62 = .ok (.aload_n 0, 1) := by decide +kernel
theorem dX11_judge_63 : decode cX11_judge 63 = .ok (.getfield 100, 3) := by decide +kernel
theorem dX11_judge_66 : decode cX11_judge 66 = .ok (.iconst 3, 1) := by decide +kernel
theorem dX11_judge_67 : decode cX11_judge 67 = .ok (.aload_n 1, 1) := by decide +kernel
theorem dX11_judge_68 : decode cX11_judge 68 = .ok (.invokevirtual 213, 3) := by decide +kernel
theorem dX11_judge_71 : decode cX11_judge 71 = .ok (.iastore, 1) := by decide +kernel
theorem dX11_judge_72 : decode cX11_judge 72 = .ok (.iload_n 2, 1) := by decide +kernel
theorem dX11_judge_73 : decode cX11_judge 73 = .ok (.ifCond .ne 7, 3) := by decide +kernel
theorem dX11_judge_76 : decode cX11_judge 76 = .ok (.iconst (-1), 1) := by decide +kernel
theorem dX11_judge_77 : decode cX11_judge 77 = .ok (.goto 4, 3) := by decide +kernel
theorem dX11_judge_80 : decode cX11_judge 80 = .ok (.iload_n 3, 1) := by decide +kernel
theorem dX11_judge_81 : decode cX11_judge 81 = .ok (.ireturn, 1) := by decide +kernel
theorem dX11_allRound_0 : decode cX11_allRound 0 = .ok (.iload_n 0, 1) := by decide +kernel
theorem dX11_allRound_1 : decode cX11_allRound 1 = .ok (.bipush 7, 2) := by decide +kernel
theorem dX11_allRound_3 : decode cX11_allRound 3 = .ok (.iand, 1) := by decide +kernel
theorem dX11_allRound_4 : decode cX11_allRound 4 = .ok (.ireturn, 1) := by decide +kernel
theorem dX11_opposite_0 : decode cX11_opposite 0 = .ok (.iload_n 0, 1) := by decide +kernel
theorem dX11_opposite_1 : decode cX11_opposite 1 = .ok (.iconst 4, 1) := by decide +kernel
theorem dX11_opposite_2 : decode cX11_opposite 2 = .ok (.iadd, 1) := by decide +kernel
theorem dX11_opposite_3 : decode cX11_opposite 3 = .ok (.bipush 7, 2) := by decide +kernel
theorem dX11_opposite_5 : decode cX11_opposite 5 = .ok (.iand, 1) := by decide +kernel
theorem dX11_opposite_6 : decode cX11_opposite 6 = .ok (.ireturn, 1) := by decide +kernel
theorem dX11_having_0 : decode cX11_having 0 = .ok (.iload_n 0, 1) := by decide +kernel
theorem dX11_having_1 : decode cX11_having 1 = .ok (.iconst 1, 1) := by decide +kernel
theorem dX11_having_2 : decode cX11_having 2 = .ok (.iload_n 1, 1) := by decide +kernel
theorem dX11_having_3 : decode cX11_having 3 = .ok (.ishl, 1) := by decide +kernel
theorem dX11_having_4 : decode cX11_having 4 = .ok (.ior, 1) := by decide +kernel
theorem dX11_having_5 : decode cX11_having 5 = .ok (.iconst 1, 1) := by decide +kernel
theorem dX11_having_6 : decode cX11_having 6 = .ok (.iload_n 1, 1) := by decide +kernel
theorem dX11_having_7 : decode cX11_having 7 = .ok (.invokestatic 391, 3) := by decide +kernel
theorem dX11_having_10 : decode cX11_having 10 = .ok (.ishl, 1) := by decide +kernel
theorem dX11_having_11 : decode cX11_having 11 = .ok (.iconst (-1), 1) := by decide +kernel
theorem dX11_having_12 : decode cX11_having 12 = .ok (.ixor, 1) := by decide +kernel
theorem dX11_having_13 : decode cX11_having 13 = .ok (.iand, 1) := by decide +kernel
theorem dX11_having_14 : decode cX11_having 14 = .ok (.ireturn, 1) := by decide +kernel
theorem dX12_thrown_0 : decode cX12_thrown 0 = .ok (.aload_n 0, 1) := by decide +kernel
theorem dX12_thrown_1 : decode cX12_thrown 1 = .ok (.getfield 1, 3) := by decide +kernel
theorem dX12_thrown_4 : decode cX12_thrown 4 = .ok (.ireturn, 1) := by decide +kernel
theorem dX12_throwsIf_0 : decode cX12_throwsIf 0 = .ok (.aload_n 0, 1) := by decide +kernel
theorem dX12_throwsIf_1 : decode cX12_throwsIf 1 = .ok (.iload_n 1, 1) := by decide +kernel
theorem dX12_throwsIf_2 : decode cX12_throwsIf 2 = .ok (.ifCond .eq 7, 3) := by decide +kernel
theorem dX12_throwsIf_5 : decode cX12_throwsIf 5 = .ok (.iconst 1, 1) := by decide +kernel
theorem dX12_throwsIf_6 : decode cX12_throwsIf 6 = .ok (.goto 4, 3) := by decide +kernel
theorem dX12_throwsIf_9 : decode cX12_throwsIf 9 = .ok (.iconst 0, 1) := by decide +kernel
theorem dX12_throwsIf_10 : decode cX12_throwsIf 10 = .ok (.putfield 1, 3) := by decide +kernel
theorem dX12_throwsIf_13 : decode cX12_throwsIf 13 = .ok (.iload_n 1, 1) := by decide +kernel
theorem dX12_throwsIf_14 : decode cX12_throwsIf 14 = .ok (.ireturn, 1) := by decide +kernel
theorem dX12_feed_0 : decode cX12_feed 0 = .ok (.aload_n 0, 1) := by decide +kernel
theorem dX12_feed_1 : decode cX12_feed 1 = .ok (.iconst 0, 1) := by decide +kernel
theorem dX12_feed_2 : decode cX12_feed 2 = .ok (.putfield 1, 3) := by decide +kernel
theorem dX12_feed_5 : decode cX12_feed 5 = .ok (.aload_n 0, 1) := by decide +kernel
theorem dX12_feed_6 : decode cX12_feed 6 = .ok (.getfield 7, 3) := by decide +kernel
theorem dX12_feed_9 : decode cX12_feed 9 = .ok (.bipush 20, 2) := by decide +kernel
theorem dX12_feed_11 : decode cX12_feed 11 = .ok (.iadd, 1) := by decide +kernel
theorem dX12_feed_12 : decode cX12_feed 12 = .ok (.sipush 940, 3) := by decide +kernel
theorem dX12_feed_15 : decode cX12_feed 15 = .ok (.if_icmp .le 5, 3) := by decide +kernel
theorem dX12_feed_18 : decode cX12_feed 18 = .ok (.iconst (-1), 1) := by decide +kernel
theorem dX12_feed_19 : decode cX12_feed 19 = .ok (.ireturn, 1) := by decide +kernel
theorem dX12_feed_20 : decode cX12_feed 20 = .ok (.aload_n 0, 1) := by decide +kernel
theorem dX12_feed_21 : decode cX12_feed 21 = .ok (.iload_n 1, 1) := by decide +kernel
theorem dX12_feed_22 : decode cX12_feed 22 = .ok (.invokevirtual 10, 3) := by decide +kernel
theorem dX12_feed_25 : decode cX12_feed 25 = .ok (.aload_n 0, 1) := by decide +kernel
theorem dX12_feed_26 : decode cX12_feed 26 = .ok (.iload_n 2, 1) := by decide +kernel
theorem dX12_feed_27 : decode cX12_feed 27 = .ok (.invokevirtual 10, 3) := by decide +kernel
theorem dX12_feed_30 : decode cX12_feed 30 = .ok (.aload_n 0, 1) := by decide +kernel
theorem dX12_feed_31 : decode cX12_feed 31 = .ok (.iload_n 3, 1) := by decide +kernel
theorem dX12_feed_32 : decode cX12_feed 32 = .ok (.invokevirtual 10, 3) := by decide +kernel
theorem dX12_feed_35 : decode cX12_feed 35 = .ok (.aload_n 0, 1) := by decide +kernel
theorem dX12_feed_36 : decode cX12_feed 36 = .ok (.iload 4, 2) := by decide +kernel
theorem dX12_feed_38 : decode cX12_feed 38 = .ok (.invokevirtual 10, 3) := by decide +kernel
theorem dX12_feed_41 : decode cX12_feed 41 = .ok (.aload_n 0, 1) := by decide +kernel
theorem dX12_feed_42 : decode cX12_feed 42 = .ok (.iload 5, 2) := by decide +kernel
theorem dX12_feed_44 : decode cX12_feed 44 = .ok (.invokevirtual 10, 3) := by decide +kernel
theorem dX12_feed_47 : decode cX12_feed 47 = .ok (.aload_n 0, 1) := by decide +kernel
theorem dX12_feed_48 : decode cX12_feed 48 = .ok (.getfield 7, 3) := by decide +kernel
theorem dX12_feed_51 : decode cX12_feed 51 = .ok (.ireturn, 1) := by decide +kernel
theorem dX12_four_0 : decode cX12_four 0 = .ok (.bipush 24, 2) := by decide +kernel
theorem dX12_four_2 : decode cX12_four 2 = .ok (.istore_n 2, 1) := by decide +kernel
theorem dX12_four_3 : decode cX12_four 3 = .ok (.iload_n 2, 1) := by decide +kernel
theorem dX12_four_4 : decode cX12_four 4 = .ok (.ifCond .lt 32, 3) := by decide +kernel
theorem dX12_four_7 : decode cX12_four 7 = .ok (.aload_n 0, 1) := by decide +kernel
theorem dX12_four_8 : decode cX12_four 8 = .ok (.getfield 14, 3) := by decide +kernel
theorem dX12_four_11 : decode cX12_four 11 = .ok (.aload_n 0, 1) := by decide +kernel
theorem dX12_four_12 : decode cX12_four 12 = .ok (.getfield 7, 3) := by decide +kernel
theorem dX12_four_15 : decode cX12_four 15 = .ok (.iload_n 1, 1) := by decide +kernel
theorem dX12_four_16 : decode cX12_four 16 = .ok (.iload_n 2, 1) := by decide +kernel
theorem dX12_four_17 : decode cX12_four 17 = .ok (.ishr, 1) := by decide +kernel
theorem dX12_four_18 : decode cX12_four 18 = .ok (.i2b, 1) := by decide +kernel
theorem dX12_four_19 : decode cX12_four 19 = .ok (.bastore, 1) := by decide +kernel
theorem dX12_four_20 : decode cX12_four 20 = .ok (.aload_n 0, 1) := by decide +kernel
theorem dX12_four_21 : decode cX12_four 21 = .ok (.dup, 1) := by decide +kernel
theorem dX12_four_22 : decode cX12_four 22 = .ok (.getfield 7, 3) := by decide +kernel
theorem dX12_four_25 : decode cX12_four 25 = .ok (.iconst 1, 1) := by decide +kernel
theorem dX12_four_26 : decode cX12_four 26 = .ok (.iadd, 1) := by decide +kernel
theorem dX12_four_27 : decode cX12_four 27 = .ok (.putfield 7, 3) := by decide +kernel
theorem dX12_four_30 : decode cX12_four 30 = .ok (.iinc 2 (-8), 3) := by decide +kernel
theorem dX12_four_33 : decode cX12_four 33 = .ok (.goto (-30), 3) := by decide +kernel
theorem dX12_four_36 : decode cX12_four 36 = .ok (.return_, 1) := by decide +kernel
theorem dX12_end_0 : decode cX12_end 0 = .ok (.aload_n 0, 1) := by decide +kernel
theorem dX12_end_1 : decode cX12_end 1 = .ok (.iconst 0, 1) := by decide +kernel
theorem dX12_end_2 : decode cX12_end 2 = .ok (.putfield 1, 3) := by decide +kernel
theorem dX12_end_5 : decode cX12_end 5 = .ok (.iload_n 1, 1) := by decide +kernel
theorem dX12_end_6 : decode cX12_end 6 = .ok (.ifCond .lt 11, 3) := by decide +kernel
theorem dX12_end_9 : decode cX12_end 9 = .ok (.iload_n 1, 1) := by decide +kernel
theorem dX12_end_10 : decode cX12_end 10 = .ok (.aload_n 0, 1) := by decide +kernel
theorem dX12_end_11 : decode cX12_end 11 = .ok (.getfield 7, 3) := by decide +kernel
theorem dX12_end_14 : decode cX12_end 14 = .ok (.if_icmp .le 5, 3) := by decide +kernel
theorem dX12_end_17 : decode cX12_end 17 = .ok (.iconst 0, 1) := by decide +kernel
theorem dX12_end_18 : decode cX12_end 18 = .ok (.ireturn, 1) := by decide +kernel
theorem dX12_end_19 : decode cX12_end 19 = .ok (.aload_n 0, 1) := by decide +kernel
theorem dX12_end_20 : decode cX12_end 20 = .ok (.iload_n 1, 1) := by decide +kernel
theorem dX12_end_21 : decode cX12_end 21 = .ok (.putfield 7, 3) := by decide +kernel
theorem dX12_end_24 : decode cX12_end 24 = .ok (.iconst 1, 1) := by decide +kernel
theorem dX12_end_25 : decode cX12_end 25 = .ok (.ireturn, 1) := by decide +kernel
theorem dX12_taken_0 : decode cX12_taken 0 = .ok (.aload_n 0, 1) := by decide +kernel
theorem dX12_taken_1 : decode cX12_taken 1 = .ok (.aload_n 0, 1) := by decide +kernel
theorem dX12_taken_2 : decode cX12_taken 2 = .ok (.getfield 7, 3) := by decide +kernel
theorem dX12_taken_5 : decode cX12_taken 5 = .ok (.putfield 18, 3) := by decide +kernel
theorem dX12_taken_8 : decode cX12_taken 8 = .ok (.aload_n 0, 1) := by decide +kernel
theorem dX12_taken_9 : decode cX12_taken 9 = .ok (.iconst 0, 1) := by decide +kernel
theorem dX12_taken_10 : decode cX12_taken 10 = .ok (.putfield 7, 3) := by decide +kernel
theorem dX12_taken_13 : decode cX12_taken 13 = .ok (.aload_n 0, 1) := by decide +kernel
theorem dX12_taken_14 : decode cX12_taken 14 = .ok (.iconst 0, 1) := by decide +kernel
theorem dX12_taken_15 : decode cX12_taken 15 = .ok (.putfield 21, 3) := by decide +kernel
theorem dX12_taken_18 : decode cX12_taken 18 = .ok (.aload_n 0, 1) := by decide +kernel
theorem dX12_taken_19 : decode cX12_taken 19 = .ok (.iload_n 1, 1) := by decide +kernel
theorem dX12_taken_20 : decode cX12_taken 20 = .ok (.putfield 24, 3) := by decide +kernel
theorem dX12_taken_23 : decode cX12_taken 23 = .ok (.return_, 1) := by decide +kernel
theorem dX12_isIn_0 : decode cX12_isIn 0 = .ok (.iload_n 0, 1) := by decide +kernel
theorem dX12_isIn_1 : decode cX12_isIn 1 = .ok (.iload_n 1, 1) := by decide +kernel
theorem dX12_isIn_2 : decode cX12_isIn 2 = .ok (.if_icmp .lt 12, 3) := by decide +kernel
theorem dX12_isIn_5 : decode cX12_isIn 5 = .ok (.iload_n 0, 1) := by decide +kernel
theorem dX12_isIn_6 : decode cX12_isIn 6 = .ok (.iload_n 2, 1) := by decide +kernel
theorem dX12_isIn_7 : decode cX12_isIn 7 = .ok (.if_icmp .gt 7, 3) := by decide +kernel
theorem dX12_isIn_10 : decode cX12_isIn 10 = .ok (.iconst 1, 1) := by decide +kernel
theorem dX12_isIn_11 : decode cX12_isIn 11 = .ok (.goto 4, 3) := by decide +kernel
theorem dX12_isIn_14 : decode cX12_isIn 14 = .ok (.iconst 0, 1) := by decide +kernel
theorem dX12_isIn_15 : decode cX12_isIn 15 = .ok (.ireturn, 1) := by decide +kernel
theorem dX12_bitOf_0 : decode cX12_bitOf 0 = .ok (.iload_n 0, 1) := by decide +kernel
theorem dX12_bitOf_1 : decode cX12_bitOf 1 = .ok (.iload_n 1, 1) := by decide +kernel
theorem dX12_bitOf_2 : decode cX12_bitOf 2 = .ok (.ishr, 1) := by decide +kernel
theorem dX12_bitOf_3 : decode cX12_bitOf 3 = .ok (.iconst 1, 1) := by decide +kernel
theorem dX12_bitOf_4 : decode cX12_bitOf 4 = .ok (.iand, 1) := by decide +kernel
theorem dX12_bitOf_5 : decode cX12_bitOf 5 = .ok (.iconst 1, 1) := by decide +kernel
theorem dX12_bitOf_6 : decode cX12_bitOf 6 = .ok (.if_icmp .ne 7, 3) := by decide +kernel
theorem dX12_bitOf_9 : decode cX12_bitOf 9 = .ok (.iconst 1, 1) := by decide +kernel
theorem dX12_bitOf_10 : decode cX12_bitOf 10 = .ok (.goto 4, 3) := by decide +kernel
theorem dX12_bitOf_13 : decode cX12_bitOf 13 = .ok (.iconst 0, 1) := by decide +kernel
theorem dX12_bitOf_14 : decode cX12_bitOf 14 = .ok (.ireturn, 1) := by decide +kernel
theorem dX12_greater_0 : decode cX12_greater 0 = .ok (.iload_n 0, 1) := by decide +kernel
theorem dX12_greater_1 : decode cX12_greater 1 = .ok (.iload_n 1, 1) := by decide +kernel
theorem dX12_greater_2 : decode cX12_greater 2 = .ok (.if_icmp .le 7, 3) := by decide +kernel
theorem dX12_greater_5 : decode cX12_greater 5 = .ok (.iload_n 0, 1) := by decide +kernel
theorem dX12_greater_6 : decode cX12_greater 6 = .ok (.goto 4, 3) := by decide +kernel
theorem dX12_greater_9 : decode cX12_greater 9 = .ok (.iload_n 1, 1) := by decide +kernel
theorem dX12_greater_10 : decode cX12_greater 10 = .ok (.ireturn, 1) := by decide +kernel
theorem dX12_bits_0 : decode cX12_bits 0 = .ok (.iconst 0, 1) := by decide +kernel
theorem dX12_bits_1 : decode cX12_bits 1 = .ok (.istore_n 1, 1) := by decide +kernel
theorem dX12_bits_2 : decode cX12_bits 2 = .ok (.iload_n 0, 1) := by decide +kernel
theorem dX12_bits_3 : decode cX12_bits 3 = .ok (.istore_n 2, 1) := by decide +kernel
theorem dX12_bits_4 : decode cX12_bits 4 = .ok (.iload_n 2, 1) := by decide +kernel
theorem dX12_bits_5 : decode cX12_bits 5 = .ok (.ifCond .eq 15, 3) := by decide +kernel
theorem dX12_bits_8 : decode cX12_bits 8 = .ok (.iinc 1 1, 3) := by decide +kernel
theorem dX12_bits_11 : decode cX12_bits 11 = .ok (.iload_n 2, 1) := by decide +kernel
theorem dX12_bits_12 : decode cX12_bits 12 = .ok (.iload_n 2, 1) := by decide +kernel
theorem dX12_bits_13 : decode cX12_bits 13 = .ok (.iconst 1, 1) := by decide +kernel
theorem dX12_bits_14 : decode cX12_bits 14 = .ok (.isub, 1) := by decide +kernel
theorem dX12_bits_15 : decode cX12_bits 15 = .ok (.iand, 1) := by decide +kernel
theorem dX12_bits_16 : decode cX12_bits 16 = .ok (.istore_n 2, 1) := by decide +kernel
theorem dX12_bits_17 : decode cX12_bits 17 = .ok (.goto (-13), 3) := by decide +kernel
theorem dX12_bits_20 : decode cX12_bits 20 = .ok (.iload_n 1, 1) := by decide +kernel
theorem dX12_bits_21 : decode cX12_bits 21 = .ok (.ireturn, 1) := by decide +kernel
theorem dX12_octet_0 : decode cX12_octet 0 = .ok (.aload_n 0, 1) := by decide +kernel
theorem dX12_octet_1 : decode cX12_octet 1 = .ok (.getfield 14, 3) := by decide +kernel
theorem dX12_octet_4 : decode cX12_octet 4 = .ok (.iload_n 1, 1) := by decide +kernel
theorem dX12_octet_5 : decode cX12_octet 5 = .ok (.baload, 1) := by decide +kernel
theorem dX12_octet_6 : decode cX12_octet 6 = .ok (.sipush 255, 3) := by decide +kernel
theorem dX12_octet_9 : decode cX12_octet 9 = .ok (.iand, 1) := by decide +kernel
theorem dX12_octet_10 : decode cX12_octet 10 = .ok (.ireturn, 1) := by decide +kernel
theorem dX12_init_0 : decode cX12_init 0 = .ok (.aload_n 0, 1) := by decide +kernel
theorem dX12_init_1 : decode cX12_init 1 = .ok (.invokespecial 27, 3) := by decide +kernel
theorem dX12_init_4 : decode cX12_init 4 = .ok (.aload_n 0, 1) := by decide +kernel
theorem dX12_init_5 : decode cX12_init 5 = .ok (.sipush 940, 3) := by decide +kernel
theorem dX12_init_8 : decode cX12_init 8 = .ok (.newarray .byte, 2) := by decide +kernel
theorem dX12_init_10 : decode cX12_init 10 = .ok (.putfield 14, 3) := by decide +kernel
theorem dX12_init_13 : decode cX12_init 13 = .ok (.aload_n 0, 1) := by decide +kernel
theorem dX12_init_14 : decode cX12_init 14 = .ok (.sipush 258, 3) := by decide +kernel
theorem dX12_init_17 : decode cX12_init 17 = .ok (.newarray .int, 2) := by decide +kernel
theorem dX12_init_19 : decode cX12_init 19 = .ok (.putfield 33, 3) := by decide +kernel
theorem dX12_init_22 : decode cX12_init 22 = .ok (.aload_n 0, 1) := by decide +kernel
theorem dX12_init_23 : decode cX12_init 23 = .ok (.bipush 42, 2) := by decide +kernel
theorem dX12_init_25 : decode cX12_init 25 = .ok (.newarray .int, 2) := by decide +kernel
theorem dX12_init_27 : decode cX12_init 27 = .ok (.putfield 37, 3) := by decide +kernel
theorem dX12_init_30 : decode cX12_init 30 = .ok (.aload_n 0, 1) := by decide +kernel
theorem dX12_init_31 : decode cX12_init 31 = .ok (.sipush 160, 3) := by decide +kernel
theorem dX12_init_34 : decode cX12_init 34 = .ok (.newarray .int, 2) := by decide +kernel
theorem dX12_init_36 : decode cX12_init 36 = .ok (.putfield 40, 3) := by decide +kernel
theorem dX12_init_39 : decode cX12_init 39 = .ok (.aload_n 0, 1) := by decide +kernel
theorem dX12_init_40 : decode cX12_init 40 = .ok (.bipush 26, 2) := by decide +kernel
theorem dX12_init_42 : decode cX12_init 42 = .ok (.newarray .long, 2) := by decide +kernel
theorem dX12_init_44 : decode cX12_init 44 = .ok (.putfield 43, 3) := by decide +kernel
theorem dX12_init_47 : decode cX12_init 47 = .ok (.aload_n 0, 1) := by decide +kernel
theorem dX12_init_48 : decode cX12_init 48 = .ok (.bipush 36, 2) := by decide +kernel
theorem dX12_init_50 : decode cX12_init 50 = .ok (.newarray .long, 2) := by decide +kernel
theorem dX12_init_52 : decode cX12_init 52 = .ok (.putfield 47, 3) := by decide +kernel
theorem dX12_init_55 : decode cX12_init 55 = .ok (.aload_n 0, 1) := by decide +kernel
theorem dX12_init_56 : decode cX12_init 56 = .ok (.sipush 280, 3) := by decide +kernel
theorem dX12_init_59 : decode cX12_init 59 = .ok (.newarray .int, 2) := by decide +kernel
theorem dX12_init_61 : decode cX12_init 61 = .ok (.putfield 50, 3) := by decide +kernel
theorem dX12_init_64 : decode cX12_init 64 = .ok (.aload_n 0, 1) := by decide +kernel
theorem dX12_init_65 : decode cX12_init 65 = .ok (.bipush 35, 2) := by decide +kernel
theorem dX12_init_67 : decode cX12_init 67 = .ok (.newarray .int, 2) := by decide +kernel
theorem dX12_init_69 : decode cX12_init 69 = .ok (.putfield 53, 3) := by decide +kernel
theorem dX12_init_72 : decode cX12_init 72 = .ok (.aload_n 0, 1) := by decide +kernel
theorem dX12_init_73 : decode cX12_init 73 = .ok (.sipush 256, 3) := by decide +kernel
theorem dX12_init_76 : decode cX12_init 76 = .ok (.newarray .int, 2) := by decide +kernel
theorem dX12_init_78 : decode cX12_init 78 = .ok (.putfield 56, 3) := by decide +kernel
theorem dX12_init_81 : decode cX12_init 81 = .ok (.aload_n 0, 1) := by decide +kernel
theorem dX12_init_82 : decode cX12_init 82 = .ok (.sipush 256, 3) := by decide +kernel
theorem dX12_init_85 : decode cX12_init 85 = .ok (.newarray .int, 2) := by decide +kernel
theorem dX12_init_87 : decode cX12_init 87 = .ok (.putfield 59, 3) := by decide +kernel
theorem dX12_init_90 : decode cX12_init 90 = .ok (.aload_n 0, 1) := by decide +kernel
theorem dX12_init_91 : decode cX12_init 91 = .ok (.iconst (-1), 1) := by decide +kernel
theorem dX12_init_92 : decode cX12_init 92 = .ok (.putfield 62, 3) := by decide +kernel
theorem dX12_init_95 : decode cX12_init 95 = .ok (.aload_n 0, 1) := by decide +kernel
theorem dX12_init_96 : decode cX12_init 96 = .ok (.iconst 3, 1) := by decide +kernel
theorem dX12_init_97 : decode cX12_init 97 = .ok (.newarray .int, 2) := by decide +kernel
theorem dX12_init_99 : decode cX12_init 99 = .ok (.putfield 65, 3) := by decide +kernel
theorem dX12_init_102 : decode cX12_init 102 = .ok (.aload_n 0, 1) := by decide +kernel
theorem dX12_init_103 : decode cX12_init 103 = .ok (.iconst (-1), 1) := by decide +kernel
theorem dX12_init_104 : decode cX12_init 104 = .ok (.putfield 68, 3) := by decide +kernel
theorem dX12_init_107 : decode cX12_init 107 = .ok (.aload_n 0, 1) := by decide +kernel
theorem dX12_init_108 : decode cX12_init 108 = .ok (.sipush 896, 3) := by decide +kernel
theorem dX12_init_111 : decode cX12_init 111 = .ok (.newarray .int, 2) := by decide +kernel
theorem dX12_init_113 : decode cX12_init 113 = .ok (.putfield 71, 3) := by decide +kernel
theorem dX12_init_116 : decode cX12_init 116 = .ok (.aload_n 0, 1) := by decide +kernel
theorem dX12_init_117 : decode cX12_init 117 = .ok (.bipush 6, 2) := by decide +kernel
theorem dX12_init_119 : decode cX12_init 119 = .ok (.newarray .int, 2) := by decide +kernel
theorem dX12_init_121 : decode cX12_init 121 = .ok (.putfield 74, 3) := by decide +kernel
theorem dX12_init_124 : decode cX12_init 124 = .ok (.aload_n 0, 1) := by decide +kernel
theorem dX12_init_125 : decode cX12_init 125 = .ok (.iconst (-1), 1) := by decide +kernel
theorem dX12_init_126 : decode cX12_init 126 = .ok (.putfield 77, 3) := by decide +kernel
theorem dX12_init_129 : decode cX12_init 129 = .ok (.aload_n 0, 1) := by decide +kernel
theorem dX12_init_130 : decode cX12_init 130 = .ok (.bipush 6, 2) := by decide +kernel
theorem dX12_init_132 : decode cX12_init 132 = .ok (.newarray .int, 2) := by decide +kernel
theorem dX12_init_134 : decode cX12_init 134 = .ok (.putfield 80, 3) := by decide +kernel
theorem dX12_init_137 : decode cX12_init 137 = .ok (.aload_n 0, 1) := by decide +kernel
theorem dX12_init_138 : decode cX12_init 138 = .ok (.iconst (-1), 1) := by decide +kernel
theorem dX12_init_139 : decode cX12_init 139 = .ok (.putfield 83, 3) := by decide +kernel
theorem dX12_init_142 : decode cX12_init 142 = .ok (.aload_n 0, 1) := by decide +kernel
theorem dX12_init_143 : decode cX12_init 143 = .ok (.bipush 64, 2) := by decide +kernel
theorem dX12_init_145 : decode cX12_init 145 = .ok (.newarray .byte, 2) := by decide +kernel
theorem dX12_init_147 : decode cX12_init 147 = .ok (.putfield 86, 3) := by decide +kernel
theorem dX12_init_150 : decode cX12_init 150 = .ok (.aload_n 0, 1) := by decide +kernel
theorem dX12_init_151 : decode cX12_init 151 = .ok (.iconst 4, 1) := by decide +kernel
theorem dX12_init_152 : decode cX12_init 152 = .ok (.newarray .int, 2) := by decide +kernel
theorem dX12_init_154 : decode cX12_init 154 = .ok (.putfield 89, 3) := by decide +kernel
theorem dX12_init_157 : decode cX12_init 157 = .ok (.aload_n 0, 1) := by decide +kernel
theorem dX12_init_158 : decode cX12_init 158 = .ok (.bipush 45, 2) := by decide +kernel
theorem dX12_init_160 : decode cX12_init 160 = .ok (.newarray .int, 2) := by decide +kernel
theorem dX12_init_162 : decode cX12_init 162 = .ok (.putfield 92, 3) := by decide +kernel
theorem dX12_init_165 : decode cX12_init 165 = .ok (.aload_n 0, 1) := by decide +kernel
theorem dX12_init_166 : decode cX12_init 166 = .ok (.bipush 45, 2) := by decide +kernel
theorem dX12_init_168 : decode cX12_init 168 = .ok (.newarray .boolean, 2) := by decide +kernel
theorem dX12_init_170 : decode cX12_init 170 = .ok (.putfield 95, 3) := by decide +kernel
theorem dX12_init_173 : decode cX12_init 173 = .ok (.aload_n 0, 1) := by decide +kernel
theorem dX12_init_174 : decode cX12_init 174 = .ok (.sipush 516, 3) := by decide +kernel
theorem dX12_init_177 : decode cX12_init 177 = .ok (.newarray .int, 2) := by decide +kernel
theorem dX12_init_179 : decode cX12_init 179 = .ok (.putfield 99, 3) := by decide +kernel
theorem dX12_init_182 : decode cX12_init 182 = .ok (.aload_n 0, 1) := by decide +kernel
theorem dX12_init_183 : decode cX12_init 183 = .ok (.bipush 26, 2) := by decide +kernel
theorem dX12_init_185 : decode cX12_init 185 = .ok (.newarray .long, 2) := by decide +kernel
theorem dX12_init_187 : decode cX12_init 187 = .ok (.putfield 102, 3) := by decide +kernel
theorem dX12_init_190 : decode cX12_init 190 = .ok (.aload_n 0, 1) := by decide +kernel
theorem dX12_init_191 : decode cX12_init 191 = .ok (.iconst 2, 1) := by decide +kernel
theorem dX12_init_192 : decode cX12_init 192 = .ok (.newarray .boolean, 2) := by decide +kernel
theorem dX12_init_194 : decode cX12_init 194 = .ok (.putfield 105, 3) := by decide +kernel
theorem dX12_init_197 : decode cX12_init 197 = .ok (.aload_n 0, 1) := by decide +kernel
theorem dX12_init_198 : decode cX12_init 198 = .ok (.getfield 47, 3) := by decide +kernel
theorem dX12_init_201 : decode cX12_init 201 = .ok (.iconst 0, 1) := by decide +kernel
theorem dX12_init_202 : decode cX12_init 202 = .ok (.ldc2_w 108, 3) := by decide +kernel
theorem dX12_init_205 : decode cX12_init 205 = .ok (.lastore, 1) := by decide +kernel
theorem dX12_init_206 : decode cX12_init 206 = .ok (.aload_n 0, 1) := by decide +kernel
theorem dX12_init_207 : decode cX12_init 207 = .ok (.getfield 47, 3) := by decide +kernel
theorem dX12_init_210 : decode cX12_init 210 = .ok (.iconst 1, 1) := by decide +kernel
theorem dX12_init_211 : decode cX12_init 211 = .ok (.ldc2_w 110, 3) := by decide +kernel
theorem dX12_init_214 : decode cX12_init 214 = .ok (.lastore, 1) := by decide +kernel
theorem dX12_init_215 : decode cX12_init 215 = .ok (.aload_n 0, 1) := by decide +kernel
theorem dX12_init_216 : decode cX12_init 216 = .ok (.getfield 47, 3) := by decide +kernel
theorem dX12_init_219 : decode cX12_init 219 = .ok (.iconst 2, 1) := by decide +kernel
theorem dX12_init_220 : decode cX12_init 220 = .ok (.ldc2_w 112, 3) := by decide +kernel
theorem dX12_init_223 : decode cX12_init 223 = .ok (.lastore, 1) := by decide +kernel
theorem dX12_init_224 : decode cX12_init 224 = .ok (.aload_n 0, 1) := by decide +kernel
theorem dX12_init_225 : decode cX12_init 225 = .ok (.getfield 47, 3) := by decide +kernel
theorem dX12_init_228 : decode cX12_init 228 = .ok (.iconst 3, 1) := by decide +kernel
theorem dX12_init_229 : decode cX12_init 229 = .ok (.ldc2_w 114, 3) := by decide +kernel
theorem dX12_init_232 : decode cX12_init 232 = .ok (.lastore, 1) := by decide +kernel
theorem dX12_init_233 : decode cX12_init 233 = .ok (.aload_n 0, 1) := by decide +kernel
theorem dX12_init_234 : decode cX12_init 234 = .ok (.getfield 47, 3) := by decide +kernel
theorem dX12_init_237 : decode cX12_init 237 = .ok (.iconst 4, 1) := by decide +kernel
theorem dX12_init_238 : decode cX12_init 238 = .ok (.ldc2_w 116, 3) := by decide +kernel
theorem dX12_init_241 : decode cX12_init 241 = .ok (.lastore, 1) := by decide +kernel
theorem dX12_init_242 : decode cX12_init 242 = .ok (.aload_n 0, 1) := by decide +kernel
theorem dX12_init_243 : decode cX12_init 243 = .ok (.getfield 47, 3) := by decide +kernel
theorem dX12_init_246 : decode cX12_init 246 = .ok (.iconst 5, 1) := by decide +kernel
theorem dX12_init_247 : decode cX12_init 247 = .ok (.ldc2_w 118, 3) := by decide +kernel
theorem dX12_init_250 : decode cX12_init 250 = .ok (.lastore, 1) := by decide +kernel
theorem dX12_init_251 : decode cX12_init 251 = .ok (.aload_n 0, 1) := by decide +kernel
theorem dX12_init_252 : decode cX12_init 252 = .ok (.getfield 47, 3) := by decide +kernel
theorem dX12_init_255 : decode cX12_init 255 = .ok (.bipush 6, 2) := by decide +kernel
theorem dX12_init_257 : decode cX12_init 257 = .ok (.ldc2_w 120, 3) := by decide +kernel
theorem dX12_init_260 : decode cX12_init 260 = .ok (.lastore, 1) := by decide +kernel
theorem dX12_init_261 : decode cX12_init 261 = .ok (.aload_n 0, 1) := by decide +kernel
theorem dX12_init_262 : decode cX12_init 262 = .ok (.getfield 47, 3) := by decide +kernel
theorem dX12_init_265 : decode cX12_init 265 = .ok (.bipush 7, 2) := by decide +kernel
theorem dX12_init_267 : decode cX12_init 267 = .ok (.ldc2_w 122, 3) := by decide +kernel
theorem dX12_init_270 : decode cX12_init 270 = .ok (.lastore, 1) := by decide +kernel
theorem dX12_init_271 : decode cX12_init 271 = .ok (.aload_n 0, 1) := by decide +kernel
theorem dX12_init_272 : decode cX12_init 272 = .ok (.getfield 47, 3) := by decide +kernel
theorem dX12_init_275 : decode cX12_init 275 = .ok (.bipush 8, 2) := by decide +kernel
theorem dX12_init_277 : decode cX12_init 277 = .ok (.ldc2_w 124, 3) := by decide +kernel
theorem dX12_init_280 : decode cX12_init 280 = .ok (.lastore, 1) := by decide +kernel
theorem dX12_init_281 : decode cX12_init 281 = .ok (.aload_n 0, 1) := by decide +kernel
theorem dX12_init_282 : decode cX12_init 282 = .ok (.getfield 47, 3) := by decide +kernel
theorem dX12_init_285 : decode cX12_init 285 = .ok (.bipush 9, 2) := by decide +kernel
theorem dX12_init_287 : decode cX12_init 287 = .ok (.ldc2_w 126, 3) := by decide +kernel
theorem dX12_init_290 : decode cX12_init 290 = .ok (.lastore, 1) := by decide +kernel
theorem dX12_init_291 : decode cX12_init 291 = .ok (.aload_n 0, 1) := by decide +kernel
theorem dX12_init_292 : decode cX12_init 292 = .ok (.getfield 47, 3) := by decide +kernel
theorem dX12_init_295 : decode cX12_init 295 = .ok (.bipush 10, 2) := by decide +kernel
theorem dX12_init_297 : decode cX12_init 297 = .ok (.ldc2_w 128, 3) := by decide +kernel
theorem dX12_init_300 : decode cX12_init 300 = .ok (.lastore, 1) := by decide +kernel
theorem dX12_init_301 : decode cX12_init 301 = .ok (.aload_n 0, 1) := by decide +kernel
theorem dX12_init_302 : decode cX12_init 302 = .ok (.getfield 47, 3) := by decide +kernel
theorem dX12_init_305 : decode cX12_init 305 = .ok (.bipush 11, 2) := by decide +kernel
theorem dX12_init_307 : decode cX12_init 307 = .ok (.ldc2_w 130, 3) := by decide +kernel
theorem dX12_init_310 : decode cX12_init 310 = .ok (.lastore, 1) := by decide +kernel
theorem dX12_init_311 : decode cX12_init 311 = .ok (.aload_n 0, 1) := by decide +kernel
theorem dX12_init_312 : decode cX12_init 312 = .ok (.getfield 47, 3) := by decide +kernel
theorem dX12_init_315 : decode cX12_init 315 = .ok (.bipush 12, 2) := by decide +kernel
theorem dX12_init_317 : decode cX12_init 317 = .ok (.ldc2_w 132, 3) := by decide +kernel
theorem dX12_init_320 : decode cX12_init 320 = .ok (.lastore, 1) := by decide +kernel
theorem dX12_init_321 : decode cX12_init 321 = .ok (.aload_n 0, 1) := by decide +kernel
theorem dX12_init_322 : decode cX12_init 322 = .ok (.getfield 47, 3) := by decide +kernel
theorem dX12_init_325 : decode cX12_init 325 = .ok (.bipush 13, 2) := by decide +kernel
theorem dX12_init_327 : decode cX12_init 327 = .ok (.ldc2_w 134, 3) := by decide +kernel
theorem dX12_init_330 : decode cX12_init 330 = .ok (.lastore, 1) := by decide +kernel
theorem dX12_init_331 : decode cX12_init 331 = .ok (.aload_n 0, 1) := by decide +kernel
theorem dX12_init_332 : decode cX12_init 332 = .ok (.getfield 47, 3) := by decide +kernel
theorem dX12_init_335 : decode cX12_init 335 = .ok (.bipush 14, 2) := by decide +kernel
theorem dX12_init_337 : decode cX12_init 337 = .ok (.ldc2_w 136, 3) := by decide +kernel
theorem dX12_init_340 : decode cX12_init 340 = .ok (.lastore, 1) := by decide +kernel
theorem dX12_init_341 : decode cX12_init 341 = .ok (.aload_n 0, 1) := by decide +kernel
theorem dX12_init_342 : decode cX12_init 342 = .ok (.getfield 47, 3) := by decide +kernel
theorem dX12_init_345 : decode cX12_init 345 = .ok (.bipush 15, 2) := by decide +kernel
theorem dX12_init_347 : decode cX12_init 347 = .ok (.ldc2_w 138, 3) := by decide +kernel
theorem dX12_init_350 : decode cX12_init 350 = .ok (.lastore, 1) := by decide +kernel
theorem dX12_init_351 : decode cX12_init 351 = .ok (.aload_n 0, 1) := by decide +kernel
theorem dX12_init_352 : decode cX12_init 352 = .ok (.getfield 47, 3) := by decide +kernel
theorem dX12_init_355 : decode cX12_init 355 = .ok (.bipush 16, 2) := by decide +kernel
theorem dX12_init_357 : decode cX12_init 357 = .ok (.ldc2_w 140, 3) := by decide +kernel
theorem dX12_init_360 : decode cX12_init 360 = .ok (.lastore, 1) := by decide +kernel
theorem dX12_init_361 : decode cX12_init 361 = .ok (.aload_n 0, 1) := by decide +kernel
theorem dX12_init_362 : decode cX12_init 362 = .ok (.getfield 47, 3) := by decide +kernel
theorem dX12_init_365 : decode cX12_init 365 = .ok (.bipush 17, 2) := by decide +kernel
theorem dX12_init_367 : decode cX12_init 367 = .ok (.ldc2_w 142, 3) := by decide +kernel
theorem dX12_init_370 : decode cX12_init 370 = .ok (.lastore, 1) := by decide +kernel
theorem dX12_init_371 : decode cX12_init 371 = .ok (.aload_n 0, 1) := by decide +kernel
theorem dX12_init_372 : decode cX12_init 372 = .ok (.getfield 47, 3) := by decide +kernel
theorem dX12_init_375 : decode cX12_init 375 = .ok (.bipush 18, 2) := by decide +kernel
theorem dX12_init_377 : decode cX12_init 377 = .ok (.ldc2_w 144, 3) := by decide +kernel
theorem dX12_init_380 : decode cX12_init 380 = .ok (.lastore, 1) := by decide +kernel
theorem dX12_init_381 : decode cX12_init 381 = .ok (.aload_n 0, 1) := by decide +kernel
theorem dX12_init_382 : decode cX12_init 382 = .ok (.getfield 47, 3) := by decide +kernel
theorem dX12_init_385 : decode cX12_init 385 = .ok (.bipush 19, 2) := by decide +kernel
theorem dX12_init_387 : decode cX12_init 387 = .ok (.ldc2_w 146, 3) := by decide +kernel
theorem dX12_init_390 : decode cX12_init 390 = .ok (.lastore, 1) := by decide +kernel
theorem dX12_init_391 : decode cX12_init 391 = .ok (.aload_n 0, 1) := by decide +kernel
theorem dX12_init_392 : decode cX12_init 392 = .ok (.getfield 47, 3) := by decide +kernel
theorem dX12_init_395 : decode cX12_init 395 = .ok (.bipush 20, 2) := by decide +kernel
theorem dX12_init_397 : decode cX12_init 397 = .ok (.ldc2_w 148, 3) := by decide +kernel
theorem dX12_init_400 : decode cX12_init 400 = .ok (.lastore, 1) := by decide +kernel
theorem dX12_init_401 : decode cX12_init 401 = .ok (.aload_n 0, 1) := by decide +kernel
theorem dX12_init_402 : decode cX12_init 402 = .ok (.getfield 47, 3) := by decide +kernel
theorem dX12_init_405 : decode cX12_init 405 = .ok (.bipush 21, 2) := by decide +kernel
theorem dX12_init_407 : decode cX12_init 407 = .ok (.ldc2_w 150, 3) := by decide +kernel
theorem dX12_init_410 : decode cX12_init 410 = .ok (.lastore, 1) := by decide +kernel
theorem dX12_init_411 : decode cX12_init 411 = .ok (.aload_n 0, 1) := by decide +kernel
theorem dX12_init_412 : decode cX12_init 412 = .ok (.getfield 47, 3) := by decide +kernel
theorem dX12_init_415 : decode cX12_init 415 = .ok (.bipush 22, 2) := by decide +kernel
theorem dX12_init_417 : decode cX12_init 417 = .ok (.ldc2_w 152, 3) := by decide +kernel
theorem dX12_init_420 : decode cX12_init 420 = .ok (.lastore, 1) := by decide +kernel
theorem dX12_init_421 : decode cX12_init 421 = .ok (.aload_n 0, 1) := by decide +kernel
theorem dX12_init_422 : decode cX12_init 422 = .ok (.getfield 47, 3) := by decide +kernel
theorem dX12_init_425 : decode cX12_init 425 = .ok (.bipush 23, 2) := by decide +kernel
theorem dX12_init_427 : decode cX12_init 427 = .ok (.ldc2_w 154, 3) := by decide +kernel
theorem dX12_init_430 : decode cX12_init 430 = .ok (.lastore, 1) := by decide +kernel
theorem dX12_init_431 : decode cX12_init 431 = .ok (.aload_n 0, 1) := by decide +kernel
theorem dX12_init_432 : decode cX12_init 432 = .ok (.getfield 47, 3) := by decide +kernel
theorem dX12_init_435 : decode cX12_init 435 = .ok (.bipush 24, 2) := by decide +kernel
theorem dX12_init_437 : decode cX12_init 437 = .ok (.ldc2_w 156, 3) := by decide +kernel
theorem dX12_init_440 : decode cX12_init 440 = .ok (.lastore, 1) := by decide +kernel
theorem dX12_init_441 : decode cX12_init 441 = .ok (.aload_n 0, 1) := by decide +kernel
theorem dX12_init_442 : decode cX12_init 442 = .ok (.getfield 47, 3) := by decide +kernel
theorem dX12_init_445 : decode cX12_init 445 = .ok (.bipush 25, 2) := by decide +kernel
theorem dX12_init_447 : decode cX12_init 447 = .ok (.ldc2_w 158, 3) := by decide +kernel
theorem dX12_init_450 : decode cX12_init 450 = .ok (.lastore, 1) := by decide +kernel
theorem dX12_init_451 : decode cX12_init 451 = .ok (.aload_n 0, 1) := by decide +kernel
theorem dX12_init_452 : decode cX12_init 452 = .ok (.getfield 47, 3) := by decide +kernel
theorem dX12_init_455 : decode cX12_init 455 = .ok (.bipush 26, 2) := by decide +kernel
theorem dX12_init_457 : decode cX12_init 457 = .ok (.ldc2_w 160, 3) := by decide +kernel
theorem dX12_init_460 : decode cX12_init 460 = .ok (.lastore, 1) := by decide +kernel
theorem dX12_init_461 : decode cX12_init 461 = .ok (.aload_n 0, 1) := by decide +kernel
theorem dX12_init_462 : decode cX12_init 462 = .ok (.getfield 47, 3) := by decide +kernel
theorem dX12_init_465 : decode cX12_init 465 = .ok (.bipush 27, 2) := by decide +kernel
theorem dX12_init_467 : decode cX12_init 467 = .ok (.ldc2_w 162, 3) := by decide +kernel
theorem dX12_init_470 : decode cX12_init 470 = .ok (.lastore, 1) := by decide +kernel
theorem dX12_init_471 : decode cX12_init 471 = .ok (.aload_n 0, 1) := by decide +kernel
theorem dX12_init_472 : decode cX12_init 472 = .ok (.getfield 47, 3) := by decide +kernel
theorem dX12_init_475 : decode cX12_init 475 = .ok (.bipush 28, 2) := by decide +kernel
theorem dX12_init_477 : decode cX12_init 477 = .ok (.ldc2_w 164, 3) := by decide +kernel
theorem dX12_init_480 : decode cX12_init 480 = .ok (.lastore, 1) := by decide +kernel
theorem dX12_init_481 : decode cX12_init 481 = .ok (.aload_n 0, 1) := by decide +kernel
theorem dX12_init_482 : decode cX12_init 482 = .ok (.getfield 47, 3) := by decide +kernel
theorem dX12_init_485 : decode cX12_init 485 = .ok (.bipush 29, 2) := by decide +kernel
theorem dX12_init_487 : decode cX12_init 487 = .ok (.ldc2_w 166, 3) := by decide +kernel
theorem dX12_init_490 : decode cX12_init 490 = .ok (.lastore, 1) := by decide +kernel
theorem dX12_init_491 : decode cX12_init 491 = .ok (.aload_n 0, 1) := by decide +kernel
theorem dX12_init_492 : decode cX12_init 492 = .ok (.getfield 47, 3) := by decide +kernel
theorem dX12_init_495 : decode cX12_init 495 = .ok (.bipush 30, 2) := by decide +kernel
theorem dX12_init_497 : decode cX12_init 497 = .ok (.ldc2_w 168, 3) := by decide +kernel
theorem dX12_init_500 : decode cX12_init 500 = .ok (.lastore, 1) := by decide +kernel
theorem dX12_init_501 : decode cX12_init 501 = .ok (.aload_n 0, 1) := by decide +kernel
theorem dX12_init_502 : decode cX12_init 502 = .ok (.getfield 47, 3) := by decide +kernel
theorem dX12_init_505 : decode cX12_init 505 = .ok (.bipush 31, 2) := by decide +kernel
theorem dX12_init_507 : decode cX12_init 507 = .ok (.ldc2_w 170, 3) := by decide +kernel
theorem dX12_init_510 : decode cX12_init 510 = .ok (.lastore, 1) := by decide +kernel
theorem dX12_init_511 : decode cX12_init 511 = .ok (.aload_n 0, 1) := by decide +kernel
theorem dX12_init_512 : decode cX12_init 512 = .ok (.getfield 47, 3) := by decide +kernel
theorem dX12_init_515 : decode cX12_init 515 = .ok (.bipush 32, 2) := by decide +kernel
theorem dX12_init_517 : decode cX12_init 517 = .ok (.ldc2_w 172, 3) := by decide +kernel
theorem dX12_init_520 : decode cX12_init 520 = .ok (.lastore, 1) := by decide +kernel
theorem dX12_init_521 : decode cX12_init 521 = .ok (.aload_n 0, 1) := by decide +kernel
theorem dX12_init_522 : decode cX12_init 522 = .ok (.getfield 47, 3) := by decide +kernel
theorem dX12_init_525 : decode cX12_init 525 = .ok (.bipush 33, 2) := by decide +kernel
theorem dX12_init_527 : decode cX12_init 527 = .ok (.ldc2_w 174, 3) := by decide +kernel
theorem dX12_init_530 : decode cX12_init 530 = .ok (.lastore, 1) := by decide +kernel
theorem dX12_init_531 : decode cX12_init 531 = .ok (.aload_n 0, 1) := by decide +kernel
theorem dX12_init_532 : decode cX12_init 532 = .ok (.getfield 47, 3) := by decide +kernel
theorem dX12_init_535 : decode cX12_init 535 = .ok (.bipush 34, 2) := by decide +kernel
theorem dX12_init_537 : decode cX12_init 537 = .ok (.ldc2_w 176, 3) := by decide +kernel
theorem dX12_init_540 : decode cX12_init 540 = .ok (.lastore, 1) := by decide +kernel
theorem dX12_init_541 : decode cX12_init 541 = .ok (.aload_n 0, 1) := by decide +kernel
theorem dX12_init_542 : decode cX12_init 542 = .ok (.getfield 47, 3) := by decide +kernel
theorem dX12_init_545 : decode cX12_init 545 = .ok (.bipush 35, 2) := by decide +kernel
theorem dX12_init_547 : decode cX12_init 547 = .ok (.ldc2_w 178, 3) := by decide +kernel
theorem dX12_init_550 : decode cX12_init 550 = .ok (.lastore, 1) := by decide +kernel
theorem dX12_init_551 : decode cX12_init 551 = .ok (.aload_n 0, 1) := by decide +kernel
theorem dX12_init_552 : decode cX12_init 552 = .ok (.invokevirtual 180, 3) := by decide +kernel
theorem dX12_init_555 : decode cX12_init 555 = .ok (.iconst 0, 1) := by decide +kernel
theorem dX12_init_556 : decode cX12_init 556 = .ok (.istore_n 1, 1) := by decide +kernel
theorem dX12_init_557 : decode cX12_init 557 = .ok (.iload_n 1, 1) := by decide +kernel
theorem dX12_init_558 : decode cX12_init 558 = .ok (.bipush 42, 2) := by decide +kernel
theorem dX12_init_560 : decode cX12_init 560 = .ok (.if_icmp .ge 21, 3) := by decide +kernel
theorem dX12_init_563 : decode cX12_init 563 = .ok (.aload_n 0, 1) := by decide +kernel
theorem dX12_init_564 : decode cX12_init 564 = .ok (.getfield 33, 3) := by decide +kernel
theorem dX12_init_567 : decode cX12_init 567 = .ok (.iload_n 1, 1) := by decide +kernel
theorem dX12_init_568 : decode cX12_init 568 = .ok (.aload_n 0, 1) := by decide +kernel
theorem dX12_init_569 : decode cX12_init 569 = .ok (.getfield 37, 3) := by decide +kernel
theorem dX12_init_572 : decode cX12_init 572 = .ok (.iload_n 1, 1) := by decide +kernel
theorem dX12_init_573 : decode cX12_init 573 = .ok (.iaload, 1) := by decide +kernel
theorem dX12_init_574 : decode cX12_init 574 = .ok (.iastore, 1) := by decide +kernel
theorem dX12_init_575 : decode cX12_init 575 = .ok (.iinc 1 1, 3) := by decide +kernel
theorem dX12_init_578 : decode cX12_init 578 = .ok (.goto (-21), 3) := by decide +kernel
theorem dX12_init_581 : decode cX12_init 581 = .ok (.return_, 1) := by decide +kernel
theorem dX12_clears_0 : decode cX12_clears 0 = .ok (.iconst 0, 1) := by decide +kernel
theorem dX12_clears_1 : decode cX12_clears 1 = .ok (.istore_n 1, 1) := by decide +kernel
theorem dX12_clears_2 : decode cX12_clears 2 = .ok (.iload_n 1, 1) := by decide +kernel
theorem dX12_clears_3 : decode cX12_clears 3 = .ok (.bipush 42, 2) := by decide +kernel
theorem dX12_clears_5 : decode cX12_clears 5 = .ok (.if_icmp .ge 16, 3) := by decide +kernel
theorem dX12_clears_8 : decode cX12_clears 8 = .ok (.aload_n 0, 1) := by decide +kernel
theorem dX12_clears_9 : decode cX12_clears 9 = .ok (.getfield 37, 3) := by decide +kernel
theorem dX12_clears_12 : decode cX12_clears 12 = .ok (.iload_n 1, 1) := by decide +kernel
theorem dX12_clears_13 : decode cX12_clears 13 = .ok (.iconst 0, 1) := by decide +kernel
theorem dX12_clears_14 : decode cX12_clears 14 = .ok (.iastore, 1) := by decide +kernel
theorem dX12_clears_15 : decode cX12_clears 15 = .ok (.iinc 1 1, 3) := by decide +kernel
theorem dX12_clears_18 : decode cX12_clears 18 = .ok (.goto (-16), 3) := by decide +kernel
theorem dX12_clears_21 : decode cX12_clears 21 = .ok (.return_, 1) := by decide +kernel
theorem dX12_peek_0 : decode cX12_peek 0 = .ok (.aload_n 0, 1) := by decide +kernel
theorem dX12_peek_1 : decode cX12_peek 1 = .ok (.getfield 21, 3) := by decide +kernel
theorem dX12_peek_4 : decode cX12_peek 4 = .ok (.aload_n 0, 1) := by decide +kernel
theorem dX12_peek_5 : decode cX12_peek 5 = .ok (.getfield 18, 3) := by decide +kernel
theorem dX12_peek_8 : decode cX12_peek 8 = .ok (.if_icmp .ge 19, 3) := by decide +kernel
theorem dX12_peek_11 : decode cX12_peek 11 = .ok (.aload_n 0, 1) := by decide +kernel
theorem dX12_peek_12 : decode cX12_peek 12 = .ok (.getfield 14, 3) := by decide +kernel
theorem dX12_peek_15 : decode cX12_peek 15 = .ok (.aload_n 0, 1) := by decide +kernel
theorem dX12_peek_16 : decode cX12_peek 16 = .ok (.getfield 21, 3) := by decide +kernel
theorem dX12_peek_19 : decode cX12_peek 19 = .ok (.baload, 1) := by decide +kernel
theorem dX12_peek_20 : decode cX12_peek 20 = .ok (.sipush 255, 3) := by decide +kernel
theorem dX12_peek_23 : decode cX12_peek 23 = .ok (.iand, 1) := by decide +kernel
theorem dX12_peek_24 : decode cX12_peek 24 = .ok (.goto 4, 3) := by decide +kernel
theorem dX12_peek_27 : decode cX12_peek 27 = .ok (.iconst (-1), 1) := by decide +kernel
theorem dX12_peek_28 : decode cX12_peek 28 = .ok (.ireturn, 1) := by decide +kernel
theorem dX12_isSmall_0 : decode cX12_isSmall 0 = .ok (.iload_n 0, 1) := by decide +kernel
theorem dX12_isSmall_1 : decode cX12_isSmall 1 = .ok (.bipush 97, 2) := by decide +kernel
theorem dX12_isSmall_3 : decode cX12_isSmall 3 = .ok (.if_icmp .lt 13, 3) := by decide +kernel
theorem dX12_isSmall_6 : decode cX12_isSmall 6 = .ok (.iload_n 0, 1) := by decide +kernel
theorem dX12_isSmall_7 : decode cX12_isSmall 7 = .ok (.bipush 122, 2) := by decide +kernel
theorem dX12_isSmall_9 : decode cX12_isSmall 9 = .ok (.if_icmp .gt 7, 3) := by decide +kernel
theorem dX12_isSmall_12 : decode cX12_isSmall 12 = .ok (.iconst 1, 1) := by decide +kernel
theorem dX12_isSmall_13 : decode cX12_isSmall 13 = .ok (.goto 4, 3) := by decide +kernel
theorem dX12_isSmall_16 : decode cX12_isSmall 16 = .ok (.iconst 0, 1) := by decide +kernel
theorem dX12_isSmall_17 : decode cX12_isSmall 17 = .ok (.ireturn, 1) := by decide +kernel
theorem dX12_isDigit_0 : decode cX12_isDigit 0 = .ok (.iload_n 0, 1) := by decide +kernel
theorem dX12_isDigit_1 : decode cX12_isDigit 1 = .ok (.bipush 48, 2) := by decide +kernel
theorem dX12_isDigit_3 : decode cX12_isDigit 3 = .ok (.if_icmp .lt 13, 3) := by decide +kernel
theorem dX12_isDigit_6 : decode cX12_isDigit 6 = .ok (.iload_n 0, 1) := by decide +kernel
theorem dX12_isDigit_7 : decode cX12_isDigit 7 = .ok (.bipush 57, 2) := by decide +kernel
theorem dX12_isDigit_9 : decode cX12_isDigit 9 = .ok (.if_icmp .gt 7, 3) := by decide +kernel
theorem dX12_isDigit_12 : decode cX12_isDigit 12 = .ok (.iconst 1, 1) := by decide +kernel
theorem dX12_isDigit_13 : decode cX12_isDigit 13 = .ok (.goto 4, 3) := by decide +kernel
theorem dX12_isDigit_16 : decode cX12_isDigit 16 = .ok (.iconst 0, 1) := by decide +kernel
theorem dX12_isDigit_17 : decode cX12_isDigit 17 = .ok (.ireturn, 1) := by decide +kernel
theorem dX12_next_0 : decode cX12_next 0 = .ok (.aload_n 0, 1) := by decide +kernel
theorem dX12_next_1 : decode cX12_next 1 = .ok (.invokevirtual 183, 3) := by decide +kernel
theorem dX12_next_4 : decode cX12_next 4 = .ok (.bipush 32, 2) := by decide +kernel
theorem dX12_next_6 : decode cX12_next 6 = .ok (.if_icmp .eq 12, 3) := by decide +kernel
theorem dX12_next_9 : decode cX12_next 9 = .ok (.aload_n 0, 1) := by decide +kernel
theorem dX12_next_10 : decode cX12_next 10 = .ok (.invokevirtual 183, 3) := by decide +kernel
theorem dX12_next_13 : decode cX12_next 13 = .ok (.bipush 10, 2) := by decide +kernel
theorem dX12_next_15 : decode cX12_next 15 = .ok (.if_icmp .ne 16, 3) := by decide +kernel
theorem dX12_next_18 : decode cX12_next 18 = .ok (.aload_n 0, 1) := by decide +kernel
theorem dX12_next_19 : decode cX12_next 19 = .ok (.dup, 1) := by decide +kernel
theorem dX12_next_20 : decode cX12_next 20 = .ok (.getfield 21, 3) := by decide +kernel
theorem dX12_next_23 : decode cX12_next 23 = .ok (.iconst 1, 1) := by decide +kernel
theorem dX12_next_24 : decode cX12_next 24 = .ok (.iadd, 1) := by decide +kernel
theorem dX12_next_25 : decode cX12_next 25 = .ok (.putfield 21, 3) := by decide +kernel
theorem dX12_next_28 : decode cX12_next 28 = .ok (.goto (-28), 3) := by decide +kernel
theorem dX12_next_31 : decode cX12_next 31 = .ok (.aload_n 0, 1) := by decide +kernel
theorem dX12_next_32 : decode cX12_next 32 = .ok (.aload_n 0, 1) := by decide +kernel
theorem dX12_next_33 : decode cX12_next 33 = .ok (.getfield 21, 3) := by decide +kernel
theorem dX12_next_36 : decode cX12_next 36 = .ok (.putfield 187, 3) := by decide +kernel
theorem dX12_next_39 : decode cX12_next 39 = .ok (.aload_n 0, 1) := by decide +kernel
theorem dX12_next_40 : decode cX12_next 40 = .ok (.iconst 0, 1) := by decide +kernel
theorem dX12_next_41 : decode cX12_next 41 = .ok (.putfield 190, 3) := by decide +kernel
theorem dX12_next_44 : decode cX12_next 44 = .ok (.aload_n 0, 1) := by decide +kernel
theorem dX12_next_45 : decode cX12_next 45 = .ok (.getfield 18, 3) := by decide +kernel
theorem dX12_next_48 : decode cX12_next 48 = .ok (.aload_n 0, 1) := by decide +kernel
theorem dX12_next_49 : decode cX12_next 49 = .ok (.getfield 24, 3) := by decide +kernel
theorem dX12_next_52 : decode cX12_next 52 = .ok (.if_icmp .le 28, 3) := by decide +kernel
theorem dX12_next_55 : decode cX12_next 55 = .ok (.aload_n 0, 1) := by decide +kernel
theorem dX12_next_56 : decode cX12_next 56 = .ok (.getfield 21, 3) := by decide +kernel
theorem dX12_next_59 : decode cX12_next 59 = .ok (.aload_n 0, 1) := by decide +kernel
theorem dX12_next_60 : decode cX12_next 60 = .ok (.getfield 24, 3) := by decide +kernel
theorem dX12_next_63 : decode cX12_next 63 = .ok (.if_icmp .lt 17, 3) := by decide +kernel
theorem dX12_next_66 : decode cX12_next 66 = .ok (.aload_n 0, 1) := by decide +kernel
theorem dX12_next_67 : decode cX12_next 67 = .ok (.aload_n 0, 1) := by decide +kernel
theorem dX12_next_68 : decode cX12_next 68 = .ok (.getfield 24, 3) := by decide +kernel
theorem dX12_next_71 : decode cX12_next 71 = .ok (.putfield 187, 3) := by decide +kernel
theorem dX12_next_74 : decode cX12_next 74 = .ok (.aload_n 0, 1) := by decide +kernel
theorem dX12_next_75 : decode cX12_next 75 = .ok (.iconst 4, 1) := by decide +kernel
theorem dX12_next_76 : decode cX12_next 76 = .ok (.putfield 193, 3) := by decide +kernel
theorem dX12_next_79 : decode cX12_next 79 = .ok (.return_, 1) := by decide +kernel
theorem dX12_next_80 : decode cX12_next 80 = .ok (.aload_n 0, 1) := by decide +kernel
theorem dX12_next_81 : decode cX12_next 81 = .ok (.invokevirtual 183, 3) := by decide +kernel
theorem dX12_next_84 : decode cX12_next 84 = .ok (.istore_n 1, 1) := by decide +kernel
theorem dX12_next_85 : decode cX12_next 85 = .ok (.iload_n 1, 1) := by decide +kernel
theorem dX12_next_86 : decode cX12_next 86 = .ok (.ifCond .ge 9, 3) := by decide +kernel
theorem dX12_next_89 : decode cX12_next 89 = .ok (.aload_n 0, 1) := by decide +kernel
theorem dX12_next_90 : decode cX12_next 90 = .ok (.iconst 0, 1) := by decide +kernel
theorem dX12_next_91 : decode cX12_next 91 = .ok (.putfield 193, 3) := by decide +kernel
theorem dX12_next_94 : decode cX12_next 94 = .ok (.return_, 1) := by decide +kernel
theorem dX12_next_95 : decode cX12_next 95 = .ok (.iload_n 1, 1) := by decide +kernel
theorem dX12_next_96 : decode cX12_next 96 = .ok (.invokestatic 196, 3) := by decide +kernel
theorem dX12_next_99 : decode cX12_next 99 = .ok (.ifCond .ne 65, 3) := by decide +kernel
theorem dX12_next_102 : decode cX12_next 102 = .ok (.iload_n 1, 1) := by decide +kernel
theorem dX12_next_103 : decode cX12_next 103 = .ok (.invokestatic 200, 3) := by decide +kernel
theorem dX12_next_106 : decode cX12_next 106 = .ok (.ifCond .ne 58, 3) := by decide +kernel
theorem dX12_next_109 : decode cX12_next 109 = .ok (.aload_n 0, 1) := by decide +kernel
theorem dX12_next_110 : decode cX12_next 110 = .ok (.iload_n 1, 1) := by decide +kernel
theorem dX12_next_111 : decode cX12_next 111 = .ok (.bipush 59, 2) := by decide +kernel
theorem dX12_next_113 : decode cX12_next 113 = .ok (.if_icmp .eq 27, 3) := by decide +kernel
theorem dX12_next_116 : decode cX12_next 116 = .ok (.iload_n 1, 1) := by decide +kernel
theorem dX12_next_117 : decode cX12_next 117 = .ok (.bipush 40, 2) := by decide +kernel
theorem dX12_next_119 : decode cX12_next 119 = .ok (.if_icmp .eq 21, 3) := by decide +kernel
theorem dX12_next_122 : decode cX12_next 122 = .ok (.iload_n 1, 1) := by decide +kernel
theorem dX12_next_123 : decode cX12_next 123 = .ok (.bipush 41, 2) := by decide +kernel
theorem dX12_next_125 : decode cX12_next 125 = .ok (.if_icmp .eq 15, 3) := by decide +kernel
theorem dX12_next_128 : decode cX12_next 128 = .ok (.iload_n 1, 1) := by decide +kernel
theorem dX12_next_129 : decode cX12_next 129 = .ok (.bipush 60, 2) := by decide +kernel
theorem dX12_next_131 : decode cX12_next 131 = .ok (.if_icmp .lt 13, 3) := by decide +kernel
theorem dX12_next_134 : decode cX12_next 134 = .ok (.iload_n 1, 1) := by decide +kernel
theorem dX12_next_135 : decode cX12_next 135 = .ok (.bipush 62, 2) := by decide +kernel
theorem dX12_next_137 : decode cX12_next 137 = .ok (.if_icmp .gt 7, 3) := by decide +kernel
theorem dX12_next_140 : decode cX12_next 140 = .ok (.iconst 3, 1) := by decide +kernel
theorem dX12_next_141 : decode cX12_next 141 = .ok (.goto 4, 3) := by decide +kernel
theorem dX12_next_144 : decode cX12_next 144 = .ok (.iconst 4, 1) := by decide +kernel
theorem dX12_next_145 : decode cX12_next 145 = .ok (.putfield 193, 3) := by decide +kernel
theorem dX12_next_148 : decode cX12_next 148 = .ok (.aload_n 0, 1) := by decide +kernel
theorem dX12_next_149 : decode cX12_next 149 = .ok (.iload_n 1, 1) := by decide +kernel
theorem dX12_next_150 : decode cX12_next 150 = .ok (.putfield 203, 3) := by decide +kernel
theorem dX12_next_153 : decode cX12_next 153 = .ok (.aload_n 0, 1) := by decide +kernel
theorem dX12_next_154 : decode cX12_next 154 = .ok (.dup, 1) := by decide +kernel
theorem dX12_next_155 : decode cX12_next 155 = .ok (.getfield 21, 3) := by decide +kernel
theorem dX12_next_158 : decode cX12_next 158 = .ok (.iconst 1, 1) := by decide +kernel
theorem dX12_next_159 : decode cX12_next 159 = .ok (.iadd, 1) := by decide +kernel
theorem dX12_next_160 : decode cX12_next 160 = .ok (.putfield 21, 3) := by decide +kernel
theorem dX12_next_163 : decode cX12_next 163 = .ok (.return_, 1) := by decide +kernel
theorem dX12_next_164 : decode cX12_next 164 = .ok (.iload_n 1, 1) := by decide +kernel
theorem dX12_next_165 : decode cX12_next 165 = .ok (.invokestatic 196, 3) := by decide +kernel
theorem dX12_next_168 : decode cX12_next 168 = .ok (.istore_n 2, 1) := by decide +kernel
theorem dX12_next_169 : decode cX12_next 169 = .ok (.iconst 1, 1) := by decide +kernel
theorem dX12_next_170 : decode cX12_next 170 = .ok (.istore_n 3, 1) := by decide +kernel
theorem dX12_next_171 : decode cX12_next 171 = .ok (.aload_n 0, 1) := by decide +kernel
theorem dX12_next_172 : decode cX12_next 172 = .ok (.lconst 0, 1) := by decide +kernel
theorem dX12_next_173 : decode cX12_next 173 = .ok (.putfield 206, 3) := by decide +kernel
theorem dX12_next_176 : decode cX12_next 176 = .ok (.aload_n 0, 1) := by decide +kernel
theorem dX12_next_177 : decode cX12_next 177 = .ok (.iconst 0, 1) := by decide +kernel
theorem dX12_next_178 : decode cX12_next 178 = .ok (.putfield 203, 3) := by decide +kernel
theorem dX12_next_181 : decode cX12_next 181 = .ok (.aload_n 0, 1) := by decide +kernel
theorem dX12_next_182 : decode cX12_next 182 = .ok (.invokevirtual 183, 3) := by decide +kernel
theorem dX12_next_185 : decode cX12_next 185 = .ok (.invokestatic 196, 3) := by decide +kernel
theorem dX12_next_188 : decode cX12_next 188 = .ok (.ifCond .ne 13, 3) := by decide +kernel
theorem dX12_next_191 : decode cX12_next 191 = .ok (.aload_n 0, 1) := by decide +kernel
theorem dX12_next_192 : decode cX12_next 192 = .ok (.invokevirtual 183, 3) := by decide +kernel
theorem dX12_next_195 : decode cX12_next 195 = .ok (.invokestatic 200, 3) := by decide +kernel
theorem dX12_next_198 : decode cX12_next 198 = .ok (.ifCond .eq 100, 3) := by decide +kernel
theorem dX12_next_201 : decode cX12_next 201 = .ok (.iload_n 3, 1) := by decide +kernel
theorem dX12_next_202 : decode cX12_next 202 = .ok (.ifCond .eq 18, 3) := by decide +kernel
theorem dX12_next_205 : decode cX12_next 205 = .ok (.aload_n 0, 1) := by decide +kernel
theorem dX12_next_206 : decode cX12_next 206 = .ok (.invokevirtual 183, 3) := by decide +kernel
theorem dX12_next_209 : decode cX12_next 209 = .ok (.invokestatic 196, 3) := by decide +kernel
theorem dX12_next_212 : decode cX12_next 212 = .ok (.iload_n 2, 1) := by decide +kernel
theorem dX12_next_213 : decode cX12_next 213 = .ok (.if_icmp .ne 7, 3) := by decide +kernel
theorem dX12_next_216 : decode cX12_next 216 = .ok (.iconst 1, 1) := by decide +kernel
theorem dX12_next_217 : decode cX12_next 217 = .ok (.goto 4, 3) := by decide +kernel
theorem dX12_next_220 : decode cX12_next 220 = .ok (.iconst 0, 1) := by decide +kernel
theorem dX12_next_221 : decode cX12_next 221 = .ok (.istore_n 3, 1) := by decide +kernel
theorem dX12_next_222 : decode cX12_next 222 = .ok (.aload_n 0, 1) := by decide +kernel
theorem dX12_next_223 : decode cX12_next 223 = .ok (.getfield 190, 3) := by decide +kernel
theorem dX12_next_226 : decode cX12_next 226 = .ok (.bipush 7, 2) := by decide +kernel
theorem dX12_next_228 : decode cX12_next 228 = .ok (.if_icmp .ge 20, 3) := by decide +kernel
theorem dX12_next_231 : decode cX12_next 231 = .ok (.aload_n 0, 1) := by decide +kernel
theorem dX12_next_232 : decode cX12_next 232 = .ok (.aload_n 0, 1) := by decide +kernel
theorem dX12_next_233 : decode cX12_next 233 = .ok (.getfield 206, 3) := by decide +kernel
theorem dX12_next_236 : decode cX12_next 236 = .ok (.bipush 8, 2) := by decide +kernel
theorem dX12_next_238 : decode cX12_next 238 = .ok (.lshl, 1) := by decide +kernel
theorem dX12_next_239 : decode cX12_next 239 = .ok (.aload_n 0, 1) := by decide +kernel
theorem dX12_next_240 : decode cX12_next 240 = .ok (.invokevirtual 183, 3) := by decide +kernel
theorem dX12_next_243 : decode cX12_next 243 = .ok (.i2l, 1) := by decide +kernel
theorem dX12_next_244 : decode cX12_next 244 = .ok (.lor, 1) := by decide +kernel
theorem dX12_next_245 : decode cX12_next 245 = .ok (.putfield 206, 3) := by decide +kernel
theorem dX12_next_248 : decode cX12_next 248 = .ok (.aload_n 0, 1) := by decide +kernel
theorem dX12_next_249 : decode cX12_next 249 = .ok (.getfield 190, 3) := by decide +kernel
theorem dX12_next_252 : decode cX12_next 252 = .ok (.iconst 3, 1) := by decide +kernel
theorem dX12_next_253 : decode cX12_next 253 = .ok (.if_icmp .ge 22, 3) := by decide +kernel
theorem dX12_next_256 : decode cX12_next 256 = .ok (.aload_n 0, 1) := by decide +kernel
