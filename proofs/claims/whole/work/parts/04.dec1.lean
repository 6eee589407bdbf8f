theorem dX0_init_0 : decode cX0_init 0 = .ok (.aload_n 0, 1) := by decide +kernel
theorem dX0_init_1 : decode cX0_init 1 = .ok (.invokespecial 3, 3) := by decide +kernel
theorem dX0_init_4 : decode cX0_init 4 = .ok (.aload_n 0, 1) := by decide +kernel
theorem dX0_init_5 : decode cX0_init 5 = .ok (.bipush 40, 2) := by decide +kernel
theorem dX0_init_7 : decode cX0_init 7 = .ok (.newarray .int, 2) := by decide +kernel
theorem dX0_init_9 : decode cX0_init 9 = .ok (.putfield 9, 3) := by decide +kernel
theorem dX0_init_12 : decode cX0_init 12 = .ok (.aload_n 0, 1) := by decide +kernel
theorem dX0_init_13 : decode cX0_init 13 = .ok (.bipush 40, 2) := by decide +kernel
theorem dX0_init_15 : decode cX0_init 15 = .ok (.newarray .int, 2) := by decide +kernel
theorem dX0_init_17 : decode cX0_init 17 = .ok (.putfield 15, 3) := by decide +kernel
theorem dX0_init_20 : decode cX0_init 20 = .ok (.aload_n 0, 1) := by decide +kernel
theorem dX0_init_21 : decode cX0_init 21 = .ok (.bipush 40, 2) := by decide +kernel
theorem dX0_init_23 : decode cX0_init 23 = .ok (.newarray .int, 2) := by decide +kernel
theorem dX0_init_25 : decode cX0_init 25 = .ok (.putfield 18, 3) := by decide +kernel
theorem dX0_init_28 : decode cX0_init 28 = .ok (.aload_n 0, 1) := by decide +kernel
theorem dX0_init_29 : decode cX0_init 29 = .ok (.bipush 40, 2) := by decide +kernel
theorem dX0_init_31 : decode cX0_init 31 = .ok (.newarray .int, 2) := by decide +kernel
theorem dX0_init_33 : decode cX0_init 33 = .ok (.putfield 21, 3) := by decide +kernel
theorem dX0_init_36 : decode cX0_init 36 = .ok (.return_, 1) := by decide +kernel
theorem dX0_readFrom_0 : decode cX0_readFrom 0 = .ok (.aload_n 0, 1) := by decide +kernel
theorem dX0_readFrom_1 : decode cX0_readFrom 1 = .ok (.iconst 0, 1) := by decide +kernel
theorem dX0_readFrom_2 : decode cX0_readFrom 2 = .ok (.putfield 24, 3) := by decide +kernel
theorem dX0_readFrom_5 : decode cX0_readFrom 5 = .ok (.aload_n 1, 1) := by decide +kernel
theorem dX0_readFrom_6 : decode cX0_readFrom 6 = .ok (.sipush 400, 3) := by decide +kernel
theorem dX0_readFrom_9 : decode cX0_readFrom 9 = .ok (.invokevirtual 28, 3) := by decide +kernel
theorem dX0_readFrom_12 : decode cX0_readFrom 12 = .ok (.iconst 0, 1) := by decide +kernel
theorem dX0_readFrom_13 : decode cX0_readFrom 13 = .ok (.istore_n 3, 1) := by decide +kernel
theorem dX0_readFrom_14 : decode cX0_readFrom 14 = .ok (.iload_n 3, 1) := by decide +kernel
theorem dX0_readFrom_15 : decode cX0_readFrom 15 = .ok (.sipush 400, 3) := by decide +kernel
theorem dX0_readFrom_18 : decode cX0_readFrom 18 = .ok (.if_icmp .ge 28, 3) := by decide +kernel
theorem dX0_readFrom_21 : decode cX0_readFrom 21 = .ok (.aload_n 1, 1) := by decide +kernel
theorem dX0_readFrom_22 : decode cX0_readFrom 22 = .ok (.invokevirtual 34, 3) := by decide +kernel
theorem dX0_readFrom_25 : decode cX0_readFrom 25 = .ok (.ifCond .eq 21, 3) := by decide +kernel
theorem dX0_readFrom_28 : decode cX0_readFrom 28 = .ok (.aload_n 0, 1) := by decide +kernel
theorem dX0_readFrom_29 : decode cX0_readFrom 29 = .ok (.aload_n 1, 1) := by decide +kernel
theorem dX0_readFrom_30 : decode cX0_readFrom 30 = .ok (.aload_n 2, 1) := by decide +kernel
theorem dX0_readFrom_31 : decode cX0_readFrom 31 = .ok (.invokevirtual 38, 3) := by decide +kernel
theorem dX0_readFrom_34 : decode cX0_readFrom 34 = .ok (.aload_n 1, 1) := by decide +kernel
theorem dX0_readFrom_35 : decode cX0_readFrom 35 = .ok (.bipush 59, 2) := by decide +kernel
theorem dX0_readFrom_37 : decode cX0_readFrom 37 = .ok (.invokevirtual 42, 3) := by decide +kernel
theorem dX0_readFrom_40 : decode cX0_readFrom 40 = .ok (.iinc 3 1, 3) := by decide +kernel
theorem dX0_readFrom_43 : decode cX0_readFrom 43 = .ok (.goto (-29), 3) := by decide +kernel
theorem dX0_readFrom_46 : decode cX0_readFrom 46 = .ok (.aload_n 1, 1) := by decide +kernel
theorem dX0_readFrom_47 : decode cX0_readFrom 47 = .ok (.invokevirtual 46, 3) := by decide +kernel
theorem dX0_readFrom_50 : decode cX0_readFrom 50 = .ok (.ireturn, 1) := by decide +kernel
theorem dX0_readLine_0 : decode cX0_readLine 0 = .ok (.aload_n 1, 1) := by decide +kernel
theorem dX0_readLine_1 : decode cX0_readLine 1 = .ok (.bipush 20, 2) := by decide +kernel
theorem dX0_readLine_3 : decode cX0_readLine 3 = .ok (.iconst 4, 1) := by decide +kernel
theorem dX0_readLine_4 : decode cX0_readLine 4 = .ok (.invokevirtual 49, 3) := by decide +kernel
theorem dX0_readLine_7 : decode cX0_readLine 7 = .ok (.ifCond .eq 7, 3) := by decide +kernel
theorem dX0_readLine_10 : decode cX0_readLine 10 = .ok (.iconst (-1), 1) := by decide +kernel
theorem dX0_readLine_11 : decode cX0_readLine 11 = .ok (.goto 8, 3) := by decide +kernel
theorem dX0_readLine_14 : decode cX0_readLine 14 = .ok (.aload_n 1, 1) := by decide +kernel
theorem dX0_readLine_15 : decode cX0_readLine 15 = .ok (.aload_n 2, 1) := by decide +kernel
theorem dX0_readLine_16 : decode cX0_readLine 16 = .ok (.invokevirtual 53, 3) := by decide +kernel
theorem dX0_readLine_19 : decode cX0_readLine 19 = .ok (.istore_n 3, 1) := by decide +kernel
theorem dX0_readLine_20 : decode cX0_readLine 20 = .ok (.aload_n 1, 1) := by decide +kernel
theorem dX0_readLine_21 : decode cX0_readLine 21 = .ok (.getfield 57, 3) := by decide +kernel
theorem dX0_readLine_24 : decode cX0_readLine 24 = .ok (.ifCond .ne 17, 3) := by decide +kernel
theorem dX0_readLine_27 : decode cX0_readLine 27 = .ok (.aload_n 0, 1) := by decide +kernel
theorem dX0_readLine_28 : decode cX0_readLine 28 = .ok (.getfield 24, 3) := by decide +kernel
theorem dX0_readLine_31 : decode cX0_readLine 31 = .ok (.bipush 40, 2) := by decide +kernel
theorem dX0_readLine_33 : decode cX0_readLine 33 = .ok (.if_icmp .lt 8, 3) := by decide +kernel
theorem dX0_readLine_36 : decode cX0_readLine 36 = .ok (.aload_n 1, 1) := by decide +kernel
theorem dX0_readLine_37 : decode cX0_readLine 37 = .ok (.iconst 4, 1) := by decide +kernel
theorem dX0_readLine_38 : decode cX0_readLine 38 = .ok (.invokevirtual 60, 3) := by decide +kernel
theorem dX0_readLine_41 : decode cX0_readLine 41 = .ok (.aload_n 1, 1) := by decide +kernel
theorem dX0_readLine_42 : decode cX0_readLine 42 = .ok (.getfield 57, 3) := by decide +kernel
theorem dX0_readLine_45 : decode cX0_readLine 45 = .ok (.ifCond .eq 4, 3) := by decide +kernel
theorem dX0_readLine_48 : decode cX0_readLine 48 = .ok (.return_, 1) := by decide +kernel
theorem dX0_readLine_49 : decode cX0_readLine 49 = .ok (.iload_n 3, 1) := by decide +kernel
theorem dX0_readLine_50 : decode cX0_readLine 50 = .ok (.iconst (-1), 1) := by decide +kernel
theorem dX0_readLine_51 : decode cX0_readLine 51 = .ok (.if_icmp .ne 16, 3) := by decide +kernel
theorem dX0_readLine_54 : decode cX0_readLine 54 = .ok (.aload_n 0, 1) := by decide +kernel
theorem dX0_readLine_55 : decode cX0_readLine 55 = .ok (.aload_n 1, 1) := by decide +kernel
theorem dX0_readLine_56 : decode cX0_readLine 56 = .ok (.aload_n 2, 1) := by decide +kernel
theorem dX0_readLine_57 : decode cX0_readLine 57 = .ok (.aload_n 0, 1) := by decide +kernel
theorem dX0_readLine_58 : decode cX0_readLine 58 = .ok (.getfield 24, 3) := by decide +kernel
theorem dX0_readLine_61 : decode cX0_readLine 61 = .ok (.invokevirtual 63, 3) := by decide +kernel
theorem dX0_readLine_64 : decode cX0_readLine 64 = .ok (.goto 27, 3) := by decide +kernel
theorem dX0_readLine_67 : decode cX0_readLine 67 = .ok (.aload_n 1, 1) := by decide +kernel
theorem dX0_readLine_68 : decode cX0_readLine 68 = .ok (.invokevirtual 67, 3) := by decide +kernel
theorem dX0_readLine_71 : decode cX0_readLine 71 = .ok (.aload_n 0, 1) := by decide +kernel
theorem dX0_readLine_72 : decode cX0_readLine 72 = .ok (.aload_n 1, 1) := by decide +kernel
theorem dX0_readLine_73 : decode cX0_readLine 73 = .ok (.aload_n 2, 1) := by decide +kernel
theorem dX0_readLine_74 : decode cX0_readLine 74 = .ok (.aload_n 0, 1) := by decide +kernel
theorem dX0_readLine_75 : decode cX0_readLine 75 = .ok (.getfield 24, 3) := by decide +kernel
theorem dX0_readLine_78 : decode cX0_readLine 78 = .ok (.invokevirtual 70, 3) := by decide +kernel
theorem dX0_readLine_81 : decode cX0_readLine 81 = .ok (.aload_n 0, 1) := by decide +kernel
theorem dX0_readLine_82 : decode cX0_readLine 82 = .ok (.getfield 15, 3) := by decide +kernel
theorem dX0_readLine_85 : decode cX0_readLine 85 = .ok (.aload_n 0, 1) := by decide +kernel
theorem dX0_readLine_86 : decode cX0_readLine 86 = .ok (.getfield 24, 3) := by decide +kernel
theorem dX0_readLine_89 : decode cX0_readLine 89 = .ok (.iload_n 3, 1) := by decide +kernel
theorem dX0_readLine_90 : decode cX0_readLine 90 = .ok (.iastore, 1) := by decide +kernel
theorem dX0_readLine_91 : decode cX0_readLine 91 = .ok (.aload_n 0, 1) := by decide +kernel
theorem dX0_readLine_92 : decode cX0_readLine 92 = .ok (.dup, 1) := by decide +kernel
theorem dX0_readLine_93 : decode cX0_readLine 93 = .ok (.getfield 24, 3) := by decide +kernel
theorem dX0_readLine_96 : decode cX0_readLine 96 = .ok (.iconst 1, 1) := by decide +kernel
theorem dX0_readLine_97 : decode cX0_readLine 97 = .ok (.iadd, 1) := by decide +kernel
theorem dX0_readLine_98 : decode cX0_readLine 98 = .ok (.putfield 24, 3) := by decide +kernel
theorem dX0_readLine_101 : decode cX0_readLine 101 = .ok (.return_, 1) := by decide +kernel
theorem dX0_readPlain_0 : decode cX0_readPlain 0 = .ok (.aload_n 0, 1) := by decide +kernel
theorem dX0_readPlain_1 : decode cX0_readPlain 1 = .ok (.getfield 9, 3) := by decide +kernel
theorem dX0_readPlain_4 : decode cX0_readPlain 4 = .ok (.iload_n 3, 1) := by decide +kernel
theorem dX0_readPlain_5 : decode cX0_readPlain 5 = .ok (.bipush 20, 2) := by decide +kernel
theorem dX0_readPlain_7 : decode cX0_readPlain 7 = .ok (.aload_n 1, 1) := by decide +kernel
theorem dX0_readPlain_8 : decode cX0_readPlain 8 = .ok (.bipush 20, 2) := by decide +kernel
theorem dX0_readPlain_10 : decode cX0_readPlain 10 = .ok (.iconst 4, 1) := by decide +kernel
theorem dX0_readPlain_11 : decode cX0_readPlain 11 = .ok (.invokevirtual 73, 3) := by decide +kernel
theorem dX0_readPlain_14 : decode cX0_readPlain 14 = .ok (.iadd, 1) := by decide +kernel
theorem dX0_readPlain_15 : decode cX0_readPlain 15 = .ok (.iastore, 1) := by decide +kernel
theorem dX0_readPlain_16 : decode cX0_readPlain 16 = .ok (.aload_n 0, 1) := by decide +kernel
theorem dX0_readPlain_17 : decode cX0_readPlain 17 = .ok (.getfield 9, 3) := by decide +kernel
theorem dX0_readPlain_20 : decode cX0_readPlain 20 = .ok (.iload_n 3, 1) := by decide +kernel
theorem dX0_readPlain_21 : decode cX0_readPlain 21 = .ok (.iaload, 1) := by decide +kernel
theorem dX0_readPlain_22 : decode cX0_readPlain 22 = .ok (.bipush 21, 2) := by decide +kernel
theorem dX0_readPlain_24 : decode cX0_readPlain 24 = .ok (.if_icmp .eq 14, 3) := by decide +kernel
theorem dX0_readPlain_27 : decode cX0_readPlain 27 = .ok (.aload_n 0, 1) := by decide +kernel
theorem dX0_readPlain_28 : decode cX0_readPlain 28 = .ok (.getfield 9, 3) := by decide +kernel
theorem dX0_readPlain_31 : decode cX0_readPlain 31 = .ok (.iload_n 3, 1) := by decide +kernel
theorem dX0_readPlain_32 : decode cX0_readPlain 32 = .ok (.iaload, 1) := by decide +kernel
theorem dX0_readPlain_33 : decode cX0_readPlain 33 = .ok (.bipush 22, 2) := by decide +kernel
theorem dX0_readPlain_35 : decode cX0_readPlain 35 = .ok (.if_icmp .ne 7, 3) := by decide +kernel
theorem dX0_readPlain_38 : decode cX0_readPlain 38 = .ok (.iconst 1, 1) := by decide +kernel
theorem dX0_readPlain_39 : decode cX0_readPlain 39 = .ok (.goto 4, 3) := by decide +kernel
theorem dX0_readPlain_42 : decode cX0_readPlain 42 = .ok (.iconst 0, 1) := by decide +kernel
theorem dX0_readPlain_43 : decode cX0_readPlain 43 = .ok (.istore 4, 2) := by decide +kernel
theorem dX0_readPlain_45 : decode cX0_readPlain 45 = .ok (.aload_n 0, 1) := by decide +kernel
theorem dX0_readPlain_46 : decode cX0_readPlain 46 = .ok (.getfield 15, 3) := by decide +kernel
theorem dX0_readPlain_49 : decode cX0_readPlain 49 = .ok (.iload_n 3, 1) := by decide +kernel
theorem dX0_readPlain_50 : decode cX0_readPlain 50 = .ok (.iload 4, 2) := by decide +kernel
theorem dX0_readPlain_52 : decode cX0_readPlain 52 = .ok (.ifCond .eq 11, 3) := by decide +kernel
theorem dX0_readPlain_55 : decode cX0_readPlain 55 = .ok (.aload_n 1, 1) := by decide +kernel
theorem dX0_readPlain_56 : decode cX0_readPlain 56 = .ok (.aload_n 2, 1) := by decide +kernel
theorem dX0_readPlain_57 : decode cX0_readPlain 57 = .ok (.invokevirtual 77, 3) := by decide +kernel
theorem dX0_readPlain_60 : decode cX0_readPlain 60 = .ok (.goto 10, 3) := by decide +kernel
theorem dX0_readPlain_63 : decode cX0_readPlain 63 = .ok (.aload_n 1, 1) := by decide +kernel
theorem dX0_readPlain_64 : decode cX0_readPlain 64 = .ok (.iconst 1, 1) := by decide +kernel
theorem dX0_readPlain_65 : decode cX0_readPlain 65 = .ok (.bipush 60, 2) := by decide +kernel
theorem dX0_readPlain_67 : decode cX0_readPlain 67 = .ok (.invokevirtual 80, 3) := by decide +kernel
theorem dX0_readPlain_70 : decode cX0_readPlain 70 = .ok (.iastore, 1) := by decide +kernel
theorem dX0_readPlain_71 : decode cX0_readPlain 71 = .ok (.return_, 1) := by decide +kernel
theorem dX0_readOfPerson_0 : decode cX0_readOfPerson 0 = .ok (.aload_n 0, 1) := by decide +kernel
theorem dX0_readOfPerson_1 : decode cX0_readOfPerson 1 = .ok (.getfield 9, 3) := by decide +kernel
theorem dX0_readOfPerson_4 : decode cX0_readOfPerson 4 = .ok (.iload_n 3, 1) := by decide +kernel
theorem dX0_readOfPerson_5 : decode cX0_readOfPerson 5 = .ok (.bipush 17, 2) := by decide +kernel
theorem dX0_readOfPerson_7 : decode cX0_readOfPerson 7 = .ok (.aload_n 1, 1) := by decide +kernel
theorem dX0_readOfPerson_8 : decode cX0_readOfPerson 8 = .ok (.bipush 17, 2) := by decide +kernel
theorem dX0_readOfPerson_10 : decode cX0_readOfPerson 10 = .ok (.iconst 3, 1) := by decide +kernel
theorem dX0_readOfPerson_11 : decode cX0_readOfPerson 11 = .ok (.invokevirtual 73, 3) := by decide +kernel
theorem dX0_readOfPerson_14 : decode cX0_readOfPerson 14 = .ok (.iadd, 1) := by decide +kernel
theorem dX0_readOfPerson_15 : decode cX0_readOfPerson 15 = .ok (.iastore, 1) := by decide +kernel
theorem dX0_readOfPerson_16 : decode cX0_readOfPerson 16 = .ok (.aload_n 0, 1) := by decide +kernel
theorem dX0_readOfPerson_17 : decode cX0_readOfPerson 17 = .ok (.getfield 9, 3) := by decide +kernel
theorem dX0_readOfPerson_20 : decode cX0_readOfPerson 20 = .ok (.iload_n 3, 1) := by decide +kernel
theorem dX0_readOfPerson_21 : decode cX0_readOfPerson 21 = .ok (.iaload, 1) := by decide +kernel
theorem dX0_readOfPerson_22 : decode cX0_readOfPerson 22 = .ok (.bipush 17, 2) := by decide +kernel
theorem dX0_readOfPerson_24 : decode cX0_readOfPerson 24 = .ok (.if_icmp .ne 17, 3) := by decide +kernel
theorem dX0_readOfPerson_27 : decode cX0_readOfPerson 27 = .ok (.aload_n 0, 1) := by decide +kernel
theorem dX0_readOfPerson_28 : decode cX0_readOfPerson 28 = .ok (.getfield 18, 3) := by decide +kernel
theorem dX0_readOfPerson_31 : decode cX0_readOfPerson 31 = .ok (.iload_n 3, 1) := by decide +kernel
theorem dX0_readOfPerson_32 : decode cX0_readOfPerson 32 = .ok (.aload_n 1, 1) := by decide +kernel
theorem dX0_readOfPerson_33 : decode cX0_readOfPerson 33 = .ok (.aload_n 2, 1) := by decide +kernel
theorem dX0_readOfPerson_34 : decode cX0_readOfPerson 34 = .ok (.invokevirtual 77, 3) := by decide +kernel
theorem dX0_readOfPerson_37 : decode cX0_readOfPerson 37 = .ok (.iastore, 1) := by decide +kernel
theorem dX0_readOfPerson_38 : decode cX0_readOfPerson 38 = .ok (.goto 39, 3) := by decide +kernel
theorem dX0_readOfPerson_41 : decode cX0_readOfPerson 41 = .ok (.aload_n 0, 1) := by decide +kernel
theorem dX0_readOfPerson_42 : decode cX0_readOfPerson 42 = .ok (.getfield 9, 3) := by decide +kernel
theorem dX0_readOfPerson_45 : decode cX0_readOfPerson 45 = .ok (.iload_n 3, 1) := by decide +kernel
theorem dX0_readOfPerson_46 : decode cX0_readOfPerson 46 = .ok (.iaload, 1) := by decide +kernel
theorem dX0_readOfPerson_47 : decode cX0_readOfPerson 47 = .ok (.bipush 19, 2) := by decide +kernel
theorem dX0_readOfPerson_49 : decode cX0_readOfPerson 49 = .ok (.if_icmp .ne 28, 3) := by decide +kernel
theorem dX0_readOfPerson_52 : decode cX0_readOfPerson 52 = .ok (.aload_n 0, 1) := by decide +kernel
theorem dX0_readOfPerson_53 : decode cX0_readOfPerson 53 = .ok (.getfield 18, 3) := by decide +kernel
theorem dX0_readOfPerson_56 : decode cX0_readOfPerson 56 = .ok (.iload_n 3, 1) := by decide +kernel
theorem dX0_readOfPerson_57 : decode cX0_readOfPerson 57 = .ok (.aload_n 1, 1) := by decide +kernel
theorem dX0_readOfPerson_58 : decode cX0_readOfPerson 58 = .ok (.aload_n 2, 1) := by decide +kernel
theorem dX0_readOfPerson_59 : decode cX0_readOfPerson 59 = .ok (.invokevirtual 83, 3) := by decide +kernel
theorem dX0_readOfPerson_62 : decode cX0_readOfPerson 62 = .ok (.iastore, 1) := by decide +kernel
theorem dX0_readOfPerson_63 : decode cX0_readOfPerson 63 = .ok (.aload_n 0, 1) := by decide +kernel
theorem dX0_readOfPerson_64 : decode cX0_readOfPerson 64 = .ok (.getfield 21, 3) := by decide +kernel
theorem dX0_readOfPerson_67 : decode cX0_readOfPerson 67 = .ok (.iload_n 3, 1) := by decide +kernel
theorem dX0_readOfPerson_68 : decode cX0_readOfPerson 68 = .ok (.aload_n 1, 1) := by decide +kernel
theorem dX0_readOfPerson_69 : decode cX0_readOfPerson 69 = .ok (.bipush 9, 2) := by decide +kernel
theorem dX0_readOfPerson_71 : decode cX0_readOfPerson 71 = .ok (.bipush 8, 2) := by decide +kernel
theorem dX0_readOfPerson_73 : decode cX0_readOfPerson 73 = .ok (.invokevirtual 73, 3) := by decide +kernel
theorem dX0_readOfPerson_76 : decode cX0_readOfPerson 76 = .ok (.iastore, 1) := by decide +kernel
theorem dX0_readOfPerson_77 : decode cX0_readOfPerson 77 = .ok (.return_, 1) := by decide +kernel
theorem dX0_liveLine_0 : decode cX0_liveLine 0 = .ok (.aload_n 0, 1) := by decide +kernel
theorem dX0_liveLine_1 : decode cX0_liveLine 1 = .ok (.getfield 15, 3) := by decide +kernel
theorem dX0_liveLine_4 : decode cX0_liveLine 4 = .ok (.iload_n 2, 1) := by decide +kernel
theorem dX0_liveLine_5 : decode cX0_liveLine 5 = .ok (.iaload, 1) := by decide +kernel
theorem dX0_liveLine_6 : decode cX0_liveLine 6 = .ok (.istore_n 3, 1) := by decide +kernel
theorem dX0_liveLine_7 : decode cX0_liveLine 7 = .ok (.aload_n 0, 1) := by decide +kernel
theorem dX0_liveLine_8 : decode cX0_liveLine 8 = .ok (.getfield 9, 3) := by decide +kernel
theorem dX0_liveLine_11 : decode cX0_liveLine 11 = .ok (.iload_n 2, 1) := by decide +kernel
theorem dX0_liveLine_12 : decode cX0_liveLine 12 = .ok (.iaload, 1) := by decide +kernel
theorem dX0_liveLine_13 : decode cX0_liveLine 13 = .ok (.tableswitch 137 17 23 #[43, 59, 70, 93, 104, 115, 126], 43) := by decide +kernel
theorem dX0_liveLine_56 : decode cX0_liveLine 56 = .ok (.iconst 0, 1) := by decide +kernel
theorem dX0_liveLine_57 : decode cX0_liveLine 57 = .ok (.aload_n 1, 1) := by decide +kernel
theorem dX0_liveLine_58 : decode cX0_liveLine 58 = .ok (.iload_n 3, 1) := by decide +kernel
theorem dX0_liveLine_59 : decode cX0_liveLine 59 = .ok (.aload_n 0, 1) := by decide +kernel
theorem dX0_liveLine_60 : decode cX0_liveLine 60 = .ok (.getfield 18, 3) := by decide +kernel
theorem dX0_liveLine_63 : decode cX0_liveLine 63 = .ok (.iload_n 2, 1) := by decide +kernel
theorem dX0_liveLine_64 : decode cX0_liveLine 64 = .ok (.iaload, 1) := by decide +kernel
theorem dX0_liveLine_65 : decode cX0_liveLine 65 = .ok (.invokevirtual 86, 3) := by decide +kernel
theorem dX0_liveLine_68 : decode cX0_liveLine 68 = .ok (.invokestatic 91, 3) := by decide +kernel
theorem dX0_liveLine_71 : decode cX0_liveLine 71 = .ok (.ireturn, 1) := by decide +kernel
theorem dX0_liveLine_72 : decode cX0_liveLine 72 = .ok (.bipush 10, 2) := by decide +kernel
theorem dX0_liveLine_74 : decode cX0_liveLine 74 = .ok (.aload_n 1, 1) := by decide +kernel
theorem dX0_liveLine_75 : decode cX0_liveLine 75 = .ok (.iload_n 3, 1) := by decide +kernel
theorem dX0_liveLine_76 : decode cX0_liveLine 76 = .ok (.invokevirtual 94, 3) := by decide +kernel
theorem dX0_liveLine_79 : decode cX0_liveLine 79 = .ok (.invokestatic 91, 3) := by decide +kernel
theorem dX0_liveLine_82 : decode cX0_liveLine 82 = .ok (.ireturn, 1) := by decide +kernel
theorem dX0_liveLine_83 : decode cX0_liveLine 83 = .ok (.bipush 20, 2) := by decide +kernel
theorem dX0_liveLine_85 : decode cX0_liveLine 85 = .ok (.aload_n 1, 1) := by decide +kernel
theorem dX0_liveLine_86 : decode cX0_liveLine 86 = .ok (.iload_n 3, 1) := by decide +kernel
theorem dX0_liveLine_87 : decode cX0_liveLine 87 = .ok (.aload_n 0, 1) := by decide +kernel
theorem dX0_liveLine_88 : decode cX0_liveLine 88 = .ok (.getfield 18, 3) := by decide +kernel
theorem dX0_liveLine_91 : decode cX0_liveLine 91 = .ok (.iload_n 2, 1) := by decide +kernel
theorem dX0_liveLine_92 : decode cX0_liveLine 92 = .ok (.iaload, 1) := by decide +kernel
theorem dX0_liveLine_93 : decode cX0_liveLine 93 = .ok (.aload_n 0, 1) := by decide +kernel
theorem dX0_liveLine_94 : decode cX0_liveLine 94 = .ok (.getfield 21, 3) := by decide +kernel
theorem dX0_liveLine_97 : decode cX0_liveLine 97 = .ok (.iload_n 2, 1) := by decide +kernel
theorem dX0_liveLine_98 : decode cX0_liveLine 98 = .ok (.iaload, 1) := by decide +kernel
theorem dX0_liveLine_99 : decode cX0_liveLine 99 = .ok (.invokevirtual 98, 3) := by decide +kernel
theorem dX0_liveLine_102 : decode cX0_liveLine 102 = .ok (.invokestatic 91, 3) := by decide +kernel
theorem dX0_liveLine_105 : decode cX0_liveLine 105 = .ok (.ireturn, 1) := by decide +kernel
theorem dX0_liveLine_106 : decode cX0_liveLine 106 = .ok (.bipush 30, 2) := by decide +kernel
theorem dX0_liveLine_108 : decode cX0_liveLine 108 = .ok (.aload_n 1, 1) := by decide +kernel
theorem dX0_liveLine_109 : decode cX0_liveLine 109 = .ok (.iload_n 3, 1) := by decide +kernel
theorem dX0_liveLine_110 : decode cX0_liveLine 110 = .ok (.invokevirtual 102, 3) := by decide +kernel
theorem dX0_liveLine_113 : decode cX0_liveLine 113 = .ok (.invokestatic 91, 3) := by decide +kernel
theorem dX0_liveLine_116 : decode cX0_liveLine 116 = .ok (.ireturn, 1) := by decide +kernel
theorem dX0_liveLine_117 : decode cX0_liveLine 117 = .ok (.bipush 40, 2) := by decide +kernel
theorem dX0_liveLine_119 : decode cX0_liveLine 119 = .ok (.aload_n 1, 1) := by decide +kernel
theorem dX0_liveLine_120 : decode cX0_liveLine 120 = .ok (.iload_n 3, 1) := by decide +kernel
theorem dX0_liveLine_121 : decode cX0_liveLine 121 = .ok (.invokevirtual 105, 3) := by decide +kernel
theorem dX0_liveLine_124 : decode cX0_liveLine 124 = .ok (.invokestatic 91, 3) := by decide +kernel
theorem dX0_liveLine_127 : decode cX0_liveLine 127 = .ok (.ireturn, 1) := by decide +kernel
theorem dX0_liveLine_128 : decode cX0_liveLine 128 = .ok (.bipush 50, 2) := by decide +kernel
theorem dX0_liveLine_130 : decode cX0_liveLine 130 = .ok (.aload_n 1, 1) := by decide +kernel
theorem dX0_liveLine_131 : decode cX0_liveLine 131 = .ok (.iload_n 3, 1) := by decide +kernel
theorem dX0_liveLine_132 : decode cX0_liveLine 132 = .ok (.invokevirtual 108, 3) := by decide +kernel
theorem dX0_liveLine_135 : decode cX0_liveLine 135 = .ok (.invokestatic 91, 3) := by decide +kernel
theorem dX0_liveLine_138 : decode cX0_liveLine 138 = .ok (.ireturn, 1) := by decide +kernel
theorem dX0_liveLine_139 : decode cX0_liveLine 139 = .ok (.bipush 60, 2) := by decide +kernel
theorem dX0_liveLine_141 : decode cX0_liveLine 141 = .ok (.aload_n 1, 1) := by decide +kernel
theorem dX0_liveLine_142 : decode cX0_liveLine 142 = .ok (.iload_n 3, 1) := by decide +kernel
theorem dX0_liveLine_143 : decode cX0_liveLine 143 = .ok (.invokestatic 111, 3) := by decide +kernel
theorem dX0_liveLine_146 : decode cX0_liveLine 146 = .ok (.invokestatic 91, 3) := by decide +kernel
theorem dX0_liveLine_149 : decode cX0_liveLine 149 = .ok (.ireturn, 1) := by decide +kernel
theorem dX0_liveLine_150 : decode cX0_liveLine 150 = .ok (.iconst 0, 1) := by decide +kernel
theorem dX0_liveLine_151 : decode cX0_liveLine 151 = .ok (.ireturn, 1) := by decide +kernel
theorem dX0_liveDays_0 : decode cX0_liveDays 0 = .ok (.iload_n 1, 1) := by decide +kernel
theorem dX0_liveDays_1 : decode cX0_liveDays 1 = .ok (.aload_n 0, 1) := by decide +kernel
theorem dX0_liveDays_2 : decode cX0_liveDays 2 = .ok (.invokevirtual 115, 3) := by decide +kernel
theorem dX0_liveDays_5 : decode cX0_liveDays 5 = .ok (.if_icmp .le 5, 3) := by decide +kernel
theorem dX0_liveDays_8 : decode cX0_liveDays 8 = .ok (.iconst 1, 1) := by decide +kernel
theorem dX0_liveDays_9 : decode cX0_liveDays 9 = .ok (.ireturn, 1) := by decide +kernel
theorem dX0_liveDays_10 : decode cX0_liveDays 10 = .ok (.aload_n 0, 1) := by decide +kernel
theorem dX0_liveDays_11 : decode cX0_liveDays 11 = .ok (.iload_n 1, 1) := by decide +kernel
theorem dX0_liveDays_12 : decode cX0_liveDays 12 = .ok (.invokevirtual 119, 3) := by decide +kernel
theorem dX0_liveDays_15 : decode cX0_liveDays 15 = .ok (.pop, 1) := by decide +kernel
theorem dX0_liveDays_16 : decode cX0_liveDays 16 = .ok (.iconst 0, 1) := by decide +kernel
theorem dX0_liveDays_17 : decode cX0_liveDays 17 = .ok (.ireturn, 1) := by decide +kernel
theorem dX0_ofSort_0 : decode cX0_ofSort 0 = .ok (.iload_n 1, 1) := by decide +kernel
theorem dX0_ofSort_1 : decode cX0_ofSort 1 = .ok (.ifCond .ne 7, 3) := by decide +kernel
theorem dX0_ofSort_4 : decode cX0_ofSort 4 = .ok (.iconst 0, 1) := by decide +kernel
theorem dX0_ofSort_5 : decode cX0_ofSort 5 = .ok (.goto 6, 3) := by decide +kernel
theorem dX0_ofSort_8 : decode cX0_ofSort 8 = .ok (.iload_n 0, 1) := by decide +kernel
theorem dX0_ofSort_9 : decode cX0_ofSort 9 = .ok (.iload_n 1, 1) := by decide +kernel
theorem dX0_ofSort_10 : decode cX0_ofSort 10 = .ok (.iadd, 1) := by decide +kernel
theorem dX0_ofSort_11 : decode cX0_ofSort 11 = .ok (.ireturn, 1) := by decide +kernel
theorem dX1_init_0 : decode cX1_init 0 = .ok (.aload_n 0, 1) := by decide +kernel
theorem dX1_init_1 : decode cX1_init 1 = .ok (.invokespecial 3, 3) := by decide +kernel
theorem dX1_init_4 : decode cX1_init 4 = .ok (.return_, 1) := by decide +kernel
theorem dX1_drawDays_0 : decode cX1_drawDays 0 = .ok (.aload_n 0, 1) := by decide +kernel
theorem dX1_drawDays_1 : decode cX1_drawDays 1 = .ok (.iload_n 3, 1) := by decide +kernel
theorem dX1_drawDays_2 : decode cX1_drawDays 2 = .ok (.putfield 9, 3) := by decide +kernel
theorem dX1_drawDays_5 : decode cX1_drawDays 5 = .ok (.iload_n 2, 1) := by decide +kernel
theorem dX1_drawDays_6 : decode cX1_drawDays 6 = .ok (.aload_n 1, 1) := by decide +kernel
theorem dX1_drawDays_7 : decode cX1_drawDays 7 = .ok (.invokevirtual 15, 3) := by decide +kernel
theorem dX1_drawDays_10 : decode cX1_drawDays 10 = .ok (.invokestatic 21, 3) := by decide +kernel
theorem dX1_drawDays_13 : decode cX1_drawDays 13 = .ok (.istore 4, 2) := by decide +kernel
theorem dX1_drawDays_15 : decode cX1_drawDays 15 = .ok (.iconst 0, 1) := by decide +kernel
theorem dX1_drawDays_16 : decode cX1_drawDays 16 = .ok (.istore 5, 2) := by decide +kernel
theorem dX1_drawDays_18 : decode cX1_drawDays 18 = .ok (.iload 5, 2) := by decide +kernel
theorem dX1_drawDays_20 : decode cX1_drawDays 20 = .ok (.iload 4, 2) := by decide +kernel
theorem dX1_drawDays_22 : decode cX1_drawDays 22 = .ok (.if_icmp .ge 14, 3) := by decide +kernel
theorem dX1_drawDays_25 : decode cX1_drawDays 25 = .ok (.aload_n 0, 1) := by decide +kernel
theorem dX1_drawDays_26 : decode cX1_drawDays 26 = .ok (.aload_n 1, 1) := by decide +kernel
theorem dX1_drawDays_27 : decode cX1_drawDays 27 = .ok (.invokevirtual 27, 3) := by decide +kernel
theorem dX1_drawDays_30 : decode cX1_drawDays 30 = .ok (.iinc 5 1, 3) := by decide +kernel
theorem dX1_drawDays_33 : decode cX1_drawDays 33 = .ok (.goto (-15), 3) := by decide +kernel
theorem dX1_drawDays_36 : decode cX1_drawDays 36 = .ok (.iload 4, 2) := by decide +kernel
theorem dX1_drawDays_38 : decode cX1_drawDays 38 = .ok (.ireturn, 1) := by decide +kernel
theorem dX1_draw_0 : decode cX1_draw 0 = .ok (.aload_n 0, 1) := by decide +kernel
theorem dX1_draw_1 : decode cX1_draw 1 = .ok (.aload_n 0, 1) := by decide +kernel
theorem dX1_draw_2 : decode cX1_draw 2 = .ok (.getfield 9, 3) := by decide +kernel
theorem dX1_draw_5 : decode cX1_draw 5 = .ok (.ldc 31, 2) := by decide +kernel
theorem dX1_draw_7 : decode cX1_draw 7 = .ok (.imul, 1) := by decide +kernel
theorem dX1_draw_8 : decode cX1_draw 8 = .ok (.sipush 12345, 3) := by decide +kernel
theorem dX1_draw_11 : decode cX1_draw 11 = .ok (.iadd, 1) := by decide +kernel
theorem dX1_draw_12 : decode cX1_draw 12 = .ok (.putfield 9, 3) := by decide +kernel
theorem dX1_draw_15 : decode cX1_draw 15 = .ok (.iload_n 1, 1) := by decide +kernel
theorem dX1_draw_16 : decode cX1_draw 16 = .ok (.ifCond .le 15, 3) := by decide +kernel
theorem dX1_draw_19 : decode cX1_draw 19 = .ok (.aload_n 0, 1) := by decide +kernel
theorem dX1_draw_20 : decode cX1_draw 20 = .ok (.getfield 9, 3) := by decide +kernel
theorem dX1_draw_23 : decode cX1_draw 23 = .ok (.bipush 8, 2) := by decide +kernel
theorem dX1_draw_25 : decode cX1_draw 25 = .ok (.iushr, 1) := by decide +kernel
theorem dX1_draw_26 : decode cX1_draw 26 = .ok (.iload_n 1, 1) := by decide +kernel
theorem dX1_draw_27 : decode cX1_draw 27 = .ok (.irem, 1) := by decide +kernel
theorem dX1_draw_28 : decode cX1_draw 28 = .ok (.goto 4, 3) := by decide +kernel
theorem dX1_draw_31 : decode cX1_draw 31 = .ok (.iconst 0, 1) := by decide +kernel
theorem dX1_draw_32 : decode cX1_draw 32 = .ok (.ireturn, 1) := by decide +kernel
theorem dX1_drawOneDay_0 : decode cX1_drawOneDay 0 = .ok (.aload_n 0, 1) := by decide +kernel
theorem dX1_drawOneDay_1 : decode cX1_drawOneDay 1 = .ok (.bipush 12, 2) := by decide +kernel
theorem dX1_drawOneDay_3 : decode cX1_drawOneDay 3 = .ok (.invokevirtual 32, 3) := by decide +kernel
theorem dX1_drawOneDay_6 : decode cX1_drawOneDay 6 = .ok (.ifCond .ne 16, 3) := by decide +kernel
theorem dX1_drawOneDay_9 : decode cX1_drawOneDay 9 = .ok (.aload_n 1, 1) := by decide +kernel
theorem dX1_drawOneDay_10 : decode cX1_drawOneDay 10 = .ok (.aload_n 0, 1) := by decide +kernel
theorem dX1_drawOneDay_11 : decode cX1_drawOneDay 11 = .ok (.bipush 60, 2) := by decide +kernel
theorem dX1_drawOneDay_13 : decode cX1_drawOneDay 13 = .ok (.invokevirtual 32, 3) := by decide +kernel
theorem dX1_drawOneDay_16 : decode cX1_drawOneDay 16 = .ok (.iconst 1, 1) := by decide +kernel
theorem dX1_drawOneDay_17 : decode cX1_drawOneDay 17 = .ok (.iadd, 1) := by decide +kernel
theorem dX1_drawOneDay_18 : decode cX1_drawOneDay 18 = .ok (.invokevirtual 36, 3) := by decide +kernel
theorem dX1_drawOneDay_21 : decode cX1_drawOneDay 21 = .ok (.pop, 1) := by decide +kernel
theorem dX1_drawOneDay_22 : decode cX1_drawOneDay 22 = .ok (.iconst 0, 1) := by decide +kernel
theorem dX1_drawOneDay_23 : decode cX1_drawOneDay 23 = .ok (.istore_n 2, 1) := by decide +kernel
theorem dX1_drawOneDay_24 : decode cX1_drawOneDay 24 = .ok (.iload_n 2, 1) := by decide +kernel
theorem dX1_drawOneDay_25 : decode cX1_drawOneDay 25 = .ok (.aload_n 1, 1) := by decide +kernel
theorem dX1_drawOneDay_26 : decode cX1_drawOneDay 26 = .ok (.getfield 39, 3) := by decide +kernel
theorem dX1_drawOneDay_29 : decode cX1_drawOneDay 29 = .ok (.if_icmp .ge 15, 3) := by decide +kernel
theorem dX1_drawOneDay_32 : decode cX1_drawOneDay 32 = .ok (.aload_n 0, 1) := by decide +kernel
theorem dX1_drawOneDay_33 : decode cX1_drawOneDay 33 = .ok (.aload_n 1, 1) := by decide +kernel
theorem dX1_drawOneDay_34 : decode cX1_drawOneDay 34 = .ok (.iload_n 2, 1) := by decide +kernel
theorem dX1_drawOneDay_35 : decode cX1_drawOneDay 35 = .ok (.invokevirtual 42, 3) := by decide +kernel
theorem dX1_drawOneDay_38 : decode cX1_drawOneDay 38 = .ok (.iinc 2 1, 3) := by decide +kernel
theorem dX1_drawOneDay_41 : decode cX1_drawOneDay 41 = .ok (.goto (-17), 3) := by decide +kernel
theorem dX1_drawOneDay_44 : decode cX1_drawOneDay 44 = .ok (.aload_n 1, 1) := by decide +kernel
theorem dX1_drawOneDay_45 : decode cX1_drawOneDay 45 = .ok (.invokevirtual 46, 3) := by decide +kernel
theorem dX1_drawOneDay_48 : decode cX1_drawOneDay 48 = .ok (.return_, 1) := by decide +kernel
theorem dX1_drawAct_0 : decode cX1_drawAct 0 = .ok (.aload_n 0, 1) := by decide +kernel
theorem dX1_drawAct_1 : decode cX1_drawAct 1 = .ok (.iconst 4, 1) := by decide +kernel
theorem dX1_drawAct_2 : decode cX1_drawAct 2 = .ok (.invokevirtual 32, 3) := by decide +kernel
theorem dX1_drawAct_5 : decode cX1_drawAct 5 = .ok (.istore_n 3, 1) := by decide +kernel
theorem dX1_drawAct_6 : decode cX1_drawAct 6 = .ok (.iload_n 3, 1) := by decide +kernel
theorem dX1_drawAct_7 : decode cX1_drawAct 7 = .ok (.iconst 2, 1) := by decide +kernel
theorem dX1_drawAct_8 : decode cX1_drawAct 8 = .ok (.if_icmp .ne 12, 3) := by decide +kernel
theorem dX1_drawAct_11 : decode cX1_drawAct 11 = .ok (.aload_n 1, 1) := by decide +kernel
theorem dX1_drawAct_12 : decode cX1_drawAct 12 = .ok (.iload_n 2, 1) := by decide +kernel
theorem dX1_drawAct_13 : decode cX1_drawAct 13 = .ok (.invokevirtual 49, 3) := by decide +kernel
theorem dX1_drawAct_16 : decode cX1_drawAct 16 = .ok (.pop, 1) := by decide +kernel
theorem dX1_drawAct_17 : decode cX1_drawAct 17 = .ok (.goto 56, 3) := by decide +kernel
theorem dX1_drawAct_20 : decode cX1_drawAct 20 = .ok (.iload_n 3, 1) := by decide +kernel
theorem dX1_drawAct_21 : decode cX1_drawAct 21 = .ok (.iconst 3, 1) := by decide +kernel
theorem dX1_drawAct_22 : decode cX1_drawAct 22 = .ok (.if_icmp .ne 30, 3) := by decide +kernel
theorem dX1_drawAct_25 : decode cX1_drawAct 25 = .ok (.aload_n 0, 1) := by decide +kernel
theorem dX1_drawAct_26 : decode cX1_drawAct 26 = .ok (.aload_n 1, 1) := by decide +kernel
theorem dX1_drawAct_27 : decode cX1_drawAct 27 = .ok (.getfield 39, 3) := by decide +kernel
theorem dX1_drawAct_30 : decode cX1_drawAct 30 = .ok (.invokevirtual 32, 3) := by decide +kernel
theorem dX1_drawAct_33 : decode cX1_drawAct 33 = .ok (.istore 4, 2) := by decide +kernel
theorem dX1_drawAct_35 : decode cX1_drawAct 35 = .ok (.aload_n 1, 1) := by decide +kernel
theorem dX1_drawAct_36 : decode cX1_drawAct 36 = .ok (.iload_n 2, 1) := by decide +kernel
theorem dX1_drawAct_37 : decode cX1_drawAct 37 = .ok (.iload 4, 2) := by decide +kernel
theorem dX1_drawAct_39 : decode cX1_drawAct 39 = .ok (.aload_n 0, 1) := by decide +kernel
theorem dX1_drawAct_40 : decode cX1_drawAct 40 = .ok (.bipush 8, 2) := by decide +kernel
theorem dX1_drawAct_42 : decode cX1_drawAct 42 = .ok (.invokevirtual 32, 3) := by decide +kernel
theorem dX1_drawAct_45 : decode cX1_drawAct 45 = .ok (.invokevirtual 52, 3) := by decide +kernel
theorem dX1_drawAct_48 : decode cX1_drawAct 48 = .ok (.pop, 1) := by decide +kernel
theorem dX1_drawAct_49 : decode cX1_drawAct 49 = .ok (.goto 24, 3) := by decide +kernel
theorem dX1_drawAct_52 : decode cX1_drawAct 52 = .ok (.aload_n 1, 1) := by decide +kernel
theorem dX1_drawAct_53 : decode cX1_drawAct 53 = .ok (.getfield 56, 3) := by decide +kernel
theorem dX1_drawAct_56 : decode cX1_drawAct 56 = .ok (.ifCond .le 17, 3) := by decide +kernel
theorem dX1_drawAct_59 : decode cX1_drawAct 59 = .ok (.aload_n 1, 1) := by decide +kernel
theorem dX1_drawAct_60 : decode cX1_drawAct 60 = .ok (.iload_n 2, 1) := by decide +kernel
theorem dX1_drawAct_61 : decode cX1_drawAct 61 = .ok (.aload_n 0, 1) := by decide +kernel
theorem dX1_drawAct_62 : decode cX1_drawAct 62 = .ok (.aload_n 1, 1) := by decide +kernel
theorem dX1_drawAct_63 : decode cX1_drawAct 63 = .ok (.getfield 56, 3) := by decide +kernel
theorem dX1_drawAct_66 : decode cX1_drawAct 66 = .ok (.invokevirtual 32, 3) := by decide +kernel
theorem dX1_drawAct_69 : decode cX1_drawAct 69 = .ok (.invokevirtual 59, 3) := by decide +kernel
theorem dX1_drawAct_72 : decode cX1_drawAct 72 = .ok (.pop, 1) := by decide +kernel
theorem dX1_drawAct_73 : decode cX1_drawAct 73 = .ok (.return_, 1) := by decide +kernel
theorem dX2_init_0 : decode cX2_init 0 = .ok (.aload_n 0, 1) := by decide +kernel
theorem dX2_init_1 : decode cX2_init 1 = .ok (.invokespecial 3, 3) := by decide +kernel
theorem dX2_init_4 : decode cX2_init 4 = .ok (.aload_n 0, 1) := by decide +kernel
theorem dX2_init_5 : decode cX2_init 5 = .ok (.bipush 9, 2) := by decide +kernel
theorem dX2_init_7 : decode cX2_init 7 = .ok (.anewarray 9, 3) := by decide +kernel
theorem dX2_init_10 : decode cX2_init 10 = .ok (.putfield 11, 3) := by decide +kernel
theorem dX2_init_13 : decode cX2_init 13 = .ok (.iconst 0, 1) := by decide +kernel
theorem dX2_init_14 : decode cX2_init 14 = .ok (.istore_n 1, 1) := by decide +kernel
theorem dX2_init_15 : decode cX2_init 15 = .ok (.iload_n 1, 1) := by decide +kernel
theorem dX2_init_16 : decode cX2_init 16 = .ok (.bipush 8, 2) := by decide +kernel
theorem dX2_init_18 : decode cX2_init 18 = .ok (.if_icmp .gt 22, 3) := by decide +kernel
theorem dX2_init_21 : decode cX2_init 21 = .ok (.aload_n 0, 1) := by decide +kernel
theorem dX2_init_22 : decode cX2_init 22 = .ok (.getfield 11, 3) := by decide +kernel
theorem dX2_init_25 : decode cX2_init 25 = .ok (.iload_n 1, 1) := by decide +kernel
theorem dX2_init_26 : decode cX2_init 26 = .ok (.new 9, 3) := by decide +kernel
theorem dX2_init_29 : decode cX2_init 29 = .ok (.dup, 1) := by decide +kernel
theorem dX2_init_30 : decode cX2_init 30 = .ok (.invokespecial 17, 3) := by decide +kernel
theorem dX2_init_33 : decode cX2_init 33 = .ok (.aastore, 1) := by decide +kernel
theorem dX2_init_34 : decode cX2_init 34 = .ok (.iinc 1 1, 3) := by decide +kernel
theorem dX2_init_37 : decode cX2_init 37 = .ok (.goto (-22), 3) := by decide +kernel
theorem dX2_init_40 : decode cX2_init 40 = .ok (.aload_n 0, 1) := by decide +kernel
theorem dX2_init_41 : decode cX2_init 41 = .ok (.iconst 0, 1) := by decide +kernel
theorem dX2_init_42 : decode cX2_init 42 = .ok (.putfield 18, 3) := by decide +kernel
theorem dX2_init_45 : decode cX2_init 45 = .ok (.aload_n 0, 1) := by decide +kernel
theorem dX2_init_46 : decode cX2_init 46 = .ok (.iconst 0, 1) := by decide +kernel
theorem dX2_init_47 : decode cX2_init 47 = .ok (.putfield 22, 3) := by decide +kernel
theorem dX2_init_50 : decode cX2_init 50 = .ok (.return_, 1) := by decide +kernel
theorem dX2_open_0 : decode cX2_open 0 = .ok (.aload_n 0, 1) := by decide +kernel
theorem dX2_open_1 : decode cX2_open 1 = .ok (.getfield 11, 3) := by decide +kernel
theorem dX2_open_4 : decode cX2_open 4 = .ok (.aload_n 0, 1) := by decide +kernel
theorem dX2_open_5 : decode cX2_open 5 = .ok (.getfield 18, 3) := by decide +kernel
theorem dX2_open_8 : decode cX2_open 8 = .ok (.aaload, 1) := by decide +kernel
theorem dX2_open_9 : decode cX2_open 9 = .ok (.aload_n 1, 1) := by decide +kernel
theorem dX2_open_10 : decode cX2_open 10 = .ok (.invokevirtual 25, 3) := by decide +kernel
theorem dX2_open_13 : decode cX2_open 13 = .ok (.return_, 1) := by decide +kernel
theorem dX2_keep_0 : decode cX2_keep 0 = .ok (.aload_n 0, 1) := by decide +kernel
theorem dX2_keep_1 : decode cX2_keep 1 = .ok (.aload_n 0, 1) := by decide +kernel
theorem dX2_keep_2 : decode cX2_keep 2 = .ok (.getfield 18, 3) := by decide +kernel
theorem dX2_keep_5 : decode cX2_keep 5 = .ok (.bipush 8, 2) := by decide +kernel
theorem dX2_keep_7 : decode cX2_keep 7 = .ok (.if_icmp .ne 7, 3) := by decide +kernel
theorem dX2_keep_10 : decode cX2_keep 10 = .ok (.iconst 0, 1) := by decide +kernel
theorem dX2_keep_11 : decode cX2_keep 11 = .ok (.goto 9, 3) := by decide +kernel
theorem dX2_keep_14 : decode cX2_keep 14 = .ok (.aload_n 0, 1) := by decide +kernel
theorem dX2_keep_15 : decode cX2_keep 15 = .ok (.getfield 18, 3) := by decide +kernel
theorem dX2_keep_18 : decode cX2_keep 18 = .ok (.iconst 1, 1) := by decide +kernel
theorem dX2_keep_19 : decode cX2_keep 19 = .ok (.iadd, 1) := by decide +kernel
theorem dX2_keep_20 : decode cX2_keep 20 = .ok (.putfield 18, 3) := by decide +kernel
theorem dX2_keep_23 : decode cX2_keep 23 = .ok (.aload_n 0, 1) := by decide +kernel
theorem dX2_keep_24 : decode cX2_keep 24 = .ok (.aload_n 0, 1) := by decide +kernel
theorem dX2_keep_25 : decode cX2_keep 25 = .ok (.getfield 22, 3) := by decide +kernel
theorem dX2_keep_28 : decode cX2_keep 28 = .ok (.iconst 1, 1) := by decide +kernel
theorem dX2_keep_29 : decode cX2_keep 29 = .ok (.iadd, 1) := by decide +kernel
theorem dX2_keep_30 : decode cX2_keep 30 = .ok (.bipush 8, 2) := by decide +kernel
theorem dX2_keep_32 : decode cX2_keep 32 = .ok (.invokestatic 29, 3) := by decide +kernel
theorem dX2_keep_35 : decode cX2_keep 35 = .ok (.putfield 22, 3) := by decide +kernel
theorem dX2_keep_38 : decode cX2_keep 38 = .ok (.return_, 1) := by decide +kernel
theorem dX2_stepBack_0 : decode cX2_stepBack 0 = .ok (.aload_n 0, 1) := by decide +kernel
theorem dX2_stepBack_1 : decode cX2_stepBack 1 = .ok (.aload_n 0, 1) := by decide +kernel
theorem dX2_stepBack_2 : decode cX2_stepBack 2 = .ok (.getfield 18, 3) := by decide +kernel
theorem dX2_stepBack_5 : decode cX2_stepBack 5 = .ok (.ifCond .ne 8, 3) := by decide +kernel
theorem dX2_stepBack_8 : decode cX2_stepBack 8 = .ok (.bipush 8, 2) := by decide +kernel
theorem dX2_stepBack_10 : decode cX2_stepBack 10 = .ok (.goto 9, 3) := by decide +kernel
theorem dX2_stepBack_13 : decode cX2_stepBack 13 = .ok (.aload_n 0, 1) := by decide +kernel
theorem dX2_stepBack_14 : decode cX2_stepBack 14 = .ok (.getfield 18, 3) := by decide +kernel
theorem dX2_stepBack_17 : decode cX2_stepBack 17 = .ok (.iconst 1, 1) := by decide +kernel
theorem dX2_stepBack_18 : decode cX2_stepBack 18 = .ok (.isub, 1) := by decide +kernel
theorem dX2_stepBack_19 : decode cX2_stepBack 19 = .ok (.putfield 18, 3) := by decide +kernel
theorem dX2_stepBack_22 : decode cX2_stepBack 22 = .ok (.aload_n 0, 1) := by decide +kernel
theorem dX2_stepBack_23 : decode cX2_stepBack 23 = .ok (.aload_n 0, 1) := by decide +kernel
theorem dX2_stepBack_24 : decode cX2_stepBack 24 = .ok (.getfield 22, 3) := by decide +kernel
theorem dX2_stepBack_27 : decode cX2_stepBack 27 = .ok (.iconst 1, 1) := by decide +kernel
theorem dX2_stepBack_28 : decode cX2_stepBack 28 = .ok (.isub, 1) := by decide +kernel
theorem dX2_stepBack_29 : decode cX2_stepBack 29 = .ok (.iconst 0, 1) := by decide +kernel
theorem dX2_stepBack_30 : decode cX2_stepBack 30 = .ok (.invokestatic 35, 3) := by decide +kernel
theorem dX2_stepBack_33 : decode cX2_stepBack 33 = .ok (.putfield 22, 3) := by decide +kernel
theorem dX2_stepBack_36 : decode cX2_stepBack 36 = .ok (.aload_n 0, 1) := by decide +kernel
theorem dX2_stepBack_37 : decode cX2_stepBack 37 = .ok (.getfield 11, 3) := by decide +kernel
theorem dX2_stepBack_40 : decode cX2_stepBack 40 = .ok (.aload_n 0, 1) := by decide +kernel
theorem dX2_stepBack_41 : decode cX2_stepBack 41 = .ok (.getfield 18, 3) := by decide +kernel
theorem dX2_stepBack_44 : decode cX2_stepBack 44 = .ok (.aaload, 1) := by decide +kernel
theorem dX2_stepBack_45 : decode cX2_stepBack 45 = .ok (.areturn, 1) := by decide +kernel
theorem dX2_forget_0 : decode cX2_forget 0 = .ok (.aload_n 0, 1) := by decide +kernel
theorem dX2_forget_1 : decode cX2_forget 1 = .ok (.iconst 0, 1) := by decide +kernel
theorem dX2_forget_2 : decode cX2_forget 2 = .ok (.putfield 22, 3) := by decide +kernel
theorem dX2_forget_5 : decode cX2_forget 5 = .ok (.return_, 1) := by decide +kernel
theorem dX3_init_0 : decode cX3_init 0 = .ok (.aload_n 0, 1) := by decide +kernel
theorem dX3_init_1 : decode cX3_init 1 = .ok (.invokespecial 1, 3) := by decide +kernel
theorem dX3_init_4 : decode cX3_init 4 = .ok (.aload_n 0, 1) := by decide +kernel
theorem dX3_init_5 : decode cX3_init 5 = .ok (.new 7, 3) := by decide +kernel
theorem dX3_init_8 : decode cX3_init 8 = .ok (.dup, 1) := by decide +kernel
theorem dX3_init_9 : decode cX3_init 9 = .ok (.invokespecial 9, 3) := by decide +kernel
theorem dX3_init_12 : decode cX3_init 12 = .ok (.putfield 10, 3) := by decide +kernel
theorem dX3_init_15 : decode cX3_init 15 = .ok (.aload_n 0, 1) := by decide +kernel
theorem dX3_init_16 : decode cX3_init 16 = .ok (.new 16, 3) := by decide +kernel
theorem dX3_init_19 : decode cX3_init 19 = .ok (.dup, 1) := by decide +kernel
theorem dX3_init_20 : decode cX3_init 20 = .ok (.invokespecial 18, 3) := by decide +kernel
theorem dX3_init_23 : decode cX3_init 23 = .ok (.putfield 19, 3) := by decide +kernel
theorem dX3_init_26 : decode cX3_init 26 = .ok (.aload_n 0, 1) := by decide +kernel
theorem dX3_init_27 : decode cX3_init 27 = .ok (.iconst 0, 1) := by decide +kernel
theorem dX3_init_28 : decode cX3_init 28 = .ok (.putfield 23, 3) := by decide +kernel
theorem dX3_init_31 : decode cX3_init 31 = .ok (.return_, 1) := by decide +kernel
theorem dX4_init_0 : decode cX4_init 0 = .ok (.aload_n 0, 1) := by decide +kernel
theorem dX4_init_1 : decode cX4_init 1 = .ok (.invokespecial 3, 3) := by decide +kernel
theorem dX4_init_4 : decode cX4_init 4 = .ok (.aload_n 0, 1) := by decide +kernel
theorem dX4_init_5 : decode cX4_init 5 = .ok (.sipush 896, 3) := by decide +kernel
theorem dX4_init_8 : decode cX4_init 8 = .ok (.newarray .int, 2) := by decide +kernel
theorem dX4_init_10 : decode cX4_init 10 = .ok (.putfield 9, 3) := by decide +kernel
theorem dX4_init_13 : decode cX4_init 13 = .ok (.aload_n 0, 1) := by decide +kernel
theorem dX4_init_14 : decode cX4_init 14 = .ok (.bipush 6, 2) := by decide +kernel
theorem dX4_init_16 : decode cX4_init 16 = .ok (.newarray .int, 2) := by decide +kernel
theorem dX4_init_18 : decode cX4_init 18 = .ok (.putfield 15, 3) := by decide +kernel
theorem dX4_init_21 : decode cX4_init 21 = .ok (.aload_n 0, 1) := by decide +kernel
theorem dX4_init_22 : decode cX4_init 22 = .ok (.bipush 6, 2) := by decide +kernel
theorem dX4_init_24 : decode cX4_init 24 = .ok (.newarray .int, 2) := by decide +kernel
theorem dX4_init_26 : decode cX4_init 26 = .ok (.putfield 18, 3) := by decide +kernel
theorem dX4_init_29 : decode cX4_init 29 = .ok (.aload_n 0, 1) := by decide +kernel
theorem dX4_init_30 : decode cX4_init 30 = .ok (.bipush 6, 2) := by decide +kernel
theorem dX4_init_32 : decode cX4_init 32 = .ok (.newarray .int, 2) := by decide +kernel
theorem dX4_init_34 : decode cX4_init 34 = .ok (.putfield 21, 3) := by decide +kernel
theorem dX4_init_37 : decode cX4_init 37 = .ok (.aload_n 0, 1) := by decide +kernel
theorem dX4_init_38 : decode cX4_init 38 = .ok (.bipush 6, 2) := by decide +kernel
theorem dX4_init_40 : decode cX4_init 40 = .ok (.newarray .int, 2) := by decide +kernel
theorem dX4_init_42 : decode cX4_init 42 = .ok (.putfield 24, 3) := by decide +kernel
theorem dX4_init_45 : decode cX4_init 45 = .ok (.aload_n 0, 1) := by decide +kernel
theorem dX4_init_46 : decode cX4_init 46 = .ok (.getfield 24, 3) := by decide +kernel
theorem dX4_init_49 : decode cX4_init 49 = .ok (.iconst (-1), 1) := by decide +kernel
theorem dX4_init_50 : decode cX4_init 50 = .ok (.invokestatic 27, 3) := by decide +kernel
theorem dX4_init_53 : decode cX4_init 53 = .ok (.return_, 1) := by decide +kernel
theorem dX4_plan_0 : decode cX4_plan 0 = .ok (.aload_n 1, 1) := by decide +kernel
theorem dX4_plan_1 : decode cX4_plan 1 = .ok (.getfield 33, 3) := by decide +kernel
theorem dX4_plan_4 : decode cX4_plan 4 = .ok (.istore_n 2, 1) := by decide +kernel
theorem dX4_plan_5 : decode cX4_plan 5 = .ok (.aload_n 0, 1) := by decide +kernel
theorem dX4_plan_6 : decode cX4_plan 6 = .ok (.getfield 24, 3) := by decide +kernel
theorem dX4_plan_9 : decode cX4_plan 9 = .ok (.iconst (-1), 1) := by decide +kernel
theorem dX4_plan_10 : decode cX4_plan 10 = .ok (.invokestatic 27, 3) := by decide +kernel
theorem dX4_plan_13 : decode cX4_plan 13 = .ok (.aload_n 0, 1) := by decide +kernel
theorem dX4_plan_14 : decode cX4_plan 14 = .ok (.getfield 9, 3) := by decide +kernel
theorem dX4_plan_17 : decode cX4_plan 17 = .ok (.iconst 0, 1) := by decide +kernel
theorem dX4_plan_18 : decode cX4_plan 18 = .ok (.invokestatic 27, 3) := by decide +kernel
theorem dX4_plan_21 : decode cX4_plan 21 = .ok (.iload_n 2, 1) := by decide +kernel
theorem dX4_plan_22 : decode cX4_plan 22 = .ok (.iconst 1, 1) := by decide +kernel
theorem dX4_plan_23 : decode cX4_plan 23 = .ok (.isub, 1) := by decide +kernel
theorem dX4_plan_24 : decode cX4_plan 24 = .ok (.istore_n 3, 1) := by decide +kernel
theorem dX4_plan_25 : decode cX4_plan 25 = .ok (.iload_n 3, 1) := by decide +kernel
theorem dX4_plan_26 : decode cX4_plan 26 = .ok (.ifCond .lt 52, 3) := by decide +kernel
theorem dX4_plan_29 : decode cX4_plan 29 = .ok (.aload_n 0, 1) := by decide +kernel
theorem dX4_plan_30 : decode cX4_plan 30 = .ok (.aload_n 1, 1) := by decide +kernel
theorem dX4_plan_31 : decode cX4_plan 31 = .ok (.iload_n 3, 1) := by decide +kernel
theorem dX4_plan_32 : decode cX4_plan 32 = .ok (.invokevirtual 39, 3) := by decide +kernel
theorem dX4_plan_35 : decode cX4_plan 35 = .ok (.iconst 0, 1) := by decide +kernel
theorem dX4_plan_36 : decode cX4_plan 36 = .ok (.istore 4, 2) := by decide +kernel
theorem dX4_plan_38 : decode cX4_plan 38 = .ok (.iload 4, 2) := by decide +kernel
theorem dX4_plan_40 : decode cX4_plan 40 = .ok (.sipush 128, 3) := by decide +kernel
theorem dX4_plan_43 : decode cX4_plan 43 = .ok (.if_icmp .ge 29, 3) := by decide +kernel
theorem dX4_plan_46 : decode cX4_plan 46 = .ok (.aload_n 0, 1) := by decide +kernel
theorem dX4_plan_47 : decode cX4_plan 47 = .ok (.getfield 9, 3) := by decide +kernel
theorem dX4_plan_50 : decode cX4_plan 50 = .ok (.iload_n 3, 1) := by decide +kernel
theorem dX4_plan_51 : decode cX4_plan 51 = .ok (.sipush 128, 3) := by decide +kernel
theorem dX4_plan_54 : decode cX4_plan 54 = .ok (.imul, 1) := by decide +kernel
theorem dX4_plan_55 : decode cX4_plan 55 = .ok (.iload 4, 2) := by decide +kernel
theorem dX4_plan_57 : decode cX4_plan 57 = .ok (.iadd, 1) := by decide +kernel
theorem dX4_plan_58 : decode cX4_plan 58 = .ok (.aload_n 0, 1) := by decide +kernel
theorem dX4_plan_59 : decode cX4_plan 59 = .ok (.iload_n 3, 1) := by decide +kernel
theorem dX4_plan_60 : decode cX4_plan 60 = .ok (.iload 4, 2) := by decide +kernel
theorem dX4_plan_62 : decode cX4_plan 62 = .ok (.invokevirtual 43, 3) := by decide +kernel
theorem dX4_plan_65 : decode cX4_plan 65 = .ok (.iastore, 1) := by decide +kernel
theorem dX4_plan_66 : decode cX4_plan 66 = .ok (.iinc 4 1, 3) := by decide +kernel
theorem dX4_plan_69 : decode cX4_plan 69 = .ok (.goto (-31), 3) := by decide +kernel
theorem dX4_plan_72 : decode cX4_plan 72 = .ok (.iinc 3 (-1), 3) := by decide +kernel
theorem dX4_plan_75 : decode cX4_plan 75 = .ok (.goto (-50), 3) := by decide +kernel
theorem dX4_plan_78 : decode cX4_plan 78 = .ok (.iconst 0, 1) := by decide +kernel
theorem dX4_plan_79 : decode cX4_plan 79 = .ok (.istore_n 3, 1) := by decide +kernel
theorem dX4_plan_80 : decode cX4_plan 80 = .ok (.iconst 0, 1) := by decide +kernel
theorem dX4_plan_81 : decode cX4_plan 81 = .ok (.istore 4, 2) := by decide +kernel
theorem dX4_plan_83 : decode cX4_plan 83 = .ok (.iload 4, 2) := by decide +kernel
theorem dX4_plan_85 : decode cX4_plan 85 = .ok (.iload_n 2, 1) := by decide +kernel
theorem dX4_plan_86 : decode cX4_plan 86 = .ok (.if_icmp .ge 50, 3) := by decide +kernel
theorem dX4_plan_89 : decode cX4_plan 89 = .ok (.aload_n 0, 1) := by decide +kernel
theorem dX4_plan_90 : decode cX4_plan 90 = .ok (.getfield 24, 3) := by decide +kernel
theorem dX4_plan_93 : decode cX4_plan 93 = .ok (.iload 4, 2) := by decide +kernel
theorem dX4_plan_95 : decode cX4_plan 95 = .ok (.aload_n 0, 1) := by decide +kernel
theorem dX4_plan_96 : decode cX4_plan 96 = .ok (.iload 4, 2) := by decide +kernel
theorem dX4_plan_98 : decode cX4_plan 98 = .ok (.iload_n 3, 1) := by decide +kernel
theorem dX4_plan_99 : decode cX4_plan 99 = .ok (.invokevirtual 47, 3) := by decide +kernel
theorem dX4_plan_102 : decode cX4_plan 102 = .ok (.iastore, 1) := by decide +kernel
theorem dX4_plan_103 : decode cX4_plan 103 = .ok (.iload_n 3, 1) := by decide +kernel
theorem dX4_plan_104 : decode cX4_plan 104 = .ok (.aload_n 0, 1) := by decide +kernel
theorem dX4_plan_105 : decode cX4_plan 105 = .ok (.getfield 24, 3) := by decide +kernel
theorem dX4_plan_108 : decode cX4_plan 108 = .ok (.iload 4, 2) := by decide +kernel
theorem dX4_plan_110 : decode cX4_plan 110 = .ok (.iaload, 1) := by decide +kernel
theorem dX4_plan_111 : decode cX4_plan 111 = .ok (.iconst (-1), 1) := by decide +kernel
theorem dX4_plan_112 : decode cX4_plan 112 = .ok (.if_icmp .ne 7, 3) := by decide +kernel
theorem dX4_plan_115 : decode cX4_plan 115 = .ok (.iconst 0, 1) := by decide +kernel
theorem dX4_plan_116 : decode cX4_plan 116 = .ok (.goto 12, 3) := by decide +kernel
theorem dX4_plan_119 : decode cX4_plan 119 = .ok (.iconst 1, 1) := by decide +kernel
theorem dX4_plan_120 : decode cX4_plan 120 = .ok (.aload_n 0, 1) := by decide +kernel
theorem dX4_plan_121 : decode cX4_plan 121 = .ok (.getfield 24, 3) := by decide +kernel
theorem dX4_plan_124 : decode cX4_plan 124 = .ok (.iload 4, 2) := by decide +kernel
theorem dX4_plan_126 : decode cX4_plan 126 = .ok (.iaload, 1) := by decide +kernel
theorem dX4_plan_127 : decode cX4_plan 127 = .ok (.ishl, 1) := by decide +kernel
theorem dX4_plan_128 : decode cX4_plan 128 = .ok (.ior, 1) := by decide +kernel
theorem dX4_plan_129 : decode cX4_plan 129 = .ok (.istore_n 3, 1) := by decide +kernel
theorem dX4_plan_130 : decode cX4_plan 130 = .ok (.iinc 4 1, 3) := by decide +kernel
theorem dX4_plan_133 : decode cX4_plan 133 = .ok (.goto (-50), 3) := by decide +kernel
theorem dX4_plan_136 : decode cX4_plan 136 = .ok (.aload_n 0, 1) := by decide +kernel
theorem dX4_plan_137 : decode cX4_plan 137 = .ok (.getfield 9, 3) := by decide +kernel
theorem dX4_plan_140 : decode cX4_plan 140 = .ok (.iconst 0, 1) := by decide +kernel
theorem dX4_plan_141 : decode cX4_plan 141 = .ok (.iaload, 1) := by decide +kernel
theorem dX4_plan_142 : decode cX4_plan 142 = .ok (.ireturn, 1) := by decide +kernel
theorem dX4_weigh_0 : decode cX4_weigh 0 = .ok (.aload_n 1, 1) := by decide +kernel
theorem dX4_weigh_1 : decode cX4_weigh 1 = .ok (.getfield 50, 3) := by decide +kernel
theorem dX4_weigh_4 : decode cX4_weigh 4 = .ok (.iload_n 2, 1) := by decide +kernel
theorem dX4_weigh_5 : decode cX4_weigh 5 = .ok (.iaload, 1) := by decide +kernel
theorem dX4_weigh_6 : decode cX4_weigh 6 = .ok (.istore_n 3, 1) := by decide +kernel
theorem dX4_weigh_7 : decode cX4_weigh 7 = .ok (.aload_n 0, 1) := by decide +kernel
theorem dX4_weigh_8 : decode cX4_weigh 8 = .ok (.getfield 15, 3) := by decide +kernel
theorem dX4_weigh_11 : decode cX4_weigh 11 = .ok (.iload_n 2, 1) := by decide +kernel
theorem dX4_weigh_12 : decode cX4_weigh 12 = .ok (.aload_n 1, 1) := by decide +kernel
theorem dX4_weigh_13 : decode cX4_weigh 13 = .ok (.iload_n 2, 1) := by decide +kernel
theorem dX4_weigh_14 : decode cX4_weigh 14 = .ok (.invokevirtual 53, 3) := by decide +kernel
theorem dX4_weigh_17 : decode cX4_weigh 17 = .ok (.iastore, 1) := by decide +kernel
theorem dX4_weigh_18 : decode cX4_weigh 18 = .ok (.aload_n 0, 1) := by decide +kernel
theorem dX4_weigh_19 : decode cX4_weigh 19 = .ok (.getfield 21, 3) := by decide +kernel
theorem dX4_weigh_22 : decode cX4_weigh 22 = .ok (.iload_n 2, 1) := by decide +kernel
theorem dX4_weigh_23 : decode cX4_weigh 23 = .ok (.aload_n 1, 1) := by decide +kernel
theorem dX4_weigh_24 : decode cX4_weigh 24 = .ok (.iload_n 2, 1) := by decide +kernel
theorem dX4_weigh_25 : decode cX4_weigh 25 = .ok (.invokevirtual 56, 3) := by decide +kernel
theorem dX4_weigh_28 : decode cX4_weigh 28 = .ok (.ifCond .eq 7, 3) := by decide +kernel
theorem dX4_weigh_31 : decode cX4_weigh 31 = .ok (.iconst 1, 1) := by decide +kernel
theorem dX4_weigh_32 : decode cX4_weigh 32 = .ok (.goto 4, 3) := by decide +kernel
theorem dX4_weigh_35 : decode cX4_weigh 35 = .ok (.iconst 0, 1) := by decide +kernel
theorem dX4_weigh_36 : decode cX4_weigh 36 = .ok (.iastore, 1) := by decide +kernel
theorem dX4_weigh_37 : decode cX4_weigh 37 = .ok (.aload_n 0, 1) := by decide +kernel
theorem dX4_weigh_38 : decode cX4_weigh 38 = .ok (.getfield 18, 3) := by decide +kernel
theorem dX4_weigh_41 : decode cX4_weigh 41 = .ok (.iload_n 2, 1) := by decide +kernel
theorem dX4_weigh_42 : decode cX4_weigh 42 = .ok (.iconst 0, 1) := by decide +kernel
theorem dX4_weigh_43 : decode cX4_weigh 43 = .ok (.iastore, 1) := by decide +kernel
theorem dX4_weigh_44 : decode cX4_weigh 44 = .ok (.iconst 0, 1) := by decide +kernel
theorem dX4_weigh_45 : decode cX4_weigh 45 = .ok (.istore 4, 2) := by decide +kernel
theorem dX4_weigh_47 : decode cX4_weigh 47 = .ok (.iload 4, 2) := by decide +kernel
theorem dX4_weigh_49 : decode cX4_weigh 49 = .ok (.aload_n 1, 1) := by decide +kernel
theorem dX4_weigh_50 : decode cX4_weigh 50 = .ok (.getfield 60, 3) := by decide +kernel
theorem dX4_weigh_53 : decode cX4_weigh 53 = .ok (.if_icmp .ge 40, 3) := by decide +kernel
theorem dX4_weigh_56 : decode cX4_weigh 56 = .ok (.aload_n 1, 1) := by decide +kernel
theorem dX4_weigh_57 : decode cX4_weigh 57 = .ok (.aload_n 1, 1) := by decide +kernel
theorem dX4_weigh_58 : decode cX4_weigh 58 = .ok (.getfield 63, 3) := by decide +kernel
theorem dX4_weigh_61 : decode cX4_weigh 61 = .ok (.iload_n 2, 1) := by decide +kernel
theorem dX4_weigh_62 : decode cX4_weigh 62 = .ok (.iaload, 1) := by decide +kernel
theorem dX4_weigh_63 : decode cX4_weigh 63 = .ok (.iload 4, 2) := by decide +kernel
theorem dX4_weigh_65 : decode cX4_weigh 65 = .ok (.invokevirtual 66, 3) := by decide +kernel
theorem dX4_weigh_68 : decode cX4_weigh 68 = .ok (.iload_n 3, 1) := by decide +kernel
theorem dX4_weigh_69 : decode cX4_weigh 69 = .ok (.iand, 1) := by decide +kernel
theorem dX4_weigh_70 : decode cX4_weigh 70 = .ok (.iload_n 3, 1) := by decide +kernel
theorem dX4_weigh_71 : decode cX4_weigh 71 = .ok (.if_icmp .ne 16, 3) := by decide +kernel
theorem dX4_weigh_74 : decode cX4_weigh 74 = .ok (.aload_n 0, 1) := by decide +kernel
theorem dX4_weigh_75 : decode cX4_weigh 75 = .ok (.getfield 18, 3) := by decide +kernel
theorem dX4_weigh_78 : decode cX4_weigh 78 = .ok (.iload_n 2, 1) := by decide +kernel
theorem dX4_weigh_79 : decode cX4_weigh 79 = .ok (.dup2, 1) := by decide +kernel
theorem dX4_weigh_80 : decode cX4_weigh 80 = .ok (.iaload, 1) := by decide +kernel
theorem dX4_weigh_81 : decode cX4_weigh 81 = .ok (.iconst 1, 1) := by decide +kernel
theorem dX4_weigh_82 : decode cX4_weigh 82 = .ok (.iload 4, 2) := by decide +kernel
theorem dX4_weigh_84 : decode cX4_weigh 84 = .ok (.ishl, 1) := by decide +kernel
theorem dX4_weigh_85 : decode cX4_weigh 85 = .ok (.ior, 1) := by decide +kernel
theorem dX4_weigh_86 : decode cX4_weigh 86 = .ok (.iastore, 1) := by decide +kernel
theorem dX4_weigh_87 : decode cX4_weigh 87 = .ok (.iinc 4 1, 3) := by decide +kernel
theorem dX4_weigh_90 : decode cX4_weigh 90 = .ok (.goto (-43), 3) := by decide +kernel
theorem dX4_weigh_93 : decode cX4_weigh 93 = .ok (.return_, 1) := by decide +kernel
theorem dX4_bestOf_0 : decode cX4_bestOf 0 = .ok (.aload_n 0, 1) := by decide +kernel
theorem dX4_bestOf_1 : decode cX4_bestOf 1 = .ok (.getfield 21, 3) := by decide +kernel
theorem dX4_bestOf_4 : decode cX4_bestOf 4 = .ok (.iload_n 1, 1) := by decide +kernel
theorem dX4_bestOf_5 : decode cX4_bestOf 5 = .ok (.iaload, 1) := by decide +kernel
theorem dX4_bestOf_6 : decode cX4_bestOf 6 = .ok (.aload_n 0, 1) := by decide +kernel
theorem dX4_bestOf_7 : decode cX4_bestOf 7 = .ok (.getfield 9, 3) := by decide +kernel
theorem dX4_bestOf_10 : decode cX4_bestOf 10 = .ok (.iload_n 1, 1) := by decide +kernel
theorem dX4_bestOf_11 : decode cX4_bestOf 11 = .ok (.iconst 1, 1) := by decide +kernel
theorem dX4_bestOf_12 : decode cX4_bestOf 12 = .ok (.iadd, 1) := by decide +kernel
theorem dX4_bestOf_13 : decode cX4_bestOf 13 = .ok (.sipush 128, 3) := by decide +kernel
theorem dX4_bestOf_16 : decode cX4_bestOf 16 = .ok (.imul, 1) := by decide +kernel
theorem dX4_bestOf_17 : decode cX4_bestOf 17 = .ok (.iload_n 2, 1) := by decide +kernel
theorem dX4_bestOf_18 : decode cX4_bestOf 18 = .ok (.iadd, 1) := by decide +kernel
theorem dX4_bestOf_19 : decode cX4_bestOf 19 = .ok (.iaload, 1) := by decide +kernel
theorem dX4_bestOf_20 : decode cX4_bestOf 20 = .ok (.iadd, 1) := by decide +kernel
theorem dX4_bestOf_21 : decode cX4_bestOf 21 = .ok (.istore_n 3, 1) := by decide +kernel
theorem dX4_bestOf_22 : decode cX4_bestOf 22 = .ok (.aload_n 0, 1) := by decide +kernel
theorem dX4_bestOf_23 : decode cX4_bestOf 23 = .ok (.getfield 15, 3) := by decide +kernel
theorem dX4_bestOf_26 : decode cX4_bestOf 26 = .ok (.iload_n 1, 1) := by decide +kernel
theorem dX4_bestOf_27 : decode cX4_bestOf 27 = .ok (.iaload, 1) := by decide +kernel
theorem dX4_bestOf_28 : decode cX4_bestOf 28 = .ok (.iload_n 2, 1) := by decide +kernel
theorem dX4_bestOf_29 : decode cX4_bestOf 29 = .ok (.iconst (-1), 1) := by decide +kernel
theorem dX4_bestOf_30 : decode cX4_bestOf 30 = .ok (.ixor, 1) := by decide +kernel
theorem dX4_bestOf_31 : decode cX4_bestOf 31 = .ok (.iand, 1) := by decide +kernel
theorem dX4_bestOf_32 : decode cX4_bestOf 32 = .ok (.istore 4, 2) := by decide +kernel
theorem dX4_bestOf_34 : decode cX4_bestOf 34 = .ok (.iconst 0, 1) := by decide +kernel
theorem dX4_bestOf_35 : decode cX4_bestOf 35 = .ok (.istore 5, 2) := by decide +kernel
theorem dX4_bestOf_37 : decode cX4_bestOf 37 = .ok (.iload 5, 2) := by decide +kernel
theorem dX4_bestOf_39 : decode cX4_bestOf 39 = .ok (.bipush 7, 2) := by decide +kernel
theorem dX4_bestOf_41 : decode cX4_bestOf 41 = .ok (.if_icmp .ge 33, 3) := by decide +kernel
theorem dX4_bestOf_44 : decode cX4_bestOf 44 = .ok (.iload 4, 2) := by decide +kernel
theorem dX4_bestOf_46 : decode cX4_bestOf 46 = .ok (.iload 5, 2) := by decide +kernel
theorem dX4_bestOf_48 : decode cX4_bestOf 48 = .ok (.ishr, 1) := by decide +kernel
theorem dX4_bestOf_49 : decode cX4_bestOf 49 = .ok (.iconst 1, 1) := by decide +kernel
theorem dX4_bestOf_50 : decode cX4_bestOf 50 = .ok (.iand, 1) := by decide +kernel
theorem dX4_bestOf_51 : decode cX4_bestOf 51 = .ok (.iconst 1, 1) := by decide +kernel
theorem dX4_bestOf_52 : decode cX4_bestOf 52 = .ok (.if_icmp .ne 16, 3) := by decide +kernel
theorem dX4_bestOf_55 : decode cX4_bestOf 55 = .ok (.iload_n 3, 1) := by decide +kernel
theorem dX4_bestOf_56 : decode cX4_bestOf 56 = .ok (.aload_n 0, 1) := by decide +kernel
theorem dX4_bestOf_57 : decode cX4_bestOf 57 = .ok (.iload_n 1, 1) := by decide +kernel
theorem dX4_bestOf_58 : decode cX4_bestOf 58 = .ok (.iload_n 2, 1) := by decide +kernel
theorem dX4_bestOf_59 : decode cX4_bestOf 59 = .ok (.iload 5, 2) := by decide +kernel
theorem dX4_bestOf_61 : decode cX4_bestOf 61 = .ok (.invokevirtual 69, 3) := by decide +kernel
theorem dX4_bestOf_64 : decode cX4_bestOf 64 = .ok (.invokestatic 73, 3) := by decide +kernel
theorem dX4_bestOf_67 : decode cX4_bestOf 67 = .ok (.istore_n 3, 1) := by decide +kernel
theorem dX4_bestOf_68 : decode cX4_bestOf 68 = .ok (.iinc 5 1, 3) := by decide +kernel
theorem dX4_bestOf_71 : decode cX4_bestOf 71 = .ok (.goto (-34), 3) := by decide +kernel
theorem dX4_bestOf_74 : decode cX4_bestOf 74 = .ok (.iload_n 3, 1) := by decide +kernel
theorem dX4_bestOf_75 : decode cX4_bestOf 75 = .ok (.ireturn, 1) := by decide +kernel
theorem dX4_bestWith_0 : decode cX4_bestWith 0 = .ok (.aload_n 0, 1) := by decide +kernel
theorem dX4_bestWith_1 : decode cX4_bestWith 1 = .ok (.getfield 18, 3) := by decide +kernel
theorem dX4_bestWith_4 : decode cX4_bestWith 4 = .ok (.iload_n 1, 1) := by decide +kernel
theorem dX4_bestWith_5 : decode cX4_bestWith 5 = .ok (.iaload, 1) := by decide +kernel
theorem dX4_bestWith_6 : decode cX4_bestWith 6 = .ok (.iload_n 3, 1) := by decide +kernel
theorem dX4_bestWith_7 : decode cX4_bestWith 7 = .ok (.ishr, 1) := by decide +kernel
theorem dX4_bestWith_8 : decode cX4_bestWith 8 = .ok (.iconst 1, 1) := by decide +kernel
theorem dX4_bestWith_9 : decode cX4_bestWith 9 = .ok (.iand, 1) := by decide +kernel
theorem dX4_bestWith_10 : decode cX4_bestWith 10 = .ok (.aload_n 0, 1) := by decide +kernel
theorem dX4_bestWith_11 : decode cX4_bestWith 11 = .ok (.getfield 9, 3) := by decide +kernel
theorem dX4_bestWith_14 : decode cX4_bestWith 14 = .ok (.iload_n 1, 1) := by decide +kernel
theorem dX4_bestWith_15 : decode cX4_bestWith 15 = .ok (.iconst 1, 1) := by decide +kernel
theorem dX4_bestWith_16 : decode cX4_bestWith 16 = .ok (.iadd, 1) := by decide +kernel
theorem dX4_bestWith_17 : decode cX4_bestWith 17 = .ok (.sipush 128, 3) := by decide +kernel
theorem dX4_bestWith_20 : decode cX4_bestWith 20 = .ok (.imul, 1) := by decide +kernel
theorem dX4_bestWith_21 : decode cX4_bestWith 21 = .ok (.iload_n 2, 1) := by decide +kernel
theorem dX4_bestWith_22 : decode cX4_bestWith 22 = .ok (.iconst 1, 1) := by decide +kernel
theorem dX4_bestWith_23 : decode cX4_bestWith 23 = .ok (.iload_n 3, 1) := by decide +kernel
theorem dX4_bestWith_24 : decode cX4_bestWith 24 = .ok (.ishl, 1) := by decide +kernel
theorem dX4_bestWith_25 : decode cX4_bestWith 25 = .ok (.ior, 1) := by decide +kernel
theorem dX4_bestWith_26 : decode cX4_bestWith 26 = .ok (.iadd, 1) := by decide +kernel
theorem dX4_bestWith_27 : decode cX4_bestWith 27 = .ok (.iaload, 1) := by decide +kernel
theorem dX4_bestWith_28 : decode cX4_bestWith 28 = .ok (.iadd, 1) := by decide +kernel
theorem dX4_bestWith_29 : decode cX4_bestWith 29 = .ok (.ireturn, 1) := by decide +kernel
theorem dX4_firstBest_0 : decode cX4_firstBest 0 = .ok (.aload_n 0, 1) := by decide +kernel
theorem dX4_firstBest_1 : decode cX4_firstBest 1 = .ok (.getfield 15, 3) := by decide +kernel
theorem dX4_firstBest_4 : decode cX4_firstBest 4 = .ok (.iload_n 1, 1) := by decide +kernel
theorem dX4_firstBest_5 : decode cX4_firstBest 5 = .ok (.iaload, 1) := by decide +kernel
theorem dX4_firstBest_6 : decode cX4_firstBest 6 = .ok (.iload_n 2, 1) := by decide +kernel
theorem dX4_firstBest_7 : decode cX4_firstBest 7 = .ok (.iconst (-1), 1) := by decide +kernel
theorem dX4_firstBest_8 : decode cX4_firstBest 8 = .ok (.ixor, 1) := by decide +kernel
theorem dX4_firstBest_9 : decode cX4_firstBest 9 = .ok (.iand, 1) := by decide +kernel
theorem dX4_firstBest_10 : decode cX4_firstBest 10 = .ok (.istore_n 3, 1) := by decide +kernel
theorem dX4_firstBest_11 : decode cX4_firstBest 11 = .ok (.aload_n 0, 1) := by decide +kernel
theorem dX4_firstBest_12 : decode cX4_firstBest 12 = .ok (.getfield 9, 3) := by decide +kernel
theorem dX4_firstBest_15 : decode cX4_firstBest 15 = .ok (.iload_n 1, 1) := by decide +kernel
theorem dX4_firstBest_16 : decode cX4_firstBest 16 = .ok (.sipush 128, 3) := by decide +kernel
theorem dX4_firstBest_19 : decode cX4_firstBest 19 = .ok (.imul, 1) := by decide +kernel
theorem dX4_firstBest_20 : decode cX4_firstBest 20 = .ok (.iload_n 2, 1) := by decide +kernel
theorem dX4_firstBest_21 : decode cX4_firstBest 21 = .ok (.iadd, 1) := by decide +kernel
theorem dX4_firstBest_22 : decode cX4_firstBest 22 = .ok (.iaload, 1) := by decide +kernel
theorem dX4_firstBest_23 : decode cX4_firstBest 23 = .ok (.istore 4, 2) := by decide +kernel
theorem dX4_firstBest_25 : decode cX4_firstBest 25 = .ok (.iconst 0, 1) := by decide +kernel
theorem dX4_firstBest_26 : decode cX4_firstBest 26 = .ok (.istore 5, 2) := by decide +kernel
theorem dX4_firstBest_28 : decode cX4_firstBest 28 = .ok (.iload 5, 2) := by decide +kernel
theorem dX4_firstBest_30 : decode cX4_firstBest 30 = .ok (.bipush 7, 2) := by decide +kernel
theorem dX4_firstBest_32 : decode cX4_firstBest 32 = .ok (.if_icmp .ge 35, 3) := by decide +kernel
theorem dX4_firstBest_35 : decode cX4_firstBest 35 = .ok (.iload_n 3, 1) := by decide +kernel
theorem dX4_firstBest_36 : decode cX4_firstBest 36 = .ok (.iload 5, 2) := by decide +kernel
theorem dX4_firstBest_38 : decode cX4_firstBest 38 = .ok (.ishr, 1) := by decide +kernel
theorem dX4_firstBest_39 : decode cX4_firstBest 39 = .ok (.iconst 1, 1) := by decide +kernel
theorem dX4_firstBest_40 : decode cX4_firstBest 40 = .ok (.iand, 1) := by decide +kernel
theorem dX4_firstBest_41 : decode cX4_firstBest 41 = .ok (.iconst 1, 1) := by decide +kernel
theorem dX4_firstBest_42 : decode cX4_firstBest 42 = .ok (.if_icmp .ne 19, 3) := by decide +kernel
theorem dX4_firstBest_45 : decode cX4_firstBest 45 = .ok (.aload_n 0, 1) := by decide +kernel
theorem dX4_firstBest_46 : decode cX4_firstBest 46 = .ok (.iload_n 1, 1) := by decide +kernel
theorem dX4_firstBest_47 : decode cX4_firstBest 47 = .ok (.iload_n 2, 1) := by decide +kernel
theorem dX4_firstBest_48 : decode cX4_firstBest 48 = .ok (.iload 5, 2) := by decide +kernel
theorem dX4_firstBest_50 : decode cX4_firstBest 50 = .ok (.invokevirtual 69, 3) := by decide +kernel
theorem dX4_firstBest_53 : decode cX4_firstBest 53 = .ok (.iload 4, 2) := by decide +kernel
theorem dX4_firstBest_55 : decode cX4_firstBest 55 = .ok (.if_icmp .ne 6, 3) := by decide +kernel
theorem dX4_firstBest_58 : decode cX4_firstBest 58 = .ok (.iload 5, 2) := by decide +kernel
theorem dX4_firstBest_60 : decode cX4_firstBest 60 = .ok (.ireturn, 1) := by decide +kernel
theorem dX4_firstBest_61 : decode cX4_firstBest 61 = .ok (.iinc 5 1, 3) := by decide +kernel
theorem dX4_firstBest_64 : decode cX4_firstBest 64 = .ok (.goto (-36), 3) := by decide +kernel
theorem dX4_firstBest_67 : decode cX4_firstBest 67 = .ok (.iconst (-1), 1) := by decide +kernel
theorem dX4_firstBest_68 : decode cX4_firstBest 68 = .ok (.ireturn, 1) := by decide +kernel
theorem dX5_init_0 : decode cX5_init 0 = .ok (.aload_n 0, 1) := by decide +kernel
theorem dX5_init_1 : decode cX5_init 1 = .ok (.invokespecial 3, 3) := by decide +kernel
theorem dX5_init_4 : decode cX5_init 4 = .ok (.aload_n 0, 1) := by decide +kernel
theorem dX5_init_5 : decode cX5_init 5 = .ok (.new 9, 3) := by decide +kernel
theorem dX5_init_8 : decode cX5_init 8 = .ok (.dup, 1) := by decide +kernel
theorem dX5_init_9 : decode cX5_init 9 = .ok (.sipush 940, 3) := by decide +kernel
theorem dX5_init_12 : decode cX5_init 12 = .ok (.invokespecial 11, 3) := by decide +kernel
theorem dX5_init_15 : decode cX5_init 15 = .ok (.putfield 14, 3) := by decide +kernel
theorem dX5_init_18 : decode cX5_init 18 = .ok (.aload_n 0, 1) := by decide +kernel
theorem dX5_init_19 : decode cX5_init 19 = .ok (.bipush 36, 2) := by decide +kernel
theorem dX5_init_21 : decode cX5_init 21 = .ok (.newarray .long, 2) := by decide +kernel
theorem dX5_init_23 : decode cX5_init 23 = .ok (.putfield 20, 3) := by decide +kernel
theorem dX5_init_26 : decode cX5_init 26 = .ok (.aload_n 0, 1) := by decide +kernel
theorem dX5_init_27 : decode cX5_init 27 = .ok (.sipush 901, 3) := by decide +kernel
theorem dX5_init_30 : decode cX5_init 30 = .ok (.newarray .int, 2) := by decide +kernel
theorem dX5_init_32 : decode cX5_init 32 = .ok (.putfield 24, 3) := by decide +kernel
theorem dX5_init_35 : decode cX5_init 35 = .ok (.aload_n 0, 1) := by decide +kernel
theorem dX5_init_36 : decode cX5_init 36 = .ok (.sipush 901, 3) := by decide +kernel
theorem dX5_init_39 : decode cX5_init 39 = .ok (.newarray .int, 2) := by decide +kernel
theorem dX5_init_41 : decode cX5_init 41 = .ok (.putfield 28, 3) := by decide +kernel
theorem dX5_init_44 : decode cX5_init 44 = .ok (.aload_n 0, 1) := by decide +kernel
theorem dX5_init_45 : decode cX5_init 45 = .ok (.sipush 901, 3) := by decide +kernel
theorem dX5_init_48 : decode cX5_init 48 = .ok (.newarray .long, 2) := by decide +kernel
theorem dX5_init_50 : decode cX5_init 50 = .ok (.putfield 31, 3) := by decide +kernel
theorem dX5_init_53 : decode cX5_init 53 = .ok (.aload_n 0, 1) := by decide +kernel
theorem dX5_init_54 : decode cX5_init 54 = .ok (.ldc 34, 2) := by decide +kernel
theorem dX5_init_56 : decode cX5_init 56 = .ok (.iconst 0, 1) := by decide +kernel
theorem dX5_init_57 : decode cX5_init 57 = .ok (.invokevirtual 36, 3) := by decide +kernel
theorem dX5_init_60 : decode cX5_init 60 = .ok (.aload_n 0, 1) := by decide +kernel
theorem dX5_init_61 : decode cX5_init 61 = .ok (.ldc 40, 2) := by decide +kernel
theorem dX5_init_63 : decode cX5_init 63 = .ok (.bipush 17, 2) := by decide +kernel
theorem dX5_init_65 : decode cX5_init 65 = .ok (.invokevirtual 36, 3) := by decide +kernel
theorem dX5_init_68 : decode cX5_init 68 = .ok (.aload_n 0, 1) := by decide +kernel
theorem dX5_init_69 : decode cX5_init 69 = .ok (.ldc 42, 2) := by decide +kernel
theorem dX5_init_71 : decode cX5_init 71 = .ok (.bipush 24, 2) := by decide +kernel
theorem dX5_init_73 : decode cX5_init 73 = .ok (.invokevirtual 36, 3) := by decide +kernel
theorem dX5_init_76 : decode cX5_init 76 = .ok (.return_, 1) := by decide +kernel
theorem dX5_learn_0 : decode cX5_learn 0 = .ok (.iload_n 2, 1) := by decide +kernel
theorem dX5_learn_1 : decode cX5_learn 1 = .ok (.istore_n 3, 1) := by decide +kernel
theorem dX5_learn_2 : decode cX5_learn 2 = .ok (.lconst 0, 1) := by decide +kernel
theorem dX5_learn_3 : decode cX5_learn 3 = .ok (.lstore 4, 2) := by decide +kernel
theorem dX5_learn_5 : decode cX5_learn 5 = .ok (.iconst 0, 1) := by decide +kernel
theorem dX5_learn_6 : decode cX5_learn 6 = .ok (.istore 6, 2) := by decide +kernel
theorem dX5_learn_8 : decode cX5_learn 8 = .ok (.iload 6, 2) := by decide +kernel
theorem dX5_learn_10 : decode cX5_learn 10 = .ok (.aload_n 1, 1) := by decide +kernel
theorem dX5_learn_11 : decode cX5_learn 11 = .ok (.invokevirtual 44, 3) := by decide +kernel
theorem dX5_learn_14 : decode cX5_learn 14 = .ok (.if_icmp .ge 62, 3) := by decide +kernel
theorem dX5_learn_17 : decode cX5_learn 17 = .ok (.aload_n 1, 1) := by decide +kernel
theorem dX5_learn_18 : decode cX5_learn 18 = .ok (.iload 6, 2) := by decide +kernel
theorem dX5_learn_20 : decode cX5_learn 20 = .ok (.invokevirtual 50, 3) := by decide +kernel
theorem dX5_learn_23 : decode cX5_learn 23 = .ok (.istore 7, 2) := by decide +kernel
theorem dX5_learn_25 : decode cX5_learn 25 = .ok (.iload 7, 2) := by decide +kernel
theorem dX5_learn_27 : decode cX5_learn 27 = .ok (.bipush 32, 2) := by decide +kernel
theorem dX5_learn_29 : decode cX5_learn 29 = .ok (.if_icmp .eq 21, 3) := by decide +kernel
theorem dX5_learn_32 : decode cX5_learn 32 = .ok (.lload 4, 2) := by decide +kernel
theorem dX5_learn_34 : decode cX5_learn 34 = .ok (.ldc2_w 54, 3) := by decide +kernel
theorem dX5_learn_37 : decode cX5_learn 37 = .ok (.lmul, 1) := by decide +kernel
theorem dX5_learn_38 : decode cX5_learn 38 = .ok (.iload 7, 2) := by decide +kernel
theorem dX5_learn_40 : decode cX5_learn 40 = .ok (.bipush 96, 2) := by decide +kernel
theorem dX5_learn_42 : decode cX5_learn 42 = .ok (.isub, 1) := by decide +kernel
theorem dX5_learn_43 : decode cX5_learn 43 = .ok (.i2l, 1) := by decide +kernel
theorem dX5_learn_44 : decode cX5_learn 44 = .ok (.ladd, 1) := by decide +kernel
theorem dX5_learn_45 : decode cX5_learn 45 = .ok (.lstore 4, 2) := by decide +kernel
theorem dX5_learn_47 : decode cX5_learn 47 = .ok (.goto 23, 3) := by decide +kernel
theorem dX5_learn_50 : decode cX5_learn 50 = .ok (.iload_n 3, 1) := by decide +kernel
theorem dX5_learn_51 : decode cX5_learn 51 = .ok (.bipush 36, 2) := by decide +kernel
theorem dX5_learn_53 : decode cX5_learn 53 = .ok (.if_icmp .ge 17, 3) := by decide +kernel
theorem dX5_learn_56 : decode cX5_learn 56 = .ok (.aload_n 0, 1) := by decide +kernel
theorem dX5_learn_57 : decode cX5_learn 57 = .ok (.getfield 20, 3) := by decide +kernel
theorem dX5_learn_60 : decode cX5_learn 60 = .ok (.iload_n 3, 1) := by decide +kernel
theorem dX5_learn_61 : decode cX5_learn 61 = .ok (.lload 4, 2) := by decide +kernel
theorem dX5_learn_63 : decode cX5_learn 63 = .ok (.lastore, 1) := by decide +kernel
theorem dX5_learn_64 : decode cX5_learn 64 = .ok (.iinc 3 1, 3) := by decide +kernel
theorem dX5_learn_67 : decode cX5_learn 67 = .ok (.lconst 0, 1) := by decide +kernel
theorem dX5_learn_68 : decode cX5_learn 68 = .ok (.lstore 4, 2) := by decide +kernel
theorem dX5_learn_70 : decode cX5_learn 70 = .ok (.iinc 6 1, 3) := by decide +kernel
theorem dX5_learn_73 : decode cX5_learn 73 = .ok (.goto (-65), 3) := by decide +kernel
theorem dX5_learn_76 : decode cX5_learn 76 = .ok (.return_, 1) := by decide +kernel
theorem dX5_begin_0 : decode cX5_begin 0 = .ok (.aload_n 0, 1) := by decide +kernel
theorem dX5_begin_1 : decode cX5_begin 1 = .ok (.getfield 14, 3) := by decide +kernel
theorem dX5_begin_4 : decode cX5_begin 4 = .ok (.getfield 56, 3) := by decide +kernel
theorem dX5_begin_7 : decode cX5_begin 7 = .ok (.iload_n 1, 1) := by decide +kernel
theorem dX5_begin_8 : decode cX5_begin 8 = .ok (.invokestatic 59, 3) := by decide +kernel
theorem dX5_begin_11 : decode cX5_begin 11 = .ok (.istore_n 2, 1) := by decide +kernel
theorem dX5_begin_12 : decode cX5_begin 12 = .ok (.aload_n 0, 1) := by decide +kernel
theorem dX5_begin_13 : decode cX5_begin 13 = .ok (.iconst 0, 1) := by decide +kernel
theorem dX5_begin_14 : decode cX5_begin 14 = .ok (.putfield 65, 3) := by decide +kernel
theorem dX5_begin_17 : decode cX5_begin 17 = .ok (.iconst 0, 1) := by decide +kernel
theorem dX5_begin_18 : decode cX5_begin 18 = .ok (.istore_n 3, 1) := by decide +kernel
theorem dX5_begin_19 : decode cX5_begin 19 = .ok (.iconst 0, 1) := by decide +kernel
theorem dX5_begin_20 : decode cX5_begin 20 = .ok (.istore 4, 2) := by decide +kernel
theorem dX5_begin_22 : decode cX5_begin 22 = .ok (.iload 4, 2) := by decide +kernel
theorem dX5_begin_24 : decode cX5_begin 24 = .ok (.iload_n 2, 1) := by decide +kernel
theorem dX5_begin_25 : decode cX5_begin 25 = .ok (.if_icmp .ge 22, 3) := by decide +kernel
theorem dX5_begin_28 : decode cX5_begin 28 = .ok (.iload 4, 2) := by decide +kernel
theorem dX5_begin_30 : decode cX5_begin 30 = .ok (.iload_n 3, 1) := by decide +kernel
theorem dX5_begin_31 : decode cX5_begin 31 = .ok (.if_icmp .lt 10, 3) := by decide +kernel
theorem dX5_begin_34 : decode cX5_begin 34 = .ok (.aload_n 0, 1) := by decide +kernel
theorem dX5_begin_35 : decode cX5_begin 35 = .ok (.iload 4, 2) := by decide +kernel
theorem dX5_begin_37 : decode cX5_begin 37 = .ok (.invokevirtual 68, 3) := by decide +kernel
theorem dX5_begin_40 : decode cX5_begin 40 = .ok (.istore_n 3, 1) := by decide +kernel
theorem dX5_begin_41 : decode cX5_begin 41 = .ok (.iinc 4 1, 3) := by decide +kernel
theorem dX5_begin_44 : decode cX5_begin 44 = .ok (.goto (-22), 3) := by decide +kernel
theorem dX5_begin_47 : decode cX5_begin 47 = .ok (.aload_n 0, 1) := by decide +kernel
theorem dX5_begin_48 : decode cX5_begin 48 = .ok (.iload_n 2, 1) := by decide +kernel
theorem dX5_begin_49 : decode cX5_begin 49 = .ok (.bipush 40, 2) := by decide +kernel
theorem dX5_begin_51 : decode cX5_begin 51 = .ok (.lconst 0, 1) := by decide +kernel
theorem dX5_begin_52 : decode cX5_begin 52 = .ok (.invokevirtual 72, 3) := by decide +kernel
theorem dX5_begin_55 : decode cX5_begin 55 = .ok (.aload_n 0, 1) := by decide +kernel
theorem dX5_begin_56 : decode cX5_begin 56 = .ok (.aload_n 0, 1) := by decide +kernel
theorem dX5_begin_57 : decode cX5_begin 57 = .ok (.getfield 14, 3) := by decide +kernel
theorem dX5_begin_60 : decode cX5_begin 60 = .ok (.getfield 56, 3) := by decide +kernel
theorem dX5_begin_63 : decode cX5_begin 63 = .ok (.iload_n 1, 1) := by decide +kernel
theorem dX5_begin_64 : decode cX5_begin 64 = .ok (.if_icmp .le 7, 3) := by decide +kernel
theorem dX5_begin_67 : decode cX5_begin 67 = .ok (.iconst 1, 1) := by decide +kernel
theorem dX5_begin_68 : decode cX5_begin 68 = .ok (.goto 4, 3) := by decide +kernel
theorem dX5_begin_71 : decode cX5_begin 71 = .ok (.iconst 0, 1) := by decide +kernel
theorem dX5_begin_72 : decode cX5_begin 72 = .ok (.putfield 76, 3) := by decide +kernel
theorem dX5_begin_75 : decode cX5_begin 75 = .ok (.aload_n 0, 1) := by decide +kernel
theorem dX5_begin_76 : decode cX5_begin 76 = .ok (.iconst 0, 1) := by decide +kernel
theorem dX5_begin_77 : decode cX5_begin 77 = .ok (.putfield 80, 3) := by decide +kernel
theorem dX5_begin_80 : decode cX5_begin 80 = .ok (.aload_n 0, 1) := by decide +kernel
theorem dX5_begin_81 : decode cX5_begin 81 = .ok (.iconst 0, 1) := by decide +kernel
theorem dX5_begin_82 : decode cX5_begin 82 = .ok (.putfield 83, 3) := by decide +kernel
theorem dX5_begin_85 : decode cX5_begin 85 = .ok (.aload_n 0, 1) := by decide +kernel
theorem dX5_begin_86 : decode cX5_begin 86 = .ok (.iconst 0, 1) := by decide +kernel
theorem dX5_begin_87 : decode cX5_begin 87 = .ok (.putfield 86, 3) := by decide +kernel
theorem dX5_begin_90 : decode cX5_begin 90 = .ok (.return_, 1) := by decide +kernel
theorem dX5_splitAt_0 : decode cX5_splitAt 0 = .ok (.aload_n 0, 1) := by decide +kernel
theorem dX5_splitAt_1 : decode cX5_splitAt 1 = .ok (.getfield 14, 3) := by decide +kernel
theorem dX5_splitAt_4 : decode cX5_splitAt 4 = .ok (.getfield 89, 3) := by decide +kernel
theorem dX5_splitAt_7 : decode cX5_splitAt 7 = .ok (.iload_n 1, 1) := by decide +kernel
theorem dX5_splitAt_8 : decode cX5_splitAt 8 = .ok (.iaload, 1) := by decide +kernel
theorem dX5_splitAt_9 : decode cX5_splitAt 9 = .ok (.istore_n 2, 1) := by decide +kernel
theorem dX5_splitAt_10 : decode cX5_splitAt 10 = .ok (.iload_n 2, 1) := by decide +kernel
theorem dX5_splitAt_11 : decode cX5_splitAt 11 = .ok (.invokestatic 92, 3) := by decide +kernel
theorem dX5_splitAt_14 : decode cX5_splitAt 14 = .ok (.ifCond .eq 9, 3) := by decide +kernel
theorem dX5_splitAt_17 : decode cX5_splitAt 17 = .ok (.aload_n 0, 1) := by decide +kernel
theorem dX5_splitAt_18 : decode cX5_splitAt 18 = .ok (.iload_n 1, 1) := by decide +kernel
theorem dX5_splitAt_19 : decode cX5_splitAt 19 = .ok (.invokevirtual 96, 3) := by decide +kernel
theorem dX5_splitAt_22 : decode cX5_splitAt 22 = .ok (.ireturn, 1) := by decide +kernel
theorem dX5_splitAt_23 : decode cX5_splitAt 23 = .ok (.iload_n 2, 1) := by decide +kernel
theorem dX5_splitAt_24 : decode cX5_splitAt 24 = .ok (.bipush 32, 2) := by decide +kernel
theorem dX5_splitAt_26 : decode cX5_splitAt 26 = .ok (.if_icmp .eq 30, 3) := by decide +kernel
theorem dX5_splitAt_29 : decode cX5_splitAt 29 = .ok (.iload_n 2, 1) := by decide +kernel
theorem dX5_splitAt_30 : decode cX5_splitAt 30 = .ok (.bipush 10, 2) := by decide +kernel
theorem dX5_splitAt_32 : decode cX5_splitAt 32 = .ok (.if_icmp .eq 24, 3) := by decide +kernel
theorem dX5_splitAt_35 : decode cX5_splitAt 35 = .ok (.aload_n 0, 1) := by decide +kernel
theorem dX5_splitAt_36 : decode cX5_splitAt 36 = .ok (.iload_n 1, 1) := by decide +kernel
theorem dX5_splitAt_37 : decode cX5_splitAt 37 = .ok (.iload_n 2, 1) := by decide +kernel
theorem dX5_splitAt_38 : decode cX5_splitAt 38 = .ok (.invokestatic 99, 3) := by decide +kernel
theorem dX5_splitAt_41 : decode cX5_splitAt 41 = .ok (.ifCond .eq 8, 3) := by decide +kernel
theorem dX5_splitAt_44 : decode cX5_splitAt 44 = .ok (.bipush 38, 2) := by decide +kernel
theorem dX5_splitAt_46 : decode cX5_splitAt 46 = .ok (.goto 5, 3) := by decide +kernel
theorem dX5_splitAt_49 : decode cX5_splitAt 49 = .ok (.bipush 39, 2) := by decide +kernel
theorem dX5_splitAt_51 : decode cX5_splitAt 51 = .ok (.iload_n 2, 1) := by decide +kernel
theorem dX5_splitAt_52 : decode cX5_splitAt 52 = .ok (.i2l, 1) := by decide +kernel
theorem dX5_splitAt_53 : decode cX5_splitAt 53 = .ok (.invokevirtual 72, 3) := by decide +kernel
theorem dX5_splitAt_56 : decode cX5_splitAt 56 = .ok (.iload_n 1, 1) := by decide +kernel
theorem dX5_splitAt_57 : decode cX5_splitAt 57 = .ok (.iconst 1, 1) := by decide +kernel
theorem dX5_splitAt_58 : decode cX5_splitAt 58 = .ok (.iadd, 1) := by decide +kernel
theorem dX5_splitAt_59 : decode cX5_splitAt 59 = .ok (.ireturn, 1) := by decide +kernel
theorem dX5_splitRun_0 : decode cX5_splitRun 0 = .ok (.iconst 0, 1) := by decide +kernel
theorem dX5_splitRun_1 : decode cX5_splitRun 1 = .ok (.istore_n 2, 1) := by decide +kernel
theorem dX5_splitRun_2 : decode cX5_splitRun 2 = .ok (.lconst 0, 1) := by decide +kernel
theorem dX5_splitRun_3 : decode cX5_splitRun 3 = .ok (.lstore_n 3, 1) := by decide +kernel
theorem dX5_splitRun_4 : decode cX5_splitRun 4 = .ok (.lconst 0, 1) := by decide +kernel
theorem dX5_splitRun_5 : decode cX5_splitRun 5 = .ok (.lstore 5, 2) := by decide +kernel
theorem dX5_splitRun_7 : decode cX5_splitRun 7 = .ok (.iload_n 1, 1) := by decide +kernel
theorem dX5_splitRun_8 : decode cX5_splitRun 8 = .ok (.istore 7, 2) := by decide +kernel
theorem dX5_splitRun_10 : decode cX5_splitRun 10 = .ok (.iload 7, 2) := by decide +kernel
theorem dX5_splitRun_12 : decode cX5_splitRun 12 = .ok (.aload_n 0, 1) := by decide +kernel
theorem dX5_splitRun_13 : decode cX5_splitRun 13 = .ok (.getfield 14, 3) := by decide +kernel
theorem dX5_splitRun_16 : decode cX5_splitRun 16 = .ok (.getfield 56, 3) := by decide +kernel
theorem dX5_splitRun_19 : decode cX5_splitRun 19 = .ok (.if_icmp .ge 80, 3) := by decide +kernel
theorem dX5_splitRun_22 : decode cX5_splitRun 22 = .ok (.aload_n 0, 1) := by decide +kernel
theorem dX5_splitRun_23 : decode cX5_splitRun 23 = .ok (.getfield 14, 3) := by decide +kernel
theorem dX5_splitRun_26 : decode cX5_splitRun 26 = .ok (.getfield 89, 3) := by decide +kernel
theorem dX5_splitRun_29 : decode cX5_splitRun 29 = .ok (.iload 7, 2) := by decide +kernel
theorem dX5_splitRun_31 : decode cX5_splitRun 31 = .ok (.iaload, 1) := by decide +kernel
theorem dX5_splitRun_32 : decode cX5_splitRun 32 = .ok (.invokestatic 92, 3) := by decide +kernel
theorem dX5_splitRun_35 : decode cX5_splitRun 35 = .ok (.ifCond .eq 64, 3) := by decide +kernel
theorem dX5_splitRun_38 : decode cX5_splitRun 38 = .ok (.aload_n 0, 1) := by decide +kernel
theorem dX5_splitRun_39 : decode cX5_splitRun 39 = .ok (.getfield 14, 3) := by decide +kernel
theorem dX5_splitRun_42 : decode cX5_splitRun 42 = .ok (.getfield 89, 3) := by decide +kernel
theorem dX5_splitRun_45 : decode cX5_splitRun 45 = .ok (.iload 7, 2) := by decide +kernel
theorem dX5_splitRun_47 : decode cX5_splitRun 47 = .ok (.iaload, 1) := by decide +kernel
theorem dX5_splitRun_48 : decode cX5_splitRun 48 = .ok (.istore 8, 2) := by decide +kernel
theorem dX5_splitRun_50 : decode cX5_splitRun 50 = .ok (.iload_n 2, 1) := by decide +kernel
theorem dX5_splitRun_51 : decode cX5_splitRun 51 = .ok (.iload 8, 2) := by decide +kernel
theorem dX5_splitRun_53 : decode cX5_splitRun 53 = .ok (.bipush 97, 2) := by decide +kernel
theorem dX5_splitRun_55 : decode cX5_splitRun 55 = .ok (.if_icmp .lt 7, 3) := by decide +kernel
theorem dX5_splitRun_58 : decode cX5_splitRun 58 = .ok (.iconst 1, 1) := by decide +kernel
theorem dX5_splitRun_59 : decode cX5_splitRun 59 = .ok (.goto 4, 3) := by decide +kernel
theorem dX5_splitRun_62 : decode cX5_splitRun 62 = .ok (.iconst 0, 1) := by decide +kernel
theorem dX5_splitRun_63 : decode cX5_splitRun 63 = .ok (.iadd, 1) := by decide +kernel
theorem dX5_splitRun_64 : decode cX5_splitRun 64 = .ok (.istore_n 2, 1) := by decide +kernel
theorem dX5_splitRun_65 : decode cX5_splitRun 65 = .ok (.lload_n 3, 1) := by decide +kernel
theorem dX5_splitRun_66 : decode cX5_splitRun 66 = .ok (.ldc2_w 54, 3) := by decide +kernel
theorem dX5_splitRun_69 : decode cX5_splitRun 69 = .ok (.lmul, 1) := by decide +kernel
theorem dX5_splitRun_70 : decode cX5_splitRun 70 = .ok (.iload 8, 2) := by decide +kernel
theorem dX5_splitRun_72 : decode cX5_splitRun 72 = .ok (.bipush 96, 2) := by decide +kernel
theorem dX5_splitRun_74 : decode cX5_splitRun 74 = .ok (.isub, 1) := by decide +kernel
theorem dX5_splitRun_75 : decode cX5_splitRun 75 = .ok (.i2l, 1) := by decide +kernel
theorem dX5_splitRun_76 : decode cX5_splitRun 76 = .ok (.ladd, 1) := by decide +kernel
theorem dX5_splitRun_77 : decode cX5_splitRun 77 = .ok (.lstore_n 3, 1) := by decide +kernel
theorem dX5_splitRun_78 : decode cX5_splitRun 78 = .ok (.lload 5, 2) := by decide +kernel
theorem dX5_splitRun_80 : decode cX5_splitRun 80 = .ok (.ldc2_w 102, 3) := by decide +kernel
theorem dX5_splitRun_83 : decode cX5_splitRun 83 = .ok (.lmul, 1) := by decide +kernel
theorem dX5_splitRun_84 : decode cX5_splitRun 84 = .ok (.iload 8, 2) := by decide +kernel
theorem dX5_splitRun_86 : decode cX5_splitRun 86 = .ok (.bipush 48, 2) := by decide +kernel
theorem dX5_splitRun_88 : decode cX5_splitRun 88 = .ok (.isub, 1) := by decide +kernel
theorem dX5_splitRun_89 : decode cX5_splitRun 89 = .ok (.i2l, 1) := by decide +kernel
theorem dX5_splitRun_90 : decode cX5_splitRun 90 = .ok (.ladd, 1) := by decide +kernel
theorem dX5_splitRun_91 : decode cX5_splitRun 91 = .ok (.lstore 5, 2) := by decide +kernel
theorem dX5_splitRun_93 : decode cX5_splitRun 93 = .ok (.iinc 7 1, 3) := by decide +kernel
theorem dX5_splitRun_96 : decode cX5_splitRun 96 = .ok (.goto (-86), 3) := by decide +kernel
theorem dX5_splitRun_99 : decode cX5_splitRun 99 = .ok (.iload 7, 2) := by decide +kernel
theorem dX5_splitRun_101 : decode cX5_splitRun 101 = .ok (.iload_n 1, 1) := by decide +kernel
theorem dX5_splitRun_102 : decode cX5_splitRun 102 = .ok (.isub, 1) := by decide +kernel
theorem dX5_splitRun_103 : decode cX5_splitRun 103 = .ok (.istore 8, 2) := by decide +kernel
theorem dX5_splitRun_105 : decode cX5_splitRun 105 = .ok (.iload_n 2, 1) := by decide +kernel
theorem dX5_splitRun_106 : decode cX5_splitRun 106 = .ok (.iload 8, 2) := by decide +kernel
theorem dX5_splitRun_108 : decode cX5_splitRun 108 = .ok (.if_icmp .ne 24, 3) := by decide +kernel
theorem dX5_splitRun_111 : decode cX5_splitRun 111 = .ok (.iload 8, 2) := by decide +kernel
theorem dX5_splitRun_113 : decode cX5_splitRun 113 = .ok (.bipush 7, 2) := by decide +kernel
theorem dX5_splitRun_115 : decode cX5_splitRun 115 = .ok (.if_icmp .gt 17, 3) := by decide +kernel
theorem dX5_splitRun_118 : decode cX5_splitRun 118 = .ok (.aload_n 0, 1) := by decide +kernel
theorem dX5_splitRun_119 : decode cX5_splitRun 119 = .ok (.iload_n 1, 1) := by decide +kernel
theorem dX5_splitRun_120 : decode cX5_splitRun 120 = .ok (.aload_n 0, 1) := by decide +kernel
theorem dX5_splitRun_121 : decode cX5_splitRun 121 = .ok (.lload_n 3, 1) := by decide +kernel
theorem dX5_splitRun_122 : decode cX5_splitRun 122 = .ok (.invokevirtual 104, 3) := by decide +kernel
theorem dX5_splitRun_125 : decode cX5_splitRun 125 = .ok (.lload_n 3, 1) := by decide +kernel
theorem dX5_splitRun_126 : decode cX5_splitRun 126 = .ok (.invokevirtual 72, 3) := by decide +kernel
theorem dX5_splitRun_129 : decode cX5_splitRun 129 = .ok (.goto 33, 3) := by decide +kernel
theorem dX5_splitRun_132 : decode cX5_splitRun 132 = .ok (.iload_n 2, 1) := by decide +kernel
theorem dX5_splitRun_133 : decode cX5_splitRun 133 = .ok (.ifCond .ne 21, 3) := by decide +kernel
theorem dX5_splitRun_136 : decode cX5_splitRun 136 = .ok (.iload 8, 2) := by decide +kernel
theorem dX5_splitRun_138 : decode cX5_splitRun 138 = .ok (.iconst 3, 1) := by decide +kernel
theorem dX5_splitRun_139 : decode cX5_splitRun 139 = .ok (.if_icmp .gt 15, 3) := by decide +kernel
theorem dX5_splitRun_142 : decode cX5_splitRun 142 = .ok (.aload_n 0, 1) := by decide +kernel
theorem dX5_splitRun_143 : decode cX5_splitRun 143 = .ok (.iload_n 1, 1) := by decide +kernel
theorem dX5_splitRun_144 : decode cX5_splitRun 144 = .ok (.bipush 37, 2) := by decide +kernel
theorem dX5_splitRun_146 : decode cX5_splitRun 146 = .ok (.lload 5, 2) := by decide +kernel
theorem dX5_splitRun_148 : decode cX5_splitRun 148 = .ok (.invokevirtual 72, 3) := by decide +kernel
theorem dX5_splitRun_151 : decode cX5_splitRun 151 = .ok (.goto 11, 3) := by decide +kernel
theorem dX5_splitRun_154 : decode cX5_splitRun 154 = .ok (.aload_n 0, 1) := by decide +kernel
theorem dX5_splitRun_155 : decode cX5_splitRun 155 = .ok (.iload_n 1, 1) := by decide +kernel
theorem dX5_splitRun_156 : decode cX5_splitRun 156 = .ok (.bipush 39, 2) := by decide +kernel
theorem dX5_splitRun_158 : decode cX5_splitRun 158 = .ok (.lconst 0, 1) := by decide +kernel
theorem dX5_splitRun_159 : decode cX5_splitRun 159 = .ok (.invokevirtual 72, 3) := by decide +kernel
theorem dX5_splitRun_162 : decode cX5_splitRun 162 = .ok (.iload 7, 2) := by decide +kernel
theorem dX5_splitRun_164 : decode cX5_splitRun 164 = .ok (.ireturn, 1) := by decide +kernel
theorem dX5_addToken_0 : decode cX5_addToken 0 = .ok (.aload_n 0, 1) := by decide +kernel
theorem dX5_addToken_1 : decode cX5_addToken 1 = .ok (.getfield 65, 3) := by decide +kernel
theorem dX5_addToken_4 : decode cX5_addToken 4 = .ok (.aload_n 0, 1) := by decide +kernel
theorem dX5_addToken_5 : decode cX5_addToken 5 = .ok (.getfield 24, 3) := by decide +kernel
theorem dX5_addToken_8 : decode cX5_addToken 8 = .ok (.arraylength, 1) := by decide +kernel
theorem dX5_addToken_9 : decode cX5_addToken 9 = .ok (.if_icmp .ge 43, 3) := by decide +kernel
theorem dX5_addToken_12 : decode cX5_addToken 12 = .ok (.aload_n 0, 1) := by decide +kernel
theorem dX5_addToken_13 : decode cX5_addToken 13 = .ok (.getfield 24, 3) := by decide +kernel
theorem dX5_addToken_16 : decode cX5_addToken 16 = .ok (.aload_n 0, 1) := by decide +kernel
theorem dX5_addToken_17 : decode cX5_addToken 17 = .ok (.getfield 65, 3) := by decide +kernel
theorem dX5_addToken_20 : decode cX5_addToken 20 = .ok (.iload_n 1, 1) := by decide +kernel
theorem dX5_addToken_21 : decode cX5_addToken 21 = .ok (.iastore, 1) := by decide +kernel
theorem dX5_addToken_22 : decode cX5_addToken 22 = .ok (.aload_n 0, 1) := by decide +kernel
theorem dX5_addToken_23 : decode cX5_addToken 23 = .ok (.getfield 28, 3) := by decide +kernel
theorem dX5_addToken_26 : decode cX5_addToken 26 = .ok (.aload_n 0, 1) := by decide +kernel
theorem dX5_addToken_27 : decode cX5_addToken 27 = .ok (.getfield 65, 3) := by decide +kernel
theorem dX5_addToken_30 : decode cX5_addToken 30 = .ok (.iload_n 2, 1) := by decide +kernel
theorem dX5_addToken_31 : decode cX5_addToken 31 = .ok (.iastore, 1) := by decide +kernel
theorem dX5_addToken_32 : decode cX5_addToken 32 = .ok (.aload_n 0, 1) := by decide +kernel
theorem dX5_addToken_33 : decode cX5_addToken 33 = .ok (.getfield 31, 3) := by decide +kernel
theorem dX5_addToken_36 : decode cX5_addToken 36 = .ok (.aload_n 0, 1) := by decide +kernel
theorem dX5_addToken_37 : decode cX5_addToken 37 = .ok (.getfield 65, 3) := by decide +kernel
theorem dX5_addToken_40 : decode cX5_addToken 40 = .ok (.lload_n 3, 1) := by decide +kernel
theorem dX5_addToken_41 : decode cX5_addToken 41 = .ok (.lastore, 1) := by decide +kernel
theorem dX5_addToken_42 : decode cX5_addToken 42 = .ok (.aload_n 0, 1) := by decide +kernel
theorem dX5_addToken_43 : decode cX5_addToken 43 = .ok (.dup, 1) := by decide +kernel
theorem dX5_addToken_44 : decode cX5_addToken 44 = .ok (.getfield 65, 3) := by decide +kernel
theorem dX5_addToken_47 : decode cX5_addToken 47 = .ok (.iconst 1, 1) := by decide +kernel
theorem dX5_addToken_48 : decode cX5_addToken 48 = .ok (.iadd, 1) := by decide +kernel
theorem dX5_addToken_49 : decode cX5_addToken 49 = .ok (.putfield 65, 3) := by decide +kernel
theorem dX5_addToken_52 : decode cX5_addToken 52 = .ok (.return_, 1) := by decide +kernel
theorem dX5_wordSort_0 : decode cX5_wordSort 0 = .ok (.iconst 0, 1) := by decide +kernel
theorem dX5_wordSort_1 : decode cX5_wordSort 1 = .ok (.istore_n 3, 1) := by decide +kernel
theorem dX5_wordSort_2 : decode cX5_wordSort 2 = .ok (.iload_n 3, 1) := by decide +kernel
theorem dX5_wordSort_3 : decode cX5_wordSort 3 = .ok (.bipush 36, 2) := by decide +kernel
theorem dX5_wordSort_5 : decode cX5_wordSort 5 = .ok (.if_icmp .ge 22, 3) := by decide +kernel
theorem dX5_wordSort_8 : decode cX5_wordSort 8 = .ok (.aload_n 0, 1) := by decide +kernel
theorem dX5_wordSort_9 : decode cX5_wordSort 9 = .ok (.getfield 20, 3) := by decide +kernel
theorem dX5_wordSort_12 : decode cX5_wordSort 12 = .ok (.iload_n 3, 1) := by decide +kernel
theorem dX5_wordSort_13 : decode cX5_wordSort 13 = .ok (.laload, 1) := by decide +kernel
theorem dX5_wordSort_14 : decode cX5_wordSort 14 = .ok (.lload_n 1, 1) := by decide +kernel
theorem dX5_wordSort_15 : decode cX5_wordSort 15 = .ok (.lcmp, 1) := by decide +kernel
theorem dX5_wordSort_16 : decode cX5_wordSort 16 = .ok (.ifCond .ne 5, 3) := by decide +kernel
theorem dX5_wordSort_19 : decode cX5_wordSort 19 = .ok (.iload_n 3, 1) := by decide +kernel
theorem dX5_wordSort_20 : decode cX5_wordSort 20 = .ok (.ireturn, 1) := by decide +kernel
theorem dX5_wordSort_21 : decode cX5_wordSort 21 = .ok (.iinc 3 1, 3) := by decide +kernel
theorem dX5_wordSort_24 : decode cX5_wordSort 24 = .ok (.goto (-22), 3) := by decide +kernel
theorem dX5_wordSort_27 : decode cX5_wordSort 27 = .ok (.bipush 36, 2) := by decide +kernel
theorem dX5_wordSort_29 : decode cX5_wordSort 29 = .ok (.ireturn, 1) := by decide +kernel
theorem dX5_isRunSign_0 : decode cX5_isRunSign 0 = .ok (.iload_n 0, 1) := by decide +kernel
theorem dX5_isRunSign_1 : decode cX5_isRunSign 1 = .ok (.bipush 97, 2) := by decide +kernel
theorem dX5_isRunSign_3 : decode cX5_isRunSign 3 = .ok (.if_icmp .lt 9, 3) := by decide +kernel
theorem dX5_isRunSign_6 : decode cX5_isRunSign 6 = .ok (.iload_n 0, 1) := by decide +kernel
theorem dX5_isRunSign_7 : decode cX5_isRunSign 7 = .ok (.bipush 122, 2) := by decide +kernel
theorem dX5_isRunSign_9 : decode cX5_isRunSign 9 = .ok (.if_icmp .le 15, 3) := by decide +kernel
theorem dX5_isRunSign_12 : decode cX5_isRunSign 12 = .ok (.iload_n 0, 1) := by decide +kernel
theorem dX5_isRunSign_13 : decode cX5_isRunSign 13 = .ok (.bipush 48, 2) := by decide +kernel
theorem dX5_isRunSign_15 : decode cX5_isRunSign 15 = .ok (.if_icmp .lt 13, 3) := by decide +kernel
theorem dX5_isRunSign_18 : decode cX5_isRunSign 18 = .ok (.iload_n 0, 1) := by decide +kernel
theorem dX5_isRunSign_19 : decode cX5_isRunSign 19 = .ok (.bipush 57, 2) := by decide +kernel
theorem dX5_isRunSign_21 : decode cX5_isRunSign 21 = .ok (.if_icmp .gt 7, 3) := by decide +kernel
theorem dX5_isRunSign_24 : decode cX5_isRunSign 24 = .ok (.iconst 1, 1) := by decide +kernel
theorem dX5_isRunSign_25 : decode cX5_isRunSign 25 = .ok (.goto 4, 3) := by decide +kernel
theorem dX5_isRunSign_28 : decode cX5_isRunSign 28 = .ok (.iconst 0, 1) := by decide +kernel
theorem dX5_isRunSign_29 : decode cX5_isRunSign 29 = .ok (.ireturn, 1) := by decide +kernel
theorem dX5_isMarkSign_0 : decode cX5_isMarkSign 0 = .ok (.iload_n 0, 1) := by decide +kernel
theorem dX5_isMarkSign_1 : decode cX5_isMarkSign 1 = .ok (.bipush 59, 2) := by decide +kernel
theorem dX5_isMarkSign_3 : decode cX5_isMarkSign 3 = .ok (.if_icmp .eq 33, 3) := by decide +kernel
theorem dX5_isMarkSign_6 : decode cX5_isMarkSign 6 = .ok (.iload_n 0, 1) := by decide +kernel
theorem dX5_isMarkSign_7 : decode cX5_isMarkSign 7 = .ok (.bipush 60, 2) := by decide +kernel
theorem dX5_isMarkSign_9 : decode cX5_isMarkSign 9 = .ok (.if_icmp .eq 27, 3) := by decide +kernel
theorem dX5_isMarkSign_12 : decode cX5_isMarkSign 12 = .ok (.iload_n 0, 1) := by decide +kernel
theorem dX5_isMarkSign_13 : decode cX5_isMarkSign 13 = .ok (.bipush 61, 2) := by decide +kernel
theorem dX5_isMarkSign_15 : decode cX5_isMarkSign 15 = .ok (.if_icmp .eq 21, 3) := by decide +kernel
theorem dX5_isMarkSign_18 : decode cX5_isMarkSign 18 = .ok (.iload_n 0, 1) := by decide +kernel
theorem dX5_isMarkSign_19 : decode cX5_isMarkSign 19 = .ok (.bipush 62, 2) := by decide +kernel
theorem dX5_isMarkSign_21 : decode cX5_isMarkSign 21 = .ok (.if_icmp .eq 15, 3) := by decide +kernel
theorem dX5_isMarkSign_24 : decode cX5_isMarkSign 24 = .ok (.iload_n 0, 1) := by decide +kernel
theorem dX5_isMarkSign_25 : decode cX5_isMarkSign 25 = .ok (.bipush 40, 2) := by decide +kernel
theorem dX5_isMarkSign_27 : decode cX5_isMarkSign 27 = .ok (.if_icmp .eq 9, 3) := by decide +kernel
theorem dX5_isMarkSign_30 : decode cX5_isMarkSign 30 = .ok (.iload_n 0, 1) := by decide +kernel
theorem dX5_isMarkSign_31 : decode cX5_isMarkSign 31 = .ok (.bipush 41, 2) := by decide +kernel
theorem dX5_isMarkSign_33 : decode cX5_isMarkSign 33 = .ok (.if_icmp .ne 7, 3) := by decide +kernel
theorem dX5_isMarkSign_36 : decode cX5_isMarkSign 36 = .ok (.iconst 1, 1) := by decide +kernel
theorem dX5_isMarkSign_37 : decode cX5_isMarkSign 37 = .ok (.goto 4, 3) := by decide +kernel
theorem dX5_isMarkSign_40 : decode cX5_isMarkSign 40 = .ok (.iconst 0, 1) := by decide +kernel
theorem dX5_isMarkSign_41 : decode cX5_isMarkSign 41 = .ok (.ireturn, 1) := by decide +kernel
theorem dX5_fail_0 : decode cX5_fail 0 = .ok (.aload_n 0, 1) := by decide +kernel
theorem dX5_fail_1 : decode cX5_fail 1 = .ok (.getfield 83, 3) := by decide +kernel
theorem dX5_fail_4 : decode cX5_fail 4 = .ok (.ifCond .ne 21, 3) := by decide +kernel
theorem dX5_fail_7 : decode cX5_fail 7 = .ok (.aload_n 0, 1) := by decide +kernel
theorem dX5_fail_8 : decode cX5_fail 8 = .ok (.iload_n 1, 1) := by decide +kernel
theorem dX5_fail_9 : decode cX5_fail 9 = .ok (.putfield 83, 3) := by decide +kernel
theorem dX5_fail_12 : decode cX5_fail 12 = .ok (.aload_n 0, 1) := by decide +kernel
theorem dX5_fail_13 : decode cX5_fail 13 = .ok (.aload_n 0, 1) := by decide +kernel
theorem dX5_fail_14 : decode cX5_fail 14 = .ok (.getfield 24, 3) := by decide +kernel
theorem dX5_fail_17 : decode cX5_fail 17 = .ok (.aload_n 0, 1) := by decide +kernel
theorem dX5_fail_18 : decode cX5_fail 18 = .ok (.getfield 80, 3) := by decide +kernel
theorem dX5_fail_21 : decode cX5_fail 21 = .ok (.iaload, 1) := by decide +kernel
theorem dX5_fail_22 : decode cX5_fail 22 = .ok (.putfield 86, 3) := by decide +kernel
theorem dX5_fail_25 : decode cX5_fail 25 = .ok (.return_, 1) := by decide +kernel
theorem dX5_next_0 : decode cX5_next 0 = .ok (.aload_n 0, 1) := by decide +kernel
theorem dX5_next_1 : decode cX5_next 1 = .ok (.getfield 28, 3) := by decide +kernel
theorem dX5_next_4 : decode cX5_next 4 = .ok (.aload_n 0, 1) := by decide +kernel
theorem dX5_next_5 : decode cX5_next 5 = .ok (.getfield 80, 3) := by decide +kernel
theorem dX5_next_8 : decode cX5_next 8 = .ok (.iaload, 1) := by decide +kernel
theorem dX5_next_9 : decode cX5_next 9 = .ok (.bipush 40, 2) := by decide +kernel
theorem dX5_next_11 : decode cX5_next 11 = .ok (.if_icmp .eq 13, 3) := by decide +kernel
theorem dX5_next_14 : decode cX5_next 14 = .ok (.aload_n 0, 1) := by decide +kernel
theorem dX5_next_15 : decode cX5_next 15 = .ok (.dup, 1) := by decide +kernel
theorem dX5_next_16 : decode cX5_next 16 = .ok (.getfield 80, 3) := by decide +kernel
theorem dX5_next_19 : decode cX5_next 19 = .ok (.iconst 1, 1) := by decide +kernel
theorem dX5_next_20 : decode cX5_next 20 = .ok (.iadd, 1) := by decide +kernel
theorem dX5_next_21 : decode cX5_next 21 = .ok (.putfield 80, 3) := by decide +kernel
theorem dX5_next_24 : decode cX5_next 24 = .ok (.return_, 1) := by decide +kernel
theorem dX5_goesOn_0 : decode cX5_goesOn 0 = .ok (.aload_n 0, 1) := by decide +kernel
theorem dX5_goesOn_1 : decode cX5_goesOn 1 = .ok (.getfield 83, 3) := by decide +kernel
theorem dX5_goesOn_4 : decode cX5_goesOn 4 = .ok (.ifCond .ne 21, 3) := by decide +kernel
theorem dX5_goesOn_7 : decode cX5_goesOn 7 = .ok (.aload_n 0, 1) := by decide +kernel
theorem dX5_goesOn_8 : decode cX5_goesOn 8 = .ok (.getfield 28, 3) := by decide +kernel
theorem dX5_goesOn_11 : decode cX5_goesOn 11 = .ok (.aload_n 0, 1) := by decide +kernel
theorem dX5_goesOn_12 : decode cX5_goesOn 12 = .ok (.getfield 80, 3) := by decide +kernel
theorem dX5_goesOn_15 : decode cX5_goesOn 15 = .ok (.iaload, 1) := by decide +kernel
theorem dX5_goesOn_16 : decode cX5_goesOn 16 = .ok (.bipush 40, 2) := by decide +kernel
theorem dX5_goesOn_18 : decode cX5_goesOn 18 = .ok (.if_icmp .eq 7, 3) := by decide +kernel
theorem dX5_goesOn_21 : decode cX5_goesOn 21 = .ok (.iconst 1, 1) := by decide +kernel
theorem dX5_goesOn_22 : decode cX5_goesOn 22 = .ok (.goto 4, 3) := by decide +kernel
theorem dX5_goesOn_25 : decode cX5_goesOn 25 = .ok (.iconst 0, 1) := by decide +kernel
theorem dX5_goesOn_26 : decode cX5_goesOn 26 = .ok (.ireturn, 1) := by decide +kernel
theorem dX5_closes_0 : decode cX5_closes 0 = .ok (.aload_n 0, 1) := by decide +kernel
theorem dX5_closes_1 : decode cX5_closes 1 = .ok (.getfield 28, 3) := by decide +kernel
theorem dX5_closes_4 : decode cX5_closes 4 = .ok (.aload_n 0, 1) := by decide +kernel
theorem dX5_closes_5 : decode cX5_closes 5 = .ok (.getfield 80, 3) := by decide +kernel
theorem dX5_closes_8 : decode cX5_closes 8 = .ok (.iaload, 1) := by decide +kernel
theorem dX5_closes_9 : decode cX5_closes 9 = .ok (.bipush 40, 2) := by decide +kernel
theorem dX5_closes_11 : decode cX5_closes 11 = .ok (.if_icmp .ne 10, 3) := by decide +kernel
theorem dX5_closes_14 : decode cX5_closes 14 = .ok (.aload_n 0, 1) := by decide +kernel
theorem dX5_closes_15 : decode cX5_closes 15 = .ok (.getfield 76, 3) := by decide +kernel
theorem dX5_closes_18 : decode cX5_closes 18 = .ok (.ifCond .eq 8, 3) := by decide +kernel
theorem dX5_closes_21 : decode cX5_closes 21 = .ok (.aload_n 0, 1) := by decide +kernel
theorem dX5_closes_22 : decode cX5_closes 22 = .ok (.iconst 1, 1) := by decide +kernel
theorem dX5_closes_23 : decode cX5_closes 23 = .ok (.invokevirtual 108, 3) := by decide +kernel
theorem dX5_closes_26 : decode cX5_closes 26 = .ok (.aload_n 0, 1) := by decide +kernel
theorem dX5_closes_27 : decode cX5_closes 27 = .ok (.getfield 83, 3) := by decide +kernel
theorem dX5_closes_30 : decode cX5_closes 30 = .ok (.ifCond .ne 7, 3) := by decide +kernel
theorem dX5_closes_33 : decode cX5_closes 33 = .ok (.iconst 1, 1) := by decide +kernel
theorem dX5_closes_34 : decode cX5_closes 34 = .ok (.goto 4, 3) := by decide +kernel
theorem dX5_closes_37 : decode cX5_closes 37 = .ok (.iconst 0, 1) := by decide +kernel
theorem dX5_closes_38 : decode cX5_closes 38 = .ok (.ireturn, 1) := by decide +kernel
theorem dX5_isWord_0 : decode cX5_isWord 0 = .ok (.aload_n 0, 1) := by decide +kernel
theorem dX5_isWord_1 : decode cX5_isWord 1 = .ok (.getfield 83, 3) := by decide +kernel
theorem dX5_isWord_4 : decode cX5_isWord 4 = .ok (.ifCond .ne 20, 3) := by decide +kernel
theorem dX5_isWord_7 : decode cX5_isWord 7 = .ok (.aload_n 0, 1) := by decide +kernel
theorem dX5_isWord_8 : decode cX5_isWord 8 = .ok (.getfield 28, 3) := by decide +kernel
theorem dX5_isWord_11 : decode cX5_isWord 11 = .ok (.aload_n 0, 1) := by decide +kernel
theorem dX5_isWord_12 : decode cX5_isWord 12 = .ok (.getfield 80, 3) := by decide +kernel
theorem dX5_isWord_15 : decode cX5_isWord 15 = .ok (.iaload, 1) := by decide +kernel
theorem dX5_isWord_16 : decode cX5_isWord 16 = .ok (.iload_n 1, 1) := by decide +kernel
theorem dX5_isWord_17 : decode cX5_isWord 17 = .ok (.if_icmp .ne 7, 3) := by decide +kernel
theorem dX5_isWord_20 : decode cX5_isWord 20 = .ok (.iconst 1, 1) := by decide +kernel
theorem dX5_isWord_21 : decode cX5_isWord 21 = .ok (.goto 4, 3) := by decide +kernel
theorem dX5_isWord_24 : decode cX5_isWord 24 = .ok (.iconst 0, 1) := by decide +kernel
theorem dX5_isWord_25 : decode cX5_isWord 25 = .ok (.ireturn, 1) := by decide +kernel
theorem dX5_isWordFrom_0 : decode cX5_isWordFrom 0 = .ok (.aload_n 0, 1) := by decide +kernel
theorem dX5_isWordFrom_1 : decode cX5_isWordFrom 1 = .ok (.getfield 83, 3) := by decide +kernel
theorem dX5_isWordFrom_4 : decode cX5_isWordFrom 4 = .ok (.ifCond .ne 35, 3) := by decide +kernel
theorem dX5_isWordFrom_7 : decode cX5_isWordFrom 7 = .ok (.aload_n 0, 1) := by decide +kernel
theorem dX5_isWordFrom_8 : decode cX5_isWordFrom 8 = .ok (.getfield 28, 3) := by decide +kernel
theorem dX5_isWordFrom_11 : decode cX5_isWordFrom 11 = .ok (.aload_n 0, 1) := by decide +kernel
theorem dX5_isWordFrom_12 : decode cX5_isWordFrom 12 = .ok (.getfield 80, 3) := by decide +kernel
theorem dX5_isWordFrom_15 : decode cX5_isWordFrom 15 = .ok (.iaload, 1) := by decide +kernel
theorem dX5_isWordFrom_16 : decode cX5_isWordFrom 16 = .ok (.iload_n 1, 1) := by decide +kernel
theorem dX5_isWordFrom_17 : decode cX5_isWordFrom 17 = .ok (.if_icmp .lt 22, 3) := by decide +kernel
theorem dX5_isWordFrom_20 : decode cX5_isWordFrom 20 = .ok (.aload_n 0, 1) := by decide +kernel
theorem dX5_isWordFrom_21 : decode cX5_isWordFrom 21 = .ok (.getfield 28, 3) := by decide +kernel
theorem dX5_isWordFrom_24 : decode cX5_isWordFrom 24 = .ok (.aload_n 0, 1) := by decide +kernel
theorem dX5_isWordFrom_25 : decode cX5_isWordFrom 25 = .ok (.getfield 80, 3) := by decide +kernel
theorem dX5_isWordFrom_28 : decode cX5_isWordFrom 28 = .ok (.iaload, 1) := by decide +kernel
theorem dX5_isWordFrom_29 : decode cX5_isWordFrom 29 = .ok (.iload_n 1, 1) := by decide +kernel
theorem dX5_isWordFrom_30 : decode cX5_isWordFrom 30 = .ok (.iload_n 2, 1) := by decide +kernel
theorem dX5_isWordFrom_31 : decode cX5_isWordFrom 31 = .ok (.iadd, 1) := by decide +kernel
theorem dX5_isWordFrom_32 : decode cX5_isWordFrom 32 = .ok (.if_icmp .ge 7, 3) := by decide +kernel
theorem dX5_isWordFrom_35 : decode cX5_isWordFrom 35 = .ok (.iconst 1, 1) := by decide +kernel
theorem dX5_isWordFrom_36 : decode cX5_isWordFrom 36 = .ok (.goto 4, 3) := by decide +kernel
theorem dX5_isWordFrom_39 : decode cX5_isWordFrom 39 = .ok (.iconst 0, 1) := by decide +kernel
theorem dX5_isWordFrom_40 : decode cX5_isWordFrom 40 = .ok (.ireturn, 1) := by decide +kernel
theorem dX5_isMark_0 : decode cX5_isMark 0 = .ok (.aload_n 0, 1) := by decide +kernel
theorem dX5_isMark_1 : decode cX5_isMark 1 = .ok (.getfield 83, 3) := by decide +kernel
theorem dX5_isMark_4 : decode cX5_isMark 4 = .ok (.ifCond .ne 36, 3) := by decide +kernel
theorem dX5_isMark_7 : decode cX5_isMark 7 = .ok (.aload_n 0, 1) := by decide +kernel
theorem dX5_isMark_8 : decode cX5_isMark 8 = .ok (.getfield 28, 3) := by decide +kernel
theorem dX5_isMark_11 : decode cX5_isMark 11 = .ok (.aload_n 0, 1) := by decide +kernel
theorem dX5_isMark_12 : decode cX5_isMark 12 = .ok (.getfield 80, 3) := by decide +kernel
theorem dX5_isMark_15 : decode cX5_isMark 15 = .ok (.iaload, 1) := by decide +kernel
theorem dX5_isMark_16 : decode cX5_isMark 16 = .ok (.bipush 38, 2) := by decide +kernel
theorem dX5_isMark_18 : decode cX5_isMark 18 = .ok (.if_icmp .ne 22, 3) := by decide +kernel
theorem dX5_isMark_21 : decode cX5_isMark 21 = .ok (.aload_n 0, 1) := by decide +kernel
theorem dX5_isMark_22 : decode cX5_isMark 22 = .ok (.getfield 31, 3) := by decide +kernel
theorem dX5_isMark_25 : decode cX5_isMark 25 = .ok (.aload_n 0, 1) := by decide +kernel
theorem dX5_isMark_26 : decode cX5_isMark 26 = .ok (.getfield 80, 3) := by decide +kernel
theorem dX5_isMark_29 : decode cX5_isMark 29 = .ok (.laload, 1) := by decide +kernel
theorem dX5_isMark_30 : decode cX5_isMark 30 = .ok (.iload_n 1, 1) := by decide +kernel
theorem dX5_isMark_31 : decode cX5_isMark 31 = .ok (.i2l, 1) := by decide +kernel
theorem dX5_isMark_32 : decode cX5_isMark 32 = .ok (.lcmp, 1) := by decide +kernel
theorem dX5_isMark_33 : decode cX5_isMark 33 = .ok (.ifCond .ne 7, 3) := by decide +kernel
theorem dX5_isMark_36 : decode cX5_isMark 36 = .ok (.iconst 1, 1) := by decide +kernel
theorem dX5_isMark_37 : decode cX5_isMark 37 = .ok (.goto 4, 3) := by decide +kernel
theorem dX5_isMark_40 : decode cX5_isMark 40 = .ok (.iconst 0, 1) := by decide +kernel
theorem dX5_isMark_41 : decode cX5_isMark 41 = .ok (.ireturn, 1) := by decide +kernel
theorem dX5_isName_0 : decode cX5_isName 0 = .ok (.aload_n 0, 1) := by decide +kernel
theorem dX5_isName_1 : decode cX5_isName 1 = .ok (.getfield 83, 3) := by decide +kernel
theorem dX5_isName_4 : decode cX5_isName 4 = .ok (.ifCond .ne 21, 3) := by decide +kernel
theorem dX5_isName_7 : decode cX5_isName 7 = .ok (.aload_n 0, 1) := by decide +kernel
theorem dX5_isName_8 : decode cX5_isName 8 = .ok (.getfield 28, 3) := by decide +kernel
theorem dX5_isName_11 : decode cX5_isName 11 = .ok (.aload_n 0, 1) := by decide +kernel
theorem dX5_isName_12 : decode cX5_isName 12 = .ok (.getfield 80, 3) := by decide +kernel
theorem dX5_isName_15 : decode cX5_isName 15 = .ok (.iaload, 1) := by decide +kernel
theorem dX5_isName_16 : decode cX5_isName 16 = .ok (.bipush 36, 2) := by decide +kernel
theorem dX5_isName_18 : decode cX5_isName 18 = .ok (.if_icmp .ne 7, 3) := by decide +kernel
theorem dX5_isName_21 : decode cX5_isName 21 = .ok (.iconst 1, 1) := by decide +kernel
theorem dX5_isName_22 : decode cX5_isName 22 = .ok (.goto 4, 3) := by decide +kernel
theorem dX5_isName_25 : decode cX5_isName 25 = .ok (.iconst 0, 1) := by decide +kernel
theorem dX5_isName_26 : decode cX5_isName 26 = .ok (.ireturn, 1) := by decide +kernel
theorem dX5_takeWord_0 : decode cX5_takeWord 0 = .ok (.aload_n 0, 1) := by decide +kernel
theorem dX5_takeWord_1 : decode cX5_takeWord 1 = .ok (.iload_n 1, 1) := by decide +kernel
theorem dX5_takeWord_2 : decode cX5_takeWord 2 = .ok (.invokevirtual 111, 3) := by decide +kernel
theorem dX5_takeWord_5 : decode cX5_takeWord 5 = .ok (.istore_n 2, 1) := by decide +kernel
theorem dX5_takeWord_6 : decode cX5_takeWord 6 = .ok (.iload_n 2, 1) := by decide +kernel
theorem dX5_takeWord_7 : decode cX5_takeWord 7 = .ok (.ifCond .eq 7, 3) := by decide +kernel
theorem dX5_takeWord_10 : decode cX5_takeWord 10 = .ok (.aload_n 0, 1) := by decide +kernel
theorem dX5_takeWord_11 : decode cX5_takeWord 11 = .ok (.invokevirtual 114, 3) := by decide +kernel
theorem dX5_takeWord_14 : decode cX5_takeWord 14 = .ok (.iload_n 2, 1) := by decide +kernel
theorem dX5_takeWord_15 : decode cX5_takeWord 15 = .ok (.ireturn, 1) := by decide +kernel
theorem dX5_takeMark_0 : decode cX5_takeMark 0 = .ok (.aload_n 0, 1) := by decide +kernel
theorem dX5_takeMark_1 : decode cX5_takeMark 1 = .ok (.iload_n 1, 1) := by decide +kernel
theorem dX5_takeMark_2 : decode cX5_takeMark 2 = .ok (.invokevirtual 117, 3) := by decide +kernel
theorem dX5_takeMark_5 : decode cX5_takeMark 5 = .ok (.istore_n 2, 1) := by decide +kernel
theorem dX5_takeMark_6 : decode cX5_takeMark 6 = .ok (.iload_n 2, 1) := by decide +kernel
theorem dX5_takeMark_7 : decode cX5_takeMark 7 = .ok (.ifCond .eq 7, 3) := by decide +kernel
theorem dX5_takeMark_10 : decode cX5_takeMark 10 = .ok (.aload_n 0, 1) := by decide +kernel
theorem dX5_takeMark_11 : decode cX5_takeMark 11 = .ok (.invokevirtual 114, 3) := by decide +kernel
theorem dX5_takeMark_14 : decode cX5_takeMark 14 = .ok (.iload_n 2, 1) := by decide +kernel
theorem dX5_takeMark_15 : decode cX5_takeMark 15 = .ok (.ireturn, 1) := by decide +kernel
theorem dX5_needMark_0 : decode cX5_needMark 0 = .ok (.aload_n 0, 1) := by decide +kernel
theorem dX5_needMark_1 : decode cX5_needMark 1 = .ok (.iload_n 1, 1) := by decide +kernel
theorem dX5_needMark_2 : decode cX5_needMark 2 = .ok (.invokevirtual 121, 3) := by decide +kernel
theorem dX5_needMark_5 : decode cX5_needMark 5 = .ok (.ifCond .ne 8, 3) := by decide +kernel
theorem dX5_needMark_8 : decode cX5_needMark 8 = .ok (.aload_n 0, 1) := by decide +kernel
theorem dX5_needMark_9 : decode cX5_needMark 9 = .ok (.iconst 1, 1) := by decide +kernel
theorem dX5_needMark_10 : decode cX5_needMark 10 = .ok (.invokevirtual 108, 3) := by decide +kernel
theorem dX5_needMark_13 : decode cX5_needMark 13 = .ok (.return_, 1) := by decide +kernel
theorem dX5_needWordFrom_0 : decode cX5_needWordFrom 0 = .ok (.aload_n 0, 1) := by decide +kernel
theorem dX5_needWordFrom_1 : decode cX5_needWordFrom 1 = .ok (.iload_n 1, 1) := by decide +kernel
theorem dX5_needWordFrom_2 : decode cX5_needWordFrom 2 = .ok (.iload_n 2, 1) := by decide +kernel
theorem dX5_needWordFrom_3 : decode cX5_needWordFrom 3 = .ok (.invokevirtual 124, 3) := by decide +kernel
theorem dX5_needWordFrom_6 : decode cX5_needWordFrom 6 = .ok (.ifCond .ne 10, 3) := by decide +kernel
theorem dX5_needWordFrom_9 : decode cX5_needWordFrom 9 = .ok (.aload_n 0, 1) := by decide +kernel
theorem dX5_needWordFrom_10 : decode cX5_needWordFrom 10 = .ok (.iconst 1, 1) := by decide +kernel
theorem dX5_needWordFrom_11 : decode cX5_needWordFrom 11 = .ok (.invokevirtual 108, 3) := by decide +kernel
theorem dX5_needWordFrom_14 : decode cX5_needWordFrom 14 = .ok (.iconst (-1), 1) := by decide +kernel
theorem dX5_needWordFrom_15 : decode cX5_needWordFrom 15 = .ok (.ireturn, 1) := by decide +kernel
theorem dX5_needWordFrom_16 : decode cX5_needWordFrom 16 = .ok (.aload_n 0, 1) := by decide +kernel
theorem dX5_needWordFrom_17 : decode cX5_needWordFrom 17 = .ok (.getfield 28, 3) := by decide +kernel
theorem dX5_needWordFrom_20 : decode cX5_needWordFrom 20 = .ok (.aload_n 0, 1) := by decide +kernel
theorem dX5_needWordFrom_21 : decode cX5_needWordFrom 21 = .ok (.getfield 80, 3) := by decide +kernel
theorem dX5_needWordFrom_24 : decode cX5_needWordFrom 24 = .ok (.iaload, 1) := by decide +kernel
theorem dX5_needWordFrom_25 : decode cX5_needWordFrom 25 = .ok (.iload_n 1, 1) := by decide +kernel
theorem dX5_needWordFrom_26 : decode cX5_needWordFrom 26 = .ok (.isub, 1) := by decide +kernel
theorem dX5_needWordFrom_27 : decode cX5_needWordFrom 27 = .ok (.istore_n 3, 1) := by decide +kernel
theorem dX5_needWordFrom_28 : decode cX5_needWordFrom 28 = .ok (.aload_n 0, 1) := by decide +kernel
theorem dX5_needWordFrom_29 : decode cX5_needWordFrom 29 = .ok (.invokevirtual 114, 3) := by decide +kernel
theorem dX5_needWordFrom_32 : decode cX5_needWordFrom 32 = .ok (.iload_n 3, 1) := by decide +kernel
theorem dX5_needWordFrom_33 : decode cX5_needWordFrom 33 = .ok (.ireturn, 1) := by decide +kernel
theorem dX5_needSign_0 : decode cX5_needSign 0 = .ok (.aload_n 0, 1) := by decide +kernel
theorem dX5_needSign_1 : decode cX5_needSign 1 = .ok (.getfield 31, 3) := by decide +kernel
theorem dX5_needSign_4 : decode cX5_needSign 4 = .ok (.aload_n 0, 1) := by decide +kernel
theorem dX5_needSign_5 : decode cX5_needSign 5 = .ok (.getfield 80, 3) := by decide +kernel
theorem dX5_needSign_8 : decode cX5_needSign 8 = .ok (.laload, 1) := by decide +kernel
theorem dX5_needSign_9 : decode cX5_needSign 9 = .ok (.l2i, 1) := by decide +kernel
theorem dX5_needSign_10 : decode cX5_needSign 10 = .ok (.istore_n 1, 1) := by decide +kernel
theorem dX5_needSign_11 : decode cX5_needSign 11 = .ok (.aload_n 0, 1) := by decide +kernel
theorem dX5_needSign_12 : decode cX5_needSign 12 = .ok (.bipush 60, 2) := by decide +kernel
theorem dX5_needSign_14 : decode cX5_needSign 14 = .ok (.invokevirtual 117, 3) := by decide +kernel
theorem dX5_needSign_17 : decode cX5_needSign 17 = .ok (.ifCond .ne 21, 3) := by decide +kernel
theorem dX5_needSign_20 : decode cX5_needSign 20 = .ok (.aload_n 0, 1) := by decide +kernel
theorem dX5_needSign_21 : decode cX5_needSign 21 = .ok (.bipush 61, 2) := by decide +kernel
theorem dX5_needSign_23 : decode cX5_needSign 23 = .ok (.invokevirtual 117, 3) := by decide +kernel
theorem dX5_needSign_26 : decode cX5_needSign 26 = .ok (.ifCond .ne 12, 3) := by decide +kernel
theorem dX5_needSign_29 : decode cX5_needSign 29 = .ok (.aload_n 0, 1) := by decide +kernel
theorem dX5_needSign_30 : decode cX5_needSign 30 = .ok (.bipush 62, 2) := by decide +kernel
theorem dX5_needSign_32 : decode cX5_needSign 32 = .ok (.invokevirtual 117, 3) := by decide +kernel
theorem dX5_needSign_35 : decode cX5_needSign 35 = .ok (.ifCond .eq 10, 3) := by decide +kernel
theorem dX5_needSign_38 : decode cX5_needSign 38 = .ok (.aload_n 0, 1) := by decide +kernel
theorem dX5_needSign_39 : decode cX5_needSign 39 = .ok (.invokevirtual 114, 3) := by decide +kernel
theorem dX5_needSign_42 : decode cX5_needSign 42 = .ok (.goto 8, 3) := by decide +kernel
theorem dX5_needSign_45 : decode cX5_needSign 45 = .ok (.aload_n 0, 1) := by decide +kernel
theorem dX5_needSign_46 : decode cX5_needSign 46 = .ok (.iconst 1, 1) := by decide +kernel
theorem dX5_needSign_47 : decode cX5_needSign 47 = .ok (.invokevirtual 108, 3) := by decide +kernel
theorem dX5_needSign_50 : decode cX5_needSign 50 = .ok (.iload_n 1, 1) := by decide +kernel
theorem dX5_needSign_51 : decode cX5_needSign 51 = .ok (.ireturn, 1) := by decide +kernel
theorem dX5_needNumber_0 : decode cX5_needNumber 0 = .ok (.aload_n 0, 1) := by decide +kernel
theorem dX5_needNumber_1 : decode cX5_needNumber 1 = .ok (.getfield 83, 3) := by decide +kernel
theorem dX5_needNumber_4 : decode cX5_needNumber 4 = .ok (.ifCond .ne 17, 3) := by decide +kernel
theorem dX5_needNumber_7 : decode cX5_needNumber 7 = .ok (.aload_n 0, 1) := by decide +kernel
theorem dX5_needNumber_8 : decode cX5_needNumber 8 = .ok (.getfield 28, 3) := by decide +kernel
theorem dX5_needNumber_11 : decode cX5_needNumber 11 = .ok (.aload_n 0, 1) := by decide +kernel
theorem dX5_needNumber_12 : decode cX5_needNumber 12 = .ok (.getfield 80, 3) := by decide +kernel
theorem dX5_needNumber_15 : decode cX5_needNumber 15 = .ok (.iaload, 1) := by decide +kernel
theorem dX5_needNumber_16 : decode cX5_needNumber 16 = .ok (.bipush 37, 2) := by decide +kernel
theorem dX5_needNumber_18 : decode cX5_needNumber 18 = .ok (.if_icmp .eq 10, 3) := by decide +kernel
theorem dX5_needNumber_21 : decode cX5_needNumber 21 = .ok (.aload_n 0, 1) := by decide +kernel
theorem dX5_needNumber_22 : decode cX5_needNumber 22 = .ok (.iconst 1, 1) := by decide +kernel
theorem dX5_needNumber_23 : decode cX5_needNumber 23 = .ok (.invokevirtual 108, 3) := by decide +kernel
theorem dX5_needNumber_26 : decode cX5_needNumber 26 = .ok (.iconst (-1), 1) := by decide +kernel
theorem dX5_needNumber_27 : decode cX5_needNumber 27 = .ok (.ireturn, 1) := by decide +kernel
theorem dX5_needNumber_28 : decode cX5_needNumber 28 = .ok (.aload_n 0, 1) := by decide +kernel
theorem dX5_needNumber_29 : decode cX5_needNumber 29 = .ok (.getfield 31, 3) := by decide +kernel
theorem dX5_needNumber_32 : decode cX5_needNumber 32 = .ok (.aload_n 0, 1) := by decide +kernel
theorem dX5_needNumber_33 : decode cX5_needNumber 33 = .ok (.getfield 80, 3) := by decide +kernel
theorem dX5_needNumber_36 : decode cX5_needNumber 36 = .ok (.laload, 1) := by decide +kernel
theorem dX5_needNumber_37 : decode cX5_needNumber 37 = .ok (.l2i, 1) := by decide +kernel
theorem dX5_needNumber_38 : decode cX5_needNumber 38 = .ok (.istore_n 3, 1) := by decide +kernel
theorem dX5_needNumber_39 : decode cX5_needNumber 39 = .ok (.iload_n 3, 1) := by decide +kernel
theorem dX5_needNumber_40 : decode cX5_needNumber 40 = .ok (.iload_n 1, 1) := by decide +kernel
theorem dX5_needNumber_41 : decode cX5_needNumber 41 = .ok (.if_icmp .lt 8, 3) := by decide +kernel
theorem dX5_needNumber_44 : decode cX5_needNumber 44 = .ok (.iload_n 3, 1) := by decide +kernel
theorem dX5_needNumber_45 : decode cX5_needNumber 45 = .ok (.iload_n 2, 1) := by decide +kernel
theorem dX5_needNumber_46 : decode cX5_needNumber 46 = .ok (.if_icmp .le 10, 3) := by decide +kernel
theorem dX5_needNumber_49 : decode cX5_needNumber 49 = .ok (.aload_n 0, 1) := by decide +kernel
theorem dX5_needNumber_50 : decode cX5_needNumber 50 = .ok (.iconst 2, 1) := by decide +kernel
theorem dX5_needNumber_51 : decode cX5_needNumber 51 = .ok (.invokevirtual 108, 3) := by decide +kernel
theorem dX5_needNumber_54 : decode cX5_needNumber 54 = .ok (.iconst (-1), 1) := by decide +kernel
theorem dX5_needNumber_55 : decode cX5_needNumber 55 = .ok (.ireturn, 1) := by decide +kernel
theorem dX5_needNumber_56 : decode cX5_needNumber 56 = .ok (.aload_n 0, 1) := by decide +kernel
theorem dX5_needNumber_57 : decode cX5_needNumber 57 = .ok (.invokevirtual 114, 3) := by decide +kernel
theorem dX5_needNumber_60 : decode cX5_needNumber 60 = .ok (.iload_n 3, 1) := by decide +kernel
theorem dX5_needNumber_61 : decode cX5_needNumber 61 = .ok (.ireturn, 1) := by decide +kernel
theorem dX5_needNewName_0 : decode cX5_needNewName 0 = .ok (.aload_n 0, 1) := by decide +kernel
theorem dX5_needNewName_1 : decode cX5_needNewName 1 = .ok (.getfield 31, 3) := by decide +kernel
theorem dX5_needNewName_4 : decode cX5_needNewName 4 = .ok (.aload_n 0, 1) := by decide +kernel
theorem dX5_needNewName_5 : decode cX5_needNewName 5 = .ok (.getfield 80, 3) := by decide +kernel
theorem dX5_needNewName_8 : decode cX5_needNewName 8 = .ok (.laload, 1) := by decide +kernel
theorem dX5_needNewName_9 : decode cX5_needNewName 9 = .ok (.lstore_n 2, 1) := by decide +kernel
theorem dX5_needNewName_10 : decode cX5_needNewName 10 = .ok (.aload_n 0, 1) := by decide +kernel
theorem dX5_needNewName_11 : decode cX5_needNewName 11 = .ok (.invokevirtual 128, 3) := by decide +kernel
theorem dX5_needNewName_14 : decode cX5_needNewName 14 = .ok (.ifCond .ne 11, 3) := by decide +kernel
theorem dX5_needNewName_17 : decode cX5_needNewName 17 = .ok (.aload_n 0, 1) := by decide +kernel
theorem dX5_needNewName_18 : decode cX5_needNewName 18 = .ok (.iconst 1, 1) := by decide +kernel
theorem dX5_needNewName_19 : decode cX5_needNewName 19 = .ok (.invokevirtual 108, 3) := by decide +kernel
theorem dX5_needNewName_22 : decode cX5_needNewName 22 = .ok (.goto 33, 3) := by decide +kernel
theorem dX5_needNewName_25 : decode cX5_needNewName 25 = .ok (.aload_n 1, 1) := by decide +kernel
theorem dX5_needNewName_26 : decode cX5_needNewName 26 = .ok (.lload_n 2, 1) := by decide +kernel
theorem dX5_needNewName_27 : decode cX5_needNewName 27 = .ok (.invokevirtual 132, 3) := by decide +kernel
theorem dX5_needNewName_30 : decode cX5_needNewName 30 = .ok (.iconst (-1), 1) := by decide +kernel
theorem dX5_needNewName_31 : decode cX5_needNewName 31 = .ok (.if_icmp .ne 12, 3) := by decide +kernel
theorem dX5_needNewName_34 : decode cX5_needNewName 34 = .ok (.aload_n 1, 1) := by decide +kernel
theorem dX5_needNewName_35 : decode cX5_needNewName 35 = .ok (.lload_n 2, 1) := by decide +kernel
theorem dX5_needNewName_36 : decode cX5_needNewName 36 = .ok (.invokevirtual 137, 3) := by decide +kernel
theorem dX5_needNewName_39 : decode cX5_needNewName 39 = .ok (.iconst (-1), 1) := by decide +kernel
theorem dX5_needNewName_40 : decode cX5_needNewName 40 = .ok (.if_icmp .eq 11, 3) := by decide +kernel
theorem dX5_needNewName_43 : decode cX5_needNewName 43 = .ok (.aload_n 0, 1) := by decide +kernel
theorem dX5_needNewName_44 : decode cX5_needNewName 44 = .ok (.iconst 3, 1) := by decide +kernel
theorem dX5_needNewName_45 : decode cX5_needNewName 45 = .ok (.invokevirtual 108, 3) := by decide +kernel
theorem dX5_needNewName_48 : decode cX5_needNewName 48 = .ok (.goto 7, 3) := by decide +kernel
theorem dX5_needNewName_51 : decode cX5_needNewName 51 = .ok (.aload_n 0, 1) := by decide +kernel
theorem dX5_needNewName_52 : decode cX5_needNewName 52 = .ok (.invokevirtual 114, 3) := by decide +kernel
theorem dX5_needNewName_55 : decode cX5_needNewName 55 = .ok (.lload_n 2, 1) := by decide +kernel
theorem dX5_needNewName_56 : decode cX5_needNewName 56 = .ok (.lreturn, 1) := by decide +kernel
theorem dX5_needTurret_0 : decode cX5_needTurret 0 = .ok (.aload_n 0, 1) := by decide +kernel
theorem dX5_needTurret_1 : decode cX5_needTurret 1 = .ok (.invokevirtual 128, 3) := by decide +kernel
theorem dX5_needTurret_4 : decode cX5_needTurret 4 = .ok (.ifCond .eq 19, 3) := by decide +kernel
theorem dX5_needTurret_7 : decode cX5_needTurret 7 = .ok (.aload_n 1, 1) := by decide +kernel
theorem dX5_needTurret_8 : decode cX5_needTurret 8 = .ok (.aload_n 0, 1) := by decide +kernel
theorem dX5_needTurret_9 : decode cX5_needTurret 9 = .ok (.getfield 31, 3) := by decide +kernel
theorem dX5_needTurret_12 : decode cX5_needTurret 12 = .ok (.aload_n 0, 1) := by decide +kernel
theorem dX5_needTurret_13 : decode cX5_needTurret 13 = .ok (.getfield 80, 3) := by decide +kernel
theorem dX5_needTurret_16 : decode cX5_needTurret 16 = .ok (.laload, 1) := by decide +kernel
theorem dX5_needTurret_17 : decode cX5_needTurret 17 = .ok (.invokevirtual 132, 3) := by decide +kernel
theorem dX5_needTurret_20 : decode cX5_needTurret 20 = .ok (.goto 4, 3) := by decide +kernel
theorem dX5_needTurret_23 : decode cX5_needTurret 23 = .ok (.iconst (-1), 1) := by decide +kernel
theorem dX5_needTurret_24 : decode cX5_needTurret 24 = .ok (.istore_n 2, 1) := by decide +kernel
theorem dX5_needTurret_25 : decode cX5_needTurret 25 = .ok (.iload_n 2, 1) := by decide +kernel
theorem dX5_needTurret_26 : decode cX5_needTurret 26 = .ok (.iconst (-1), 1) := by decide +kernel
theorem dX5_needTurret_27 : decode cX5_needTurret 27 = .ok (.if_icmp .ne 22, 3) := by decide +kernel
theorem dX5_needTurret_30 : decode cX5_needTurret 30 = .ok (.aload_n 0, 1) := by decide +kernel
theorem dX5_needTurret_31 : decode cX5_needTurret 31 = .ok (.aload_n 0, 1) := by decide +kernel
theorem dX5_needTurret_32 : decode cX5_needTurret 32 = .ok (.invokevirtual 128, 3) := by decide +kernel
theorem dX5_needTurret_35 : decode cX5_needTurret 35 = .ok (.ifCond .eq 7, 3) := by decide +kernel
theorem dX5_needTurret_38 : decode cX5_needTurret 38 = .ok (.iconst 3, 1) := by decide +kernel
theorem dX5_needTurret_39 : decode cX5_needTurret 39 = .ok (.goto 4, 3) := by decide +kernel
theorem dX5_needTurret_42 : decode cX5_needTurret 42 = .ok (.iconst 1, 1) := by decide +kernel
theorem dX5_needTurret_43 : decode cX5_needTurret 43 = .ok (.invokevirtual 108, 3) := by decide +kernel
theorem dX5_needTurret_46 : decode cX5_needTurret 46 = .ok (.goto 7, 3) := by decide +kernel
theorem dX5_needTurret_49 : decode cX5_needTurret 49 = .ok (.aload_n 0, 1) := by decide +kernel
theorem dX5_needTurret_50 : decode cX5_needTurret 50 = .ok (.invokevirtual 114, 3) := by decide +kernel
theorem dX5_needTurret_53 : decode cX5_needTurret 53 = .ok (.iload_n 2, 1) := by decide +kernel
theorem dX5_needTurret_54 : decode cX5_needTurret 54 = .ok (.ireturn, 1) := by decide +kernel
theorem dX5_needPerson_0 : decode cX5_needPerson 0 = .ok (.aload_n 0, 1) := by decide +kernel
theorem dX5_needPerson_1 : decode cX5_needPerson 1 = .ok (.aload_n 1, 1) := by decide +kernel
theorem dX5_needPerson_2 : decode cX5_needPerson 2 = .ok (.invokevirtual 140, 3) := by decide +kernel
theorem dX5_needPerson_5 : decode cX5_needPerson 5 = .ok (.istore_n 2, 1) := by decide +kernel
theorem dX5_needPerson_6 : decode cX5_needPerson 6 = .ok (.iload_n 2, 1) := by decide +kernel
theorem dX5_needPerson_7 : decode cX5_needPerson 7 = .ok (.iconst (-1), 1) := by decide +kernel
theorem dX5_needPerson_8 : decode cX5_needPerson 8 = .ok (.if_icmp .eq 7, 3) := by decide +kernel
theorem dX5_needPerson_11 : decode cX5_needPerson 11 = .ok (.aload_n 0, 1) := by decide +kernel
theorem dX5_needPerson_12 : decode cX5_needPerson 12 = .ok (.invokevirtual 114, 3) := by decide +kernel
theorem dX5_needPerson_15 : decode cX5_needPerson 15 = .ok (.iload_n 2, 1) := by decide +kernel
theorem dX5_needPerson_16 : decode cX5_needPerson 16 = .ok (.ireturn, 1) := by decide +kernel
theorem dX5_seePerson_0 : decode cX5_seePerson 0 = .ok (.aload_n 0, 1) := by decide +kernel
theorem dX5_seePerson_1 : decode cX5_seePerson 1 = .ok (.invokevirtual 128, 3) := by decide +kernel
theorem dX5_seePerson_4 : decode cX5_seePerson 4 = .ok (.ifCond .eq 19, 3) := by decide +kernel
theorem dX5_seePerson_7 : decode cX5_seePerson 7 = .ok (.aload_n 1, 1) := by decide +kernel
theorem dX5_seePerson_8 : decode cX5_seePerson 8 = .ok (.aload_n 0, 1) := by decide +kernel
theorem dX5_seePerson_9 : decode cX5_seePerson 9 = .ok (.getfield 31, 3) := by decide +kernel
theorem dX5_seePerson_12 : decode cX5_seePerson 12 = .ok (.aload_n 0, 1) := by decide +kernel
theorem dX5_seePerson_13 : decode cX5_seePerson 13 = .ok (.getfield 80, 3) := by decide +kernel
theorem dX5_seePerson_16 : decode cX5_seePerson 16 = .ok (.laload, 1) := by decide +kernel
theorem dX5_seePerson_17 : decode cX5_seePerson 17 = .ok (.invokevirtual 137, 3) := by decide +kernel
theorem dX5_seePerson_20 : decode cX5_seePerson 20 = .ok (.goto 4, 3) := by decide +kernel
theorem dX5_seePerson_23 : decode cX5_seePerson 23 = .ok (.iconst (-1), 1) := by decide +kernel
theorem dX5_seePerson_24 : decode cX5_seePerson 24 = .ok (.istore_n 2, 1) := by decide +kernel
theorem dX5_seePerson_25 : decode cX5_seePerson 25 = .ok (.iload_n 2, 1) := by decide +kernel
theorem dX5_seePerson_26 : decode cX5_seePerson 26 = .ok (.iconst (-1), 1) := by decide +kernel
theorem dX5_seePerson_27 : decode cX5_seePerson 27 = .ok (.if_icmp .ne 19, 3) := by decide +kernel
theorem dX5_seePerson_30 : decode cX5_seePerson 30 = .ok (.aload_n 0, 1) := by decide +kernel
theorem dX5_seePerson_31 : decode cX5_seePerson 31 = .ok (.aload_n 0, 1) := by decide +kernel
theorem dX5_seePerson_32 : decode cX5_seePerson 32 = .ok (.invokevirtual 128, 3) := by decide +kernel
theorem dX5_seePerson_35 : decode cX5_seePerson 35 = .ok (.ifCond .eq 7, 3) := by decide +kernel
theorem dX5_seePerson_38 : decode cX5_seePerson 38 = .ok (.iconst 3, 1) := by decide +kernel
theorem dX5_seePerson_39 : decode cX5_seePerson 39 = .ok (.goto 4, 3) := by decide +kernel
theorem dX5_seePerson_42 : decode cX5_seePerson 42 = .ok (.iconst 1, 1) := by decide +kernel
theorem dX5_seePerson_43 : decode cX5_seePerson 43 = .ok (.invokevirtual 108, 3) := by decide +kernel
theorem dX5_seePerson_46 : decode cX5_seePerson 46 = .ok (.iload_n 2, 1) := by decide +kernel
theorem dX5_seePerson_47 : decode cX5_seePerson 47 = .ok (.ireturn, 1) := by decide +kernel
theorem dX5_needNewView_0 : decode cX5_needNewView 0 = .ok (.aload_n 0, 1) := by decide +kernel
theorem dX5_needNewView_1 : decode cX5_needNewView 1 = .ok (.bipush 9, 2) := by decide +kernel
theorem dX5_needNewView_3 : decode cX5_needNewView 3 = .ok (.bipush 8, 2) := by decide +kernel
theorem dX5_needNewView_5 : decode cX5_needNewView 5 = .ok (.invokevirtual 124, 3) := by decide +kernel
theorem dX5_needNewView_8 : decode cX5_needNewView 8 = .ok (.ifCond .eq 18, 3) := by decide +kernel
theorem dX5_needNewView_11 : decode cX5_needNewView 11 = .ok (.aload_n 0, 1) := by decide +kernel
theorem dX5_needNewView_12 : decode cX5_needNewView 12 = .ok (.getfield 28, 3) := by decide +kernel
theorem dX5_needNewView_15 : decode cX5_needNewView 15 = .ok (.aload_n 0, 1) := by decide +kernel
theorem dX5_needNewView_16 : decode cX5_needNewView 16 = .ok (.getfield 80, 3) := by decide +kernel
theorem dX5_needNewView_19 : decode cX5_needNewView 19 = .ok (.iaload, 1) := by decide +kernel
theorem dX5_needNewView_20 : decode cX5_needNewView 20 = .ok (.bipush 9, 2) := by decide +kernel
theorem dX5_needNewView_22 : decode cX5_needNewView 22 = .ok (.isub, 1) := by decide +kernel
theorem dX5_needNewView_23 : decode cX5_needNewView 23 = .ok (.goto 4, 3) := by decide +kernel
theorem dX5_needNewView_26 : decode cX5_needNewView 26 = .ok (.iconst (-1), 1) := by decide +kernel
theorem dX5_needNewView_27 : decode cX5_needNewView 27 = .ok (.istore_n 2, 1) := by decide +kernel
theorem dX5_needNewView_28 : decode cX5_needNewView 28 = .ok (.iload_n 2, 1) := by decide +kernel
theorem dX5_needNewView_29 : decode cX5_needNewView 29 = .ok (.iconst (-1), 1) := by decide +kernel
theorem dX5_needNewView_30 : decode cX5_needNewView 30 = .ok (.if_icmp .eq 25, 3) := by decide +kernel
theorem dX5_needNewView_33 : decode cX5_needNewView 33 = .ok (.iload_n 1, 1) := by decide +kernel
theorem dX5_needNewView_34 : decode cX5_needNewView 34 = .ok (.iconst 1, 1) := by decide +kernel
theorem dX5_needNewView_35 : decode cX5_needNewView 35 = .ok (.iload_n 2, 1) := by decide +kernel
theorem dX5_needNewView_36 : decode cX5_needNewView 36 = .ok (.ishl, 1) := by decide +kernel
theorem dX5_needNewView_37 : decode cX5_needNewView 37 = .ok (.iconst 1, 1) := by decide +kernel
theorem dX5_needNewView_38 : decode cX5_needNewView 38 = .ok (.iload_n 2, 1) := by decide +kernel
theorem dX5_needNewView_39 : decode cX5_needNewView 39 = .ok (.invokestatic 144, 3) := by decide +kernel
theorem dX5_needNewView_42 : decode cX5_needNewView 42 = .ok (.ishl, 1) := by decide +kernel
theorem dX5_needNewView_43 : decode cX5_needNewView 43 = .ok (.ior, 1) := by decide +kernel
theorem dX5_needNewView_44 : decode cX5_needNewView 44 = .ok (.iand, 1) := by decide +kernel
theorem dX5_needNewView_45 : decode cX5_needNewView 45 = .ok (.ifCond .eq 10, 3) := by decide +kernel
theorem dX5_needNewView_48 : decode cX5_needNewView 48 = .ok (.aload_n 0, 1) := by decide +kernel
theorem dX5_needNewView_49 : decode cX5_needNewView 49 = .ok (.iconst 3, 1) := by decide +kernel
theorem dX5_needNewView_50 : decode cX5_needNewView 50 = .ok (.invokevirtual 108, 3) := by decide +kernel
theorem dX5_needNewView_53 : decode cX5_needNewView 53 = .ok (.iconst (-1), 1) := by decide +kernel
theorem dX5_needNewView_54 : decode cX5_needNewView 54 = .ok (.ireturn, 1) := by decide +kernel
theorem dX5_needNewView_55 : decode cX5_needNewView 55 = .ok (.aload_n 0, 1) := by decide +kernel
theorem dX5_needNewView_56 : decode cX5_needNewView 56 = .ok (.bipush 9, 2) := by decide +kernel
theorem dX5_needNewView_58 : decode cX5_needNewView 58 = .ok (.bipush 8, 2) := by decide +kernel
theorem dX5_needNewView_60 : decode cX5_needNewView 60 = .ok (.invokevirtual 147, 3) := by decide +kernel
theorem dX5_needNewView_63 : decode cX5_needNewView 63 = .ok (.ireturn, 1) := by decide +kernel
theorem dX6_init_0 : decode cX6_init 0 = .ok (.aload_n 0, 1) := by decide +kernel
theorem dX6_init_1 : decode cX6_init 1 = .ok (.invokespecial 3, 3) := by decide +kernel
theorem dX6_init_4 : decode cX6_init 4 = .ok (.aload_n 0, 1) := by decide +kernel
theorem dX6_init_5 : decode cX6_init 5 = .ok (.sipush 256, 3) := by decide +kernel
theorem dX6_init_8 : decode cX6_init 8 = .ok (.newarray .int, 2) := by decide +kernel
theorem dX6_init_10 : decode cX6_init 10 = .ok (.putfield 9, 3) := by decide +kernel
theorem dX6_init_13 : decode cX6_init 13 = .ok (.aload_n 0, 1) := by decide +kernel
theorem dX6_init_14 : decode cX6_init 14 = .ok (.sipush 256, 3) := by decide +kernel
theorem dX6_init_17 : decode cX6_init 17 = .ok (.newarray .int, 2) := by decide +kernel
theorem dX6_init_19 : decode cX6_init 19 = .ok (.putfield 15, 3) := by decide +kernel
theorem dX6_init_22 : decode cX6_init 22 = .ok (.aload_n 0, 1) := by decide +kernel
theorem dX6_init_23 : decode cX6_init 23 = .ok (.sipush 256, 3) := by decide +kernel
theorem dX6_init_26 : decode cX6_init 26 = .ok (.newarray .int, 2) := by decide +kernel
theorem dX6_init_28 : decode cX6_init 28 = .ok (.putfield 18, 3) := by decide +kernel
theorem dX6_init_31 : decode cX6_init 31 = .ok (.aload_n 0, 1) := by decide +kernel
theorem dX6_init_32 : decode cX6_init 32 = .ok (.sipush 256, 3) := by decide +kernel
theorem dX6_init_35 : decode cX6_init 35 = .ok (.newarray .int, 2) := by decide +kernel
theorem dX6_init_37 : decode cX6_init 37 = .ok (.putfield 21, 3) := by decide +kernel
theorem dX6_init_40 : decode cX6_init 40 = .ok (.aload_n 0, 1) := by decide +kernel
theorem dX6_init_41 : decode cX6_init 41 = .ok (.iconst 3, 1) := by decide +kernel
theorem dX6_init_42 : decode cX6_init 42 = .ok (.newarray .int, 2) := by decide +kernel
theorem dX6_init_44 : decode cX6_init 44 = .ok (.putfield 24, 3) := by decide +kernel
theorem dX6_init_47 : decode cX6_init 47 = .ok (.aload_n 0, 1) := by decide +kernel
theorem dX6_init_48 : decode cX6_init 48 = .ok (.iconst 3, 1) := by decide +kernel
theorem dX6_init_49 : decode cX6_init 49 = .ok (.newarray .int, 2) := by decide +kernel
theorem dX6_init_51 : decode cX6_init 51 = .ok (.putfield 27, 3) := by decide +kernel
theorem dX6_init_54 : decode cX6_init 54 = .ok (.return_, 1) := by decide +kernel
theorem dX6_findSoonest_0 : decode cX6_findSoonest 0 = .ok (.aload_n 1, 1) := by decide +kernel
theorem dX6_findSoonest_1 : decode cX6_findSoonest 1 = .ok (.iload_n 2, 1) := by decide +kernel
theorem dX6_findSoonest_2 : decode cX6_findSoonest 2 = .ok (.invokevirtual 30, 3) := by decide +kernel
theorem dX6_findSoonest_5 : decode cX6_findSoonest 5 = .ok (.istore_n 3, 1) := by decide +kernel
theorem dX6_findSoonest_6 : decode cX6_findSoonest 6 = .ok (.aload_n 1, 1) := by decide +kernel
theorem dX6_findSoonest_7 : decode cX6_findSoonest 7 = .ok (.getfield 36, 3) := by decide +kernel
theorem dX6_findSoonest_10 : decode cX6_findSoonest 10 = .ok (.iload_n 2, 1) := by decide +kernel
theorem dX6_findSoonest_11 : decode cX6_findSoonest 11 = .ok (.iaload, 1) := by decide +kernel
theorem dX6_findSoonest_12 : decode cX6_findSoonest 12 = .ok (.istore 4, 2) := by decide +kernel
theorem dX6_findSoonest_14 : decode cX6_findSoonest 14 = .ok (.aload_n 0, 1) := by decide +kernel
theorem dX6_findSoonest_15 : decode cX6_findSoonest 15 = .ok (.getfield 18, 3) := by decide +kernel
theorem dX6_findSoonest_18 : decode cX6_findSoonest 18 = .ok (.bipush (-2), 2) := by decide +kernel
theorem dX6_findSoonest_20 : decode cX6_findSoonest 20 = .ok (.invokestatic 39, 3) := by decide +kernel
theorem dX6_findSoonest_23 : decode cX6_findSoonest 23 = .ok (.aload_n 0, 1) := by decide +kernel
theorem dX6_findSoonest_24 : decode cX6_findSoonest 24 = .ok (.getfield 9, 3) := by decide +kernel
theorem dX6_findSoonest_27 : decode cX6_findSoonest 27 = .ok (.iconst 0, 1) := by decide +kernel
theorem dX6_findSoonest_28 : decode cX6_findSoonest 28 = .ok (.aload_n 1, 1) := by decide +kernel
theorem dX6_findSoonest_29 : decode cX6_findSoonest 29 = .ok (.getfield 45, 3) := by decide +kernel
theorem dX6_findSoonest_32 : decode cX6_findSoonest 32 = .ok (.iload_n 2, 1) := by decide +kernel
theorem dX6_findSoonest_33 : decode cX6_findSoonest 33 = .ok (.iaload, 1) := by decide +kernel
theorem dX6_findSoonest_34 : decode cX6_findSoonest 34 = .ok (.iastore, 1) := by decide +kernel
theorem dX6_findSoonest_35 : decode cX6_findSoonest 35 = .ok (.aload_n 0, 1) := by decide +kernel
theorem dX6_findSoonest_36 : decode cX6_findSoonest 36 = .ok (.getfield 18, 3) := by decide +kernel
theorem dX6_findSoonest_39 : decode cX6_findSoonest 39 = .ok (.aload_n 0, 1) := by decide +kernel
theorem dX6_findSoonest_40 : decode cX6_findSoonest 40 = .ok (.getfield 9, 3) := by decide +kernel
theorem dX6_findSoonest_43 : decode cX6_findSoonest 43 = .ok (.iconst 0, 1) := by decide +kernel
theorem dX6_findSoonest_44 : decode cX6_findSoonest 44 = .ok (.iaload, 1) := by decide +kernel
theorem dX6_findSoonest_45 : decode cX6_findSoonest 45 = .ok (.iconst (-1), 1) := by decide +kernel
theorem dX6_findSoonest_46 : decode cX6_findSoonest 46 = .ok (.iastore, 1) := by decide +kernel
theorem dX6_findSoonest_47 : decode cX6_findSoonest 47 = .ok (.iconst 1, 1) := by decide +kernel
theorem dX6_findSoonest_48 : decode cX6_findSoonest 48 = .ok (.istore 5, 2) := by decide +kernel
theorem dX6_findSoonest_50 : decode cX6_findSoonest 50 = .ok (.iconst 0, 1) := by decide +kernel
theorem dX6_findSoonest_51 : decode cX6_findSoonest 51 = .ok (.istore 6, 2) := by decide +kernel
theorem dX6_findSoonest_53 : decode cX6_findSoonest 53 = .ok (.iload 6, 2) := by decide +kernel
theorem dX6_findSoonest_55 : decode cX6_findSoonest 55 = .ok (.iload 5, 2) := by decide +kernel
theorem dX6_findSoonest_57 : decode cX6_findSoonest 57 = .ok (.if_icmp .ge 135, 3) := by decide +kernel
theorem dX6_findSoonest_60 : decode cX6_findSoonest 60 = .ok (.iload 6, 2) := by decide +kernel
theorem dX6_findSoonest_62 : decode cX6_findSoonest 62 = .ok (.sipush 256, 3) := by decide +kernel
theorem dX6_findSoonest_65 : decode cX6_findSoonest 65 = .ok (.if_icmp .ge 127, 3) := by decide +kernel
theorem dX6_findSoonest_68 : decode cX6_findSoonest 68 = .ok (.aload_n 0, 1) := by decide +kernel
theorem dX6_findSoonest_69 : decode cX6_findSoonest 69 = .ok (.getfield 9, 3) := by decide +kernel
theorem dX6_findSoonest_72 : decode cX6_findSoonest 72 = .ok (.iload 6, 2) := by decide +kernel
theorem dX6_findSoonest_74 : decode cX6_findSoonest 74 = .ok (.iaload, 1) := by decide +kernel
theorem dX6_findSoonest_75 : decode cX6_findSoonest 75 = .ok (.istore 7, 2) := by decide +kernel
theorem dX6_findSoonest_77 : decode cX6_findSoonest 77 = .ok (.iload 7, 2) := by decide +kernel
theorem dX6_findSoonest_79 : decode cX6_findSoonest 79 = .ok (.iload 4, 2) := by decide +kernel
theorem dX6_findSoonest_81 : decode cX6_findSoonest 81 = .ok (.iand, 1) := by decide +kernel
theorem dX6_findSoonest_82 : decode cX6_findSoonest 82 = .ok (.iload 4, 2) := by decide +kernel
theorem dX6_findSoonest_84 : decode cX6_findSoonest 84 = .ok (.if_icmp .ne 14, 3) := by decide +kernel
theorem dX6_findSoonest_87 : decode cX6_findSoonest 87 = .ok (.aload_n 0, 1) := by decide +kernel
theorem dX6_findSoonest_88 : decode cX6_findSoonest 88 = .ok (.iload 7, 2) := by decide +kernel
theorem dX6_findSoonest_90 : decode cX6_findSoonest 90 = .ok (.invokevirtual 48, 3) := by decide +kernel
theorem dX6_findSoonest_93 : decode cX6_findSoonest 93 = .ok (.aload_n 0, 1) := by decide +kernel
theorem dX6_findSoonest_94 : decode cX6_findSoonest 94 = .ok (.getfield 52, 3) := by decide +kernel
theorem dX6_findSoonest_97 : decode cX6_findSoonest 97 = .ok (.ireturn, 1) := by decide +kernel
theorem dX6_findSoonest_98 : decode cX6_findSoonest 98 = .ok (.iconst 0, 1) := by decide +kernel
theorem dX6_findSoonest_99 : decode cX6_findSoonest 99 = .ok (.istore 8, 2) := by decide +kernel
theorem dX6_findSoonest_101 : decode cX6_findSoonest 101 = .ok (.iload 8, 2) := by decide +kernel
theorem dX6_findSoonest_103 : decode cX6_findSoonest 103 = .ok (.aload_n 1, 1) := by decide +kernel
theorem dX6_findSoonest_104 : decode cX6_findSoonest 104 = .ok (.getfield 56, 3) := by decide +kernel
theorem dX6_findSoonest_107 : decode cX6_findSoonest 107 = .ok (.if_icmp .ge 79, 3) := by decide +kernel
theorem dX6_findSoonest_110 : decode cX6_findSoonest 110 = .ok (.aload_n 1, 1) := by decide +kernel
theorem dX6_findSoonest_111 : decode cX6_findSoonest 111 = .ok (.iload 7, 2) := by decide +kernel
theorem dX6_findSoonest_113 : decode cX6_findSoonest 113 = .ok (.iload 8, 2) := by decide +kernel
theorem dX6_findSoonest_115 : decode cX6_findSoonest 115 = .ok (.invokevirtual 59, 3) := by decide +kernel
theorem dX6_findSoonest_118 : decode cX6_findSoonest 118 = .ok (.istore 9, 2) := by decide +kernel
theorem dX6_findSoonest_120 : decode cX6_findSoonest 120 = .ok (.iload_n 3, 1) := by decide +kernel
theorem dX6_findSoonest_121 : decode cX6_findSoonest 121 = .ok (.iload 8, 2) := by decide +kernel
theorem dX6_findSoonest_123 : decode cX6_findSoonest 123 = .ok (.ishr, 1) := by decide +kernel
theorem dX6_findSoonest_124 : decode cX6_findSoonest 124 = .ok (.iconst 1, 1) := by decide +kernel
theorem dX6_findSoonest_125 : decode cX6_findSoonest 125 = .ok (.iand, 1) := by decide +kernel
theorem dX6_findSoonest_126 : decode cX6_findSoonest 126 = .ok (.iconst 1, 1) := by decide +kernel
theorem dX6_findSoonest_127 : decode cX6_findSoonest 127 = .ok (.if_icmp .ne 53, 3) := by decide +kernel
theorem dX6_findSoonest_130 : decode cX6_findSoonest 130 = .ok (.aload_n 0, 1) := by decide +kernel
theorem dX6_findSoonest_131 : decode cX6_findSoonest 131 = .ok (.getfield 18, 3) := by decide +kernel
theorem dX6_findSoonest_134 : decode cX6_findSoonest 134 = .ok (.iload 9, 2) := by decide +kernel
theorem dX6_findSoonest_136 : decode cX6_findSoonest 136 = .ok (.iaload, 1) := by decide +kernel
theorem dX6_findSoonest_137 : decode cX6_findSoonest 137 = .ok (.bipush (-2), 2) := by decide +kernel
theorem dX6_findSoonest_139 : decode cX6_findSoonest 139 = .ok (.if_icmp .ne 41, 3) := by decide +kernel
theorem dX6_findSoonest_142 : decode cX6_findSoonest 142 = .ok (.iload 5, 2) := by decide +kernel
theorem dX6_findSoonest_144 : decode cX6_findSoonest 144 = .ok (.sipush 256, 3) := by decide +kernel
theorem dX6_findSoonest_147 : decode cX6_findSoonest 147 = .ok (.if_icmp .ge 33, 3) := by decide +kernel
theorem dX6_findSoonest_150 : decode cX6_findSoonest 150 = .ok (.aload_n 0, 1) := by decide +kernel
theorem dX6_findSoonest_151 : decode cX6_findSoonest 151 = .ok (.getfield 18, 3) := by decide +kernel
theorem dX6_findSoonest_154 : decode cX6_findSoonest 154 = .ok (.iload 9, 2) := by decide +kernel
theorem dX6_findSoonest_156 : decode cX6_findSoonest 156 = .ok (.iload 8, 2) := by decide +kernel
theorem dX6_findSoonest_158 : decode cX6_findSoonest 158 = .ok (.iastore, 1) := by decide +kernel
theorem dX6_findSoonest_159 : decode cX6_findSoonest 159 = .ok (.aload_n 0, 1) := by decide +kernel
theorem dX6_findSoonest_160 : decode cX6_findSoonest 160 = .ok (.getfield 15, 3) := by decide +kernel
theorem dX6_findSoonest_163 : decode cX6_findSoonest 163 = .ok (.iload 9, 2) := by decide +kernel
theorem dX6_findSoonest_165 : decode cX6_findSoonest 165 = .ok (.iload 7, 2) := by decide +kernel
theorem dX6_findSoonest_167 : decode cX6_findSoonest 167 = .ok (.iastore, 1) := by decide +kernel
theorem dX6_findSoonest_168 : decode cX6_findSoonest 168 = .ok (.aload_n 0, 1) := by decide +kernel
theorem dX6_findSoonest_169 : decode cX6_findSoonest 169 = .ok (.getfield 9, 3) := by decide +kernel
theorem dX6_findSoonest_172 : decode cX6_findSoonest 172 = .ok (.iload 5, 2) := by decide +kernel
theorem dX6_findSoonest_174 : decode cX6_findSoonest 174 = .ok (.iload 9, 2) := by decide +kernel
theorem dX6_findSoonest_176 : decode cX6_findSoonest 176 = .ok (.iastore, 1) := by decide +kernel
theorem dX6_findSoonest_177 : decode cX6_findSoonest 177 = .ok (.iinc 5 1, 3) := by decide +kernel
theorem dX6_findSoonest_180 : decode cX6_findSoonest 180 = .ok (.iinc 8 1, 3) := by decide +kernel
theorem dX6_findSoonest_183 : decode cX6_findSoonest 183 = .ok (.goto (-82), 3) := by decide +kernel
theorem dX6_findSoonest_186 : decode cX6_findSoonest 186 = .ok (.iinc 6 1, 3) := by decide +kernel
theorem dX6_findSoonest_189 : decode cX6_findSoonest 189 = .ok (.goto (-136), 3) := by decide +kernel
theorem dX6_findSoonest_192 : decode cX6_findSoonest 192 = .ok (.iconst (-1), 1) := by decide +kernel
theorem dX6_findSoonest_193 : decode cX6_findSoonest 193 = .ok (.ireturn, 1) := by decide +kernel
theorem dX6_keepSoonest_0 : decode cX6_keepSoonest 0 = .ok (.iconst 0, 1) := by decide +kernel
theorem dX6_keepSoonest_1 : decode cX6_keepSoonest 1 = .ok (.istore_n 2, 1) := by decide +kernel
theorem dX6_keepSoonest_2 : decode cX6_keepSoonest 2 = .ok (.iload_n 1, 1) := by decide +kernel
theorem dX6_keepSoonest_3 : decode cX6_keepSoonest 3 = .ok (.istore_n 3, 1) := by decide +kernel
theorem dX6_keepSoonest_4 : decode cX6_keepSoonest 4 = .ok (.iload_n 2, 1) := by decide +kernel
theorem dX6_keepSoonest_5 : decode cX6_keepSoonest 5 = .ok (.sipush 256, 3) := by decide +kernel
theorem dX6_keepSoonest_8 : decode cX6_keepSoonest 8 = .ok (.if_icmp .ge 26, 3) := by decide +kernel
theorem dX6_keepSoonest_11 : decode cX6_keepSoonest 11 = .ok (.aload_n 0, 1) := by decide +kernel
theorem dX6_keepSoonest_12 : decode cX6_keepSoonest 12 = .ok (.getfield 18, 3) := by decide +kernel
theorem dX6_keepSoonest_15 : decode cX6_keepSoonest 15 = .ok (.iload_n 3, 1) := by decide +kernel
theorem dX6_keepSoonest_16 : decode cX6_keepSoonest 16 = .ok (.iaload, 1) := by decide +kernel
theorem dX6_keepSoonest_17 : decode cX6_keepSoonest 17 = .ok (.iconst (-1), 1) := by decide +kernel
theorem dX6_keepSoonest_18 : decode cX6_keepSoonest 18 = .ok (.if_icmp .eq 16, 3) := by decide +kernel
theorem dX6_keepSoonest_21 : decode cX6_keepSoonest 21 = .ok (.iinc 2 1, 3) := by decide +kernel
theorem dX6_keepSoonest_24 : decode cX6_keepSoonest 24 = .ok (.aload_n 0, 1) := by decide +kernel
theorem dX6_keepSoonest_25 : decode cX6_keepSoonest 25 = .ok (.getfield 15, 3) := by decide +kernel
theorem dX6_keepSoonest_28 : decode cX6_keepSoonest 28 = .ok (.iload_n 3, 1) := by decide +kernel
theorem dX6_keepSoonest_29 : decode cX6_keepSoonest 29 = .ok (.iaload, 1) := by decide +kernel
theorem dX6_keepSoonest_30 : decode cX6_keepSoonest 30 = .ok (.istore_n 3, 1) := by decide +kernel
theorem dX6_keepSoonest_31 : decode cX6_keepSoonest 31 = .ok (.goto (-27), 3) := by decide +kernel
theorem dX6_keepSoonest_34 : decode cX6_keepSoonest 34 = .ok (.iload_n 1, 1) := by decide +kernel
theorem dX6_keepSoonest_35 : decode cX6_keepSoonest 35 = .ok (.istore_n 3, 1) := by decide +kernel
theorem dX6_keepSoonest_36 : decode cX6_keepSoonest 36 = .ok (.iload_n 2, 1) := by decide +kernel
theorem dX6_keepSoonest_37 : decode cX6_keepSoonest 37 = .ok (.iconst 1, 1) := by decide +kernel
theorem dX6_keepSoonest_38 : decode cX6_keepSoonest 38 = .ok (.isub, 1) := by decide +kernel
theorem dX6_keepSoonest_39 : decode cX6_keepSoonest 39 = .ok (.istore 4, 2) := by decide +kernel
theorem dX6_keepSoonest_41 : decode cX6_keepSoonest 41 = .ok (.iload 4, 2) := by decide +kernel
theorem dX6_keepSoonest_43 : decode cX6_keepSoonest 43 = .ok (.ifCond .lt 29, 3) := by decide +kernel
theorem dX6_keepSoonest_46 : decode cX6_keepSoonest 46 = .ok (.aload_n 0, 1) := by decide +kernel
theorem dX6_keepSoonest_47 : decode cX6_keepSoonest 47 = .ok (.getfield 21, 3) := by decide +kernel
theorem dX6_keepSoonest_50 : decode cX6_keepSoonest 50 = .ok (.iload 4, 2) := by decide +kernel
theorem dX6_keepSoonest_52 : decode cX6_keepSoonest 52 = .ok (.aload_n 0, 1) := by decide +kernel
theorem dX6_keepSoonest_53 : decode cX6_keepSoonest 53 = .ok (.getfield 18, 3) := by decide +kernel
theorem dX6_keepSoonest_56 : decode cX6_keepSoonest 56 = .ok (.iload_n 3, 1) := by decide +kernel
theorem dX6_keepSoonest_57 : decode cX6_keepSoonest 57 = .ok (.iaload, 1) := by decide +kernel
theorem dX6_keepSoonest_58 : decode cX6_keepSoonest 58 = .ok (.iastore, 1) := by decide +kernel
theorem dX6_keepSoonest_59 : decode cX6_keepSoonest 59 = .ok (.aload_n 0, 1) := by decide +kernel
theorem dX6_keepSoonest_60 : decode cX6_keepSoonest 60 = .ok (.getfield 15, 3) := by decide +kernel
theorem dX6_keepSoonest_63 : decode cX6_keepSoonest 63 = .ok (.iload_n 3, 1) := by decide +kernel
theorem dX6_keepSoonest_64 : decode cX6_keepSoonest 64 = .ok (.iaload, 1) := by decide +kernel
theorem dX6_keepSoonest_65 : decode cX6_keepSoonest 65 = .ok (.istore_n 3, 1) := by decide +kernel
theorem dX6_keepSoonest_66 : decode cX6_keepSoonest 66 = .ok (.iinc 4 (-1), 3) := by decide +kernel
theorem dX6_keepSoonest_69 : decode cX6_keepSoonest 69 = .ok (.goto (-28), 3) := by decide +kernel
theorem dX6_keepSoonest_72 : decode cX6_keepSoonest 72 = .ok (.aload_n 0, 1) := by decide +kernel
theorem dX6_keepSoonest_73 : decode cX6_keepSoonest 73 = .ok (.iload_n 2, 1) := by decide +kernel
theorem dX6_keepSoonest_74 : decode cX6_keepSoonest 74 = .ok (.putfield 52, 3) := by decide +kernel
theorem dX6_keepSoonest_77 : decode cX6_keepSoonest 77 = .ok (.return_, 1) := by decide +kernel
theorem dX6_countMade_0 : decode cX6_countMade 0 = .ok (.iconst 0, 1) := by decide +kernel
theorem dX6_countMade_1 : decode cX6_countMade 1 = .ok (.istore 4, 2) := by decide +kernel
theorem dX6_countMade_3 : decode cX6_countMade 3 = .ok (.iconst 1, 1) := by decide +kernel
theorem dX6_countMade_4 : decode cX6_countMade 4 = .ok (.istore 5, 2) := by decide +kernel
theorem dX6_countMade_6 : decode cX6_countMade 6 = .ok (.iconst 1, 1) := by decide +kernel
theorem dX6_countMade_7 : decode cX6_countMade 7 = .ok (.istore 6, 2) := by decide +kernel
theorem dX6_countMade_9 : decode cX6_countMade 9 = .ok (.iload 6, 2) := by decide +kernel
theorem dX6_countMade_11 : decode cX6_countMade 11 = .ok (.iconst 3, 1) := by decide +kernel
theorem dX6_countMade_12 : decode cX6_countMade 12 = .ok (.if_icmp .gt 76, 3) := by decide +kernel
theorem dX6_countMade_15 : decode cX6_countMade 15 = .ok (.iload 5, 2) := by decide +kernel
theorem dX6_countMade_17 : decode cX6_countMade 17 = .ok (.aload_n 1, 1) := by decide +kernel
theorem dX6_countMade_18 : decode cX6_countMade 18 = .ok (.getfield 56, 3) := by decide +kernel
theorem dX6_countMade_21 : decode cX6_countMade 21 = .ok (.imul, 1) := by decide +kernel
theorem dX6_countMade_22 : decode cX6_countMade 22 = .ok (.istore 5, 2) := by decide +kernel
theorem dX6_countMade_24 : decode cX6_countMade 24 = .ok (.iconst 0, 1) := by decide +kernel
theorem dX6_countMade_25 : decode cX6_countMade 25 = .ok (.istore 7, 2) := by decide +kernel
theorem dX6_countMade_27 : decode cX6_countMade 27 = .ok (.iload 7, 2) := by decide +kernel
theorem dX6_countMade_29 : decode cX6_countMade 29 = .ok (.iload 5, 2) := by decide +kernel
theorem dX6_countMade_31 : decode cX6_countMade 31 = .ok (.if_icmp .ge 51, 3) := by decide +kernel
theorem dX6_countMade_34 : decode cX6_countMade 34 = .ok (.aload_n 0, 1) := by decide +kernel
theorem dX6_countMade_35 : decode cX6_countMade 35 = .ok (.aload_n 1, 1) := by decide +kernel
theorem dX6_countMade_36 : decode cX6_countMade 36 = .ok (.iload_n 2, 1) := by decide +kernel
theorem dX6_countMade_37 : decode cX6_countMade 37 = .ok (.iload 6, 2) := by decide +kernel
theorem dX6_countMade_39 : decode cX6_countMade 39 = .ok (.iload 7, 2) := by decide +kernel
theorem dX6_countMade_41 : decode cX6_countMade 41 = .ok (.invokevirtual 63, 3) := by decide +kernel
theorem dX6_countMade_44 : decode cX6_countMade 44 = .ok (.iload_n 3, 1) := by decide +kernel
theorem dX6_countMade_45 : decode cX6_countMade 45 = .ok (.if_icmp .ne 31, 3) := by decide +kernel
theorem dX6_countMade_48 : decode cX6_countMade 48 = .ok (.iload 4, 2) := by decide +kernel
theorem dX6_countMade_50 : decode cX6_countMade 50 = .ok (.ifCond .ne 23, 3) := by decide +kernel
theorem dX6_countMade_53 : decode cX6_countMade 53 = .ok (.aload_n 0, 1) := by decide +kernel
theorem dX6_countMade_54 : decode cX6_countMade 54 = .ok (.getfield 24, 3) := by decide +kernel
theorem dX6_countMade_57 : decode cX6_countMade 57 = .ok (.iconst 0, 1) := by decide +kernel
theorem dX6_countMade_58 : decode cX6_countMade 58 = .ok (.aload_n 0, 1) := by decide +kernel
theorem dX6_countMade_59 : decode cX6_countMade 59 = .ok (.getfield 27, 3) := by decide +kernel
theorem dX6_countMade_62 : decode cX6_countMade 62 = .ok (.iconst 0, 1) := by decide +kernel
theorem dX6_countMade_63 : decode cX6_countMade 63 = .ok (.iconst 3, 1) := by decide +kernel
theorem dX6_countMade_64 : decode cX6_countMade 64 = .ok (.invokestatic 67, 3) := by decide +kernel
theorem dX6_countMade_67 : decode cX6_countMade 67 = .ok (.aload_n 0, 1) := by decide +kernel
theorem dX6_countMade_68 : decode cX6_countMade 68 = .ok (.iload 6, 2) := by decide +kernel
theorem dX6_countMade_70 : decode cX6_countMade 70 = .ok (.putfield 73, 3) := by decide +kernel
theorem dX6_countMade_73 : decode cX6_countMade 73 = .ok (.iinc 4 1, 3) := by decide +kernel
theorem dX6_countMade_76 : decode cX6_countMade 76 = .ok (.iinc 7 1, 3) := by decide +kernel
theorem dX6_countMade_79 : decode cX6_countMade 79 = .ok (.goto (-52), 3) := by decide +kernel
theorem dX6_countMade_82 : decode cX6_countMade 82 = .ok (.iinc 6 1, 3) := by decide +kernel
theorem dX6_countMade_85 : decode cX6_countMade 85 = .ok (.goto (-76), 3) := by decide +kernel
theorem dX6_countMade_88 : decode cX6_countMade 88 = .ok (.iload 4, 2) := by decide +kernel
theorem dX6_countMade_90 : decode cX6_countMade 90 = .ok (.ireturn, 1) := by decide +kernel
theorem dX6_climbTried_0 : decode cX6_climbTried 0 = .ok (.aload_n 1, 1) := by decide +kernel
theorem dX6_climbTried_1 : decode cX6_climbTried 1 = .ok (.getfield 56, 3) := by decide +kernel
theorem dX6_climbTried_4 : decode cX6_climbTried 4 = .ok (.iconst 1, 1) := by decide +kernel
theorem dX6_climbTried_5 : decode cX6_climbTried 5 = .ok (.invokestatic 76, 3) := by decide +kernel
theorem dX6_climbTried_8 : decode cX6_climbTried 8 = .ok (.istore 5, 2) := by decide +kernel
theorem dX6_climbTried_10 : decode cX6_climbTried 10 = .ok (.iload 4, 2) := by decide +kernel
theorem dX6_climbTried_12 : decode cX6_climbTried 12 = .ok (.istore 6, 2) := by decide +kernel
theorem dX6_climbTried_14 : decode cX6_climbTried 14 = .ok (.iload_n 3, 1) := by decide +kernel
theorem dX6_climbTried_15 : decode cX6_climbTried 15 = .ok (.iconst 1, 1) := by decide +kernel
theorem dX6_climbTried_16 : decode cX6_climbTried 16 = .ok (.isub, 1) := by decide +kernel
theorem dX6_climbTried_17 : decode cX6_climbTried 17 = .ok (.istore 7, 2) := by decide +kernel
theorem dX6_climbTried_19 : decode cX6_climbTried 19 = .ok (.iload 7, 2) := by decide +kernel
theorem dX6_climbTried_21 : decode cX6_climbTried 21 = .ok (.ifCond .lt 28, 3) := by decide +kernel
theorem dX6_climbTried_24 : decode cX6_climbTried 24 = .ok (.aload_n 0, 1) := by decide +kernel
theorem dX6_climbTried_25 : decode cX6_climbTried 25 = .ok (.getfield 24, 3) := by decide +kernel
theorem dX6_climbTried_28 : decode cX6_climbTried 28 = .ok (.iload 7, 2) := by decide +kernel
theorem dX6_climbTried_30 : decode cX6_climbTried 30 = .ok (.iload 6, 2) := by decide +kernel
theorem dX6_climbTried_32 : decode cX6_climbTried 32 = .ok (.iload 5, 2) := by decide +kernel
theorem dX6_climbTried_34 : decode cX6_climbTried 34 = .ok (.irem, 1) := by decide +kernel
theorem dX6_climbTried_35 : decode cX6_climbTried 35 = .ok (.iastore, 1) := by decide +kernel
theorem dX6_climbTried_36 : decode cX6_climbTried 36 = .ok (.iload 6, 2) := by decide +kernel
theorem dX6_climbTried_38 : decode cX6_climbTried 38 = .ok (.iload 5, 2) := by decide +kernel
theorem dX6_climbTried_40 : decode cX6_climbTried 40 = .ok (.idiv, 1) := by decide +kernel
theorem dX6_climbTried_41 : decode cX6_climbTried 41 = .ok (.istore 6, 2) := by decide +kernel
theorem dX6_climbTried_43 : decode cX6_climbTried 43 = .ok (.iinc 7 (-1), 3) := by decide +kernel
theorem dX6_climbTried_46 : decode cX6_climbTried 46 = .ok (.goto (-27), 3) := by decide +kernel
theorem dX6_climbTried_49 : decode cX6_climbTried 49 = .ok (.iload_n 2, 1) := by decide +kernel
theorem dX6_climbTried_50 : decode cX6_climbTried 50 = .ok (.istore 7, 2) := by decide +kernel
theorem dX6_climbTried_52 : decode cX6_climbTried 52 = .ok (.iconst 0, 1) := by decide +kernel
theorem dX6_climbTried_53 : decode cX6_climbTried 53 = .ok (.istore 8, 2) := by decide +kernel
theorem dX6_climbTried_55 : decode cX6_climbTried 55 = .ok (.iload 8, 2) := by decide +kernel
theorem dX6_climbTried_57 : decode cX6_climbTried 57 = .ok (.iload_n 3, 1) := by decide +kernel
theorem dX6_climbTried_58 : decode cX6_climbTried 58 = .ok (.if_icmp .ge 24, 3) := by decide +kernel
theorem dX6_climbTried_61 : decode cX6_climbTried 61 = .ok (.aload_n 1, 1) := by decide +kernel
theorem dX6_climbTried_62 : decode cX6_climbTried 62 = .ok (.iload 7, 2) := by decide +kernel
theorem dX6_climbTried_64 : decode cX6_climbTried 64 = .ok (.aload_n 0, 1) := by decide +kernel
theorem dX6_climbTried_65 : decode cX6_climbTried 65 = .ok (.getfield 24, 3) := by decide +kernel
theorem dX6_climbTried_68 : decode cX6_climbTried 68 = .ok (.iload 8, 2) := by decide +kernel
theorem dX6_climbTried_70 : decode cX6_climbTried 70 = .ok (.iaload, 1) := by decide +kernel
theorem dX6_climbTried_71 : decode cX6_climbTried 71 = .ok (.invokevirtual 59, 3) := by decide +kernel
theorem dX6_climbTried_74 : decode cX6_climbTried 74 = .ok (.istore 7, 2) := by decide +kernel
theorem dX6_climbTried_76 : decode cX6_climbTried 76 = .ok (.iinc 8 1, 3) := by decide +kernel
theorem dX6_climbTried_79 : decode cX6_climbTried 79 = .ok (.goto (-24), 3) := by decide +kernel
theorem dX6_climbTried_82 : decode cX6_climbTried 82 = .ok (.iload 7, 2) := by decide +kernel
theorem dX6_climbTried_84 : decode cX6_climbTried 84 = .ok (.ireturn, 1) := by decide +kernel
theorem dX7_init_0 : decode cX7_init 0 = .ok (.aload_n 0, 1) := by decide +kernel
theorem dX7_init_1 : decode cX7_init 1 = .ok (.invokespecial 3, 3) := by decide +kernel
theorem dX7_init_4 : decode cX7_init 4 = .ok (.aload_n 0, 1) := by decide +kernel
theorem dX7_init_5 : decode cX7_init 5 = .ok (.bipush 40, 2) := by decide +kernel
theorem dX7_init_7 : decode cX7_init 7 = .ok (.newarray .int, 2) := by decide +kernel
theorem dX7_init_9 : decode cX7_init 9 = .ok (.putfield 9, 3) := by decide +kernel
theorem dX7_init_12 : decode cX7_init 12 = .ok (.aload_n 0, 1) := by decide +kernel
theorem dX7_init_13 : decode cX7_init 13 = .ok (.bipush 40, 2) := by decide +kernel
theorem dX7_init_15 : decode cX7_init 15 = .ok (.newarray .int, 2) := by decide +kernel
theorem dX7_init_17 : decode cX7_init 17 = .ok (.putfield 15, 3) := by decide +kernel
theorem dX7_init_20 : decode cX7_init 20 = .ok (.aload_n 0, 1) := by decide +kernel
theorem dX7_init_21 : decode cX7_init 21 = .ok (.bipush 40, 2) := by decide +kernel
theorem dX7_init_23 : decode cX7_init 23 = .ok (.newarray .int, 2) := by decide +kernel
theorem dX7_init_25 : decode cX7_init 25 = .ok (.putfield 18, 3) := by decide +kernel
theorem dX7_init_28 : decode cX7_init 28 = .ok (.return_, 1) := by decide +kernel
theorem dX7_empty_0 : decode cX7_empty 0 = .ok (.aload_n 0, 1) := by decide +kernel
theorem dX7_empty_1 : decode cX7_empty 1 = .ok (.iconst 0, 1) := by decide +kernel
theorem dX7_empty_2 : decode cX7_empty 2 = .ok (.putfield 21, 3) := by decide +kernel
theorem dX7_empty_5 : decode cX7_empty 5 = .ok (.aload_n 0, 1) := by decide +kernel
theorem dX7_empty_6 : decode cX7_empty 6 = .ok (.iconst 0, 1) := by decide +kernel
theorem dX7_empty_7 : decode cX7_empty 7 = .ok (.putfield 25, 3) := by decide +kernel
theorem dX7_empty_10 : decode cX7_empty 10 = .ok (.return_, 1) := by decide +kernel
theorem dX7_copyFrom_0 : decode cX7_copyFrom 0 = .ok (.aload_n 1, 1) := by decide +kernel
theorem dX7_copyFrom_1 : decode cX7_copyFrom 1 = .ok (.getfield 9, 3) := by decide +kernel
theorem dX7_copyFrom_4 : decode cX7_copyFrom 4 = .ok (.iconst 0, 1) := by decide +kernel
theorem dX7_copyFrom_5 : decode cX7_copyFrom 5 = .ok (.aload_n 0, 1) := by decide +kernel
theorem dX7_copyFrom_6 : decode cX7_copyFrom 6 = .ok (.getfield 9, 3) := by decide +kernel
theorem dX7_copyFrom_9 : decode cX7_copyFrom 9 = .ok (.iconst 0, 1) := by decide +kernel
theorem dX7_copyFrom_10 : decode cX7_copyFrom 10 = .ok (.bipush 40, 2) := by decide +kernel
theorem dX7_copyFrom_12 : decode cX7_copyFrom 12 = .ok (.invokestatic 28, 3) := by decide +kernel
theorem dX7_copyFrom_15 : decode cX7_copyFrom 15 = .ok (.aload_n 1, 1) := by decide +kernel
theorem dX7_copyFrom_16 : decode cX7_copyFrom 16 = .ok (.getfield 15, 3) := by decide +kernel
theorem dX7_copyFrom_19 : decode cX7_copyFrom 19 = .ok (.iconst 0, 1) := by decide +kernel
theorem dX7_copyFrom_20 : decode cX7_copyFrom 20 = .ok (.aload_n 0, 1) := by decide +kernel
theorem dX7_copyFrom_21 : decode cX7_copyFrom 21 = .ok (.getfield 15, 3) := by decide +kernel
theorem dX7_copyFrom_24 : decode cX7_copyFrom 24 = .ok (.iconst 0, 1) := by decide +kernel
theorem dX7_copyFrom_25 : decode cX7_copyFrom 25 = .ok (.bipush 40, 2) := by decide +kernel
theorem dX7_copyFrom_27 : decode cX7_copyFrom 27 = .ok (.invokestatic 28, 3) := by decide +kernel
theorem dX7_copyFrom_30 : decode cX7_copyFrom 30 = .ok (.aload_n 1, 1) := by decide +kernel
theorem dX7_copyFrom_31 : decode cX7_copyFrom 31 = .ok (.getfield 18, 3) := by decide +kernel
theorem dX7_copyFrom_34 : decode cX7_copyFrom 34 = .ok (.iconst 0, 1) := by decide +kernel
theorem dX7_copyFrom_35 : decode cX7_copyFrom 35 = .ok (.aload_n 0, 1) := by decide +kernel
theorem dX7_copyFrom_36 : decode cX7_copyFrom 36 = .ok (.getfield 18, 3) := by decide +kernel
theorem dX7_copyFrom_39 : decode cX7_copyFrom 39 = .ok (.iconst 0, 1) := by decide +kernel
theorem dX7_copyFrom_40 : decode cX7_copyFrom 40 = .ok (.bipush 40, 2) := by decide +kernel
theorem dX7_copyFrom_42 : decode cX7_copyFrom 42 = .ok (.invokestatic 28, 3) := by decide +kernel
theorem dX7_copyFrom_45 : decode cX7_copyFrom 45 = .ok (.aload_n 0, 1) := by decide +kernel
theorem dX7_copyFrom_46 : decode cX7_copyFrom 46 = .ok (.aload_n 1, 1) := by decide +kernel
theorem dX7_copyFrom_47 : decode cX7_copyFrom 47 = .ok (.getfield 21, 3) := by decide +kernel
theorem dX7_copyFrom_50 : decode cX7_copyFrom 50 = .ok (.putfield 21, 3) := by decide +kernel
theorem dX7_copyFrom_53 : decode cX7_copyFrom 53 = .ok (.aload_n 0, 1) := by decide +kernel
theorem dX7_copyFrom_54 : decode cX7_copyFrom 54 = .ok (.aload_n 1, 1) := by decide +kernel
theorem dX7_copyFrom_55 : decode cX7_copyFrom 55 = .ok (.getfield 25, 3) := by decide +kernel
theorem dX7_copyFrom_58 : decode cX7_copyFrom 58 = .ok (.putfield 25, 3) := by decide +kernel
theorem dX7_copyFrom_61 : decode cX7_copyFrom 61 = .ok (.return_, 1) := by decide +kernel
theorem dX7_readFrom_0 : decode cX7_readFrom 0 = .ok (.aload_n 0, 1) := by decide +kernel
theorem dX7_readFrom_1 : decode cX7_readFrom 1 = .ok (.invokevirtual 34, 3) := by decide +kernel
theorem dX7_readFrom_4 : decode cX7_readFrom 4 = .ok (.aload_n 1, 1) := by decide +kernel
theorem dX7_readFrom_5 : decode cX7_readFrom 5 = .ok (.sipush 200, 3) := by decide +kernel
theorem dX7_readFrom_8 : decode cX7_readFrom 8 = .ok (.invokevirtual 37, 3) := by decide +kernel
theorem dX7_readFrom_11 : decode cX7_readFrom 11 = .ok (.aload_n 0, 1) := by decide +kernel
theorem dX7_readFrom_12 : decode cX7_readFrom 12 = .ok (.aload_n 1, 1) := by decide +kernel
theorem dX7_readFrom_13 : decode cX7_readFrom 13 = .ok (.aload_n 2, 1) := by decide +kernel
theorem dX7_readFrom_14 : decode cX7_readFrom 14 = .ok (.iconst 1, 1) := by decide +kernel
theorem dX7_readFrom_15 : decode cX7_readFrom 15 = .ok (.invokevirtual 43, 3) := by decide +kernel
theorem dX7_readFrom_18 : decode cX7_readFrom 18 = .ok (.aload_n 1, 1) := by decide +kernel
theorem dX7_readFrom_19 : decode cX7_readFrom 19 = .ok (.invokevirtual 47, 3) := by decide +kernel
theorem dX7_readFrom_22 : decode cX7_readFrom 22 = .ok (.ireturn, 1) := by decide +kernel
theorem dX7_readCond_0 : decode cX7_readCond 0 = .ok (.aload_n 0, 1) := by decide +kernel
theorem dX7_readCond_1 : decode cX7_readCond 1 = .ok (.aload_n 1, 1) := by decide +kernel
theorem dX7_readCond_2 : decode cX7_readCond 2 = .ok (.aload_n 2, 1) := by decide +kernel
theorem dX7_readCond_3 : decode cX7_readCond 3 = .ok (.iload_n 3, 1) := by decide +kernel
theorem dX7_readCond_4 : decode cX7_readCond 4 = .ok (.invokevirtual 51, 3) := by decide +kernel
theorem dX7_readCond_7 : decode cX7_readCond 7 = .ok (.iconst 0, 1) := by decide +kernel
theorem dX7_readCond_8 : decode cX7_readCond 8 = .ok (.istore 4, 2) := by decide +kernel
theorem dX7_readCond_10 : decode cX7_readCond 10 = .ok (.iload 4, 2) := by decide +kernel
theorem dX7_readCond_12 : decode cX7_readCond 12 = .ok (.bipush 20, 2) := by decide +kernel
theorem dX7_readCond_14 : decode cX7_readCond 14 = .ok (.if_icmp .ge 33, 3) := by decide +kernel
theorem dX7_readCond_17 : decode cX7_readCond 17 = .ok (.aload_n 1, 1) := by decide +kernel
theorem dX7_readCond_18 : decode cX7_readCond 18 = .ok (.bipush 24, 2) := by decide +kernel
theorem dX7_readCond_20 : decode cX7_readCond 20 = .ok (.invokevirtual 54, 3) := by decide +kernel
theorem dX7_readCond_23 : decode cX7_readCond 23 = .ok (.ifCond .eq 24, 3) := by decide +kernel
theorem dX7_readCond_26 : decode cX7_readCond 26 = .ok (.aload_n 0, 1) := by decide +kernel
theorem dX7_readCond_27 : decode cX7_readCond 27 = .ok (.aload_n 1, 1) := by decide +kernel
theorem dX7_readCond_28 : decode cX7_readCond 28 = .ok (.aload_n 2, 1) := by decide +kernel
theorem dX7_readCond_29 : decode cX7_readCond 29 = .ok (.iload_n 3, 1) := by decide +kernel
theorem dX7_readCond_30 : decode cX7_readCond 30 = .ok (.invokevirtual 51, 3) := by decide +kernel
theorem dX7_readCond_33 : decode cX7_readCond 33 = .ok (.aload_n 0, 1) := by decide +kernel
theorem dX7_readCond_34 : decode cX7_readCond 34 = .ok (.bipush 24, 2) := by decide +kernel
theorem dX7_readCond_36 : decode cX7_readCond 36 = .ok (.iconst 0, 1) := by decide +kernel
theorem dX7_readCond_37 : decode cX7_readCond 37 = .ok (.iconst 0, 1) := by decide +kernel
theorem dX7_readCond_38 : decode cX7_readCond 38 = .ok (.invokevirtual 58, 3) := by decide +kernel
theorem dX7_readCond_41 : decode cX7_readCond 41 = .ok (.iinc 4 1, 3) := by decide +kernel
theorem dX7_readCond_44 : decode cX7_readCond 44 = .ok (.goto (-34), 3) := by decide +kernel
theorem dX7_readCond_47 : decode cX7_readCond 47 = .ok (.return_, 1) := by decide +kernel
theorem dX7_readAll_0 : decode cX7_readAll 0 = .ok (.aload_n 0, 1) := by decide +kernel
theorem dX7_readAll_1 : decode cX7_readAll 1 = .ok (.aload_n 1, 1) := by decide +kernel
theorem dX7_readAll_2 : decode cX7_readAll 2 = .ok (.aload_n 2, 1) := by decide +kernel
theorem dX7_readAll_3 : decode cX7_readAll 3 = .ok (.iload_n 3, 1) := by decide +kernel
theorem dX7_readAll_4 : decode cX7_readAll 4 = .ok (.invokevirtual 62, 3) := by decide +kernel
theorem dX7_readAll_7 : decode cX7_readAll 7 = .ok (.iconst 0, 1) := by decide +kernel
theorem dX7_readAll_8 : decode cX7_readAll 8 = .ok (.istore 4, 2) := by decide +kernel
theorem dX7_readAll_10 : decode cX7_readAll 10 = .ok (.iload 4, 2) := by decide +kernel
theorem dX7_readAll_12 : decode cX7_readAll 12 = .ok (.bipush 20, 2) := by decide +kernel
theorem dX7_readAll_14 : decode cX7_readAll 14 = .ok (.if_icmp .ge 33, 3) := by decide +kernel
theorem dX7_readAll_17 : decode cX7_readAll 17 = .ok (.aload_n 1, 1) := by decide +kernel
theorem dX7_readAll_18 : decode cX7_readAll 18 = .ok (.bipush 25, 2) := by decide +kernel
theorem dX7_readAll_20 : decode cX7_readAll 20 = .ok (.invokevirtual 54, 3) := by decide +kernel
theorem dX7_readAll_23 : decode cX7_readAll 23 = .ok (.ifCond .eq 24, 3) := by decide +kernel
theorem dX7_readAll_26 : decode cX7_readAll 26 = .ok (.aload_n 0, 1) := by decide +kernel
theorem dX7_readAll_27 : decode cX7_readAll 27 = .ok (.aload_n 1, 1) := by decide +kernel
theorem dX7_readAll_28 : decode cX7_readAll 28 = .ok (.aload_n 2, 1) := by decide +kernel
theorem dX7_readAll_29 : decode cX7_readAll 29 = .ok (.iload_n 3, 1) := by decide +kernel
theorem dX7_readAll_30 : decode cX7_readAll 30 = .ok (.invokevirtual 62, 3) := by decide +kernel
theorem dX7_readAll_33 : decode cX7_readAll 33 = .ok (.aload_n 0, 1) := by decide +kernel
theorem dX7_readAll_34 : decode cX7_readAll 34 = .ok (.bipush 25, 2) := by decide +kernel
theorem dX7_readAll_36 : decode cX7_readAll 36 = .ok (.iconst 0, 1) := by decide +kernel
theorem dX7_readAll_37 : decode cX7_readAll 37 = .ok (.iconst 0, 1) := by decide +kernel
theorem dX7_readAll_38 : decode cX7_readAll 38 = .ok (.invokevirtual 58, 3) := by decide +kernel
theorem dX7_readAll_41 : decode cX7_readAll 41 = .ok (.iinc 4 1, 3) := by decide +kernel
theorem dX7_readAll_44 : decode cX7_readAll 44 = .ok (.goto (-34), 3) := by decide +kernel
theorem dX7_readAll_47 : decode cX7_readAll 47 = .ok (.return_, 1) := by decide +kernel
theorem dX7_readOne_0 : decode cX7_readOne 0 = .ok (.aload_n 1, 1) := by decide +kernel
theorem dX7_readOne_1 : decode cX7_readOne 1 = .ok (.bipush 40, 2) := by decide +kernel
theorem dX7_readOne_3 : decode cX7_readOne 3 = .ok (.invokevirtual 65, 3) := by decide +kernel
theorem dX7_readOne_6 : decode cX7_readOne 6 = .ok (.ifCond .ne 22, 3) := by decide +kernel
theorem dX7_readOne_9 : decode cX7_readOne 9 = .ok (.aload_n 1, 1) := by decide +kernel
theorem dX7_readOne_10 : decode cX7_readOne 10 = .ok (.bipush 26, 2) := by decide +kernel
theorem dX7_readOne_12 : decode cX7_readOne 12 = .ok (.bipush 10, 2) := by decide +kernel
theorem dX7_readOne_14 : decode cX7_readOne 14 = .ok (.invokevirtual 69, 3) := by decide +kernel
theorem dX7_readOne_17 : decode cX7_readOne 17 = .ok (.ifCond .ne 11, 3) := by decide +kernel
theorem dX7_readOne_20 : decode cX7_readOne 20 = .ok (.aload_n 1, 1) := by decide +kernel
theorem dX7_readOne_21 : decode cX7_readOne 21 = .ok (.iconst 1, 1) := by decide +kernel
theorem dX7_readOne_22 : decode cX7_readOne 22 = .ok (.invokevirtual 73, 3) := by decide +kernel
theorem dX7_readOne_25 : decode cX7_readOne 25 = .ok (.goto 23, 3) := by decide +kernel
theorem dX7_readOne_28 : decode cX7_readOne 28 = .ok (.aload_n 0, 1) := by decide +kernel
theorem dX7_readOne_29 : decode cX7_readOne 29 = .ok (.getfield 25, 3) := by decide +kernel
theorem dX7_readOne_32 : decode cX7_readOne 32 = .ok (.bipush 20, 2) := by decide +kernel
theorem dX7_readOne_34 : decode cX7_readOne 34 = .ok (.if_icmp .ge 9, 3) := by decide +kernel
theorem dX7_readOne_37 : decode cX7_readOne 37 = .ok (.iload_n 3, 1) := by decide +kernel
theorem dX7_readOne_38 : decode cX7_readOne 38 = .ok (.bipush 8, 2) := by decide +kernel
theorem dX7_readOne_40 : decode cX7_readOne 40 = .ok (.if_icmp .le 8, 3) := by decide +kernel
theorem dX7_readOne_43 : decode cX7_readOne 43 = .ok (.aload_n 1, 1) := by decide +kernel
theorem dX7_readOne_44 : decode cX7_readOne 44 = .ok (.iconst 4, 1) := by decide +kernel
theorem dX7_readOne_45 : decode cX7_readOne 45 = .ok (.invokevirtual 73, 3) := by decide +kernel
theorem dX7_readOne_48 : decode cX7_readOne 48 = .ok (.aload_n 1, 1) := by decide +kernel
theorem dX7_readOne_49 : decode cX7_readOne 49 = .ok (.getfield 76, 3) := by decide +kernel
theorem dX7_readOne_52 : decode cX7_readOne 52 = .ok (.ifCond .eq 4, 3) := by decide +kernel
theorem dX7_readOne_55 : decode cX7_readOne 55 = .ok (.return_, 1) := by decide +kernel
theorem dX7_readOne_56 : decode cX7_readOne 56 = .ok (.aload_n 0, 1) := by decide +kernel
theorem dX7_readOne_57 : decode cX7_readOne 57 = .ok (.dup, 1) := by decide +kernel
theorem dX7_readOne_58 : decode cX7_readOne 58 = .ok (.getfield 25, 3) := by decide +kernel
theorem dX7_readOne_61 : decode cX7_readOne 61 = .ok (.iconst 1, 1) := by decide +kernel
theorem dX7_readOne_62 : decode cX7_readOne 62 = .ok (.iadd, 1) := by decide +kernel
theorem dX7_readOne_63 : decode cX7_readOne 63 = .ok (.putfield 25, 3) := by decide +kernel
theorem dX7_readOne_66 : decode cX7_readOne 66 = .ok (.aload_n 1, 1) := by decide +kernel
theorem dX7_readOne_67 : decode cX7_readOne 67 = .ok (.bipush 40, 2) := by decide +kernel
theorem dX7_readOne_69 : decode cX7_readOne 69 = .ok (.invokevirtual 79, 3) := by decide +kernel
theorem dX7_readOne_72 : decode cX7_readOne 72 = .ok (.ifCond .eq 21, 3) := by decide +kernel
theorem dX7_readOne_75 : decode cX7_readOne 75 = .ok (.aload_n 0, 1) := by decide +kernel
theorem dX7_readOne_76 : decode cX7_readOne 76 = .ok (.aload_n 1, 1) := by decide +kernel
theorem dX7_readOne_77 : decode cX7_readOne 77 = .ok (.aload_n 2, 1) := by decide +kernel
theorem dX7_readOne_78 : decode cX7_readOne 78 = .ok (.iload_n 3, 1) := by decide +kernel
theorem dX7_readOne_79 : decode cX7_readOne 79 = .ok (.iconst 1, 1) := by decide +kernel
theorem dX7_readOne_80 : decode cX7_readOne 80 = .ok (.iadd, 1) := by decide +kernel
theorem dX7_readOne_81 : decode cX7_readOne 81 = .ok (.invokevirtual 43, 3) := by decide +kernel
theorem dX7_readOne_84 : decode cX7_readOne 84 = .ok (.aload_n 1, 1) := by decide +kernel
theorem dX7_readOne_85 : decode cX7_readOne 85 = .ok (.bipush 41, 2) := by decide +kernel
theorem dX7_readOne_87 : decode cX7_readOne 87 = .ok (.invokevirtual 82, 3) := by decide +kernel
theorem dX7_readOne_90 : decode cX7_readOne 90 = .ok (.goto 38, 3) := by decide +kernel
theorem dX7_readOne_93 : decode cX7_readOne 93 = .ok (.aload_n 1, 1) := by decide +kernel
theorem dX7_readOne_94 : decode cX7_readOne 94 = .ok (.bipush 26, 2) := by decide +kernel
theorem dX7_readOne_96 : decode cX7_readOne 96 = .ok (.invokevirtual 54, 3) := by decide +kernel
theorem dX7_readOne_99 : decode cX7_readOne 99 = .ok (.ifCond .eq 23, 3) := by decide +kernel
theorem dX7_readOne_102 : decode cX7_readOne 102 = .ok (.aload_n 0, 1) := by decide +kernel
theorem dX7_readOne_103 : decode cX7_readOne 103 = .ok (.aload_n 1, 1) := by decide +kernel
theorem dX7_readOne_104 : decode cX7_readOne 104 = .ok (.aload_n 2, 1) := by decide +kernel
theorem dX7_readOne_105 : decode cX7_readOne 105 = .ok (.iload_n 3, 1) := by decide +kernel
theorem dX7_readOne_106 : decode cX7_readOne 106 = .ok (.iconst 1, 1) := by decide +kernel
theorem dX7_readOne_107 : decode cX7_readOne 107 = .ok (.iadd, 1) := by decide +kernel
theorem dX7_readOne_108 : decode cX7_readOne 108 = .ok (.invokevirtual 62, 3) := by decide +kernel
theorem dX7_readOne_111 : decode cX7_readOne 111 = .ok (.aload_n 0, 1) := by decide +kernel
theorem dX7_readOne_112 : decode cX7_readOne 112 = .ok (.bipush 26, 2) := by decide +kernel
theorem dX7_readOne_114 : decode cX7_readOne 114 = .ok (.iconst 0, 1) := by decide +kernel
theorem dX7_readOne_115 : decode cX7_readOne 115 = .ok (.iconst 0, 1) := by decide +kernel
theorem dX7_readOne_116 : decode cX7_readOne 116 = .ok (.invokevirtual 58, 3) := by decide +kernel
theorem dX7_readOne_119 : decode cX7_readOne 119 = .ok (.goto 9, 3) := by decide +kernel
theorem dX7_readOne_122 : decode cX7_readOne 122 = .ok (.aload_n 0, 1) := by decide +kernel
theorem dX7_readOne_123 : decode cX7_readOne 123 = .ok (.aload_n 1, 1) := by decide +kernel
theorem dX7_readOne_124 : decode cX7_readOne 124 = .ok (.aload_n 2, 1) := by decide +kernel
theorem dX7_readOne_125 : decode cX7_readOne 125 = .ok (.invokevirtual 86, 3) := by decide +kernel
theorem dX7_readOne_128 : decode cX7_readOne 128 = .ok (.return_, 1) := by decide +kernel
theorem dX7_readPlain_0 : decode cX7_readPlain 0 = .ok (.bipush 27, 2) := by decide +kernel
theorem dX7_readPlain_2 : decode cX7_readPlain 2 = .ok (.aload_n 1, 1) := by decide +kernel
theorem dX7_readPlain_3 : decode cX7_readPlain 3 = .ok (.bipush 27, 2) := by decide +kernel
theorem dX7_readPlain_5 : decode cX7_readPlain 5 = .ok (.bipush 9, 2) := by decide +kernel
theorem dX7_readPlain_7 : decode cX7_readPlain 7 = .ok (.invokevirtual 90, 3) := by decide +kernel
theorem dX7_readPlain_10 : decode cX7_readPlain 10 = .ok (.iadd, 1) := by decide +kernel
theorem dX7_readPlain_11 : decode cX7_readPlain 11 = .ok (.istore_n 3, 1) := by decide +kernel
theorem dX7_readPlain_12 : decode cX7_readPlain 12 = .ok (.iconst 0, 1) := by decide +kernel
theorem dX7_readPlain_13 : decode cX7_readPlain 13 = .ok (.istore 4, 2) := by decide +kernel
theorem dX7_readPlain_15 : decode cX7_readPlain 15 = .ok (.iconst 0, 1) := by decide +kernel
theorem dX7_readPlain_16 : decode cX7_readPlain 16 = .ok (.istore 5, 2) := by decide +kernel
theorem dX7_readPlain_18 : decode cX7_readPlain 18 = .ok (.iload_n 3, 1) := by decide +kernel
theorem dX7_readPlain_19 : decode cX7_readPlain 19 = .ok (.bipush 30, 2) := by decide +kernel
theorem dX7_readPlain_21 : decode cX7_readPlain 21 = .ok (.if_icmp .ne 16, 3) := by decide +kernel
theorem dX7_readPlain_24 : decode cX7_readPlain 24 = .ok (.aload_n 1, 1) := by decide +kernel
theorem dX7_readPlain_25 : decode cX7_readPlain 25 = .ok (.bipush 9, 2) := by decide +kernel
theorem dX7_readPlain_27 : decode cX7_readPlain 27 = .ok (.bipush 8, 2) := by decide +kernel
theorem dX7_readPlain_29 : decode cX7_readPlain 29 = .ok (.invokevirtual 90, 3) := by decide +kernel
theorem dX7_readPlain_32 : decode cX7_readPlain 32 = .ok (.istore 5, 2) := by decide +kernel
theorem dX7_readPlain_34 : decode cX7_readPlain 34 = .ok (.goto 41, 3) := by decide +kernel
theorem dX7_readPlain_37 : decode cX7_readPlain 37 = .ok (.iload_n 3, 1) := by decide +kernel
theorem dX7_readPlain_38 : decode cX7_readPlain 38 = .ok (.bipush 31, 2) := by decide +kernel
theorem dX7_readPlain_40 : decode cX7_readPlain 40 = .ok (.if_icmp .ne 13, 3) := by decide +kernel
theorem dX7_readPlain_43 : decode cX7_readPlain 43 = .ok (.aload_n 1, 1) := by decide +kernel
theorem dX7_readPlain_44 : decode cX7_readPlain 44 = .ok (.aload_n 2, 1) := by decide +kernel
theorem dX7_readPlain_45 : decode cX7_readPlain 45 = .ok (.invokevirtual 94, 3) := by decide +kernel
theorem dX7_readPlain_48 : decode cX7_readPlain 48 = .ok (.istore 5, 2) := by decide +kernel
theorem dX7_readPlain_50 : decode cX7_readPlain 50 = .ok (.goto 25, 3) := by decide +kernel
theorem dX7_readPlain_53 : decode cX7_readPlain 53 = .ok (.iload_n 3, 1) := by decide +kernel
theorem dX7_readPlain_54 : decode cX7_readPlain 54 = .ok (.bipush 32, 2) := by decide +kernel
theorem dX7_readPlain_56 : decode cX7_readPlain 56 = .ok (.if_icmp .lt 19, 3) := by decide +kernel
theorem dX7_readPlain_59 : decode cX7_readPlain 59 = .ok (.aload_n 1, 1) := by decide +kernel
theorem dX7_readPlain_60 : decode cX7_readPlain 60 = .ok (.invokevirtual 98, 3) := by decide +kernel
theorem dX7_readPlain_63 : decode cX7_readPlain 63 = .ok (.istore 4, 2) := by decide +kernel
theorem dX7_readPlain_65 : decode cX7_readPlain 65 = .ok (.aload_n 1, 1) := by decide +kernel
theorem dX7_readPlain_66 : decode cX7_readPlain 66 = .ok (.iconst 0, 1) := by decide +kernel
theorem dX7_readPlain_67 : decode cX7_readPlain 67 = .ok (.sipush 999, 3) := by decide +kernel
theorem dX7_readPlain_70 : decode cX7_readPlain 70 = .ok (.invokevirtual 102, 3) := by decide +kernel
theorem dX7_readPlain_73 : decode cX7_readPlain 73 = .ok (.istore 5, 2) := by decide +kernel
theorem dX7_readPlain_75 : decode cX7_readPlain 75 = .ok (.aload_n 0, 1) := by decide +kernel
theorem dX7_readPlain_76 : decode cX7_readPlain 76 = .ok (.iload_n 3, 1) := by decide +kernel
theorem dX7_readPlain_77 : decode cX7_readPlain 77 = .ok (.iload 4, 2) := by decide +kernel
theorem dX7_readPlain_79 : decode cX7_readPlain 79 = .ok (.iload 5, 2) := by decide +kernel
theorem dX7_readPlain_81 : decode cX7_readPlain 81 = .ok (.invokevirtual 58, 3) := by decide +kernel
theorem dX7_readPlain_84 : decode cX7_readPlain 84 = .ok (.return_, 1) := by decide +kernel
theorem dX7_addStep_0 : decode cX7_addStep 0 = .ok (.aload_n 0, 1) := by decide +kernel
theorem dX7_addStep_1 : decode cX7_addStep 1 = .ok (.getfield 21, 3) := by decide +kernel
theorem dX7_addStep_4 : decode cX7_addStep 4 = .ok (.bipush 40, 2) := by decide +kernel
theorem dX7_addStep_6 : decode cX7_addStep 6 = .ok (.if_icmp .ge 43, 3) := by decide +kernel
theorem dX7_addStep_9 : decode cX7_addStep 9 = .ok (.aload_n 0, 1) := by decide +kernel
theorem dX7_addStep_10 : decode cX7_addStep 10 = .ok (.getfield 9, 3) := by decide +kernel
theorem dX7_addStep_13 : decode cX7_addStep 13 = .ok (.aload_n 0, 1) := by decide +kernel
theorem dX7_addStep_14 : decode cX7_addStep 14 = .ok (.getfield 21, 3) := by decide +kernel
theorem dX7_addStep_17 : decode cX7_addStep 17 = .ok (.iload_n 1, 1) := by decide +kernel
theorem dX7_addStep_18 : decode cX7_addStep 18 = .ok (.iastore, 1) := by decide +kernel
theorem dX7_addStep_19 : decode cX7_addStep 19 = .ok (.aload_n 0, 1) := by decide +kernel
theorem dX7_addStep_20 : decode cX7_addStep 20 = .ok (.getfield 15, 3) := by decide +kernel
theorem dX7_addStep_23 : decode cX7_addStep 23 = .ok (.aload_n 0, 1) := by decide +kernel
theorem dX7_addStep_24 : decode cX7_addStep 24 = .ok (.getfield 21, 3) := by decide +kernel
theorem dX7_addStep_27 : decode cX7_addStep 27 = .ok (.iload_n 2, 1) := by decide +kernel
theorem dX7_addStep_28 : decode cX7_addStep 28 = .ok (.iastore, 1) := by decide +kernel
theorem dX7_addStep_29 : decode cX7_addStep 29 = .ok (.aload_n 0, 1) := by decide +kernel
theorem dX7_addStep_30 : decode cX7_addStep 30 = .ok (.getfield 18, 3) := by decide +kernel
theorem dX7_addStep_33 : decode cX7_addStep 33 = .ok (.aload_n 0, 1) := by decide +kernel
theorem dX7_addStep_34 : decode cX7_addStep 34 = .ok (.getfield 21, 3) := by decide +kernel
theorem dX7_addStep_37 : decode cX7_addStep 37 = .ok (.iload_n 3, 1) := by decide +kernel
theorem dX7_addStep_38 : decode cX7_addStep 38 = .ok (.iastore, 1) := by decide +kernel
theorem dX7_addStep_39 : decode cX7_addStep 39 = .ok (.aload_n 0, 1) := by decide +kernel
theorem dX7_addStep_40 : decode cX7_addStep 40 = .ok (.dup, 1) := by decide +kernel
theorem dX7_addStep_41 : decode cX7_addStep 41 = .ok (.getfield 21, 3) := by decide +kernel
theorem dX7_addStep_44 : decode cX7_addStep 44 = .ok (.iconst 1, 1) := by decide +kernel
theorem dX7_addStep_45 : decode cX7_addStep 45 = .ok (.iadd, 1) := by decide +kernel
theorem dX7_addStep_46 : decode cX7_addStep 46 = .ok (.putfield 21, 3) := by decide +kernel
theorem dX7_addStep_49 : decode cX7_addStep 49 = .ok (.return_, 1) := by decide +kernel
theorem dX7_holdsOf_0 : decode cX7_holdsOf 0 = .ok (.iconst 0, 1) := by decide +kernel
theorem dX7_holdsOf_1 : decode cX7_holdsOf 1 = .ok (.istore_n 3, 1) := by decide +kernel
theorem dX7_holdsOf_2 : decode cX7_holdsOf 2 = .ok (.iconst 0, 1) := by decide +kernel
theorem dX7_holdsOf_3 : decode cX7_holdsOf 3 = .ok (.istore 4, 2) := by decide +kernel
theorem dX7_holdsOf_5 : decode cX7_holdsOf 5 = .ok (.iload 4, 2) := by decide +kernel
theorem dX7_holdsOf_7 : decode cX7_holdsOf 7 = .ok (.aload_n 0, 1) := by decide +kernel
theorem dX7_holdsOf_8 : decode cX7_holdsOf 8 = .ok (.getfield 21, 3) := by decide +kernel
theorem dX7_holdsOf_11 : decode cX7_holdsOf 11 = .ok (.if_icmp .ge 101, 3) := by decide +kernel
theorem dX7_holdsOf_14 : decode cX7_holdsOf 14 = .ok (.iload_n 3, 1) := by decide +kernel
theorem dX7_holdsOf_15 : decode cX7_holdsOf 15 = .ok (.iconst 1, 1) := by decide +kernel
theorem dX7_holdsOf_16 : decode cX7_holdsOf 16 = .ok (.iand, 1) := by decide +kernel
theorem dX7_holdsOf_17 : decode cX7_holdsOf 17 = .ok (.istore 5, 2) := by decide +kernel
theorem dX7_holdsOf_19 : decode cX7_holdsOf 19 = .ok (.aload_n 0, 1) := by decide +kernel
theorem dX7_holdsOf_20 : decode cX7_holdsOf 20 = .ok (.getfield 9, 3) := by decide +kernel
theorem dX7_holdsOf_23 : decode cX7_holdsOf 23 = .ok (.iload 4, 2) := by decide +kernel
theorem dX7_holdsOf_25 : decode cX7_holdsOf 25 = .ok (.iaload, 1) := by decide +kernel
theorem dX7_holdsOf_26 : decode cX7_holdsOf 26 = .ok (.bipush 24, 2) := by decide +kernel
theorem dX7_holdsOf_28 : decode cX7_holdsOf 28 = .ok (.if_icmp .ne 13, 3) := by decide +kernel
theorem dX7_holdsOf_31 : decode cX7_holdsOf 31 = .ok (.iload_n 3, 1) := by decide +kernel
theorem dX7_holdsOf_32 : decode cX7_holdsOf 32 = .ok (.iconst 1, 1) := by decide +kernel
theorem dX7_holdsOf_33 : decode cX7_holdsOf 33 = .ok (.iushr, 1) := by decide +kernel
theorem dX7_holdsOf_34 : decode cX7_holdsOf 34 = .ok (.iload 5, 2) := by decide +kernel
theorem dX7_holdsOf_36 : decode cX7_holdsOf 36 = .ok (.ior, 1) := by decide +kernel
theorem dX7_holdsOf_37 : decode cX7_holdsOf 37 = .ok (.istore_n 3, 1) := by decide +kernel
theorem dX7_holdsOf_38 : decode cX7_holdsOf 38 = .ok (.goto 68, 3) := by decide +kernel
theorem dX7_holdsOf_41 : decode cX7_holdsOf 41 = .ok (.aload_n 0, 1) := by decide +kernel
theorem dX7_holdsOf_42 : decode cX7_holdsOf 42 = .ok (.getfield 9, 3) := by decide +kernel
theorem dX7_holdsOf_45 : decode cX7_holdsOf 45 = .ok (.iload 4, 2) := by decide +kernel
theorem dX7_holdsOf_47 : decode cX7_holdsOf 47 = .ok (.iaload, 1) := by decide +kernel
theorem dX7_holdsOf_48 : decode cX7_holdsOf 48 = .ok (.bipush 25, 2) := by decide +kernel
theorem dX7_holdsOf_50 : decode cX7_holdsOf 50 = .ok (.if_icmp .ne 16, 3) := by decide +kernel
theorem dX7_holdsOf_53 : decode cX7_holdsOf 53 = .ok (.iload_n 3, 1) := by decide +kernel
theorem dX7_holdsOf_54 : decode cX7_holdsOf 54 = .ok (.iconst 1, 1) := by decide +kernel
theorem dX7_holdsOf_55 : decode cX7_holdsOf 55 = .ok (.iushr, 1) := by decide +kernel
theorem dX7_holdsOf_56 : decode cX7_holdsOf 56 = .ok (.iload 5, 2) := by decide +kernel
theorem dX7_holdsOf_58 : decode cX7_holdsOf 58 = .ok (.bipush (-2), 2) := by decide +kernel
theorem dX7_holdsOf_60 : decode cX7_holdsOf 60 = .ok (.ior, 1) := by decide +kernel
theorem dX7_holdsOf_61 : decode cX7_holdsOf 61 = .ok (.iand, 1) := by decide +kernel
theorem dX7_holdsOf_62 : decode cX7_holdsOf 62 = .ok (.istore_n 3, 1) := by decide +kernel
theorem dX7_holdsOf_63 : decode cX7_holdsOf 63 = .ok (.goto 43, 3) := by decide +kernel
theorem dX7_holdsOf_66 : decode cX7_holdsOf 66 = .ok (.aload_n 0, 1) := by decide +kernel
theorem dX7_holdsOf_67 : decode cX7_holdsOf 67 = .ok (.getfield 9, 3) := by decide +kernel
theorem dX7_holdsOf_70 : decode cX7_holdsOf 70 = .ok (.iload 4, 2) := by decide +kernel
theorem dX7_holdsOf_72 : decode cX7_holdsOf 72 = .ok (.iaload, 1) := by decide +kernel
theorem dX7_holdsOf_73 : decode cX7_holdsOf 73 = .ok (.bipush 26, 2) := by decide +kernel
theorem dX7_holdsOf_75 : decode cX7_holdsOf 75 = .ok (.if_icmp .ne 10, 3) := by decide +kernel
theorem dX7_holdsOf_78 : decode cX7_holdsOf 78 = .ok (.iload_n 3, 1) := by decide +kernel
theorem dX7_holdsOf_79 : decode cX7_holdsOf 79 = .ok (.iconst 1, 1) := by decide +kernel
theorem dX7_holdsOf_80 : decode cX7_holdsOf 80 = .ok (.ixor, 1) := by decide +kernel
theorem dX7_holdsOf_81 : decode cX7_holdsOf 81 = .ok (.istore_n 3, 1) := by decide +kernel
theorem dX7_holdsOf_82 : decode cX7_holdsOf 82 = .ok (.goto 24, 3) := by decide +kernel
theorem dX7_holdsOf_85 : decode cX7_holdsOf 85 = .ok (.iload_n 3, 1) := by decide +kernel
theorem dX7_holdsOf_86 : decode cX7_holdsOf 86 = .ok (.iconst 1, 1) := by decide +kernel
theorem dX7_holdsOf_87 : decode cX7_holdsOf 87 = .ok (.ishl, 1) := by decide +kernel
theorem dX7_holdsOf_88 : decode cX7_holdsOf 88 = .ok (.aload_n 0, 1) := by decide +kernel
theorem dX7_holdsOf_89 : decode cX7_holdsOf 89 = .ok (.aload_n 1, 1) := by decide +kernel
theorem dX7_holdsOf_90 : decode cX7_holdsOf 90 = .ok (.iload_n 2, 1) := by decide +kernel
theorem dX7_holdsOf_91 : decode cX7_holdsOf 91 = .ok (.iload 4, 2) := by decide +kernel
theorem dX7_holdsOf_93 : decode cX7_holdsOf 93 = .ok (.invokevirtual 105, 3) := by decide +kernel
theorem dX7_holdsOf_96 : decode cX7_holdsOf 96 = .ok (.ifCond .eq 7, 3) := by decide +kernel
theorem dX7_holdsOf_99 : decode cX7_holdsOf 99 = .ok (.iconst 1, 1) := by decide +kernel
theorem dX7_holdsOf_100 : decode cX7_holdsOf 100 = .ok (.goto 4, 3) := by decide +kernel
theorem dX7_holdsOf_103 : decode cX7_holdsOf 103 = .ok (.iconst 0, 1) := by decide +kernel
theorem dX7_holdsOf_104 : decode cX7_holdsOf 104 = .ok (.ior, 1) := by decide +kernel
theorem dX7_holdsOf_105 : decode cX7_holdsOf 105 = .ok (.istore_n 3, 1) := by decide +kernel
theorem dX7_holdsOf_106 : decode cX7_holdsOf 106 = .ok (.iinc 4 1, 3) := by decide +kernel
theorem dX7_holdsOf_109 : decode cX7_holdsOf 109 = .ok (.goto (-104), 3) := by decide +kernel
theorem dX7_holdsOf_112 : decode cX7_holdsOf 112 = .ok (.iload_n 3, 1) := by decide +kernel
theorem dX7_holdsOf_113 : decode cX7_holdsOf 113 = .ok (.iconst 1, 1) := by decide +kernel
theorem dX7_holdsOf_114 : decode cX7_holdsOf 114 = .ok (.iand, 1) := by decide +kernel
theorem dX7_holdsOf_115 : decode cX7_holdsOf 115 = .ok (.iconst 1, 1) := by decide +kernel
theorem dX7_holdsOf_116 : decode cX7_holdsOf 116 = .ok (.if_icmp .ne 7, 3) := by decide +kernel
theorem dX7_holdsOf_119 : decode cX7_holdsOf 119 = .ok (.iconst 1, 1) := by decide +kernel
theorem dX7_holdsOf_120 : decode cX7_holdsOf 120 = .ok (.goto 4, 3) := by decide +kernel
theorem dX7_holdsOf_123 : decode cX7_holdsOf 123 = .ok (.iconst 0, 1) := by decide +kernel
theorem dX7_holdsOf_124 : decode cX7_holdsOf 124 = .ok (.ireturn, 1) := by decide +kernel
theorem dX7_isSo_0 : decode cX7_isSo 0 = .ok (.aload_n 0, 1) := by decide +kernel
theorem dX7_isSo_1 : decode cX7_isSo 1 = .ok (.getfield 9, 3) := by decide +kernel
theorem dX7_isSo_4 : decode cX7_isSo 4 = .ok (.iload_n 3, 1) := by decide +kernel
theorem dX7_isSo_5 : decode cX7_isSo 5 = .ok (.iaload, 1) := by decide +kernel
theorem dX7_isSo_6 : decode cX7_isSo 6 = .ok (.tableswitch 179 27 35 #[50, 66, 81, 87, 112, 133, 148, 160, 172], 50) := by decide +kernel
theorem dX7_isSo_56 : decode cX7_isSo 56 = .ok (.aload_n 1, 1) := by decide +kernel
theorem dX7_isSo_57 : decode cX7_isSo 57 = .ok (.getfield 109, 3) := by decide +kernel
theorem dX7_isSo_60 : decode cX7_isSo 60 = .ok (.iload_n 2, 1) := by decide +kernel
theorem dX7_isSo_61 : decode cX7_isSo 61 = .ok (.iaload, 1) := by decide +kernel
theorem dX7_isSo_62 : decode cX7_isSo 62 = .ok (.iconst (-1), 1) := by decide +kernel
theorem dX7_isSo_63 : decode cX7_isSo 63 = .ok (.if_icmp .eq 7, 3) := by decide +kernel
theorem dX7_isSo_66 : decode cX7_isSo 66 = .ok (.iconst 1, 1) := by decide +kernel
theorem dX7_isSo_67 : decode cX7_isSo 67 = .ok (.goto 4, 3) := by decide +kernel
theorem dX7_isSo_70 : decode cX7_isSo 70 = .ok (.iconst 0, 1) := by decide +kernel
theorem dX7_isSo_71 : decode cX7_isSo 71 = .ok (.ireturn, 1) := by decide +kernel
theorem dX7_isSo_72 : decode cX7_isSo 72 = .ok (.aload_n 1, 1) := by decide +kernel
theorem dX7_isSo_73 : decode cX7_isSo 73 = .ok (.getfield 114, 3) := by decide +kernel
theorem dX7_isSo_76 : decode cX7_isSo 76 = .ok (.iload_n 2, 1) := by decide +kernel
theorem dX7_isSo_77 : decode cX7_isSo 77 = .ok (.iaload, 1) := by decide +kernel
theorem dX7_isSo_78 : decode cX7_isSo 78 = .ok (.ifCond .ne 7, 3) := by decide +kernel
theorem dX7_isSo_81 : decode cX7_isSo 81 = .ok (.iconst 1, 1) := by decide +kernel
theorem dX7_isSo_82 : decode cX7_isSo 82 = .ok (.goto 4, 3) := by decide +kernel
theorem dX7_isSo_85 : decode cX7_isSo 85 = .ok (.iconst 0, 1) := by decide +kernel
theorem dX7_isSo_86 : decode cX7_isSo 86 = .ok (.ireturn, 1) := by decide +kernel
theorem dX7_isSo_87 : decode cX7_isSo 87 = .ok (.aload_n 1, 1) := by decide +kernel
theorem dX7_isSo_88 : decode cX7_isSo 88 = .ok (.iload_n 2, 1) := by decide +kernel
theorem dX7_isSo_89 : decode cX7_isSo 89 = .ok (.invokevirtual 117, 3) := by decide +kernel
theorem dX7_isSo_92 : decode cX7_isSo 92 = .ok (.ireturn, 1) := by decide +kernel
theorem dX7_isSo_93 : decode cX7_isSo 93 = .ok (.aload_n 1, 1) := by decide +kernel
theorem dX7_isSo_94 : decode cX7_isSo 94 = .ok (.getfield 114, 3) := by decide +kernel
theorem dX7_isSo_97 : decode cX7_isSo 97 = .ok (.iload_n 2, 1) := by decide +kernel
theorem dX7_isSo_98 : decode cX7_isSo 98 = .ok (.iaload, 1) := by decide +kernel
theorem dX7_isSo_99 : decode cX7_isSo 99 = .ok (.aload_n 0, 1) := by decide +kernel
theorem dX7_isSo_100 : decode cX7_isSo 100 = .ok (.getfield 18, 3) := by decide +kernel
theorem dX7_isSo_103 : decode cX7_isSo 103 = .ok (.iload_n 3, 1) := by decide +kernel
theorem dX7_isSo_104 : decode cX7_isSo 104 = .ok (.iaload, 1) := by decide +kernel
theorem dX7_isSo_105 : decode cX7_isSo 105 = .ok (.ishr, 1) := by decide +kernel
theorem dX7_isSo_106 : decode cX7_isSo 106 = .ok (.iconst 1, 1) := by decide +kernel
theorem dX7_isSo_107 : decode cX7_isSo 107 = .ok (.iand, 1) := by decide +kernel
theorem dX7_isSo_108 : decode cX7_isSo 108 = .ok (.iconst 1, 1) := by decide +kernel
theorem dX7_isSo_109 : decode cX7_isSo 109 = .ok (.if_icmp .ne 7, 3) := by decide +kernel
theorem dX7_isSo_112 : decode cX7_isSo 112 = .ok (.iconst 1, 1) := by decide +kernel
theorem dX7_isSo_113 : decode cX7_isSo 113 = .ok (.goto 4, 3) := by decide +kernel
theorem dX7_isSo_116 : decode cX7_isSo 116 = .ok (.iconst 0, 1) := by decide +kernel
theorem dX7_isSo_117 : decode cX7_isSo 117 = .ok (.ireturn, 1) := by decide +kernel
theorem dX7_isSo_118 : decode cX7_isSo 118 = .ok (.aload_n 1, 1) := by decide +kernel
theorem dX7_isSo_119 : decode cX7_isSo 119 = .ok (.getfield 109, 3) := by decide +kernel
theorem dX7_isSo_122 : decode cX7_isSo 122 = .ok (.iload_n 2, 1) := by decide +kernel
theorem dX7_isSo_123 : decode cX7_isSo 123 = .ok (.iaload, 1) := by decide +kernel
theorem dX7_isSo_124 : decode cX7_isSo 124 = .ok (.aload_n 0, 1) := by decide +kernel
theorem dX7_isSo_125 : decode cX7_isSo 125 = .ok (.getfield 18, 3) := by decide +kernel
theorem dX7_isSo_128 : decode cX7_isSo 128 = .ok (.iload_n 3, 1) := by decide +kernel
theorem dX7_isSo_129 : decode cX7_isSo 129 = .ok (.iaload, 1) := by decide +kernel
theorem dX7_isSo_130 : decode cX7_isSo 130 = .ok (.if_icmp .ne 7, 3) := by decide +kernel
theorem dX7_isSo_133 : decode cX7_isSo 133 = .ok (.iconst 1, 1) := by decide +kernel
theorem dX7_isSo_134 : decode cX7_isSo 134 = .ok (.goto 4, 3) := by decide +kernel
theorem dX7_isSo_137 : decode cX7_isSo 137 = .ok (.iconst 0, 1) := by decide +kernel
theorem dX7_isSo_138 : decode cX7_isSo 138 = .ok (.ireturn, 1) := by decide +kernel
theorem dX7_isSo_139 : decode cX7_isSo 139 = .ok (.aload_n 0, 1) := by decide +kernel
theorem dX7_isSo_140 : decode cX7_isSo 140 = .ok (.aload_n 1, 1) := by decide +kernel
theorem dX7_isSo_141 : decode cX7_isSo 141 = .ok (.getfield 114, 3) := by decide +kernel
theorem dX7_isSo_144 : decode cX7_isSo 144 = .ok (.iload_n 2, 1) := by decide +kernel
theorem dX7_isSo_145 : decode cX7_isSo 145 = .ok (.iaload, 1) := by decide +kernel
theorem dX7_isSo_146 : decode cX7_isSo 146 = .ok (.invokestatic 120, 3) := by decide +kernel
theorem dX7_isSo_149 : decode cX7_isSo 149 = .ok (.iload_n 3, 1) := by decide +kernel
theorem dX7_isSo_150 : decode cX7_isSo 150 = .ok (.invokevirtual 126, 3) := by decide +kernel
theorem dX7_isSo_153 : decode cX7_isSo 153 = .ok (.ireturn, 1) := by decide +kernel
theorem dX7_isSo_154 : decode cX7_isSo 154 = .ok (.aload_n 0, 1) := by decide +kernel
theorem dX7_isSo_155 : decode cX7_isSo 155 = .ok (.aload_n 1, 1) := by decide +kernel
theorem dX7_isSo_156 : decode cX7_isSo 156 = .ok (.getfield 129, 3) := by decide +kernel
theorem dX7_isSo_159 : decode cX7_isSo 159 = .ok (.iload_n 2, 1) := by decide +kernel
theorem dX7_isSo_160 : decode cX7_isSo 160 = .ok (.iaload, 1) := by decide +kernel
theorem dX7_isSo_161 : decode cX7_isSo 161 = .ok (.iload_n 3, 1) := by decide +kernel
theorem dX7_isSo_162 : decode cX7_isSo 162 = .ok (.invokevirtual 126, 3) := by decide +kernel
theorem dX7_isSo_165 : decode cX7_isSo 165 = .ok (.ireturn, 1) := by decide +kernel
theorem dX7_isSo_166 : decode cX7_isSo 166 = .ok (.aload_n 0, 1) := by decide +kernel
theorem dX7_isSo_167 : decode cX7_isSo 167 = .ok (.aload_n 1, 1) := by decide +kernel
theorem dX7_isSo_168 : decode cX7_isSo 168 = .ok (.getfield 132, 3) := by decide +kernel
theorem dX7_isSo_171 : decode cX7_isSo 171 = .ok (.iload_n 2, 1) := by decide +kernel
theorem dX7_isSo_172 : decode cX7_isSo 172 = .ok (.iaload, 1) := by decide +kernel
theorem dX7_isSo_173 : decode cX7_isSo 173 = .ok (.iload_n 3, 1) := by decide +kernel
theorem dX7_isSo_174 : decode cX7_isSo 174 = .ok (.invokevirtual 126, 3) := by decide +kernel
theorem dX7_isSo_177 : decode cX7_isSo 177 = .ok (.ireturn, 1) := by decide +kernel
theorem dX7_isSo_178 : decode cX7_isSo 178 = .ok (.aload_n 0, 1) := by decide +kernel
theorem dX7_isSo_179 : decode cX7_isSo 179 = .ok (.iload_n 2, 1) := by decide +kernel
theorem dX7_isSo_180 : decode cX7_isSo 180 = .ok (.iload_n 3, 1) := by decide +kernel
theorem dX7_isSo_181 : decode cX7_isSo 181 = .ok (.invokevirtual 126, 3) := by decide +kernel
theorem dX7_isSo_184 : decode cX7_isSo 184 = .ok (.ireturn, 1) := by decide +kernel
theorem dX7_isSo_185 : decode cX7_isSo 185 = .ok (.iconst 0, 1) := by decide +kernel
theorem dX7_isSo_186 : decode cX7_isSo 186 = .ok (.ireturn, 1) := by decide +kernel
theorem dX7_compares_0 : decode cX7_compares 0 = .ok (.aload_n 0, 1) := by decide +kernel
theorem dX7_compares_1 : decode cX7_compares 1 = .ok (.getfield 15, 3) := by decide +kernel
theorem dX7_compares_4 : decode cX7_compares 4 = .ok (.iload_n 2, 1) := by decide +kernel
theorem dX7_compares_5 : decode cX7_compares 5 = .ok (.iaload, 1) := by decide +kernel
theorem dX7_compares_6 : decode cX7_compares 6 = .ok (.lookupswitch 58 #[(60, 26), (62, 42)], 26) := by decide +kernel
theorem dX7_compares_32 : decode cX7_compares 32 = .ok (.iload_n 1, 1) := by decide +kernel
theorem dX7_compares_33 : decode cX7_compares 33 = .ok (.aload_n 0, 1) := by decide +kernel
theorem dX7_compares_34 : decode cX7_compares 34 = .ok (.getfield 18, 3) := by decide +kernel
theorem dX7_compares_37 : decode cX7_compares 37 = .ok (.iload_n 2, 1) := by decide +kernel
theorem dX7_compares_38 : decode cX7_compares 38 = .ok (.iaload, 1) := by decide +kernel
theorem dX7_compares_39 : decode cX7_compares 39 = .ok (.if_icmp .ge 7, 3) := by decide +kernel
theorem dX7_compares_42 : decode cX7_compares 42 = .ok (.iconst 1, 1) := by decide +kernel
theorem dX7_compares_43 : decode cX7_compares 43 = .ok (.goto 4, 3) := by decide +kernel
theorem dX7_compares_46 : decode cX7_compares 46 = .ok (.iconst 0, 1) := by decide +kernel
theorem dX7_compares_47 : decode cX7_compares 47 = .ok (.ireturn, 1) := by decide +kernel
theorem dX7_compares_48 : decode cX7_compares 48 = .ok (.iload_n 1, 1) := by decide +kernel
theorem dX7_compares_49 : decode cX7_compares 49 = .ok (.aload_n 0, 1) := by decide +kernel
theorem dX7_compares_50 : decode cX7_compares 50 = .ok (.getfield 18, 3) := by decide +kernel
theorem dX7_compares_53 : decode cX7_compares 53 = .ok (.iload_n 2, 1) := by decide +kernel
theorem dX7_compares_54 : decode cX7_compares 54 = .ok (.iaload, 1) := by decide +kernel
theorem dX7_compares_55 : decode cX7_compares 55 = .ok (.if_icmp .le 7, 3) := by decide +kernel
theorem dX7_compares_58 : decode cX7_compares 58 = .ok (.iconst 1, 1) := by decide +kernel
theorem dX7_compares_59 : decode cX7_compares 59 = .ok (.goto 4, 3) := by decide +kernel
theorem dX7_compares_62 : decode cX7_compares 62 = .ok (.iconst 0, 1) := by decide +kernel
theorem dX7_compares_63 : decode cX7_compares 63 = .ok (.ireturn, 1) := by decide +kernel
theorem dX7_compares_64 : decode cX7_compares 64 = .ok (.iload_n 1, 1) := by decide +kernel
theorem dX7_compares_65 : decode cX7_compares 65 = .ok (.aload_n 0, 1) := by decide +kernel
theorem dX7_compares_66 : decode cX7_compares 66 = .ok (.getfield 18, 3) := by decide +kernel
theorem dX7_compares_69 : decode cX7_compares 69 = .ok (.iload_n 2, 1) := by decide +kernel
theorem dX7_compares_70 : decode cX7_compares 70 = .ok (.iaload, 1) := by decide +kernel
theorem dX7_compares_71 : decode cX7_compares 71 = .ok (.if_icmp .ne 7, 3) := by decide +kernel
theorem dX7_compares_74 : decode cX7_compares 74 = .ok (.iconst 1, 1) := by decide +kernel
theorem dX7_compares_75 : decode cX7_compares 75 = .ok (.goto 4, 3) := by decide +kernel
theorem dX7_compares_78 : decode cX7_compares 78 = .ok (.iconst 0, 1) := by decide +kernel
theorem dX7_compares_79 : decode cX7_compares 79 = .ok (.ireturn, 1) := by decide +kernel
theorem dX8_init_0 : decode cX8_init 0 = .ok (.aload_n 0, 1) := by decide +kernel
theorem dX8_init_1 : decode cX8_init 1 = .ok (.invokespecial 3, 3) := by decide +kernel
theorem dX8_init_4 : decode cX8_init 4 = .ok (.aload_n 0, 1) := by decide +kernel
theorem dX8_init_5 : decode cX8_init 5 = .ok (.bipush 7, 2) := by decide +kernel
theorem dX8_init_7 : decode cX8_init 7 = .ok (.newarray .long, 2) := by decide +kernel
theorem dX8_init_9 : decode cX8_init 9 = .ok (.putfield 9, 3) := by decide +kernel
theorem dX8_init_12 : decode cX8_init 12 = .ok (.aload_n 0, 1) := by decide +kernel
theorem dX8_init_13 : decode cX8_init 13 = .ok (.bipush 7, 2) := by decide +kernel
theorem dX8_init_15 : decode cX8_init 15 = .ok (.newarray .int, 2) := by decide +kernel
theorem dX8_init_17 : decode cX8_init 17 = .ok (.putfield 15, 3) := by decide +kernel
theorem dX8_init_20 : decode cX8_init 20 = .ok (.aload_n 0, 1) := by decide +kernel
theorem dX8_init_21 : decode cX8_init 21 = .ok (.bipush 7, 2) := by decide +kernel
theorem dX8_init_23 : decode cX8_init 23 = .ok (.newarray .int, 2) := by decide +kernel
theorem dX8_init_25 : decode cX8_init 25 = .ok (.putfield 19, 3) := by decide +kernel
theorem dX8_init_28 : decode cX8_init 28 = .ok (.aload_n 0, 1) := by decide +kernel
theorem dX8_init_29 : decode cX8_init 29 = .ok (.bipush 7, 2) := by decide +kernel
theorem dX8_init_31 : decode cX8_init 31 = .ok (.newarray .int, 2) := by decide +kernel
theorem dX8_init_33 : decode cX8_init 33 = .ok (.putfield 22, 3) := by decide +kernel
theorem dX8_init_36 : decode cX8_init 36 = .ok (.aload_n 0, 1) := by decide +kernel
theorem dX8_init_37 : decode cX8_init 37 = .ok (.bipush 6, 2) := by decide +kernel
theorem dX8_init_39 : decode cX8_init 39 = .ok (.newarray .long, 2) := by decide +kernel
theorem dX8_init_41 : decode cX8_init 41 = .ok (.putfield 25, 3) := by decide +kernel
theorem dX8_init_44 : decode cX8_init 44 = .ok (.aload_n 0, 1) := by decide +kernel
theorem dX8_init_45 : decode cX8_init 45 = .ok (.bipush 6, 2) := by decide +kernel
theorem dX8_init_47 : decode cX8_init 47 = .ok (.newarray .int, 2) := by decide +kernel
theorem dX8_init_49 : decode cX8_init 49 = .ok (.putfield 28, 3) := by decide +kernel
theorem dX8_init_52 : decode cX8_init 52 = .ok (.aload_n 0, 1) := by decide +kernel
theorem dX8_init_53 : decode cX8_init 53 = .ok (.bipush 6, 2) := by decide +kernel
theorem dX8_init_55 : decode cX8_init 55 = .ok (.newarray .int, 2) := by decide +kernel
theorem dX8_init_57 : decode cX8_init 57 = .ok (.putfield 31, 3) := by decide +kernel
theorem dX8_init_60 : decode cX8_init 60 = .ok (.aload_n 0, 1) := by decide +kernel
theorem dX8_init_61 : decode cX8_init 61 = .ok (.bipush 6, 2) := by decide +kernel
theorem dX8_init_63 : decode cX8_init 63 = .ok (.newarray .int, 2) := by decide +kernel
theorem dX8_init_65 : decode cX8_init 65 = .ok (.putfield 34, 3) := by decide +kernel
theorem dX8_init_68 : decode cX8_init 68 = .ok (.aload_n 0, 1) := by decide +kernel
theorem dX8_init_69 : decode cX8_init 69 = .ok (.bipush 6, 2) := by decide +kernel
theorem dX8_init_71 : decode cX8_init 71 = .ok (.newarray .int, 2) := by decide +kernel
theorem dX8_init_73 : decode cX8_init 73 = .ok (.putfield 37, 3) := by decide +kernel
theorem dX8_init_76 : decode cX8_init 76 = .ok (.aload_n 0, 1) := by decide +kernel
theorem dX8_init_77 : decode cX8_init 77 = .ok (.bipush 6, 2) := by decide +kernel
theorem dX8_init_79 : decode cX8_init 79 = .ok (.newarray .int, 2) := by decide +kernel
theorem dX8_init_81 : decode cX8_init 81 = .ok (.putfield 40, 3) := by decide +kernel
theorem dX8_init_84 : decode cX8_init 84 = .ok (.return_, 1) := by decide +kernel
theorem dX8_copyFrom_0 : decode cX8_copyFrom 0 = .ok (.aload_n 0, 1) := by decide +kernel
theorem dX8_copyFrom_1 : decode cX8_copyFrom 1 = .ok (.aload_n 1, 1) := by decide +kernel
theorem dX8_copyFrom_2 : decode cX8_copyFrom 2 = .ok (.getfield 43, 3) := by decide +kernel
theorem dX8_copyFrom_5 : decode cX8_copyFrom 5 = .ok (.putfield 43, 3) := by decide +kernel
theorem dX8_copyFrom_8 : decode cX8_copyFrom 8 = .ok (.aload_n 1, 1) := by decide +kernel
theorem dX8_copyFrom_9 : decode cX8_copyFrom 9 = .ok (.getfield 9, 3) := by decide +kernel
theorem dX8_copyFrom_12 : decode cX8_copyFrom 12 = .ok (.iconst 0, 1) := by decide +kernel
theorem dX8_copyFrom_13 : decode cX8_copyFrom 13 = .ok (.aload_n 0, 1) := by decide +kernel
theorem dX8_copyFrom_14 : decode cX8_copyFrom 14 = .ok (.getfield 9, 3) := by decide +kernel
theorem dX8_copyFrom_17 : decode cX8_copyFrom 17 = .ok (.iconst 0, 1) := by decide +kernel
theorem dX8_copyFrom_18 : decode cX8_copyFrom 18 = .ok (.bipush 7, 2) := by decide +kernel
theorem dX8_copyFrom_20 : decode cX8_copyFrom 20 = .ok (.invokestatic 47, 3) := by decide +kernel
theorem dX8_copyFrom_23 : decode cX8_copyFrom 23 = .ok (.aload_n 1, 1) := by decide +kernel
theorem dX8_copyFrom_24 : decode cX8_copyFrom 24 = .ok (.getfield 15, 3) := by decide +kernel
theorem dX8_copyFrom_27 : decode cX8_copyFrom 27 = .ok (.iconst 0, 1) := by decide +kernel
theorem dX8_copyFrom_28 : decode cX8_copyFrom 28 = .ok (.aload_n 0, 1) := by decide +kernel
theorem dX8_copyFrom_29 : decode cX8_copyFrom 29 = .ok (.getfield 15, 3) := by decide +kernel
theorem dX8_copyFrom_32 : decode cX8_copyFrom 32 = .ok (.iconst 0, 1) := by decide +kernel
theorem dX8_copyFrom_33 : decode cX8_copyFrom 33 = .ok (.bipush 7, 2) := by decide +kernel
theorem dX8_copyFrom_35 : decode cX8_copyFrom 35 = .ok (.invokestatic 47, 3) := by decide +kernel
theorem dX8_copyFrom_38 : decode cX8_copyFrom 38 = .ok (.aload_n 1, 1) := by decide +kernel
theorem dX8_copyFrom_39 : decode cX8_copyFrom 39 = .ok (.getfield 19, 3) := by decide +kernel
theorem dX8_copyFrom_42 : decode cX8_copyFrom 42 = .ok (.iconst 0, 1) := by decide +kernel
theorem dX8_copyFrom_43 : decode cX8_copyFrom 43 = .ok (.aload_n 0, 1) := by decide +kernel
theorem dX8_copyFrom_44 : decode cX8_copyFrom 44 = .ok (.getfield 19, 3) := by decide +kernel
theorem dX8_copyFrom_47 : decode cX8_copyFrom 47 = .ok (.iconst 0, 1) := by decide +kernel
theorem dX8_copyFrom_48 : decode cX8_copyFrom 48 = .ok (.bipush 7, 2) := by decide +kernel
theorem dX8_copyFrom_50 : decode cX8_copyFrom 50 = .ok (.invokestatic 47, 3) := by decide +kernel
theorem dX8_copyFrom_53 : decode cX8_copyFrom 53 = .ok (.aload_n 1, 1) := by decide +kernel
theorem dX8_copyFrom_54 : decode cX8_copyFrom 54 = .ok (.getfield 22, 3) := by decide +kernel
theorem dX8_copyFrom_57 : decode cX8_copyFrom 57 = .ok (.iconst 0, 1) := by decide +kernel
theorem dX8_copyFrom_58 : decode cX8_copyFrom 58 = .ok (.aload_n 0, 1) := by decide +kernel
theorem dX8_copyFrom_59 : decode cX8_copyFrom 59 = .ok (.getfield 22, 3) := by decide +kernel
theorem dX8_copyFrom_62 : decode cX8_copyFrom 62 = .ok (.iconst 0, 1) := by decide +kernel
theorem dX8_copyFrom_63 : decode cX8_copyFrom 63 = .ok (.bipush 7, 2) := by decide +kernel
theorem dX8_copyFrom_65 : decode cX8_copyFrom 65 = .ok (.invokestatic 47, 3) := by decide +kernel
theorem dX8_copyFrom_68 : decode cX8_copyFrom 68 = .ok (.aload_n 0, 1) := by decide +kernel
theorem dX8_copyFrom_69 : decode cX8_copyFrom 69 = .ok (.aload_n 1, 1) := by decide +kernel
theorem dX8_copyFrom_70 : decode cX8_copyFrom 70 = .ok (.getfield 53, 3) := by decide +kernel
theorem dX8_copyFrom_73 : decode cX8_copyFrom 73 = .ok (.putfield 53, 3) := by decide +kernel
theorem dX8_copyFrom_76 : decode cX8_copyFrom 76 = .ok (.aload_n 0, 1) := by decide +kernel
theorem dX8_copyFrom_77 : decode cX8_copyFrom 77 = .ok (.aload_n 1, 1) := by decide +kernel
theorem dX8_copyFrom_78 : decode cX8_copyFrom 78 = .ok (.getfield 56, 3) := by decide +kernel
theorem dX8_copyFrom_81 : decode cX8_copyFrom 81 = .ok (.putfield 56, 3) := by decide +kernel
theorem dX8_copyFrom_84 : decode cX8_copyFrom 84 = .ok (.aload_n 0, 1) := by decide +kernel
theorem dX8_copyFrom_85 : decode cX8_copyFrom 85 = .ok (.aload_n 1, 1) := by decide +kernel
theorem dX8_copyFrom_86 : decode cX8_copyFrom 86 = .ok (.getfield 59, 3) := by decide +kernel
theorem dX8_copyFrom_89 : decode cX8_copyFrom 89 = .ok (.putfield 59, 3) := by decide +kernel
theorem dX8_copyFrom_92 : decode cX8_copyFrom 92 = .ok (.aload_n 1, 1) := by decide +kernel
theorem dX8_copyFrom_93 : decode cX8_copyFrom 93 = .ok (.getfield 25, 3) := by decide +kernel
theorem dX8_copyFrom_96 : decode cX8_copyFrom 96 = .ok (.iconst 0, 1) := by decide +kernel
theorem dX8_copyFrom_97 : decode cX8_copyFrom 97 = .ok (.aload_n 0, 1) := by decide +kernel
theorem dX8_copyFrom_98 : decode cX8_copyFrom 98 = .ok (.getfield 25, 3) := by decide +kernel
theorem dX8_copyFrom_101 : decode cX8_copyFrom 101 = .ok (.iconst 0, 1) := by decide +kernel
theorem dX8_copyFrom_102 : decode cX8_copyFrom 102 = .ok (.bipush 6, 2) := by decide +kernel
theorem dX8_copyFrom_104 : decode cX8_copyFrom 104 = .ok (.invokestatic 47, 3) := by decide +kernel
theorem dX8_copyFrom_107 : decode cX8_copyFrom 107 = .ok (.aload_n 1, 1) := by decide +kernel
theorem dX8_copyFrom_108 : decode cX8_copyFrom 108 = .ok (.getfield 28, 3) := by decide +kernel
theorem dX8_copyFrom_111 : decode cX8_copyFrom 111 = .ok (.iconst 0, 1) := by decide +kernel
theorem dX8_copyFrom_112 : decode cX8_copyFrom 112 = .ok (.aload_n 0, 1) := by decide +kernel
theorem dX8_copyFrom_113 : decode cX8_copyFrom 113 = .ok (.getfield 28, 3) := by decide +kernel
theorem dX8_copyFrom_116 : decode cX8_copyFrom 116 = .ok (.iconst 0, 1) := by decide +kernel
theorem dX8_copyFrom_117 : decode cX8_copyFrom 117 = .ok (.bipush 6, 2) := by decide +kernel
theorem dX8_copyFrom_119 : decode cX8_copyFrom 119 = .ok (.invokestatic 47, 3) := by decide +kernel
theorem dX8_copyFrom_122 : decode cX8_copyFrom 122 = .ok (.aload_n 1, 1) := by decide +kernel
theorem dX8_copyFrom_123 : decode cX8_copyFrom 123 = .ok (.getfield 31, 3) := by decide +kernel
theorem dX8_copyFrom_126 : decode cX8_copyFrom 126 = .ok (.iconst 0, 1) := by decide +kernel
theorem dX8_copyFrom_127 : decode cX8_copyFrom 127 = .ok (.aload_n 0, 1) := by decide +kernel
theorem dX8_copyFrom_128 : decode cX8_copyFrom 128 = .ok (.getfield 31, 3) := by decide +kernel
theorem dX8_copyFrom_131 : decode cX8_copyFrom 131 = .ok (.iconst 0, 1) := by decide +kernel
theorem dX8_copyFrom_132 : decode cX8_copyFrom 132 = .ok (.bipush 6, 2) := by decide +kernel
theorem dX8_copyFrom_134 : decode cX8_copyFrom 134 = .ok (.invokestatic 47, 3) := by decide +kernel
theorem dX8_copyFrom_137 : decode cX8_copyFrom 137 = .ok (.aload_n 1, 1) := by decide +kernel
theorem dX8_copyFrom_138 : decode cX8_copyFrom 138 = .ok (.getfield 34, 3) := by decide +kernel
theorem dX8_copyFrom_141 : decode cX8_copyFrom 141 = .ok (.iconst 0, 1) := by decide +kernel
theorem dX8_copyFrom_142 : decode cX8_copyFrom 142 = .ok (.aload_n 0, 1) := by decide +kernel
theorem dX8_copyFrom_143 : decode cX8_copyFrom 143 = .ok (.getfield 34, 3) := by decide +kernel
theorem dX8_copyFrom_146 : decode cX8_copyFrom 146 = .ok (.iconst 0, 1) := by decide +kernel
theorem dX8_copyFrom_147 : decode cX8_copyFrom 147 = .ok (.bipush 6, 2) := by decide +kernel
theorem dX8_copyFrom_149 : decode cX8_copyFrom 149 = .ok (.invokestatic 47, 3) := by decide +kernel
theorem dX8_copyFrom_152 : decode cX8_copyFrom 152 = .ok (.aload_n 1, 1) := by decide +kernel
theorem dX8_copyFrom_153 : decode cX8_copyFrom 153 = .ok (.getfield 37, 3) := by decide +kernel
theorem dX8_copyFrom_156 : decode cX8_copyFrom 156 = .ok (.iconst 0, 1) := by decide +kernel
theorem dX8_copyFrom_157 : decode cX8_copyFrom 157 = .ok (.aload_n 0, 1) := by decide +kernel
theorem dX8_copyFrom_158 : decode cX8_copyFrom 158 = .ok (.getfield 37, 3) := by decide +kernel
theorem dX8_copyFrom_161 : decode cX8_copyFrom 161 = .ok (.iconst 0, 1) := by decide +kernel
theorem dX8_copyFrom_162 : decode cX8_copyFrom 162 = .ok (.bipush 6, 2) := by decide +kernel
theorem dX8_copyFrom_164 : decode cX8_copyFrom 164 = .ok (.invokestatic 47, 3) := by decide +kernel
theorem dX8_copyFrom_167 : decode cX8_copyFrom 167 = .ok (.aload_n 1, 1) := by decide +kernel
theorem dX8_copyFrom_168 : decode cX8_copyFrom 168 = .ok (.getfield 40, 3) := by decide +kernel
theorem dX8_copyFrom_171 : decode cX8_copyFrom 171 = .ok (.iconst 0, 1) := by decide +kernel
theorem dX8_copyFrom_172 : decode cX8_copyFrom 172 = .ok (.aload_n 0, 1) := by decide +kernel
theorem dX8_copyFrom_173 : decode cX8_copyFrom 173 = .ok (.getfield 40, 3) := by decide +kernel
theorem dX8_copyFrom_176 : decode cX8_copyFrom 176 = .ok (.iconst 0, 1) := by decide +kernel
theorem dX8_copyFrom_177 : decode cX8_copyFrom 177 = .ok (.bipush 6, 2) := by decide +kernel
theorem dX8_copyFrom_179 : decode cX8_copyFrom 179 = .ok (.invokestatic 47, 3) := by decide +kernel
theorem dX8_copyFrom_182 : decode cX8_copyFrom 182 = .ok (.aload_n 0, 1) := by decide +kernel
theorem dX8_copyFrom_183 : decode cX8_copyFrom 183 = .ok (.aload_n 1, 1) := by decide +kernel
theorem dX8_copyFrom_184 : decode cX8_copyFrom 184 = .ok (.getfield 62, 3) := by decide +kernel
theorem dX8_copyFrom_187 : decode cX8_copyFrom 187 = .ok (.putfield 62, 3) := by decide +kernel
theorem dX8_copyFrom_190 : decode cX8_copyFrom 190 = .ok (.return_, 1) := by decide +kernel
theorem dX8_readFrom_0 : decode cX8_readFrom 0 = .ok (.aload_n 0, 1) := by decide +kernel
theorem dX8_readFrom_1 : decode cX8_readFrom 1 = .ok (.iconst 0, 1) := by decide +kernel
theorem dX8_readFrom_2 : decode cX8_readFrom 2 = .ok (.putfield 43, 3) := by decide +kernel
theorem dX8_readFrom_5 : decode cX8_readFrom 5 = .ok (.aload_n 0, 1) := by decide +kernel
theorem dX8_readFrom_6 : decode cX8_readFrom 6 = .ok (.iconst 0, 1) := by decide +kernel
theorem dX8_readFrom_7 : decode cX8_readFrom 7 = .ok (.putfield 53, 3) := by decide +kernel
theorem dX8_readFrom_10 : decode cX8_readFrom 10 = .ok (.aload_n 0, 1) := by decide +kernel
theorem dX8_readFrom_11 : decode cX8_readFrom 11 = .ok (.iconst 0, 1) := by decide +kernel
theorem dX8_readFrom_12 : decode cX8_readFrom 12 = .ok (.putfield 56, 3) := by decide +kernel
theorem dX8_readFrom_15 : decode cX8_readFrom 15 = .ok (.aload_n 0, 1) := by decide +kernel
theorem dX8_readFrom_16 : decode cX8_readFrom 16 = .ok (.iconst 0, 1) := by decide +kernel
theorem dX8_readFrom_17 : decode cX8_readFrom 17 = .ok (.putfield 59, 3) := by decide +kernel
theorem dX8_readFrom_20 : decode cX8_readFrom 20 = .ok (.aload_n 0, 1) := by decide +kernel
theorem dX8_readFrom_21 : decode cX8_readFrom 21 = .ok (.iconst 0, 1) := by decide +kernel
theorem dX8_readFrom_22 : decode cX8_readFrom 22 = .ok (.putfield 62, 3) := by decide +kernel
theorem dX8_readFrom_25 : decode cX8_readFrom 25 = .ok (.aload_n 1, 1) := by decide +kernel
theorem dX8_readFrom_26 : decode cX8_readFrom 26 = .ok (.sipush 900, 3) := by decide +kernel
theorem dX8_readFrom_29 : decode cX8_readFrom 29 = .ok (.invokevirtual 65, 3) := by decide +kernel
theorem dX8_readFrom_32 : decode cX8_readFrom 32 = .ok (.iconst 0, 1) := by decide +kernel
theorem dX8_readFrom_33 : decode cX8_readFrom 33 = .ok (.istore_n 2, 1) := by decide +kernel
theorem dX8_readFrom_34 : decode cX8_readFrom 34 = .ok (.iload_n 2, 1) := by decide +kernel
theorem dX8_readFrom_35 : decode cX8_readFrom 35 = .ok (.sipush 900, 3) := by decide +kernel
theorem dX8_readFrom_38 : decode cX8_readFrom 38 = .ok (.if_icmp .ge 27, 3) := by decide +kernel
theorem dX8_readFrom_41 : decode cX8_readFrom 41 = .ok (.aload_n 1, 1) := by decide +kernel
theorem dX8_readFrom_42 : decode cX8_readFrom 42 = .ok (.invokevirtual 71, 3) := by decide +kernel
theorem dX8_readFrom_45 : decode cX8_readFrom 45 = .ok (.ifCond .eq 20, 3) := by decide +kernel
theorem dX8_readFrom_48 : decode cX8_readFrom 48 = .ok (.aload_n 0, 1) := by decide +kernel
theorem dX8_readFrom_49 : decode cX8_readFrom 49 = .ok (.aload_n 1, 1) := by decide +kernel
theorem dX8_readFrom_50 : decode cX8_readFrom 50 = .ok (.invokevirtual 75, 3) := by decide +kernel
theorem dX8_readFrom_53 : decode cX8_readFrom 53 = .ok (.aload_n 1, 1) := by decide +kernel
theorem dX8_readFrom_54 : decode cX8_readFrom 54 = .ok (.bipush 59, 2) := by decide +kernel
theorem dX8_readFrom_56 : decode cX8_readFrom 56 = .ok (.invokevirtual 79, 3) := by decide +kernel
theorem dX8_readFrom_59 : decode cX8_readFrom 59 = .ok (.iinc 2 1, 3) := by decide +kernel
theorem dX8_readFrom_62 : decode cX8_readFrom 62 = .ok (.goto (-28), 3) := by decide +kernel
theorem dX8_readFrom_65 : decode cX8_readFrom 65 = .ok (.aload_n 1, 1) := by decide +kernel
theorem dX8_readFrom_66 : decode cX8_readFrom 66 = .ok (.invokevirtual 83, 3) := by decide +kernel
theorem dX8_readFrom_69 : decode cX8_readFrom 69 = .ok (.ifCond .eq 7, 3) := by decide +kernel
theorem dX8_readFrom_72 : decode cX8_readFrom 72 = .ok (.iload_n 2, 1) := by decide +kernel
theorem dX8_readFrom_73 : decode cX8_readFrom 73 = .ok (.goto 4, 3) := by decide +kernel
theorem dX8_readFrom_76 : decode cX8_readFrom 76 = .ok (.iconst (-1), 1) := by decide +kernel
theorem dX8_readFrom_77 : decode cX8_readFrom 77 = .ok (.ireturn, 1) := by decide +kernel
theorem dX8_readLine_0 : decode cX8_readLine 0 = .ok (.aload_n 1, 1) := by decide +kernel
theorem dX8_readLine_1 : decode cX8_readLine 1 = .ok (.iconst 0, 1) := by decide +kernel
theorem dX8_readLine_2 : decode cX8_readLine 2 = .ok (.invokevirtual 86, 3) := by decide +kernel
theorem dX8_readLine_5 : decode cX8_readLine 5 = .ok (.ifCond .eq 11, 3) := by decide +kernel
theorem dX8_readLine_8 : decode cX8_readLine 8 = .ok (.aload_n 0, 1) := by decide +kernel
theorem dX8_readLine_9 : decode cX8_readLine 9 = .ok (.aload_n 1, 1) := by decide +kernel
theorem dX8_readLine_10 : decode cX8_readLine 10 = .ok (.invokevirtual 90, 3) := by decide +kernel
theorem dX8_readLine_13 : decode cX8_readLine 13 = .ok (.goto 64, 3) := by decide +kernel
theorem dX8_readLine_16 : decode cX8_readLine 16 = .ok (.aload_n 1, 1) := by decide +kernel
theorem dX8_readLine_17 : decode cX8_readLine 17 = .ok (.iconst 1, 1) := by decide +kernel
theorem dX8_readLine_18 : decode cX8_readLine 18 = .ok (.invokevirtual 86, 3) := by decide +kernel
theorem dX8_readLine_21 : decode cX8_readLine 21 = .ok (.ifCond .eq 11, 3) := by decide +kernel
theorem dX8_readLine_24 : decode cX8_readLine 24 = .ok (.aload_n 0, 1) := by decide +kernel
theorem dX8_readLine_25 : decode cX8_readLine 25 = .ok (.aload_n 1, 1) := by decide +kernel
theorem dX8_readLine_26 : decode cX8_readLine 26 = .ok (.invokevirtual 93, 3) := by decide +kernel
theorem dX8_readLine_29 : decode cX8_readLine 29 = .ok (.goto 48, 3) := by decide +kernel
theorem dX8_readLine_32 : decode cX8_readLine 32 = .ok (.aload_n 1, 1) := by decide +kernel
theorem dX8_readLine_33 : decode cX8_readLine 33 = .ok (.iconst 2, 1) := by decide +kernel
theorem dX8_readLine_34 : decode cX8_readLine 34 = .ok (.invokevirtual 96, 3) := by decide +kernel
theorem dX8_readLine_37 : decode cX8_readLine 37 = .ok (.ifCond .eq 15, 3) := by decide +kernel
theorem dX8_readLine_40 : decode cX8_readLine 40 = .ok (.aload_n 0, 1) := by decide +kernel
theorem dX8_readLine_41 : decode cX8_readLine 41 = .ok (.aload_n 1, 1) := by decide +kernel
theorem dX8_readLine_42 : decode cX8_readLine 42 = .ok (.aload_n 0, 1) := by decide +kernel
theorem dX8_readLine_43 : decode cX8_readLine 43 = .ok (.getfield 28, 3) := by decide +kernel
theorem dX8_readLine_46 : decode cX8_readLine 46 = .ok (.invokevirtual 99, 3) := by decide +kernel
theorem dX8_readLine_49 : decode cX8_readLine 49 = .ok (.goto 28, 3) := by decide +kernel
theorem dX8_readLine_52 : decode cX8_readLine 52 = .ok (.aload_n 1, 1) := by decide +kernel
theorem dX8_readLine_53 : decode cX8_readLine 53 = .ok (.iconst 3, 1) := by decide +kernel
theorem dX8_readLine_54 : decode cX8_readLine 54 = .ok (.invokevirtual 96, 3) := by decide +kernel
theorem dX8_readLine_57 : decode cX8_readLine 57 = .ok (.ifCond .eq 15, 3) := by decide +kernel
theorem dX8_readLine_60 : decode cX8_readLine 60 = .ok (.aload_n 0, 1) := by decide +kernel
theorem dX8_readLine_61 : decode cX8_readLine 61 = .ok (.aload_n 1, 1) := by decide +kernel
theorem dX8_readLine_62 : decode cX8_readLine 62 = .ok (.aload_n 0, 1) := by decide +kernel
theorem dX8_readLine_63 : decode cX8_readLine 63 = .ok (.getfield 31, 3) := by decide +kernel
theorem dX8_readLine_66 : decode cX8_readLine 66 = .ok (.invokevirtual 99, 3) := by decide +kernel
theorem dX8_readLine_69 : decode cX8_readLine 69 = .ok (.goto 8, 3) := by decide +kernel
theorem dX8_readLine_72 : decode cX8_readLine 72 = .ok (.aload_n 1, 1) := by decide +kernel
theorem dX8_readLine_73 : decode cX8_readLine 73 = .ok (.iconst 1, 1) := by decide +kernel
theorem dX8_readLine_74 : decode cX8_readLine 74 = .ok (.invokevirtual 103, 3) := by decide +kernel
theorem dX8_readLine_77 : decode cX8_readLine 77 = .ok (.return_, 1) := by decide +kernel
theorem dX8_readTurret_0 : decode cX8_readTurret 0 = .ok (.aload_n 0, 1) := by decide +kernel
theorem dX8_readTurret_1 : decode cX8_readTurret 1 = .ok (.getfield 43, 3) := by decide +kernel
theorem dX8_readTurret_4 : decode cX8_readTurret 4 = .ok (.istore_n 2, 1) := by decide +kernel
theorem dX8_readTurret_5 : decode cX8_readTurret 5 = .ok (.iload_n 2, 1) := by decide +kernel
theorem dX8_readTurret_6 : decode cX8_readTurret 6 = .ok (.bipush 7, 2) := by decide +kernel
theorem dX8_readTurret_8 : decode cX8_readTurret 8 = .ok (.if_icmp .lt 9, 3) := by decide +kernel
theorem dX8_readTurret_11 : decode cX8_readTurret 11 = .ok (.aload_n 1, 1) := by decide +kernel
theorem dX8_readTurret_12 : decode cX8_readTurret 12 = .ok (.iconst 4, 1) := by decide +kernel
theorem dX8_readTurret_13 : decode cX8_readTurret 13 = .ok (.invokevirtual 103, 3) := by decide +kernel
theorem dX8_readTurret_16 : decode cX8_readTurret 16 = .ok (.return_, 1) := by decide +kernel
theorem dX8_readTurret_17 : decode cX8_readTurret 17 = .ok (.aload_n 1, 1) := by decide +kernel
theorem dX8_readTurret_18 : decode cX8_readTurret 18 = .ok (.invokevirtual 106, 3) := by decide +kernel
theorem dX8_readTurret_21 : decode cX8_readTurret 21 = .ok (.aload_n 0, 1) := by decide +kernel
theorem dX8_readTurret_22 : decode cX8_readTurret 22 = .ok (.getfield 9, 3) := by decide +kernel
theorem dX8_readTurret_25 : decode cX8_readTurret 25 = .ok (.iload_n 2, 1) := by decide +kernel
theorem dX8_readTurret_26 : decode cX8_readTurret 26 = .ok (.aload_n 1, 1) := by decide +kernel
theorem dX8_readTurret_27 : decode cX8_readTurret 27 = .ok (.aload_n 0, 1) := by decide +kernel
theorem dX8_readTurret_28 : decode cX8_readTurret 28 = .ok (.invokevirtual 109, 3) := by decide +kernel
theorem dX8_readTurret_31 : decode cX8_readTurret 31 = .ok (.lastore, 1) := by decide +kernel
theorem dX8_readTurret_32 : decode cX8_readTurret 32 = .ok (.aload_n 0, 1) := by decide +kernel
theorem dX8_readTurret_33 : decode cX8_readTurret 33 = .ok (.getfield 15, 3) := by decide +kernel
theorem dX8_readTurret_36 : decode cX8_readTurret 36 = .ok (.iload_n 2, 1) := by decide +kernel
theorem dX8_readTurret_37 : decode cX8_readTurret 37 = .ok (.aload_n 1, 1) := by decide +kernel
theorem dX8_readTurret_38 : decode cX8_readTurret 38 = .ok (.iconst 5, 1) := by decide +kernel
theorem dX8_readTurret_39 : decode cX8_readTurret 39 = .ok (.iconst 4, 1) := by decide +kernel
theorem dX8_readTurret_40 : decode cX8_readTurret 40 = .ok (.invokevirtual 113, 3) := by decide +kernel
theorem dX8_readTurret_43 : decode cX8_readTurret 43 = .ok (.iastore, 1) := by decide +kernel
theorem dX8_readTurret_44 : decode cX8_readTurret 44 = .ok (.aload_n 0, 1) := by decide +kernel
theorem dX8_readTurret_45 : decode cX8_readTurret 45 = .ok (.getfield 19, 3) := by decide +kernel
theorem dX8_readTurret_48 : decode cX8_readTurret 48 = .ok (.iload_n 2, 1) := by decide +kernel
theorem dX8_readTurret_49 : decode cX8_readTurret 49 = .ok (.aload_n 1, 1) := by decide +kernel
theorem dX8_readTurret_50 : decode cX8_readTurret 50 = .ok (.bipush 9, 2) := by decide +kernel
theorem dX8_readTurret_52 : decode cX8_readTurret 52 = .ok (.bipush 8, 2) := by decide +kernel
theorem dX8_readTurret_54 : decode cX8_readTurret 54 = .ok (.invokevirtual 113, 3) := by decide +kernel
theorem dX8_readTurret_57 : decode cX8_readTurret 57 = .ok (.iastore, 1) := by decide +kernel
theorem dX8_readTurret_58 : decode cX8_readTurret 58 = .ok (.aload_n 0, 1) := by decide +kernel
theorem dX8_readTurret_59 : decode cX8_readTurret 59 = .ok (.getfield 22, 3) := by decide +kernel
theorem dX8_readTurret_62 : decode cX8_readTurret 62 = .ok (.iload_n 2, 1) := by decide +kernel
theorem dX8_readTurret_63 : decode cX8_readTurret 63 = .ok (.aload_n 1, 1) := by decide +kernel
theorem dX8_readTurret_64 : decode cX8_readTurret 64 = .ok (.iconst 1, 1) := by decide +kernel
theorem dX8_readTurret_65 : decode cX8_readTurret 65 = .ok (.bipush 60, 2) := by decide +kernel
theorem dX8_readTurret_67 : decode cX8_readTurret 67 = .ok (.invokevirtual 117, 3) := by decide +kernel
theorem dX8_readTurret_70 : decode cX8_readTurret 70 = .ok (.iastore, 1) := by decide +kernel
theorem dX8_readTurret_71 : decode cX8_readTurret 71 = .ok (.aload_n 1, 1) := by decide +kernel
theorem dX8_readTurret_72 : decode cX8_readTurret 72 = .ok (.iconst 4, 1) := by decide +kernel
theorem dX8_readTurret_73 : decode cX8_readTurret 73 = .ok (.invokevirtual 96, 3) := by decide +kernel
theorem dX8_readTurret_76 : decode cX8_readTurret 76 = .ok (.ifCond .eq 15, 3) := by decide +kernel
theorem dX8_readTurret_79 : decode cX8_readTurret 79 = .ok (.aload_n 0, 1) := by decide +kernel
theorem dX8_readTurret_80 : decode cX8_readTurret 80 = .ok (.dup, 1) := by decide +kernel
theorem dX8_readTurret_81 : decode cX8_readTurret 81 = .ok (.getfield 53, 3) := by decide +kernel
theorem dX8_readTurret_84 : decode cX8_readTurret 84 = .ok (.iconst 1, 1) := by decide +kernel
theorem dX8_readTurret_85 : decode cX8_readTurret 85 = .ok (.iload_n 2, 1) := by decide +kernel
theorem dX8_readTurret_86 : decode cX8_readTurret 86 = .ok (.ishl, 1) := by decide +kernel
theorem dX8_readTurret_87 : decode cX8_readTurret 87 = .ok (.ior, 1) := by decide +kernel
theorem dX8_readTurret_88 : decode cX8_readTurret 88 = .ok (.putfield 53, 3) := by decide +kernel
theorem dX8_readTurret_91 : decode cX8_readTurret 91 = .ok (.aload_n 0, 1) := by decide +kernel
theorem dX8_readTurret_92 : decode cX8_readTurret 92 = .ok (.dup, 1) := by decide +kernel
theorem dX8_readTurret_93 : decode cX8_readTurret 93 = .ok (.getfield 43, 3) := by decide +kernel
theorem dX8_readTurret_96 : decode cX8_readTurret 96 = .ok (.iconst 1, 1) := by decide +kernel
theorem dX8_readTurret_97 : decode cX8_readTurret 97 = .ok (.iadd, 1) := by decide +kernel
theorem dX8_readTurret_98 : decode cX8_readTurret 98 = .ok (.putfield 43, 3) := by decide +kernel
theorem dX8_readTurret_101 : decode cX8_readTurret 101 = .ok (.return_, 1) := by decide +kernel
theorem dX8_readPerson_0 : decode cX8_readPerson 0 = .ok (.aload_n 0, 1) := by decide +kernel
theorem dX8_readPerson_1 : decode cX8_readPerson 1 = .ok (.getfield 59, 3) := by decide +kernel
theorem dX8_readPerson_4 : decode cX8_readPerson 4 = .ok (.istore_n 2, 1) := by decide +kernel
theorem dX8_readPerson_5 : decode cX8_readPerson 5 = .ok (.iload_n 2, 1) := by decide +kernel
theorem dX8_readPerson_6 : decode cX8_readPerson 6 = .ok (.bipush 6, 2) := by decide +kernel
theorem dX8_readPerson_8 : decode cX8_readPerson 8 = .ok (.if_icmp .lt 9, 3) := by decide +kernel
theorem dX8_readPerson_11 : decode cX8_readPerson 11 = .ok (.aload_n 1, 1) := by decide +kernel
theorem dX8_readPerson_12 : decode cX8_readPerson 12 = .ok (.iconst 4, 1) := by decide +kernel
theorem dX8_readPerson_13 : decode cX8_readPerson 13 = .ok (.invokevirtual 103, 3) := by decide +kernel
theorem dX8_readPerson_16 : decode cX8_readPerson 16 = .ok (.return_, 1) := by decide +kernel
theorem dX8_readPerson_17 : decode cX8_readPerson 17 = .ok (.aload_n 1, 1) := by decide +kernel
theorem dX8_readPerson_18 : decode cX8_readPerson 18 = .ok (.invokevirtual 106, 3) := by decide +kernel
theorem dX8_readPerson_21 : decode cX8_readPerson 21 = .ok (.aload_n 0, 1) := by decide +kernel
theorem dX8_readPerson_22 : decode cX8_readPerson 22 = .ok (.getfield 25, 3) := by decide +kernel
theorem dX8_readPerson_25 : decode cX8_readPerson 25 = .ok (.iload_n 2, 1) := by decide +kernel
theorem dX8_readPerson_26 : decode cX8_readPerson 26 = .ok (.aload_n 1, 1) := by decide +kernel
theorem dX8_readPerson_27 : decode cX8_readPerson 27 = .ok (.aload_n 0, 1) := by decide +kernel
theorem dX8_readPerson_28 : decode cX8_readPerson 28 = .ok (.invokevirtual 109, 3) := by decide +kernel
theorem dX8_readPerson_31 : decode cX8_readPerson 31 = .ok (.lastore, 1) := by decide +kernel
theorem dX8_readPerson_32 : decode cX8_readPerson 32 = .ok (.aload_n 0, 1) := by decide +kernel
theorem dX8_readPerson_33 : decode cX8_readPerson 33 = .ok (.getfield 34, 3) := by decide +kernel
theorem dX8_readPerson_36 : decode cX8_readPerson 36 = .ok (.iload_n 2, 1) := by decide +kernel
theorem dX8_readPerson_37 : decode cX8_readPerson 37 = .ok (.aload_n 1, 1) := by decide +kernel
theorem dX8_readPerson_38 : decode cX8_readPerson 38 = .ok (.iconst 0, 1) := by decide +kernel
theorem dX8_readPerson_39 : decode cX8_readPerson 39 = .ok (.bipush 60, 2) := by decide +kernel
theorem dX8_readPerson_41 : decode cX8_readPerson 41 = .ok (.invokevirtual 117, 3) := by decide +kernel
theorem dX8_readPerson_44 : decode cX8_readPerson 44 = .ok (.iastore, 1) := by decide +kernel
theorem dX8_readPerson_45 : decode cX8_readPerson 45 = .ok (.aload_n 0, 1) := by decide +kernel
theorem dX8_readPerson_46 : decode cX8_readPerson 46 = .ok (.getfield 28, 3) := by decide +kernel
theorem dX8_readPerson_49 : decode cX8_readPerson 49 = .ok (.iload_n 2, 1) := by decide +kernel
theorem dX8_readPerson_50 : decode cX8_readPerson 50 = .ok (.iconst 0, 1) := by decide +kernel
theorem dX8_readPerson_51 : decode cX8_readPerson 51 = .ok (.iastore, 1) := by decide +kernel
theorem dX8_readPerson_52 : decode cX8_readPerson 52 = .ok (.aload_n 0, 1) := by decide +kernel
theorem dX8_readPerson_53 : decode cX8_readPerson 53 = .ok (.getfield 31, 3) := by decide +kernel
theorem dX8_readPerson_56 : decode cX8_readPerson 56 = .ok (.iload_n 2, 1) := by decide +kernel
theorem dX8_readPerson_57 : decode cX8_readPerson 57 = .ok (.iconst 0, 1) := by decide +kernel
theorem dX8_readPerson_58 : decode cX8_readPerson 58 = .ok (.iastore, 1) := by decide +kernel
theorem dX8_readPerson_59 : decode cX8_readPerson 59 = .ok (.aload_n 0, 1) := by decide +kernel
theorem dX8_readPerson_60 : decode cX8_readPerson 60 = .ok (.getfield 37, 3) := by decide +kernel
theorem dX8_readPerson_63 : decode cX8_readPerson 63 = .ok (.iload_n 2, 1) := by decide +kernel
theorem dX8_readPerson_64 : decode cX8_readPerson 64 = .ok (.iconst (-1), 1) := by decide +kernel
theorem dX8_readPerson_65 : decode cX8_readPerson 65 = .ok (.iastore, 1) := by decide +kernel
theorem dX8_readPerson_66 : decode cX8_readPerson 66 = .ok (.aload_n 0, 1) := by decide +kernel
theorem dX8_readPerson_67 : decode cX8_readPerson 67 = .ok (.getfield 40, 3) := by decide +kernel
theorem dX8_readPerson_70 : decode cX8_readPerson 70 = .ok (.iload_n 2, 1) := by decide +kernel
theorem dX8_readPerson_71 : decode cX8_readPerson 71 = .ok (.iconst 0, 1) := by decide +kernel
theorem dX8_readPerson_72 : decode cX8_readPerson 72 = .ok (.iastore, 1) := by decide +kernel
theorem dX8_readPerson_73 : decode cX8_readPerson 73 = .ok (.aload_n 0, 1) := by decide +kernel
theorem dX8_readPerson_74 : decode cX8_readPerson 74 = .ok (.dup, 1) := by decide +kernel
theorem dX8_readPerson_75 : decode cX8_readPerson 75 = .ok (.getfield 59, 3) := by decide +kernel
theorem dX8_readPerson_78 : decode cX8_readPerson 78 = .ok (.iconst 1, 1) := by decide +kernel
theorem dX8_readPerson_79 : decode cX8_readPerson 79 = .ok (.iadd, 1) := by decide +kernel
theorem dX8_readPerson_80 : decode cX8_readPerson 80 = .ok (.putfield 59, 3) := by decide +kernel
theorem dX8_readPerson_83 : decode cX8_readPerson 83 = .ok (.return_, 1) := by decide +kernel
theorem dX8_readView_0 : decode cX8_readView 0 = .ok (.aload_n 1, 1) := by decide +kernel
theorem dX8_readView_1 : decode cX8_readView 1 = .ok (.aload_n 0, 1) := by decide +kernel
theorem dX8_readView_2 : decode cX8_readView 2 = .ok (.invokevirtual 120, 3) := by decide +kernel
theorem dX8_readView_5 : decode cX8_readView 5 = .ok (.istore_n 3, 1) := by decide +kernel
theorem dX8_readView_6 : decode cX8_readView 6 = .ok (.aload_n 1, 1) := by decide +kernel
theorem dX8_readView_7 : decode cX8_readView 7 = .ok (.iload_n 3, 1) := by decide +kernel
theorem dX8_readView_8 : decode cX8_readView 8 = .ok (.iconst (-1), 1) := by decide +kernel
theorem dX8_readView_9 : decode cX8_readView 9 = .ok (.if_icmp .ne 7, 3) := by decide +kernel
theorem dX8_readView_12 : decode cX8_readView 12 = .ok (.iconst 0, 1) := by decide +kernel
theorem dX8_readView_13 : decode cX8_readView 13 = .ok (.goto 6, 3) := by decide +kernel
theorem dX8_readView_16 : decode cX8_readView 16 = .ok (.aload_n 2, 1) := by decide +kernel
theorem dX8_readView_17 : decode cX8_readView 17 = .ok (.iload_n 3, 1) := by decide +kernel
theorem dX8_readView_18 : decode cX8_readView 18 = .ok (.iaload, 1) := by decide +kernel
theorem dX8_readView_19 : decode cX8_readView 19 = .ok (.invokevirtual 124, 3) := by decide +kernel
theorem dX8_readView_22 : decode cX8_readView 22 = .ok (.istore 4, 2) := by decide +kernel
theorem dX8_readView_24 : decode cX8_readView 24 = .ok (.iload_n 3, 1) := by decide +kernel
theorem dX8_readView_25 : decode cX8_readView 25 = .ok (.iconst (-1), 1) := by decide +kernel
theorem dX8_readView_26 : decode cX8_readView 26 = .ok (.if_icmp .eq 19, 3) := by decide +kernel
theorem dX8_readView_29 : decode cX8_readView 29 = .ok (.iload 4, 2) := by decide +kernel
theorem dX8_readView_31 : decode cX8_readView 31 = .ok (.iconst (-1), 1) := by decide +kernel
theorem dX8_readView_32 : decode cX8_readView 32 = .ok (.if_icmp .eq 13, 3) := by decide +kernel
theorem dX8_readView_35 : decode cX8_readView 35 = .ok (.aload_n 2, 1) := by decide +kernel
theorem dX8_readView_36 : decode cX8_readView 36 = .ok (.iload_n 3, 1) := by decide +kernel
theorem dX8_readView_37 : decode cX8_readView 37 = .ok (.dup2, 1) := by decide +kernel
theorem dX8_readView_38 : decode cX8_readView 38 = .ok (.iaload, 1) := by decide +kernel
theorem dX8_readView_39 : decode cX8_readView 39 = .ok (.iconst 1, 1) := by decide +kernel
theorem dX8_readView_40 : decode cX8_readView 40 = .ok (.iload 4, 2) := by decide +kernel
theorem dX8_readView_42 : decode cX8_readView 42 = .ok (.ishl, 1) := by decide +kernel
theorem dX8_readView_43 : decode cX8_readView 43 = .ok (.ior, 1) := by decide +kernel
theorem dX8_readView_44 : decode cX8_readView 44 = .ok (.iastore, 1) := by decide +kernel
theorem dX8_readView_45 : decode cX8_readView 45 = .ok (.return_, 1) := by decide +kernel
theorem dX8_turretNamed_0 : decode cX8_turretNamed 0 = .ok (.iconst 0, 1) := by decide +kernel
theorem dX8_turretNamed_1 : decode cX8_turretNamed 1 = .ok (.istore_n 3, 1) := by decide +kernel
theorem dX8_turretNamed_2 : decode cX8_turretNamed 2 = .ok (.iload_n 3, 1) := by decide +kernel
theorem dX8_turretNamed_3 : decode cX8_turretNamed 3 = .ok (.aload_n 0, 1) := by decide +kernel
theorem dX8_turretNamed_4 : decode cX8_turretNamed 4 = .ok (.getfield 43, 3) := by decide +kernel
theorem dX8_turretNamed_7 : decode cX8_turretNamed 7 = .ok (.if_icmp .ge 22, 3) := by decide +kernel
theorem dX8_turretNamed_10 : decode cX8_turretNamed 10 = .ok (.aload_n 0, 1) := by decide +kernel
theorem dX8_turretNamed_11 : decode cX8_turretNamed 11 = .ok (.getfield 9, 3) := by decide +kernel
theorem dX8_turretNamed_14 : decode cX8_turretNamed 14 = .ok (.iload_n 3, 1) := by decide +kernel
theorem dX8_turretNamed_15 : decode cX8_turretNamed 15 = .ok (.laload, 1) := by decide +kernel
theorem dX8_turretNamed_16 : decode cX8_turretNamed 16 = .ok (.lload_n 1, 1) := by decide +kernel
theorem dX8_turretNamed_17 : decode cX8_turretNamed 17 = .ok (.lcmp, 1) := by decide +kernel
theorem dX8_turretNamed_18 : decode cX8_turretNamed 18 = .ok (.ifCond .ne 5, 3) := by decide +kernel
theorem dX8_turretNamed_21 : decode cX8_turretNamed 21 = .ok (.iload_n 3, 1) := by decide +kernel
theorem dX8_turretNamed_22 : decode cX8_turretNamed 22 = .ok (.ireturn, 1) := by decide +kernel
theorem dX8_turretNamed_23 : decode cX8_turretNamed 23 = .ok (.iinc 3 1, 3) := by decide +kernel
theorem dX8_turretNamed_26 : decode cX8_turretNamed 26 = .ok (.goto (-24), 3) := by decide +kernel
theorem dX8_turretNamed_29 : decode cX8_turretNamed 29 = .ok (.iconst (-1), 1) := by decide +kernel
theorem dX8_turretNamed_30 : decode cX8_turretNamed 30 = .ok (.ireturn, 1) := by decide +kernel
theorem dX8_personNamed_0 : decode cX8_personNamed 0 = .ok (.iconst 0, 1) := by decide +kernel
theorem dX8_personNamed_1 : decode cX8_personNamed 1 = .ok (.istore_n 3, 1) := by decide +kernel
theorem dX8_personNamed_2 : decode cX8_personNamed 2 = .ok (.iload_n 3, 1) := by decide +kernel
theorem dX8_personNamed_3 : decode cX8_personNamed 3 = .ok (.aload_n 0, 1) := by decide +kernel
theorem dX8_personNamed_4 : decode cX8_personNamed 4 = .ok (.getfield 59, 3) := by decide +kernel
theorem dX8_personNamed_7 : decode cX8_personNamed 7 = .ok (.if_icmp .ge 22, 3) := by decide +kernel
theorem dX8_personNamed_10 : decode cX8_personNamed 10 = .ok (.aload_n 0, 1) := by decide +kernel
theorem dX8_personNamed_11 : decode cX8_personNamed 11 = .ok (.getfield 25, 3) := by decide +kernel
theorem dX8_personNamed_14 : decode cX8_personNamed 14 = .ok (.iload_n 3, 1) := by decide +kernel
theorem dX8_personNamed_15 : decode cX8_personNamed 15 = .ok (.laload, 1) := by decide +kernel
theorem dX8_personNamed_16 : decode cX8_personNamed 16 = .ok (.lload_n 1, 1) := by decide +kernel
theorem dX8_personNamed_17 : decode cX8_personNamed 17 = .ok (.lcmp, 1) := by decide +kernel
theorem dX8_personNamed_18 : decode cX8_personNamed 18 = .ok (.ifCond .ne 5, 3) := by decide +kernel
theorem dX8_personNamed_21 : decode cX8_personNamed 21 = .ok (.iload_n 3, 1) := by decide +kernel
theorem dX8_personNamed_22 : decode cX8_personNamed 22 = .ok (.ireturn, 1) := by decide +kernel
theorem dX8_personNamed_23 : decode cX8_personNamed 23 = .ok (.iinc 3 1, 3) := by decide +kernel
theorem dX8_personNamed_26 : decode cX8_personNamed 26 = .ok (.goto (-24), 3) := by decide +kernel
theorem dX8_personNamed_29 : decode cX8_personNamed 29 = .ok (.iconst (-1), 1) := by decide +kernel
theorem dX8_personNamed_30 : decode cX8_personNamed 30 = .ok (.ireturn, 1) := by decide +kernel
theorem dX8_hasTurret_0 : decode cX8_hasTurret 0 = .ok (.iload_n 1, 1) := by decide +kernel
theorem dX8_hasTurret_1 : decode cX8_hasTurret 1 = .ok (.ifCond .lt 15, 3) := by decide +kernel
theorem dX8_hasTurret_4 : decode cX8_hasTurret 4 = .ok (.iload_n 1, 1) := by decide +kernel
theorem dX8_hasTurret_5 : decode cX8_hasTurret 5 = .ok (.aload_n 0, 1) := by decide +kernel
theorem dX8_hasTurret_6 : decode cX8_hasTurret 6 = .ok (.getfield 43, 3) := by decide +kernel
theorem dX8_hasTurret_9 : decode cX8_hasTurret 9 = .ok (.if_icmp .ge 7, 3) := by decide +kernel
theorem dX8_hasTurret_12 : decode cX8_hasTurret 12 = .ok (.iconst 1, 1) := by decide +kernel
theorem dX8_hasTurret_13 : decode cX8_hasTurret 13 = .ok (.goto 4, 3) := by decide +kernel
theorem dX8_hasTurret_16 : decode cX8_hasTurret 16 = .ok (.iconst 0, 1) := by decide +kernel
theorem dX8_hasTurret_17 : decode cX8_hasTurret 17 = .ok (.ireturn, 1) := by decide +kernel
theorem dX8_hasPerson_0 : decode cX8_hasPerson 0 = .ok (.iload_n 1, 1) := by decide +kernel
theorem dX8_hasPerson_1 : decode cX8_hasPerson 1 = .ok (.ifCond .lt 15, 3) := by decide +kernel
theorem dX8_hasPerson_4 : decode cX8_hasPerson 4 = .ok (.iload_n 1, 1) := by decide +kernel
theorem dX8_hasPerson_5 : decode cX8_hasPerson 5 = .ok (.aload_n 0, 1) := by decide +kernel
theorem dX8_hasPerson_6 : decode cX8_hasPerson 6 = .ok (.getfield 59, 3) := by decide +kernel
theorem dX8_hasPerson_9 : decode cX8_hasPerson 9 = .ok (.if_icmp .ge 7, 3) := by decide +kernel
theorem dX8_hasPerson_12 : decode cX8_hasPerson 12 = .ok (.iconst 1, 1) := by decide +kernel
theorem dX8_hasPerson_13 : decode cX8_hasPerson 13 = .ok (.goto 4, 3) := by decide +kernel
theorem dX8_hasPerson_16 : decode cX8_hasPerson 16 = .ok (.iconst 0, 1) := by decide +kernel
theorem dX8_hasPerson_17 : decode cX8_hasPerson 17 = .ok (.ireturn, 1) := by decide +kernel
theorem dX8_lookCount_0 : decode cX8_lookCount 0 = .ok (.aload_n 0, 1) := by decide +kernel
theorem dX8_lookCount_1 : decode cX8_lookCount 1 = .ok (.getfield 15, 3) := by decide +kernel
theorem dX8_lookCount_4 : decode cX8_lookCount 4 = .ok (.iload_n 1, 1) := by decide +kernel
theorem dX8_lookCount_5 : decode cX8_lookCount 5 = .ok (.iaload, 1) := by decide +kernel
theorem dX8_lookCount_6 : decode cX8_lookCount 6 = .ok (.lookupswitch 30 #[(0, 26), (1, 28)], 26) := by decide +kernel
theorem dX8_lookCount_32 : decode cX8_lookCount 32 = .ok (.iconst 1, 1) := by decide +kernel
theorem dX8_lookCount_33 : decode cX8_lookCount 33 = .ok (.ireturn, 1) := by decide +kernel
theorem dX8_lookCount_34 : decode cX8_lookCount 34 = .ok (.iconst 3, 1) := by decide +kernel
theorem dX8_lookCount_35 : decode cX8_lookCount 35 = .ok (.ireturn, 1) := by decide +kernel
theorem dX8_lookCount_36 : decode cX8_lookCount 36 = .ok (.bipush 8, 2) := by decide +kernel
theorem dX8_lookCount_38 : decode cX8_lookCount 38 = .ok (.ireturn, 1) := by decide +kernel
theorem dX8_lookAt_0 : decode cX8_lookAt 0 = .ok (.aload_n 0, 1) := by decide +kernel
theorem dX8_lookAt_1 : decode cX8_lookAt 1 = .ok (.getfield 19, 3) := by decide +kernel
theorem dX8_lookAt_4 : decode cX8_lookAt 4 = .ok (.iload_n 1, 1) := by decide +kernel
theorem dX8_lookAt_5 : decode cX8_lookAt 5 = .ok (.iaload, 1) := by decide +kernel
theorem dX8_lookAt_6 : decode cX8_lookAt 6 = .ok (.istore_n 3, 1) := by decide +kernel
theorem dX8_lookAt_7 : decode cX8_lookAt 7 = .ok (.aload_n 0, 1) := by decide +kernel
theorem dX8_lookAt_8 : decode cX8_lookAt 8 = .ok (.getfield 15, 3) := by decide +kernel
theorem dX8_lookAt_11 : decode cX8_lookAt 11 = .ok (.iload_n 1, 1) := by decide +kernel
theorem dX8_lookAt_12 : decode cX8_lookAt 12 = .ok (.iaload, 1) := by decide +kernel
theorem dX8_lookAt_13 : decode cX8_lookAt 13 = .ok (.tableswitch 62 0 2 #[27, 29, 55], 27) := by decide +kernel
theorem dX8_lookAt_40 : decode cX8_lookAt 40 = .ok (.iload_n 3, 1) := by decide +kernel
theorem dX8_lookAt_41 : decode cX8_lookAt 41 = .ok (.ireturn, 1) := by decide +kernel
theorem dX8_lookAt_42 : decode cX8_lookAt 42 = .ok (.iload_n 2, 1) := by decide +kernel
theorem dX8_lookAt_43 : decode cX8_lookAt 43 = .ok (.ifCond .ne 7, 3) := by decide +kernel
theorem dX8_lookAt_46 : decode cX8_lookAt 46 = .ok (.iload_n 3, 1) := by decide +kernel
theorem dX8_lookAt_47 : decode cX8_lookAt 47 = .ok (.goto 17, 3) := by decide +kernel
theorem dX8_lookAt_50 : decode cX8_lookAt 50 = .ok (.iload_n 2, 1) := by decide +kernel
theorem dX8_lookAt_51 : decode cX8_lookAt 51 = .ok (.iconst 1, 1) := by decide +kernel
theorem dX8_lookAt_52 : decode cX8_lookAt 52 = .ok (.if_icmp .ne 9, 3) := by decide +kernel
theorem dX8_lookAt_55 : decode cX8_lookAt 55 = .ok (.iload_n 3, 1) := by decide +kernel
theorem dX8_lookAt_56 : decode cX8_lookAt 56 = .ok (.iconst 1, 1) := by decide +kernel
theorem dX8_lookAt_57 : decode cX8_lookAt 57 = .ok (.isub, 1) := by decide +kernel
theorem dX8_lookAt_58 : decode cX8_lookAt 58 = .ok (.goto 6, 3) := by decide +kernel
theorem dX8_lookAt_61 : decode cX8_lookAt 61 = .ok (.iload_n 3, 1) := by decide +kernel
theorem dX8_lookAt_62 : decode cX8_lookAt 62 = .ok (.iconst 1, 1) := by decide +kernel
theorem dX8_lookAt_63 : decode cX8_lookAt 63 = .ok (.iadd, 1) := by decide +kernel
theorem dX8_lookAt_64 : decode cX8_lookAt 64 = .ok (.invokestatic 128, 3) := by decide +kernel
theorem dX8_lookAt_67 : decode cX8_lookAt 67 = .ok (.ireturn, 1) := by decide +kernel
theorem dX8_lookAt_68 : decode cX8_lookAt 68 = .ok (.iload_n 3, 1) := by decide +kernel
theorem dX8_lookAt_69 : decode cX8_lookAt 69 = .ok (.iload_n 2, 1) := by decide +kernel
theorem dX8_lookAt_70 : decode cX8_lookAt 70 = .ok (.iadd, 1) := by decide +kernel
theorem dX8_lookAt_71 : decode cX8_lookAt 71 = .ok (.invokestatic 128, 3) := by decide +kernel
theorem dX8_lookAt_74 : decode cX8_lookAt 74 = .ok (.ireturn, 1) := by decide +kernel
theorem dX8_lookAt_75 : decode cX8_lookAt 75 = .ok (.iload_n 3, 1) := by decide +kernel
theorem dX8_lookAt_76 : decode cX8_lookAt 76 = .ok (.iload_n 2, 1) := by decide +kernel
theorem dX8_lookAt_77 : decode cX8_lookAt 77 = .ok (.isub, 1) := by decide +kernel
theorem dX8_lookAt_78 : decode cX8_lookAt 78 = .ok (.invokestatic 128, 3) := by decide +kernel
theorem dX8_lookAt_81 : decode cX8_lookAt 81 = .ok (.ireturn, 1) := by decide +kernel
theorem dX8_lookBits_0 : decode cX8_lookBits 0 = .ok (.iconst 0, 1) := by decide +kernel
theorem dX8_lookBits_1 : decode cX8_lookBits 1 = .ok (.istore_n 2, 1) := by decide +kernel
theorem dX8_lookBits_2 : decode cX8_lookBits 2 = .ok (.aload_n 0, 1) := by decide +kernel
theorem dX8_lookBits_3 : decode cX8_lookBits 3 = .ok (.iload_n 1, 1) := by decide +kernel
theorem dX8_lookBits_4 : decode cX8_lookBits 4 = .ok (.invokevirtual 131, 3) := by decide +kernel
theorem dX8_lookBits_7 : decode cX8_lookBits 7 = .ok (.istore_n 3, 1) := by decide +kernel
theorem dX8_lookBits_8 : decode cX8_lookBits 8 = .ok (.iconst 0, 1) := by decide +kernel
theorem dX8_lookBits_9 : decode cX8_lookBits 9 = .ok (.istore 4, 2) := by decide +kernel
theorem dX8_lookBits_11 : decode cX8_lookBits 11 = .ok (.iload 4, 2) := by decide +kernel
theorem dX8_lookBits_13 : decode cX8_lookBits 13 = .ok (.iload_n 3, 1) := by decide +kernel
theorem dX8_lookBits_14 : decode cX8_lookBits 14 = .ok (.if_icmp .ge 21, 3) := by decide +kernel
theorem dX8_lookBits_17 : decode cX8_lookBits 17 = .ok (.iload_n 2, 1) := by decide +kernel
theorem dX8_lookBits_18 : decode cX8_lookBits 18 = .ok (.iconst 1, 1) := by decide +kernel
theorem dX8_lookBits_19 : decode cX8_lookBits 19 = .ok (.aload_n 0, 1) := by decide +kernel
theorem dX8_lookBits_20 : decode cX8_lookBits 20 = .ok (.iload_n 1, 1) := by decide +kernel
theorem dX8_lookBits_21 : decode cX8_lookBits 21 = .ok (.iload 4, 2) := by decide +kernel
theorem dX8_lookBits_23 : decode cX8_lookBits 23 = .ok (.invokevirtual 134, 3) := by decide +kernel
