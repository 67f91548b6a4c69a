theorem dC_init_0 : decode cC_init 0 = .ok (.aload_n 0, 1) := by decide +kernel
theorem dC_init_1 : decode cC_init 1 = .ok (.invokespecial 1, 3) := by decide +kernel
theorem dC_init_4 : decode cC_init 4 = .ok (.aload_n 0, 1) := by decide +kernel
theorem dC_init_5 : decode cC_init 5 = .ok (.new 7, 3) := by decide +kernel
theorem dC_init_8 : decode cC_init 8 = .ok (.dup, 1) := by decide +kernel
theorem dC_init_9 : decode cC_init 9 = .ok (.invokespecial 9, 3) := by decide +kernel
theorem dC_init_12 : decode cC_init 12 = .ok (.putfield 10, 3) := by decide +kernel
theorem dC_init_15 : decode cC_init 15 = .ok (.aload_n 0, 1) := by decide +kernel
theorem dC_init_16 : decode cC_init 16 = .ok (.iconst 5, 1) := by decide +kernel
theorem dC_init_17 : decode cC_init 17 = .ok (.anewarray 16, 3) := by decide +kernel
theorem dC_init_20 : decode cC_init 20 = .ok (.putfield 18, 3) := by decide +kernel
theorem dC_init_23 : decode cC_init 23 = .ok (.iconst 0, 1) := by decide +kernel
theorem dC_init_24 : decode cC_init 24 = .ok (.istore_n 1, 1) := by decide +kernel
theorem dC_init_25 : decode cC_init 25 = .ok (.iload_n 1, 1) := by decide +kernel
theorem dC_init_26 : decode cC_init 26 = .ok (.iconst 5, 1) := by decide +kernel
theorem dC_init_27 : decode cC_init 27 = .ok (.if_icmp .ge 22, 3) := by decide +kernel
theorem dC_init_30 : decode cC_init 30 = .ok (.aload_n 0, 1) := by decide +kernel
theorem dC_init_31 : decode cC_init 31 = .ok (.getfield 18, 3) := by decide +kernel
theorem dC_init_34 : decode cC_init 34 = .ok (.iload_n 1, 1) := by decide +kernel
theorem dC_init_35 : decode cC_init 35 = .ok (.new 16, 3) := by decide +kernel
theorem dC_init_38 : decode cC_init 38 = .ok (.dup, 1) := by decide +kernel
theorem dC_init_39 : decode cC_init 39 = .ok (.invokespecial 22, 3) := by decide +kernel
theorem dC_init_42 : decode cC_init 42 = .ok (.aastore, 1) := by decide +kernel
theorem dC_init_43 : decode cC_init 43 = .ok (.iinc 1 1, 3) := by decide +kernel
theorem dC_init_46 : decode cC_init 46 = .ok (.goto (-21), 3) := by decide +kernel
theorem dC_init_49 : decode cC_init 49 = .ok (.aload_n 0, 1) := by decide +kernel
theorem dC_init_50 : decode cC_init 50 = .ok (.new 23, 3) := by decide +kernel
theorem dC_init_53 : decode cC_init 53 = .ok (.dup, 1) := by decide +kernel
theorem dC_init_54 : decode cC_init 54 = .ok (.invokespecial 25, 3) := by decide +kernel
theorem dC_init_57 : decode cC_init 57 = .ok (.putfield 26, 3) := by decide +kernel
theorem dC_init_60 : decode cC_init 60 = .ok (.aload_n 0, 1) := by decide +kernel
theorem dC_init_61 : decode cC_init 61 = .ok (.lconst 0, 1) := by decide +kernel
theorem dC_init_62 : decode cC_init 62 = .ok (.putfield 30, 3) := by decide +kernel
theorem dC_init_65 : decode cC_init 65 = .ok (.aload_n 0, 1) := by decide +kernel
theorem dC_init_66 : decode cC_init 66 = .ok (.lconst 0, 1) := by decide +kernel
theorem dC_init_67 : decode cC_init 67 = .ok (.putfield 34, 3) := by decide +kernel
theorem dC_init_70 : decode cC_init 70 = .ok (.aload_n 0, 1) := by decide +kernel
theorem dC_init_71 : decode cC_init 71 = .ok (.iconst 0, 1) := by decide +kernel
theorem dC_init_72 : decode cC_init 72 = .ok (.putfield 37, 3) := by decide +kernel
theorem dC_init_75 : decode cC_init 75 = .ok (.return_, 1) := by decide +kernel
theorem dP_init_0 : decode cP_init 0 = .ok (.aload_n 0, 1) := by decide +kernel
theorem dP_init_1 : decode cP_init 1 = .ok (.invokespecial 1, 3) := by decide +kernel
theorem dP_init_4 : decode cP_init 4 = .ok (.aload_n 0, 1) := by decide +kernel
theorem dP_init_5 : decode cP_init 5 = .ok (.bipush 48, 2) := by decide +kernel
theorem dP_init_7 : decode cP_init 7 = .ok (.newarray .byte, 2) := by decide +kernel
theorem dP_init_9 : decode cP_init 9 = .ok (.putfield 9, 3) := by decide +kernel
theorem dP_init_12 : decode cP_init 12 = .ok (.return_, 1) := by decide +kernel
theorem dS_init_0 : decode cS_init 0 = .ok (.aload_n 0, 1) := by decide +kernel
theorem dS_init_1 : decode cS_init 1 = .ok (.invokespecial 1, 3) := by decide +kernel
theorem dS_init_4 : decode cS_init 4 = .ok (.aload_n 0, 1) := by decide +kernel
theorem dS_init_5 : decode cS_init 5 = .ok (.iconst 0, 1) := by decide +kernel
theorem dS_init_6 : decode cS_init 6 = .ok (.putfield 7, 3) := by decide +kernel
theorem dS_init_9 : decode cS_init 9 = .ok (.aload_n 0, 1) := by decide +kernel
theorem dS_init_10 : decode cS_init 10 = .ok (.iconst 0, 1) := by decide +kernel
theorem dS_init_11 : decode cS_init 11 = .ok (.putfield 13, 3) := by decide +kernel
theorem dS_init_14 : decode cS_init 14 = .ok (.aload_n 0, 1) := by decide +kernel
theorem dS_init_15 : decode cS_init 15 = .ok (.bipush 6, 2) := by decide +kernel
theorem dS_init_17 : decode cS_init 17 = .ok (.putfield 17, 3) := by decide +kernel
theorem dS_init_20 : decode cS_init 20 = .ok (.aload_n 0, 1) := by decide +kernel
theorem dS_init_21 : decode cS_init 21 = .ok (.iconst 0, 1) := by decide +kernel
theorem dS_init_22 : decode cS_init 22 = .ok (.putfield 20, 3) := by decide +kernel
theorem dS_init_25 : decode cS_init 25 = .ok (.aload_n 0, 1) := by decide +kernel
theorem dS_init_26 : decode cS_init 26 = .ok (.lconst 0, 1) := by decide +kernel
theorem dS_init_27 : decode cS_init 27 = .ok (.putfield 23, 3) := by decide +kernel
theorem dS_init_30 : decode cS_init 30 = .ok (.aload_n 0, 1) := by decide +kernel
theorem dS_init_31 : decode cS_init 31 = .ok (.iconst 0, 1) := by decide +kernel
theorem dS_init_32 : decode cS_init 32 = .ok (.putfield 27, 3) := by decide +kernel
theorem dS_init_35 : decode cS_init 35 = .ok (.aload_n 0, 1) := by decide +kernel
theorem dS_init_36 : decode cS_init 36 = .ok (.iconst 0, 1) := by decide +kernel
theorem dS_init_37 : decode cS_init 37 = .ok (.putfield 30, 3) := by decide +kernel
theorem dS_init_40 : decode cS_init 40 = .ok (.aload_n 0, 1) := by decide +kernel
theorem dS_init_41 : decode cS_init 41 = .ok (.lconst 0, 1) := by decide +kernel
theorem dS_init_42 : decode cS_init 42 = .ok (.putfield 33, 3) := by decide +kernel
theorem dS_init_45 : decode cS_init 45 = .ok (.aload_n 0, 1) := by decide +kernel
theorem dS_init_46 : decode cS_init 46 = .ok (.lconst 0, 1) := by decide +kernel
theorem dS_init_47 : decode cS_init 47 = .ok (.putfield 36, 3) := by decide +kernel
theorem dS_init_50 : decode cS_init 50 = .ok (.aload_n 0, 1) := by decide +kernel
theorem dS_init_51 : decode cS_init 51 = .ok (.bipush 8, 2) := by decide +kernel
theorem dS_init_53 : decode cS_init 53 = .ok (.newarray .long, 2) := by decide +kernel
theorem dS_init_55 : decode cS_init 55 = .ok (.putfield 39, 3) := by decide +kernel
theorem dS_init_58 : decode cS_init 58 = .ok (.aload_n 0, 1) := by decide +kernel
theorem dS_init_59 : decode cS_init 59 = .ok (.bipush 8, 2) := by decide +kernel
theorem dS_init_61 : decode cS_init 61 = .ok (.newarray .long, 2) := by decide +kernel
theorem dS_init_63 : decode cS_init 63 = .ok (.putfield 43, 3) := by decide +kernel
theorem dS_init_66 : decode cS_init 66 = .ok (.aload_n 0, 1) := by decide +kernel
theorem dS_init_67 : decode cS_init 67 = .ok (.bipush 8, 2) := by decide +kernel
theorem dS_init_69 : decode cS_init 69 = .ok (.newarray .long, 2) := by decide +kernel
theorem dS_init_71 : decode cS_init 71 = .ok (.putfield 46, 3) := by decide +kernel
theorem dS_init_74 : decode cS_init 74 = .ok (.return_, 1) := by decide +kernel
theorem dV_init_0 : decode cV_init 0 = .ok (.aload_n 0, 1) := by decide +kernel
theorem dV_init_1 : decode cV_init 1 = .ok (.invokespecial 3, 3) := by decide +kernel
theorem dV_init_4 : decode cV_init 4 = .ok (.aload_n 0, 1) := by decide +kernel
theorem dV_init_5 : decode cV_init 5 = .ok (.iconst 0, 1) := by decide +kernel
theorem dV_init_6 : decode cV_init 6 = .ok (.putfield 9, 3) := by decide +kernel
theorem dV_init_9 : decode cV_init 9 = .ok (.aload_n 0, 1) := by decide +kernel
theorem dV_init_10 : decode cV_init 10 = .ok (.ldc2_w 15, 3) := by decide +kernel
theorem dV_init_13 : decode cV_init 13 = .ok (.putfield 17, 3) := by decide +kernel
theorem dV_init_16 : decode cV_init 16 = .ok (.aload_n 0, 1) := by decide +kernel
theorem dV_init_17 : decode cV_init 17 = .ok (.ldc2_w 21, 3) := by decide +kernel
theorem dV_init_20 : decode cV_init 20 = .ok (.putfield 23, 3) := by decide +kernel
theorem dV_init_23 : decode cV_init 23 = .ok (.aload_n 0, 1) := by decide +kernel
theorem dV_init_24 : decode cV_init 24 = .ok (.iconst 0, 1) := by decide +kernel
theorem dV_init_25 : decode cV_init 25 = .ok (.putfield 26, 3) := by decide +kernel
theorem dV_init_28 : decode cV_init 28 = .ok (.aload_n 0, 1) := by decide +kernel
theorem dV_init_29 : decode cV_init 29 = .ok (.iconst 5, 1) := by decide +kernel
theorem dV_init_30 : decode cV_init 30 = .ok (.newarray .long, 2) := by decide +kernel
theorem dV_init_32 : decode cV_init 32 = .ok (.putfield 29, 3) := by decide +kernel
theorem dV_init_35 : decode cV_init 35 = .ok (.aload_n 0, 1) := by decide +kernel
theorem dV_init_36 : decode cV_init 36 = .ok (.iconst 5, 1) := by decide +kernel
theorem dV_init_37 : decode cV_init 37 = .ok (.newarray .long, 2) := by decide +kernel
theorem dV_init_39 : decode cV_init 39 = .ok (.putfield 33, 3) := by decide +kernel
theorem dV_init_42 : decode cV_init 42 = .ok (.return_, 1) := by decide +kernel
theorem dC_local_0 : decode cC_local 0 = .ok (.aload_n 0, 1) := by decide +kernel
theorem dC_local_1 : decode cC_local 1 = .ok (.getfield 30, 3) := by decide +kernel
theorem dC_local_4 : decode cC_local 4 = .ok (.lreturn, 1) := by decide +kernel
theorem dC_slew_0 : decode cC_slew 0 = .ok (.aload_n 0, 1) := by decide +kernel
theorem dC_slew_1 : decode cC_slew 1 = .ok (.getfield 34, 3) := by decide +kernel
theorem dC_slew_4 : decode cC_slew 4 = .ok (.lreturn, 1) := by decide +kernel
theorem dC_candidates_0 : decode cC_candidates 0 = .ok (.aload_n 0, 1) := by decide +kernel
theorem dC_candidates_1 : decode cC_candidates 1 = .ok (.getfield 26, 3) := by decide +kernel
theorem dC_candidates_4 : decode cC_candidates 4 = .ok (.aload_n 0, 1) := by decide +kernel
theorem dC_candidates_5 : decode cC_candidates 5 = .ok (.getfield 18, 3) := by decide +kernel
theorem dC_candidates_8 : decode cC_candidates 8 = .ok (.aload_n 0, 1) := by decide +kernel
theorem dC_candidates_9 : decode cC_candidates 9 = .ok (.getfield 30, 3) := by decide +kernel
theorem dC_candidates_12 : decode cC_candidates 12 = .ok (.invokevirtual 134, 3) := by decide +kernel
theorem dC_candidates_15 : decode cC_candidates 15 = .ok (.aload_n 0, 1) := by decide +kernel
theorem dC_candidates_16 : decode cC_candidates 16 = .ok (.getfield 26, 3) := by decide +kernel
theorem dC_candidates_19 : decode cC_candidates 19 = .ok (.getfield 138, 3) := by decide +kernel
theorem dC_candidates_22 : decode cC_candidates 22 = .ok (.ireturn, 1) := by decide +kernel
theorem dV_hold_0 : decode cV_hold 0 = .ok (.aload_n 0, 1) := by decide +kernel
theorem dV_hold_1 : decode cV_hold 1 = .ok (.aload_n 1, 1) := by decide +kernel
theorem dV_hold_2 : decode cV_hold 2 = .ok (.lload_n 2, 1) := by decide +kernel
theorem dV_hold_3 : decode cV_hold 3 = .ok (.invokevirtual 36, 3) := by decide +kernel
theorem dV_hold_6 : decode cV_hold 6 = .ok (.aload_n 0, 1) := by decide +kernel
theorem dV_hold_7 : decode cV_hold 7 = .ok (.invokevirtual 40, 3) := by decide +kernel
theorem dV_hold_10 : decode cV_hold 10 = .ok (.aload_n 0, 1) := by decide +kernel
theorem dV_hold_11 : decode cV_hold 11 = .ok (.invokevirtual 43, 3) := by decide +kernel
theorem dV_hold_14 : decode cV_hold 14 = .ok (.return_, 1) := by decide +kernel
theorem dV_findCandidates_0 : decode cV_findCandidates 0 = .ok (.aload_n 0, 1) := by decide +kernel
theorem dV_findCandidates_1 : decode cV_findCandidates 1 = .ok (.iconst 0, 1) := by decide +kernel
theorem dV_findCandidates_2 : decode cV_findCandidates 2 = .ok (.putfield 9, 3) := by decide +kernel
theorem dV_findCandidates_5 : decode cV_findCandidates 5 = .ok (.iconst 0, 1) := by decide +kernel
theorem dV_findCandidates_6 : decode cV_findCandidates 6 = .ok (.istore 4, 2) := by decide +kernel
theorem dV_findCandidates_8 : decode cV_findCandidates 8 = .ok (.iload 4, 2) := by decide +kernel
theorem dV_findCandidates_10 : decode cV_findCandidates 10 = .ok (.iconst 5, 1) := by decide +kernel
theorem dV_findCandidates_11 : decode cV_findCandidates 11 = .ok (.if_icmp .ge 92, 3) := by decide +kernel
theorem dV_findCandidates_14 : decode cV_findCandidates 14 = .ok (.aload_n 1, 1) := by decide +kernel
theorem dV_findCandidates_15 : decode cV_findCandidates 15 = .ok (.iload 4, 2) := by decide +kernel
theorem dV_findCandidates_17 : decode cV_findCandidates 17 = .ok (.aaload, 1) := by decide +kernel
theorem dV_findCandidates_18 : decode cV_findCandidates 18 = .ok (.astore 5, 2) := by decide +kernel
theorem dV_findCandidates_20 : decode cV_findCandidates 20 = .ok (.aload 5, 2) := by decide +kernel
theorem dV_findCandidates_22 : decode cV_findCandidates 22 = .ok (.getfield 74, 3) := by decide +kernel
theorem dV_findCandidates_25 : decode cV_findCandidates 25 = .ok (.ifCond .ne 72, 3) := by decide +kernel
theorem dV_findCandidates_28 : decode cV_findCandidates 28 = .ok (.aload 5, 2) := by decide +kernel
theorem dV_findCandidates_30 : decode cV_findCandidates 30 = .ok (.getfield 80, 3) := by decide +kernel
theorem dV_findCandidates_33 : decode cV_findCandidates 33 = .ok (.ifCond .eq 64, 3) := by decide +kernel
theorem dV_findCandidates_36 : decode cV_findCandidates 36 = .ok (.aload 5, 2) := by decide +kernel
theorem dV_findCandidates_38 : decode cV_findCandidates 38 = .ok (.getfield 83, 3) := by decide +kernel
theorem dV_findCandidates_41 : decode cV_findCandidates 41 = .ok (.ifCond .eq 56, 3) := by decide +kernel
theorem dV_findCandidates_44 : decode cV_findCandidates 44 = .ok (.aload_n 0, 1) := by decide +kernel
theorem dV_findCandidates_45 : decode cV_findCandidates 45 = .ok (.getfield 29, 3) := by decide +kernel
theorem dV_findCandidates_48 : decode cV_findCandidates 48 = .ok (.iload 4, 2) := by decide +kernel
theorem dV_findCandidates_50 : decode cV_findCandidates 50 = .ok (.aload 5, 2) := by decide +kernel
theorem dV_findCandidates_52 : decode cV_findCandidates 52 = .ok (.lload_n 2, 1) := by decide +kernel
theorem dV_findCandidates_53 : decode cV_findCandidates 53 = .ok (.invokevirtual 86, 3) := by decide +kernel
theorem dV_findCandidates_56 : decode cV_findCandidates 56 = .ok (.lastore, 1) := by decide +kernel
theorem dV_findCandidates_57 : decode cV_findCandidates 57 = .ok (.aload_n 0, 1) := by decide +kernel
theorem dV_findCandidates_58 : decode cV_findCandidates 58 = .ok (.getfield 33, 3) := by decide +kernel
theorem dV_findCandidates_61 : decode cV_findCandidates 61 = .ok (.iload 4, 2) := by decide +kernel
theorem dV_findCandidates_63 : decode cV_findCandidates 63 = .ok (.aload 5, 2) := by decide +kernel
theorem dV_findCandidates_65 : decode cV_findCandidates 65 = .ok (.lload_n 2, 1) := by decide +kernel
theorem dV_findCandidates_66 : decode cV_findCandidates 66 = .ok (.invokevirtual 90, 3) := by decide +kernel
theorem dV_findCandidates_69 : decode cV_findCandidates 69 = .ok (.lastore, 1) := by decide +kernel
theorem dV_findCandidates_70 : decode cV_findCandidates 70 = .ok (.aload_n 0, 1) := by decide +kernel
theorem dV_findCandidates_71 : decode cV_findCandidates 71 = .ok (.getfield 33, 3) := by decide +kernel
theorem dV_findCandidates_74 : decode cV_findCandidates 74 = .ok (.iload 4, 2) := by decide +kernel
theorem dV_findCandidates_76 : decode cV_findCandidates 76 = .ok (.laload, 1) := by decide +kernel
theorem dV_findCandidates_77 : decode cV_findCandidates 77 = .ok (.ldc2_w 93, 3) := by decide +kernel
theorem dV_findCandidates_80 : decode cV_findCandidates 80 = .ok (.lcmp, 1) := by decide +kernel
theorem dV_findCandidates_81 : decode cV_findCandidates 81 = .ok (.ifCond .ge 16, 3) := by decide +kernel
theorem dV_findCandidates_84 : decode cV_findCandidates 84 = .ok (.aload_n 0, 1) := by decide +kernel
theorem dV_findCandidates_85 : decode cV_findCandidates 85 = .ok (.dup, 1) := by decide +kernel
theorem dV_findCandidates_86 : decode cV_findCandidates 86 = .ok (.getfield 9, 3) := by decide +kernel
theorem dV_findCandidates_89 : decode cV_findCandidates 89 = .ok (.iconst 1, 1) := by decide +kernel
theorem dV_findCandidates_90 : decode cV_findCandidates 90 = .ok (.iload 4, 2) := by decide +kernel
theorem dV_findCandidates_92 : decode cV_findCandidates 92 = .ok (.ishl, 1) := by decide +kernel
theorem dV_findCandidates_93 : decode cV_findCandidates 93 = .ok (.ior, 1) := by decide +kernel
theorem dV_findCandidates_94 : decode cV_findCandidates 94 = .ok (.putfield 9, 3) := by decide +kernel
theorem dV_findCandidates_97 : decode cV_findCandidates 97 = .ok (.iinc 4 1, 3) := by decide +kernel
theorem dV_findCandidates_100 : decode cV_findCandidates 100 = .ok (.goto (-92), 3) := by decide +kernel
theorem dV_findCandidates_103 : decode cV_findCandidates 103 = .ok (.return_, 1) := by decide +kernel
theorem dS_bestOffset_0 : decode cS_bestOffset 0 = .ok (.aload_n 0, 1) := by decide +kernel
theorem dS_bestOffset_1 : decode cS_bestOffset 1 = .ok (.getfield 39, 3) := by decide +kernel
theorem dS_bestOffset_4 : decode cS_bestOffset 4 = .ok (.aload_n 0, 1) := by decide +kernel
theorem dS_bestOffset_5 : decode cS_bestOffset 5 = .ok (.lload_n 1, 1) := by decide +kernel
theorem dS_bestOffset_6 : decode cS_bestOffset 6 = .ok (.invokevirtual 67, 3) := by decide +kernel
theorem dS_bestOffset_9 : decode cS_bestOffset 9 = .ok (.laload, 1) := by decide +kernel
theorem dS_bestOffset_10 : decode cS_bestOffset 10 = .ok (.lreturn, 1) := by decide +kernel
theorem dS_bestAt_0 : decode cS_bestAt 0 = .ok (.iconst 0, 1) := by decide +kernel
theorem dS_bestAt_1 : decode cS_bestAt 1 = .ok (.istore_n 3, 1) := by decide +kernel
theorem dS_bestAt_2 : decode cS_bestAt 2 = .ok (.iconst 1, 1) := by decide +kernel
theorem dS_bestAt_3 : decode cS_bestAt 3 = .ok (.istore 4, 2) := by decide +kernel
theorem dS_bestAt_5 : decode cS_bestAt 5 = .ok (.iload 4, 2) := by decide +kernel
theorem dS_bestAt_7 : decode cS_bestAt 7 = .ok (.aload_n 0, 1) := by decide +kernel
theorem dS_bestAt_8 : decode cS_bestAt 8 = .ok (.getfield 27, 3) := by decide +kernel
theorem dS_bestAt_11 : decode cS_bestAt 11 = .ok (.if_icmp .ge 29, 3) := by decide +kernel
theorem dS_bestAt_14 : decode cS_bestAt 14 = .ok (.aload_n 0, 1) := by decide +kernel
theorem dS_bestAt_15 : decode cS_bestAt 15 = .ok (.iload 4, 2) := by decide +kernel
theorem dS_bestAt_17 : decode cS_bestAt 17 = .ok (.lload_n 1, 1) := by decide +kernel
theorem dS_bestAt_18 : decode cS_bestAt 18 = .ok (.invokevirtual 77, 3) := by decide +kernel
theorem dS_bestAt_21 : decode cS_bestAt 21 = .ok (.aload_n 0, 1) := by decide +kernel
theorem dS_bestAt_22 : decode cS_bestAt 22 = .ok (.iload_n 3, 1) := by decide +kernel
theorem dS_bestAt_23 : decode cS_bestAt 23 = .ok (.lload_n 1, 1) := by decide +kernel
theorem dS_bestAt_24 : decode cS_bestAt 24 = .ok (.invokevirtual 77, 3) := by decide +kernel
theorem dS_bestAt_27 : decode cS_bestAt 27 = .ok (.lcmp, 1) := by decide +kernel
theorem dS_bestAt_28 : decode cS_bestAt 28 = .ok (.ifCond .ge 6, 3) := by decide +kernel
theorem dS_bestAt_31 : decode cS_bestAt 31 = .ok (.iload 4, 2) := by decide +kernel
theorem dS_bestAt_33 : decode cS_bestAt 33 = .ok (.istore_n 3, 1) := by decide +kernel
theorem dS_bestAt_34 : decode cS_bestAt 34 = .ok (.iinc 4 1, 3) := by decide +kernel
theorem dS_bestAt_37 : decode cS_bestAt 37 = .ok (.goto (-32), 3) := by decide +kernel
theorem dS_bestAt_40 : decode cS_bestAt 40 = .ok (.iload_n 3, 1) := by decide +kernel
theorem dS_bestAt_41 : decode cS_bestAt 41 = .ok (.ireturn, 1) := by decide +kernel
theorem dS_distanceOf_0 : decode cS_distanceOf 0 = .ok (.lload_n 2, 1) := by decide +kernel
theorem dS_distanceOf_1 : decode cS_distanceOf 1 = .ok (.aload_n 0, 1) := by decide +kernel
theorem dS_distanceOf_2 : decode cS_distanceOf 2 = .ok (.getfield 46, 3) := by decide +kernel
theorem dS_distanceOf_5 : decode cS_distanceOf 5 = .ok (.iload_n 1, 1) := by decide +kernel
theorem dS_distanceOf_6 : decode cS_distanceOf 6 = .ok (.laload, 1) := by decide +kernel
theorem dS_distanceOf_7 : decode cS_distanceOf 7 = .ok (.lsub, 1) := by decide +kernel
theorem dS_distanceOf_8 : decode cS_distanceOf 8 = .ok (.lstore 4, 2) := by decide +kernel
theorem dS_distanceOf_10 : decode cS_distanceOf 10 = .ok (.aload_n 0, 1) := by decide +kernel
theorem dS_distanceOf_11 : decode cS_distanceOf 11 = .ok (.getfield 43, 3) := by decide +kernel
theorem dS_distanceOf_14 : decode cS_distanceOf 14 = .ok (.iload_n 1, 1) := by decide +kernel
theorem dS_distanceOf_15 : decode cS_distanceOf 15 = .ok (.laload, 1) := by decide +kernel
theorem dS_distanceOf_16 : decode cS_distanceOf 16 = .ok (.ldc2_w 75, 3) := by decide +kernel
theorem dS_distanceOf_19 : decode cS_distanceOf 19 = .ok (.ldiv, 1) := by decide +kernel
theorem dS_distanceOf_20 : decode cS_distanceOf 20 = .ok (.ldc2_w 81, 3) := by decide +kernel
theorem dS_distanceOf_23 : decode cS_distanceOf 23 = .ok (.ladd, 1) := by decide +kernel
theorem dS_distanceOf_24 : decode cS_distanceOf 24 = .ok (.lload 4, 2) := by decide +kernel
theorem dS_distanceOf_26 : decode cS_distanceOf 26 = .ok (.ldc2_w 81, 3) := by decide +kernel
theorem dS_distanceOf_29 : decode cS_distanceOf 29 = .ok (.invokestatic 83, 3) := by decide +kernel
theorem dS_distanceOf_32 : decode cS_distanceOf 32 = .ok (.ladd, 1) := by decide +kernel
theorem dS_distanceOf_33 : decode cS_distanceOf 33 = .ok (.lreturn, 1) := by decide +kernel
theorem dJ_floorDiv_0 : decode cJ_floorDiv 0 = .ok (.lload_n 0, 1) := by decide +kernel
theorem dJ_floorDiv_1 : decode cJ_floorDiv 1 = .ok (.lload_n 2, 1) := by decide +kernel
theorem dJ_floorDiv_2 : decode cJ_floorDiv 2 = .ok (.ldiv, 1) := by decide +kernel
theorem dJ_floorDiv_3 : decode cJ_floorDiv 3 = .ok (.lstore 4, 2) := by decide +kernel
theorem dJ_floorDiv_5 : decode cJ_floorDiv 5 = .ok (.lload_n 0, 1) := by decide +kernel
theorem dJ_floorDiv_6 : decode cJ_floorDiv 6 = .ok (.lload_n 2, 1) := by decide +kernel
theorem dJ_floorDiv_7 : decode cJ_floorDiv 7 = .ok (.lxor, 1) := by decide +kernel
theorem dJ_floorDiv_8 : decode cJ_floorDiv 8 = .ok (.lconst 0, 1) := by decide +kernel
theorem dJ_floorDiv_9 : decode cJ_floorDiv 9 = .ok (.lcmp, 1) := by decide +kernel
theorem dJ_floorDiv_10 : decode cJ_floorDiv 10 = .ok (.ifCond .ge 17, 3) := by decide +kernel
theorem dJ_floorDiv_13 : decode cJ_floorDiv 13 = .ok (.lload 4, 2) := by decide +kernel
theorem dJ_floorDiv_15 : decode cJ_floorDiv 15 = .ok (.lload_n 2, 1) := by decide +kernel
theorem dJ_floorDiv_16 : decode cJ_floorDiv 16 = .ok (.lmul, 1) := by decide +kernel
theorem dJ_floorDiv_17 : decode cJ_floorDiv 17 = .ok (.lload_n 0, 1) := by decide +kernel
theorem dJ_floorDiv_18 : decode cJ_floorDiv 18 = .ok (.lcmp, 1) := by decide +kernel
theorem dJ_floorDiv_19 : decode cJ_floorDiv 19 = .ok (.ifCond .eq 8, 3) := by decide +kernel
theorem dJ_floorDiv_22 : decode cJ_floorDiv 22 = .ok (.lload 4, 2) := by decide +kernel
theorem dJ_floorDiv_24 : decode cJ_floorDiv 24 = .ok (.lconst 1, 1) := by decide +kernel
theorem dJ_floorDiv_25 : decode cJ_floorDiv 25 = .ok (.lsub, 1) := by decide +kernel
theorem dJ_floorDiv_26 : decode cJ_floorDiv 26 = .ok (.lreturn, 1) := by decide +kernel
theorem dJ_floorDiv_27 : decode cJ_floorDiv 27 = .ok (.lload 4, 2) := by decide +kernel
theorem dJ_floorDiv_29 : decode cJ_floorDiv 29 = .ok (.lreturn, 1) := by decide +kernel
theorem dS_rootDistance_0 : decode cS_rootDistance 0 = .ok (.aload_n 0, 1) := by decide +kernel
theorem dS_rootDistance_1 : decode cS_rootDistance 1 = .ok (.lload_n 1, 1) := by decide +kernel
theorem dS_rootDistance_2 : decode cS_rootDistance 2 = .ok (.invokevirtual 67, 3) := by decide +kernel
theorem dS_rootDistance_5 : decode cS_rootDistance 5 = .ok (.istore_n 3, 1) := by decide +kernel
theorem dS_rootDistance_6 : decode cS_rootDistance 6 = .ok (.aload_n 0, 1) := by decide +kernel
theorem dS_rootDistance_7 : decode cS_rootDistance 7 = .ok (.getfield 33, 3) := by decide +kernel
theorem dS_rootDistance_10 : decode cS_rootDistance 10 = .ok (.ldc2_w 75, 3) := by decide +kernel
theorem dS_rootDistance_13 : decode cS_rootDistance 13 = .ok (.ldiv, 1) := by decide +kernel
theorem dS_rootDistance_14 : decode cS_rootDistance 14 = .ok (.aload_n 0, 1) := by decide +kernel
theorem dS_rootDistance_15 : decode cS_rootDistance 15 = .ok (.iload_n 3, 1) := by decide +kernel
theorem dS_rootDistance_16 : decode cS_rootDistance 16 = .ok (.lload_n 1, 1) := by decide +kernel
theorem dS_rootDistance_17 : decode cS_rootDistance 17 = .ok (.invokevirtual 77, 3) := by decide +kernel
theorem dS_rootDistance_20 : decode cS_rootDistance 20 = .ok (.ladd, 1) := by decide +kernel
theorem dS_rootDistance_21 : decode cS_rootDistance 21 = .ok (.aload_n 0, 1) := by decide +kernel
theorem dS_rootDistance_22 : decode cS_rootDistance 22 = .ok (.getfield 36, 3) := by decide +kernel
theorem dS_rootDistance_25 : decode cS_rootDistance 25 = .ok (.ladd, 1) := by decide +kernel
theorem dS_rootDistance_26 : decode cS_rootDistance 26 = .ok (.aload_n 0, 1) := by decide +kernel
theorem dS_rootDistance_27 : decode cS_rootDistance 27 = .ok (.aload_n 0, 1) := by decide +kernel
theorem dS_rootDistance_28 : decode cS_rootDistance 28 = .ok (.getfield 39, 3) := by decide +kernel
theorem dS_rootDistance_31 : decode cS_rootDistance 31 = .ok (.iload_n 3, 1) := by decide +kernel
theorem dS_rootDistance_32 : decode cS_rootDistance 32 = .ok (.laload, 1) := by decide +kernel
theorem dS_rootDistance_33 : decode cS_rootDistance 33 = .ok (.invokevirtual 71, 3) := by decide +kernel
theorem dS_rootDistance_36 : decode cS_rootDistance 36 = .ok (.ladd, 1) := by decide +kernel
theorem dS_rootDistance_37 : decode cS_rootDistance 37 = .ok (.lreturn, 1) := by decide +kernel
theorem dS_farthestFrom_0 : decode cS_farthestFrom 0 = .ok (.lconst 0, 1) := by decide +kernel
theorem dS_farthestFrom_1 : decode cS_farthestFrom 1 = .ok (.lstore_n 3, 1) := by decide +kernel
theorem dS_farthestFrom_2 : decode cS_farthestFrom 2 = .ok (.iconst 0, 1) := by decide +kernel
theorem dS_farthestFrom_3 : decode cS_farthestFrom 3 = .ok (.istore 5, 2) := by decide +kernel
theorem dS_farthestFrom_5 : decode cS_farthestFrom 5 = .ok (.iload 5, 2) := by decide +kernel
theorem dS_farthestFrom_7 : decode cS_farthestFrom 7 = .ok (.aload_n 0, 1) := by decide +kernel
theorem dS_farthestFrom_8 : decode cS_farthestFrom 8 = .ok (.getfield 27, 3) := by decide +kernel
theorem dS_farthestFrom_11 : decode cS_farthestFrom 11 = .ok (.if_icmp .ge 26, 3) := by decide +kernel
theorem dS_farthestFrom_14 : decode cS_farthestFrom 14 = .ok (.lload_n 3, 1) := by decide +kernel
theorem dS_farthestFrom_15 : decode cS_farthestFrom 15 = .ok (.aload_n 0, 1) := by decide +kernel
theorem dS_farthestFrom_16 : decode cS_farthestFrom 16 = .ok (.getfield 39, 3) := by decide +kernel
theorem dS_farthestFrom_19 : decode cS_farthestFrom 19 = .ok (.iload 5, 2) := by decide +kernel
theorem dS_farthestFrom_21 : decode cS_farthestFrom 21 = .ok (.laload, 1) := by decide +kernel
theorem dS_farthestFrom_22 : decode cS_farthestFrom 22 = .ok (.lload_n 1, 1) := by decide +kernel
theorem dS_farthestFrom_23 : decode cS_farthestFrom 23 = .ok (.lsub, 1) := by decide +kernel
theorem dS_farthestFrom_24 : decode cS_farthestFrom 24 = .ok (.invokestatic 87, 3) := by decide +kernel
theorem dS_farthestFrom_27 : decode cS_farthestFrom 27 = .ok (.invokestatic 90, 3) := by decide +kernel
theorem dS_farthestFrom_30 : decode cS_farthestFrom 30 = .ok (.lstore_n 3, 1) := by decide +kernel
theorem dS_farthestFrom_31 : decode cS_farthestFrom 31 = .ok (.iinc 5 1, 3) := by decide +kernel
theorem dS_farthestFrom_34 : decode cS_farthestFrom 34 = .ok (.goto (-29), 3) := by decide +kernel
theorem dS_farthestFrom_37 : decode cS_farthestFrom 37 = .ok (.lload_n 3, 1) := by decide +kernel
theorem dS_farthestFrom_38 : decode cS_farthestFrom 38 = .ok (.lreturn, 1) := by decide +kernel
theorem dJ_abs_0 : decode cJ_abs 0 = .ok (.lload_n 0, 1) := by decide +kernel
theorem dJ_abs_1 : decode cJ_abs 1 = .ok (.lconst 0, 1) := by decide +kernel
theorem dJ_abs_2 : decode cJ_abs 2 = .ok (.lcmp, 1) := by decide +kernel
theorem dJ_abs_3 : decode cJ_abs 3 = .ok (.ifCond .ge 8, 3) := by decide +kernel
theorem dJ_abs_6 : decode cJ_abs 6 = .ok (.lload_n 0, 1) := by decide +kernel
theorem dJ_abs_7 : decode cJ_abs 7 = .ok (.lneg, 1) := by decide +kernel
theorem dJ_abs_8 : decode cJ_abs 8 = .ok (.goto 4, 3) := by decide +kernel
theorem dJ_abs_11 : decode cJ_abs 11 = .ok (.lload_n 0, 1) := by decide +kernel
theorem dJ_abs_12 : decode cJ_abs 12 = .ok (.lreturn, 1) := by decide +kernel
theorem dJ_max_f86c_0 : decode cJ_max_f86c 0 = .ok (.lload_n 0, 1) := by decide +kernel
theorem dJ_max_f86c_1 : decode cJ_max_f86c 1 = .ok (.lload_n 2, 1) := by decide +kernel
theorem dJ_max_f86c_2 : decode cJ_max_f86c 2 = .ok (.lcmp, 1) := by decide +kernel
theorem dJ_max_f86c_3 : decode cJ_max_f86c 3 = .ok (.ifCond .lt 7, 3) := by decide +kernel
theorem dJ_max_f86c_6 : decode cJ_max_f86c 6 = .ok (.lload_n 0, 1) := by decide +kernel
theorem dJ_max_f86c_7 : decode cJ_max_f86c 7 = .ok (.goto 4, 3) := by decide +kernel
theorem dJ_max_f86c_10 : decode cJ_max_f86c 10 = .ok (.lload_n 2, 1) := by decide +kernel
theorem dJ_max_f86c_11 : decode cJ_max_f86c 11 = .ok (.lreturn, 1) := by decide +kernel
theorem dV_findBounds_0 : decode cV_findBounds 0 = .ok (.aload_n 0, 1) := by decide +kernel
theorem dV_findBounds_1 : decode cV_findBounds 1 = .ok (.ldc2_w 15, 3) := by decide +kernel
theorem dV_findBounds_4 : decode cV_findBounds 4 = .ok (.putfield 17, 3) := by decide +kernel
theorem dV_findBounds_7 : decode cV_findBounds 7 = .ok (.aload_n 0, 1) := by decide +kernel
theorem dV_findBounds_8 : decode cV_findBounds 8 = .ok (.ldc2_w 21, 3) := by decide +kernel
theorem dV_findBounds_11 : decode cV_findBounds 11 = .ok (.putfield 23, 3) := by decide +kernel
theorem dV_findBounds_14 : decode cV_findBounds 14 = .ok (.iconst 0, 1) := by decide +kernel
theorem dV_findBounds_15 : decode cV_findBounds 15 = .ok (.istore_n 1, 1) := by decide +kernel
theorem dV_findBounds_16 : decode cV_findBounds 16 = .ok (.iload_n 1, 1) := by decide +kernel
theorem dV_findBounds_17 : decode cV_findBounds 17 = .ok (.iconst 5, 1) := by decide +kernel
theorem dV_findBounds_18 : decode cV_findBounds 18 = .ok (.if_icmp .ge 105, 3) := by decide +kernel
theorem dV_findBounds_21 : decode cV_findBounds 21 = .ok (.aload_n 0, 1) := by decide +kernel
theorem dV_findBounds_22 : decode cV_findBounds 22 = .ok (.getfield 9, 3) := by decide +kernel
theorem dV_findBounds_25 : decode cV_findBounds 25 = .ok (.iload_n 1, 1) := by decide +kernel
theorem dV_findBounds_26 : decode cV_findBounds 26 = .ok (.invokestatic 50, 3) := by decide +kernel
theorem dV_findBounds_29 : decode cV_findBounds 29 = .ok (.ifCond .eq 88, 3) := by decide +kernel
theorem dV_findBounds_32 : decode cV_findBounds 32 = .ok (.aload_n 0, 1) := by decide +kernel
theorem dV_findBounds_33 : decode cV_findBounds 33 = .ok (.getfield 29, 3) := by decide +kernel
theorem dV_findBounds_36 : decode cV_findBounds 36 = .ok (.iload_n 1, 1) := by decide +kernel
theorem dV_findBounds_37 : decode cV_findBounds 37 = .ok (.laload, 1) := by decide +kernel
theorem dV_findBounds_38 : decode cV_findBounds 38 = .ok (.aload_n 0, 1) := by decide +kernel
theorem dV_findBounds_39 : decode cV_findBounds 39 = .ok (.getfield 33, 3) := by decide +kernel
theorem dV_findBounds_42 : decode cV_findBounds 42 = .ok (.iload_n 1, 1) := by decide +kernel
theorem dV_findBounds_43 : decode cV_findBounds 43 = .ok (.laload, 1) := by decide +kernel
theorem dV_findBounds_44 : decode cV_findBounds 44 = .ok (.lsub, 1) := by decide +kernel
theorem dV_findBounds_45 : decode cV_findBounds 45 = .ok (.lstore_n 2, 1) := by decide +kernel
theorem dV_findBounds_46 : decode cV_findBounds 46 = .ok (.aload_n 0, 1) := by decide +kernel
theorem dV_findBounds_47 : decode cV_findBounds 47 = .ok (.getfield 29, 3) := by decide +kernel
theorem dV_findBounds_50 : decode cV_findBounds 50 = .ok (.iload_n 1, 1) := by decide +kernel
theorem dV_findBounds_51 : decode cV_findBounds 51 = .ok (.laload, 1) := by decide +kernel
theorem dV_findBounds_52 : decode cV_findBounds 52 = .ok (.aload_n 0, 1) := by decide +kernel
theorem dV_findBounds_53 : decode cV_findBounds 53 = .ok (.getfield 33, 3) := by decide +kernel
theorem dV_findBounds_56 : decode cV_findBounds 56 = .ok (.iload_n 1, 1) := by decide +kernel
theorem dV_findBounds_57 : decode cV_findBounds 57 = .ok (.laload, 1) := by decide +kernel
theorem dV_findBounds_58 : decode cV_findBounds 58 = .ok (.ladd, 1) := by decide +kernel
theorem dV_findBounds_59 : decode cV_findBounds 59 = .ok (.lstore 4, 2) := by decide +kernel
theorem dV_findBounds_61 : decode cV_findBounds 61 = .ok (.aload_n 0, 1) := by decide +kernel
theorem dV_findBounds_62 : decode cV_findBounds 62 = .ok (.aload_n 0, 1) := by decide +kernel
theorem dV_findBounds_63 : decode cV_findBounds 63 = .ok (.lload_n 2, 1) := by decide +kernel
theorem dV_findBounds_64 : decode cV_findBounds 64 = .ok (.invokevirtual 95, 3) := by decide +kernel
theorem dV_findBounds_67 : decode cV_findBounds 67 = .ok (.ifCond .eq 14, 3) := by decide +kernel
theorem dV_findBounds_70 : decode cV_findBounds 70 = .ok (.aload_n 0, 1) := by decide +kernel
theorem dV_findBounds_71 : decode cV_findBounds 71 = .ok (.getfield 17, 3) := by decide +kernel
theorem dV_findBounds_74 : decode cV_findBounds 74 = .ok (.lload_n 2, 1) := by decide +kernel
theorem dV_findBounds_75 : decode cV_findBounds 75 = .ok (.invokestatic 99, 3) := by decide +kernel
theorem dV_findBounds_78 : decode cV_findBounds 78 = .ok (.goto 7, 3) := by decide +kernel
theorem dV_findBounds_81 : decode cV_findBounds 81 = .ok (.aload_n 0, 1) := by decide +kernel
theorem dV_findBounds_82 : decode cV_findBounds 82 = .ok (.getfield 17, 3) := by decide +kernel
theorem dV_findBounds_85 : decode cV_findBounds 85 = .ok (.putfield 17, 3) := by decide +kernel
theorem dV_findBounds_88 : decode cV_findBounds 88 = .ok (.aload_n 0, 1) := by decide +kernel
theorem dV_findBounds_89 : decode cV_findBounds 89 = .ok (.aload_n 0, 1) := by decide +kernel
theorem dV_findBounds_90 : decode cV_findBounds 90 = .ok (.lload 4, 2) := by decide +kernel
theorem dV_findBounds_92 : decode cV_findBounds 92 = .ok (.invokevirtual 95, 3) := by decide +kernel
theorem dV_findBounds_95 : decode cV_findBounds 95 = .ok (.ifCond .eq 15, 3) := by decide +kernel
theorem dV_findBounds_98 : decode cV_findBounds 98 = .ok (.aload_n 0, 1) := by decide +kernel
theorem dV_findBounds_99 : decode cV_findBounds 99 = .ok (.getfield 23, 3) := by decide +kernel
theorem dV_findBounds_102 : decode cV_findBounds 102 = .ok (.lload 4, 2) := by decide +kernel
theorem dV_findBounds_104 : decode cV_findBounds 104 = .ok (.invokestatic 102, 3) := by decide +kernel
theorem dV_findBounds_107 : decode cV_findBounds 107 = .ok (.goto 7, 3) := by decide +kernel
theorem dV_findBounds_110 : decode cV_findBounds 110 = .ok (.aload_n 0, 1) := by decide +kernel
theorem dV_findBounds_111 : decode cV_findBounds 111 = .ok (.getfield 23, 3) := by decide +kernel
theorem dV_findBounds_114 : decode cV_findBounds 114 = .ok (.putfield 23, 3) := by decide +kernel
theorem dV_findBounds_117 : decode cV_findBounds 117 = .ok (.iinc 1 1, 3) := by decide +kernel
theorem dV_findBounds_120 : decode cV_findBounds 120 = .ok (.goto (-104), 3) := by decide +kernel
theorem dV_findBounds_123 : decode cV_findBounds 123 = .ok (.return_, 1) := by decide +kernel
theorem dV_has_0 : decode cV_has 0 = .ok (.iload_n 0, 1) := by decide +kernel
theorem dV_has_1 : decode cV_has 1 = .ok (.iload_n 1, 1) := by decide +kernel
theorem dV_has_2 : decode cV_has 2 = .ok (.ishr, 1) := by decide +kernel
theorem dV_has_3 : decode cV_has 3 = .ok (.iconst 1, 1) := by decide +kernel
theorem dV_has_4 : decode cV_has 4 = .ok (.iand, 1) := by decide +kernel
theorem dV_has_5 : decode cV_has 5 = .ok (.ifCond .eq 7, 3) := by decide +kernel
theorem dV_has_8 : decode cV_has 8 = .ok (.iconst 1, 1) := by decide +kernel
theorem dV_has_9 : decode cV_has 9 = .ok (.goto 4, 3) := by decide +kernel
theorem dV_has_12 : decode cV_has 12 = .ok (.iconst 0, 1) := by decide +kernel
theorem dV_has_13 : decode cV_has 13 = .ok (.ireturn, 1) := by decide +kernel
theorem dV_isInMost_0 : decode cV_isInMost 0 = .ok (.iconst 0, 1) := by decide +kernel
theorem dV_isInMost_1 : decode cV_isInMost 1 = .ok (.istore_n 3, 1) := by decide +kernel
theorem dV_isInMost_2 : decode cV_isInMost 2 = .ok (.iconst 0, 1) := by decide +kernel
theorem dV_isInMost_3 : decode cV_isInMost 3 = .ok (.istore 4, 2) := by decide +kernel
theorem dV_isInMost_5 : decode cV_isInMost 5 = .ok (.iload 4, 2) := by decide +kernel
theorem dV_isInMost_7 : decode cV_isInMost 7 = .ok (.iconst 5, 1) := by decide +kernel
theorem dV_isInMost_8 : decode cV_isInMost 8 = .ok (.if_icmp .ge 47, 3) := by decide +kernel
theorem dV_isInMost_11 : decode cV_isInMost 11 = .ok (.aload_n 0, 1) := by decide +kernel
theorem dV_isInMost_12 : decode cV_isInMost 12 = .ok (.getfield 9, 3) := by decide +kernel
theorem dV_isInMost_15 : decode cV_isInMost 15 = .ok (.iload 4, 2) := by decide +kernel
theorem dV_isInMost_17 : decode cV_isInMost 17 = .ok (.invokestatic 50, 3) := by decide +kernel
theorem dV_isInMost_20 : decode cV_isInMost 20 = .ok (.ifCond .eq 29, 3) := by decide +kernel
theorem dV_isInMost_23 : decode cV_isInMost 23 = .ok (.lload_n 1, 1) := by decide +kernel
theorem dV_isInMost_24 : decode cV_isInMost 24 = .ok (.aload_n 0, 1) := by decide +kernel
theorem dV_isInMost_25 : decode cV_isInMost 25 = .ok (.getfield 29, 3) := by decide +kernel
theorem dV_isInMost_28 : decode cV_isInMost 28 = .ok (.iload 4, 2) := by decide +kernel
theorem dV_isInMost_30 : decode cV_isInMost 30 = .ok (.laload, 1) := by decide +kernel
theorem dV_isInMost_31 : decode cV_isInMost 31 = .ok (.lsub, 1) := by decide +kernel
theorem dV_isInMost_32 : decode cV_isInMost 32 = .ok (.invokestatic 104, 3) := by decide +kernel
theorem dV_isInMost_35 : decode cV_isInMost 35 = .ok (.aload_n 0, 1) := by decide +kernel
theorem dV_isInMost_36 : decode cV_isInMost 36 = .ok (.getfield 33, 3) := by decide +kernel
theorem dV_isInMost_39 : decode cV_isInMost 39 = .ok (.iload 4, 2) := by decide +kernel
theorem dV_isInMost_41 : decode cV_isInMost 41 = .ok (.laload, 1) := by decide +kernel
theorem dV_isInMost_42 : decode cV_isInMost 42 = .ok (.lcmp, 1) := by decide +kernel
theorem dV_isInMost_43 : decode cV_isInMost 43 = .ok (.ifCond .gt 6, 3) := by decide +kernel
theorem dV_isInMost_46 : decode cV_isInMost 46 = .ok (.iinc 3 1, 3) := by decide +kernel
theorem dV_isInMost_49 : decode cV_isInMost 49 = .ok (.iinc 4 1, 3) := by decide +kernel
theorem dV_isInMost_52 : decode cV_isInMost 52 = .ok (.goto (-47), 3) := by decide +kernel
theorem dV_isInMost_55 : decode cV_isInMost 55 = .ok (.iconst 2, 1) := by decide +kernel
theorem dV_isInMost_56 : decode cV_isInMost 56 = .ok (.iload_n 3, 1) := by decide +kernel
theorem dV_isInMost_57 : decode cV_isInMost 57 = .ok (.imul, 1) := by decide +kernel
theorem dV_isInMost_58 : decode cV_isInMost 58 = .ok (.aload_n 0, 1) := by decide +kernel
theorem dV_isInMost_59 : decode cV_isInMost 59 = .ok (.getfield 9, 3) := by decide +kernel
theorem dV_isInMost_62 : decode cV_isInMost 62 = .ok (.invokestatic 64, 3) := by decide +kernel
theorem dV_isInMost_65 : decode cV_isInMost 65 = .ok (.if_icmp .le 7, 3) := by decide +kernel
theorem dV_isInMost_68 : decode cV_isInMost 68 = .ok (.iconst 1, 1) := by decide +kernel
theorem dV_isInMost_69 : decode cV_isInMost 69 = .ok (.goto 4, 3) := by decide +kernel
theorem dV_isInMost_72 : decode cV_isInMost 72 = .ok (.iconst 0, 1) := by decide +kernel
theorem dV_isInMost_73 : decode cV_isInMost 73 = .ok (.ireturn, 1) := by decide +kernel
theorem dI_bitCount_0 : decode cI_bitCount 0 = .ok (.iload_n 0, 1) := by decide +kernel
theorem dI_bitCount_1 : decode cI_bitCount 1 = .ok (.iload_n 0, 1) := by decide +kernel
theorem dI_bitCount_2 : decode cI_bitCount 2 = .ok (.iconst 1, 1) := by decide +kernel
theorem dI_bitCount_3 : decode cI_bitCount 3 = .ok (.iushr, 1) := by decide +kernel
theorem dI_bitCount_4 : decode cI_bitCount 4 = .ok (.ldc_w 265, 3) := by decide +kernel
theorem dI_bitCount_7 : decode cI_bitCount 7 = .ok (.iand, 1) := by decide +kernel
theorem dI_bitCount_8 : decode cI_bitCount 8 = .ok (.isub, 1) := by decide +kernel
theorem dI_bitCount_9 : decode cI_bitCount 9 = .ok (.istore_n 0, 1) := by decide +kernel
theorem dI_bitCount_10 : decode cI_bitCount 10 = .ok (.iload_n 0, 1) := by decide +kernel
theorem dI_bitCount_11 : decode cI_bitCount 11 = .ok (.ldc_w 266, 3) := by decide +kernel
theorem dI_bitCount_14 : decode cI_bitCount 14 = .ok (.iand, 1) := by decide +kernel
theorem dI_bitCount_15 : decode cI_bitCount 15 = .ok (.iload_n 0, 1) := by decide +kernel
theorem dI_bitCount_16 : decode cI_bitCount 16 = .ok (.iconst 2, 1) := by decide +kernel
theorem dI_bitCount_17 : decode cI_bitCount 17 = .ok (.iushr, 1) := by decide +kernel
theorem dI_bitCount_18 : decode cI_bitCount 18 = .ok (.ldc_w 266, 3) := by decide +kernel
theorem dI_bitCount_21 : decode cI_bitCount 21 = .ok (.iand, 1) := by decide +kernel
theorem dI_bitCount_22 : decode cI_bitCount 22 = .ok (.iadd, 1) := by decide +kernel
theorem dI_bitCount_23 : decode cI_bitCount 23 = .ok (.istore_n 0, 1) := by decide +kernel
theorem dI_bitCount_24 : decode cI_bitCount 24 = .ok (.iload_n 0, 1) := by decide +kernel
theorem dI_bitCount_25 : decode cI_bitCount 25 = .ok (.iload_n 0, 1) := by decide +kernel
theorem dI_bitCount_26 : decode cI_bitCount 26 = .ok (.iconst 4, 1) := by decide +kernel
theorem dI_bitCount_27 : decode cI_bitCount 27 = .ok (.iushr, 1) := by decide +kernel
theorem dI_bitCount_28 : decode cI_bitCount 28 = .ok (.iadd, 1) := by decide +kernel
theorem dI_bitCount_29 : decode cI_bitCount 29 = .ok (.ldc_w 267, 3) := by decide +kernel
theorem dI_bitCount_32 : decode cI_bitCount 32 = .ok (.iand, 1) := by decide +kernel
theorem dI_bitCount_33 : decode cI_bitCount 33 = .ok (.istore_n 0, 1) := by decide +kernel
theorem dI_bitCount_34 : decode cI_bitCount 34 = .ok (.iload_n 0, 1) := by decide +kernel
theorem dI_bitCount_35 : decode cI_bitCount 35 = .ok (.iload_n 0, 1) := by decide +kernel
theorem dI_bitCount_36 : decode cI_bitCount 36 = .ok (.bipush 8, 2) := by decide +kernel
theorem dI_bitCount_38 : decode cI_bitCount 38 = .ok (.iushr, 1) := by decide +kernel
theorem dI_bitCount_39 : decode cI_bitCount 39 = .ok (.iadd, 1) := by decide +kernel
theorem dI_bitCount_40 : decode cI_bitCount 40 = .ok (.istore_n 0, 1) := by decide +kernel
theorem dI_bitCount_41 : decode cI_bitCount 41 = .ok (.iload_n 0, 1) := by decide +kernel
theorem dI_bitCount_42 : decode cI_bitCount 42 = .ok (.iload_n 0, 1) := by decide +kernel
theorem dI_bitCount_43 : decode cI_bitCount 43 = .ok (.bipush 16, 2) := by decide +kernel
theorem dI_bitCount_45 : decode cI_bitCount 45 = .ok (.iushr, 1) := by decide +kernel
theorem dI_bitCount_46 : decode cI_bitCount 46 = .ok (.iadd, 1) := by decide +kernel
theorem dI_bitCount_47 : decode cI_bitCount 47 = .ok (.istore_n 0, 1) := by decide +kernel
theorem dI_bitCount_48 : decode cI_bitCount 48 = .ok (.iload_n 0, 1) := by decide +kernel
theorem dI_bitCount_49 : decode cI_bitCount 49 = .ok (.bipush 63, 2) := by decide +kernel
theorem dI_bitCount_51 : decode cI_bitCount 51 = .ok (.iand, 1) := by decide +kernel
theorem dI_bitCount_52 : decode cI_bitCount 52 = .ok (.ireturn, 1) := by decide +kernel
theorem dJ_min_f86c_0 : decode cJ_min_f86c 0 = .ok (.lload_n 0, 1) := by decide +kernel
theorem dJ_min_f86c_1 : decode cJ_min_f86c 1 = .ok (.lload_n 2, 1) := by decide +kernel
theorem dJ_min_f86c_2 : decode cJ_min_f86c 2 = .ok (.lcmp, 1) := by decide +kernel
theorem dJ_min_f86c_3 : decode cJ_min_f86c 3 = .ok (.ifCond .gt 7, 3) := by decide +kernel
theorem dJ_min_f86c_6 : decode cJ_min_f86c 6 = .ok (.lload_n 0, 1) := by decide +kernel
theorem dJ_min_f86c_7 : decode cJ_min_f86c 7 = .ok (.goto 4, 3) := by decide +kernel
theorem dJ_min_f86c_10 : decode cJ_min_f86c 10 = .ok (.lload_n 2, 1) := by decide +kernel
theorem dJ_min_f86c_11 : decode cJ_min_f86c 11 = .ok (.lreturn, 1) := by decide +kernel
theorem dV_findSurvivors_0 : decode cV_findSurvivors 0 = .ok (.aload_n 0, 1) := by decide +kernel
theorem dV_findSurvivors_1 : decode cV_findSurvivors 1 = .ok (.iconst 0, 1) := by decide +kernel
theorem dV_findSurvivors_2 : decode cV_findSurvivors 2 = .ok (.putfield 26, 3) := by decide +kernel
theorem dV_findSurvivors_5 : decode cV_findSurvivors 5 = .ok (.iconst 0, 1) := by decide +kernel
theorem dV_findSurvivors_6 : decode cV_findSurvivors 6 = .ok (.istore_n 1, 1) := by decide +kernel
theorem dV_findSurvivors_7 : decode cV_findSurvivors 7 = .ok (.iload_n 1, 1) := by decide +kernel
theorem dV_findSurvivors_8 : decode cV_findSurvivors 8 = .ok (.iconst 5, 1) := by decide +kernel
theorem dV_findSurvivors_9 : decode cV_findSurvivors 9 = .ok (.if_icmp .ge 60, 3) := by decide +kernel
theorem dV_findSurvivors_12 : decode cV_findSurvivors 12 = .ok (.aload_n 0, 1) := by decide +kernel
theorem dV_findSurvivors_13 : decode cV_findSurvivors 13 = .ok (.getfield 9, 3) := by decide +kernel
theorem dV_findSurvivors_16 : decode cV_findSurvivors 16 = .ok (.iload_n 1, 1) := by decide +kernel
theorem dV_findSurvivors_17 : decode cV_findSurvivors 17 = .ok (.invokestatic 50, 3) := by decide +kernel
theorem dV_findSurvivors_20 : decode cV_findSurvivors 20 = .ok (.ifCond .eq 43, 3) := by decide +kernel
theorem dV_findSurvivors_23 : decode cV_findSurvivors 23 = .ok (.aload_n 0, 1) := by decide +kernel
theorem dV_findSurvivors_24 : decode cV_findSurvivors 24 = .ok (.getfield 29, 3) := by decide +kernel
theorem dV_findSurvivors_27 : decode cV_findSurvivors 27 = .ok (.iload_n 1, 1) := by decide +kernel
theorem dV_findSurvivors_28 : decode cV_findSurvivors 28 = .ok (.laload, 1) := by decide +kernel
theorem dV_findSurvivors_29 : decode cV_findSurvivors 29 = .ok (.aload_n 0, 1) := by decide +kernel
theorem dV_findSurvivors_30 : decode cV_findSurvivors 30 = .ok (.getfield 17, 3) := by decide +kernel
theorem dV_findSurvivors_33 : decode cV_findSurvivors 33 = .ok (.lcmp, 1) := by decide +kernel
theorem dV_findSurvivors_34 : decode cV_findSurvivors 34 = .ok (.ifCond .lt 29, 3) := by decide +kernel
theorem dV_findSurvivors_37 : decode cV_findSurvivors 37 = .ok (.aload_n 0, 1) := by decide +kernel
theorem dV_findSurvivors_38 : decode cV_findSurvivors 38 = .ok (.getfield 29, 3) := by decide +kernel
theorem dV_findSurvivors_41 : decode cV_findSurvivors 41 = .ok (.iload_n 1, 1) := by decide +kernel
theorem dV_findSurvivors_42 : decode cV_findSurvivors 42 = .ok (.laload, 1) := by decide +kernel
theorem dV_findSurvivors_43 : decode cV_findSurvivors 43 = .ok (.aload_n 0, 1) := by decide +kernel
theorem dV_findSurvivors_44 : decode cV_findSurvivors 44 = .ok (.getfield 23, 3) := by decide +kernel
theorem dV_findSurvivors_47 : decode cV_findSurvivors 47 = .ok (.lcmp, 1) := by decide +kernel
theorem dV_findSurvivors_48 : decode cV_findSurvivors 48 = .ok (.ifCond .gt 15, 3) := by decide +kernel
theorem dV_findSurvivors_51 : decode cV_findSurvivors 51 = .ok (.aload_n 0, 1) := by decide +kernel
theorem dV_findSurvivors_52 : decode cV_findSurvivors 52 = .ok (.dup, 1) := by decide +kernel
theorem dV_findSurvivors_53 : decode cV_findSurvivors 53 = .ok (.getfield 26, 3) := by decide +kernel
theorem dV_findSurvivors_56 : decode cV_findSurvivors 56 = .ok (.iconst 1, 1) := by decide +kernel
theorem dV_findSurvivors_57 : decode cV_findSurvivors 57 = .ok (.iload_n 1, 1) := by decide +kernel
theorem dV_findSurvivors_58 : decode cV_findSurvivors 58 = .ok (.ishl, 1) := by decide +kernel
theorem dV_findSurvivors_59 : decode cV_findSurvivors 59 = .ok (.ior, 1) := by decide +kernel
theorem dV_findSurvivors_60 : decode cV_findSurvivors 60 = .ok (.putfield 26, 3) := by decide +kernel
theorem dV_findSurvivors_63 : decode cV_findSurvivors 63 = .ok (.iinc 1 1, 3) := by decide +kernel
theorem dV_findSurvivors_66 : decode cV_findSurvivors 66 = .ok (.goto (-59), 3) := by decide +kernel
theorem dV_findSurvivors_69 : decode cV_findSurvivors 69 = .ok (.aload_n 0, 1) := by decide +kernel
theorem dV_findSurvivors_70 : decode cV_findSurvivors 70 = .ok (.getfield 26, 3) := by decide +kernel
theorem dV_findSurvivors_73 : decode cV_findSurvivors 73 = .ok (.invokestatic 64, 3) := by decide +kernel
theorem dV_findSurvivors_76 : decode cV_findSurvivors 76 = .ok (.istore_n 1, 1) := by decide +kernel
theorem dV_findSurvivors_77 : decode cV_findSurvivors 77 = .ok (.iload_n 1, 1) := by decide +kernel
theorem dV_findSurvivors_78 : decode cV_findSurvivors 78 = .ok (.iconst 3, 1) := by decide +kernel
theorem dV_findSurvivors_79 : decode cV_findSurvivors 79 = .ok (.if_icmp .le 26, 3) := by decide +kernel
theorem dV_findSurvivors_82 : decode cV_findSurvivors 82 = .ok (.aload_n 0, 1) := by decide +kernel
theorem dV_findSurvivors_83 : decode cV_findSurvivors 83 = .ok (.dup, 1) := by decide +kernel
theorem dV_findSurvivors_84 : decode cV_findSurvivors 84 = .ok (.getfield 26, 3) := by decide +kernel
theorem dV_findSurvivors_87 : decode cV_findSurvivors 87 = .ok (.iconst 1, 1) := by decide +kernel
theorem dV_findSurvivors_88 : decode cV_findSurvivors 88 = .ok (.aload_n 0, 1) := by decide +kernel
theorem dV_findSurvivors_89 : decode cV_findSurvivors 89 = .ok (.invokevirtual 107, 3) := by decide +kernel
theorem dV_findSurvivors_92 : decode cV_findSurvivors 92 = .ok (.ishl, 1) := by decide +kernel
theorem dV_findSurvivors_93 : decode cV_findSurvivors 93 = .ok (.iconst (-1), 1) := by decide +kernel
theorem dV_findSurvivors_94 : decode cV_findSurvivors 94 = .ok (.ixor, 1) := by decide +kernel
theorem dV_findSurvivors_95 : decode cV_findSurvivors 95 = .ok (.iand, 1) := by decide +kernel
theorem dV_findSurvivors_96 : decode cV_findSurvivors 96 = .ok (.putfield 26, 3) := by decide +kernel
theorem dV_findSurvivors_99 : decode cV_findSurvivors 99 = .ok (.iinc 1 (-1), 3) := by decide +kernel
theorem dV_findSurvivors_102 : decode cV_findSurvivors 102 = .ok (.goto (-25), 3) := by decide +kernel
theorem dV_findSurvivors_105 : decode cV_findSurvivors 105 = .ok (.return_, 1) := by decide +kernel
theorem dV_findFarthest_0 : decode cV_findFarthest 0 = .ok (.iconst 0, 1) := by decide +kernel
theorem dV_findFarthest_1 : decode cV_findFarthest 1 = .ok (.istore_n 1, 1) := by decide +kernel
theorem dV_findFarthest_2 : decode cV_findFarthest 2 = .ok (.ldc2_w 111, 3) := by decide +kernel
theorem dV_findFarthest_5 : decode cV_findFarthest 5 = .ok (.lstore_n 2, 1) := by decide +kernel
theorem dV_findFarthest_6 : decode cV_findFarthest 6 = .ok (.iconst 0, 1) := by decide +kernel
theorem dV_findFarthest_7 : decode cV_findFarthest 7 = .ok (.istore 4, 2) := by decide +kernel
theorem dV_findFarthest_9 : decode cV_findFarthest 9 = .ok (.iload 4, 2) := by decide +kernel
theorem dV_findFarthest_11 : decode cV_findFarthest 11 = .ok (.iconst 5, 1) := by decide +kernel
theorem dV_findFarthest_12 : decode cV_findFarthest 12 = .ok (.if_icmp .ge 42, 3) := by decide +kernel
theorem dV_findFarthest_15 : decode cV_findFarthest 15 = .ok (.aload_n 0, 1) := by decide +kernel
theorem dV_findFarthest_16 : decode cV_findFarthest 16 = .ok (.getfield 26, 3) := by decide +kernel
theorem dV_findFarthest_19 : decode cV_findFarthest 19 = .ok (.iload 4, 2) := by decide +kernel
theorem dV_findFarthest_21 : decode cV_findFarthest 21 = .ok (.invokestatic 50, 3) := by decide +kernel
theorem dV_findFarthest_24 : decode cV_findFarthest 24 = .ok (.ifCond .eq 24, 3) := by decide +kernel
theorem dV_findFarthest_27 : decode cV_findFarthest 27 = .ok (.aload_n 0, 1) := by decide +kernel
theorem dV_findFarthest_28 : decode cV_findFarthest 28 = .ok (.iload 4, 2) := by decide +kernel
theorem dV_findFarthest_30 : decode cV_findFarthest 30 = .ok (.invokevirtual 113, 3) := by decide +kernel
theorem dV_findFarthest_33 : decode cV_findFarthest 33 = .ok (.lload_n 2, 1) := by decide +kernel
theorem dV_findFarthest_34 : decode cV_findFarthest 34 = .ok (.lcmp, 1) := by decide +kernel
theorem dV_findFarthest_35 : decode cV_findFarthest 35 = .ok (.ifCond .lt 13, 3) := by decide +kernel
theorem dV_findFarthest_38 : decode cV_findFarthest 38 = .ok (.iload 4, 2) := by decide +kernel
theorem dV_findFarthest_40 : decode cV_findFarthest 40 = .ok (.istore_n 1, 1) := by decide +kernel
theorem dV_findFarthest_41 : decode cV_findFarthest 41 = .ok (.aload_n 0, 1) := by decide +kernel
theorem dV_findFarthest_42 : decode cV_findFarthest 42 = .ok (.iload 4, 2) := by decide +kernel
theorem dV_findFarthest_44 : decode cV_findFarthest 44 = .ok (.invokevirtual 113, 3) := by decide +kernel
theorem dV_findFarthest_47 : decode cV_findFarthest 47 = .ok (.lstore_n 2, 1) := by decide +kernel
theorem dV_findFarthest_48 : decode cV_findFarthest 48 = .ok (.iinc 4 1, 3) := by decide +kernel
theorem dV_findFarthest_51 : decode cV_findFarthest 51 = .ok (.goto (-42), 3) := by decide +kernel
theorem dV_findFarthest_54 : decode cV_findFarthest 54 = .ok (.iload_n 1, 1) := by decide +kernel
theorem dV_findFarthest_55 : decode cV_findFarthest 55 = .ok (.ireturn, 1) := by decide +kernel
