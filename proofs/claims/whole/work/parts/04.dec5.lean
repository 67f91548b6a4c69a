theorem dM_jitterOf_0 : decode cM_jitterOf 0 = .ok (.aload_n 0, 1) := by decide +kernel
theorem dM_jitterOf_1 : decode cM_jitterOf 1 = .ok (.getfield 42, 3) := by decide +kernel
theorem dM_jitterOf_4 : decode cM_jitterOf 4 = .ok (.aload_n 0, 1) := by decide +kernel
theorem dM_jitterOf_5 : decode cM_jitterOf 5 = .ok (.iload_n 1, 1) := by decide +kernel
theorem dM_jitterOf_6 : decode cM_jitterOf 6 = .ok (.invokevirtual 109, 3) := by decide +kernel
theorem dM_jitterOf_9 : decode cM_jitterOf 9 = .ok (.laload, 1) := by decide +kernel
theorem dM_jitterOf_10 : decode cM_jitterOf 10 = .ok (.lstore_n 2, 1) := by decide +kernel
theorem dM_jitterOf_11 : decode cM_jitterOf 11 = .ok (.lconst 0, 1) := by decide +kernel
theorem dM_jitterOf_12 : decode cM_jitterOf 12 = .ok (.lstore 4, 2) := by decide +kernel
theorem dM_jitterOf_14 : decode cM_jitterOf 14 = .ok (.bipush 8, 2) := by decide +kernel
theorem dM_jitterOf_16 : decode cM_jitterOf 16 = .ok (.iload_n 1, 1) := by decide +kernel
theorem dM_jitterOf_17 : decode cM_jitterOf 17 = .ok (.imul, 1) := by decide +kernel
theorem dM_jitterOf_18 : decode cM_jitterOf 18 = .ok (.istore 6, 2) := by decide +kernel
theorem dM_jitterOf_20 : decode cM_jitterOf 20 = .ok (.iload 6, 2) := by decide +kernel
theorem dM_jitterOf_22 : decode cM_jitterOf 22 = .ok (.bipush 8, 2) := by decide +kernel
theorem dM_jitterOf_24 : decode cM_jitterOf 24 = .ok (.iload_n 1, 1) := by decide +kernel
theorem dM_jitterOf_25 : decode cM_jitterOf 25 = .ok (.imul, 1) := by decide +kernel
theorem dM_jitterOf_26 : decode cM_jitterOf 26 = .ok (.aload_n 0, 1) := by decide +kernel
theorem dM_jitterOf_27 : decode cM_jitterOf 27 = .ok (.getfield 39, 3) := by decide +kernel
theorem dM_jitterOf_30 : decode cM_jitterOf 30 = .ok (.iload_n 1, 1) := by decide +kernel
theorem dM_jitterOf_31 : decode cM_jitterOf 31 = .ok (.iaload, 1) := by decide +kernel
theorem dM_jitterOf_32 : decode cM_jitterOf 32 = .ok (.iadd, 1) := by decide +kernel
theorem dM_jitterOf_33 : decode cM_jitterOf 33 = .ok (.if_icmp .ge 40, 3) := by decide +kernel
theorem dM_jitterOf_36 : decode cM_jitterOf 36 = .ok (.aload_n 0, 1) := by decide +kernel
theorem dM_jitterOf_37 : decode cM_jitterOf 37 = .ok (.getfield 42, 3) := by decide +kernel
theorem dM_jitterOf_40 : decode cM_jitterOf 40 = .ok (.iload 6, 2) := by decide +kernel
theorem dM_jitterOf_42 : decode cM_jitterOf 42 = .ok (.laload, 1) := by decide +kernel
theorem dM_jitterOf_43 : decode cM_jitterOf 43 = .ok (.lload_n 2, 1) := by decide +kernel
theorem dM_jitterOf_44 : decode cM_jitterOf 44 = .ok (.lsub, 1) := by decide +kernel
theorem dM_jitterOf_45 : decode cM_jitterOf 45 = .ok (.invokestatic 112, 3) := by decide +kernel
theorem dM_jitterOf_48 : decode cM_jitterOf 48 = .ok (.lstore 7, 2) := by decide +kernel
theorem dM_jitterOf_50 : decode cM_jitterOf 50 = .ok (.lload 7, 2) := by decide +kernel
theorem dM_jitterOf_52 : decode cM_jitterOf 52 = .ok (.lload 4, 2) := by decide +kernel
theorem dM_jitterOf_54 : decode cM_jitterOf 54 = .ok (.lcmp, 1) := by decide +kernel
theorem dM_jitterOf_55 : decode cM_jitterOf 55 = .ok (.ifCond .le 8, 3) := by decide +kernel
theorem dM_jitterOf_58 : decode cM_jitterOf 58 = .ok (.lload 7, 2) := by decide +kernel
theorem dM_jitterOf_60 : decode cM_jitterOf 60 = .ok (.goto 5, 3) := by decide +kernel
theorem dM_jitterOf_63 : decode cM_jitterOf 63 = .ok (.lload 4, 2) := by decide +kernel
theorem dM_jitterOf_65 : decode cM_jitterOf 65 = .ok (.lstore 4, 2) := by decide +kernel
theorem dM_jitterOf_67 : decode cM_jitterOf 67 = .ok (.iinc 6 1, 3) := by decide +kernel
theorem dM_jitterOf_70 : decode cM_jitterOf 70 = .ok (.goto (-50), 3) := by decide +kernel
theorem dM_jitterOf_73 : decode cM_jitterOf 73 = .ok (.lload 4, 2) := by decide +kernel
theorem dM_jitterOf_75 : decode cM_jitterOf 75 = .ok (.lreturn, 1) := by decide +kernel
theorem dM_size_0 : decode cM_size 0 = .ok (.lload_n 0, 1) := by decide +kernel
theorem dM_size_1 : decode cM_size 1 = .ok (.lconst 0, 1) := by decide +kernel
theorem dM_size_2 : decode cM_size 2 = .ok (.lcmp, 1) := by decide +kernel
theorem dM_size_3 : decode cM_size 3 = .ok (.ifCond .ge 8, 3) := by decide +kernel
theorem dM_size_6 : decode cM_size 6 = .ok (.lload_n 0, 1) := by decide +kernel
theorem dM_size_7 : decode cM_size 7 = .ok (.lneg, 1) := by decide +kernel
theorem dM_size_8 : decode cM_size 8 = .ok (.goto 4, 3) := by decide +kernel
theorem dM_size_11 : decode cM_size 11 = .ok (.lload_n 0, 1) := by decide +kernel
theorem dM_size_12 : decode cM_size 12 = .ok (.lreturn, 1) := by decide +kernel
theorem dM_distance_0 : decode cM_distance 0 = .ok (.aload_n 0, 1) := by decide +kernel
theorem dM_distance_1 : decode cM_distance 1 = .ok (.iload_n 1, 1) := by decide +kernel
theorem dM_distance_2 : decode cM_distance 2 = .ok (.invokevirtual 119, 3) := by decide +kernel
theorem dM_distance_5 : decode cM_distance 5 = .ok (.ifCond .eq 11, 3) := by decide +kernel
theorem dM_distance_8 : decode cM_distance 8 = .ok (.aload_n 0, 1) := by decide +kernel
theorem dM_distance_9 : decode cM_distance 9 = .ok (.iload_n 1, 1) := by decide +kernel
theorem dM_distance_10 : decode cM_distance 10 = .ok (.invokevirtual 125, 3) := by decide +kernel
theorem dM_distance_13 : decode cM_distance 13 = .ok (.goto 4, 3) := by decide +kernel
theorem dM_distance_16 : decode cM_distance 16 = .ok (.lconst 0, 1) := by decide +kernel
theorem dM_distance_17 : decode cM_distance 17 = .ok (.lreturn, 1) := by decide +kernel
theorem dM_distanceOf_0 : decode cM_distanceOf 0 = .ok (.aload_n 0, 1) := by decide +kernel
theorem dM_distanceOf_1 : decode cM_distanceOf 1 = .ok (.iload_n 1, 1) := by decide +kernel
theorem dM_distanceOf_2 : decode cM_distanceOf 2 = .ok (.invokevirtual 109, 3) := by decide +kernel
theorem dM_distanceOf_5 : decode cM_distanceOf 5 = .ok (.istore_n 2, 1) := by decide +kernel
theorem dM_distanceOf_6 : decode cM_distanceOf 6 = .ok (.aload_n 0, 1) := by decide +kernel
theorem dM_distanceOf_7 : decode cM_distanceOf 7 = .ok (.getfield 33, 3) := by decide +kernel
theorem dM_distanceOf_10 : decode cM_distanceOf 10 = .ok (.iload_n 1, 1) := by decide +kernel
theorem dM_distanceOf_11 : decode cM_distanceOf 11 = .ok (.laload, 1) := by decide +kernel
theorem dM_distanceOf_12 : decode cM_distanceOf 12 = .ok (.ldc2_w 103, 3) := by decide +kernel
theorem dM_distanceOf_15 : decode cM_distanceOf 15 = .ok (.ldiv, 1) := by decide +kernel
theorem dM_distanceOf_16 : decode cM_distanceOf 16 = .ok (.aload_n 0, 1) := by decide +kernel
theorem dM_distanceOf_17 : decode cM_distanceOf 17 = .ok (.getfield 45, 3) := by decide +kernel
theorem dM_distanceOf_20 : decode cM_distanceOf 20 = .ok (.iload_n 2, 1) := by decide +kernel
theorem dM_distanceOf_21 : decode cM_distanceOf 21 = .ok (.laload, 1) := by decide +kernel
theorem dM_distanceOf_22 : decode cM_distanceOf 22 = .ok (.ldc2_w 103, 3) := by decide +kernel
theorem dM_distanceOf_25 : decode cM_distanceOf 25 = .ok (.ldiv, 1) := by decide +kernel
theorem dM_distanceOf_26 : decode cM_distanceOf 26 = .ok (.ladd, 1) := by decide +kernel
theorem dM_distanceOf_27 : decode cM_distanceOf 27 = .ok (.aload_n 0, 1) := by decide +kernel
theorem dM_distanceOf_28 : decode cM_distanceOf 28 = .ok (.getfield 36, 3) := by decide +kernel
theorem dM_distanceOf_31 : decode cM_distanceOf 31 = .ok (.iload_n 1, 1) := by decide +kernel
theorem dM_distanceOf_32 : decode cM_distanceOf 32 = .ok (.laload, 1) := by decide +kernel
theorem dM_distanceOf_33 : decode cM_distanceOf 33 = .ok (.ladd, 1) := by decide +kernel
theorem dM_distanceOf_34 : decode cM_distanceOf 34 = .ok (.aload_n 0, 1) := by decide +kernel
theorem dM_distanceOf_35 : decode cM_distanceOf 35 = .ok (.iload_n 2, 1) := by decide +kernel
theorem dM_distanceOf_36 : decode cM_distanceOf 36 = .ok (.invokevirtual 105, 3) := by decide +kernel
theorem dM_distanceOf_39 : decode cM_distanceOf 39 = .ok (.ladd, 1) := by decide +kernel
theorem dM_distanceOf_40 : decode cM_distanceOf 40 = .ok (.aload_n 0, 1) := by decide +kernel
theorem dM_distanceOf_41 : decode cM_distanceOf 41 = .ok (.iload_n 1, 1) := by decide +kernel
theorem dM_distanceOf_42 : decode cM_distanceOf 42 = .ok (.invokevirtual 116, 3) := by decide +kernel
theorem dM_distanceOf_45 : decode cM_distanceOf 45 = .ok (.ladd, 1) := by decide +kernel
theorem dM_distanceOf_46 : decode cM_distanceOf 46 = .ok (.lreturn, 1) := by decide +kernel
theorem dM_candidates_0 : decode cM_candidates 0 = .ok (.aload_n 0, 1) := by decide +kernel
theorem dM_candidates_1 : decode cM_candidates 1 = .ok (.iconst 0, 1) := by decide +kernel
theorem dM_candidates_2 : decode cM_candidates 2 = .ok (.putfield 54, 3) := by decide +kernel
theorem dM_candidates_5 : decode cM_candidates 5 = .ok (.iconst 0, 1) := by decide +kernel
theorem dM_candidates_6 : decode cM_candidates 6 = .ok (.istore_n 1, 1) := by decide +kernel
theorem dM_candidates_7 : decode cM_candidates 7 = .ok (.iconst 0, 1) := by decide +kernel
theorem dM_candidates_8 : decode cM_candidates 8 = .ok (.istore_n 2, 1) := by decide +kernel
theorem dM_candidates_9 : decode cM_candidates 9 = .ok (.iload_n 2, 1) := by decide +kernel
theorem dM_candidates_10 : decode cM_candidates 10 = .ok (.iconst 5, 1) := by decide +kernel
theorem dM_candidates_11 : decode cM_candidates 11 = .ok (.if_icmp .ge 27, 3) := by decide +kernel
theorem dM_candidates_14 : decode cM_candidates 14 = .ok (.aload_n 0, 1) := by decide +kernel
theorem dM_candidates_15 : decode cM_candidates 15 = .ok (.iload_n 2, 1) := by decide +kernel
theorem dM_candidates_16 : decode cM_candidates 16 = .ok (.invokevirtual 130, 3) := by decide +kernel
theorem dM_candidates_19 : decode cM_candidates 19 = .ok (.ifCond .eq 11, 3) := by decide +kernel
theorem dM_candidates_22 : decode cM_candidates 22 = .ok (.iload_n 1, 1) := by decide +kernel
theorem dM_candidates_23 : decode cM_candidates 23 = .ok (.iconst 1, 1) := by decide +kernel
theorem dM_candidates_24 : decode cM_candidates 24 = .ok (.iload_n 2, 1) := by decide +kernel
theorem dM_candidates_25 : decode cM_candidates 25 = .ok (.ishl, 1) := by decide +kernel
theorem dM_candidates_26 : decode cM_candidates 26 = .ok (.iadd, 1) := by decide +kernel
theorem dM_candidates_27 : decode cM_candidates 27 = .ok (.goto 4, 3) := by decide +kernel
theorem dM_candidates_30 : decode cM_candidates 30 = .ok (.iload_n 1, 1) := by decide +kernel
theorem dM_candidates_31 : decode cM_candidates 31 = .ok (.istore_n 1, 1) := by decide +kernel
theorem dM_candidates_32 : decode cM_candidates 32 = .ok (.iinc 2 1, 3) := by decide +kernel
theorem dM_candidates_35 : decode cM_candidates 35 = .ok (.goto (-26), 3) := by decide +kernel
theorem dM_candidates_38 : decode cM_candidates 38 = .ok (.iload_n 1, 1) := by decide +kernel
theorem dM_candidates_39 : decode cM_candidates 39 = .ok (.ireturn, 1) := by decide +kernel
theorem dM_isCandidate_0 : decode cM_isCandidate 0 = .ok (.aload_n 0, 1) := by decide +kernel
theorem dM_isCandidate_1 : decode cM_isCandidate 1 = .ok (.getfield 13, 3) := by decide +kernel
theorem dM_isCandidate_4 : decode cM_isCandidate 4 = .ok (.iload_n 1, 1) := by decide +kernel
theorem dM_isCandidate_5 : decode cM_isCandidate 5 = .ok (.baload, 1) := by decide +kernel
theorem dM_isCandidate_6 : decode cM_isCandidate 6 = .ok (.ifCond .ne 37, 3) := by decide +kernel
theorem dM_isCandidate_9 : decode cM_isCandidate 9 = .ok (.aload_n 0, 1) := by decide +kernel
theorem dM_isCandidate_10 : decode cM_isCandidate 10 = .ok (.getfield 17, 3) := by decide +kernel
theorem dM_isCandidate_13 : decode cM_isCandidate 13 = .ok (.iload_n 1, 1) := by decide +kernel
theorem dM_isCandidate_14 : decode cM_isCandidate 14 = .ok (.iaload, 1) := by decide +kernel
theorem dM_isCandidate_15 : decode cM_isCandidate 15 = .ok (.ifCond .eq 28, 3) := by decide +kernel
theorem dM_isCandidate_18 : decode cM_isCandidate 18 = .ok (.aload_n 0, 1) := by decide +kernel
theorem dM_isCandidate_19 : decode cM_isCandidate 19 = .ok (.getfield 39, 3) := by decide +kernel
theorem dM_isCandidate_22 : decode cM_isCandidate 22 = .ok (.iload_n 1, 1) := by decide +kernel
theorem dM_isCandidate_23 : decode cM_isCandidate 23 = .ok (.iaload, 1) := by decide +kernel
theorem dM_isCandidate_24 : decode cM_isCandidate 24 = .ok (.ifCond .le 19, 3) := by decide +kernel
theorem dM_isCandidate_27 : decode cM_isCandidate 27 = .ok (.aload_n 0, 1) := by decide +kernel
theorem dM_isCandidate_28 : decode cM_isCandidate 28 = .ok (.iload_n 1, 1) := by decide +kernel
theorem dM_isCandidate_29 : decode cM_isCandidate 29 = .ok (.invokevirtual 125, 3) := by decide +kernel
theorem dM_isCandidate_32 : decode cM_isCandidate 32 = .ok (.ldc2_w 128, 3) := by decide +kernel
theorem dM_isCandidate_35 : decode cM_isCandidate 35 = .ok (.lcmp, 1) := by decide +kernel
theorem dM_isCandidate_36 : decode cM_isCandidate 36 = .ok (.ifCond .ge 7, 3) := by decide +kernel
theorem dM_isCandidate_39 : decode cM_isCandidate 39 = .ok (.iconst 1, 1) := by decide +kernel
theorem dM_isCandidate_40 : decode cM_isCandidate 40 = .ok (.goto 4, 3) := by decide +kernel
theorem dM_isCandidate_43 : decode cM_isCandidate 43 = .ok (.iconst 0, 1) := by decide +kernel
theorem dM_isCandidate_44 : decode cM_isCandidate 44 = .ok (.ireturn, 1) := by decide +kernel
theorem dM_low_0 : decode cM_low 0 = .ok (.aload_n 0, 1) := by decide +kernel
theorem dM_low_1 : decode cM_low 1 = .ok (.aload_n 0, 1) := by decide +kernel
theorem dM_low_2 : decode cM_low 2 = .ok (.invokevirtual 143, 3) := by decide +kernel
theorem dM_low_5 : decode cM_low 5 = .ok (.ifCond .eq 7, 3) := by decide +kernel
theorem dM_low_8 : decode cM_low 8 = .ok (.iconst 0, 1) := by decide +kernel
theorem dM_low_9 : decode cM_low 9 = .ok (.goto 4, 3) := by decide +kernel
theorem dM_low_12 : decode cM_low 12 = .ok (.iconst 1, 1) := by decide +kernel
theorem dM_low_13 : decode cM_low 13 = .ok (.putfield 54, 3) := by decide +kernel
theorem dM_low_16 : decode cM_low 16 = .ok (.aload_n 0, 1) := by decide +kernel
theorem dM_low_17 : decode cM_low 17 = .ok (.getfield 54, 3) := by decide +kernel
theorem dM_low_20 : decode cM_low 20 = .ok (.ifCond .le 7, 3) := by decide +kernel
theorem dM_low_23 : decode cM_low 23 = .ok (.lconst 0, 1) := by decide +kernel
theorem dM_low_24 : decode cM_low 24 = .ok (.goto 7, 3) := by decide +kernel
theorem dM_low_27 : decode cM_low 27 = .ok (.aload_n 0, 1) := by decide +kernel
theorem dM_low_28 : decode cM_low 28 = .ok (.getfield 137, 3) := by decide +kernel
theorem dM_low_31 : decode cM_low 31 = .ok (.lreturn, 1) := by decide +kernel
theorem dM_majority_0 : decode cM_majority 0 = .ok (.iconst 0, 1) := by decide +kernel
theorem dM_majority_1 : decode cM_majority 1 = .ok (.istore_n 1, 1) := by decide +kernel
theorem dM_majority_2 : decode cM_majority 2 = .ok (.iconst 0, 1) := by decide +kernel
theorem dM_majority_3 : decode cM_majority 3 = .ok (.istore_n 2, 1) := by decide +kernel
theorem dM_majority_4 : decode cM_majority 4 = .ok (.iload_n 2, 1) := by decide +kernel
theorem dM_majority_5 : decode cM_majority 5 = .ok (.iconst 5, 1) := by decide +kernel
theorem dM_majority_6 : decode cM_majority 6 = .ok (.if_icmp .ge 167, 3) := by decide +kernel
theorem dM_majority_9 : decode cM_majority 9 = .ok (.aload_n 0, 1) := by decide +kernel
theorem dM_majority_10 : decode cM_majority 10 = .ok (.iload_n 2, 1) := by decide +kernel
theorem dM_majority_11 : decode cM_majority 11 = .ok (.invokevirtual 130, 3) := by decide +kernel
theorem dM_majority_14 : decode cM_majority 14 = .ok (.ifCond .eq 153, 3) := by decide +kernel
theorem dM_majority_17 : decode cM_majority 17 = .ok (.aload_n 0, 1) := by decide +kernel
theorem dM_majority_18 : decode cM_majority 18 = .ok (.iload_n 2, 1) := by decide +kernel
theorem dM_majority_19 : decode cM_majority 19 = .ok (.invokevirtual 122, 3) := by decide +kernel
theorem dM_majority_22 : decode cM_majority 22 = .ok (.aload_n 0, 1) := by decide +kernel
theorem dM_majority_23 : decode cM_majority 23 = .ok (.iload_n 2, 1) := by decide +kernel
theorem dM_majority_24 : decode cM_majority 24 = .ok (.invokevirtual 125, 3) := by decide +kernel
theorem dM_majority_27 : decode cM_majority 27 = .ok (.lsub, 1) := by decide +kernel
theorem dM_majority_28 : decode cM_majority 28 = .ok (.lstore_n 3, 1) := by decide +kernel
theorem dM_majority_29 : decode cM_majority 29 = .ok (.aload_n 0, 1) := by decide +kernel
theorem dM_majority_30 : decode cM_majority 30 = .ok (.iload_n 2, 1) := by decide +kernel
theorem dM_majority_31 : decode cM_majority 31 = .ok (.invokevirtual 122, 3) := by decide +kernel
theorem dM_majority_34 : decode cM_majority 34 = .ok (.aload_n 0, 1) := by decide +kernel
theorem dM_majority_35 : decode cM_majority 35 = .ok (.iload_n 2, 1) := by decide +kernel
theorem dM_majority_36 : decode cM_majority 36 = .ok (.invokevirtual 125, 3) := by decide +kernel
theorem dM_majority_39 : decode cM_majority 39 = .ok (.ladd, 1) := by decide +kernel
theorem dM_majority_40 : decode cM_majority 40 = .ok (.lstore 5, 2) := by decide +kernel
theorem dM_majority_42 : decode cM_majority 42 = .ok (.aload_n 0, 1) := by decide +kernel
theorem dM_majority_43 : decode cM_majority 43 = .ok (.lload_n 3, 1) := by decide +kernel
theorem dM_majority_44 : decode cM_majority 44 = .ok (.invokevirtual 133, 3) := by decide +kernel
theorem dM_majority_47 : decode cM_majority 47 = .ok (.ifCond .eq 55, 3) := by decide +kernel
theorem dM_majority_50 : decode cM_majority 50 = .ok (.aload_n 0, 1) := by decide +kernel
theorem dM_majority_51 : decode cM_majority 51 = .ok (.iload_n 1, 1) := by decide +kernel
theorem dM_majority_52 : decode cM_majority 52 = .ok (.ifCond .eq 12, 3) := by decide +kernel
theorem dM_majority_55 : decode cM_majority 55 = .ok (.lload_n 3, 1) := by decide +kernel
theorem dM_majority_56 : decode cM_majority 56 = .ok (.aload_n 0, 1) := by decide +kernel
theorem dM_majority_57 : decode cM_majority 57 = .ok (.getfield 137, 3) := by decide +kernel
theorem dM_majority_60 : decode cM_majority 60 = .ok (.lcmp, 1) := by decide +kernel
theorem dM_majority_61 : decode cM_majority 61 = .ok (.ifCond .ge 7, 3) := by decide +kernel
theorem dM_majority_64 : decode cM_majority 64 = .ok (.lload_n 3, 1) := by decide +kernel
theorem dM_majority_65 : decode cM_majority 65 = .ok (.goto 7, 3) := by decide +kernel
theorem dM_majority_68 : decode cM_majority 68 = .ok (.aload_n 0, 1) := by decide +kernel
theorem dM_majority_69 : decode cM_majority 69 = .ok (.getfield 137, 3) := by decide +kernel
theorem dM_majority_72 : decode cM_majority 72 = .ok (.putfield 137, 3) := by decide +kernel
theorem dM_majority_75 : decode cM_majority 75 = .ok (.aload_n 0, 1) := by decide +kernel
theorem dM_majority_76 : decode cM_majority 76 = .ok (.iload_n 1, 1) := by decide +kernel
theorem dM_majority_77 : decode cM_majority 77 = .ok (.ifCond .eq 12, 3) := by decide +kernel
theorem dM_majority_80 : decode cM_majority 80 = .ok (.lload_n 3, 1) := by decide +kernel
theorem dM_majority_81 : decode cM_majority 81 = .ok (.aload_n 0, 1) := by decide +kernel
theorem dM_majority_82 : decode cM_majority 82 = .ok (.getfield 140, 3) := by decide +kernel
theorem dM_majority_85 : decode cM_majority 85 = .ok (.lcmp, 1) := by decide +kernel
theorem dM_majority_86 : decode cM_majority 86 = .ok (.ifCond .le 7, 3) := by decide +kernel
theorem dM_majority_89 : decode cM_majority 89 = .ok (.lload_n 3, 1) := by decide +kernel
theorem dM_majority_90 : decode cM_majority 90 = .ok (.goto 7, 3) := by decide +kernel
theorem dM_majority_93 : decode cM_majority 93 = .ok (.aload_n 0, 1) := by decide +kernel
theorem dM_majority_94 : decode cM_majority 94 = .ok (.getfield 140, 3) := by decide +kernel
theorem dM_majority_97 : decode cM_majority 97 = .ok (.putfield 140, 3) := by decide +kernel
theorem dM_majority_100 : decode cM_majority 100 = .ok (.iconst 1, 1) := by decide +kernel
theorem dM_majority_101 : decode cM_majority 101 = .ok (.istore_n 1, 1) := by decide +kernel
theorem dM_majority_102 : decode cM_majority 102 = .ok (.aload_n 0, 1) := by decide +kernel
theorem dM_majority_103 : decode cM_majority 103 = .ok (.lload 5, 2) := by decide +kernel
theorem dM_majority_105 : decode cM_majority 105 = .ok (.invokevirtual 133, 3) := by decide +kernel
theorem dM_majority_108 : decode cM_majority 108 = .ok (.ifCond .eq 59, 3) := by decide +kernel
theorem dM_majority_111 : decode cM_majority 111 = .ok (.aload_n 0, 1) := by decide +kernel
theorem dM_majority_112 : decode cM_majority 112 = .ok (.iload_n 1, 1) := by decide +kernel
theorem dM_majority_113 : decode cM_majority 113 = .ok (.ifCond .eq 13, 3) := by decide +kernel
theorem dM_majority_116 : decode cM_majority 116 = .ok (.lload 5, 2) := by decide +kernel
theorem dM_majority_118 : decode cM_majority 118 = .ok (.aload_n 0, 1) := by decide +kernel
theorem dM_majority_119 : decode cM_majority 119 = .ok (.getfield 137, 3) := by decide +kernel
theorem dM_majority_122 : decode cM_majority 122 = .ok (.lcmp, 1) := by decide +kernel
theorem dM_majority_123 : decode cM_majority 123 = .ok (.ifCond .ge 8, 3) := by decide +kernel
theorem dM_majority_126 : decode cM_majority 126 = .ok (.lload 5, 2) := by decide +kernel
theorem dM_majority_128 : decode cM_majority 128 = .ok (.goto 7, 3) := by decide +kernel
theorem dM_majority_131 : decode cM_majority 131 = .ok (.aload_n 0, 1) := by decide +kernel
theorem dM_majority_132 : decode cM_majority 132 = .ok (.getfield 137, 3) := by decide +kernel
theorem dM_majority_135 : decode cM_majority 135 = .ok (.putfield 137, 3) := by decide +kernel
theorem dM_majority_138 : decode cM_majority 138 = .ok (.aload_n 0, 1) := by decide +kernel
theorem dM_majority_139 : decode cM_majority 139 = .ok (.iload_n 1, 1) := by decide +kernel
theorem dM_majority_140 : decode cM_majority 140 = .ok (.ifCond .eq 13, 3) := by decide +kernel
theorem dM_majority_143 : decode cM_majority 143 = .ok (.lload 5, 2) := by decide +kernel
theorem dM_majority_145 : decode cM_majority 145 = .ok (.aload_n 0, 1) := by decide +kernel
theorem dM_majority_146 : decode cM_majority 146 = .ok (.getfield 140, 3) := by decide +kernel
theorem dM_majority_149 : decode cM_majority 149 = .ok (.lcmp, 1) := by decide +kernel
theorem dM_majority_150 : decode cM_majority 150 = .ok (.ifCond .le 8, 3) := by decide +kernel
theorem dM_majority_153 : decode cM_majority 153 = .ok (.lload 5, 2) := by decide +kernel
theorem dM_majority_155 : decode cM_majority 155 = .ok (.goto 7, 3) := by decide +kernel
theorem dM_majority_158 : decode cM_majority 158 = .ok (.aload_n 0, 1) := by decide +kernel
theorem dM_majority_159 : decode cM_majority 159 = .ok (.getfield 140, 3) := by decide +kernel
theorem dM_majority_162 : decode cM_majority 162 = .ok (.putfield 140, 3) := by decide +kernel
theorem dM_majority_165 : decode cM_majority 165 = .ok (.iconst 1, 1) := by decide +kernel
theorem dM_majority_166 : decode cM_majority 166 = .ok (.istore_n 1, 1) := by decide +kernel
theorem dM_majority_167 : decode cM_majority 167 = .ok (.iinc 2 1, 3) := by decide +kernel
theorem dM_majority_170 : decode cM_majority 170 = .ok (.goto (-166), 3) := by decide +kernel
theorem dM_majority_173 : decode cM_majority 173 = .ok (.iload_n 1, 1) := by decide +kernel
theorem dM_majority_174 : decode cM_majority 174 = .ok (.ireturn, 1) := by decide +kernel
theorem dM_isCommon_0 : decode cM_isCommon 0 = .ok (.iconst 0, 1) := by decide +kernel
theorem dM_isCommon_1 : decode cM_isCommon 1 = .ok (.istore_n 3, 1) := by decide +kernel
theorem dM_isCommon_2 : decode cM_isCommon 2 = .ok (.iconst 0, 1) := by decide +kernel
theorem dM_isCommon_3 : decode cM_isCommon 3 = .ok (.istore 4, 2) := by decide +kernel
theorem dM_isCommon_5 : decode cM_isCommon 5 = .ok (.iconst 0, 1) := by decide +kernel
theorem dM_isCommon_6 : decode cM_isCommon 6 = .ok (.istore 5, 2) := by decide +kernel
theorem dM_isCommon_8 : decode cM_isCommon 8 = .ok (.iload 5, 2) := by decide +kernel
theorem dM_isCommon_10 : decode cM_isCommon 10 = .ok (.iconst 5, 1) := by decide +kernel
theorem dM_isCommon_11 : decode cM_isCommon 11 = .ok (.if_icmp .ge 52, 3) := by decide +kernel
theorem dM_isCommon_14 : decode cM_isCommon 14 = .ok (.aload_n 0, 1) := by decide +kernel
theorem dM_isCommon_15 : decode cM_isCommon 15 = .ok (.iload 5, 2) := by decide +kernel
theorem dM_isCommon_17 : decode cM_isCommon 17 = .ok (.invokevirtual 130, 3) := by decide +kernel
theorem dM_isCommon_20 : decode cM_isCommon 20 = .ok (.ifCond .eq 37, 3) := by decide +kernel
theorem dM_isCommon_23 : decode cM_isCommon 23 = .ok (.iinc 3 1, 3) := by decide +kernel
theorem dM_isCommon_26 : decode cM_isCommon 26 = .ok (.iload 4, 2) := by decide +kernel
theorem dM_isCommon_28 : decode cM_isCommon 28 = .ok (.lload_n 1, 1) := by decide +kernel
theorem dM_isCommon_29 : decode cM_isCommon 29 = .ok (.aload_n 0, 1) := by decide +kernel
theorem dM_isCommon_30 : decode cM_isCommon 30 = .ok (.iload 5, 2) := by decide +kernel
theorem dM_isCommon_32 : decode cM_isCommon 32 = .ok (.invokevirtual 122, 3) := by decide +kernel
theorem dM_isCommon_35 : decode cM_isCommon 35 = .ok (.lsub, 1) := by decide +kernel
theorem dM_isCommon_36 : decode cM_isCommon 36 = .ok (.invokestatic 112, 3) := by decide +kernel
theorem dM_isCommon_39 : decode cM_isCommon 39 = .ok (.aload_n 0, 1) := by decide +kernel
theorem dM_isCommon_40 : decode cM_isCommon 40 = .ok (.iload 5, 2) := by decide +kernel
theorem dM_isCommon_42 : decode cM_isCommon 42 = .ok (.invokevirtual 125, 3) := by decide +kernel
theorem dM_isCommon_45 : decode cM_isCommon 45 = .ok (.lcmp, 1) := by decide +kernel
theorem dM_isCommon_46 : decode cM_isCommon 46 = .ok (.ifCond .gt 7, 3) := by decide +kernel
theorem dM_isCommon_49 : decode cM_isCommon 49 = .ok (.iconst 1, 1) := by decide +kernel
theorem dM_isCommon_50 : decode cM_isCommon 50 = .ok (.goto 4, 3) := by decide +kernel
theorem dM_isCommon_53 : decode cM_isCommon 53 = .ok (.iconst 0, 1) := by decide +kernel
theorem dM_isCommon_54 : decode cM_isCommon 54 = .ok (.iadd, 1) := by decide +kernel
theorem dM_isCommon_55 : decode cM_isCommon 55 = .ok (.istore 4, 2) := by decide +kernel
theorem dM_isCommon_57 : decode cM_isCommon 57 = .ok (.iinc 5 1, 3) := by decide +kernel
theorem dM_isCommon_60 : decode cM_isCommon 60 = .ok (.goto (-52), 3) := by decide +kernel
theorem dM_isCommon_63 : decode cM_isCommon 63 = .ok (.iconst 2, 1) := by decide +kernel
theorem dM_isCommon_64 : decode cM_isCommon 64 = .ok (.iload 4, 2) := by decide +kernel
theorem dM_isCommon_66 : decode cM_isCommon 66 = .ok (.imul, 1) := by decide +kernel
theorem dM_isCommon_67 : decode cM_isCommon 67 = .ok (.iload_n 3, 1) := by decide +kernel
theorem dM_isCommon_68 : decode cM_isCommon 68 = .ok (.if_icmp .le 7, 3) := by decide +kernel
theorem dM_isCommon_71 : decode cM_isCommon 71 = .ok (.iconst 1, 1) := by decide +kernel
theorem dM_isCommon_72 : decode cM_isCommon 72 = .ok (.goto 4, 3) := by decide +kernel
theorem dM_isCommon_75 : decode cM_isCommon 75 = .ok (.iconst 0, 1) := by decide +kernel
theorem dM_isCommon_76 : decode cM_isCommon 76 = .ok (.ireturn, 1) := by decide +kernel
theorem dM_high_0 : decode cM_high 0 = .ok (.aload_n 0, 1) := by decide +kernel
theorem dM_high_1 : decode cM_high 1 = .ok (.aload_n 0, 1) := by decide +kernel
theorem dM_high_2 : decode cM_high 2 = .ok (.invokevirtual 143, 3) := by decide +kernel
theorem dM_high_5 : decode cM_high 5 = .ok (.ifCond .eq 7, 3) := by decide +kernel
theorem dM_high_8 : decode cM_high 8 = .ok (.iconst 0, 1) := by decide +kernel
theorem dM_high_9 : decode cM_high 9 = .ok (.goto 4, 3) := by decide +kernel
theorem dM_high_12 : decode cM_high 12 = .ok (.iconst 1, 1) := by decide +kernel
theorem dM_high_13 : decode cM_high 13 = .ok (.putfield 54, 3) := by decide +kernel
theorem dM_high_16 : decode cM_high 16 = .ok (.aload_n 0, 1) := by decide +kernel
theorem dM_high_17 : decode cM_high 17 = .ok (.getfield 54, 3) := by decide +kernel
theorem dM_high_20 : decode cM_high 20 = .ok (.ifCond .le 7, 3) := by decide +kernel
theorem dM_high_23 : decode cM_high 23 = .ok (.lconst 0, 1) := by decide +kernel
theorem dM_high_24 : decode cM_high 24 = .ok (.goto 7, 3) := by decide +kernel
theorem dM_high_27 : decode cM_high 27 = .ok (.aload_n 0, 1) := by decide +kernel
theorem dM_high_28 : decode cM_high 28 = .ok (.getfield 140, 3) := by decide +kernel
theorem dM_high_31 : decode cM_high 31 = .ok (.lreturn, 1) := by decide +kernel
theorem dM_survivors_0 : decode cM_survivors 0 = .ok (.aload_n 0, 1) := by decide +kernel
theorem dM_survivors_1 : decode cM_survivors 1 = .ok (.iconst 0, 1) := by decide +kernel
theorem dM_survivors_2 : decode cM_survivors 2 = .ok (.putfield 54, 3) := by decide +kernel
theorem dM_survivors_5 : decode cM_survivors 5 = .ok (.aload_n 0, 1) := by decide +kernel
theorem dM_survivors_6 : decode cM_survivors 6 = .ok (.invokevirtual 152, 3) := by decide +kernel
theorem dM_survivors_9 : decode cM_survivors 9 = .ok (.pop, 1) := by decide +kernel
theorem dM_survivors_10 : decode cM_survivors 10 = .ok (.iconst 0, 1) := by decide +kernel
theorem dM_survivors_11 : decode cM_survivors 11 = .ok (.istore_n 1, 1) := by decide +kernel
theorem dM_survivors_12 : decode cM_survivors 12 = .ok (.iconst 0, 1) := by decide +kernel
theorem dM_survivors_13 : decode cM_survivors 13 = .ok (.istore_n 2, 1) := by decide +kernel
theorem dM_survivors_14 : decode cM_survivors 14 = .ok (.iload_n 2, 1) := by decide +kernel
theorem dM_survivors_15 : decode cM_survivors 15 = .ok (.iconst 5, 1) := by decide +kernel
theorem dM_survivors_16 : decode cM_survivors 16 = .ok (.if_icmp .ge 28, 3) := by decide +kernel
theorem dM_survivors_19 : decode cM_survivors 19 = .ok (.aload_n 0, 1) := by decide +kernel
theorem dM_survivors_20 : decode cM_survivors 20 = .ok (.getfield 51, 3) := by decide +kernel
theorem dM_survivors_23 : decode cM_survivors 23 = .ok (.iload_n 2, 1) := by decide +kernel
theorem dM_survivors_24 : decode cM_survivors 24 = .ok (.baload, 1) := by decide +kernel
theorem dM_survivors_25 : decode cM_survivors 25 = .ok (.ifCond .eq 11, 3) := by decide +kernel
theorem dM_survivors_28 : decode cM_survivors 28 = .ok (.iload_n 1, 1) := by decide +kernel
theorem dM_survivors_29 : decode cM_survivors 29 = .ok (.iconst 1, 1) := by decide +kernel
theorem dM_survivors_30 : decode cM_survivors 30 = .ok (.iload_n 2, 1) := by decide +kernel
theorem dM_survivors_31 : decode cM_survivors 31 = .ok (.ishl, 1) := by decide +kernel
theorem dM_survivors_32 : decode cM_survivors 32 = .ok (.iadd, 1) := by decide +kernel
theorem dM_survivors_33 : decode cM_survivors 33 = .ok (.goto 4, 3) := by decide +kernel
theorem dM_survivors_36 : decode cM_survivors 36 = .ok (.iload_n 1, 1) := by decide +kernel
theorem dM_survivors_37 : decode cM_survivors 37 = .ok (.istore_n 1, 1) := by decide +kernel
theorem dM_survivors_38 : decode cM_survivors 38 = .ok (.iinc 2 1, 3) := by decide +kernel
theorem dM_survivors_41 : decode cM_survivors 41 = .ok (.goto (-27), 3) := by decide +kernel
theorem dM_survivors_44 : decode cM_survivors 44 = .ok (.iload_n 1, 1) := by decide +kernel
theorem dM_survivors_45 : decode cM_survivors 45 = .ok (.ireturn, 1) := by decide +kernel
theorem dM_survive_0 : decode cM_survive 0 = .ok (.iconst 0, 1) := by decide +kernel
theorem dM_survive_1 : decode cM_survive 1 = .ok (.istore_n 1, 1) := by decide +kernel
theorem dM_survive_2 : decode cM_survive 2 = .ok (.aload_n 0, 1) := by decide +kernel
theorem dM_survive_3 : decode cM_survive 3 = .ok (.invokevirtual 143, 3) := by decide +kernel
theorem dM_survive_6 : decode cM_survive 6 = .ok (.istore_n 2, 1) := by decide +kernel
theorem dM_survive_7 : decode cM_survive 7 = .ok (.iconst 0, 1) := by decide +kernel
theorem dM_survive_8 : decode cM_survive 8 = .ok (.istore_n 3, 1) := by decide +kernel
theorem dM_survive_9 : decode cM_survive 9 = .ok (.iload_n 3, 1) := by decide +kernel
theorem dM_survive_10 : decode cM_survive 10 = .ok (.iconst 5, 1) := by decide +kernel
theorem dM_survive_11 : decode cM_survive 11 = .ok (.if_icmp .ge 75, 3) := by decide +kernel
theorem dM_survive_14 : decode cM_survive 14 = .ok (.aload_n 0, 1) := by decide +kernel
theorem dM_survive_15 : decode cM_survive 15 = .ok (.getfield 51, 3) := by decide +kernel
theorem dM_survive_18 : decode cM_survive 18 = .ok (.iload_n 3, 1) := by decide +kernel
theorem dM_survive_19 : decode cM_survive 19 = .ok (.iload_n 2, 1) := by decide +kernel
theorem dM_survive_20 : decode cM_survive 20 = .ok (.ifCond .eq 41, 3) := by decide +kernel
theorem dM_survive_23 : decode cM_survive 23 = .ok (.aload_n 0, 1) := by decide +kernel
theorem dM_survive_24 : decode cM_survive 24 = .ok (.iload_n 3, 1) := by decide +kernel
theorem dM_survive_25 : decode cM_survive 25 = .ok (.invokevirtual 130, 3) := by decide +kernel
theorem dM_survive_28 : decode cM_survive 28 = .ok (.ifCond .eq 33, 3) := by decide +kernel
theorem dM_survive_31 : decode cM_survive 31 = .ok (.aload_n 0, 1) := by decide +kernel
theorem dM_survive_32 : decode cM_survive 32 = .ok (.iload_n 3, 1) := by decide +kernel
theorem dM_survive_33 : decode cM_survive 33 = .ok (.invokevirtual 122, 3) := by decide +kernel
theorem dM_survive_36 : decode cM_survive 36 = .ok (.aload_n 0, 1) := by decide +kernel
theorem dM_survive_37 : decode cM_survive 37 = .ok (.getfield 137, 3) := by decide +kernel
theorem dM_survive_40 : decode cM_survive 40 = .ok (.lcmp, 1) := by decide +kernel
theorem dM_survive_41 : decode cM_survive 41 = .ok (.ifCond .lt 20, 3) := by decide +kernel
theorem dM_survive_44 : decode cM_survive 44 = .ok (.aload_n 0, 1) := by decide +kernel
theorem dM_survive_45 : decode cM_survive 45 = .ok (.iload_n 3, 1) := by decide +kernel
theorem dM_survive_46 : decode cM_survive 46 = .ok (.invokevirtual 122, 3) := by decide +kernel
theorem dM_survive_49 : decode cM_survive 49 = .ok (.aload_n 0, 1) := by decide +kernel
theorem dM_survive_50 : decode cM_survive 50 = .ok (.getfield 140, 3) := by decide +kernel
theorem dM_survive_53 : decode cM_survive 53 = .ok (.lcmp, 1) := by decide +kernel
theorem dM_survive_54 : decode cM_survive 54 = .ok (.ifCond .gt 7, 3) := by decide +kernel
theorem dM_survive_57 : decode cM_survive 57 = .ok (.iconst 1, 1) := by decide +kernel
theorem dM_survive_58 : decode cM_survive 58 = .ok (.goto 4, 3) := by decide +kernel
theorem dM_survive_61 : decode cM_survive 61 = .ok (.iconst 0, 1) := by decide +kernel
theorem dM_survive_62 : decode cM_survive 62 = .ok (.bastore, 1) := by decide +kernel
theorem dM_survive_63 : decode cM_survive 63 = .ok (.iload_n 1, 1) := by decide +kernel
theorem dM_survive_64 : decode cM_survive 64 = .ok (.aload_n 0, 1) := by decide +kernel
theorem dM_survive_65 : decode cM_survive 65 = .ok (.getfield 51, 3) := by decide +kernel
theorem dM_survive_68 : decode cM_survive 68 = .ok (.iload_n 3, 1) := by decide +kernel
theorem dM_survive_69 : decode cM_survive 69 = .ok (.baload, 1) := by decide +kernel
theorem dM_survive_70 : decode cM_survive 70 = .ok (.ifCond .eq 7, 3) := by decide +kernel
theorem dM_survive_73 : decode cM_survive 73 = .ok (.iconst 1, 1) := by decide +kernel
theorem dM_survive_74 : decode cM_survive 74 = .ok (.goto 4, 3) := by decide +kernel
theorem dM_survive_77 : decode cM_survive 77 = .ok (.iconst 0, 1) := by decide +kernel
theorem dM_survive_78 : decode cM_survive 78 = .ok (.iadd, 1) := by decide +kernel
theorem dM_survive_79 : decode cM_survive 79 = .ok (.istore_n 1, 1) := by decide +kernel
theorem dM_survive_80 : decode cM_survive 80 = .ok (.iinc 3 1, 3) := by decide +kernel
theorem dM_survive_83 : decode cM_survive 83 = .ok (.goto (-74), 3) := by decide +kernel
theorem dM_survive_86 : decode cM_survive 86 = .ok (.iload_n 1, 1) := by decide +kernel
theorem dM_survive_87 : decode cM_survive 87 = .ok (.iconst 3, 1) := by decide +kernel
theorem dM_survive_88 : decode cM_survive 88 = .ok (.if_icmp .le 104, 3) := by decide +kernel
theorem dM_survive_91 : decode cM_survive 91 = .ok (.iconst (-1), 1) := by decide +kernel
theorem dM_survive_92 : decode cM_survive 92 = .ok (.istore_n 3, 1) := by decide +kernel
theorem dM_survive_93 : decode cM_survive 93 = .ok (.ldc2_w 147, 3) := by decide +kernel
theorem dM_survive_96 : decode cM_survive 96 = .ok (.lstore 4, 2) := by decide +kernel
theorem dM_survive_98 : decode cM_survive 98 = .ok (.iconst 0, 1) := by decide +kernel
theorem dM_survive_99 : decode cM_survive 99 = .ok (.istore 6, 2) := by decide +kernel
theorem dM_survive_101 : decode cM_survive 101 = .ok (.iload 6, 2) := by decide +kernel
theorem dM_survive_103 : decode cM_survive 103 = .ok (.iconst 5, 1) := by decide +kernel
theorem dM_survive_104 : decode cM_survive 104 = .ok (.if_icmp .ge 75, 3) := by decide +kernel
theorem dM_survive_107 : decode cM_survive 107 = .ok (.aload_n 0, 1) := by decide +kernel
theorem dM_survive_108 : decode cM_survive 108 = .ok (.getfield 51, 3) := by decide +kernel
theorem dM_survive_111 : decode cM_survive 111 = .ok (.iload 6, 2) := by decide +kernel
theorem dM_survive_113 : decode cM_survive 113 = .ok (.baload, 1) := by decide +kernel
theorem dM_survive_114 : decode cM_survive 114 = .ok (.ifCond .eq 12, 3) := by decide +kernel
theorem dM_survive_117 : decode cM_survive 117 = .ok (.aload_n 0, 1) := by decide +kernel
theorem dM_survive_118 : decode cM_survive 118 = .ok (.iload 6, 2) := by decide +kernel
theorem dM_survive_120 : decode cM_survive 120 = .ok (.invokevirtual 149, 3) := by decide +kernel
theorem dM_survive_123 : decode cM_survive 123 = .ok (.goto 6, 3) := by decide +kernel
theorem dM_survive_126 : decode cM_survive 126 = .ok (.ldc2_w 147, 3) := by decide +kernel
theorem dM_survive_129 : decode cM_survive 129 = .ok (.lstore 7, 2) := by decide +kernel
theorem dM_survive_131 : decode cM_survive 131 = .ok (.aload_n 0, 1) := by decide +kernel
theorem dM_survive_132 : decode cM_survive 132 = .ok (.getfield 51, 3) := by decide +kernel
theorem dM_survive_135 : decode cM_survive 135 = .ok (.iload 6, 2) := by decide +kernel
theorem dM_survive_137 : decode cM_survive 137 = .ok (.baload, 1) := by decide +kernel
theorem dM_survive_138 : decode cM_survive 138 = .ok (.ifCond .eq 16, 3) := by decide +kernel
theorem dM_survive_141 : decode cM_survive 141 = .ok (.lload 7, 2) := by decide +kernel
theorem dM_survive_143 : decode cM_survive 143 = .ok (.lload 4, 2) := by decide +kernel
theorem dM_survive_145 : decode cM_survive 145 = .ok (.lcmp, 1) := by decide +kernel
theorem dM_survive_146 : decode cM_survive 146 = .ok (.ifCond .lt 8, 3) := by decide +kernel
theorem dM_survive_149 : decode cM_survive 149 = .ok (.iload 6, 2) := by decide +kernel
theorem dM_survive_151 : decode cM_survive 151 = .ok (.goto 4, 3) := by decide +kernel
theorem dM_survive_154 : decode cM_survive 154 = .ok (.iload_n 3, 1) := by decide +kernel
theorem dM_survive_155 : decode cM_survive 155 = .ok (.istore_n 3, 1) := by decide +kernel
theorem dM_survive_156 : decode cM_survive 156 = .ok (.lload 7, 2) := by decide +kernel
theorem dM_survive_158 : decode cM_survive 158 = .ok (.lload 4, 2) := by decide +kernel
theorem dM_survive_160 : decode cM_survive 160 = .ok (.lcmp, 1) := by decide +kernel
theorem dM_survive_161 : decode cM_survive 161 = .ok (.ifCond .le 8, 3) := by decide +kernel
theorem dM_survive_164 : decode cM_survive 164 = .ok (.lload 7, 2) := by decide +kernel
theorem dM_survive_166 : decode cM_survive 166 = .ok (.goto 5, 3) := by decide +kernel
theorem dM_survive_169 : decode cM_survive 169 = .ok (.lload 4, 2) := by decide +kernel
theorem dM_survive_171 : decode cM_survive 171 = .ok (.lstore 4, 2) := by decide +kernel
theorem dM_survive_173 : decode cM_survive 173 = .ok (.iinc 6 1, 3) := by decide +kernel
theorem dM_survive_176 : decode cM_survive 176 = .ok (.goto (-75), 3) := by decide +kernel
theorem dM_survive_179 : decode cM_survive 179 = .ok (.aload_n 0, 1) := by decide +kernel
theorem dM_survive_180 : decode cM_survive 180 = .ok (.getfield 51, 3) := by decide +kernel
theorem dM_survive_183 : decode cM_survive 183 = .ok (.iload_n 3, 1) := by decide +kernel
theorem dM_survive_184 : decode cM_survive 184 = .ok (.iconst 0, 1) := by decide +kernel
theorem dM_survive_185 : decode cM_survive 185 = .ok (.bastore, 1) := by decide +kernel
theorem dM_survive_186 : decode cM_survive 186 = .ok (.iinc 1 (-1), 3) := by decide +kernel
theorem dM_survive_189 : decode cM_survive 189 = .ok (.goto (-103), 3) := by decide +kernel
theorem dM_survive_192 : decode cM_survive 192 = .ok (.iload_n 1, 1) := by decide +kernel
theorem dM_survive_193 : decode cM_survive 193 = .ok (.ireturn, 1) := by decide +kernel
theorem dM_spread_0 : decode cM_spread 0 = .ok (.lconst 0, 1) := by decide +kernel
theorem dM_spread_1 : decode cM_spread 1 = .ok (.lstore_n 2, 1) := by decide +kernel
theorem dM_spread_2 : decode cM_spread 2 = .ok (.iconst 0, 1) := by decide +kernel
theorem dM_spread_3 : decode cM_spread 3 = .ok (.istore 4, 2) := by decide +kernel
theorem dM_spread_5 : decode cM_spread 5 = .ok (.iload 4, 2) := by decide +kernel
theorem dM_spread_7 : decode cM_spread 7 = .ok (.iconst 5, 1) := by decide +kernel
theorem dM_spread_8 : decode cM_spread 8 = .ok (.if_icmp .ge 41, 3) := by decide +kernel
theorem dM_spread_11 : decode cM_spread 11 = .ok (.lload_n 2, 1) := by decide +kernel
theorem dM_spread_12 : decode cM_spread 12 = .ok (.aload_n 0, 1) := by decide +kernel
theorem dM_spread_13 : decode cM_spread 13 = .ok (.getfield 51, 3) := by decide +kernel
theorem dM_spread_16 : decode cM_spread 16 = .ok (.iload 4, 2) := by decide +kernel
theorem dM_spread_18 : decode cM_spread 18 = .ok (.baload, 1) := by decide +kernel
theorem dM_spread_19 : decode cM_spread 19 = .ok (.ifCond .eq 21, 3) := by decide +kernel
theorem dM_spread_22 : decode cM_spread 22 = .ok (.aload_n 0, 1) := by decide +kernel
theorem dM_spread_23 : decode cM_spread 23 = .ok (.iload_n 1, 1) := by decide +kernel
theorem dM_spread_24 : decode cM_spread 24 = .ok (.invokevirtual 122, 3) := by decide +kernel
theorem dM_spread_27 : decode cM_spread 27 = .ok (.aload_n 0, 1) := by decide +kernel
theorem dM_spread_28 : decode cM_spread 28 = .ok (.iload 4, 2) := by decide +kernel
theorem dM_spread_30 : decode cM_spread 30 = .ok (.invokevirtual 122, 3) := by decide +kernel
theorem dM_spread_33 : decode cM_spread 33 = .ok (.lsub, 1) := by decide +kernel
theorem dM_spread_34 : decode cM_spread 34 = .ok (.invokestatic 112, 3) := by decide +kernel
theorem dM_spread_37 : decode cM_spread 37 = .ok (.goto 4, 3) := by decide +kernel
theorem dM_spread_40 : decode cM_spread 40 = .ok (.lconst 0, 1) := by decide +kernel
theorem dM_spread_41 : decode cM_spread 41 = .ok (.ladd, 1) := by decide +kernel
theorem dM_spread_42 : decode cM_spread 42 = .ok (.lstore_n 2, 1) := by decide +kernel
theorem dM_spread_43 : decode cM_spread 43 = .ok (.iinc 4 1, 3) := by decide +kernel
theorem dM_spread_46 : decode cM_spread 46 = .ok (.goto (-41), 3) := by decide +kernel
theorem dM_spread_49 : decode cM_spread 49 = .ok (.lload_n 2, 1) := by decide +kernel
theorem dM_spread_50 : decode cM_spread 50 = .ok (.lreturn, 1) := by decide +kernel
theorem dM_peer_0 : decode cM_peer 0 = .ok (.aload_n 0, 1) := by decide +kernel
theorem dM_peer_1 : decode cM_peer 1 = .ok (.aload_n 0, 1) := by decide +kernel
theorem dM_peer_2 : decode cM_peer 2 = .ok (.invokevirtual 152, 3) := by decide +kernel
theorem dM_peer_5 : decode cM_peer 5 = .ok (.ifCond .le 7, 3) := by decide +kernel
theorem dM_peer_8 : decode cM_peer 8 = .ok (.iconst 0, 1) := by decide +kernel
theorem dM_peer_9 : decode cM_peer 9 = .ok (.goto 4, 3) := by decide +kernel
theorem dM_peer_12 : decode cM_peer 12 = .ok (.iconst 1, 1) := by decide +kernel
theorem dM_peer_13 : decode cM_peer 13 = .ok (.putfield 54, 3) := by decide +kernel
theorem dM_peer_16 : decode cM_peer 16 = .ok (.aload_n 0, 1) := by decide +kernel
theorem dM_peer_17 : decode cM_peer 17 = .ok (.getfield 54, 3) := by decide +kernel
theorem dM_peer_20 : decode cM_peer 20 = .ok (.ifCond .le 7, 3) := by decide +kernel
theorem dM_peer_23 : decode cM_peer 23 = .ok (.iconst 0, 1) := by decide +kernel
theorem dM_peer_24 : decode cM_peer 24 = .ok (.goto 7, 3) := by decide +kernel
theorem dM_peer_27 : decode cM_peer 27 = .ok (.aload_n 0, 1) := by decide +kernel
theorem dM_peer_28 : decode cM_peer 28 = .ok (.invokevirtual 156, 3) := by decide +kernel
theorem dM_peer_31 : decode cM_peer 31 = .ok (.ireturn, 1) := by decide +kernel
theorem dM_peerOf_0 : decode cM_peerOf 0 = .ok (.iconst (-1), 1) := by decide +kernel
theorem dM_peerOf_1 : decode cM_peerOf 1 = .ok (.istore_n 1, 1) := by decide +kernel
theorem dM_peerOf_2 : decode cM_peerOf 2 = .ok (.iconst 4, 1) := by decide +kernel
theorem dM_peerOf_3 : decode cM_peerOf 3 = .ok (.istore_n 2, 1) := by decide +kernel
theorem dM_peerOf_4 : decode cM_peerOf 4 = .ok (.iload_n 2, 1) := by decide +kernel
theorem dM_peerOf_5 : decode cM_peerOf 5 = .ok (.ifCond .lt 82, 3) := by decide +kernel
theorem dM_peerOf_8 : decode cM_peerOf 8 = .ok (.aload_n 0, 1) := by decide +kernel
theorem dM_peerOf_9 : decode cM_peerOf 9 = .ok (.getfield 51, 3) := by decide +kernel
theorem dM_peerOf_12 : decode cM_peerOf 12 = .ok (.iload_n 2, 1) := by decide +kernel
theorem dM_peerOf_13 : decode cM_peerOf 13 = .ok (.baload, 1) := by decide +kernel
theorem dM_peerOf_14 : decode cM_peerOf 14 = .ok (.ifCond .eq 55, 3) := by decide +kernel
theorem dM_peerOf_17 : decode cM_peerOf 17 = .ok (.iload_n 1, 1) := by decide +kernel
theorem dM_peerOf_18 : decode cM_peerOf 18 = .ok (.ifCond .lt 47, 3) := by decide +kernel
theorem dM_peerOf_21 : decode cM_peerOf 21 = .ok (.aload_n 0, 1) := by decide +kernel
theorem dM_peerOf_22 : decode cM_peerOf 22 = .ok (.getfield 30, 3) := by decide +kernel
theorem dM_peerOf_25 : decode cM_peerOf 25 = .ok (.iload_n 2, 1) := by decide +kernel
theorem dM_peerOf_26 : decode cM_peerOf 26 = .ok (.iaload, 1) := by decide +kernel
theorem dM_peerOf_27 : decode cM_peerOf 27 = .ok (.aload_n 0, 1) := by decide +kernel
theorem dM_peerOf_28 : decode cM_peerOf 28 = .ok (.getfield 30, 3) := by decide +kernel
theorem dM_peerOf_31 : decode cM_peerOf 31 = .ok (.iload_n 1, 1) := by decide +kernel
theorem dM_peerOf_32 : decode cM_peerOf 32 = .ok (.iaload, 1) := by decide +kernel
theorem dM_peerOf_33 : decode cM_peerOf 33 = .ok (.if_icmp .lt 32, 3) := by decide +kernel
theorem dM_peerOf_36 : decode cM_peerOf 36 = .ok (.aload_n 0, 1) := by decide +kernel
theorem dM_peerOf_37 : decode cM_peerOf 37 = .ok (.getfield 30, 3) := by decide +kernel
theorem dM_peerOf_40 : decode cM_peerOf 40 = .ok (.iload_n 2, 1) := by decide +kernel
theorem dM_peerOf_41 : decode cM_peerOf 41 = .ok (.iaload, 1) := by decide +kernel
theorem dM_peerOf_42 : decode cM_peerOf 42 = .ok (.aload_n 0, 1) := by decide +kernel
theorem dM_peerOf_43 : decode cM_peerOf 43 = .ok (.getfield 30, 3) := by decide +kernel
theorem dM_peerOf_46 : decode cM_peerOf 46 = .ok (.iload_n 1, 1) := by decide +kernel
theorem dM_peerOf_47 : decode cM_peerOf 47 = .ok (.iaload, 1) := by decide +kernel
theorem dM_peerOf_48 : decode cM_peerOf 48 = .ok (.if_icmp .ne 21, 3) := by decide +kernel
theorem dM_peerOf_51 : decode cM_peerOf 51 = .ok (.aload_n 0, 1) := by decide +kernel
theorem dM_peerOf_52 : decode cM_peerOf 52 = .ok (.iload_n 2, 1) := by decide +kernel
theorem dM_peerOf_53 : decode cM_peerOf 53 = .ok (.invokevirtual 125, 3) := by decide +kernel
theorem dM_peerOf_56 : decode cM_peerOf 56 = .ok (.aload_n 0, 1) := by decide +kernel
theorem dM_peerOf_57 : decode cM_peerOf 57 = .ok (.iload_n 1, 1) := by decide +kernel
theorem dM_peerOf_58 : decode cM_peerOf 58 = .ok (.invokevirtual 125, 3) := by decide +kernel
theorem dM_peerOf_61 : decode cM_peerOf 61 = .ok (.lcmp, 1) := by decide +kernel
theorem dM_peerOf_62 : decode cM_peerOf 62 = .ok (.ifCond .gt 7, 3) := by decide +kernel
theorem dM_peerOf_65 : decode cM_peerOf 65 = .ok (.iconst 1, 1) := by decide +kernel
theorem dM_peerOf_66 : decode cM_peerOf 66 = .ok (.goto 4, 3) := by decide +kernel
theorem dM_peerOf_69 : decode cM_peerOf 69 = .ok (.iconst 0, 1) := by decide +kernel
theorem dM_peerOf_70 : decode cM_peerOf 70 = .ok (.istore_n 3, 1) := by decide +kernel
theorem dM_peerOf_71 : decode cM_peerOf 71 = .ok (.iload_n 3, 1) := by decide +kernel
theorem dM_peerOf_72 : decode cM_peerOf 72 = .ok (.ifCond .eq 7, 3) := by decide +kernel
theorem dM_peerOf_75 : decode cM_peerOf 75 = .ok (.iload_n 2, 1) := by decide +kernel
theorem dM_peerOf_76 : decode cM_peerOf 76 = .ok (.goto 4, 3) := by decide +kernel
theorem dM_peerOf_79 : decode cM_peerOf 79 = .ok (.iload_n 1, 1) := by decide +kernel
theorem dM_peerOf_80 : decode cM_peerOf 80 = .ok (.istore_n 1, 1) := by decide +kernel
theorem dM_peerOf_81 : decode cM_peerOf 81 = .ok (.iinc 2 (-1), 3) := by decide +kernel
theorem dM_peerOf_84 : decode cM_peerOf 84 = .ok (.goto (-80), 3) := by decide +kernel
theorem dM_peerOf_87 : decode cM_peerOf 87 = .ok (.iload_n 1, 1) := by decide +kernel
theorem dM_peerOf_88 : decode cM_peerOf 88 = .ok (.ireturn, 1) := by decide +kernel
theorem dM_update_0 : decode cM_update 0 = .ok (.aload_n 0, 1) := by decide +kernel
theorem dM_update_1 : decode cM_update 1 = .ok (.invokevirtual 152, 3) := by decide +kernel
theorem dM_update_4 : decode cM_update 4 = .ok (.istore_n 1, 1) := by decide +kernel
theorem dM_update_5 : decode cM_update 5 = .ok (.iload_n 1, 1) := by decide +kernel
theorem dM_update_6 : decode cM_update 6 = .ok (.ifCond .le 11, 3) := by decide +kernel
theorem dM_update_9 : decode cM_update 9 = .ok (.aload_n 0, 1) := by decide +kernel
theorem dM_update_10 : decode cM_update 10 = .ok (.iload_n 1, 1) := by decide +kernel
theorem dM_update_11 : decode cM_update 11 = .ok (.invokevirtual 161, 3) := by decide +kernel
theorem dM_update_14 : decode cM_update 14 = .ok (.goto 4, 3) := by decide +kernel
theorem dM_update_17 : decode cM_update 17 = .ok (.lconst 0, 1) := by decide +kernel
theorem dM_update_18 : decode cM_update 18 = .ok (.lstore_n 2, 1) := by decide +kernel
theorem dM_update_19 : decode cM_update 19 = .ok (.aload_n 0, 1) := by decide +kernel
theorem dM_update_20 : decode cM_update 20 = .ok (.iload_n 1, 1) := by decide +kernel
theorem dM_update_21 : decode cM_update 21 = .ok (.ifCond .ne 7, 3) := by decide +kernel
theorem dM_update_24 : decode cM_update 24 = .ok (.iconst 1, 1) := by decide +kernel
theorem dM_update_25 : decode cM_update 25 = .ok (.goto 26, 3) := by decide +kernel
theorem dM_update_28 : decode cM_update 28 = .ok (.lload_n 2, 1) := by decide +kernel
theorem dM_update_29 : decode cM_update 29 = .ok (.invokestatic 112, 3) := by decide +kernel
theorem dM_update_32 : decode cM_update 32 = .ok (.ldc2_w 164, 3) := by decide +kernel
theorem dM_update_35 : decode cM_update 35 = .ok (.lcmp, 1) := by decide +kernel
theorem dM_update_36 : decode cM_update 36 = .ok (.ifCond .le 14, 3) := by decide +kernel
theorem dM_update_39 : decode cM_update 39 = .ok (.aload_n 0, 1) := by decide +kernel
theorem dM_update_40 : decode cM_update 40 = .ok (.getfield 166, 3) := by decide +kernel
theorem dM_update_43 : decode cM_update 43 = .ok (.ifCond .eq 7, 3) := by decide +kernel
theorem dM_update_46 : decode cM_update 46 = .ok (.iconst 2, 1) := by decide +kernel
theorem dM_update_47 : decode cM_update 47 = .ok (.goto 4, 3) := by decide +kernel
theorem dM_update_50 : decode cM_update 50 = .ok (.iconst 0, 1) := by decide +kernel
theorem dM_update_51 : decode cM_update 51 = .ok (.putfield 54, 3) := by decide +kernel
theorem dM_update_54 : decode cM_update 54 = .ok (.aload_n 0, 1) := by decide +kernel
theorem dM_update_55 : decode cM_update 55 = .ok (.getfield 54, 3) := by decide +kernel
theorem dM_update_58 : decode cM_update 58 = .ok (.ifCond .le 5, 3) := by decide +kernel
theorem dM_update_61 : decode cM_update 61 = .ok (.iconst 0, 1) := by decide +kernel
theorem dM_update_62 : decode cM_update 62 = .ok (.ireturn, 1) := by decide +kernel
theorem dM_update_63 : decode cM_update 63 = .ok (.aload_n 0, 1) := by decide +kernel
theorem dM_update_64 : decode cM_update 64 = .ok (.iconst 1, 1) := by decide +kernel
theorem dM_update_65 : decode cM_update 65 = .ok (.putfield 166, 3) := by decide +kernel
theorem dM_update_68 : decode cM_update 68 = .ok (.lload_n 2, 1) := by decide +kernel
theorem dM_update_69 : decode cM_update 69 = .ok (.invokestatic 112, 3) := by decide +kernel
theorem dM_update_72 : decode cM_update 72 = .ok (.ldc2_w 170, 3) := by decide +kernel
theorem dM_update_75 : decode cM_update 75 = .ok (.lcmp, 1) := by decide +kernel
theorem dM_update_76 : decode cM_update 76 = .ok (.ifCond .le 10, 3) := by decide +kernel
theorem dM_update_79 : decode cM_update 79 = .ok (.aload_n 0, 1) := by decide +kernel
theorem dM_update_80 : decode cM_update 80 = .ok (.lload_n 2, 1) := by decide +kernel
theorem dM_update_81 : decode cM_update 81 = .ok (.invokevirtual 172, 3) := by decide +kernel
theorem dM_update_84 : decode cM_update 84 = .ok (.iconst 1, 1) := by decide +kernel
theorem dM_update_85 : decode cM_update 85 = .ok (.ireturn, 1) := by decide +kernel
theorem dM_update_86 : decode cM_update 86 = .ok (.aload_n 0, 1) := by decide +kernel
theorem dM_update_87 : decode cM_update 87 = .ok (.lload_n 2, 1) := by decide +kernel
theorem dM_update_88 : decode cM_update 88 = .ok (.invokevirtual 176, 3) := by decide +kernel
theorem dM_update_91 : decode cM_update 91 = .ok (.iconst 0, 1) := by decide +kernel
theorem dM_update_92 : decode cM_update 92 = .ok (.ireturn, 1) := by decide +kernel
