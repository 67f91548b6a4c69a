theorem dM_combined_0 : decode cM_combined 0 = .ok (.lconst 0, 1) := by decide +kernel
theorem dM_combined_1 : decode cM_combined 1 = .ok (.lstore_n 2, 1) := by decide +kernel
theorem dM_combined_2 : decode cM_combined 2 = .ok (.iconst 0, 1) := by decide +kernel
theorem dM_combined_3 : decode cM_combined 3 = .ok (.istore 4, 2) := by decide +kernel
theorem dM_combined_5 : decode cM_combined 5 = .ok (.iload 4, 2) := by decide +kernel
theorem dM_combined_7 : decode cM_combined 7 = .ok (.iconst 5, 1) := by decide +kernel
theorem dM_combined_8 : decode cM_combined 8 = .ok (.if_icmp .ge 32, 3) := by decide +kernel
theorem dM_combined_11 : decode cM_combined 11 = .ok (.lload_n 2, 1) := by decide +kernel
theorem dM_combined_12 : decode cM_combined 12 = .ok (.aload_n 0, 1) := by decide +kernel
theorem dM_combined_13 : decode cM_combined 13 = .ok (.getfield 51, 3) := by decide +kernel
theorem dM_combined_16 : decode cM_combined 16 = .ok (.iload 4, 2) := by decide +kernel
theorem dM_combined_18 : decode cM_combined 18 = .ok (.baload, 1) := by decide +kernel
theorem dM_combined_19 : decode cM_combined 19 = .ok (.ifCond .eq 12, 3) := by decide +kernel
theorem dM_combined_22 : decode cM_combined 22 = .ok (.aload_n 0, 1) := by decide +kernel
theorem dM_combined_23 : decode cM_combined 23 = .ok (.iload 4, 2) := by decide +kernel
theorem dM_combined_25 : decode cM_combined 25 = .ok (.invokevirtual 122, 3) := by decide +kernel
theorem dM_combined_28 : decode cM_combined 28 = .ok (.goto 4, 3) := by decide +kernel
theorem dM_combined_31 : decode cM_combined 31 = .ok (.lconst 0, 1) := by decide +kernel
theorem dM_combined_32 : decode cM_combined 32 = .ok (.ladd, 1) := by decide +kernel
theorem dM_combined_33 : decode cM_combined 33 = .ok (.lstore_n 2, 1) := by decide +kernel
theorem dM_combined_34 : decode cM_combined 34 = .ok (.iinc 4 1, 3) := by decide +kernel
theorem dM_combined_37 : decode cM_combined 37 = .ok (.goto (-32), 3) := by decide +kernel
theorem dM_combined_40 : decode cM_combined 40 = .ok (.lload_n 2, 1) := by decide +kernel
theorem dM_combined_41 : decode cM_combined 41 = .ok (.iload_n 1, 1) := by decide +kernel
theorem dM_combined_42 : decode cM_combined 42 = .ok (.i2l, 1) := by decide +kernel
theorem dM_combined_43 : decode cM_combined 43 = .ok (.ldiv, 1) := by decide +kernel
theorem dM_combined_44 : decode cM_combined 44 = .ok (.lstore 4, 2) := by decide +kernel
theorem dM_combined_46 : decode cM_combined 46 = .ok (.lload 4, 2) := by decide +kernel
theorem dM_combined_48 : decode cM_combined 48 = .ok (.iload_n 1, 1) := by decide +kernel
theorem dM_combined_49 : decode cM_combined 49 = .ok (.i2l, 1) := by decide +kernel
theorem dM_combined_50 : decode cM_combined 50 = .ok (.lmul, 1) := by decide +kernel
theorem dM_combined_51 : decode cM_combined 51 = .ok (.lload_n 2, 1) := by decide +kernel
theorem dM_combined_52 : decode cM_combined 52 = .ok (.lcmp, 1) := by decide +kernel
theorem dM_combined_53 : decode cM_combined 53 = .ok (.ifCond .le 10, 3) := by decide +kernel
theorem dM_combined_56 : decode cM_combined 56 = .ok (.lload 4, 2) := by decide +kernel
theorem dM_combined_58 : decode cM_combined 58 = .ok (.lconst 1, 1) := by decide +kernel
theorem dM_combined_59 : decode cM_combined 59 = .ok (.lsub, 1) := by decide +kernel
theorem dM_combined_60 : decode cM_combined 60 = .ok (.goto 5, 3) := by decide +kernel
theorem dM_combined_63 : decode cM_combined 63 = .ok (.lload 4, 2) := by decide +kernel
theorem dM_combined_65 : decode cM_combined 65 = .ok (.lreturn, 1) := by decide +kernel
theorem dM_step_0 : decode cM_step 0 = .ok (.aload_n 0, 1) := by decide +kernel
theorem dM_step_1 : decode cM_step 1 = .ok (.aload_n 0, 1) := by decide +kernel
theorem dM_step_2 : decode cM_step 2 = .ok (.getfield 66, 3) := by decide +kernel
theorem dM_step_5 : decode cM_step 5 = .ok (.lload_n 1, 1) := by decide +kernel
theorem dM_step_6 : decode cM_step 6 = .ok (.ladd, 1) := by decide +kernel
theorem dM_step_7 : decode cM_step 7 = .ok (.putfield 66, 3) := by decide +kernel
theorem dM_step_10 : decode cM_step 10 = .ok (.aload_n 0, 1) := by decide +kernel
theorem dM_step_11 : decode cM_step 11 = .ok (.lconst 0, 1) := by decide +kernel
theorem dM_step_12 : decode cM_step 12 = .ok (.putfield 62, 3) := by decide +kernel
theorem dM_step_15 : decode cM_step 15 = .ok (.iconst 0, 1) := by decide +kernel
theorem dM_step_16 : decode cM_step 16 = .ok (.istore_n 3, 1) := by decide +kernel
theorem dM_step_17 : decode cM_step 17 = .ok (.iload_n 3, 1) := by decide +kernel
theorem dM_step_18 : decode cM_step 18 = .ok (.iconst 5, 1) := by decide +kernel
theorem dM_step_19 : decode cM_step 19 = .ok (.if_icmp .ge 30, 3) := by decide +kernel
theorem dM_step_22 : decode cM_step 22 = .ok (.aload_n 0, 1) := by decide +kernel
theorem dM_step_23 : decode cM_step 23 = .ok (.getfield 23, 3) := by decide +kernel
theorem dM_step_26 : decode cM_step 26 = .ok (.iload_n 3, 1) := by decide +kernel
theorem dM_step_27 : decode cM_step 27 = .ok (.iconst 0, 1) := by decide +kernel
theorem dM_step_28 : decode cM_step 28 = .ok (.bastore, 1) := by decide +kernel
theorem dM_step_29 : decode cM_step 29 = .ok (.aload_n 0, 1) := by decide +kernel
theorem dM_step_30 : decode cM_step 30 = .ok (.getfield 39, 3) := by decide +kernel
theorem dM_step_33 : decode cM_step 33 = .ok (.iload_n 3, 1) := by decide +kernel
theorem dM_step_34 : decode cM_step 34 = .ok (.iconst 0, 1) := by decide +kernel
theorem dM_step_35 : decode cM_step 35 = .ok (.iastore, 1) := by decide +kernel
theorem dM_step_36 : decode cM_step 36 = .ok (.aload_n 0, 1) := by decide +kernel
theorem dM_step_37 : decode cM_step 37 = .ok (.getfield 17, 3) := by decide +kernel
theorem dM_step_40 : decode cM_step 40 = .ok (.iload_n 3, 1) := by decide +kernel
theorem dM_step_41 : decode cM_step 41 = .ok (.iconst 0, 1) := by decide +kernel
theorem dM_step_42 : decode cM_step 42 = .ok (.iastore, 1) := by decide +kernel
theorem dM_step_43 : decode cM_step 43 = .ok (.iinc 3 1, 3) := by decide +kernel
theorem dM_step_46 : decode cM_step 46 = .ok (.goto (-29), 3) := by decide +kernel
theorem dM_step_49 : decode cM_step 49 = .ok (.return_, 1) := by decide +kernel
theorem dM_slow_0 : decode cM_slow 0 = .ok (.lload_n 1, 1) := by decide +kernel
theorem dM_slow_1 : decode cM_slow 1 = .ok (.invokestatic 112, 3) := by decide +kernel
theorem dM_slow_4 : decode cM_slow 4 = .ok (.ldc2_w 159, 3) := by decide +kernel
theorem dM_slow_7 : decode cM_slow 7 = .ok (.aload_n 0, 1) := by decide +kernel
theorem dM_slow_8 : decode cM_slow 8 = .ok (.aload_n 0, 1) := by decide +kernel
theorem dM_slow_9 : decode cM_slow 9 = .ok (.invokevirtual 156, 3) := by decide +kernel
theorem dM_slow_12 : decode cM_slow 12 = .ok (.invokevirtual 116, 3) := by decide +kernel
theorem dM_slow_15 : decode cM_slow 15 = .ok (.lmul, 1) := by decide +kernel
theorem dM_slow_16 : decode cM_slow 16 = .ok (.ldc2_w 97, 3) := by decide +kernel
theorem dM_slow_19 : decode cM_slow 19 = .ok (.ladd, 1) := by decide +kernel
theorem dM_slow_20 : decode cM_slow 20 = .ok (.lcmp, 1) := by decide +kernel
theorem dM_slow_21 : decode cM_slow 21 = .ok (.ifCond .gt 7, 3) := by decide +kernel
theorem dM_slow_24 : decode cM_slow 24 = .ok (.iconst 1, 1) := by decide +kernel
theorem dM_slow_25 : decode cM_slow 25 = .ok (.goto 4, 3) := by decide +kernel
theorem dM_slow_28 : decode cM_slow 28 = .ok (.iconst 0, 1) := by decide +kernel
theorem dM_slow_29 : decode cM_slow 29 = .ok (.istore_n 3, 1) := by decide +kernel
theorem dM_slow_30 : decode cM_slow 30 = .ok (.aload_n 0, 1) := by decide +kernel
theorem dM_slow_31 : decode cM_slow 31 = .ok (.lload_n 1, 1) := by decide +kernel
theorem dM_slow_32 : decode cM_slow 32 = .ok (.putfield 62, 3) := by decide +kernel
theorem dM_slow_35 : decode cM_slow 35 = .ok (.iconst 0, 1) := by decide +kernel
theorem dM_slow_36 : decode cM_slow 36 = .ok (.istore 4, 2) := by decide +kernel
theorem dM_slow_38 : decode cM_slow 38 = .ok (.iload 4, 2) := by decide +kernel
theorem dM_slow_40 : decode cM_slow 40 = .ok (.iconst 5, 1) := by decide +kernel
theorem dM_slow_41 : decode cM_slow 41 = .ok (.if_icmp .ge 95, 3) := by decide +kernel
theorem dM_slow_44 : decode cM_slow 44 = .ok (.iload_n 3, 1) := by decide +kernel
theorem dM_slow_45 : decode cM_slow 45 = .ok (.ifCond .eq 54, 3) := by decide +kernel
theorem dM_slow_48 : decode cM_slow 48 = .ok (.aload_n 0, 1) := by decide +kernel
theorem dM_slow_49 : decode cM_slow 49 = .ok (.getfield 20, 3) := by decide +kernel
theorem dM_slow_52 : decode cM_slow 52 = .ok (.iload 4, 2) := by decide +kernel
theorem dM_slow_54 : decode cM_slow 54 = .ok (.aload_n 0, 1) := by decide +kernel
theorem dM_slow_55 : decode cM_slow 55 = .ok (.getfield 51, 3) := by decide +kernel
theorem dM_slow_58 : decode cM_slow 58 = .ok (.iload 4, 2) := by decide +kernel
theorem dM_slow_60 : decode cM_slow 60 = .ok (.baload, 1) := by decide +kernel
theorem dM_slow_61 : decode cM_slow 61 = .ok (.ifCond .eq 27, 3) := by decide +kernel
theorem dM_slow_64 : decode cM_slow 64 = .ok (.aload_n 0, 1) := by decide +kernel
theorem dM_slow_65 : decode cM_slow 65 = .ok (.getfield 20, 3) := by decide +kernel
theorem dM_slow_68 : decode cM_slow 68 = .ok (.iload 4, 2) := by decide +kernel
theorem dM_slow_70 : decode cM_slow 70 = .ok (.iaload, 1) := by decide +kernel
theorem dM_slow_71 : decode cM_slow 71 = .ok (.bipush 10, 2) := by decide +kernel
theorem dM_slow_73 : decode cM_slow 73 = .ok (.if_icmp .ge 15, 3) := by decide +kernel
theorem dM_slow_76 : decode cM_slow 76 = .ok (.aload_n 0, 1) := by decide +kernel
theorem dM_slow_77 : decode cM_slow 77 = .ok (.getfield 20, 3) := by decide +kernel
theorem dM_slow_80 : decode cM_slow 80 = .ok (.iload 4, 2) := by decide +kernel
theorem dM_slow_82 : decode cM_slow 82 = .ok (.iaload, 1) := by decide +kernel
theorem dM_slow_83 : decode cM_slow 83 = .ok (.iconst 1, 1) := by decide +kernel
theorem dM_slow_84 : decode cM_slow 84 = .ok (.iadd, 1) := by decide +kernel
theorem dM_slow_85 : decode cM_slow 85 = .ok (.goto 10, 3) := by decide +kernel
theorem dM_slow_88 : decode cM_slow 88 = .ok (.aload_n 0, 1) := by decide +kernel
theorem dM_slow_89 : decode cM_slow 89 = .ok (.getfield 20, 3) := by decide +kernel
theorem dM_slow_92 : decode cM_slow 92 = .ok (.iload 4, 2) := by decide +kernel
theorem dM_slow_94 : decode cM_slow 94 = .ok (.iaload, 1) := by decide +kernel
theorem dM_slow_95 : decode cM_slow 95 = .ok (.iastore, 1) := by decide +kernel
theorem dM_slow_96 : decode cM_slow 96 = .ok (.goto 34, 3) := by decide +kernel
theorem dM_slow_99 : decode cM_slow 99 = .ok (.aload_n 0, 1) := by decide +kernel
theorem dM_slow_100 : decode cM_slow 100 = .ok (.getfield 20, 3) := by decide +kernel
theorem dM_slow_103 : decode cM_slow 103 = .ok (.iload 4, 2) := by decide +kernel
theorem dM_slow_105 : decode cM_slow 105 = .ok (.aload_n 0, 1) := by decide +kernel
theorem dM_slow_106 : decode cM_slow 106 = .ok (.getfield 20, 3) := by decide +kernel
theorem dM_slow_109 : decode cM_slow 109 = .ok (.iload 4, 2) := by decide +kernel
theorem dM_slow_111 : decode cM_slow 111 = .ok (.iaload, 1) := by decide +kernel
theorem dM_slow_112 : decode cM_slow 112 = .ok (.iconst 4, 1) := by decide +kernel
theorem dM_slow_113 : decode cM_slow 113 = .ok (.if_icmp .le 15, 3) := by decide +kernel
theorem dM_slow_116 : decode cM_slow 116 = .ok (.aload_n 0, 1) := by decide +kernel
theorem dM_slow_117 : decode cM_slow 117 = .ok (.getfield 20, 3) := by decide +kernel
theorem dM_slow_120 : decode cM_slow 120 = .ok (.iload 4, 2) := by decide +kernel
theorem dM_slow_122 : decode cM_slow 122 = .ok (.iaload, 1) := by decide +kernel
theorem dM_slow_123 : decode cM_slow 123 = .ok (.iconst 1, 1) := by decide +kernel
theorem dM_slow_124 : decode cM_slow 124 = .ok (.isub, 1) := by decide +kernel
theorem dM_slow_125 : decode cM_slow 125 = .ok (.goto 4, 3) := by decide +kernel
theorem dM_slow_128 : decode cM_slow 128 = .ok (.iconst 4, 1) := by decide +kernel
theorem dM_slow_129 : decode cM_slow 129 = .ok (.iastore, 1) := by decide +kernel
theorem dM_slow_130 : decode cM_slow 130 = .ok (.iinc 4 1, 3) := by decide +kernel
theorem dM_slow_133 : decode cM_slow 133 = .ok (.goto (-95), 3) := by decide +kernel
theorem dM_slow_136 : decode cM_slow 136 = .ok (.return_, 1) := by decide +kernel
