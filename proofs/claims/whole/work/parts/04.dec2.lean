theorem dS_keepSample_0 : decode cS_keepSample 0 = .ok (.aload_n 0, 1) := by decide +kernel
theorem dS_keepSample_1 : decode cS_keepSample 1 = .ok (.aload_n 0, 1) := by decide +kernel
theorem dS_keepSample_2 : decode cS_keepSample 2 = .ok (.getfield 13, 3) := by decide +kernel
theorem dS_keepSample_5 : decode cS_keepSample 5 = .ok (.iconst 1, 1) := by decide +kernel
theorem dS_keepSample_6 : decode cS_keepSample 6 = .ok (.ior, 1) := by decide +kernel
theorem dS_keepSample_7 : decode cS_keepSample 7 = .ok (.putfield 13, 3) := by decide +kernel
theorem dS_keepSample_10 : decode cS_keepSample 10 = .ok (.aload_n 0, 1) := by decide +kernel
theorem dS_keepSample_11 : decode cS_keepSample 11 = .ok (.bipush 8, 2) := by decide +kernel
theorem dS_keepSample_13 : decode cS_keepSample 13 = .ok (.aload_n 0, 1) := by decide +kernel
theorem dS_keepSample_14 : decode cS_keepSample 14 = .ok (.getfield 27, 3) := by decide +kernel
theorem dS_keepSample_17 : decode cS_keepSample 17 = .ok (.iconst 1, 1) := by decide +kernel
theorem dS_keepSample_18 : decode cS_keepSample 18 = .ok (.iadd, 1) := by decide +kernel
theorem dS_keepSample_19 : decode cS_keepSample 19 = .ok (.invokestatic 58, 3) := by decide +kernel
theorem dS_keepSample_22 : decode cS_keepSample 22 = .ok (.putfield 27, 3) := by decide +kernel
theorem dS_keepSample_25 : decode cS_keepSample 25 = .ok (.aload_n 0, 1) := by decide +kernel
theorem dS_keepSample_26 : decode cS_keepSample 26 = .ok (.getfield 27, 3) := by decide +kernel
theorem dS_keepSample_29 : decode cS_keepSample 29 = .ok (.iconst 1, 1) := by decide +kernel
theorem dS_keepSample_30 : decode cS_keepSample 30 = .ok (.isub, 1) := by decide +kernel
theorem dS_keepSample_31 : decode cS_keepSample 31 = .ok (.istore 7, 2) := by decide +kernel
theorem dS_keepSample_33 : decode cS_keepSample 33 = .ok (.iload 7, 2) := by decide +kernel
theorem dS_keepSample_35 : decode cS_keepSample 35 = .ok (.ifCond .le 57, 3) := by decide +kernel
theorem dS_keepSample_38 : decode cS_keepSample 38 = .ok (.aload_n 0, 1) := by decide +kernel
theorem dS_keepSample_39 : decode cS_keepSample 39 = .ok (.getfield 39, 3) := by decide +kernel
theorem dS_keepSample_42 : decode cS_keepSample 42 = .ok (.iload 7, 2) := by decide +kernel
theorem dS_keepSample_44 : decode cS_keepSample 44 = .ok (.aload_n 0, 1) := by decide +kernel
theorem dS_keepSample_45 : decode cS_keepSample 45 = .ok (.getfield 39, 3) := by decide +kernel
theorem dS_keepSample_48 : decode cS_keepSample 48 = .ok (.iload 7, 2) := by decide +kernel
theorem dS_keepSample_50 : decode cS_keepSample 50 = .ok (.iconst 1, 1) := by decide +kernel
theorem dS_keepSample_51 : decode cS_keepSample 51 = .ok (.isub, 1) := by decide +kernel
theorem dS_keepSample_52 : decode cS_keepSample 52 = .ok (.laload, 1) := by decide +kernel
theorem dS_keepSample_53 : decode cS_keepSample 53 = .ok (.lastore, 1) := by decide +kernel
theorem dS_keepSample_54 : decode cS_keepSample 54 = .ok (.aload_n 0, 1) := by decide +kernel
theorem dS_keepSample_55 : decode cS_keepSample 55 = .ok (.getfield 43, 3) := by decide +kernel
theorem dS_keepSample_58 : decode cS_keepSample 58 = .ok (.iload 7, 2) := by decide +kernel
theorem dS_keepSample_60 : decode cS_keepSample 60 = .ok (.aload_n 0, 1) := by decide +kernel
theorem dS_keepSample_61 : decode cS_keepSample 61 = .ok (.getfield 43, 3) := by decide +kernel
theorem dS_keepSample_64 : decode cS_keepSample 64 = .ok (.iload 7, 2) := by decide +kernel
theorem dS_keepSample_66 : decode cS_keepSample 66 = .ok (.iconst 1, 1) := by decide +kernel
theorem dS_keepSample_67 : decode cS_keepSample 67 = .ok (.isub, 1) := by decide +kernel
theorem dS_keepSample_68 : decode cS_keepSample 68 = .ok (.laload, 1) := by decide +kernel
theorem dS_keepSample_69 : decode cS_keepSample 69 = .ok (.lastore, 1) := by decide +kernel
theorem dS_keepSample_70 : decode cS_keepSample 70 = .ok (.aload_n 0, 1) := by decide +kernel
theorem dS_keepSample_71 : decode cS_keepSample 71 = .ok (.getfield 46, 3) := by decide +kernel
theorem dS_keepSample_74 : decode cS_keepSample 74 = .ok (.iload 7, 2) := by decide +kernel
theorem dS_keepSample_76 : decode cS_keepSample 76 = .ok (.aload_n 0, 1) := by decide +kernel
theorem dS_keepSample_77 : decode cS_keepSample 77 = .ok (.getfield 46, 3) := by decide +kernel
theorem dS_keepSample_80 : decode cS_keepSample 80 = .ok (.iload 7, 2) := by decide +kernel
theorem dS_keepSample_82 : decode cS_keepSample 82 = .ok (.iconst 1, 1) := by decide +kernel
theorem dS_keepSample_83 : decode cS_keepSample 83 = .ok (.isub, 1) := by decide +kernel
theorem dS_keepSample_84 : decode cS_keepSample 84 = .ok (.laload, 1) := by decide +kernel
theorem dS_keepSample_85 : decode cS_keepSample 85 = .ok (.lastore, 1) := by decide +kernel
theorem dS_keepSample_86 : decode cS_keepSample 86 = .ok (.iinc 7 (-1), 3) := by decide +kernel
theorem dS_keepSample_89 : decode cS_keepSample 89 = .ok (.goto (-56), 3) := by decide +kernel
theorem dS_keepSample_92 : decode cS_keepSample 92 = .ok (.aload_n 0, 1) := by decide +kernel
theorem dS_keepSample_93 : decode cS_keepSample 93 = .ok (.getfield 39, 3) := by decide +kernel
theorem dS_keepSample_96 : decode cS_keepSample 96 = .ok (.iconst 0, 1) := by decide +kernel
theorem dS_keepSample_97 : decode cS_keepSample 97 = .ok (.lload_n 1, 1) := by decide +kernel
theorem dS_keepSample_98 : decode cS_keepSample 98 = .ok (.lastore, 1) := by decide +kernel
theorem dS_keepSample_99 : decode cS_keepSample 99 = .ok (.aload_n 0, 1) := by decide +kernel
theorem dS_keepSample_100 : decode cS_keepSample 100 = .ok (.getfield 43, 3) := by decide +kernel
theorem dS_keepSample_103 : decode cS_keepSample 103 = .ok (.iconst 0, 1) := by decide +kernel
theorem dS_keepSample_104 : decode cS_keepSample 104 = .ok (.lload_n 3, 1) := by decide +kernel
theorem dS_keepSample_105 : decode cS_keepSample 105 = .ok (.lastore, 1) := by decide +kernel
theorem dS_keepSample_106 : decode cS_keepSample 106 = .ok (.aload_n 0, 1) := by decide +kernel
theorem dS_keepSample_107 : decode cS_keepSample 107 = .ok (.getfield 46, 3) := by decide +kernel
theorem dS_keepSample_110 : decode cS_keepSample 110 = .ok (.iconst 0, 1) := by decide +kernel
theorem dS_keepSample_111 : decode cS_keepSample 111 = .ok (.lload 5, 2) := by decide +kernel
theorem dS_keepSample_113 : decode cS_keepSample 113 = .ok (.lastore, 1) := by decide +kernel
theorem dS_keepSample_114 : decode cS_keepSample 114 = .ok (.return_, 1) := by decide +kernel
theorem dL_reach_0 : decode cL_reach 0 = .ok (.aload_n 2, 1) := by decide +kernel
theorem dL_reach_1 : decode cL_reach 1 = .ok (.iconst 0, 1) := by decide +kernel
theorem dL_reach_2 : decode cL_reach 2 = .ok (.aload_n 0, 1) := by decide +kernel
theorem dL_reach_3 : decode cL_reach 3 = .ok (.iload_n 1, 1) := by decide +kernel
theorem dL_reach_4 : decode cL_reach 4 = .ok (.invokevirtual 35, 3) := by decide +kernel
theorem dL_reach_7 : decode cL_reach 7 = .ok (.i2l, 1) := by decide +kernel
theorem dL_reach_8 : decode cL_reach 8 = .ok (.lastore, 1) := by decide +kernel
theorem dL_reach_9 : decode cL_reach 9 = .ok (.goto 6, 3) := by decide +kernel
theorem dL_reach_12 : decode cL_reach 12 = .ok (.astore_n 3, 1) := by decide +kernel
theorem dL_reach_13 : decode cL_reach 13 = .ok (.iconst 1, 1) := by decide +kernel
theorem dL_reach_14 : decode cL_reach 14 = .ok (.ireturn, 1) := by decide +kernel
theorem dL_reach_15 : decode cL_reach 15 = .ok (.iconst 0, 1) := by decide +kernel
theorem dL_reach_16 : decode cL_reach 16 = .ok (.ireturn, 1) := by decide +kernel
theorem dC_reach_0 : decode cC_reach 0 = .ok (.aload_n 0, 1) := by decide +kernel
theorem dC_reach_1 : decode cC_reach 1 = .ok (.iload_n 1, 1) := by decide +kernel
theorem dC_reach_2 : decode cC_reach 2 = .ok (.invokevirtual 64, 3) := by decide +kernel
theorem dC_reach_5 : decode cC_reach 5 = .ok (.astore_n 2, 1) := by decide +kernel
theorem dC_reach_6 : decode cC_reach 6 = .ok (.aload_n 2, 1) := by decide +kernel
theorem dC_reach_7 : decode cC_reach 7 = .ok (.getfield 79, 3) := by decide +kernel
theorem dC_reach_10 : decode cC_reach 10 = .ok (.ifCond .eq 14, 3) := by decide +kernel
theorem dC_reach_13 : decode cC_reach 13 = .ok (.aload_n 2, 1) := by decide +kernel
theorem dC_reach_14 : decode cC_reach 14 = .ok (.getfield 108, 3) := by decide +kernel
theorem dC_reach_17 : decode cC_reach 17 = .ok (.sipush 256, 3) := by decide +kernel
theorem dC_reach_20 : decode cC_reach 20 = .ok (.iadd, 1) := by decide +kernel
theorem dC_reach_21 : decode cC_reach 21 = .ok (.goto 7, 3) := by decide +kernel
theorem dC_reach_24 : decode cC_reach 24 = .ok (.aload_n 2, 1) := by decide +kernel
theorem dC_reach_25 : decode cC_reach 25 = .ok (.getfield 108, 3) := by decide +kernel
theorem dC_reach_28 : decode cC_reach 28 = .ok (.ireturn, 1) := by decide +kernel
theorem dL_poll_0 : decode cL_poll 0 = .ok (.aload_n 2, 1) := by decide +kernel
theorem dL_poll_1 : decode cL_poll 1 = .ok (.iconst 0, 1) := by decide +kernel
theorem dL_poll_2 : decode cL_poll 2 = .ok (.aload_n 0, 1) := by decide +kernel
theorem dL_poll_3 : decode cL_poll 3 = .ok (.iload_n 1, 1) := by decide +kernel
theorem dL_poll_4 : decode cL_poll 4 = .ok (.invokevirtual 38, 3) := by decide +kernel
theorem dL_poll_7 : decode cL_poll 7 = .ok (.i2l, 1) := by decide +kernel
theorem dL_poll_8 : decode cL_poll 8 = .ok (.lastore, 1) := by decide +kernel
theorem dL_poll_9 : decode cL_poll 9 = .ok (.goto 6, 3) := by decide +kernel
theorem dL_poll_12 : decode cL_poll 12 = .ok (.astore_n 3, 1) := by decide +kernel
theorem dL_poll_13 : decode cL_poll 13 = .ok (.iconst 1, 1) := by decide +kernel
theorem dL_poll_14 : decode cL_poll 14 = .ok (.ireturn, 1) := by decide +kernel
theorem dL_poll_15 : decode cL_poll 15 = .ok (.iconst 0, 1) := by decide +kernel
theorem dL_poll_16 : decode cL_poll 16 = .ok (.ireturn, 1) := by decide +kernel
theorem dC_poll_0 : decode cC_poll 0 = .ok (.aload_n 0, 1) := by decide +kernel
theorem dC_poll_1 : decode cC_poll 1 = .ok (.iload_n 1, 1) := by decide +kernel
theorem dC_poll_2 : decode cC_poll 2 = .ok (.invokevirtual 64, 3) := by decide +kernel
theorem dC_poll_5 : decode cC_poll 5 = .ok (.getfield 112, 3) := by decide +kernel
theorem dC_poll_8 : decode cC_poll 8 = .ok (.ireturn, 1) := by decide +kernel
theorem dL_samples_0 : decode cL_samples 0 = .ok (.aload_n 2, 1) := by decide +kernel
theorem dL_samples_1 : decode cL_samples 1 = .ok (.iconst 0, 1) := by decide +kernel
theorem dL_samples_2 : decode cL_samples 2 = .ok (.aload_n 0, 1) := by decide +kernel
theorem dL_samples_3 : decode cL_samples 3 = .ok (.iload_n 1, 1) := by decide +kernel
theorem dL_samples_4 : decode cL_samples 4 = .ok (.invokevirtual 41, 3) := by decide +kernel
theorem dL_samples_7 : decode cL_samples 7 = .ok (.i2l, 1) := by decide +kernel
theorem dL_samples_8 : decode cL_samples 8 = .ok (.lastore, 1) := by decide +kernel
theorem dL_samples_9 : decode cL_samples 9 = .ok (.goto 6, 3) := by decide +kernel
theorem dL_samples_12 : decode cL_samples 12 = .ok (.astore_n 3, 1) := by decide +kernel
theorem dL_samples_13 : decode cL_samples 13 = .ok (.iconst 1, 1) := by decide +kernel
theorem dL_samples_14 : decode cL_samples 14 = .ok (.ireturn, 1) := by decide +kernel
theorem dL_samples_15 : decode cL_samples 15 = .ok (.iconst 0, 1) := by decide +kernel
theorem dL_samples_16 : decode cL_samples 16 = .ok (.ireturn, 1) := by decide +kernel
theorem dC_samples_0 : decode cC_samples 0 = .ok (.aload_n 0, 1) := by decide +kernel
theorem dC_samples_1 : decode cC_samples 1 = .ok (.iload_n 1, 1) := by decide +kernel
theorem dC_samples_2 : decode cC_samples 2 = .ok (.invokevirtual 64, 3) := by decide +kernel
theorem dC_samples_5 : decode cC_samples 5 = .ok (.getfield 115, 3) := by decide +kernel
theorem dC_samples_8 : decode cC_samples 8 = .ok (.ireturn, 1) := by decide +kernel
theorem dL_offset_0 : decode cL_offset 0 = .ok (.aload_n 2, 1) := by decide +kernel
theorem dL_offset_1 : decode cL_offset 1 = .ok (.iconst 0, 1) := by decide +kernel
theorem dL_offset_2 : decode cL_offset 2 = .ok (.aload_n 0, 1) := by decide +kernel
theorem dL_offset_3 : decode cL_offset 3 = .ok (.iload_n 1, 1) := by decide +kernel
theorem dL_offset_4 : decode cL_offset 4 = .ok (.invokevirtual 44, 3) := by decide +kernel
theorem dL_offset_7 : decode cL_offset 7 = .ok (.lastore, 1) := by decide +kernel
theorem dL_offset_8 : decode cL_offset 8 = .ok (.goto 9, 3) := by decide +kernel
theorem dL_offset_11 : decode cL_offset 11 = .ok (.astore_n 3, 1) := by decide +kernel
theorem dL_offset_12 : decode cL_offset 12 = .ok (.iconst 1, 1) := by decide +kernel
theorem dL_offset_13 : decode cL_offset 13 = .ok (.ireturn, 1) := by decide +kernel
theorem dL_offset_14 : decode cL_offset 14 = .ok (.astore_n 3, 1) := by decide +kernel
theorem dL_offset_15 : decode cL_offset 15 = .ok (.iconst 2, 1) := by decide +kernel
theorem dL_offset_16 : decode cL_offset 16 = .ok (.ireturn, 1) := by decide +kernel
theorem dL_offset_17 : decode cL_offset 17 = .ok (.iconst 0, 1) := by decide +kernel
theorem dL_offset_18 : decode cL_offset 18 = .ok (.ireturn, 1) := by decide +kernel
theorem dC_offset_0 : decode cC_offset 0 = .ok (.aload_n 0, 1) := by decide +kernel
theorem dC_offset_1 : decode cC_offset 1 = .ok (.iload_n 1, 1) := by decide +kernel
theorem dC_offset_2 : decode cC_offset 2 = .ok (.invokevirtual 118, 3) := by decide +kernel
theorem dC_offset_5 : decode cC_offset 5 = .ok (.aload_n 0, 1) := by decide +kernel
theorem dC_offset_6 : decode cC_offset 6 = .ok (.getfield 30, 3) := by decide +kernel
theorem dC_offset_9 : decode cC_offset 9 = .ok (.invokevirtual 121, 3) := by decide +kernel
theorem dC_offset_12 : decode cC_offset 12 = .ok (.lreturn, 1) := by decide +kernel
theorem dC_sampledAt_0 : decode cC_sampledAt 0 = .ok (.aload_n 0, 1) := by decide +kernel
theorem dC_sampledAt_1 : decode cC_sampledAt 1 = .ok (.iload_n 1, 1) := by decide +kernel
theorem dC_sampledAt_2 : decode cC_sampledAt 2 = .ok (.invokevirtual 64, 3) := by decide +kernel
theorem dC_sampledAt_5 : decode cC_sampledAt 5 = .ok (.astore_n 2, 1) := by decide +kernel
theorem dC_sampledAt_6 : decode cC_sampledAt 6 = .ok (.aload_n 2, 1) := by decide +kernel
theorem dC_sampledAt_7 : decode cC_sampledAt 7 = .ok (.getfield 115, 3) := by decide +kernel
theorem dC_sampledAt_10 : decode cC_sampledAt 10 = .ok (.ifCond .ne 11, 3) := by decide +kernel
theorem dC_sampledAt_13 : decode cC_sampledAt 13 = .ok (.new 144, 3) := by decide +kernel
theorem dC_sampledAt_16 : decode cC_sampledAt 16 = .ok (.dup, 1) := by decide +kernel
theorem dC_sampledAt_17 : decode cC_sampledAt 17 = .ok (.invokespecial 146, 3) := by decide +kernel
theorem dC_sampledAt_20 : decode cC_sampledAt 20 = .ok (.athrow, 1) := by decide +kernel
theorem dC_sampledAt_21 : decode cC_sampledAt 21 = .ok (.aload_n 2, 1) := by decide +kernel
theorem dC_sampledAt_22 : decode cC_sampledAt 22 = .ok (.areturn, 1) := by decide +kernel
theorem dL_delay_0 : decode cL_delay 0 = .ok (.aload_n 2, 1) := by decide +kernel
theorem dL_delay_1 : decode cL_delay 1 = .ok (.iconst 0, 1) := by decide +kernel
theorem dL_delay_2 : decode cL_delay 2 = .ok (.aload_n 0, 1) := by decide +kernel
theorem dL_delay_3 : decode cL_delay 3 = .ok (.iload_n 1, 1) := by decide +kernel
theorem dL_delay_4 : decode cL_delay 4 = .ok (.invokevirtual 49, 3) := by decide +kernel
theorem dL_delay_7 : decode cL_delay 7 = .ok (.lastore, 1) := by decide +kernel
theorem dL_delay_8 : decode cL_delay 8 = .ok (.goto 9, 3) := by decide +kernel
theorem dL_delay_11 : decode cL_delay 11 = .ok (.astore_n 3, 1) := by decide +kernel
theorem dL_delay_12 : decode cL_delay 12 = .ok (.iconst 1, 1) := by decide +kernel
theorem dL_delay_13 : decode cL_delay 13 = .ok (.ireturn, 1) := by decide +kernel
theorem dL_delay_14 : decode cL_delay 14 = .ok (.astore_n 3, 1) := by decide +kernel
theorem dL_delay_15 : decode cL_delay 15 = .ok (.iconst 2, 1) := by decide +kernel
theorem dL_delay_16 : decode cL_delay 16 = .ok (.ireturn, 1) := by decide +kernel
theorem dL_delay_17 : decode cL_delay 17 = .ok (.iconst 0, 1) := by decide +kernel
theorem dL_delay_18 : decode cL_delay 18 = .ok (.ireturn, 1) := by decide +kernel
theorem dC_delay_0 : decode cC_delay 0 = .ok (.aload_n 0, 1) := by decide +kernel
theorem dC_delay_1 : decode cC_delay 1 = .ok (.iload_n 1, 1) := by decide +kernel
theorem dC_delay_2 : decode cC_delay 2 = .ok (.invokevirtual 118, 3) := by decide +kernel
theorem dC_delay_5 : decode cC_delay 5 = .ok (.aload_n 0, 1) := by decide +kernel
theorem dC_delay_6 : decode cC_delay 6 = .ok (.getfield 30, 3) := by decide +kernel
theorem dC_delay_9 : decode cC_delay 9 = .ok (.invokevirtual 125, 3) := by decide +kernel
theorem dC_delay_12 : decode cC_delay 12 = .ok (.lreturn, 1) := by decide +kernel
theorem dS_bestDelay_0 : decode cS_bestDelay 0 = .ok (.aload_n 0, 1) := by decide +kernel
theorem dS_bestDelay_1 : decode cS_bestDelay 1 = .ok (.getfield 43, 3) := by decide +kernel
theorem dS_bestDelay_4 : decode cS_bestDelay 4 = .ok (.aload_n 0, 1) := by decide +kernel
theorem dS_bestDelay_5 : decode cS_bestDelay 5 = .ok (.lload_n 1, 1) := by decide +kernel
theorem dS_bestDelay_6 : decode cS_bestDelay 6 = .ok (.invokevirtual 67, 3) := by decide +kernel
theorem dS_bestDelay_9 : decode cS_bestDelay 9 = .ok (.laload, 1) := by decide +kernel
theorem dS_bestDelay_10 : decode cS_bestDelay 10 = .ok (.lreturn, 1) := by decide +kernel
theorem dL_jitter_0 : decode cL_jitter 0 = .ok (.aload_n 2, 1) := by decide +kernel
theorem dL_jitter_1 : decode cL_jitter 1 = .ok (.iconst 0, 1) := by decide +kernel
theorem dL_jitter_2 : decode cL_jitter 2 = .ok (.aload_n 0, 1) := by decide +kernel
theorem dL_jitter_3 : decode cL_jitter 3 = .ok (.iload_n 1, 1) := by decide +kernel
theorem dL_jitter_4 : decode cL_jitter 4 = .ok (.invokevirtual 52, 3) := by decide +kernel
theorem dL_jitter_7 : decode cL_jitter 7 = .ok (.lastore, 1) := by decide +kernel
theorem dL_jitter_8 : decode cL_jitter 8 = .ok (.goto 9, 3) := by decide +kernel
theorem dL_jitter_11 : decode cL_jitter 11 = .ok (.astore_n 3, 1) := by decide +kernel
theorem dL_jitter_12 : decode cL_jitter 12 = .ok (.iconst 1, 1) := by decide +kernel
theorem dL_jitter_13 : decode cL_jitter 13 = .ok (.ireturn, 1) := by decide +kernel
theorem dL_jitter_14 : decode cL_jitter 14 = .ok (.astore_n 3, 1) := by decide +kernel
theorem dL_jitter_15 : decode cL_jitter 15 = .ok (.iconst 2, 1) := by decide +kernel
theorem dL_jitter_16 : decode cL_jitter 16 = .ok (.ireturn, 1) := by decide +kernel
theorem dL_jitter_17 : decode cL_jitter 17 = .ok (.iconst 0, 1) := by decide +kernel
theorem dL_jitter_18 : decode cL_jitter 18 = .ok (.ireturn, 1) := by decide +kernel
theorem dC_jitter_0 : decode cC_jitter 0 = .ok (.aload_n 0, 1) := by decide +kernel
theorem dC_jitter_1 : decode cC_jitter 1 = .ok (.iload_n 1, 1) := by decide +kernel
theorem dC_jitter_2 : decode cC_jitter 2 = .ok (.invokevirtual 118, 3) := by decide +kernel
theorem dC_jitter_5 : decode cC_jitter 5 = .ok (.aload_n 0, 1) := by decide +kernel
theorem dC_jitter_6 : decode cC_jitter 6 = .ok (.getfield 30, 3) := by decide +kernel
theorem dC_jitter_9 : decode cC_jitter 9 = .ok (.invokevirtual 128, 3) := by decide +kernel
theorem dC_jitter_12 : decode cC_jitter 12 = .ok (.lreturn, 1) := by decide +kernel
theorem dS_jitterAt_0 : decode cS_jitterAt 0 = .ok (.aload_n 0, 1) := by decide +kernel
theorem dS_jitterAt_1 : decode cS_jitterAt 1 = .ok (.aload_n 0, 1) := by decide +kernel
theorem dS_jitterAt_2 : decode cS_jitterAt 2 = .ok (.getfield 39, 3) := by decide +kernel
theorem dS_jitterAt_5 : decode cS_jitterAt 5 = .ok (.aload_n 0, 1) := by decide +kernel
theorem dS_jitterAt_6 : decode cS_jitterAt 6 = .ok (.lload_n 1, 1) := by decide +kernel
theorem dS_jitterAt_7 : decode cS_jitterAt 7 = .ok (.invokevirtual 67, 3) := by decide +kernel
theorem dS_jitterAt_10 : decode cS_jitterAt 10 = .ok (.laload, 1) := by decide +kernel
theorem dS_jitterAt_11 : decode cS_jitterAt 11 = .ok (.invokevirtual 71, 3) := by decide +kernel
theorem dS_jitterAt_14 : decode cS_jitterAt 14 = .ok (.lreturn, 1) := by decide +kernel
theorem dL_distance_0 : decode cL_distance 0 = .ok (.aload_n 2, 1) := by decide +kernel
theorem dL_distance_1 : decode cL_distance 1 = .ok (.iconst 0, 1) := by decide +kernel
theorem dL_distance_2 : decode cL_distance 2 = .ok (.aload_n 0, 1) := by decide +kernel
theorem dL_distance_3 : decode cL_distance 3 = .ok (.iload_n 1, 1) := by decide +kernel
theorem dL_distance_4 : decode cL_distance 4 = .ok (.invokevirtual 55, 3) := by decide +kernel
theorem dL_distance_7 : decode cL_distance 7 = .ok (.lastore, 1) := by decide +kernel
theorem dL_distance_8 : decode cL_distance 8 = .ok (.goto 9, 3) := by decide +kernel
theorem dL_distance_11 : decode cL_distance 11 = .ok (.astore_n 3, 1) := by decide +kernel
theorem dL_distance_12 : decode cL_distance 12 = .ok (.iconst 1, 1) := by decide +kernel
theorem dL_distance_13 : decode cL_distance 13 = .ok (.ireturn, 1) := by decide +kernel
theorem dL_distance_14 : decode cL_distance 14 = .ok (.astore_n 3, 1) := by decide +kernel
theorem dL_distance_15 : decode cL_distance 15 = .ok (.iconst 2, 1) := by decide +kernel
theorem dL_distance_16 : decode cL_distance 16 = .ok (.ireturn, 1) := by decide +kernel
theorem dL_distance_17 : decode cL_distance 17 = .ok (.iconst 0, 1) := by decide +kernel
theorem dL_distance_18 : decode cL_distance 18 = .ok (.ireturn, 1) := by decide +kernel
theorem dC_distance_0 : decode cC_distance 0 = .ok (.aload_n 0, 1) := by decide +kernel
theorem dC_distance_1 : decode cC_distance 1 = .ok (.iload_n 1, 1) := by decide +kernel
theorem dC_distance_2 : decode cC_distance 2 = .ok (.invokevirtual 118, 3) := by decide +kernel
theorem dC_distance_5 : decode cC_distance 5 = .ok (.aload_n 0, 1) := by decide +kernel
theorem dC_distance_6 : decode cC_distance 6 = .ok (.getfield 30, 3) := by decide +kernel
theorem dC_distance_9 : decode cC_distance 9 = .ok (.invokevirtual 131, 3) := by decide +kernel
theorem dC_distance_12 : decode cC_distance 12 = .ok (.lreturn, 1) := by decide +kernel
theorem dL_low_0 : decode cL_low 0 = .ok (.aload_n 1, 1) := by decide +kernel
theorem dL_low_1 : decode cL_low 1 = .ok (.iconst 0, 1) := by decide +kernel
theorem dL_low_2 : decode cL_low 2 = .ok (.aload_n 0, 1) := by decide +kernel
theorem dL_low_3 : decode cL_low 3 = .ok (.invokevirtual 58, 3) := by decide +kernel
theorem dL_low_6 : decode cL_low 6 = .ok (.lastore, 1) := by decide +kernel
theorem dL_low_7 : decode cL_low 7 = .ok (.goto 6, 3) := by decide +kernel
theorem dL_low_10 : decode cL_low 10 = .ok (.astore_n 2, 1) := by decide +kernel
theorem dL_low_11 : decode cL_low 11 = .ok (.iconst 1, 1) := by decide +kernel
theorem dL_low_12 : decode cL_low 12 = .ok (.ireturn, 1) := by decide +kernel
theorem dL_low_13 : decode cL_low 13 = .ok (.iconst 0, 1) := by decide +kernel
theorem dL_low_14 : decode cL_low 14 = .ok (.ireturn, 1) := by decide +kernel
theorem dC_low_0 : decode cC_low 0 = .ok (.aload_n 0, 1) := by decide +kernel
theorem dC_low_1 : decode cC_low 1 = .ok (.getfield 26, 3) := by decide +kernel
theorem dC_low_4 : decode cC_low 4 = .ok (.aload_n 0, 1) := by decide +kernel
theorem dC_low_5 : decode cC_low 5 = .ok (.getfield 18, 3) := by decide +kernel
theorem dC_low_8 : decode cC_low 8 = .ok (.aload_n 0, 1) := by decide +kernel
theorem dC_low_9 : decode cC_low 9 = .ok (.getfield 30, 3) := by decide +kernel
theorem dC_low_12 : decode cC_low 12 = .ok (.invokevirtual 134, 3) := by decide +kernel
theorem dC_low_15 : decode cC_low 15 = .ok (.aload_n 0, 1) := by decide +kernel
theorem dC_low_16 : decode cC_low 16 = .ok (.getfield 26, 3) := by decide +kernel
theorem dC_low_19 : decode cC_low 19 = .ok (.invokevirtual 141, 3) := by decide +kernel
theorem dC_low_22 : decode cC_low 22 = .ok (.ifCond .ne 11, 3) := by decide +kernel
theorem dC_low_25 : decode cC_low 25 = .ok (.new 144, 3) := by decide +kernel
theorem dC_low_28 : decode cC_low 28 = .ok (.dup, 1) := by decide +kernel
theorem dC_low_29 : decode cC_low 29 = .ok (.invokespecial 146, 3) := by decide +kernel
theorem dC_low_32 : decode cC_low 32 = .ok (.athrow, 1) := by decide +kernel
theorem dC_low_33 : decode cC_low 33 = .ok (.aload_n 0, 1) := by decide +kernel
theorem dC_low_34 : decode cC_low 34 = .ok (.getfield 26, 3) := by decide +kernel
theorem dC_low_37 : decode cC_low 37 = .ok (.getfield 147, 3) := by decide +kernel
theorem dC_low_40 : decode cC_low 40 = .ok (.lreturn, 1) := by decide +kernel
theorem dV_hasMajority_0 : decode cV_hasMajority 0 = .ok (.aload_n 0, 1) := by decide +kernel
theorem dV_hasMajority_1 : decode cV_hasMajority 1 = .ok (.getfield 17, 3) := by decide +kernel
theorem dV_hasMajority_4 : decode cV_hasMajority 4 = .ok (.aload_n 0, 1) := by decide +kernel
theorem dV_hasMajority_5 : decode cV_hasMajority 5 = .ok (.getfield 23, 3) := by decide +kernel
theorem dV_hasMajority_8 : decode cV_hasMajority 8 = .ok (.lcmp, 1) := by decide +kernel
theorem dV_hasMajority_9 : decode cV_hasMajority 9 = .ok (.ifCond .gt 7, 3) := by decide +kernel
theorem dV_hasMajority_12 : decode cV_hasMajority 12 = .ok (.iconst 1, 1) := by decide +kernel
theorem dV_hasMajority_13 : decode cV_hasMajority 13 = .ok (.goto 4, 3) := by decide +kernel
theorem dV_hasMajority_16 : decode cV_hasMajority 16 = .ok (.iconst 0, 1) := by decide +kernel
theorem dV_hasMajority_17 : decode cV_hasMajority 17 = .ok (.ireturn, 1) := by decide +kernel
theorem dL_high_0 : decode cL_high 0 = .ok (.aload_n 1, 1) := by decide +kernel
theorem dL_high_1 : decode cL_high 1 = .ok (.iconst 0, 1) := by decide +kernel
theorem dL_high_2 : decode cL_high 2 = .ok (.aload_n 0, 1) := by decide +kernel
theorem dL_high_3 : decode cL_high 3 = .ok (.invokevirtual 62, 3) := by decide +kernel
theorem dL_high_6 : decode cL_high 6 = .ok (.lastore, 1) := by decide +kernel
theorem dL_high_7 : decode cL_high 7 = .ok (.goto 6, 3) := by decide +kernel
theorem dL_high_10 : decode cL_high 10 = .ok (.astore_n 2, 1) := by decide +kernel
theorem dL_high_11 : decode cL_high 11 = .ok (.iconst 1, 1) := by decide +kernel
theorem dL_high_12 : decode cL_high 12 = .ok (.ireturn, 1) := by decide +kernel
theorem dL_high_13 : decode cL_high 13 = .ok (.iconst 0, 1) := by decide +kernel
theorem dL_high_14 : decode cL_high 14 = .ok (.ireturn, 1) := by decide +kernel
theorem dC_high_0 : decode cC_high 0 = .ok (.aload_n 0, 1) := by decide +kernel
theorem dC_high_1 : decode cC_high 1 = .ok (.getfield 26, 3) := by decide +kernel
theorem dC_high_4 : decode cC_high 4 = .ok (.aload_n 0, 1) := by decide +kernel
theorem dC_high_5 : decode cC_high 5 = .ok (.getfield 18, 3) := by decide +kernel
theorem dC_high_8 : decode cC_high 8 = .ok (.aload_n 0, 1) := by decide +kernel
theorem dC_high_9 : decode cC_high 9 = .ok (.getfield 30, 3) := by decide +kernel
theorem dC_high_12 : decode cC_high 12 = .ok (.invokevirtual 134, 3) := by decide +kernel
theorem dC_high_15 : decode cC_high 15 = .ok (.aload_n 0, 1) := by decide +kernel
theorem dC_high_16 : decode cC_high 16 = .ok (.getfield 26, 3) := by decide +kernel
theorem dC_high_19 : decode cC_high 19 = .ok (.invokevirtual 141, 3) := by decide +kernel
theorem dC_high_22 : decode cC_high 22 = .ok (.ifCond .ne 11, 3) := by decide +kernel
theorem dC_high_25 : decode cC_high 25 = .ok (.new 144, 3) := by decide +kernel
theorem dC_high_28 : decode cC_high 28 = .ok (.dup, 1) := by decide +kernel
theorem dC_high_29 : decode cC_high 29 = .ok (.invokespecial 146, 3) := by decide +kernel
theorem dC_high_32 : decode cC_high 32 = .ok (.athrow, 1) := by decide +kernel
theorem dC_high_33 : decode cC_high 33 = .ok (.aload_n 0, 1) := by decide +kernel
theorem dC_high_34 : decode cC_high 34 = .ok (.getfield 26, 3) := by decide +kernel
theorem dC_high_37 : decode cC_high 37 = .ok (.getfield 150, 3) := by decide +kernel
theorem dC_high_40 : decode cC_high 40 = .ok (.lreturn, 1) := by decide +kernel
theorem dL_peer_0 : decode cL_peer 0 = .ok (.aload_n 1, 1) := by decide +kernel
theorem dL_peer_1 : decode cL_peer 1 = .ok (.iconst 0, 1) := by decide +kernel
theorem dL_peer_2 : decode cL_peer 2 = .ok (.aload_n 0, 1) := by decide +kernel
theorem dL_peer_3 : decode cL_peer 3 = .ok (.invokevirtual 65, 3) := by decide +kernel
theorem dL_peer_6 : decode cL_peer 6 = .ok (.i2l, 1) := by decide +kernel
theorem dL_peer_7 : decode cL_peer 7 = .ok (.lastore, 1) := by decide +kernel
theorem dL_peer_8 : decode cL_peer 8 = .ok (.goto 6, 3) := by decide +kernel
theorem dL_peer_11 : decode cL_peer 11 = .ok (.astore_n 2, 1) := by decide +kernel
theorem dL_peer_12 : decode cL_peer 12 = .ok (.iconst 1, 1) := by decide +kernel
theorem dL_peer_13 : decode cL_peer 13 = .ok (.ireturn, 1) := by decide +kernel
theorem dL_peer_14 : decode cL_peer 14 = .ok (.iconst 0, 1) := by decide +kernel
theorem dL_peer_15 : decode cL_peer 15 = .ok (.ireturn, 1) := by decide +kernel
theorem dC_peer_0 : decode cC_peer 0 = .ok (.aload_n 0, 1) := by decide +kernel
theorem dC_peer_1 : decode cC_peer 1 = .ok (.getfield 26, 3) := by decide +kernel
theorem dC_peer_4 : decode cC_peer 4 = .ok (.aload_n 0, 1) := by decide +kernel
theorem dC_peer_5 : decode cC_peer 5 = .ok (.getfield 18, 3) := by decide +kernel
theorem dC_peer_8 : decode cC_peer 8 = .ok (.aload_n 0, 1) := by decide +kernel
theorem dC_peer_9 : decode cC_peer 9 = .ok (.getfield 30, 3) := by decide +kernel
theorem dC_peer_12 : decode cC_peer 12 = .ok (.invokevirtual 134, 3) := by decide +kernel
theorem dC_peer_15 : decode cC_peer 15 = .ok (.aload_n 0, 1) := by decide +kernel
theorem dC_peer_16 : decode cC_peer 16 = .ok (.getfield 26, 3) := by decide +kernel
theorem dC_peer_19 : decode cC_peer 19 = .ok (.invokevirtual 156, 3) := by decide +kernel
theorem dC_peer_22 : decode cC_peer 22 = .ok (.ifCond .ne 11, 3) := by decide +kernel
theorem dC_peer_25 : decode cC_peer 25 = .ok (.new 144, 3) := by decide +kernel
theorem dC_peer_28 : decode cC_peer 28 = .ok (.dup, 1) := by decide +kernel
theorem dC_peer_29 : decode cC_peer 29 = .ok (.invokespecial 146, 3) := by decide +kernel
theorem dC_peer_32 : decode cC_peer 32 = .ok (.athrow, 1) := by decide +kernel
theorem dC_peer_33 : decode cC_peer 33 = .ok (.aload_n 0, 1) := by decide +kernel
theorem dC_peer_34 : decode cC_peer 34 = .ok (.getfield 26, 3) := by decide +kernel
theorem dC_peer_37 : decode cC_peer 37 = .ok (.aload_n 0, 1) := by decide +kernel
theorem dC_peer_38 : decode cC_peer 38 = .ok (.getfield 18, 3) := by decide +kernel
theorem dC_peer_41 : decode cC_peer 41 = .ok (.invokevirtual 159, 3) := by decide +kernel
theorem dC_peer_44 : decode cC_peer 44 = .ok (.ireturn, 1) := by decide +kernel
theorem dV_agrees_0 : decode cV_agrees 0 = .ok (.aload_n 0, 1) := by decide +kernel
theorem dV_agrees_1 : decode cV_agrees 1 = .ok (.invokevirtual 46, 3) := by decide +kernel
theorem dV_agrees_4 : decode cV_agrees 4 = .ok (.ifCond .eq 14, 3) := by decide +kernel
theorem dV_agrees_7 : decode cV_agrees 7 = .ok (.aload_n 0, 1) := by decide +kernel
theorem dV_agrees_8 : decode cV_agrees 8 = .ok (.getfield 26, 3) := by decide +kernel
theorem dV_agrees_11 : decode cV_agrees 11 = .ok (.ifCond .eq 7, 3) := by decide +kernel
theorem dV_agrees_14 : decode cV_agrees 14 = .ok (.iconst 1, 1) := by decide +kernel
theorem dV_agrees_15 : decode cV_agrees 15 = .ok (.goto 4, 3) := by decide +kernel
theorem dV_agrees_18 : decode cV_agrees 18 = .ok (.iconst 0, 1) := by decide +kernel
theorem dV_agrees_19 : decode cV_agrees 19 = .ok (.ireturn, 1) := by decide +kernel
theorem dV_choosePeer_0 : decode cV_choosePeer 0 = .ok (.iconst (-1), 1) := by decide +kernel
theorem dV_choosePeer_1 : decode cV_choosePeer 1 = .ok (.istore_n 2, 1) := by decide +kernel
theorem dV_choosePeer_2 : decode cV_choosePeer 2 = .ok (.iconst 0, 1) := by decide +kernel
theorem dV_choosePeer_3 : decode cV_choosePeer 3 = .ok (.istore_n 3, 1) := by decide +kernel
theorem dV_choosePeer_4 : decode cV_choosePeer 4 = .ok (.iload_n 3, 1) := by decide +kernel
theorem dV_choosePeer_5 : decode cV_choosePeer 5 = .ok (.iconst 5, 1) := by decide +kernel
theorem dV_choosePeer_6 : decode cV_choosePeer 6 = .ok (.if_icmp .ge 36, 3) := by decide +kernel
theorem dV_choosePeer_9 : decode cV_choosePeer 9 = .ok (.aload_n 0, 1) := by decide +kernel
theorem dV_choosePeer_10 : decode cV_choosePeer 10 = .ok (.getfield 26, 3) := by decide +kernel
theorem dV_choosePeer_13 : decode cV_choosePeer 13 = .ok (.iload_n 3, 1) := by decide +kernel
theorem dV_choosePeer_14 : decode cV_choosePeer 14 = .ok (.invokestatic 50, 3) := by decide +kernel
theorem dV_choosePeer_17 : decode cV_choosePeer 17 = .ok (.ifCond .eq 19, 3) := by decide +kernel
theorem dV_choosePeer_20 : decode cV_choosePeer 20 = .ok (.iload_n 2, 1) := by decide +kernel
theorem dV_choosePeer_21 : decode cV_choosePeer 21 = .ok (.ifCond .lt 13, 3) := by decide +kernel
theorem dV_choosePeer_24 : decode cV_choosePeer 24 = .ok (.aload_n 0, 1) := by decide +kernel
theorem dV_choosePeer_25 : decode cV_choosePeer 25 = .ok (.aload_n 1, 1) := by decide +kernel
theorem dV_choosePeer_26 : decode cV_choosePeer 26 = .ok (.iload_n 3, 1) := by decide +kernel
theorem dV_choosePeer_27 : decode cV_choosePeer 27 = .ok (.iload_n 2, 1) := by decide +kernel
theorem dV_choosePeer_28 : decode cV_choosePeer 28 = .ok (.invokevirtual 54, 3) := by decide +kernel
theorem dV_choosePeer_31 : decode cV_choosePeer 31 = .ok (.ifCond .eq 5, 3) := by decide +kernel
theorem dV_choosePeer_34 : decode cV_choosePeer 34 = .ok (.iload_n 3, 1) := by decide +kernel
theorem dV_choosePeer_35 : decode cV_choosePeer 35 = .ok (.istore_n 2, 1) := by decide +kernel
theorem dV_choosePeer_36 : decode cV_choosePeer 36 = .ok (.iinc 3 1, 3) := by decide +kernel
theorem dV_choosePeer_39 : decode cV_choosePeer 39 = .ok (.goto (-35), 3) := by decide +kernel
theorem dV_choosePeer_42 : decode cV_choosePeer 42 = .ok (.iconst 0, 1) := by decide +kernel
theorem dV_choosePeer_43 : decode cV_choosePeer 43 = .ok (.iload_n 2, 1) := by decide +kernel
theorem dV_choosePeer_44 : decode cV_choosePeer 44 = .ok (.invokestatic 58, 3) := by decide +kernel
theorem dV_choosePeer_47 : decode cV_choosePeer 47 = .ok (.ireturn, 1) := by decide +kernel
theorem dV_isBetter_0 : decode cV_isBetter 0 = .ok (.aload_n 1, 1) := by decide +kernel
theorem dV_isBetter_1 : decode cV_isBetter 1 = .ok (.iload_n 2, 1) := by decide +kernel
theorem dV_isBetter_2 : decode cV_isBetter 2 = .ok (.aaload, 1) := by decide +kernel
theorem dV_isBetter_3 : decode cV_isBetter 3 = .ok (.getfield 117, 3) := by decide +kernel
theorem dV_isBetter_6 : decode cV_isBetter 6 = .ok (.istore 4, 2) := by decide +kernel
theorem dV_isBetter_8 : decode cV_isBetter 8 = .ok (.aload_n 1, 1) := by decide +kernel
theorem dV_isBetter_9 : decode cV_isBetter 9 = .ok (.iload_n 3, 1) := by decide +kernel
theorem dV_isBetter_10 : decode cV_isBetter 10 = .ok (.aaload, 1) := by decide +kernel
theorem dV_isBetter_11 : decode cV_isBetter 11 = .ok (.getfield 117, 3) := by decide +kernel
theorem dV_isBetter_14 : decode cV_isBetter 14 = .ok (.istore 5, 2) := by decide +kernel
theorem dV_isBetter_16 : decode cV_isBetter 16 = .ok (.iload 4, 2) := by decide +kernel
theorem dV_isBetter_18 : decode cV_isBetter 18 = .ok (.iload 5, 2) := by decide +kernel
theorem dV_isBetter_20 : decode cV_isBetter 20 = .ok (.if_icmp .lt 26, 3) := by decide +kernel
theorem dV_isBetter_23 : decode cV_isBetter 23 = .ok (.iload 4, 2) := by decide +kernel
theorem dV_isBetter_25 : decode cV_isBetter 25 = .ok (.iload 5, 2) := by decide +kernel
theorem dV_isBetter_27 : decode cV_isBetter 27 = .ok (.if_icmp .ne 23, 3) := by decide +kernel
theorem dV_isBetter_30 : decode cV_isBetter 30 = .ok (.aload_n 0, 1) := by decide +kernel
theorem dV_isBetter_31 : decode cV_isBetter 31 = .ok (.getfield 33, 3) := by decide +kernel
theorem dV_isBetter_34 : decode cV_isBetter 34 = .ok (.iload_n 2, 1) := by decide +kernel
theorem dV_isBetter_35 : decode cV_isBetter 35 = .ok (.laload, 1) := by decide +kernel
theorem dV_isBetter_36 : decode cV_isBetter 36 = .ok (.aload_n 0, 1) := by decide +kernel
theorem dV_isBetter_37 : decode cV_isBetter 37 = .ok (.getfield 33, 3) := by decide +kernel
theorem dV_isBetter_40 : decode cV_isBetter 40 = .ok (.iload_n 3, 1) := by decide +kernel
theorem dV_isBetter_41 : decode cV_isBetter 41 = .ok (.laload, 1) := by decide +kernel
theorem dV_isBetter_42 : decode cV_isBetter 42 = .ok (.lcmp, 1) := by decide +kernel
theorem dV_isBetter_43 : decode cV_isBetter 43 = .ok (.ifCond .ge 7, 3) := by decide +kernel
theorem dV_isBetter_46 : decode cV_isBetter 46 = .ok (.iconst 1, 1) := by decide +kernel
theorem dV_isBetter_47 : decode cV_isBetter 47 = .ok (.goto 4, 3) := by decide +kernel
theorem dV_isBetter_50 : decode cV_isBetter 50 = .ok (.iconst 0, 1) := by decide +kernel
theorem dV_isBetter_51 : decode cV_isBetter 51 = .ok (.ireturn, 1) := by decide +kernel
theorem dJ_max_7cf5_0 : decode cJ_max_7cf5 0 = .ok (.iload_n 0, 1) := by decide +kernel
theorem dJ_max_7cf5_1 : decode cJ_max_7cf5 1 = .ok (.iload_n 1, 1) := by decide +kernel
theorem dJ_max_7cf5_2 : decode cJ_max_7cf5 2 = .ok (.if_icmp .lt 7, 3) := by decide +kernel
theorem dJ_max_7cf5_5 : decode cJ_max_7cf5 5 = .ok (.iload_n 0, 1) := by decide +kernel
theorem dJ_max_7cf5_6 : decode cJ_max_7cf5 6 = .ok (.goto 4, 3) := by decide +kernel
theorem dJ_max_7cf5_9 : decode cJ_max_7cf5 9 = .ok (.iload_n 1, 1) := by decide +kernel
theorem dJ_max_7cf5_10 : decode cJ_max_7cf5 10 = .ok (.ireturn, 1) := by decide +kernel
theorem dL_update_0 : decode cL_update 0 = .ok (.aload_n 1, 1) := by decide +kernel
theorem dL_update_1 : decode cL_update 1 = .ok (.iconst 0, 1) := by decide +kernel
theorem dL_update_2 : decode cL_update 2 = .ok (.aload_n 0, 1) := by decide +kernel
theorem dL_update_3 : decode cL_update 3 = .ok (.invokevirtual 69, 3) := by decide +kernel
theorem dL_update_6 : decode cL_update 6 = .ok (.i2l, 1) := by decide +kernel
theorem dL_update_7 : decode cL_update 7 = .ok (.lastore, 1) := by decide +kernel
theorem dL_update_8 : decode cL_update 8 = .ok (.goto 9, 3) := by decide +kernel
theorem dL_update_11 : decode cL_update 11 = .ok (.astore_n 2, 1) := by decide +kernel
theorem dL_update_12 : decode cL_update 12 = .ok (.iconst 1, 1) := by decide +kernel
theorem dL_update_13 : decode cL_update 13 = .ok (.ireturn, 1) := by decide +kernel
theorem dL_update_14 : decode cL_update 14 = .ok (.astore_n 2, 1) := by decide +kernel
theorem dL_update_15 : decode cL_update 15 = .ok (.iconst 2, 1) := by decide +kernel
theorem dL_update_16 : decode cL_update 16 = .ok (.ireturn, 1) := by decide +kernel
theorem dL_update_17 : decode cL_update 17 = .ok (.iconst 0, 1) := by decide +kernel
theorem dL_update_18 : decode cL_update 18 = .ok (.ireturn, 1) := by decide +kernel
theorem dC_update_0 : decode cC_update 0 = .ok (.aload_n 0, 1) := by decide +kernel
theorem dC_update_1 : decode cC_update 1 = .ok (.getfield 26, 3) := by decide +kernel
theorem dC_update_4 : decode cC_update 4 = .ok (.aload_n 0, 1) := by decide +kernel
theorem dC_update_5 : decode cC_update 5 = .ok (.getfield 18, 3) := by decide +kernel
theorem dC_update_8 : decode cC_update 8 = .ok (.aload_n 0, 1) := by decide +kernel
theorem dC_update_9 : decode cC_update 9 = .ok (.getfield 30, 3) := by decide +kernel
theorem dC_update_12 : decode cC_update 12 = .ok (.invokevirtual 134, 3) := by decide +kernel
theorem dC_update_15 : decode cC_update 15 = .ok (.aload_n 0, 1) := by decide +kernel
theorem dC_update_16 : decode cC_update 16 = .ok (.getfield 26, 3) := by decide +kernel
theorem dC_update_19 : decode cC_update 19 = .ok (.invokevirtual 156, 3) := by decide +kernel
theorem dC_update_22 : decode cC_update 22 = .ok (.ifCond .ne 11, 3) := by decide +kernel
theorem dC_update_25 : decode cC_update 25 = .ok (.new 71, 3) := by decide +kernel
theorem dC_update_28 : decode cC_update 28 = .ok (.dup, 1) := by decide +kernel
theorem dC_update_29 : decode cC_update 29 = .ok (.invokespecial 73, 3) := by decide +kernel
theorem dC_update_32 : decode cC_update 32 = .ok (.athrow, 1) := by decide +kernel
theorem dC_update_33 : decode cC_update 33 = .ok (.aload_n 0, 1) := by decide +kernel
theorem dC_update_34 : decode cC_update 34 = .ok (.getfield 26, 3) := by decide +kernel
theorem dC_update_37 : decode cC_update 37 = .ok (.invokevirtual 163, 3) := by decide +kernel
theorem dC_update_40 : decode cC_update 40 = .ok (.lstore_n 1, 1) := by decide +kernel
theorem dC_update_41 : decode cC_update 41 = .ok (.lload_n 1, 1) := by decide +kernel
theorem dC_update_42 : decode cC_update 42 = .ok (.invokestatic 167, 3) := by decide +kernel
theorem dC_update_45 : decode cC_update 45 = .ok (.lstore_n 3, 1) := by decide +kernel
theorem dC_update_46 : decode cC_update 46 = .ok (.lload_n 3, 1) := by decide +kernel
theorem dC_update_47 : decode cC_update 47 = .ok (.ldc2_w 170, 3) := by decide +kernel
theorem dC_update_50 : decode cC_update 50 = .ok (.lcmp, 1) := by decide +kernel
theorem dC_update_51 : decode cC_update 51 = .ok (.ifCond .le 18, 3) := by decide +kernel
theorem dC_update_54 : decode cC_update 54 = .ok (.aload_n 0, 1) := by decide +kernel
theorem dC_update_55 : decode cC_update 55 = .ok (.getfield 37, 3) := by decide +kernel
theorem dC_update_58 : decode cC_update 58 = .ok (.ifCond .eq 11, 3) := by decide +kernel
theorem dC_update_61 : decode cC_update 61 = .ok (.new 172, 3) := by decide +kernel
theorem dC_update_64 : decode cC_update 64 = .ok (.dup, 1) := by decide +kernel
theorem dC_update_65 : decode cC_update 65 = .ok (.invokespecial 174, 3) := by decide +kernel
theorem dC_update_68 : decode cC_update 68 = .ok (.athrow, 1) := by decide +kernel
theorem dC_update_69 : decode cC_update 69 = .ok (.aload_n 0, 1) := by decide +kernel
theorem dC_update_70 : decode cC_update 70 = .ok (.iconst 1, 1) := by decide +kernel
theorem dC_update_71 : decode cC_update 71 = .ok (.putfield 37, 3) := by decide +kernel
theorem dC_update_74 : decode cC_update 74 = .ok (.lload_n 3, 1) := by decide +kernel
theorem dC_update_75 : decode cC_update 75 = .ok (.ldc2_w 175, 3) := by decide +kernel
theorem dC_update_78 : decode cC_update 78 = .ok (.lcmp, 1) := by decide +kernel
theorem dC_update_79 : decode cC_update 79 = .ok (.ifCond .le 10, 3) := by decide +kernel
theorem dC_update_82 : decode cC_update 82 = .ok (.aload_n 0, 1) := by decide +kernel
theorem dC_update_83 : decode cC_update 83 = .ok (.lload_n 1, 1) := by decide +kernel
theorem dC_update_84 : decode cC_update 84 = .ok (.invokevirtual 177, 3) := by decide +kernel
theorem dC_update_87 : decode cC_update 87 = .ok (.iconst 1, 1) := by decide +kernel
theorem dC_update_88 : decode cC_update 88 = .ok (.ireturn, 1) := by decide +kernel
theorem dC_update_89 : decode cC_update 89 = .ok (.aload_n 0, 1) := by decide +kernel
theorem dC_update_90 : decode cC_update 90 = .ok (.lload_n 1, 1) := by decide +kernel
theorem dC_update_91 : decode cC_update 91 = .ok (.putfield 34, 3) := by decide +kernel
theorem dC_update_94 : decode cC_update 94 = .ok (.aload_n 0, 1) := by decide +kernel
theorem dC_update_95 : decode cC_update 95 = .ok (.lload_n 3, 1) := by decide +kernel
theorem dC_update_96 : decode cC_update 96 = .ok (.invokevirtual 180, 3) := by decide +kernel
theorem dC_update_99 : decode cC_update 99 = .ok (.iconst 0, 1) := by decide +kernel
theorem dC_update_100 : decode cC_update 100 = .ok (.ireturn, 1) := by decide +kernel
theorem dV_combinedOffset_0 : decode cV_combinedOffset 0 = .ok (.lconst 0, 1) := by decide +kernel
theorem dV_combinedOffset_1 : decode cV_combinedOffset 1 = .ok (.lstore_n 1, 1) := by decide +kernel
theorem dV_combinedOffset_2 : decode cV_combinedOffset 2 = .ok (.iconst 0, 1) := by decide +kernel
theorem dV_combinedOffset_3 : decode cV_combinedOffset 3 = .ok (.istore_n 3, 1) := by decide +kernel
theorem dV_combinedOffset_4 : decode cV_combinedOffset 4 = .ok (.iload_n 3, 1) := by decide +kernel
theorem dV_combinedOffset_5 : decode cV_combinedOffset 5 = .ok (.iconst 5, 1) := by decide +kernel
theorem dV_combinedOffset_6 : decode cV_combinedOffset 6 = .ok (.if_icmp .ge 29, 3) := by decide +kernel
theorem dV_combinedOffset_9 : decode cV_combinedOffset 9 = .ok (.aload_n 0, 1) := by decide +kernel
theorem dV_combinedOffset_10 : decode cV_combinedOffset 10 = .ok (.getfield 26, 3) := by decide +kernel
theorem dV_combinedOffset_13 : decode cV_combinedOffset 13 = .ok (.iload_n 3, 1) := by decide +kernel
theorem dV_combinedOffset_14 : decode cV_combinedOffset 14 = .ok (.invokestatic 50, 3) := by decide +kernel
theorem dV_combinedOffset_17 : decode cV_combinedOffset 17 = .ok (.ifCond .eq 12, 3) := by decide +kernel
theorem dV_combinedOffset_20 : decode cV_combinedOffset 20 = .ok (.lload_n 1, 1) := by decide +kernel
theorem dV_combinedOffset_21 : decode cV_combinedOffset 21 = .ok (.aload_n 0, 1) := by decide +kernel
theorem dV_combinedOffset_22 : decode cV_combinedOffset 22 = .ok (.getfield 29, 3) := by decide +kernel
theorem dV_combinedOffset_25 : decode cV_combinedOffset 25 = .ok (.iload_n 3, 1) := by decide +kernel
theorem dV_combinedOffset_26 : decode cV_combinedOffset 26 = .ok (.laload, 1) := by decide +kernel
theorem dV_combinedOffset_27 : decode cV_combinedOffset 27 = .ok (.ladd, 1) := by decide +kernel
theorem dV_combinedOffset_28 : decode cV_combinedOffset 28 = .ok (.lstore_n 1, 1) := by decide +kernel
theorem dV_combinedOffset_29 : decode cV_combinedOffset 29 = .ok (.iinc 3 1, 3) := by decide +kernel
theorem dV_combinedOffset_32 : decode cV_combinedOffset 32 = .ok (.goto (-28), 3) := by decide +kernel
theorem dV_combinedOffset_35 : decode cV_combinedOffset 35 = .ok (.lload_n 1, 1) := by decide +kernel
theorem dV_combinedOffset_36 : decode cV_combinedOffset 36 = .ok (.iconst 1, 1) := by decide +kernel
theorem dV_combinedOffset_37 : decode cV_combinedOffset 37 = .ok (.aload_n 0, 1) := by decide +kernel
theorem dV_combinedOffset_38 : decode cV_combinedOffset 38 = .ok (.getfield 26, 3) := by decide +kernel
theorem dV_combinedOffset_41 : decode cV_combinedOffset 41 = .ok (.invokestatic 64, 3) := by decide +kernel
theorem dV_combinedOffset_44 : decode cV_combinedOffset 44 = .ok (.invokestatic 58, 3) := by decide +kernel
theorem dV_combinedOffset_47 : decode cV_combinedOffset 47 = .ok (.i2l, 1) := by decide +kernel
theorem dV_combinedOffset_48 : decode cV_combinedOffset 48 = .ok (.invokestatic 70, 3) := by decide +kernel
theorem dV_combinedOffset_51 : decode cV_combinedOffset 51 = .ok (.lreturn, 1) := by decide +kernel
theorem dC_stepBy_0 : decode cC_stepBy 0 = .ok (.aload_n 0, 1) := by decide +kernel
theorem dC_stepBy_1 : decode cC_stepBy 1 = .ok (.dup, 1) := by decide +kernel
theorem dC_stepBy_2 : decode cC_stepBy 2 = .ok (.getfield 30, 3) := by decide +kernel
theorem dC_stepBy_5 : decode cC_stepBy 5 = .ok (.lload_n 1, 1) := by decide +kernel
theorem dC_stepBy_6 : decode cC_stepBy 6 = .ok (.ladd, 1) := by decide +kernel
theorem dC_stepBy_7 : decode cC_stepBy 7 = .ok (.putfield 30, 3) := by decide +kernel
theorem dC_stepBy_10 : decode cC_stepBy 10 = .ok (.aload_n 0, 1) := by decide +kernel
theorem dC_stepBy_11 : decode cC_stepBy 11 = .ok (.lconst 0, 1) := by decide +kernel
theorem dC_stepBy_12 : decode cC_stepBy 12 = .ok (.putfield 34, 3) := by decide +kernel
theorem dC_stepBy_15 : decode cC_stepBy 15 = .ok (.iconst 0, 1) := by decide +kernel
theorem dC_stepBy_16 : decode cC_stepBy 16 = .ok (.istore_n 3, 1) := by decide +kernel
theorem dC_stepBy_17 : decode cC_stepBy 17 = .ok (.iload_n 3, 1) := by decide +kernel
theorem dC_stepBy_18 : decode cC_stepBy 18 = .ok (.iconst 5, 1) := by decide +kernel
theorem dC_stepBy_19 : decode cC_stepBy 19 = .ok (.if_icmp .ge 18, 3) := by decide +kernel
theorem dC_stepBy_22 : decode cC_stepBy 22 = .ok (.aload_n 0, 1) := by decide +kernel
theorem dC_stepBy_23 : decode cC_stepBy 23 = .ok (.getfield 18, 3) := by decide +kernel
theorem dC_stepBy_26 : decode cC_stepBy 26 = .ok (.iload_n 3, 1) := by decide +kernel
theorem dC_stepBy_27 : decode cC_stepBy 27 = .ok (.aaload, 1) := by decide +kernel
theorem dC_stepBy_28 : decode cC_stepBy 28 = .ok (.invokevirtual 206, 3) := by decide +kernel
theorem dC_stepBy_31 : decode cC_stepBy 31 = .ok (.iinc 3 1, 3) := by decide +kernel
theorem dC_stepBy_34 : decode cC_stepBy 34 = .ok (.goto (-17), 3) := by decide +kernel
theorem dC_stepBy_37 : decode cC_stepBy 37 = .ok (.return_, 1) := by decide +kernel
theorem dS_forget_0 : decode cS_forget 0 = .ok (.aload_n 0, 1) := by decide +kernel
theorem dS_forget_1 : decode cS_forget 1 = .ok (.iconst 0, 1) := by decide +kernel
theorem dS_forget_2 : decode cS_forget 2 = .ok (.putfield 20, 3) := by decide +kernel
theorem dS_forget_5 : decode cS_forget 5 = .ok (.aload_n 0, 1) := by decide +kernel
theorem dS_forget_6 : decode cS_forget 6 = .ok (.iconst 0, 1) := by decide +kernel
theorem dS_forget_7 : decode cS_forget 7 = .ok (.putfield 27, 3) := by decide +kernel
theorem dS_forget_10 : decode cS_forget 10 = .ok (.aload_n 0, 1) := by decide +kernel
theorem dS_forget_11 : decode cS_forget 11 = .ok (.iconst 0, 1) := by decide +kernel
theorem dS_forget_12 : decode cS_forget 12 = .ok (.putfield 13, 3) := by decide +kernel
theorem dS_forget_15 : decode cS_forget 15 = .ok (.return_, 1) := by decide +kernel
