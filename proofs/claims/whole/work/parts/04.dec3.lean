theorem dC_tunePolls_0 : decode cC_tunePolls 0 = .ok (.aload_n 0, 1) := by decide +kernel
theorem dC_tunePolls_1 : decode cC_tunePolls 1 = .ok (.getfield 18, 3) := by decide +kernel
theorem dC_tunePolls_4 : decode cC_tunePolls 4 = .ok (.aload_n 0, 1) := by decide +kernel
theorem dC_tunePolls_5 : decode cC_tunePolls 5 = .ok (.getfield 26, 3) := by decide +kernel
theorem dC_tunePolls_8 : decode cC_tunePolls 8 = .ok (.aload_n 0, 1) := by decide +kernel
theorem dC_tunePolls_9 : decode cC_tunePolls 9 = .ok (.getfield 18, 3) := by decide +kernel
theorem dC_tunePolls_12 : decode cC_tunePolls 12 = .ok (.invokevirtual 159, 3) := by decide +kernel
theorem dC_tunePolls_15 : decode cC_tunePolls 15 = .ok (.aaload, 1) := by decide +kernel
theorem dC_tunePolls_16 : decode cC_tunePolls 16 = .ok (.aload_n 0, 1) := by decide +kernel
theorem dC_tunePolls_17 : decode cC_tunePolls 17 = .ok (.getfield 30, 3) := by decide +kernel
theorem dC_tunePolls_20 : decode cC_tunePolls 20 = .ok (.invokevirtual 128, 3) := by decide +kernel
theorem dC_tunePolls_23 : decode cC_tunePolls 23 = .ok (.lstore_n 3, 1) := by decide +kernel
theorem dC_tunePolls_24 : decode cC_tunePolls 24 = .ok (.lload_n 1, 1) := by decide +kernel
theorem dC_tunePolls_25 : decode cC_tunePolls 25 = .ok (.ldc2_w 209, 3) := by decide +kernel
theorem dC_tunePolls_28 : decode cC_tunePolls 28 = .ok (.lload_n 3, 1) := by decide +kernel
theorem dC_tunePolls_29 : decode cC_tunePolls 29 = .ok (.lmul, 1) := by decide +kernel
theorem dC_tunePolls_30 : decode cC_tunePolls 30 = .ok (.ldc2_w 186, 3) := by decide +kernel
theorem dC_tunePolls_33 : decode cC_tunePolls 33 = .ok (.ladd, 1) := by decide +kernel
theorem dC_tunePolls_34 : decode cC_tunePolls 34 = .ok (.lcmp, 1) := by decide +kernel
theorem dC_tunePolls_35 : decode cC_tunePolls 35 = .ok (.ifCond .gt 7, 3) := by decide +kernel
theorem dC_tunePolls_38 : decode cC_tunePolls 38 = .ok (.iconst 1, 1) := by decide +kernel
theorem dC_tunePolls_39 : decode cC_tunePolls 39 = .ok (.goto 4, 3) := by decide +kernel
theorem dC_tunePolls_42 : decode cC_tunePolls 42 = .ok (.iconst 0, 1) := by decide +kernel
theorem dC_tunePolls_43 : decode cC_tunePolls 43 = .ok (.istore 5, 2) := by decide +kernel
theorem dC_tunePolls_45 : decode cC_tunePolls 45 = .ok (.iconst 0, 1) := by decide +kernel
theorem dC_tunePolls_46 : decode cC_tunePolls 46 = .ok (.istore 6, 2) := by decide +kernel
theorem dC_tunePolls_48 : decode cC_tunePolls 48 = .ok (.iload 6, 2) := by decide +kernel
theorem dC_tunePolls_50 : decode cC_tunePolls 50 = .ok (.iconst 5, 1) := by decide +kernel
theorem dC_tunePolls_51 : decode cC_tunePolls 51 = .ok (.if_icmp .ge 52, 3) := by decide +kernel
theorem dC_tunePolls_54 : decode cC_tunePolls 54 = .ok (.iload 5, 2) := by decide +kernel
theorem dC_tunePolls_56 : decode cC_tunePolls 56 = .ok (.ifCond .ne 16, 3) := by decide +kernel
theorem dC_tunePolls_59 : decode cC_tunePolls 59 = .ok (.aload_n 0, 1) := by decide +kernel
theorem dC_tunePolls_60 : decode cC_tunePolls 60 = .ok (.getfield 18, 3) := by decide +kernel
theorem dC_tunePolls_63 : decode cC_tunePolls 63 = .ok (.iload 6, 2) := by decide +kernel
theorem dC_tunePolls_65 : decode cC_tunePolls 65 = .ok (.aaload, 1) := by decide +kernel
theorem dC_tunePolls_66 : decode cC_tunePolls 66 = .ok (.invokevirtual 211, 3) := by decide +kernel
theorem dC_tunePolls_69 : decode cC_tunePolls 69 = .ok (.goto 28, 3) := by decide +kernel
theorem dC_tunePolls_72 : decode cC_tunePolls 72 = .ok (.aload_n 0, 1) := by decide +kernel
theorem dC_tunePolls_73 : decode cC_tunePolls 73 = .ok (.getfield 26, 3) := by decide +kernel
theorem dC_tunePolls_76 : decode cC_tunePolls 76 = .ok (.getfield 153, 3) := by decide +kernel
theorem dC_tunePolls_79 : decode cC_tunePolls 79 = .ok (.iload 6, 2) := by decide +kernel
theorem dC_tunePolls_81 : decode cC_tunePolls 81 = .ok (.invokestatic 214, 3) := by decide +kernel
theorem dC_tunePolls_84 : decode cC_tunePolls 84 = .ok (.ifCond .eq 13, 3) := by decide +kernel
theorem dC_tunePolls_87 : decode cC_tunePolls 87 = .ok (.aload_n 0, 1) := by decide +kernel
theorem dC_tunePolls_88 : decode cC_tunePolls 88 = .ok (.getfield 18, 3) := by decide +kernel
theorem dC_tunePolls_91 : decode cC_tunePolls 91 = .ok (.iload 6, 2) := by decide +kernel
theorem dC_tunePolls_93 : decode cC_tunePolls 93 = .ok (.aaload, 1) := by decide +kernel
theorem dC_tunePolls_94 : decode cC_tunePolls 94 = .ok (.invokevirtual 218, 3) := by decide +kernel
theorem dC_tunePolls_97 : decode cC_tunePolls 97 = .ok (.iinc 6 1, 3) := by decide +kernel
theorem dC_tunePolls_100 : decode cC_tunePolls 100 = .ok (.goto (-52), 3) := by decide +kernel
theorem dC_tunePolls_103 : decode cC_tunePolls 103 = .ok (.return_, 1) := by decide +kernel
theorem dS_pollSooner_0 : decode cS_pollSooner 0 = .ok (.aload_n 0, 1) := by decide +kernel
theorem dS_pollSooner_1 : decode cS_pollSooner 1 = .ok (.iconst 4, 1) := by decide +kernel
theorem dS_pollSooner_2 : decode cS_pollSooner 2 = .ok (.aload_n 0, 1) := by decide +kernel
theorem dS_pollSooner_3 : decode cS_pollSooner 3 = .ok (.getfield 17, 3) := by decide +kernel
theorem dS_pollSooner_6 : decode cS_pollSooner 6 = .ok (.iconst 1, 1) := by decide +kernel
theorem dS_pollSooner_7 : decode cS_pollSooner 7 = .ok (.isub, 1) := by decide +kernel
theorem dS_pollSooner_8 : decode cS_pollSooner 8 = .ok (.invokestatic 64, 3) := by decide +kernel
theorem dS_pollSooner_11 : decode cS_pollSooner 11 = .ok (.putfield 17, 3) := by decide +kernel
theorem dS_pollSooner_14 : decode cS_pollSooner 14 = .ok (.return_, 1) := by decide +kernel
theorem dM_init_0 : decode cM_init 0 = .ok (.aload_n 0, 1) := by decide +kernel
theorem dM_init_1 : decode cM_init 1 = .ok (.invokespecial 1, 3) := by decide +kernel
theorem dM_init_4 : decode cM_init 4 = .ok (.aload_n 0, 1) := by decide +kernel
theorem dM_init_5 : decode cM_init 5 = .ok (.bipush 48, 2) := by decide +kernel
theorem dM_init_7 : decode cM_init 7 = .ok (.newarray .int, 2) := by decide +kernel
theorem dM_init_9 : decode cM_init 9 = .ok (.putfield 7, 3) := by decide +kernel
theorem dM_init_12 : decode cM_init 12 = .ok (.aload_n 0, 1) := by decide +kernel
theorem dM_init_13 : decode cM_init 13 = .ok (.iconst 5, 1) := by decide +kernel
theorem dM_init_14 : decode cM_init 14 = .ok (.newarray .boolean, 2) := by decide +kernel
theorem dM_init_16 : decode cM_init 16 = .ok (.putfield 13, 3) := by decide +kernel
theorem dM_init_19 : decode cM_init 19 = .ok (.aload_n 0, 1) := by decide +kernel
theorem dM_init_20 : decode cM_init 20 = .ok (.iconst 5, 1) := by decide +kernel
theorem dM_init_21 : decode cM_init 21 = .ok (.newarray .int, 2) := by decide +kernel
theorem dM_init_23 : decode cM_init 23 = .ok (.putfield 17, 3) := by decide +kernel
theorem dM_init_26 : decode cM_init 26 = .ok (.aload_n 0, 1) := by decide +kernel
theorem dM_init_27 : decode cM_init 27 = .ok (.iconst 5, 1) := by decide +kernel
theorem dM_init_28 : decode cM_init 28 = .ok (.newarray .int, 2) := by decide +kernel
theorem dM_init_30 : decode cM_init 30 = .ok (.putfield 20, 3) := by decide +kernel
theorem dM_init_33 : decode cM_init 33 = .ok (.aload_n 0, 1) := by decide +kernel
theorem dM_init_34 : decode cM_init 34 = .ok (.iconst 5, 1) := by decide +kernel
theorem dM_init_35 : decode cM_init 35 = .ok (.newarray .boolean, 2) := by decide +kernel
theorem dM_init_37 : decode cM_init 37 = .ok (.putfield 23, 3) := by decide +kernel
theorem dM_init_40 : decode cM_init 40 = .ok (.aload_n 0, 1) := by decide +kernel
theorem dM_init_41 : decode cM_init 41 = .ok (.iconst 5, 1) := by decide +kernel
theorem dM_init_42 : decode cM_init 42 = .ok (.newarray .long, 2) := by decide +kernel
theorem dM_init_44 : decode cM_init 44 = .ok (.putfield 26, 3) := by decide +kernel
theorem dM_init_47 : decode cM_init 47 = .ok (.aload_n 0, 1) := by decide +kernel
theorem dM_init_48 : decode cM_init 48 = .ok (.iconst 5, 1) := by decide +kernel
theorem dM_init_49 : decode cM_init 49 = .ok (.newarray .int, 2) := by decide +kernel
theorem dM_init_51 : decode cM_init 51 = .ok (.putfield 30, 3) := by decide +kernel
theorem dM_init_54 : decode cM_init 54 = .ok (.aload_n 0, 1) := by decide +kernel
theorem dM_init_55 : decode cM_init 55 = .ok (.iconst 5, 1) := by decide +kernel
theorem dM_init_56 : decode cM_init 56 = .ok (.newarray .long, 2) := by decide +kernel
theorem dM_init_58 : decode cM_init 58 = .ok (.putfield 33, 3) := by decide +kernel
theorem dM_init_61 : decode cM_init 61 = .ok (.aload_n 0, 1) := by decide +kernel
theorem dM_init_62 : decode cM_init 62 = .ok (.iconst 5, 1) := by decide +kernel
theorem dM_init_63 : decode cM_init 63 = .ok (.newarray .long, 2) := by decide +kernel
theorem dM_init_65 : decode cM_init 65 = .ok (.putfield 36, 3) := by decide +kernel
theorem dM_init_68 : decode cM_init 68 = .ok (.aload_n 0, 1) := by decide +kernel
theorem dM_init_69 : decode cM_init 69 = .ok (.iconst 5, 1) := by decide +kernel
theorem dM_init_70 : decode cM_init 70 = .ok (.newarray .int, 2) := by decide +kernel
theorem dM_init_72 : decode cM_init 72 = .ok (.putfield 39, 3) := by decide +kernel
theorem dM_init_75 : decode cM_init 75 = .ok (.aload_n 0, 1) := by decide +kernel
theorem dM_init_76 : decode cM_init 76 = .ok (.bipush 40, 2) := by decide +kernel
theorem dM_init_78 : decode cM_init 78 = .ok (.newarray .long, 2) := by decide +kernel
theorem dM_init_80 : decode cM_init 80 = .ok (.putfield 42, 3) := by decide +kernel
theorem dM_init_83 : decode cM_init 83 = .ok (.aload_n 0, 1) := by decide +kernel
theorem dM_init_84 : decode cM_init 84 = .ok (.bipush 40, 2) := by decide +kernel
theorem dM_init_86 : decode cM_init 86 = .ok (.newarray .long, 2) := by decide +kernel
theorem dM_init_88 : decode cM_init 88 = .ok (.putfield 45, 3) := by decide +kernel
theorem dM_init_91 : decode cM_init 91 = .ok (.aload_n 0, 1) := by decide +kernel
theorem dM_init_92 : decode cM_init 92 = .ok (.bipush 40, 2) := by decide +kernel
theorem dM_init_94 : decode cM_init 94 = .ok (.newarray .long, 2) := by decide +kernel
theorem dM_init_96 : decode cM_init 96 = .ok (.putfield 48, 3) := by decide +kernel
theorem dM_init_99 : decode cM_init 99 = .ok (.aload_n 0, 1) := by decide +kernel
theorem dM_init_100 : decode cM_init 100 = .ok (.iconst 5, 1) := by decide +kernel
theorem dM_init_101 : decode cM_init 101 = .ok (.newarray .boolean, 2) := by decide +kernel
theorem dM_init_103 : decode cM_init 103 = .ok (.putfield 51, 3) := by decide +kernel
theorem dM_init_106 : decode cM_init 106 = .ok (.iconst 0, 1) := by decide +kernel
theorem dM_init_107 : decode cM_init 107 = .ok (.istore_n 1, 1) := by decide +kernel
theorem dM_init_108 : decode cM_init 108 = .ok (.iload_n 1, 1) := by decide +kernel
theorem dM_init_109 : decode cM_init 109 = .ok (.iconst 5, 1) := by decide +kernel
theorem dM_init_110 : decode cM_init 110 = .ok (.if_icmp .ge 17, 3) := by decide +kernel
theorem dM_init_113 : decode cM_init 113 = .ok (.aload_n 0, 1) := by decide +kernel
theorem dM_init_114 : decode cM_init 114 = .ok (.getfield 20, 3) := by decide +kernel
theorem dM_init_117 : decode cM_init 117 = .ok (.iload_n 1, 1) := by decide +kernel
theorem dM_init_118 : decode cM_init 118 = .ok (.bipush 6, 2) := by decide +kernel
theorem dM_init_120 : decode cM_init 120 = .ok (.iastore, 1) := by decide +kernel
theorem dM_init_121 : decode cM_init 121 = .ok (.iinc 1 1, 3) := by decide +kernel
theorem dM_init_124 : decode cM_init 124 = .ok (.goto (-16), 3) := by decide +kernel
theorem dM_init_127 : decode cM_init 127 = .ok (.return_, 1) := by decide +kernel
theorem dM_thrown_0 : decode cM_thrown 0 = .ok (.aload_n 0, 1) := by decide +kernel
theorem dM_thrown_1 : decode cM_thrown 1 = .ok (.getfield 54, 3) := by decide +kernel
theorem dM_thrown_4 : decode cM_thrown 4 = .ok (.ireturn, 1) := by decide +kernel
theorem dM_run_0 : decode cM_run 0 = .ok (.aload_n 0, 1) := by decide +kernel
theorem dM_run_1 : decode cM_run 1 = .ok (.lload_n 1, 1) := by decide +kernel
theorem dM_run_2 : decode cM_run 2 = .ok (.lconst 0, 1) := by decide +kernel
theorem dM_run_3 : decode cM_run 3 = .ok (.lcmp, 1) := by decide +kernel
theorem dM_run_4 : decode cM_run 4 = .ok (.ifCond .lt 11, 3) := by decide +kernel
theorem dM_run_7 : decode cM_run 7 = .ok (.lload_n 1, 1) := by decide +kernel
theorem dM_run_8 : decode cM_run 8 = .ok (.ldc2_w 58, 3) := by decide +kernel
theorem dM_run_11 : decode cM_run 11 = .ok (.lcmp, 1) := by decide +kernel
theorem dM_run_12 : decode cM_run 12 = .ok (.ifCond .le 7, 3) := by decide +kernel
theorem dM_run_15 : decode cM_run 15 = .ok (.iconst 1, 1) := by decide +kernel
theorem dM_run_16 : decode cM_run 16 = .ok (.goto 4, 3) := by decide +kernel
theorem dM_run_19 : decode cM_run 19 = .ok (.iconst 0, 1) := by decide +kernel
theorem dM_run_20 : decode cM_run 20 = .ok (.putfield 54, 3) := by decide +kernel
theorem dM_run_23 : decode cM_run 23 = .ok (.aload_n 0, 1) := by decide +kernel
theorem dM_run_24 : decode cM_run 24 = .ok (.getfield 54, 3) := by decide +kernel
theorem dM_run_27 : decode cM_run 27 = .ok (.ifCond .le 4, 3) := by decide +kernel
theorem dM_run_30 : decode cM_run 30 = .ok (.return_, 1) := by decide +kernel
theorem dM_run_31 : decode cM_run 31 = .ok (.lload_n 1, 1) := by decide +kernel
theorem dM_run_32 : decode cM_run 32 = .ok (.ldc2_w 60, 3) := by decide +kernel
theorem dM_run_35 : decode cM_run 35 = .ok (.ldiv, 1) := by decide +kernel
theorem dM_run_36 : decode cM_run 36 = .ok (.lstore_n 3, 1) := by decide +kernel
theorem dM_run_37 : decode cM_run 37 = .ok (.aload_n 0, 1) := by decide +kernel
theorem dM_run_38 : decode cM_run 38 = .ok (.getfield 62, 3) := by decide +kernel
theorem dM_run_41 : decode cM_run 41 = .ok (.lload_n 3, 1) := by decide +kernel
theorem dM_run_42 : decode cM_run 42 = .ok (.lcmp, 1) := by decide +kernel
theorem dM_run_43 : decode cM_run 43 = .ok (.ifCond .le 7, 3) := by decide +kernel
theorem dM_run_46 : decode cM_run 46 = .ok (.lload_n 3, 1) := by decide +kernel
theorem dM_run_47 : decode cM_run 47 = .ok (.goto 22, 3) := by decide +kernel
theorem dM_run_50 : decode cM_run 50 = .ok (.aload_n 0, 1) := by decide +kernel
theorem dM_run_51 : decode cM_run 51 = .ok (.getfield 62, 3) := by decide +kernel
theorem dM_run_54 : decode cM_run 54 = .ok (.lload_n 3, 1) := by decide +kernel
theorem dM_run_55 : decode cM_run 55 = .ok (.lneg, 1) := by decide +kernel
theorem dM_run_56 : decode cM_run 56 = .ok (.lcmp, 1) := by decide +kernel
theorem dM_run_57 : decode cM_run 57 = .ok (.ifCond .ge 8, 3) := by decide +kernel
theorem dM_run_60 : decode cM_run 60 = .ok (.lload_n 3, 1) := by decide +kernel
theorem dM_run_61 : decode cM_run 61 = .ok (.lneg, 1) := by decide +kernel
theorem dM_run_62 : decode cM_run 62 = .ok (.goto 7, 3) := by decide +kernel
theorem dM_run_65 : decode cM_run 65 = .ok (.aload_n 0, 1) := by decide +kernel
theorem dM_run_66 : decode cM_run 66 = .ok (.getfield 62, 3) := by decide +kernel
theorem dM_run_69 : decode cM_run 69 = .ok (.lstore 5, 2) := by decide +kernel
theorem dM_run_71 : decode cM_run 71 = .ok (.aload_n 0, 1) := by decide +kernel
theorem dM_run_72 : decode cM_run 72 = .ok (.aload_n 0, 1) := by decide +kernel
theorem dM_run_73 : decode cM_run 73 = .ok (.getfield 66, 3) := by decide +kernel
theorem dM_run_76 : decode cM_run 76 = .ok (.lload_n 1, 1) := by decide +kernel
theorem dM_run_77 : decode cM_run 77 = .ok (.ladd, 1) := by decide +kernel
theorem dM_run_78 : decode cM_run 78 = .ok (.lload 5, 2) := by decide +kernel
theorem dM_run_80 : decode cM_run 80 = .ok (.ladd, 1) := by decide +kernel
theorem dM_run_81 : decode cM_run 81 = .ok (.putfield 66, 3) := by decide +kernel
theorem dM_run_84 : decode cM_run 84 = .ok (.aload_n 0, 1) := by decide +kernel
theorem dM_run_85 : decode cM_run 85 = .ok (.aload_n 0, 1) := by decide +kernel
theorem dM_run_86 : decode cM_run 86 = .ok (.getfield 62, 3) := by decide +kernel
theorem dM_run_89 : decode cM_run 89 = .ok (.lload 5, 2) := by decide +kernel
theorem dM_run_91 : decode cM_run 91 = .ok (.lsub, 1) := by decide +kernel
theorem dM_run_92 : decode cM_run 92 = .ok (.putfield 62, 3) := by decide +kernel
theorem dM_run_95 : decode cM_run 95 = .ok (.return_, 1) := by decide +kernel
theorem dM_local_0 : decode cM_local 0 = .ok (.aload_n 0, 1) := by decide +kernel
theorem dM_local_1 : decode cM_local 1 = .ok (.iconst 0, 1) := by decide +kernel
theorem dM_local_2 : decode cM_local 2 = .ok (.putfield 54, 3) := by decide +kernel
theorem dM_local_5 : decode cM_local 5 = .ok (.aload_n 0, 1) := by decide +kernel
theorem dM_local_6 : decode cM_local 6 = .ok (.getfield 66, 3) := by decide +kernel
theorem dM_local_9 : decode cM_local 9 = .ok (.lreturn, 1) := by decide +kernel
theorem dM_slew_0 : decode cM_slew 0 = .ok (.aload_n 0, 1) := by decide +kernel
theorem dM_slew_1 : decode cM_slew 1 = .ok (.iconst 0, 1) := by decide +kernel
theorem dM_slew_2 : decode cM_slew 2 = .ok (.putfield 54, 3) := by decide +kernel
theorem dM_slew_5 : decode cM_slew 5 = .ok (.aload_n 0, 1) := by decide +kernel
theorem dM_slew_6 : decode cM_slew 6 = .ok (.getfield 62, 3) := by decide +kernel
theorem dM_slew_9 : decode cM_slew 9 = .ok (.lreturn, 1) := by decide +kernel
theorem dM_put_0 : decode cM_put 0 = .ok (.aload_n 0, 1) := by decide +kernel
theorem dM_put_1 : decode cM_put 1 = .ok (.iload 4, 2) := by decide +kernel
theorem dM_put_3 : decode cM_put 3 = .ok (.iconst 1, 1) := by decide +kernel
theorem dM_put_4 : decode cM_put 4 = .ok (.if_icmp .lt 10, 3) := by decide +kernel
theorem dM_put_7 : decode cM_put 7 = .ok (.iload 4, 2) := by decide +kernel
theorem dM_put_9 : decode cM_put 9 = .ok (.bipush 8, 2) := by decide +kernel
theorem dM_put_11 : decode cM_put 11 = .ok (.if_icmp .le 7, 3) := by decide +kernel
theorem dM_put_14 : decode cM_put 14 = .ok (.iconst 1, 1) := by decide +kernel
theorem dM_put_15 : decode cM_put 15 = .ok (.goto 21, 3) := by decide +kernel
theorem dM_put_18 : decode cM_put 18 = .ok (.iload_n 1, 1) := by decide +kernel
theorem dM_put_19 : decode cM_put 19 = .ok (.ifCond .lt 12, 3) := by decide +kernel
theorem dM_put_22 : decode cM_put 22 = .ok (.iload_n 1, 1) := by decide +kernel
theorem dM_put_23 : decode cM_put 23 = .ok (.bipush 48, 2) := by decide +kernel
theorem dM_put_25 : decode cM_put 25 = .ok (.iload 4, 2) := by decide +kernel
theorem dM_put_27 : decode cM_put 27 = .ok (.isub, 1) := by decide +kernel
theorem dM_put_28 : decode cM_put 28 = .ok (.if_icmp .le 7, 3) := by decide +kernel
theorem dM_put_31 : decode cM_put 31 = .ok (.iconst 2, 1) := by decide +kernel
theorem dM_put_32 : decode cM_put 32 = .ok (.goto 4, 3) := by decide +kernel
theorem dM_put_35 : decode cM_put 35 = .ok (.iconst 0, 1) := by decide +kernel
theorem dM_put_36 : decode cM_put 36 = .ok (.putfield 54, 3) := by decide +kernel
theorem dM_put_39 : decode cM_put 39 = .ok (.aload_n 0, 1) := by decide +kernel
theorem dM_put_40 : decode cM_put 40 = .ok (.getfield 54, 3) := by decide +kernel
theorem dM_put_43 : decode cM_put 43 = .ok (.ifCond .ne 11, 3) := by decide +kernel
theorem dM_put_46 : decode cM_put 46 = .ok (.aload_n 0, 1) := by decide +kernel
theorem dM_put_47 : decode cM_put 47 = .ok (.iload_n 1, 1) := by decide +kernel
theorem dM_put_48 : decode cM_put 48 = .ok (.lload_n 2, 1) := by decide +kernel
theorem dM_put_49 : decode cM_put 49 = .ok (.iload 4, 2) := by decide +kernel
theorem dM_put_51 : decode cM_put 51 = .ok (.invokevirtual 71, 3) := by decide +kernel
theorem dM_put_54 : decode cM_put 54 = .ok (.return_, 1) := by decide +kernel
theorem dM_write_0 : decode cM_write 0 = .ok (.iconst 0, 1) := by decide +kernel
theorem dM_write_1 : decode cM_write 1 = .ok (.istore 5, 2) := by decide +kernel
theorem dM_write_3 : decode cM_write 3 = .ok (.iload 5, 2) := by decide +kernel
theorem dM_write_5 : decode cM_write 5 = .ok (.iload 4, 2) := by decide +kernel
theorem dM_write_7 : decode cM_write 7 = .ok (.if_icmp .ge 35, 3) := by decide +kernel
theorem dM_write_10 : decode cM_write 10 = .ok (.aload_n 0, 1) := by decide +kernel
theorem dM_write_11 : decode cM_write 11 = .ok (.getfield 7, 3) := by decide +kernel
theorem dM_write_14 : decode cM_write 14 = .ok (.iload_n 1, 1) := by decide +kernel
theorem dM_write_15 : decode cM_write 15 = .ok (.iload 5, 2) := by decide +kernel
theorem dM_write_17 : decode cM_write 17 = .ok (.iadd, 1) := by decide +kernel
theorem dM_write_18 : decode cM_write 18 = .ok (.lload_n 2, 1) := by decide +kernel
theorem dM_write_19 : decode cM_write 19 = .ok (.bipush 8, 2) := by decide +kernel
theorem dM_write_21 : decode cM_write 21 = .ok (.iload 4, 2) := by decide +kernel
theorem dM_write_23 : decode cM_write 23 = .ok (.iconst 1, 1) := by decide +kernel
theorem dM_write_24 : decode cM_write 24 = .ok (.isub, 1) := by decide +kernel
theorem dM_write_25 : decode cM_write 25 = .ok (.iload 5, 2) := by decide +kernel
theorem dM_write_27 : decode cM_write 27 = .ok (.isub, 1) := by decide +kernel
theorem dM_write_28 : decode cM_write 28 = .ok (.imul, 1) := by decide +kernel
theorem dM_write_29 : decode cM_write 29 = .ok (.lushr, 1) := by decide +kernel
theorem dM_write_30 : decode cM_write 30 = .ok (.ldc2_w 69, 3) := by decide +kernel
theorem dM_write_33 : decode cM_write 33 = .ok (.land, 1) := by decide +kernel
theorem dM_write_34 : decode cM_write 34 = .ok (.l2i, 1) := by decide +kernel
theorem dM_write_35 : decode cM_write 35 = .ok (.iastore, 1) := by decide +kernel
theorem dM_write_36 : decode cM_write 36 = .ok (.iinc 5 1, 3) := by decide +kernel
theorem dM_write_39 : decode cM_write 39 = .ok (.goto (-36), 3) := by decide +kernel
theorem dM_write_42 : decode cM_write 42 = .ok (.return_, 1) := by decide +kernel
theorem dM_echo_0 : decode cM_echo 0 = .ok (.aload_n 0, 1) := by decide +kernel
theorem dM_echo_1 : decode cM_echo 1 = .ok (.iload_n 1, 1) := by decide +kernel
theorem dM_echo_2 : decode cM_echo 2 = .ok (.invokestatic 75, 3) := by decide +kernel
theorem dM_echo_5 : decode cM_echo 5 = .ok (.ifCond .ne 7, 3) := by decide +kernel
theorem dM_echo_8 : decode cM_echo 8 = .ok (.iconst 1, 1) := by decide +kernel
theorem dM_echo_9 : decode cM_echo 9 = .ok (.goto 17, 3) := by decide +kernel
theorem dM_echo_12 : decode cM_echo 12 = .ok (.aload_n 0, 1) := by decide +kernel
theorem dM_echo_13 : decode cM_echo 13 = .ok (.getfield 23, 3) := by decide +kernel
theorem dM_echo_16 : decode cM_echo 16 = .ok (.iload_n 1, 1) := by decide +kernel
theorem dM_echo_17 : decode cM_echo 17 = .ok (.baload, 1) := by decide +kernel
theorem dM_echo_18 : decode cM_echo 18 = .ok (.ifCond .ne 7, 3) := by decide +kernel
theorem dM_echo_21 : decode cM_echo 21 = .ok (.iconst 2, 1) := by decide +kernel
theorem dM_echo_22 : decode cM_echo 22 = .ok (.goto 4, 3) := by decide +kernel
theorem dM_echo_25 : decode cM_echo 25 = .ok (.iconst 0, 1) := by decide +kernel
theorem dM_echo_26 : decode cM_echo 26 = .ok (.putfield 54, 3) := by decide +kernel
theorem dM_echo_29 : decode cM_echo 29 = .ok (.aload_n 0, 1) := by decide +kernel
theorem dM_echo_30 : decode cM_echo 30 = .ok (.getfield 54, 3) := by decide +kernel
theorem dM_echo_33 : decode cM_echo 33 = .ok (.ifCond .le 4, 3) := by decide +kernel
theorem dM_echo_36 : decode cM_echo 36 = .ok (.return_, 1) := by decide +kernel
theorem dM_echo_37 : decode cM_echo 37 = .ok (.aload_n 0, 1) := by decide +kernel
theorem dM_echo_38 : decode cM_echo 38 = .ok (.getfield 7, 3) := by decide +kernel
theorem dM_echo_41 : decode cM_echo 41 = .ok (.iconst 0, 1) := by decide +kernel
theorem dM_echo_42 : decode cM_echo 42 = .ok (.bipush 36, 2) := by decide +kernel
theorem dM_echo_44 : decode cM_echo 44 = .ok (.iastore, 1) := by decide +kernel
theorem dM_echo_45 : decode cM_echo 45 = .ok (.aload_n 0, 1) := by decide +kernel
theorem dM_echo_46 : decode cM_echo 46 = .ok (.bipush 24, 2) := by decide +kernel
theorem dM_echo_48 : decode cM_echo 48 = .ok (.aload_n 0, 1) := by decide +kernel
theorem dM_echo_49 : decode cM_echo 49 = .ok (.getfield 26, 3) := by decide +kernel
theorem dM_echo_52 : decode cM_echo 52 = .ok (.iload_n 1, 1) := by decide +kernel
theorem dM_echo_53 : decode cM_echo 53 = .ok (.laload, 1) := by decide +kernel
theorem dM_echo_54 : decode cM_echo 54 = .ok (.bipush 8, 2) := by decide +kernel
theorem dM_echo_56 : decode cM_echo 56 = .ok (.invokevirtual 71, 3) := by decide +kernel
theorem dM_echo_59 : decode cM_echo 59 = .ok (.aload_n 0, 1) := by decide +kernel
theorem dM_echo_60 : decode cM_echo 60 = .ok (.bipush 32, 2) := by decide +kernel
theorem dM_echo_62 : decode cM_echo 62 = .ok (.aload_n 0, 1) := by decide +kernel
theorem dM_echo_63 : decode cM_echo 63 = .ok (.getfield 26, 3) := by decide +kernel
theorem dM_echo_66 : decode cM_echo 66 = .ok (.iload_n 1, 1) := by decide +kernel
theorem dM_echo_67 : decode cM_echo 67 = .ok (.laload, 1) := by decide +kernel
theorem dM_echo_68 : decode cM_echo 68 = .ok (.lload_n 2, 1) := by decide +kernel
theorem dM_echo_69 : decode cM_echo 69 = .ok (.ladd, 1) := by decide +kernel
theorem dM_echo_70 : decode cM_echo 70 = .ok (.bipush 8, 2) := by decide +kernel
theorem dM_echo_72 : decode cM_echo 72 = .ok (.invokevirtual 71, 3) := by decide +kernel
theorem dM_echo_75 : decode cM_echo 75 = .ok (.aload_n 0, 1) := by decide +kernel
theorem dM_echo_76 : decode cM_echo 76 = .ok (.bipush 40, 2) := by decide +kernel
theorem dM_echo_78 : decode cM_echo 78 = .ok (.aload_n 0, 1) := by decide +kernel
theorem dM_echo_79 : decode cM_echo 79 = .ok (.getfield 66, 3) := by decide +kernel
theorem dM_echo_82 : decode cM_echo 82 = .ok (.lload 4, 2) := by decide +kernel
theorem dM_echo_84 : decode cM_echo 84 = .ok (.ladd, 1) := by decide +kernel
theorem dM_echo_85 : decode cM_echo 85 = .ok (.bipush 8, 2) := by decide +kernel
theorem dM_echo_87 : decode cM_echo 87 = .ok (.invokevirtual 71, 3) := by decide +kernel
theorem dM_echo_90 : decode cM_echo 90 = .ok (.return_, 1) := by decide +kernel
theorem dM_isServer_0 : decode cM_isServer 0 = .ok (.iload_n 0, 1) := by decide +kernel
theorem dM_isServer_1 : decode cM_isServer 1 = .ok (.ifCond .lt 12, 3) := by decide +kernel
theorem dM_isServer_4 : decode cM_isServer 4 = .ok (.iload_n 0, 1) := by decide +kernel
theorem dM_isServer_5 : decode cM_isServer 5 = .ok (.iconst 5, 1) := by decide +kernel
theorem dM_isServer_6 : decode cM_isServer 6 = .ok (.if_icmp .ge 7, 3) := by decide +kernel
theorem dM_isServer_9 : decode cM_isServer 9 = .ok (.iconst 1, 1) := by decide +kernel
theorem dM_isServer_10 : decode cM_isServer 10 = .ok (.goto 4, 3) := by decide +kernel
theorem dM_isServer_13 : decode cM_isServer 13 = .ok (.iconst 0, 1) := by decide +kernel
theorem dM_isServer_14 : decode cM_isServer 14 = .ok (.ireturn, 1) := by decide +kernel
theorem dM_send_0 : decode cM_send 0 = .ok (.aload_n 0, 1) := by decide +kernel
theorem dM_send_1 : decode cM_send 1 = .ok (.iload_n 1, 1) := by decide +kernel
theorem dM_send_2 : decode cM_send 2 = .ok (.invokestatic 75, 3) := by decide +kernel
theorem dM_send_5 : decode cM_send 5 = .ok (.ifCond .ne 7, 3) := by decide +kernel
theorem dM_send_8 : decode cM_send 8 = .ok (.iconst 1, 1) := by decide +kernel
theorem dM_send_9 : decode cM_send 9 = .ok (.goto 17, 3) := by decide +kernel
theorem dM_send_12 : decode cM_send 12 = .ok (.aload_n 0, 1) := by decide +kernel
theorem dM_send_13 : decode cM_send 13 = .ok (.getfield 13, 3) := by decide +kernel
theorem dM_send_16 : decode cM_send 16 = .ok (.iload_n 1, 1) := by decide +kernel
theorem dM_send_17 : decode cM_send 17 = .ok (.baload, 1) := by decide +kernel
theorem dM_send_18 : decode cM_send 18 = .ok (.ifCond .eq 7, 3) := by decide +kernel
theorem dM_send_21 : decode cM_send 21 = .ok (.iconst 2, 1) := by decide +kernel
theorem dM_send_22 : decode cM_send 22 = .ok (.goto 4, 3) := by decide +kernel
theorem dM_send_25 : decode cM_send 25 = .ok (.iconst 0, 1) := by decide +kernel
theorem dM_send_26 : decode cM_send 26 = .ok (.putfield 54, 3) := by decide +kernel
theorem dM_send_29 : decode cM_send 29 = .ok (.aload_n 0, 1) := by decide +kernel
theorem dM_send_30 : decode cM_send 30 = .ok (.getfield 54, 3) := by decide +kernel
theorem dM_send_33 : decode cM_send 33 = .ok (.ifCond .le 5, 3) := by decide +kernel
theorem dM_send_36 : decode cM_send 36 = .ok (.lconst 0, 1) := by decide +kernel
theorem dM_send_37 : decode cM_send 37 = .ok (.lreturn, 1) := by decide +kernel
theorem dM_send_38 : decode cM_send 38 = .ok (.aload_n 0, 1) := by decide +kernel
theorem dM_send_39 : decode cM_send 39 = .ok (.getfield 17, 3) := by decide +kernel
theorem dM_send_42 : decode cM_send 42 = .ok (.iload_n 1, 1) := by decide +kernel
theorem dM_send_43 : decode cM_send 43 = .ok (.aload_n 0, 1) := by decide +kernel
theorem dM_send_44 : decode cM_send 44 = .ok (.getfield 17, 3) := by decide +kernel
theorem dM_send_47 : decode cM_send 47 = .ok (.iload_n 1, 1) := by decide +kernel
theorem dM_send_48 : decode cM_send 48 = .ok (.iaload, 1) := by decide +kernel
theorem dM_send_49 : decode cM_send 49 = .ok (.iconst 2, 1) := by decide +kernel
theorem dM_send_50 : decode cM_send 50 = .ok (.imul, 1) := by decide +kernel
theorem dM_send_51 : decode cM_send 51 = .ok (.sipush 256, 3) := by decide +kernel
theorem dM_send_54 : decode cM_send 54 = .ok (.irem, 1) := by decide +kernel
theorem dM_send_55 : decode cM_send 55 = .ok (.iastore, 1) := by decide +kernel
theorem dM_send_56 : decode cM_send 56 = .ok (.aload_n 0, 1) := by decide +kernel
theorem dM_send_57 : decode cM_send 57 = .ok (.getfield 23, 3) := by decide +kernel
theorem dM_send_60 : decode cM_send 60 = .ok (.iload_n 1, 1) := by decide +kernel
theorem dM_send_61 : decode cM_send 61 = .ok (.iconst 1, 1) := by decide +kernel
theorem dM_send_62 : decode cM_send 62 = .ok (.bastore, 1) := by decide +kernel
theorem dM_send_63 : decode cM_send 63 = .ok (.aload_n 0, 1) := by decide +kernel
theorem dM_send_64 : decode cM_send 64 = .ok (.getfield 26, 3) := by decide +kernel
theorem dM_send_67 : decode cM_send 67 = .ok (.iload_n 1, 1) := by decide +kernel
theorem dM_send_68 : decode cM_send 68 = .ok (.aload_n 0, 1) := by decide +kernel
theorem dM_send_69 : decode cM_send 69 = .ok (.getfield 66, 3) := by decide +kernel
theorem dM_send_72 : decode cM_send 72 = .ok (.lastore, 1) := by decide +kernel
theorem dM_send_73 : decode cM_send 73 = .ok (.aload_n 0, 1) := by decide +kernel
theorem dM_send_74 : decode cM_send 74 = .ok (.getfield 66, 3) := by decide +kernel
theorem dM_send_77 : decode cM_send 77 = .ok (.lreturn, 1) := by decide +kernel
