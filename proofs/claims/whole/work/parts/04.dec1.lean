theorem dV_spreadOf_0 : decode cV_spreadOf 0 = .ok (.lconst 0, 1) := by decide +kernel
theorem dV_spreadOf_1 : decode cV_spreadOf 1 = .ok (.lstore_n 2, 1) := by decide +kernel
theorem dV_spreadOf_2 : decode cV_spreadOf 2 = .ok (.iconst 0, 1) := by decide +kernel
theorem dV_spreadOf_3 : decode cV_spreadOf 3 = .ok (.istore 4, 2) := by decide +kernel
theorem dV_spreadOf_5 : decode cV_spreadOf 5 = .ok (.iload 4, 2) := by decide +kernel
theorem dV_spreadOf_7 : decode cV_spreadOf 7 = .ok (.iconst 5, 1) := by decide +kernel
theorem dV_spreadOf_8 : decode cV_spreadOf 8 = .ok (.if_icmp .ge 41, 3) := by decide +kernel
theorem dV_spreadOf_11 : decode cV_spreadOf 11 = .ok (.aload_n 0, 1) := by decide +kernel
theorem dV_spreadOf_12 : decode cV_spreadOf 12 = .ok (.getfield 26, 3) := by decide +kernel
theorem dV_spreadOf_15 : decode cV_spreadOf 15 = .ok (.iload 4, 2) := by decide +kernel
theorem dV_spreadOf_17 : decode cV_spreadOf 17 = .ok (.invokestatic 50, 3) := by decide +kernel
theorem dV_spreadOf_20 : decode cV_spreadOf 20 = .ok (.ifCond .eq 23, 3) := by decide +kernel
theorem dV_spreadOf_23 : decode cV_spreadOf 23 = .ok (.lload_n 2, 1) := by decide +kernel
theorem dV_spreadOf_24 : decode cV_spreadOf 24 = .ok (.aload_n 0, 1) := by decide +kernel
theorem dV_spreadOf_25 : decode cV_spreadOf 25 = .ok (.getfield 29, 3) := by decide +kernel
theorem dV_spreadOf_28 : decode cV_spreadOf 28 = .ok (.iload_n 1, 1) := by decide +kernel
theorem dV_spreadOf_29 : decode cV_spreadOf 29 = .ok (.laload, 1) := by decide +kernel
theorem dV_spreadOf_30 : decode cV_spreadOf 30 = .ok (.aload_n 0, 1) := by decide +kernel
theorem dV_spreadOf_31 : decode cV_spreadOf 31 = .ok (.getfield 29, 3) := by decide +kernel
theorem dV_spreadOf_34 : decode cV_spreadOf 34 = .ok (.iload 4, 2) := by decide +kernel
theorem dV_spreadOf_36 : decode cV_spreadOf 36 = .ok (.laload, 1) := by decide +kernel
theorem dV_spreadOf_37 : decode cV_spreadOf 37 = .ok (.lsub, 1) := by decide +kernel
theorem dV_spreadOf_38 : decode cV_spreadOf 38 = .ok (.invokestatic 104, 3) := by decide +kernel
theorem dV_spreadOf_41 : decode cV_spreadOf 41 = .ok (.ladd, 1) := by decide +kernel
theorem dV_spreadOf_42 : decode cV_spreadOf 42 = .ok (.lstore_n 2, 1) := by decide +kernel
theorem dV_spreadOf_43 : decode cV_spreadOf 43 = .ok (.iinc 4 1, 3) := by decide +kernel
theorem dV_spreadOf_46 : decode cV_spreadOf 46 = .ok (.goto (-41), 3) := by decide +kernel
theorem dV_spreadOf_49 : decode cV_spreadOf 49 = .ok (.lload_n 2, 1) := by decide +kernel
theorem dV_spreadOf_50 : decode cV_spreadOf 50 = .ok (.lreturn, 1) := by decide +kernel
theorem dC_survivors_0 : decode cC_survivors 0 = .ok (.aload_n 0, 1) := by decide +kernel
theorem dC_survivors_1 : decode cC_survivors 1 = .ok (.getfield 26, 3) := by decide +kernel
theorem dC_survivors_4 : decode cC_survivors 4 = .ok (.aload_n 0, 1) := by decide +kernel
theorem dC_survivors_5 : decode cC_survivors 5 = .ok (.getfield 18, 3) := by decide +kernel
theorem dC_survivors_8 : decode cC_survivors 8 = .ok (.aload_n 0, 1) := by decide +kernel
theorem dC_survivors_9 : decode cC_survivors 9 = .ok (.getfield 30, 3) := by decide +kernel
theorem dC_survivors_12 : decode cC_survivors 12 = .ok (.invokevirtual 134, 3) := by decide +kernel
theorem dC_survivors_15 : decode cC_survivors 15 = .ok (.aload_n 0, 1) := by decide +kernel
theorem dC_survivors_16 : decode cC_survivors 16 = .ok (.getfield 26, 3) := by decide +kernel
theorem dC_survivors_19 : decode cC_survivors 19 = .ok (.getfield 153, 3) := by decide +kernel
theorem dC_survivors_22 : decode cC_survivors 22 = .ok (.ireturn, 1) := by decide +kernel
theorem dL_run_0 : decode cL_run 0 = .ok (.aload_n 0, 1) := by decide +kernel
theorem dL_run_1 : decode cL_run 1 = .ok (.lload_n 1, 1) := by decide +kernel
theorem dL_run_2 : decode cL_run 2 = .ok (.invokevirtual 7, 3) := by decide +kernel
theorem dL_run_5 : decode cL_run 5 = .ok (.goto 6, 3) := by decide +kernel
theorem dL_run_8 : decode cL_run 8 = .ok (.astore_n 3, 1) := by decide +kernel
theorem dL_run_9 : decode cL_run 9 = .ok (.iconst 1, 1) := by decide +kernel
theorem dL_run_10 : decode cL_run 10 = .ok (.ireturn, 1) := by decide +kernel
theorem dL_run_11 : decode cL_run 11 = .ok (.iconst 0, 1) := by decide +kernel
theorem dL_run_12 : decode cL_run 12 = .ok (.ireturn, 1) := by decide +kernel
theorem dC_run_0 : decode cC_run 0 = .ok (.lload_n 1, 1) := by decide +kernel
theorem dC_run_1 : decode cC_run 1 = .ok (.lconst 0, 1) := by decide +kernel
theorem dC_run_2 : decode cC_run 2 = .ok (.lcmp, 1) := by decide +kernel
theorem dC_run_3 : decode cC_run 3 = .ok (.ifCond .lt 11, 3) := by decide +kernel
theorem dC_run_6 : decode cC_run 6 = .ok (.lload_n 1, 1) := by decide +kernel
theorem dC_run_7 : decode cC_run 7 = .ok (.ldc2_w 41, 3) := by decide +kernel
theorem dC_run_10 : decode cC_run 10 = .ok (.lcmp, 1) := by decide +kernel
theorem dC_run_11 : decode cC_run 11 = .ok (.ifCond .le 11, 3) := by decide +kernel
theorem dC_run_14 : decode cC_run 14 = .ok (.new 43, 3) := by decide +kernel
theorem dC_run_17 : decode cC_run 17 = .ok (.dup, 1) := by decide +kernel
theorem dC_run_18 : decode cC_run 18 = .ok (.invokespecial 45, 3) := by decide +kernel
theorem dC_run_21 : decode cC_run 21 = .ok (.athrow, 1) := by decide +kernel
theorem dC_run_22 : decode cC_run 22 = .ok (.lload_n 1, 1) := by decide +kernel
theorem dC_run_23 : decode cC_run 23 = .ok (.ldc2_w 46, 3) := by decide +kernel
theorem dC_run_26 : decode cC_run 26 = .ok (.ldiv, 1) := by decide +kernel
theorem dC_run_27 : decode cC_run 27 = .ok (.lstore_n 3, 1) := by decide +kernel
theorem dC_run_28 : decode cC_run 28 = .ok (.lload_n 3, 1) := by decide +kernel
theorem dC_run_29 : decode cC_run 29 = .ok (.lneg, 1) := by decide +kernel
theorem dC_run_30 : decode cC_run 30 = .ok (.lload_n 3, 1) := by decide +kernel
theorem dC_run_31 : decode cC_run 31 = .ok (.aload_n 0, 1) := by decide +kernel
theorem dC_run_32 : decode cC_run 32 = .ok (.getfield 34, 3) := by decide +kernel
theorem dC_run_35 : decode cC_run 35 = .ok (.invokestatic 48, 3) := by decide +kernel
theorem dC_run_38 : decode cC_run 38 = .ok (.invokestatic 54, 3) := by decide +kernel
theorem dC_run_41 : decode cC_run 41 = .ok (.lstore 5, 2) := by decide +kernel
theorem dC_run_43 : decode cC_run 43 = .ok (.aload_n 0, 1) := by decide +kernel
theorem dC_run_44 : decode cC_run 44 = .ok (.dup, 1) := by decide +kernel
theorem dC_run_45 : decode cC_run 45 = .ok (.getfield 30, 3) := by decide +kernel
theorem dC_run_48 : decode cC_run 48 = .ok (.lload_n 1, 1) := by decide +kernel
theorem dC_run_49 : decode cC_run 49 = .ok (.lload 5, 2) := by decide +kernel
theorem dC_run_51 : decode cC_run 51 = .ok (.ladd, 1) := by decide +kernel
theorem dC_run_52 : decode cC_run 52 = .ok (.ladd, 1) := by decide +kernel
theorem dC_run_53 : decode cC_run 53 = .ok (.putfield 30, 3) := by decide +kernel
theorem dC_run_56 : decode cC_run 56 = .ok (.aload_n 0, 1) := by decide +kernel
theorem dC_run_57 : decode cC_run 57 = .ok (.dup, 1) := by decide +kernel
theorem dC_run_58 : decode cC_run 58 = .ok (.getfield 34, 3) := by decide +kernel
theorem dC_run_61 : decode cC_run 61 = .ok (.lload 5, 2) := by decide +kernel
theorem dC_run_63 : decode cC_run 63 = .ok (.lsub, 1) := by decide +kernel
theorem dC_run_64 : decode cC_run 64 = .ok (.putfield 34, 3) := by decide +kernel
theorem dC_run_67 : decode cC_run 67 = .ok (.return_, 1) := by decide +kernel
theorem dL_put_0 : decode cL_put 0 = .ok (.aload_n 0, 1) := by decide +kernel
theorem dL_put_1 : decode cL_put 1 = .ok (.iload_n 1, 1) := by decide +kernel
theorem dL_put_2 : decode cL_put 2 = .ok (.lload_n 2, 1) := by decide +kernel
theorem dL_put_3 : decode cL_put 3 = .ok (.iload 4, 2) := by decide +kernel
theorem dL_put_5 : decode cL_put 5 = .ok (.invokevirtual 15, 3) := by decide +kernel
theorem dL_put_8 : decode cL_put 8 = .ok (.goto 11, 3) := by decide +kernel
theorem dL_put_11 : decode cL_put 11 = .ok (.astore 5, 2) := by decide +kernel
theorem dL_put_13 : decode cL_put 13 = .ok (.iconst 1, 1) := by decide +kernel
theorem dL_put_14 : decode cL_put 14 = .ok (.ireturn, 1) := by decide +kernel
theorem dL_put_15 : decode cL_put 15 = .ok (.astore 5, 2) := by decide +kernel
theorem dL_put_17 : decode cL_put 17 = .ok (.iconst 2, 1) := by decide +kernel
theorem dL_put_18 : decode cL_put 18 = .ok (.ireturn, 1) := by decide +kernel
theorem dL_put_19 : decode cL_put 19 = .ok (.iconst 0, 1) := by decide +kernel
theorem dL_put_20 : decode cL_put 20 = .ok (.ireturn, 1) := by decide +kernel
theorem dC_put_0 : decode cC_put 0 = .ok (.iload 4, 2) := by decide +kernel
theorem dC_put_2 : decode cC_put 2 = .ok (.iconst 1, 1) := by decide +kernel
theorem dC_put_3 : decode cC_put 3 = .ok (.if_icmp .lt 10, 3) := by decide +kernel
theorem dC_put_6 : decode cC_put 6 = .ok (.iload 4, 2) := by decide +kernel
theorem dC_put_8 : decode cC_put 8 = .ok (.bipush 8, 2) := by decide +kernel
theorem dC_put_10 : decode cC_put 10 = .ok (.if_icmp .le 11, 3) := by decide +kernel
theorem dC_put_13 : decode cC_put 13 = .ok (.new 43, 3) := by decide +kernel
theorem dC_put_16 : decode cC_put 16 = .ok (.dup, 1) := by decide +kernel
theorem dC_put_17 : decode cC_put 17 = .ok (.invokespecial 45, 3) := by decide +kernel
theorem dC_put_20 : decode cC_put 20 = .ok (.athrow, 1) := by decide +kernel
theorem dC_put_21 : decode cC_put 21 = .ok (.iload_n 1, 1) := by decide +kernel
theorem dC_put_22 : decode cC_put 22 = .ok (.ifCond .lt 12, 3) := by decide +kernel
theorem dC_put_25 : decode cC_put 25 = .ok (.iload_n 1, 1) := by decide +kernel
theorem dC_put_26 : decode cC_put 26 = .ok (.bipush 48, 2) := by decide +kernel
theorem dC_put_28 : decode cC_put 28 = .ok (.iload 4, 2) := by decide +kernel
theorem dC_put_30 : decode cC_put 30 = .ok (.isub, 1) := by decide +kernel
theorem dC_put_31 : decode cC_put 31 = .ok (.if_icmp .le 11, 3) := by decide +kernel
theorem dC_put_34 : decode cC_put 34 = .ok (.new 57, 3) := by decide +kernel
theorem dC_put_37 : decode cC_put 37 = .ok (.dup, 1) := by decide +kernel
theorem dC_put_38 : decode cC_put 38 = .ok (.invokespecial 59, 3) := by decide +kernel
theorem dC_put_41 : decode cC_put 41 = .ok (.athrow, 1) := by decide +kernel
theorem dC_put_42 : decode cC_put 42 = .ok (.aload_n 0, 1) := by decide +kernel
theorem dC_put_43 : decode cC_put 43 = .ok (.getfield 10, 3) := by decide +kernel
theorem dC_put_46 : decode cC_put 46 = .ok (.iload_n 1, 1) := by decide +kernel
theorem dC_put_47 : decode cC_put 47 = .ok (.lload_n 2, 1) := by decide +kernel
theorem dC_put_48 : decode cC_put 48 = .ok (.iload 4, 2) := by decide +kernel
theorem dC_put_50 : decode cC_put 50 = .ok (.invokevirtual 60, 3) := by decide +kernel
theorem dC_put_53 : decode cC_put 53 = .ok (.return_, 1) := by decide +kernel
theorem dP_write_0 : decode cP_write 0 = .ok (.iconst 0, 1) := by decide +kernel
theorem dP_write_1 : decode cP_write 1 = .ok (.istore 5, 2) := by decide +kernel
theorem dP_write_3 : decode cP_write 3 = .ok (.iload 5, 2) := by decide +kernel
theorem dP_write_5 : decode cP_write 5 = .ok (.iload 4, 2) := by decide +kernel
theorem dP_write_7 : decode cP_write 7 = .ok (.if_icmp .ge 32, 3) := by decide +kernel
theorem dP_write_10 : decode cP_write 10 = .ok (.aload_n 0, 1) := by decide +kernel
theorem dP_write_11 : decode cP_write 11 = .ok (.getfield 9, 3) := by decide +kernel
theorem dP_write_14 : decode cP_write 14 = .ok (.iload_n 1, 1) := by decide +kernel
theorem dP_write_15 : decode cP_write 15 = .ok (.iload 5, 2) := by decide +kernel
theorem dP_write_17 : decode cP_write 17 = .ok (.iadd, 1) := by decide +kernel
theorem dP_write_18 : decode cP_write 18 = .ok (.lload_n 2, 1) := by decide +kernel
theorem dP_write_19 : decode cP_write 19 = .ok (.bipush 8, 2) := by decide +kernel
theorem dP_write_21 : decode cP_write 21 = .ok (.iload 4, 2) := by decide +kernel
theorem dP_write_23 : decode cP_write 23 = .ok (.iconst 1, 1) := by decide +kernel
theorem dP_write_24 : decode cP_write 24 = .ok (.isub, 1) := by decide +kernel
theorem dP_write_25 : decode cP_write 25 = .ok (.iload 5, 2) := by decide +kernel
theorem dP_write_27 : decode cP_write 27 = .ok (.isub, 1) := by decide +kernel
theorem dP_write_28 : decode cP_write 28 = .ok (.imul, 1) := by decide +kernel
theorem dP_write_29 : decode cP_write 29 = .ok (.lshr, 1) := by decide +kernel
theorem dP_write_30 : decode cP_write 30 = .ok (.l2i, 1) := by decide +kernel
theorem dP_write_31 : decode cP_write 31 = .ok (.i2b, 1) := by decide +kernel
theorem dP_write_32 : decode cP_write 32 = .ok (.bastore, 1) := by decide +kernel
theorem dP_write_33 : decode cP_write 33 = .ok (.iinc 5 1, 3) := by decide +kernel
theorem dP_write_36 : decode cP_write 36 = .ok (.goto (-33), 3) := by decide +kernel
theorem dP_write_39 : decode cP_write 39 = .ok (.return_, 1) := by decide +kernel
theorem dL_echo_0 : decode cL_echo 0 = .ok (.aload_n 0, 1) := by decide +kernel
theorem dL_echo_1 : decode cL_echo 1 = .ok (.iload_n 1, 1) := by decide +kernel
theorem dL_echo_2 : decode cL_echo 2 = .ok (.lload_n 2, 1) := by decide +kernel
theorem dL_echo_3 : decode cL_echo 3 = .ok (.lload 4, 2) := by decide +kernel
theorem dL_echo_5 : decode cL_echo 5 = .ok (.invokevirtual 21, 3) := by decide +kernel
theorem dL_echo_8 : decode cL_echo 8 = .ok (.goto 11, 3) := by decide +kernel
theorem dL_echo_11 : decode cL_echo 11 = .ok (.astore 6, 2) := by decide +kernel
theorem dL_echo_13 : decode cL_echo 13 = .ok (.iconst 1, 1) := by decide +kernel
theorem dL_echo_14 : decode cL_echo 14 = .ok (.ireturn, 1) := by decide +kernel
theorem dL_echo_15 : decode cL_echo 15 = .ok (.astore 6, 2) := by decide +kernel
theorem dL_echo_17 : decode cL_echo 17 = .ok (.iconst 2, 1) := by decide +kernel
theorem dL_echo_18 : decode cL_echo 18 = .ok (.ireturn, 1) := by decide +kernel
theorem dL_echo_19 : decode cL_echo 19 = .ok (.iconst 0, 1) := by decide +kernel
theorem dL_echo_20 : decode cL_echo 20 = .ok (.ireturn, 1) := by decide +kernel
theorem dC_echo_0 : decode cC_echo 0 = .ok (.aload_n 0, 1) := by decide +kernel
theorem dC_echo_1 : decode cC_echo 1 = .ok (.iload_n 1, 1) := by decide +kernel
theorem dC_echo_2 : decode cC_echo 2 = .ok (.invokevirtual 64, 3) := by decide +kernel
theorem dC_echo_5 : decode cC_echo 5 = .ok (.astore 6, 2) := by decide +kernel
theorem dC_echo_7 : decode cC_echo 7 = .ok (.aload 6, 2) := by decide +kernel
theorem dC_echo_9 : decode cC_echo 9 = .ok (.getfield 68, 3) := by decide +kernel
theorem dC_echo_12 : decode cC_echo 12 = .ok (.ifCond .ne 11, 3) := by decide +kernel
theorem dC_echo_15 : decode cC_echo 15 = .ok (.new 71, 3) := by decide +kernel
theorem dC_echo_18 : decode cC_echo 18 = .ok (.dup, 1) := by decide +kernel
theorem dC_echo_19 : decode cC_echo 19 = .ok (.invokespecial 73, 3) := by decide +kernel
theorem dC_echo_22 : decode cC_echo 22 = .ok (.athrow, 1) := by decide +kernel
theorem dC_echo_23 : decode cC_echo 23 = .ok (.aload_n 0, 1) := by decide +kernel
theorem dC_echo_24 : decode cC_echo 24 = .ok (.getfield 10, 3) := by decide +kernel
theorem dC_echo_27 : decode cC_echo 27 = .ok (.iconst 0, 1) := by decide +kernel
theorem dC_echo_28 : decode cC_echo 28 = .ok (.ldc2_w 74, 3) := by decide +kernel
theorem dC_echo_31 : decode cC_echo 31 = .ok (.iconst 1, 1) := by decide +kernel
theorem dC_echo_32 : decode cC_echo 32 = .ok (.invokevirtual 60, 3) := by decide +kernel
theorem dC_echo_35 : decode cC_echo 35 = .ok (.aload_n 0, 1) := by decide +kernel
theorem dC_echo_36 : decode cC_echo 36 = .ok (.getfield 10, 3) := by decide +kernel
theorem dC_echo_39 : decode cC_echo 39 = .ok (.bipush 24, 2) := by decide +kernel
theorem dC_echo_41 : decode cC_echo 41 = .ok (.aload 6, 2) := by decide +kernel
theorem dC_echo_43 : decode cC_echo 43 = .ok (.getfield 76, 3) := by decide +kernel
theorem dC_echo_46 : decode cC_echo 46 = .ok (.bipush 8, 2) := by decide +kernel
theorem dC_echo_48 : decode cC_echo 48 = .ok (.invokevirtual 60, 3) := by decide +kernel
theorem dC_echo_51 : decode cC_echo 51 = .ok (.aload_n 0, 1) := by decide +kernel
theorem dC_echo_52 : decode cC_echo 52 = .ok (.getfield 10, 3) := by decide +kernel
theorem dC_echo_55 : decode cC_echo 55 = .ok (.bipush 32, 2) := by decide +kernel
theorem dC_echo_57 : decode cC_echo 57 = .ok (.aload 6, 2) := by decide +kernel
theorem dC_echo_59 : decode cC_echo 59 = .ok (.getfield 76, 3) := by decide +kernel
theorem dC_echo_62 : decode cC_echo 62 = .ok (.lload_n 2, 1) := by decide +kernel
theorem dC_echo_63 : decode cC_echo 63 = .ok (.ladd, 1) := by decide +kernel
theorem dC_echo_64 : decode cC_echo 64 = .ok (.bipush 8, 2) := by decide +kernel
theorem dC_echo_66 : decode cC_echo 66 = .ok (.invokevirtual 60, 3) := by decide +kernel
theorem dC_echo_69 : decode cC_echo 69 = .ok (.aload_n 0, 1) := by decide +kernel
theorem dC_echo_70 : decode cC_echo 70 = .ok (.getfield 10, 3) := by decide +kernel
theorem dC_echo_73 : decode cC_echo 73 = .ok (.bipush 40, 2) := by decide +kernel
theorem dC_echo_75 : decode cC_echo 75 = .ok (.aload_n 0, 1) := by decide +kernel
theorem dC_echo_76 : decode cC_echo 76 = .ok (.getfield 30, 3) := by decide +kernel
theorem dC_echo_79 : decode cC_echo 79 = .ok (.lload 4, 2) := by decide +kernel
theorem dC_echo_81 : decode cC_echo 81 = .ok (.ladd, 1) := by decide +kernel
theorem dC_echo_82 : decode cC_echo 82 = .ok (.bipush 8, 2) := by decide +kernel
theorem dC_echo_84 : decode cC_echo 84 = .ok (.invokevirtual 60, 3) := by decide +kernel
theorem dC_echo_87 : decode cC_echo 87 = .ok (.return_, 1) := by decide +kernel
theorem dC_serverAt_0 : decode cC_serverAt 0 = .ok (.iload_n 1, 1) := by decide +kernel
theorem dC_serverAt_1 : decode cC_serverAt 1 = .ok (.ifCond .lt 8, 3) := by decide +kernel
theorem dC_serverAt_4 : decode cC_serverAt 4 = .ok (.iload_n 1, 1) := by decide +kernel
theorem dC_serverAt_5 : decode cC_serverAt 5 = .ok (.iconst 5, 1) := by decide +kernel
theorem dC_serverAt_6 : decode cC_serverAt 6 = .ok (.if_icmp .lt 11, 3) := by decide +kernel
theorem dC_serverAt_9 : decode cC_serverAt 9 = .ok (.new 57, 3) := by decide +kernel
theorem dC_serverAt_12 : decode cC_serverAt 12 = .ok (.dup, 1) := by decide +kernel
theorem dC_serverAt_13 : decode cC_serverAt 13 = .ok (.invokespecial 59, 3) := by decide +kernel
theorem dC_serverAt_16 : decode cC_serverAt 16 = .ok (.athrow, 1) := by decide +kernel
theorem dC_serverAt_17 : decode cC_serverAt 17 = .ok (.aload_n 0, 1) := by decide +kernel
theorem dC_serverAt_18 : decode cC_serverAt 18 = .ok (.getfield 18, 3) := by decide +kernel
theorem dC_serverAt_21 : decode cC_serverAt 21 = .ok (.iload_n 1, 1) := by decide +kernel
theorem dC_serverAt_22 : decode cC_serverAt 22 = .ok (.aaload, 1) := by decide +kernel
theorem dC_serverAt_23 : decode cC_serverAt 23 = .ok (.areturn, 1) := by decide +kernel
theorem dL_send_0 : decode cL_send 0 = .ok (.aload_n 2, 1) := by decide +kernel
theorem dL_send_1 : decode cL_send 1 = .ok (.iconst 0, 1) := by decide +kernel
theorem dL_send_2 : decode cL_send 2 = .ok (.aload_n 0, 1) := by decide +kernel
theorem dL_send_3 : decode cL_send 3 = .ok (.iload_n 1, 1) := by decide +kernel
theorem dL_send_4 : decode cL_send 4 = .ok (.invokevirtual 27, 3) := by decide +kernel
theorem dL_send_7 : decode cL_send 7 = .ok (.lastore, 1) := by decide +kernel
theorem dL_send_8 : decode cL_send 8 = .ok (.goto 9, 3) := by decide +kernel
theorem dL_send_11 : decode cL_send 11 = .ok (.astore_n 3, 1) := by decide +kernel
theorem dL_send_12 : decode cL_send 12 = .ok (.iconst 1, 1) := by decide +kernel
theorem dL_send_13 : decode cL_send 13 = .ok (.ireturn, 1) := by decide +kernel
theorem dL_send_14 : decode cL_send 14 = .ok (.astore_n 3, 1) := by decide +kernel
theorem dL_send_15 : decode cL_send 15 = .ok (.iconst 2, 1) := by decide +kernel
theorem dL_send_16 : decode cL_send 16 = .ok (.ireturn, 1) := by decide +kernel
theorem dL_send_17 : decode cL_send 17 = .ok (.iconst 0, 1) := by decide +kernel
theorem dL_send_18 : decode cL_send 18 = .ok (.ireturn, 1) := by decide +kernel
theorem dC_send_0 : decode cC_send 0 = .ok (.aload_n 0, 1) := by decide +kernel
theorem dC_send_1 : decode cC_send 1 = .ok (.iload_n 1, 1) := by decide +kernel
theorem dC_send_2 : decode cC_send 2 = .ok (.invokevirtual 64, 3) := by decide +kernel
theorem dC_send_5 : decode cC_send 5 = .ok (.astore_n 2, 1) := by decide +kernel
theorem dC_send_6 : decode cC_send 6 = .ok (.aload_n 2, 1) := by decide +kernel
theorem dC_send_7 : decode cC_send 7 = .ok (.getfield 79, 3) := by decide +kernel
theorem dC_send_10 : decode cC_send 10 = .ok (.ifCond .eq 11, 3) := by decide +kernel
theorem dC_send_13 : decode cC_send 13 = .ok (.new 71, 3) := by decide +kernel
theorem dC_send_16 : decode cC_send 16 = .ok (.dup, 1) := by decide +kernel
theorem dC_send_17 : decode cC_send 17 = .ok (.invokespecial 73, 3) := by decide +kernel
theorem dC_send_20 : decode cC_send 20 = .ok (.athrow, 1) := by decide +kernel
theorem dC_send_21 : decode cC_send 21 = .ok (.aload_n 2, 1) := by decide +kernel
theorem dC_send_22 : decode cC_send 22 = .ok (.aload_n 0, 1) := by decide +kernel
theorem dC_send_23 : decode cC_send 23 = .ok (.getfield 30, 3) := by decide +kernel
theorem dC_send_26 : decode cC_send 26 = .ok (.invokevirtual 82, 3) := by decide +kernel
theorem dC_send_29 : decode cC_send 29 = .ok (.aload_n 0, 1) := by decide +kernel
theorem dC_send_30 : decode cC_send 30 = .ok (.getfield 30, 3) := by decide +kernel
theorem dC_send_33 : decode cC_send 33 = .ok (.lreturn, 1) := by decide +kernel
theorem dS_expect_0 : decode cS_expect 0 = .ok (.aload_n 0, 1) := by decide +kernel
theorem dS_expect_1 : decode cS_expect 1 = .ok (.aload_n 0, 1) := by decide +kernel
theorem dS_expect_2 : decode cS_expect 2 = .ok (.getfield 13, 3) := by decide +kernel
theorem dS_expect_5 : decode cS_expect 5 = .ok (.iconst 2, 1) := by decide +kernel
theorem dS_expect_6 : decode cS_expect 6 = .ok (.imul, 1) := by decide +kernel
theorem dS_expect_7 : decode cS_expect 7 = .ok (.sipush 256, 3) := by decide +kernel
theorem dS_expect_10 : decode cS_expect 10 = .ok (.irem, 1) := by decide +kernel
theorem dS_expect_11 : decode cS_expect 11 = .ok (.putfield 13, 3) := by decide +kernel
theorem dS_expect_14 : decode cS_expect 14 = .ok (.aload_n 0, 1) := by decide +kernel
theorem dS_expect_15 : decode cS_expect 15 = .ok (.iconst 1, 1) := by decide +kernel
theorem dS_expect_16 : decode cS_expect 16 = .ok (.putfield 20, 3) := by decide +kernel
theorem dS_expect_19 : decode cS_expect 19 = .ok (.aload_n 0, 1) := by decide +kernel
theorem dS_expect_20 : decode cS_expect 20 = .ok (.lload_n 1, 1) := by decide +kernel
theorem dS_expect_21 : decode cS_expect 21 = .ok (.putfield 23, 3) := by decide +kernel
theorem dS_expect_24 : decode cS_expect 24 = .ok (.return_, 1) := by decide +kernel
theorem dL_receive_0 : decode cL_receive 0 = .ok (.aload_n 2, 1) := by decide +kernel
theorem dL_receive_1 : decode cL_receive 1 = .ok (.iconst 0, 1) := by decide +kernel
theorem dL_receive_2 : decode cL_receive 2 = .ok (.aload_n 0, 1) := by decide +kernel
theorem dL_receive_3 : decode cL_receive 3 = .ok (.iload_n 1, 1) := by decide +kernel
theorem dL_receive_4 : decode cL_receive 4 = .ok (.invokevirtual 31, 3) := by decide +kernel
theorem dL_receive_7 : decode cL_receive 7 = .ok (.i2l, 1) := by decide +kernel
theorem dL_receive_8 : decode cL_receive 8 = .ok (.lastore, 1) := by decide +kernel
theorem dL_receive_9 : decode cL_receive 9 = .ok (.goto 12, 3) := by decide +kernel
theorem dL_receive_12 : decode cL_receive 12 = .ok (.astore_n 3, 1) := by decide +kernel
theorem dL_receive_13 : decode cL_receive 13 = .ok (.iconst 1, 1) := by decide +kernel
theorem dL_receive_14 : decode cL_receive 14 = .ok (.ireturn, 1) := by decide +kernel
theorem dL_receive_15 : decode cL_receive 15 = .ok (.astore_n 3, 1) := by decide +kernel
theorem dL_receive_16 : decode cL_receive 16 = .ok (.iconst 2, 1) := by decide +kernel
theorem dL_receive_17 : decode cL_receive 17 = .ok (.ireturn, 1) := by decide +kernel
theorem dL_receive_18 : decode cL_receive 18 = .ok (.astore_n 3, 1) := by decide +kernel
theorem dL_receive_19 : decode cL_receive 19 = .ok (.iconst 3, 1) := by decide +kernel
theorem dL_receive_20 : decode cL_receive 20 = .ok (.ireturn, 1) := by decide +kernel
theorem dL_receive_21 : decode cL_receive 21 = .ok (.iconst 0, 1) := by decide +kernel
theorem dL_receive_22 : decode cL_receive 22 = .ok (.ireturn, 1) := by decide +kernel
theorem dC_receive_0 : decode cC_receive 0 = .ok (.aload_n 0, 1) := by decide +kernel
theorem dC_receive_1 : decode cC_receive 1 = .ok (.iload_n 1, 1) := by decide +kernel
theorem dC_receive_2 : decode cC_receive 2 = .ok (.invokevirtual 64, 3) := by decide +kernel
theorem dC_receive_5 : decode cC_receive 5 = .ok (.astore_n 2, 1) := by decide +kernel
theorem dC_receive_6 : decode cC_receive 6 = .ok (.aload_n 0, 1) := by decide +kernel
theorem dC_receive_7 : decode cC_receive 7 = .ok (.getfield 10, 3) := by decide +kernel
theorem dC_receive_10 : decode cC_receive 10 = .ok (.invokevirtual 86, 3) := by decide +kernel
theorem dC_receive_13 : decode cC_receive 13 = .ok (.ifCond .ne 11, 3) := by decide +kernel
theorem dC_receive_16 : decode cC_receive 16 = .ok (.new 43, 3) := by decide +kernel
theorem dC_receive_19 : decode cC_receive 19 = .ok (.dup, 1) := by decide +kernel
theorem dC_receive_20 : decode cC_receive 20 = .ok (.invokespecial 45, 3) := by decide +kernel
theorem dC_receive_23 : decode cC_receive 23 = .ok (.athrow, 1) := by decide +kernel
theorem dC_receive_24 : decode cC_receive 24 = .ok (.aload_n 2, 1) := by decide +kernel
theorem dC_receive_25 : decode cC_receive 25 = .ok (.getfield 79, 3) := by decide +kernel
theorem dC_receive_28 : decode cC_receive 28 = .ok (.ifCond .ne 29, 3) := by decide +kernel
theorem dC_receive_31 : decode cC_receive 31 = .ok (.aload_n 2, 1) := by decide +kernel
theorem dC_receive_32 : decode cC_receive 32 = .ok (.getfield 68, 3) := by decide +kernel
theorem dC_receive_35 : decode cC_receive 35 = .ok (.ifCond .eq 22, 3) := by decide +kernel
theorem dC_receive_38 : decode cC_receive 38 = .ok (.aload_n 2, 1) := by decide +kernel
theorem dC_receive_39 : decode cC_receive 39 = .ok (.getfield 76, 3) := by decide +kernel
theorem dC_receive_42 : decode cC_receive 42 = .ok (.aload_n 0, 1) := by decide +kernel
theorem dC_receive_43 : decode cC_receive 43 = .ok (.getfield 10, 3) := by decide +kernel
theorem dC_receive_46 : decode cC_receive 46 = .ok (.bipush 24, 2) := by decide +kernel
theorem dC_receive_48 : decode cC_receive 48 = .ok (.bipush 8, 2) := by decide +kernel
theorem dC_receive_50 : decode cC_receive 50 = .ok (.invokevirtual 90, 3) := by decide +kernel
theorem dC_receive_53 : decode cC_receive 53 = .ok (.lcmp, 1) := by decide +kernel
theorem dC_receive_54 : decode cC_receive 54 = .ok (.ifCond .eq 11, 3) := by decide +kernel
theorem dC_receive_57 : decode cC_receive 57 = .ok (.new 71, 3) := by decide +kernel
theorem dC_receive_60 : decode cC_receive 60 = .ok (.dup, 1) := by decide +kernel
theorem dC_receive_61 : decode cC_receive 61 = .ok (.invokespecial 73, 3) := by decide +kernel
theorem dC_receive_64 : decode cC_receive 64 = .ok (.athrow, 1) := by decide +kernel
theorem dC_receive_65 : decode cC_receive 65 = .ok (.aload_n 2, 1) := by decide +kernel
theorem dC_receive_66 : decode cC_receive 66 = .ok (.iconst 0, 1) := by decide +kernel
theorem dC_receive_67 : decode cC_receive 67 = .ok (.putfield 68, 3) := by decide +kernel
theorem dC_receive_70 : decode cC_receive 70 = .ok (.aload_n 0, 1) := by decide +kernel
theorem dC_receive_71 : decode cC_receive 71 = .ok (.getfield 10, 3) := by decide +kernel
theorem dC_receive_74 : decode cC_receive 74 = .ok (.invokevirtual 94, 3) := by decide +kernel
theorem dC_receive_77 : decode cC_receive 77 = .ok (.ifCond .ne 19, 3) := by decide +kernel
theorem dC_receive_80 : decode cC_receive 80 = .ok (.aload_n 2, 1) := by decide +kernel
theorem dC_receive_81 : decode cC_receive 81 = .ok (.aload_n 0, 1) := by decide +kernel
theorem dC_receive_82 : decode cC_receive 82 = .ok (.getfield 10, 3) := by decide +kernel
theorem dC_receive_85 : decode cC_receive 85 = .ok (.bipush 12, 2) := by decide +kernel
theorem dC_receive_87 : decode cC_receive 87 = .ok (.iconst 4, 1) := by decide +kernel
theorem dC_receive_88 : decode cC_receive 88 = .ok (.invokevirtual 90, 3) := by decide +kernel
theorem dC_receive_91 : decode cC_receive 91 = .ok (.invokevirtual 98, 3) := by decide +kernel
theorem dC_receive_94 : decode cC_receive 94 = .ok (.iconst 2, 1) := by decide +kernel
theorem dC_receive_95 : decode cC_receive 95 = .ok (.ireturn, 1) := by decide +kernel
theorem dC_receive_96 : decode cC_receive 96 = .ok (.aload_n 0, 1) := by decide +kernel
theorem dC_receive_97 : decode cC_receive 97 = .ok (.getfield 10, 3) := by decide +kernel
theorem dC_receive_100 : decode cC_receive 100 = .ok (.invokevirtual 101, 3) := by decide +kernel
theorem dC_receive_103 : decode cC_receive 103 = .ok (.ifCond .ne 5, 3) := by decide +kernel
theorem dC_receive_106 : decode cC_receive 106 = .ok (.iconst 1, 1) := by decide +kernel
theorem dC_receive_107 : decode cC_receive 107 = .ok (.ireturn, 1) := by decide +kernel
theorem dC_receive_108 : decode cC_receive 108 = .ok (.aload_n 0, 1) := by decide +kernel
theorem dC_receive_109 : decode cC_receive 109 = .ok (.aload_n 2, 1) := by decide +kernel
theorem dC_receive_110 : decode cC_receive 110 = .ok (.invokevirtual 104, 3) := by decide +kernel
theorem dC_receive_113 : decode cC_receive 113 = .ok (.ireturn, 1) := by decide +kernel
theorem dP_isAnswer_0 : decode cP_isAnswer 0 = .ok (.aload_n 0, 1) := by decide +kernel
theorem dP_isAnswer_1 : decode cP_isAnswer 1 = .ok (.getfield 9, 3) := by decide +kernel
theorem dP_isAnswer_4 : decode cP_isAnswer 4 = .ok (.iconst 0, 1) := by decide +kernel
theorem dP_isAnswer_5 : decode cP_isAnswer 5 = .ok (.baload, 1) := by decide +kernel
theorem dP_isAnswer_6 : decode cP_isAnswer 6 = .ok (.sipush 255, 3) := by decide +kernel
theorem dP_isAnswer_9 : decode cP_isAnswer 9 = .ok (.iand, 1) := by decide +kernel
theorem dP_isAnswer_10 : decode cP_isAnswer 10 = .ok (.istore_n 1, 1) := by decide +kernel
theorem dP_isAnswer_11 : decode cP_isAnswer 11 = .ok (.iload_n 1, 1) := by decide +kernel
theorem dP_isAnswer_12 : decode cP_isAnswer 12 = .ok (.iconst 3, 1) := by decide +kernel
theorem dP_isAnswer_13 : decode cP_isAnswer 13 = .ok (.ishr, 1) := by decide +kernel
theorem dP_isAnswer_14 : decode cP_isAnswer 14 = .ok (.bipush 7, 2) := by decide +kernel
theorem dP_isAnswer_16 : decode cP_isAnswer 16 = .ok (.iand, 1) := by decide +kernel
theorem dP_isAnswer_17 : decode cP_isAnswer 17 = .ok (.iconst 4, 1) := by decide +kernel
theorem dP_isAnswer_18 : decode cP_isAnswer 18 = .ok (.if_icmp .ne 28, 3) := by decide +kernel
theorem dP_isAnswer_21 : decode cP_isAnswer 21 = .ok (.iload_n 1, 1) := by decide +kernel
theorem dP_isAnswer_22 : decode cP_isAnswer 22 = .ok (.bipush 7, 2) := by decide +kernel
theorem dP_isAnswer_24 : decode cP_isAnswer 24 = .ok (.iand, 1) := by decide +kernel
theorem dP_isAnswer_25 : decode cP_isAnswer 25 = .ok (.iconst 4, 1) := by decide +kernel
theorem dP_isAnswer_26 : decode cP_isAnswer 26 = .ok (.if_icmp .ne 20, 3) := by decide +kernel
theorem dP_isAnswer_29 : decode cP_isAnswer 29 = .ok (.aload_n 0, 1) := by decide +kernel
theorem dP_isAnswer_30 : decode cP_isAnswer 30 = .ok (.bipush 40, 2) := by decide +kernel
theorem dP_isAnswer_32 : decode cP_isAnswer 32 = .ok (.bipush 8, 2) := by decide +kernel
theorem dP_isAnswer_34 : decode cP_isAnswer 34 = .ok (.invokevirtual 13, 3) := by decide +kernel
theorem dP_isAnswer_37 : decode cP_isAnswer 37 = .ok (.lconst 0, 1) := by decide +kernel
theorem dP_isAnswer_38 : decode cP_isAnswer 38 = .ok (.lcmp, 1) := by decide +kernel
theorem dP_isAnswer_39 : decode cP_isAnswer 39 = .ok (.ifCond .eq 7, 3) := by decide +kernel
theorem dP_isAnswer_42 : decode cP_isAnswer 42 = .ok (.iconst 1, 1) := by decide +kernel
theorem dP_isAnswer_43 : decode cP_isAnswer 43 = .ok (.goto 4, 3) := by decide +kernel
theorem dP_isAnswer_46 : decode cP_isAnswer 46 = .ok (.iconst 0, 1) := by decide +kernel
theorem dP_isAnswer_47 : decode cP_isAnswer 47 = .ok (.ireturn, 1) := by decide +kernel
theorem dP_read_0 : decode cP_read 0 = .ok (.lconst 0, 1) := by decide +kernel
theorem dP_read_1 : decode cP_read 1 = .ok (.lstore_n 3, 1) := by decide +kernel
theorem dP_read_2 : decode cP_read 2 = .ok (.iconst 0, 1) := by decide +kernel
theorem dP_read_3 : decode cP_read 3 = .ok (.istore 5, 2) := by decide +kernel
theorem dP_read_5 : decode cP_read 5 = .ok (.iload 5, 2) := by decide +kernel
theorem dP_read_7 : decode cP_read 7 = .ok (.iload_n 2, 1) := by decide +kernel
theorem dP_read_8 : decode cP_read 8 = .ok (.if_icmp .ge 29, 3) := by decide +kernel
theorem dP_read_11 : decode cP_read 11 = .ok (.lload_n 3, 1) := by decide +kernel
theorem dP_read_12 : decode cP_read 12 = .ok (.bipush 8, 2) := by decide +kernel
theorem dP_read_14 : decode cP_read 14 = .ok (.lshl, 1) := by decide +kernel
theorem dP_read_15 : decode cP_read 15 = .ok (.aload_n 0, 1) := by decide +kernel
theorem dP_read_16 : decode cP_read 16 = .ok (.getfield 9, 3) := by decide +kernel
theorem dP_read_19 : decode cP_read 19 = .ok (.iload_n 1, 1) := by decide +kernel
theorem dP_read_20 : decode cP_read 20 = .ok (.iload 5, 2) := by decide +kernel
theorem dP_read_22 : decode cP_read 22 = .ok (.iadd, 1) := by decide +kernel
theorem dP_read_23 : decode cP_read 23 = .ok (.baload, 1) := by decide +kernel
theorem dP_read_24 : decode cP_read 24 = .ok (.sipush 255, 3) := by decide +kernel
theorem dP_read_27 : decode cP_read 27 = .ok (.iand, 1) := by decide +kernel
theorem dP_read_28 : decode cP_read 28 = .ok (.i2l, 1) := by decide +kernel
theorem dP_read_29 : decode cP_read 29 = .ok (.lor, 1) := by decide +kernel
theorem dP_read_30 : decode cP_read 30 = .ok (.lstore_n 3, 1) := by decide +kernel
theorem dP_read_31 : decode cP_read 31 = .ok (.iinc 5 1, 3) := by decide +kernel
theorem dP_read_34 : decode cP_read 34 = .ok (.goto (-29), 3) := by decide +kernel
theorem dP_read_37 : decode cP_read 37 = .ok (.lload_n 3, 1) := by decide +kernel
theorem dP_read_38 : decode cP_read 38 = .ok (.lreturn, 1) := by decide +kernel
theorem dP_stratum_0 : decode cP_stratum 0 = .ok (.aload_n 0, 1) := by decide +kernel
theorem dP_stratum_1 : decode cP_stratum 1 = .ok (.getfield 9, 3) := by decide +kernel
theorem dP_stratum_4 : decode cP_stratum 4 = .ok (.iconst 1, 1) := by decide +kernel
theorem dP_stratum_5 : decode cP_stratum 5 = .ok (.baload, 1) := by decide +kernel
theorem dP_stratum_6 : decode cP_stratum 6 = .ok (.sipush 255, 3) := by decide +kernel
theorem dP_stratum_9 : decode cP_stratum 9 = .ok (.iand, 1) := by decide +kernel
theorem dP_stratum_10 : decode cP_stratum 10 = .ok (.ireturn, 1) := by decide +kernel
theorem dS_obey_0 : decode cS_obey 0 = .ok (.lload_n 1, 1) := by decide +kernel
theorem dS_obey_1 : decode cS_obey 1 = .ok (.ldc2_w 49, 3) := by decide +kernel
theorem dS_obey_4 : decode cS_obey 4 = .ok (.lcmp, 1) := by decide +kernel
theorem dS_obey_5 : decode cS_obey 5 = .ok (.ifCond .eq 11, 3) := by decide +kernel
theorem dS_obey_8 : decode cS_obey 8 = .ok (.lload_n 1, 1) := by decide +kernel
theorem dS_obey_9 : decode cS_obey 9 = .ok (.ldc2_w 51, 3) := by decide +kernel
theorem dS_obey_12 : decode cS_obey 12 = .ok (.lcmp, 1) := by decide +kernel
theorem dS_obey_13 : decode cS_obey 13 = .ok (.ifCond .ne 11, 3) := by decide +kernel
theorem dS_obey_16 : decode cS_obey 16 = .ok (.aload_n 0, 1) := by decide +kernel
theorem dS_obey_17 : decode cS_obey 17 = .ok (.iconst 1, 1) := by decide +kernel
theorem dS_obey_18 : decode cS_obey 18 = .ok (.putfield 7, 3) := by decide +kernel
theorem dS_obey_21 : decode cS_obey 21 = .ok (.goto 15, 3) := by decide +kernel
theorem dS_obey_24 : decode cS_obey 24 = .ok (.lload_n 1, 1) := by decide +kernel
theorem dS_obey_25 : decode cS_obey 25 = .ok (.ldc2_w 53, 3) := by decide +kernel
theorem dS_obey_28 : decode cS_obey 28 = .ok (.lcmp, 1) := by decide +kernel
theorem dS_obey_29 : decode cS_obey 29 = .ok (.ifCond .ne 7, 3) := by decide +kernel
theorem dS_obey_32 : decode cS_obey 32 = .ok (.aload_n 0, 1) := by decide +kernel
theorem dS_obey_33 : decode cS_obey 33 = .ok (.invokevirtual 55, 3) := by decide +kernel
theorem dS_obey_36 : decode cS_obey 36 = .ok (.return_, 1) := by decide +kernel
theorem dS_pollLater_0 : decode cS_pollLater 0 = .ok (.aload_n 0, 1) := by decide +kernel
theorem dS_pollLater_1 : decode cS_pollLater 1 = .ok (.bipush 10, 2) := by decide +kernel
theorem dS_pollLater_3 : decode cS_pollLater 3 = .ok (.aload_n 0, 1) := by decide +kernel
theorem dS_pollLater_4 : decode cS_pollLater 4 = .ok (.getfield 17, 3) := by decide +kernel
theorem dS_pollLater_7 : decode cS_pollLater 7 = .ok (.iconst 1, 1) := by decide +kernel
theorem dS_pollLater_8 : decode cS_pollLater 8 = .ok (.iadd, 1) := by decide +kernel
theorem dS_pollLater_9 : decode cS_pollLater 9 = .ok (.invokestatic 58, 3) := by decide +kernel
theorem dS_pollLater_12 : decode cS_pollLater 12 = .ok (.putfield 17, 3) := by decide +kernel
theorem dS_pollLater_15 : decode cS_pollLater 15 = .ok (.return_, 1) := by decide +kernel
theorem dJ_min_7cf5_0 : decode cJ_min_7cf5 0 = .ok (.iload_n 0, 1) := by decide +kernel
theorem dJ_min_7cf5_1 : decode cJ_min_7cf5 1 = .ok (.iload_n 1, 1) := by decide +kernel
theorem dJ_min_7cf5_2 : decode cJ_min_7cf5 2 = .ok (.if_icmp .gt 7, 3) := by decide +kernel
theorem dJ_min_7cf5_5 : decode cJ_min_7cf5 5 = .ok (.iload_n 0, 1) := by decide +kernel
theorem dJ_min_7cf5_6 : decode cJ_min_7cf5 6 = .ok (.goto 4, 3) := by decide +kernel
theorem dJ_min_7cf5_9 : decode cJ_min_7cf5 9 = .ok (.iload_n 1, 1) := by decide +kernel
theorem dJ_min_7cf5_10 : decode cJ_min_7cf5 10 = .ok (.ireturn, 1) := by decide +kernel
theorem dP_isSynchronized_0 : decode cP_isSynchronized 0 = .ok (.aload_n 0, 1) := by decide +kernel
theorem dP_isSynchronized_1 : decode cP_isSynchronized 1 = .ok (.getfield 9, 3) := by decide +kernel
theorem dP_isSynchronized_4 : decode cP_isSynchronized 4 = .ok (.iconst 0, 1) := by decide +kernel
theorem dP_isSynchronized_5 : decode cP_isSynchronized 5 = .ok (.baload, 1) := by decide +kernel
theorem dP_isSynchronized_6 : decode cP_isSynchronized 6 = .ok (.sipush 255, 3) := by decide +kernel
theorem dP_isSynchronized_9 : decode cP_isSynchronized 9 = .ok (.iand, 1) := by decide +kernel
theorem dP_isSynchronized_10 : decode cP_isSynchronized 10 = .ok (.bipush 6, 2) := by decide +kernel
theorem dP_isSynchronized_12 : decode cP_isSynchronized 12 = .ok (.ishr, 1) := by decide +kernel
theorem dP_isSynchronized_13 : decode cP_isSynchronized 13 = .ok (.iconst 3, 1) := by decide +kernel
theorem dP_isSynchronized_14 : decode cP_isSynchronized 14 = .ok (.if_icmp .eq 16, 3) := by decide +kernel
theorem dP_isSynchronized_17 : decode cP_isSynchronized 17 = .ok (.aload_n 0, 1) := by decide +kernel
theorem dP_isSynchronized_18 : decode cP_isSynchronized 18 = .ok (.invokevirtual 17, 3) := by decide +kernel
theorem dP_isSynchronized_21 : decode cP_isSynchronized 21 = .ok (.bipush 15, 2) := by decide +kernel
theorem dP_isSynchronized_23 : decode cP_isSynchronized 23 = .ok (.if_icmp .gt 7, 3) := by decide +kernel
theorem dP_isSynchronized_26 : decode cP_isSynchronized 26 = .ok (.iconst 1, 1) := by decide +kernel
theorem dP_isSynchronized_27 : decode cP_isSynchronized 27 = .ok (.goto 4, 3) := by decide +kernel
theorem dP_isSynchronized_30 : decode cP_isSynchronized 30 = .ok (.iconst 0, 1) := by decide +kernel
theorem dP_isSynchronized_31 : decode cP_isSynchronized 31 = .ok (.ireturn, 1) := by decide +kernel
theorem dC_takeTimes_0 : decode cC_takeTimes 0 = .ok (.aload_n 1, 1) := by decide +kernel
theorem dC_takeTimes_1 : decode cC_takeTimes 1 = .ok (.getfield 76, 3) := by decide +kernel
theorem dC_takeTimes_4 : decode cC_takeTimes 4 = .ok (.lstore_n 2, 1) := by decide +kernel
theorem dC_takeTimes_5 : decode cC_takeTimes 5 = .ok (.aload_n 0, 1) := by decide +kernel
theorem dC_takeTimes_6 : decode cC_takeTimes 6 = .ok (.getfield 10, 3) := by decide +kernel
theorem dC_takeTimes_9 : decode cC_takeTimes 9 = .ok (.bipush 32, 2) := by decide +kernel
theorem dC_takeTimes_11 : decode cC_takeTimes 11 = .ok (.bipush 8, 2) := by decide +kernel
theorem dC_takeTimes_13 : decode cC_takeTimes 13 = .ok (.invokevirtual 90, 3) := by decide +kernel
theorem dC_takeTimes_16 : decode cC_takeTimes 16 = .ok (.lstore 4, 2) := by decide +kernel
theorem dC_takeTimes_18 : decode cC_takeTimes 18 = .ok (.aload_n 0, 1) := by decide +kernel
theorem dC_takeTimes_19 : decode cC_takeTimes 19 = .ok (.getfield 10, 3) := by decide +kernel
theorem dC_takeTimes_22 : decode cC_takeTimes 22 = .ok (.bipush 40, 2) := by decide +kernel
theorem dC_takeTimes_24 : decode cC_takeTimes 24 = .ok (.bipush 8, 2) := by decide +kernel
theorem dC_takeTimes_26 : decode cC_takeTimes 26 = .ok (.invokevirtual 90, 3) := by decide +kernel
theorem dC_takeTimes_29 : decode cC_takeTimes 29 = .ok (.lstore 6, 2) := by decide +kernel
theorem dC_takeTimes_31 : decode cC_takeTimes 31 = .ok (.aload_n 0, 1) := by decide +kernel
theorem dC_takeTimes_32 : decode cC_takeTimes 32 = .ok (.getfield 30, 3) := by decide +kernel
theorem dC_takeTimes_35 : decode cC_takeTimes 35 = .ok (.lstore 8, 2) := by decide +kernel
theorem dC_takeTimes_37 : decode cC_takeTimes 37 = .ok (.lload 4, 2) := by decide +kernel
theorem dC_takeTimes_39 : decode cC_takeTimes 39 = .ok (.lload_n 2, 1) := by decide +kernel
theorem dC_takeTimes_40 : decode cC_takeTimes 40 = .ok (.lsub, 1) := by decide +kernel
theorem dC_takeTimes_41 : decode cC_takeTimes 41 = .ok (.lload 6, 2) := by decide +kernel
theorem dC_takeTimes_43 : decode cC_takeTimes 43 = .ok (.lload 8, 2) := by decide +kernel
theorem dC_takeTimes_45 : decode cC_takeTimes 45 = .ok (.lsub, 1) := by decide +kernel
theorem dC_takeTimes_46 : decode cC_takeTimes 46 = .ok (.invokestatic 183, 3) := by decide +kernel
theorem dC_takeTimes_49 : decode cC_takeTimes 49 = .ok (.lstore 10, 2) := by decide +kernel
theorem dC_takeTimes_51 : decode cC_takeTimes 51 = .ok (.ldc2_w 186, 3) := by decide +kernel
theorem dC_takeTimes_54 : decode cC_takeTimes 54 = .ok (.lload 8, 2) := by decide +kernel
theorem dC_takeTimes_56 : decode cC_takeTimes 56 = .ok (.lload_n 2, 1) := by decide +kernel
theorem dC_takeTimes_57 : decode cC_takeTimes 57 = .ok (.lsub, 1) := by decide +kernel
theorem dC_takeTimes_58 : decode cC_takeTimes 58 = .ok (.lload 6, 2) := by decide +kernel
theorem dC_takeTimes_60 : decode cC_takeTimes 60 = .ok (.lload 4, 2) := by decide +kernel
theorem dC_takeTimes_62 : decode cC_takeTimes 62 = .ok (.lsub, 1) := by decide +kernel
theorem dC_takeTimes_63 : decode cC_takeTimes 63 = .ok (.lsub, 1) := by decide +kernel
theorem dC_takeTimes_64 : decode cC_takeTimes 64 = .ok (.invokestatic 54, 3) := by decide +kernel
theorem dC_takeTimes_67 : decode cC_takeTimes 67 = .ok (.lstore 12, 2) := by decide +kernel
theorem dC_takeTimes_69 : decode cC_takeTimes 69 = .ok (.lload 10, 2) := by decide +kernel
theorem dC_takeTimes_71 : decode cC_takeTimes 71 = .ok (.ldc2_w 188, 3) := by decide +kernel
theorem dC_takeTimes_74 : decode cC_takeTimes 74 = .ok (.lcmp, 1) := by decide +kernel
theorem dC_takeTimes_75 : decode cC_takeTimes 75 = .ok (.ifCond .lt 21, 3) := by decide +kernel
theorem dC_takeTimes_78 : decode cC_takeTimes 78 = .ok (.lload 10, 2) := by decide +kernel
theorem dC_takeTimes_80 : decode cC_takeTimes 80 = .ok (.ldc2_w 190, 3) := by decide +kernel
theorem dC_takeTimes_83 : decode cC_takeTimes 83 = .ok (.lcmp, 1) := by decide +kernel
theorem dC_takeTimes_84 : decode cC_takeTimes 84 = .ok (.ifCond .gt 12, 3) := by decide +kernel
theorem dC_takeTimes_87 : decode cC_takeTimes 87 = .ok (.lload 12, 2) := by decide +kernel
theorem dC_takeTimes_89 : decode cC_takeTimes 89 = .ok (.ldc2_w 190, 3) := by decide +kernel
theorem dC_takeTimes_92 : decode cC_takeTimes 92 = .ok (.lcmp, 1) := by decide +kernel
theorem dC_takeTimes_93 : decode cC_takeTimes 93 = .ok (.ifCond .le 5, 3) := by decide +kernel
theorem dC_takeTimes_96 : decode cC_takeTimes 96 = .ok (.iconst 3, 1) := by decide +kernel
theorem dC_takeTimes_97 : decode cC_takeTimes 97 = .ok (.ireturn, 1) := by decide +kernel
theorem dC_takeTimes_98 : decode cC_takeTimes 98 = .ok (.aload_n 1, 1) := by decide +kernel
theorem dC_takeTimes_99 : decode cC_takeTimes 99 = .ok (.aload_n 0, 1) := by decide +kernel
theorem dC_takeTimes_100 : decode cC_takeTimes 100 = .ok (.getfield 10, 3) := by decide +kernel
theorem dC_takeTimes_103 : decode cC_takeTimes 103 = .ok (.invokevirtual 94, 3) := by decide +kernel
theorem dC_takeTimes_106 : decode cC_takeTimes 106 = .ok (.aload_n 0, 1) := by decide +kernel
theorem dC_takeTimes_107 : decode cC_takeTimes 107 = .ok (.getfield 10, 3) := by decide +kernel
theorem dC_takeTimes_110 : decode cC_takeTimes 110 = .ok (.invokevirtual 192, 3) := by decide +kernel
theorem dC_takeTimes_113 : decode cC_takeTimes 113 = .ok (.aload_n 0, 1) := by decide +kernel
theorem dC_takeTimes_114 : decode cC_takeTimes 114 = .ok (.getfield 10, 3) := by decide +kernel
theorem dC_takeTimes_117 : decode cC_takeTimes 117 = .ok (.invokevirtual 195, 3) := by decide +kernel
theorem dC_takeTimes_120 : decode cC_takeTimes 120 = .ok (.invokevirtual 198, 3) := by decide +kernel
theorem dC_takeTimes_123 : decode cC_takeTimes 123 = .ok (.aload_n 1, 1) := by decide +kernel
theorem dC_takeTimes_124 : decode cC_takeTimes 124 = .ok (.lload 10, 2) := by decide +kernel
theorem dC_takeTimes_126 : decode cC_takeTimes 126 = .ok (.lload 12, 2) := by decide +kernel
theorem dC_takeTimes_128 : decode cC_takeTimes 128 = .ok (.lload 8, 2) := by decide +kernel
theorem dC_takeTimes_130 : decode cC_takeTimes 130 = .ok (.invokevirtual 202, 3) := by decide +kernel
theorem dC_takeTimes_133 : decode cC_takeTimes 133 = .ok (.iconst 0, 1) := by decide +kernel
theorem dC_takeTimes_134 : decode cC_takeTimes 134 = .ok (.ireturn, 1) := by decide +kernel
theorem dC_halfOfSum_0 : decode cC_halfOfSum 0 = .ok (.lload_n 0, 1) := by decide +kernel
theorem dC_halfOfSum_1 : decode cC_halfOfSum 1 = .ok (.lload_n 2, 1) := by decide +kernel
theorem dC_halfOfSum_2 : decode cC_halfOfSum 2 = .ok (.land, 1) := by decide +kernel
theorem dC_halfOfSum_3 : decode cC_halfOfSum 3 = .ok (.lload_n 0, 1) := by decide +kernel
theorem dC_halfOfSum_4 : decode cC_halfOfSum 4 = .ok (.lload_n 2, 1) := by decide +kernel
theorem dC_halfOfSum_5 : decode cC_halfOfSum 5 = .ok (.lxor, 1) := by decide +kernel
theorem dC_halfOfSum_6 : decode cC_halfOfSum 6 = .ok (.iconst 1, 1) := by decide +kernel
theorem dC_halfOfSum_7 : decode cC_halfOfSum 7 = .ok (.lshr, 1) := by decide +kernel
theorem dC_halfOfSum_8 : decode cC_halfOfSum 8 = .ok (.ladd, 1) := by decide +kernel
theorem dC_halfOfSum_9 : decode cC_halfOfSum 9 = .ok (.lreturn, 1) := by decide +kernel
theorem dP_rootDelay_0 : decode cP_rootDelay 0 = .ok (.aload_n 0, 1) := by decide +kernel
theorem dP_rootDelay_1 : decode cP_rootDelay 1 = .ok (.iconst 4, 1) := by decide +kernel
theorem dP_rootDelay_2 : decode cP_rootDelay 2 = .ok (.iconst 4, 1) := by decide +kernel
theorem dP_rootDelay_3 : decode cP_rootDelay 3 = .ok (.invokevirtual 13, 3) := by decide +kernel
theorem dP_rootDelay_6 : decode cP_rootDelay 6 = .ok (.ldc2_w 21, 3) := by decide +kernel
theorem dP_rootDelay_9 : decode cP_rootDelay 9 = .ok (.lmul, 1) := by decide +kernel
theorem dP_rootDelay_10 : decode cP_rootDelay 10 = .ok (.lreturn, 1) := by decide +kernel
theorem dP_rootDispersion_0 : decode cP_rootDispersion 0 = .ok (.aload_n 0, 1) := by decide +kernel
theorem dP_rootDispersion_1 : decode cP_rootDispersion 1 = .ok (.bipush 8, 2) := by decide +kernel
theorem dP_rootDispersion_3 : decode cP_rootDispersion 3 = .ok (.iconst 4, 1) := by decide +kernel
theorem dP_rootDispersion_4 : decode cP_rootDispersion 4 = .ok (.invokevirtual 13, 3) := by decide +kernel
theorem dP_rootDispersion_7 : decode cP_rootDispersion 7 = .ok (.ldc2_w 21, 3) := by decide +kernel
theorem dP_rootDispersion_10 : decode cP_rootDispersion 10 = .ok (.lmul, 1) := by decide +kernel
theorem dP_rootDispersion_11 : decode cP_rootDispersion 11 = .ok (.lreturn, 1) := by decide +kernel
theorem dS_keepRoot_0 : decode cS_keepRoot 0 = .ok (.aload_n 0, 1) := by decide +kernel
theorem dS_keepRoot_1 : decode cS_keepRoot 1 = .ok (.iload_n 1, 1) := by decide +kernel
theorem dS_keepRoot_2 : decode cS_keepRoot 2 = .ok (.putfield 30, 3) := by decide +kernel
theorem dS_keepRoot_5 : decode cS_keepRoot 5 = .ok (.aload_n 0, 1) := by decide +kernel
theorem dS_keepRoot_6 : decode cS_keepRoot 6 = .ok (.lload_n 2, 1) := by decide +kernel
theorem dS_keepRoot_7 : decode cS_keepRoot 7 = .ok (.putfield 33, 3) := by decide +kernel
theorem dS_keepRoot_10 : decode cS_keepRoot 10 = .ok (.aload_n 0, 1) := by decide +kernel
theorem dS_keepRoot_11 : decode cS_keepRoot 11 = .ok (.lload 4, 2) := by decide +kernel
theorem dS_keepRoot_13 : decode cS_keepRoot 13 = .ok (.putfield 36, 3) := by decide +kernel
theorem dS_keepRoot_16 : decode cS_keepRoot 16 = .ok (.return_, 1) := by decide +kernel
