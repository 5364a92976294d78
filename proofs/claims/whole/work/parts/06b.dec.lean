theorem dX4_init_0 : decode cX4_init 0 = .ok (.aload_n 0, 1) := by decide +kernel
theorem dX4_init_1 : decode cX4_init 1 = .ok (.invokespecial 1, 3) := by decide +kernel
theorem dX4_init_4 : decode cX4_init 4 = .ok (.aload_n 0, 1) := by decide +kernel
theorem dX4_init_5 : decode cX4_init 5 = .ok (.bipush 8, 2) := by decide +kernel
theorem dX4_init_7 : decode cX4_init 7 = .ok (.anewarray 9, 3) := by decide +kernel
theorem dX4_init_10 : decode cX4_init 10 = .ok (.putfield 11, 3) := by decide +kernel
theorem dX4_init_13 : decode cX4_init 13 = .ok (.aload_n 0, 1) := by decide +kernel
theorem dX4_init_14 : decode cX4_init 14 = .ok (.bipush 6, 2) := by decide +kernel
theorem dX4_init_16 : decode cX4_init 16 = .ok (.anewarray 15, 3) := by decide +kernel
theorem dX4_init_19 : decode cX4_init 19 = .ok (.putfield 17, 3) := by decide +kernel
theorem dX4_init_22 : decode cX4_init 22 = .ok (.aload_n 0, 1) := by decide +kernel
theorem dX4_init_23 : decode cX4_init 23 = .ok (.bipush 120, 2) := by decide +kernel
theorem dX4_init_25 : decode cX4_init 25 = .ok (.newarray .int, 2) := by decide +kernel
theorem dX4_init_27 : decode cX4_init 27 = .ok (.putfield 21, 3) := by decide +kernel
theorem dX4_init_30 : decode cX4_init 30 = .ok (.iconst 0, 1) := by decide +kernel
theorem dX4_init_31 : decode cX4_init 31 = .ok (.istore_n 1, 1) := by decide +kernel
theorem dX4_init_32 : decode cX4_init 32 = .ok (.iload_n 1, 1) := by decide +kernel
theorem dX4_init_33 : decode cX4_init 33 = .ok (.bipush 6, 2) := by decide +kernel
theorem dX4_init_35 : decode cX4_init 35 = .ok (.if_icmp .ge 22, 3) := by decide +kernel
theorem dX4_init_38 : decode cX4_init 38 = .ok (.aload_n 0, 1) := by decide +kernel
theorem dX4_init_39 : decode cX4_init 39 = .ok (.getfield 17, 3) := by decide +kernel
theorem dX4_init_42 : decode cX4_init 42 = .ok (.iload_n 1, 1) := by decide +kernel
theorem dX4_init_43 : decode cX4_init 43 = .ok (.new 15, 3) := by decide +kernel
theorem dX4_init_46 : decode cX4_init 46 = .ok (.dup, 1) := by decide +kernel
theorem dX4_init_47 : decode cX4_init 47 = .ok (.invokespecial 25, 3) := by decide +kernel
theorem dX4_init_50 : decode cX4_init 50 = .ok (.aastore, 1) := by decide +kernel
theorem dX4_init_51 : decode cX4_init 51 = .ok (.iinc 1 1, 3) := by decide +kernel
theorem dX4_init_54 : decode cX4_init 54 = .ok (.goto (-22), 3) := by decide +kernel
theorem dX4_init_57 : decode cX4_init 57 = .ok (.return_, 1) := by decide +kernel
theorem dX4_safe_0 : decode cX4_safe 0 = .ok (.iload_n 1, 1) := by decide +kernel
theorem dX4_safe_1 : decode cX4_safe 1 = .ok (.invokestatic 26, 3) := by decide +kernel
theorem dX4_safe_4 : decode cX4_safe 4 = .ok (.ifCond .eq 22, 3) := by decide +kernel
theorem dX4_safe_7 : decode cX4_safe 7 = .ok (.iload_n 2, 1) := by decide +kernel
theorem dX4_safe_8 : decode cX4_safe 8 = .ok (.ifCond .lt 18, 3) := by decide +kernel
theorem dX4_safe_11 : decode cX4_safe 11 = .ok (.iload_n 2, 1) := by decide +kernel
theorem dX4_safe_12 : decode cX4_safe 12 = .ok (.iconst 2, 1) := by decide +kernel
theorem dX4_safe_13 : decode cX4_safe 13 = .ok (.if_icmp .gt 13, 3) := by decide +kernel
theorem dX4_safe_16 : decode cX4_safe 16 = .ok (.iload_n 3, 1) := by decide +kernel
theorem dX4_safe_17 : decode cX4_safe 17 = .ok (.ifCond .lt 9, 3) := by decide +kernel
theorem dX4_safe_20 : decode cX4_safe 20 = .ok (.iload_n 3, 1) := by decide +kernel
theorem dX4_safe_21 : decode cX4_safe 21 = .ok (.ldc 30, 2) := by decide +kernel
theorem dX4_safe_23 : decode cX4_safe 23 = .ok (.if_icmp .le 5, 3) := by decide +kernel
theorem dX4_safe_26 : decode cX4_safe 26 = .ok (.iconst (-1), 1) := by decide +kernel
theorem dX4_safe_27 : decode cX4_safe 27 = .ok (.ireturn, 1) := by decide +kernel
theorem dX4_safe_28 : decode cX4_safe 28 = .ok (.aload_n 0, 1) := by decide +kernel
theorem dX4_safe_29 : decode cX4_safe 29 = .ok (.getfield 11, 3) := by decide +kernel
theorem dX4_safe_32 : decode cX4_safe 32 = .ok (.iload_n 1, 1) := by decide +kernel
theorem dX4_safe_33 : decode cX4_safe 33 = .ok (.iload_n 2, 1) := by decide +kernel
theorem dX4_safe_34 : decode cX4_safe 34 = .ok (.iload_n 3, 1) := by decide +kernel
theorem dX4_safe_35 : decode cX4_safe 35 = .ok (.invokestatic 31, 3) := by decide +kernel
theorem dX4_safe_38 : decode cX4_safe 38 = .ok (.aastore, 1) := by decide +kernel
theorem dX4_safe_39 : decode cX4_safe 39 = .ok (.iconst 1, 1) := by decide +kernel
theorem dX4_safe_40 : decode cX4_safe 40 = .ok (.ireturn, 1) := by decide +kernel
theorem dX4_share_0 : decode cX4_share 0 = .ok (.iload_n 1, 1) := by decide +kernel
theorem dX4_share_1 : decode cX4_share 1 = .ok (.invokestatic 26, 3) := by decide +kernel
theorem dX4_share_4 : decode cX4_share 4 = .ok (.ifCond .eq 10, 3) := by decide +kernel
theorem dX4_share_7 : decode cX4_share 7 = .ok (.iload_n 2, 1) := by decide +kernel
theorem dX4_share_8 : decode cX4_share 8 = .ok (.invokestatic 26, 3) := by decide +kernel
theorem dX4_share_11 : decode cX4_share 11 = .ok (.ifCond .ne 5, 3) := by decide +kernel
theorem dX4_share_14 : decode cX4_share 14 = .ok (.iconst (-1), 1) := by decide +kernel
theorem dX4_share_15 : decode cX4_share 15 = .ok (.ireturn, 1) := by decide +kernel
theorem dX4_share_16 : decode cX4_share 16 = .ok (.aload_n 0, 1) := by decide +kernel
theorem dX4_share_17 : decode cX4_share 17 = .ok (.getfield 11, 3) := by decide +kernel
theorem dX4_share_20 : decode cX4_share 20 = .ok (.iload_n 2, 1) := by decide +kernel
theorem dX4_share_21 : decode cX4_share 21 = .ok (.aload_n 0, 1) := by decide +kernel
theorem dX4_share_22 : decode cX4_share 22 = .ok (.getfield 11, 3) := by decide +kernel
theorem dX4_share_25 : decode cX4_share 25 = .ok (.iload_n 1, 1) := by decide +kernel
theorem dX4_share_26 : decode cX4_share 26 = .ok (.aaload, 1) := by decide +kernel
theorem dX4_share_27 : decode cX4_share 27 = .ok (.aastore, 1) := by decide +kernel
theorem dX4_share_28 : decode cX4_share 28 = .ok (.aload_n 0, 1) := by decide +kernel
theorem dX4_share_29 : decode cX4_share 29 = .ok (.getfield 11, 3) := by decide +kernel
theorem dX4_share_32 : decode cX4_share 32 = .ok (.iload_n 2, 1) := by decide +kernel
theorem dX4_share_33 : decode cX4_share 33 = .ok (.aaload, 1) := by decide +kernel
theorem dX4_share_34 : decode cX4_share 34 = .ok (.ifnonnull 7, 3) := by decide +kernel
theorem dX4_share_37 : decode cX4_share 37 = .ok (.iconst 0, 1) := by decide +kernel
theorem dX4_share_38 : decode cX4_share 38 = .ok (.goto 4, 3) := by decide +kernel
theorem dX4_share_41 : decode cX4_share 41 = .ok (.iconst 1, 1) := by decide +kernel
theorem dX4_share_42 : decode cX4_share 42 = .ok (.ireturn, 1) := by decide +kernel
theorem dX4_same_0 : decode cX4_same 0 = .ok (.iload_n 1, 1) := by decide +kernel
theorem dX4_same_1 : decode cX4_same 1 = .ok (.invokestatic 26, 3) := by decide +kernel
theorem dX4_same_4 : decode cX4_same 4 = .ok (.ifCond .eq 10, 3) := by decide +kernel
theorem dX4_same_7 : decode cX4_same 7 = .ok (.iload_n 2, 1) := by decide +kernel
theorem dX4_same_8 : decode cX4_same 8 = .ok (.invokestatic 26, 3) := by decide +kernel
theorem dX4_same_11 : decode cX4_same 11 = .ok (.ifCond .ne 5, 3) := by decide +kernel
theorem dX4_same_14 : decode cX4_same 14 = .ok (.iconst (-1), 1) := by decide +kernel
theorem dX4_same_15 : decode cX4_same 15 = .ok (.ireturn, 1) := by decide +kernel
theorem dX4_same_16 : decode cX4_same 16 = .ok (.aload_n 0, 1) := by decide +kernel
theorem dX4_same_17 : decode cX4_same 17 = .ok (.getfield 11, 3) := by decide +kernel
theorem dX4_same_20 : decode cX4_same 20 = .ok (.iload_n 1, 1) := by decide +kernel
theorem dX4_same_21 : decode cX4_same 21 = .ok (.aaload, 1) := by decide +kernel
theorem dX4_same_22 : decode cX4_same 22 = .ok (.aload_n 0, 1) := by decide +kernel
theorem dX4_same_23 : decode cX4_same 23 = .ok (.getfield 11, 3) := by decide +kernel
theorem dX4_same_26 : decode cX4_same 26 = .ok (.iload_n 2, 1) := by decide +kernel
theorem dX4_same_27 : decode cX4_same 27 = .ok (.aaload, 1) := by decide +kernel
theorem dX4_same_28 : decode cX4_same 28 = .ok (.if_acmp .ne 7, 3) := by decide +kernel
theorem dX4_same_31 : decode cX4_same 31 = .ok (.iconst 1, 1) := by decide +kernel
theorem dX4_same_32 : decode cX4_same 32 = .ok (.goto 4, 3) := by decide +kernel
theorem dX4_same_35 : decode cX4_same 35 = .ok (.iconst 0, 1) := by decide +kernel
theorem dX4_same_36 : decode cX4_same 36 = .ok (.ireturn, 1) := by decide +kernel
theorem dX4_step_0 : decode cX4_step 0 = .ok (.iload_n 1, 1) := by decide +kernel
theorem dX4_step_1 : decode cX4_step 1 = .ok (.invokestatic 35, 3) := by decide +kernel
theorem dX4_step_4 : decode cX4_step 4 = .ok (.ifCond .eq 13, 3) := by decide +kernel
theorem dX4_step_7 : decode cX4_step 7 = .ok (.iload_n 2, 1) := by decide +kernel
theorem dX4_step_8 : decode cX4_step 8 = .ok (.iload_n 3, 1) := by decide +kernel
theorem dX4_step_9 : decode cX4_step 9 = .ok (.iload 4, 2) := by decide +kernel
theorem dX4_step_11 : decode cX4_step 11 = .ok (.invokestatic 38, 3) := by decide +kernel
theorem dX4_step_14 : decode cX4_step 14 = .ok (.ifCond .ne 5, 3) := by decide +kernel
theorem dX4_step_17 : decode cX4_step 17 = .ok (.iconst (-1), 1) := by decide +kernel
theorem dX4_step_18 : decode cX4_step 18 = .ok (.ireturn, 1) := by decide +kernel
theorem dX4_step_19 : decode cX4_step 19 = .ok (.aload_n 0, 1) := by decide +kernel
theorem dX4_step_20 : decode cX4_step 20 = .ok (.getfield 17, 3) := by decide +kernel
theorem dX4_step_23 : decode cX4_step 23 = .ok (.iload_n 1, 1) := by decide +kernel
theorem dX4_step_24 : decode cX4_step 24 = .ok (.aaload, 1) := by decide +kernel
theorem dX4_step_25 : decode cX4_step 25 = .ok (.astore 5, 2) := by decide +kernel
theorem dX4_step_27 : decode cX4_step 27 = .ok (.aload 5, 2) := by decide +kernel
theorem dX4_step_29 : decode cX4_step 29 = .ok (.getfield 42, 3) := by decide +kernel
theorem dX4_step_32 : decode cX4_step 32 = .ok (.bipush 12, 2) := by decide +kernel
theorem dX4_step_34 : decode cX4_step 34 = .ok (.if_icmp .lt 6, 3) := by decide +kernel
theorem dX4_step_37 : decode cX4_step 37 = .ok (.bipush (-2), 2) := by decide +kernel
theorem dX4_step_39 : decode cX4_step 39 = .ok (.ireturn, 1) := by decide +kernel
theorem dX4_step_40 : decode cX4_step 40 = .ok (.aload 5, 2) := by decide +kernel
theorem dX4_step_42 : decode cX4_step 42 = .ok (.iload_n 2, 1) := by decide +kernel
theorem dX4_step_43 : decode cX4_step 43 = .ok (.iload_n 3, 1) := by decide +kernel
theorem dX4_step_44 : decode cX4_step 44 = .ok (.iload 4, 2) := by decide +kernel
theorem dX4_step_46 : decode cX4_step 46 = .ok (.invokevirtual 46, 3) := by decide +kernel
theorem dX4_step_49 : decode cX4_step 49 = .ok (.aload 5, 2) := by decide +kernel
theorem dX4_step_51 : decode cX4_step 51 = .ok (.getfield 42, 3) := by decide +kernel
theorem dX4_step_54 : decode cX4_step 54 = .ok (.ireturn, 1) := by decide +kernel
theorem dX4_clear_0 : decode cX4_clear 0 = .ok (.iload_n 1, 1) := by decide +kernel
theorem dX4_clear_1 : decode cX4_clear 1 = .ok (.invokestatic 35, 3) := by decide +kernel
theorem dX4_clear_4 : decode cX4_clear 4 = .ok (.ifCond .ne 5, 3) := by decide +kernel
theorem dX4_clear_7 : decode cX4_clear 7 = .ok (.iconst (-1), 1) := by decide +kernel
theorem dX4_clear_8 : decode cX4_clear 8 = .ok (.ireturn, 1) := by decide +kernel
theorem dX4_clear_9 : decode cX4_clear 9 = .ok (.aload_n 0, 1) := by decide +kernel
theorem dX4_clear_10 : decode cX4_clear 10 = .ok (.getfield 17, 3) := by decide +kernel
theorem dX4_clear_13 : decode cX4_clear 13 = .ok (.iload_n 1, 1) := by decide +kernel
theorem dX4_clear_14 : decode cX4_clear 14 = .ok (.aaload, 1) := by decide +kernel
theorem dX4_clear_15 : decode cX4_clear 15 = .ok (.getfield 42, 3) := by decide +kernel
theorem dX4_clear_18 : decode cX4_clear 18 = .ok (.istore_n 2, 1) := by decide +kernel
theorem dX4_clear_19 : decode cX4_clear 19 = .ok (.aload_n 0, 1) := by decide +kernel
theorem dX4_clear_20 : decode cX4_clear 20 = .ok (.getfield 17, 3) := by decide +kernel
theorem dX4_clear_23 : decode cX4_clear 23 = .ok (.iload_n 1, 1) := by decide +kernel
theorem dX4_clear_24 : decode cX4_clear 24 = .ok (.aaload, 1) := by decide +kernel
theorem dX4_clear_25 : decode cX4_clear 25 = .ok (.iconst 0, 1) := by decide +kernel
theorem dX4_clear_26 : decode cX4_clear 26 = .ok (.putfield 42, 3) := by decide +kernel
theorem dX4_clear_29 : decode cX4_clear 29 = .ok (.iload_n 2, 1) := by decide +kernel
theorem dX4_clear_30 : decode cX4_clear 30 = .ok (.ireturn, 1) := by decide +kernel
theorem dX4_run_0 : decode cX4_run 0 = .ok (.iload_n 1, 1) := by decide +kernel
theorem dX4_run_1 : decode cX4_run 1 = .ok (.invokestatic 35, 3) := by decide +kernel
theorem dX4_run_4 : decode cX4_run 4 = .ok (.ifCond .ne 5, 3) := by decide +kernel
theorem dX4_run_7 : decode cX4_run 7 = .ok (.iconst (-1), 1) := by decide +kernel
theorem dX4_run_8 : decode cX4_run 8 = .ok (.ireturn, 1) := by decide +kernel
theorem dX4_run_9 : decode cX4_run 9 = .ok (.aload_n 0, 1) := by decide +kernel
theorem dX4_run_10 : decode cX4_run 10 = .ok (.iload_n 2, 1) := by decide +kernel
theorem dX4_run_11 : decode cX4_run 11 = .ok (.putfield 50, 3) := by decide +kernel
theorem dX4_run_14 : decode cX4_run 14 = .ok (.aload_n 0, 1) := by decide +kernel
theorem dX4_run_15 : decode cX4_run 15 = .ok (.iconst 0, 1) := by decide +kernel
theorem dX4_run_16 : decode cX4_run 16 = .ok (.putfield 53, 3) := by decide +kernel
theorem dX4_run_19 : decode cX4_run 19 = .ok (.aload_n 0, 1) := by decide +kernel
theorem dX4_run_20 : decode cX4_run 20 = .ok (.iconst 0, 1) := by decide +kernel
theorem dX4_run_21 : decode cX4_run 21 = .ok (.putfield 56, 3) := by decide +kernel
theorem dX4_run_24 : decode cX4_run 24 = .ok (.aload_n 0, 1) := by decide +kernel
theorem dX4_run_25 : decode cX4_run 25 = .ok (.iconst 0, 1) := by decide +kernel
theorem dX4_run_26 : decode cX4_run 26 = .ok (.putfield 59, 3) := by decide +kernel
theorem dX4_run_29 : decode cX4_run 29 = .ok (.aload_n 0, 1) := by decide +kernel
theorem dX4_run_30 : decode cX4_run 30 = .ok (.aload_n 0, 1) := by decide +kernel
theorem dX4_run_31 : decode cX4_run 31 = .ok (.iload_n 1, 1) := by decide +kernel
theorem dX4_run_32 : decode cX4_run 32 = .ok (.invokevirtual 62, 3) := by decide +kernel
theorem dX4_run_35 : decode cX4_run 35 = .ok (.putfield 66, 3) := by decide +kernel
theorem dX4_run_38 : decode cX4_run 38 = .ok (.aload_n 0, 1) := by decide +kernel
theorem dX4_run_39 : decode cX4_run 39 = .ok (.getfield 66, 3) := by decide +kernel
theorem dX4_run_42 : decode cX4_run 42 = .ok (.ifCond .ne 7, 3) := by decide +kernel
theorem dX4_run_45 : decode cX4_run 45 = .ok (.iconst 1, 1) := by decide +kernel
theorem dX4_run_46 : decode cX4_run 46 = .ok (.goto 10, 3) := by decide +kernel
theorem dX4_run_49 : decode cX4_run 49 = .ok (.bipush (-10), 2) := by decide +kernel
theorem dX4_run_51 : decode cX4_run 51 = .ok (.aload_n 0, 1) := by decide +kernel
theorem dX4_run_52 : decode cX4_run 52 = .ok (.getfield 66, 3) := by decide +kernel
theorem dX4_run_55 : decode cX4_run 55 = .ok (.isub, 1) := by decide +kernel
theorem dX4_run_56 : decode cX4_run 56 = .ok (.ireturn, 1) := by decide +kernel
theorem dX4_value_0 : decode cX4_value 0 = .ok (.aload_n 0, 1) := by decide +kernel
theorem dX4_value_1 : decode cX4_value 1 = .ok (.getfield 50, 3) := by decide +kernel
theorem dX4_value_4 : decode cX4_value 4 = .ok (.ireturn, 1) := by decide +kernel
theorem dX4_trace_0 : decode cX4_trace 0 = .ok (.iload_n 1, 1) := by decide +kernel
theorem dX4_trace_1 : decode cX4_trace 1 = .ok (.iconst (-1), 1) := by decide +kernel
theorem dX4_trace_2 : decode cX4_trace 2 = .ok (.if_icmp .ne 8, 3) := by decide +kernel
theorem dX4_trace_5 : decode cX4_trace 5 = .ok (.aload_n 0, 1) := by decide +kernel
theorem dX4_trace_6 : decode cX4_trace 6 = .ok (.getfield 56, 3) := by decide +kernel
theorem dX4_trace_9 : decode cX4_trace 9 = .ok (.ireturn, 1) := by decide +kernel
theorem dX4_trace_10 : decode cX4_trace 10 = .ok (.iload_n 1, 1) := by decide +kernel
theorem dX4_trace_11 : decode cX4_trace 11 = .ok (.ifCond .lt 20, 3) := by decide +kernel
theorem dX4_trace_14 : decode cX4_trace 14 = .ok (.iload_n 1, 1) := by decide +kernel
theorem dX4_trace_15 : decode cX4_trace 15 = .ok (.aload_n 0, 1) := by decide +kernel
theorem dX4_trace_16 : decode cX4_trace 16 = .ok (.getfield 56, 3) := by decide +kernel
theorem dX4_trace_19 : decode cX4_trace 19 = .ok (.if_icmp .ge 12, 3) := by decide +kernel
theorem dX4_trace_22 : decode cX4_trace 22 = .ok (.aload_n 0, 1) := by decide +kernel
theorem dX4_trace_23 : decode cX4_trace 23 = .ok (.getfield 21, 3) := by decide +kernel
theorem dX4_trace_26 : decode cX4_trace 26 = .ok (.iload_n 1, 1) := by decide +kernel
theorem dX4_trace_27 : decode cX4_trace 27 = .ok (.iaload, 1) := by decide +kernel
theorem dX4_trace_28 : decode cX4_trace 28 = .ok (.goto 4, 3) := by decide +kernel
theorem dX4_trace_31 : decode cX4_trace 31 = .ok (.iconst (-1), 1) := by decide +kernel
theorem dX4_trace_32 : decode cX4_trace 32 = .ok (.ireturn, 1) := by decide +kernel
theorem dX4_told_0 : decode cX4_told 0 = .ok (.aload_n 0, 1) := by decide +kernel
theorem dX4_told_1 : decode cX4_told 1 = .ok (.iload_n 1, 1) := by decide +kernel
theorem dX4_told_2 : decode cX4_told 2 = .ok (.invokevirtual 69, 3) := by decide +kernel
theorem dX4_told_5 : decode cX4_told 5 = .ok (.astore_n 3, 1) := by decide +kernel
theorem dX4_told_6 : decode cX4_told 6 = .ok (.aload_n 3, 1) := by decide +kernel
theorem dX4_told_7 : decode cX4_told 7 = .ok (.ifnonnull 5, 3) := by decide +kernel
theorem dX4_told_10 : decode cX4_told 10 = .ok (.iconst (-1), 1) := by decide +kernel
theorem dX4_told_11 : decode cX4_told 11 = .ok (.ireturn, 1) := by decide +kernel
theorem dX4_told_12 : decode cX4_told 12 = .ok (.iload_n 2, 1) := by decide +kernel
theorem dX4_told_13 : decode cX4_told 13 = .ok (.tableswitch 69 0 5 #[39, 44, 49, 54, 59, 64], 39) := by decide +kernel
theorem dX4_told_52 : decode cX4_told 52 = .ok (.aload_n 3, 1) := by decide +kernel
theorem dX4_told_53 : decode cX4_told 53 = .ok (.getfield 73, 3) := by decide +kernel
theorem dX4_told_56 : decode cX4_told 56 = .ok (.ireturn, 1) := by decide +kernel
theorem dX4_told_57 : decode cX4_told 57 = .ok (.aload_n 3, 1) := by decide +kernel
theorem dX4_told_58 : decode cX4_told 58 = .ok (.getfield 76, 3) := by decide +kernel
theorem dX4_told_61 : decode cX4_told 61 = .ok (.ireturn, 1) := by decide +kernel
theorem dX4_told_62 : decode cX4_told 62 = .ok (.aload_n 3, 1) := by decide +kernel
theorem dX4_told_63 : decode cX4_told 63 = .ok (.getfield 79, 3) := by decide +kernel
theorem dX4_told_66 : decode cX4_told 66 = .ok (.ireturn, 1) := by decide +kernel
theorem dX4_told_67 : decode cX4_told 67 = .ok (.aload_n 3, 1) := by decide +kernel
theorem dX4_told_68 : decode cX4_told 68 = .ok (.getfield 82, 3) := by decide +kernel
theorem dX4_told_71 : decode cX4_told 71 = .ok (.ireturn, 1) := by decide +kernel
theorem dX4_told_72 : decode cX4_told 72 = .ok (.aload_n 3, 1) := by decide +kernel
theorem dX4_told_73 : decode cX4_told 73 = .ok (.getfield 85, 3) := by decide +kernel
theorem dX4_told_76 : decode cX4_told 76 = .ok (.ireturn, 1) := by decide +kernel
theorem dX4_told_77 : decode cX4_told 77 = .ok (.aload_n 3, 1) := by decide +kernel
theorem dX4_told_78 : decode cX4_told 78 = .ok (.getfield 88, 3) := by decide +kernel
theorem dX4_told_81 : decode cX4_told 81 = .ok (.ireturn, 1) := by decide +kernel
theorem dX4_told_82 : decode cX4_told 82 = .ok (.iconst (-1), 1) := by decide +kernel
theorem dX4_told_83 : decode cX4_told 83 = .ok (.ireturn, 1) := by decide +kernel
theorem dX4_count_0 : decode cX4_count 0 = .ok (.iload_n 1, 1) := by decide +kernel
theorem dX4_count_1 : decode cX4_count 1 = .ok (.tableswitch 51 0 3 #[31, 36, 41, 46], 31) := by decide +kernel
theorem dX4_count_32 : decode cX4_count 32 = .ok (.aload_n 0, 1) := by decide +kernel
theorem dX4_count_33 : decode cX4_count 33 = .ok (.getfield 53, 3) := by decide +kernel
theorem dX4_count_36 : decode cX4_count 36 = .ok (.ireturn, 1) := by decide +kernel
theorem dX4_count_37 : decode cX4_count 37 = .ok (.aload_n 0, 1) := by decide +kernel
theorem dX4_count_38 : decode cX4_count 38 = .ok (.getfield 66, 3) := by decide +kernel
theorem dX4_count_41 : decode cX4_count 41 = .ok (.ireturn, 1) := by decide +kernel
theorem dX4_count_42 : decode cX4_count 42 = .ok (.aload_n 0, 1) := by decide +kernel
theorem dX4_count_43 : decode cX4_count 43 = .ok (.getfield 59, 3) := by decide +kernel
theorem dX4_count_46 : decode cX4_count 46 = .ok (.ireturn, 1) := by decide +kernel
theorem dX4_count_47 : decode cX4_count 47 = .ok (.aload_n 0, 1) := by decide +kernel
theorem dX4_count_48 : decode cX4_count 48 = .ok (.invokevirtual 91, 3) := by decide +kernel
theorem dX4_count_51 : decode cX4_count 51 = .ok (.ireturn, 1) := by decide +kernel
theorem dX4_count_52 : decode cX4_count 52 = .ok (.iload_n 1, 1) := by decide +kernel
theorem dX4_count_53 : decode cX4_count 53 = .ok (.iconst 4, 1) := by decide +kernel
theorem dX4_count_54 : decode cX4_count 54 = .ok (.if_icmp .lt 26, 3) := by decide +kernel
theorem dX4_count_57 : decode cX4_count 57 = .ok (.iload_n 1, 1) := by decide +kernel
theorem dX4_count_58 : decode cX4_count 58 = .ok (.iconst 4, 1) := by decide +kernel
theorem dX4_count_59 : decode cX4_count 59 = .ok (.isub, 1) := by decide +kernel
theorem dX4_count_60 : decode cX4_count 60 = .ok (.invokestatic 35, 3) := by decide +kernel
theorem dX4_count_63 : decode cX4_count 63 = .ok (.ifCond .eq 17, 3) := by decide +kernel
theorem dX4_count_66 : decode cX4_count 66 = .ok (.aload_n 0, 1) := by decide +kernel
theorem dX4_count_67 : decode cX4_count 67 = .ok (.getfield 17, 3) := by decide +kernel
theorem dX4_count_70 : decode cX4_count 70 = .ok (.iload_n 1, 1) := by decide +kernel
theorem dX4_count_71 : decode cX4_count 71 = .ok (.iconst 4, 1) := by decide +kernel
theorem dX4_count_72 : decode cX4_count 72 = .ok (.isub, 1) := by decide +kernel
theorem dX4_count_73 : decode cX4_count 73 = .ok (.aaload, 1) := by decide +kernel
theorem dX4_count_74 : decode cX4_count 74 = .ok (.getfield 42, 3) := by decide +kernel
theorem dX4_count_77 : decode cX4_count 77 = .ok (.goto 4, 3) := by decide +kernel
theorem dX4_count_80 : decode cX4_count 80 = .ok (.iconst (-1), 1) := by decide +kernel
theorem dX4_count_81 : decode cX4_count 81 = .ok (.ireturn, 1) := by decide +kernel
theorem dX4_isRoom_0 : decode cX4_isRoom 0 = .ok (.iload_n 0, 1) := by decide +kernel
theorem dX4_isRoom_1 : decode cX4_isRoom 1 = .ok (.ifCond .lt 13, 3) := by decide +kernel
theorem dX4_isRoom_4 : decode cX4_isRoom 4 = .ok (.iload_n 0, 1) := by decide +kernel
theorem dX4_isRoom_5 : decode cX4_isRoom 5 = .ok (.bipush 8, 2) := by decide +kernel
theorem dX4_isRoom_7 : decode cX4_isRoom 7 = .ok (.if_icmp .ge 7, 3) := by decide +kernel
theorem dX4_isRoom_10 : decode cX4_isRoom 10 = .ok (.iconst 1, 1) := by decide +kernel
theorem dX4_isRoom_11 : decode cX4_isRoom 11 = .ok (.goto 4, 3) := by decide +kernel
theorem dX4_isRoom_14 : decode cX4_isRoom 14 = .ok (.iconst 0, 1) := by decide +kernel
theorem dX4_isRoom_15 : decode cX4_isRoom 15 = .ok (.ireturn, 1) := by decide +kernel
theorem dX4_isPlan_0 : decode cX4_isPlan 0 = .ok (.iload_n 0, 1) := by decide +kernel
theorem dX4_isPlan_1 : decode cX4_isPlan 1 = .ok (.ifCond .lt 13, 3) := by decide +kernel
theorem dX4_isPlan_4 : decode cX4_isPlan 4 = .ok (.iload_n 0, 1) := by decide +kernel
theorem dX4_isPlan_5 : decode cX4_isPlan 5 = .ok (.bipush 6, 2) := by decide +kernel
theorem dX4_isPlan_7 : decode cX4_isPlan 7 = .ok (.if_icmp .ge 7, 3) := by decide +kernel
theorem dX4_isPlan_10 : decode cX4_isPlan 10 = .ok (.iconst 1, 1) := by decide +kernel
theorem dX4_isPlan_11 : decode cX4_isPlan 11 = .ok (.goto 4, 3) := by decide +kernel
theorem dX4_isPlan_14 : decode cX4_isPlan 14 = .ok (.iconst 0, 1) := by decide +kernel
theorem dX4_isPlan_15 : decode cX4_isPlan 15 = .ok (.ireturn, 1) := by decide +kernel
theorem dX4_isBlock_0 : decode cX4_isBlock 0 = .ok (.iload_n 0, 1) := by decide +kernel
theorem dX4_isBlock_1 : decode cX4_isBlock 1 = .ok (.iconst 1, 1) := by decide +kernel
theorem dX4_isBlock_2 : decode cX4_isBlock 2 = .ok (.if_icmp .lt 13, 3) := by decide +kernel
theorem dX4_isBlock_5 : decode cX4_isBlock 5 = .ok (.iload_n 0, 1) := by decide +kernel
theorem dX4_isBlock_6 : decode cX4_isBlock 6 = .ok (.bipush 11, 2) := by decide +kernel
theorem dX4_isBlock_8 : decode cX4_isBlock 8 = .ok (.if_icmp .gt 7, 3) := by decide +kernel
theorem dX4_isBlock_11 : decode cX4_isBlock 11 = .ok (.iconst 1, 1) := by decide +kernel
theorem dX4_isBlock_12 : decode cX4_isBlock 12 = .ok (.goto 4, 3) := by decide +kernel
theorem dX4_isBlock_15 : decode cX4_isBlock 15 = .ok (.iconst 0, 1) := by decide +kernel
theorem dX4_isBlock_16 : decode cX4_isBlock 16 = .ok (.ireturn, 1) := by decide +kernel
theorem dX4_isOwnFailure_0 : decode cX4_isOwnFailure 0 = .ok (.iload_n 0, 1) := by decide +kernel
theorem dX4_isOwnFailure_1 : decode cX4_isOwnFailure 1 = .ok (.bipush 20, 2) := by decide +kernel
theorem dX4_isOwnFailure_3 : decode cX4_isOwnFailure 3 = .ok (.if_icmp .lt 13, 3) := by decide +kernel
theorem dX4_isOwnFailure_6 : decode cX4_isOwnFailure 6 = .ok (.iload_n 0, 1) := by decide +kernel
theorem dX4_isOwnFailure_7 : decode cX4_isOwnFailure 7 = .ok (.bipush 23, 2) := by decide +kernel
theorem dX4_isOwnFailure_9 : decode cX4_isOwnFailure 9 = .ok (.if_icmp .gt 7, 3) := by decide +kernel
theorem dX4_isOwnFailure_12 : decode cX4_isOwnFailure 12 = .ok (.iconst 1, 1) := by decide +kernel
theorem dX4_isOwnFailure_13 : decode cX4_isOwnFailure 13 = .ok (.goto 4, 3) := by decide +kernel
theorem dX4_isOwnFailure_16 : decode cX4_isOwnFailure 16 = .ok (.iconst 0, 1) := by decide +kernel
theorem dX4_isOwnFailure_17 : decode cX4_isOwnFailure 17 = .ok (.ireturn, 1) := by decide +kernel
theorem dX4_canBeHeld_0 : decode cX4_canBeHeld 0 = .ok (.iload_n 0, 1) := by decide +kernel
theorem dX4_canBeHeld_1 : decode cX4_canBeHeld 1 = .ok (.ifCond .eq 33, 3) := by decide +kernel
theorem dX4_canBeHeld_4 : decode cX4_canBeHeld 4 = .ok (.iload_n 0, 1) := by decide +kernel
theorem dX4_canBeHeld_5 : decode cX4_canBeHeld 5 = .ok (.iconst 1, 1) := by decide +kernel
theorem dX4_canBeHeld_6 : decode cX4_canBeHeld 6 = .ok (.if_icmp .eq 28, 3) := by decide +kernel
theorem dX4_canBeHeld_9 : decode cX4_canBeHeld 9 = .ok (.iload_n 0, 1) := by decide +kernel
theorem dX4_canBeHeld_10 : decode cX4_canBeHeld 10 = .ok (.bipush 6, 2) := by decide +kernel
theorem dX4_canBeHeld_12 : decode cX4_canBeHeld 12 = .ok (.if_icmp .eq 22, 3) := by decide +kernel
theorem dX4_canBeHeld_15 : decode cX4_canBeHeld 15 = .ok (.iload_n 0, 1) := by decide +kernel
theorem dX4_canBeHeld_16 : decode cX4_canBeHeld 16 = .ok (.bipush 7, 2) := by decide +kernel
theorem dX4_canBeHeld_18 : decode cX4_canBeHeld 18 = .ok (.if_icmp .eq 16, 3) := by decide +kernel
theorem dX4_canBeHeld_21 : decode cX4_canBeHeld 21 = .ok (.iload_n 0, 1) := by decide +kernel
theorem dX4_canBeHeld_22 : decode cX4_canBeHeld 22 = .ok (.bipush 30, 2) := by decide +kernel
theorem dX4_canBeHeld_24 : decode cX4_canBeHeld 24 = .ok (.if_icmp .eq 10, 3) := by decide +kernel
theorem dX4_canBeHeld_27 : decode cX4_canBeHeld 27 = .ok (.iload_n 0, 1) := by decide +kernel
theorem dX4_canBeHeld_28 : decode cX4_canBeHeld 28 = .ok (.invokestatic 95, 3) := by decide +kernel
theorem dX4_canBeHeld_31 : decode cX4_canBeHeld 31 = .ok (.ifCond .eq 7, 3) := by decide +kernel
theorem dX4_canBeHeld_34 : decode cX4_canBeHeld 34 = .ok (.iconst 1, 1) := by decide +kernel
theorem dX4_canBeHeld_35 : decode cX4_canBeHeld 35 = .ok (.goto 4, 3) := by decide +kernel
theorem dX4_canBeHeld_38 : decode cX4_canBeHeld 38 = .ok (.iconst 0, 1) := by decide +kernel
theorem dX4_canBeHeld_39 : decode cX4_canBeHeld 39 = .ok (.ireturn, 1) := by decide +kernel
theorem dX4_isStep_0 : decode cX4_isStep 0 = .ok (.iload_n 0, 1) := by decide +kernel
theorem dX4_isStep_1 : decode cX4_isStep 1 = .ok (.tableswitch 128 0 13 #[71, 91, 111, 111, 111, 111, 111, 111, 116, 118, 116, 116, 123, 111], 71) := by decide +kernel
theorem dX4_isStep_72 : decode cX4_isStep 72 = .ok (.iload_n 1, 1) := by decide +kernel
theorem dX4_isStep_73 : decode cX4_isStep 73 = .ok (.invokestatic 26, 3) := by decide +kernel
theorem dX4_isStep_76 : decode cX4_isStep 76 = .ok (.ifCond .eq 14, 3) := by decide +kernel
theorem dX4_isStep_79 : decode cX4_isStep 79 = .ok (.iload_n 2, 1) := by decide +kernel
theorem dX4_isStep_80 : decode cX4_isStep 80 = .ok (.invokestatic 98, 3) := by decide +kernel
theorem dX4_isStep_83 : decode cX4_isStep 83 = .ok (.ifCond .eq 7, 3) := by decide +kernel
theorem dX4_isStep_86 : decode cX4_isStep 86 = .ok (.iconst 1, 1) := by decide +kernel
theorem dX4_isStep_87 : decode cX4_isStep 87 = .ok (.goto 4, 3) := by decide +kernel
theorem dX4_isStep_90 : decode cX4_isStep 90 = .ok (.iconst 0, 1) := by decide +kernel
theorem dX4_isStep_91 : decode cX4_isStep 91 = .ok (.ireturn, 1) := by decide +kernel
theorem dX4_isStep_92 : decode cX4_isStep 92 = .ok (.iload_n 1, 1) := by decide +kernel
theorem dX4_isStep_93 : decode cX4_isStep 93 = .ok (.invokestatic 101, 3) := by decide +kernel
theorem dX4_isStep_96 : decode cX4_isStep 96 = .ok (.ifCond .eq 14, 3) := by decide +kernel
theorem dX4_isStep_99 : decode cX4_isStep 99 = .ok (.iload_n 2, 1) := by decide +kernel
theorem dX4_isStep_100 : decode cX4_isStep 100 = .ok (.invokestatic 98, 3) := by decide +kernel
theorem dX4_isStep_103 : decode cX4_isStep 103 = .ok (.ifCond .eq 7, 3) := by decide +kernel
theorem dX4_isStep_106 : decode cX4_isStep 106 = .ok (.iconst 1, 1) := by decide +kernel
theorem dX4_isStep_107 : decode cX4_isStep 107 = .ok (.goto 4, 3) := by decide +kernel
theorem dX4_isStep_110 : decode cX4_isStep 110 = .ok (.iconst 0, 1) := by decide +kernel
theorem dX4_isStep_111 : decode cX4_isStep 111 = .ok (.ireturn, 1) := by decide +kernel
theorem dX4_isStep_112 : decode cX4_isStep 112 = .ok (.iload_n 1, 1) := by decide +kernel
theorem dX4_isStep_113 : decode cX4_isStep 113 = .ok (.invokestatic 26, 3) := by decide +kernel
theorem dX4_isStep_116 : decode cX4_isStep 116 = .ok (.ireturn, 1) := by decide +kernel
theorem dX4_isStep_117 : decode cX4_isStep 117 = .ok (.iconst 1, 1) := by decide +kernel
theorem dX4_isStep_118 : decode cX4_isStep 118 = .ok (.ireturn, 1) := by decide +kernel
theorem dX4_isStep_119 : decode cX4_isStep 119 = .ok (.iload_n 1, 1) := by decide +kernel
theorem dX4_isStep_120 : decode cX4_isStep 120 = .ok (.invokestatic 95, 3) := by decide +kernel
theorem dX4_isStep_123 : decode cX4_isStep 123 = .ok (.ireturn, 1) := by decide +kernel
theorem dX4_isStep_124 : decode cX4_isStep 124 = .ok (.iload_n 1, 1) := by decide +kernel
theorem dX4_isStep_125 : decode cX4_isStep 125 = .ok (.invokestatic 35, 3) := by decide +kernel
theorem dX4_isStep_128 : decode cX4_isStep 128 = .ok (.ireturn, 1) := by decide +kernel
theorem dX4_isStep_129 : decode cX4_isStep 129 = .ok (.iconst 0, 1) := by decide +kernel
theorem dX4_isStep_130 : decode cX4_isStep 130 = .ok (.ireturn, 1) := by decide +kernel
theorem dX4_newSafe_0 : decode cX4_newSafe 0 = .ok (.iload_n 0, 1) := by decide +kernel
theorem dX4_newSafe_1 : decode cX4_newSafe 1 = .ok (.iconst 2, 1) := by decide +kernel
theorem dX4_newSafe_2 : decode cX4_newSafe 2 = .ok (.if_icmp .ne 13, 3) := by decide +kernel
theorem dX4_newSafe_5 : decode cX4_newSafe 5 = .ok (.new 104, 3) := by decide +kernel
theorem dX4_newSafe_8 : decode cX4_newSafe 8 = .ok (.dup, 1) := by decide +kernel
theorem dX4_newSafe_9 : decode cX4_newSafe 9 = .ok (.iconst 2, 1) := by decide +kernel
theorem dX4_newSafe_10 : decode cX4_newSafe 10 = .ok (.iload_n 1, 1) := by decide +kernel
theorem dX4_newSafe_11 : decode cX4_newSafe 11 = .ok (.invokespecial 106, 3) := by decide +kernel
theorem dX4_newSafe_14 : decode cX4_newSafe 14 = .ok (.areturn, 1) := by decide +kernel
theorem dX4_newSafe_15 : decode cX4_newSafe 15 = .ok (.iload_n 0, 1) := by decide +kernel
theorem dX4_newSafe_16 : decode cX4_newSafe 16 = .ok (.iconst 1, 1) := by decide +kernel
theorem dX4_newSafe_17 : decode cX4_newSafe 17 = .ok (.if_icmp .ne 15, 3) := by decide +kernel
theorem dX4_newSafe_20 : decode cX4_newSafe 20 = .ok (.new 109, 3) := by decide +kernel
theorem dX4_newSafe_23 : decode cX4_newSafe 23 = .ok (.dup, 1) := by decide +kernel
theorem dX4_newSafe_24 : decode cX4_newSafe 24 = .ok (.iconst 1, 1) := by decide +kernel
theorem dX4_newSafe_25 : decode cX4_newSafe 25 = .ok (.iload_n 1, 1) := by decide +kernel
theorem dX4_newSafe_26 : decode cX4_newSafe 26 = .ok (.invokespecial 111, 3) := by decide +kernel
theorem dX4_newSafe_29 : decode cX4_newSafe 29 = .ok (.goto 12, 3) := by decide +kernel
theorem dX4_newSafe_32 : decode cX4_newSafe 32 = .ok (.new 9, 3) := by decide +kernel
theorem dX4_newSafe_35 : decode cX4_newSafe 35 = .ok (.dup, 1) := by decide +kernel
theorem dX4_newSafe_36 : decode cX4_newSafe 36 = .ok (.iconst 0, 1) := by decide +kernel
theorem dX4_newSafe_37 : decode cX4_newSafe 37 = .ok (.iload_n 1, 1) := by decide +kernel
theorem dX4_newSafe_38 : decode cX4_newSafe 38 = .ok (.invokespecial 112, 3) := by decide +kernel
theorem dX4_newSafe_41 : decode cX4_newSafe 41 = .ok (.areturn, 1) := by decide +kernel
theorem dX4_safeIn_0 : decode cX4_safeIn 0 = .ok (.iload_n 1, 1) := by decide +kernel
theorem dX4_safeIn_1 : decode cX4_safeIn 1 = .ok (.invokestatic 26, 3) := by decide +kernel
theorem dX4_safeIn_4 : decode cX4_safeIn 4 = .ok (.ifCond .eq 12, 3) := by decide +kernel
theorem dX4_safeIn_7 : decode cX4_safeIn 7 = .ok (.aload_n 0, 1) := by decide +kernel
theorem dX4_safeIn_8 : decode cX4_safeIn 8 = .ok (.getfield 11, 3) := by decide +kernel
theorem dX4_safeIn_11 : decode cX4_safeIn 11 = .ok (.iload_n 1, 1) := by decide +kernel
theorem dX4_safeIn_12 : decode cX4_safeIn 12 = .ok (.aaload, 1) := by decide +kernel
theorem dX4_safeIn_13 : decode cX4_safeIn 13 = .ok (.goto 4, 3) := by decide +kernel
theorem dX4_safeIn_16 : decode cX4_safeIn 16 = .ok (.aconst_null, 1) := by decide +kernel
theorem dX4_safeIn_17 : decode cX4_safeIn 17 = .ok (.areturn, 1) := by decide +kernel
theorem dX4_setRoom_0 : decode cX4_setRoom 0 = .ok (.iload_n 1, 1) := by decide +kernel
theorem dX4_setRoom_1 : decode cX4_setRoom 1 = .ok (.invokestatic 26, 3) := by decide +kernel
theorem dX4_setRoom_4 : decode cX4_setRoom 4 = .ok (.ifCond .eq 10, 3) := by decide +kernel
theorem dX4_setRoom_7 : decode cX4_setRoom 7 = .ok (.aload_n 0, 1) := by decide +kernel
theorem dX4_setRoom_8 : decode cX4_setRoom 8 = .ok (.getfield 11, 3) := by decide +kernel
theorem dX4_setRoom_11 : decode cX4_setRoom 11 = .ok (.iload_n 1, 1) := by decide +kernel
theorem dX4_setRoom_12 : decode cX4_setRoom 12 = .ok (.aload_n 2, 1) := by decide +kernel
theorem dX4_setRoom_13 : decode cX4_setRoom 13 = .ok (.aastore, 1) := by decide +kernel
theorem dX4_setRoom_14 : decode cX4_setRoom 14 = .ok (.return_, 1) := by decide +kernel
