theorem dX1_init_0 : decode prog_3_method_1_code 0 = .ok (.aload_n 0, 1) := by decide +kernel
theorem dX1_init_1 : decode prog_3_method_1_code 1 = .ok (.invokespecial 3, 3) := by decide +kernel
theorem dX1_init_4 : decode prog_3_method_1_code 4 = .ok (.aload_n 0, 1) := by decide +kernel
theorem dX1_init_5 : decode prog_3_method_1_code 5 = .ok (.bipush 48, 2) := by decide +kernel
theorem dX1_init_7 : decode prog_3_method_1_code 7 = .ok (.newarray .int, 2) := by decide +kernel
theorem dX1_init_9 : decode prog_3_method_1_code 9 = .ok (.putfield 9, 3) := by decide +kernel
theorem dX1_init_12 : decode prog_3_method_1_code 12 = .ok (.aload_n 0, 1) := by decide +kernel
theorem dX1_init_13 : decode prog_3_method_1_code 13 = .ok (.bipush 48, 2) := by decide +kernel
theorem dX1_init_15 : decode prog_3_method_1_code 15 = .ok (.newarray .int, 2) := by decide +kernel
theorem dX1_init_17 : decode prog_3_method_1_code 17 = .ok (.putfield 15, 3) := by decide +kernel
theorem dX1_init_20 : decode prog_3_method_1_code 20 = .ok (.aload_n 0, 1) := by decide +kernel
theorem dX1_init_21 : decode prog_3_method_1_code 21 = .ok (.bipush 48, 2) := by decide +kernel
theorem dX1_init_23 : decode prog_3_method_1_code 23 = .ok (.newarray .int, 2) := by decide +kernel
theorem dX1_init_25 : decode prog_3_method_1_code 25 = .ok (.putfield 18, 3) := by decide +kernel
theorem dX1_init_28 : decode prog_3_method_1_code 28 = .ok (.return_, 1) := by decide +kernel
theorem dX1_reset_0 : decode prog_3_method_2_code 0 = .ok (.aload_n 0, 1) := by decide +kernel
theorem dX1_reset_1 : decode prog_3_method_2_code 1 = .ok (.iconst 0, 1) := by decide +kernel
theorem dX1_reset_2 : decode prog_3_method_2_code 2 = .ok (.putfield 21, 3) := by decide +kernel
theorem dX1_reset_5 : decode prog_3_method_2_code 5 = .ok (.aload_n 0, 1) := by decide +kernel
theorem dX1_reset_6 : decode prog_3_method_2_code 6 = .ok (.getfield 9, 3) := by decide +kernel
theorem dX1_reset_9 : decode prog_3_method_2_code 9 = .ok (.iconst 0, 1) := by decide +kernel
theorem dX1_reset_10 : decode prog_3_method_2_code 10 = .ok (.invokestatic 25, 3) := by decide +kernel
theorem dX1_reset_13 : decode prog_3_method_2_code 13 = .ok (.return_, 1) := by decide +kernel
theorem dX1_join_0 : decode prog_3_method_3_code 0 = .ok (.aload_n 0, 1) := by decide +kernel
theorem dX1_join_1 : decode prog_3_method_3_code 1 = .ok (.getfield 9, 3) := by decide +kernel
theorem dX1_join_4 : decode prog_3_method_3_code 4 = .ok (.iload_n 1, 1) := by decide +kernel
theorem dX1_join_5 : decode prog_3_method_3_code 5 = .ok (.iload_n 2, 1) := by decide +kernel
theorem dX1_join_6 : decode prog_3_method_3_code 6 = .ok (.iastore, 1) := by decide +kernel
theorem dX1_join_7 : decode prog_3_method_3_code 7 = .ok (.aload_n 0, 1) := by decide +kernel
theorem dX1_join_8 : decode prog_3_method_3_code 8 = .ok (.getfield 15, 3) := by decide +kernel
theorem dX1_join_11 : decode prog_3_method_3_code 11 = .ok (.iload_n 1, 1) := by decide +kernel
theorem dX1_join_12 : decode prog_3_method_3_code 12 = .ok (.aload_n 0, 1) := by decide +kernel
theorem dX1_join_13 : decode prog_3_method_3_code 13 = .ok (.getfield 21, 3) := by decide +kernel
theorem dX1_join_16 : decode prog_3_method_3_code 16 = .ok (.iastore, 1) := by decide +kernel
theorem dX1_join_17 : decode prog_3_method_3_code 17 = .ok (.aload_n 0, 1) := by decide +kernel
theorem dX1_join_18 : decode prog_3_method_3_code 18 = .ok (.getfield 18, 3) := by decide +kernel
theorem dX1_join_21 : decode prog_3_method_3_code 21 = .ok (.iload_n 1, 1) := by decide +kernel
theorem dX1_join_22 : decode prog_3_method_3_code 22 = .ok (.aload_n 0, 1) := by decide +kernel
theorem dX1_join_23 : decode prog_3_method_3_code 23 = .ok (.getfield 21, 3) := by decide +kernel
theorem dX1_join_26 : decode prog_3_method_3_code 26 = .ok (.iastore, 1) := by decide +kernel
theorem dX1_join_27 : decode prog_3_method_3_code 27 = .ok (.return_, 1) := by decide +kernel
theorem dX1_copy_0 : decode prog_3_method_4_code 0 = .ok (.aload_n 0, 1) := by decide +kernel
theorem dX1_copy_1 : decode prog_3_method_4_code 1 = .ok (.getfield 9, 3) := by decide +kernel
theorem dX1_copy_4 : decode prog_3_method_4_code 4 = .ok (.iload_n 2, 1) := by decide +kernel
theorem dX1_copy_5 : decode prog_3_method_4_code 5 = .ok (.aload_n 0, 1) := by decide +kernel
theorem dX1_copy_6 : decode prog_3_method_4_code 6 = .ok (.getfield 9, 3) := by decide +kernel
theorem dX1_copy_9 : decode prog_3_method_4_code 9 = .ok (.iload_n 1, 1) := by decide +kernel
theorem dX1_copy_10 : decode prog_3_method_4_code 10 = .ok (.iaload, 1) := by decide +kernel
theorem dX1_copy_11 : decode prog_3_method_4_code 11 = .ok (.iastore, 1) := by decide +kernel
theorem dX1_copy_12 : decode prog_3_method_4_code 12 = .ok (.aload_n 0, 1) := by decide +kernel
theorem dX1_copy_13 : decode prog_3_method_4_code 13 = .ok (.getfield 15, 3) := by decide +kernel
theorem dX1_copy_16 : decode prog_3_method_4_code 16 = .ok (.iload_n 2, 1) := by decide +kernel
theorem dX1_copy_17 : decode prog_3_method_4_code 17 = .ok (.aload_n 0, 1) := by decide +kernel
theorem dX1_copy_18 : decode prog_3_method_4_code 18 = .ok (.getfield 15, 3) := by decide +kernel
theorem dX1_copy_21 : decode prog_3_method_4_code 21 = .ok (.iload_n 1, 1) := by decide +kernel
theorem dX1_copy_22 : decode prog_3_method_4_code 22 = .ok (.iaload, 1) := by decide +kernel
theorem dX1_copy_23 : decode prog_3_method_4_code 23 = .ok (.iastore, 1) := by decide +kernel
theorem dX1_copy_24 : decode prog_3_method_4_code 24 = .ok (.aload_n 0, 1) := by decide +kernel
theorem dX1_copy_25 : decode prog_3_method_4_code 25 = .ok (.getfield 18, 3) := by decide +kernel
theorem dX1_copy_28 : decode prog_3_method_4_code 28 = .ok (.iload_n 2, 1) := by decide +kernel
theorem dX1_copy_29 : decode prog_3_method_4_code 29 = .ok (.aload_n 0, 1) := by decide +kernel
theorem dX1_copy_30 : decode prog_3_method_4_code 30 = .ok (.getfield 18, 3) := by decide +kernel
theorem dX1_copy_33 : decode prog_3_method_4_code 33 = .ok (.iload_n 1, 1) := by decide +kernel
theorem dX1_copy_34 : decode prog_3_method_4_code 34 = .ok (.iaload, 1) := by decide +kernel
theorem dX1_copy_35 : decode prog_3_method_4_code 35 = .ok (.iastore, 1) := by decide +kernel
theorem dX1_copy_36 : decode prog_3_method_4_code 36 = .ok (.return_, 1) := by decide +kernel
theorem dX1_leave_0 : decode prog_3_method_5_code 0 = .ok (.aload_n 0, 1) := by decide +kernel
theorem dX1_leave_1 : decode prog_3_method_5_code 1 = .ok (.getfield 9, 3) := by decide +kernel
theorem dX1_leave_4 : decode prog_3_method_5_code 4 = .ok (.iload_n 1, 1) := by decide +kernel
theorem dX1_leave_5 : decode prog_3_method_5_code 5 = .ok (.iconst 0, 1) := by decide +kernel
theorem dX1_leave_6 : decode prog_3_method_5_code 6 = .ok (.iastore, 1) := by decide +kernel
theorem dX1_leave_7 : decode prog_3_method_5_code 7 = .ok (.aload_n 0, 1) := by decide +kernel
theorem dX1_leave_8 : decode prog_3_method_5_code 8 = .ok (.invokevirtual 31, 3) := by decide +kernel
theorem dX1_leave_11 : decode prog_3_method_5_code 11 = .ok (.return_, 1) := by decide +kernel
theorem dX1_signal_0 : decode prog_3_method_6_code 0 = .ok (.aload_n 0, 1) := by decide +kernel
theorem dX1_signal_1 : decode prog_3_method_6_code 1 = .ok (.getfield 9, 3) := by decide +kernel
theorem dX1_signal_4 : decode prog_3_method_6_code 4 = .ok (.iload_n 1, 1) := by decide +kernel
theorem dX1_signal_5 : decode prog_3_method_6_code 5 = .ok (.iaload, 1) := by decide +kernel
theorem dX1_signal_6 : decode prog_3_method_6_code 6 = .ok (.iconst 1, 1) := by decide +kernel
theorem dX1_signal_7 : decode prog_3_method_6_code 7 = .ok (.iand, 1) := by decide +kernel
theorem dX1_signal_8 : decode prog_3_method_6_code 8 = .ok (.ifCond .eq 17, 3) := by decide +kernel
theorem dX1_signal_11 : decode prog_3_method_6_code 11 = .ok (.aload_n 0, 1) := by decide +kernel
theorem dX1_signal_12 : decode prog_3_method_6_code 12 = .ok (.getfield 15, 3) := by decide +kernel
theorem dX1_signal_15 : decode prog_3_method_6_code 15 = .ok (.iload_n 1, 1) := by decide +kernel
theorem dX1_signal_16 : decode prog_3_method_6_code 16 = .ok (.dup2, 1) := by decide +kernel
theorem dX1_signal_17 : decode prog_3_method_6_code 17 = .ok (.iaload, 1) := by decide +kernel
theorem dX1_signal_18 : decode prog_3_method_6_code 18 = .ok (.iconst 1, 1) := by decide +kernel
theorem dX1_signal_19 : decode prog_3_method_6_code 19 = .ok (.iadd, 1) := by decide +kernel
theorem dX1_signal_20 : decode prog_3_method_6_code 20 = .ok (.iastore, 1) := by decide +kernel
theorem dX1_signal_21 : decode prog_3_method_6_code 21 = .ok (.aload_n 0, 1) := by decide +kernel
theorem dX1_signal_22 : decode prog_3_method_6_code 22 = .ok (.invokevirtual 31, 3) := by decide +kernel
theorem dX1_signal_25 : decode prog_3_method_6_code 25 = .ok (.return_, 1) := by decide +kernel
theorem dX1_holdsBack_0 : decode prog_3_method_7_code 0 = .ok (.aload_n 0, 1) := by decide +kernel
theorem dX1_holdsBack_1 : decode prog_3_method_7_code 1 = .ok (.getfield 9, 3) := by decide +kernel
theorem dX1_holdsBack_4 : decode prog_3_method_7_code 4 = .ok (.iload_n 1, 1) := by decide +kernel
theorem dX1_holdsBack_5 : decode prog_3_method_7_code 5 = .ok (.iaload, 1) := by decide +kernel
theorem dX1_holdsBack_6 : decode prog_3_method_7_code 6 = .ok (.iconst 2, 1) := by decide +kernel
theorem dX1_holdsBack_7 : decode prog_3_method_7_code 7 = .ok (.iand, 1) := by decide +kernel
theorem dX1_holdsBack_8 : decode prog_3_method_7_code 8 = .ok (.ifCond .eq 20, 3) := by decide +kernel
theorem dX1_holdsBack_11 : decode prog_3_method_7_code 11 = .ok (.aload_n 0, 1) := by decide +kernel
theorem dX1_holdsBack_12 : decode prog_3_method_7_code 12 = .ok (.getfield 21, 3) := by decide +kernel
theorem dX1_holdsBack_15 : decode prog_3_method_7_code 15 = .ok (.aload_n 0, 1) := by decide +kernel
theorem dX1_holdsBack_16 : decode prog_3_method_7_code 16 = .ok (.getfield 18, 3) := by decide +kernel
theorem dX1_holdsBack_19 : decode prog_3_method_7_code 19 = .ok (.iload_n 1, 1) := by decide +kernel
theorem dX1_holdsBack_20 : decode prog_3_method_7_code 20 = .ok (.iaload, 1) := by decide +kernel
theorem dX1_holdsBack_21 : decode prog_3_method_7_code 21 = .ok (.if_icmp .gt 7, 3) := by decide +kernel
theorem dX1_holdsBack_24 : decode prog_3_method_7_code 24 = .ok (.iconst 1, 1) := by decide +kernel
theorem dX1_holdsBack_25 : decode prog_3_method_7_code 25 = .ok (.goto 4, 3) := by decide +kernel
theorem dX1_holdsBack_28 : decode prog_3_method_7_code 28 = .ok (.iconst 0, 1) := by decide +kernel
theorem dX1_holdsBack_29 : decode prog_3_method_7_code 29 = .ok (.ireturn, 1) := by decide +kernel
theorem dX1_pass_0 : decode prog_3_method_8_code 0 = .ok (.aload_n 0, 1) := by decide +kernel
theorem dX1_pass_1 : decode prog_3_method_8_code 1 = .ok (.getfield 9, 3) := by decide +kernel
theorem dX1_pass_4 : decode prog_3_method_8_code 4 = .ok (.iload_n 1, 1) := by decide +kernel
theorem dX1_pass_5 : decode prog_3_method_8_code 5 = .ok (.iaload, 1) := by decide +kernel
theorem dX1_pass_6 : decode prog_3_method_8_code 6 = .ok (.iconst 2, 1) := by decide +kernel
theorem dX1_pass_7 : decode prog_3_method_8_code 7 = .ok (.iand, 1) := by decide +kernel
theorem dX1_pass_8 : decode prog_3_method_8_code 8 = .ok (.ifCond .eq 13, 3) := by decide +kernel
theorem dX1_pass_11 : decode prog_3_method_8_code 11 = .ok (.aload_n 0, 1) := by decide +kernel
theorem dX1_pass_12 : decode prog_3_method_8_code 12 = .ok (.getfield 18, 3) := by decide +kernel
theorem dX1_pass_15 : decode prog_3_method_8_code 15 = .ok (.iload_n 1, 1) := by decide +kernel
theorem dX1_pass_16 : decode prog_3_method_8_code 16 = .ok (.dup2, 1) := by decide +kernel
theorem dX1_pass_17 : decode prog_3_method_8_code 17 = .ok (.iaload, 1) := by decide +kernel
theorem dX1_pass_18 : decode prog_3_method_8_code 18 = .ok (.iconst 1, 1) := by decide +kernel
theorem dX1_pass_19 : decode prog_3_method_8_code 19 = .ok (.iadd, 1) := by decide +kernel
theorem dX1_pass_20 : decode prog_3_method_8_code 20 = .ok (.iastore, 1) := by decide +kernel
theorem dX1_pass_21 : decode prog_3_method_8_code 21 = .ok (.return_, 1) := by decide +kernel
theorem dX1_raisePhase_0 : decode prog_3_method_9_code 0 = .ok (.iconst 0, 1) := by decide +kernel
theorem dX1_raisePhase_1 : decode prog_3_method_9_code 1 = .ok (.istore_n 1, 1) := by decide +kernel
theorem dX1_raisePhase_2 : decode prog_3_method_9_code 2 = .ok (.iconst 0, 1) := by decide +kernel
theorem dX1_raisePhase_3 : decode prog_3_method_9_code 3 = .ok (.istore_n 2, 1) := by decide +kernel
theorem dX1_raisePhase_4 : decode prog_3_method_9_code 4 = .ok (.iconst 0, 1) := by decide +kernel
theorem dX1_raisePhase_5 : decode prog_3_method_9_code 5 = .ok (.istore_n 3, 1) := by decide +kernel
theorem dX1_raisePhase_6 : decode prog_3_method_9_code 6 = .ok (.iload_n 3, 1) := by decide +kernel
theorem dX1_raisePhase_7 : decode prog_3_method_9_code 7 = .ok (.bipush 48, 2) := by decide +kernel
theorem dX1_raisePhase_9 : decode prog_3_method_9_code 9 = .ok (.if_icmp .ge 43, 3) := by decide +kernel
theorem dX1_raisePhase_12 : decode prog_3_method_9_code 12 = .ok (.aload_n 0, 1) := by decide +kernel
theorem dX1_raisePhase_13 : decode prog_3_method_9_code 13 = .ok (.getfield 9, 3) := by decide +kernel
theorem dX1_raisePhase_16 : decode prog_3_method_9_code 16 = .ok (.iload_n 3, 1) := by decide +kernel
theorem dX1_raisePhase_17 : decode prog_3_method_9_code 17 = .ok (.iaload, 1) := by decide +kernel
theorem dX1_raisePhase_18 : decode prog_3_method_9_code 18 = .ok (.iconst 1, 1) := by decide +kernel
theorem dX1_raisePhase_19 : decode prog_3_method_9_code 19 = .ok (.iand, 1) := by decide +kernel
theorem dX1_raisePhase_20 : decode prog_3_method_9_code 20 = .ok (.ifCond .eq 26, 3) := by decide +kernel
theorem dX1_raisePhase_23 : decode prog_3_method_9_code 23 = .ok (.iload_n 1, 1) := by decide +kernel
theorem dX1_raisePhase_24 : decode prog_3_method_9_code 24 = .ok (.ifCond .eq 13, 3) := by decide +kernel
theorem dX1_raisePhase_27 : decode prog_3_method_9_code 27 = .ok (.aload_n 0, 1) := by decide +kernel
theorem dX1_raisePhase_28 : decode prog_3_method_9_code 28 = .ok (.getfield 15, 3) := by decide +kernel
theorem dX1_raisePhase_31 : decode prog_3_method_9_code 31 = .ok (.iload_n 3, 1) := by decide +kernel
theorem dX1_raisePhase_32 : decode prog_3_method_9_code 32 = .ok (.iaload, 1) := by decide +kernel
theorem dX1_raisePhase_33 : decode prog_3_method_9_code 33 = .ok (.iload_n 2, 1) := by decide +kernel
theorem dX1_raisePhase_34 : decode prog_3_method_9_code 34 = .ok (.if_icmp .ge 12, 3) := by decide +kernel
theorem dX1_raisePhase_37 : decode prog_3_method_9_code 37 = .ok (.iconst 1, 1) := by decide +kernel
theorem dX1_raisePhase_38 : decode prog_3_method_9_code 38 = .ok (.istore_n 1, 1) := by decide +kernel
theorem dX1_raisePhase_39 : decode prog_3_method_9_code 39 = .ok (.aload_n 0, 1) := by decide +kernel
theorem dX1_raisePhase_40 : decode prog_3_method_9_code 40 = .ok (.getfield 15, 3) := by decide +kernel
theorem dX1_raisePhase_43 : decode prog_3_method_9_code 43 = .ok (.iload_n 3, 1) := by decide +kernel
theorem dX1_raisePhase_44 : decode prog_3_method_9_code 44 = .ok (.iaload, 1) := by decide +kernel
theorem dX1_raisePhase_45 : decode prog_3_method_9_code 45 = .ok (.istore_n 2, 1) := by decide +kernel
theorem dX1_raisePhase_46 : decode prog_3_method_9_code 46 = .ok (.iinc 3 1, 3) := by decide +kernel
theorem dX1_raisePhase_49 : decode prog_3_method_9_code 49 = .ok (.goto (-43), 3) := by decide +kernel
theorem dX1_raisePhase_52 : decode prog_3_method_9_code 52 = .ok (.iload_n 1, 1) := by decide +kernel
theorem dX1_raisePhase_53 : decode prog_3_method_9_code 53 = .ok (.ifCond .eq 16, 3) := by decide +kernel
theorem dX1_raisePhase_56 : decode prog_3_method_9_code 56 = .ok (.iload_n 2, 1) := by decide +kernel
theorem dX1_raisePhase_57 : decode prog_3_method_9_code 57 = .ok (.aload_n 0, 1) := by decide +kernel
theorem dX1_raisePhase_58 : decode prog_3_method_9_code 58 = .ok (.getfield 21, 3) := by decide +kernel
theorem dX1_raisePhase_61 : decode prog_3_method_9_code 61 = .ok (.if_icmp .le 8, 3) := by decide +kernel
theorem dX1_raisePhase_64 : decode prog_3_method_9_code 64 = .ok (.aload_n 0, 1) := by decide +kernel
theorem dX1_raisePhase_65 : decode prog_3_method_9_code 65 = .ok (.iload_n 2, 1) := by decide +kernel
theorem dX1_raisePhase_66 : decode prog_3_method_9_code 66 = .ok (.putfield 21, 3) := by decide +kernel
theorem dX1_raisePhase_69 : decode prog_3_method_9_code 69 = .ok (.return_, 1) := by decide +kernel
