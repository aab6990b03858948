theorem dX5_init_0 : decode prog_7_method_1_code 0 = .ok (.aload_n 0, 1) := by decide +kernel
theorem dX5_init_1 : decode prog_7_method_1_code 1 = .ok (.invokespecial 3, 3) := by decide +kernel
theorem dX5_init_4 : decode prog_7_method_1_code 4 = .ok (.aload_n 0, 1) := by decide +kernel
theorem dX5_init_5 : decode prog_7_method_1_code 5 = .ok (.bipush 48, 2) := by decide +kernel
theorem dX5_init_7 : decode prog_7_method_1_code 7 = .ok (.newarray .int, 2) := by decide +kernel
theorem dX5_init_9 : decode prog_7_method_1_code 9 = .ok (.putfield 9, 3) := by decide +kernel
theorem dX5_init_12 : decode prog_7_method_1_code 12 = .ok (.aload_n 0, 1) := by decide +kernel
theorem dX5_init_13 : decode prog_7_method_1_code 13 = .ok (.iconst (-1), 1) := by decide +kernel
theorem dX5_init_14 : decode prog_7_method_1_code 14 = .ok (.putfield 15, 3) := by decide +kernel
theorem dX5_init_17 : decode prog_7_method_1_code 17 = .ok (.return_, 1) := by decide +kernel
theorem dX5_reset_0 : decode prog_7_method_2_code 0 = .ok (.aload_n 0, 1) := by decide +kernel
theorem dX5_reset_1 : decode prog_7_method_2_code 1 = .ok (.iconst 0, 1) := by decide +kernel
theorem dX5_reset_2 : decode prog_7_method_2_code 2 = .ok (.putfield 19, 3) := by decide +kernel
theorem dX5_reset_5 : decode prog_7_method_2_code 5 = .ok (.aload_n 0, 1) := by decide +kernel
theorem dX5_reset_6 : decode prog_7_method_2_code 6 = .ok (.iconst (-1), 1) := by decide +kernel
theorem dX5_reset_7 : decode prog_7_method_2_code 7 = .ok (.putfield 15, 3) := by decide +kernel
theorem dX5_reset_10 : decode prog_7_method_2_code 10 = .ok (.return_, 1) := by decide +kernel
theorem dX5_taskAt_0 : decode prog_7_method_3_code 0 = .ok (.iload_n 1, 1) := by decide +kernel
theorem dX5_taskAt_1 : decode prog_7_method_3_code 1 = .ok (.ifCond .lt 20, 3) := by decide +kernel
theorem dX5_taskAt_4 : decode prog_7_method_3_code 4 = .ok (.iload_n 1, 1) := by decide +kernel
theorem dX5_taskAt_5 : decode prog_7_method_3_code 5 = .ok (.aload_n 0, 1) := by decide +kernel
theorem dX5_taskAt_6 : decode prog_7_method_3_code 6 = .ok (.getfield 19, 3) := by decide +kernel
theorem dX5_taskAt_9 : decode prog_7_method_3_code 9 = .ok (.if_icmp .ge 12, 3) := by decide +kernel
theorem dX5_taskAt_12 : decode prog_7_method_3_code 12 = .ok (.aload_n 0, 1) := by decide +kernel
theorem dX5_taskAt_13 : decode prog_7_method_3_code 13 = .ok (.getfield 9, 3) := by decide +kernel
theorem dX5_taskAt_16 : decode prog_7_method_3_code 16 = .ok (.iload_n 1, 1) := by decide +kernel
theorem dX5_taskAt_17 : decode prog_7_method_3_code 17 = .ok (.iaload, 1) := by decide +kernel
theorem dX5_taskAt_18 : decode prog_7_method_3_code 18 = .ok (.goto 4, 3) := by decide +kernel
theorem dX5_taskAt_21 : decode prog_7_method_3_code 21 = .ok (.iconst (-1), 1) := by decide +kernel
theorem dX5_taskAt_22 : decode prog_7_method_3_code 22 = .ok (.ireturn, 1) := by decide +kernel
theorem dX5_append_0 : decode prog_7_method_4_code 0 = .ok (.aload_n 0, 1) := by decide +kernel
theorem dX5_append_1 : decode prog_7_method_4_code 1 = .ok (.getfield 19, 3) := by decide +kernel
theorem dX5_append_4 : decode prog_7_method_4_code 4 = .ok (.bipush 48, 2) := by decide +kernel
theorem dX5_append_6 : decode prog_7_method_4_code 6 = .ok (.if_icmp .ge 23, 3) := by decide +kernel
theorem dX5_append_9 : decode prog_7_method_4_code 9 = .ok (.aload_n 0, 1) := by decide +kernel
theorem dX5_append_10 : decode prog_7_method_4_code 10 = .ok (.getfield 9, 3) := by decide +kernel
theorem dX5_append_13 : decode prog_7_method_4_code 13 = .ok (.aload_n 0, 1) := by decide +kernel
theorem dX5_append_14 : decode prog_7_method_4_code 14 = .ok (.getfield 19, 3) := by decide +kernel
theorem dX5_append_17 : decode prog_7_method_4_code 17 = .ok (.iload_n 1, 1) := by decide +kernel
theorem dX5_append_18 : decode prog_7_method_4_code 18 = .ok (.iastore, 1) := by decide +kernel
theorem dX5_append_19 : decode prog_7_method_4_code 19 = .ok (.aload_n 0, 1) := by decide +kernel
theorem dX5_append_20 : decode prog_7_method_4_code 20 = .ok (.dup, 1) := by decide +kernel
theorem dX5_append_21 : decode prog_7_method_4_code 21 = .ok (.getfield 19, 3) := by decide +kernel
theorem dX5_append_24 : decode prog_7_method_4_code 24 = .ok (.iconst 1, 1) := by decide +kernel
theorem dX5_append_25 : decode prog_7_method_4_code 25 = .ok (.iadd, 1) := by decide +kernel
theorem dX5_append_26 : decode prog_7_method_4_code 26 = .ok (.putfield 19, 3) := by decide +kernel
theorem dX5_append_29 : decode prog_7_method_4_code 29 = .ok (.return_, 1) := by decide +kernel
theorem dX5_takeLast_0 : decode prog_7_method_5_code 0 = .ok (.aload_n 0, 1) := by decide +kernel
theorem dX5_takeLast_1 : decode prog_7_method_5_code 1 = .ok (.aload_n 0, 1) := by decide +kernel
theorem dX5_takeLast_2 : decode prog_7_method_5_code 2 = .ok (.getfield 19, 3) := by decide +kernel
theorem dX5_takeLast_5 : decode prog_7_method_5_code 5 = .ok (.iconst 1, 1) := by decide +kernel
theorem dX5_takeLast_6 : decode prog_7_method_5_code 6 = .ok (.isub, 1) := by decide +kernel
theorem dX5_takeLast_7 : decode prog_7_method_5_code 7 = .ok (.invokevirtual 22, 3) := by decide +kernel
theorem dX5_takeLast_10 : decode prog_7_method_5_code 10 = .ok (.istore_n 1, 1) := by decide +kernel
theorem dX5_takeLast_11 : decode prog_7_method_5_code 11 = .ok (.aload_n 0, 1) := by decide +kernel
theorem dX5_takeLast_12 : decode prog_7_method_5_code 12 = .ok (.getfield 19, 3) := by decide +kernel
theorem dX5_takeLast_15 : decode prog_7_method_5_code 15 = .ok (.ifCond .le 13, 3) := by decide +kernel
theorem dX5_takeLast_18 : decode prog_7_method_5_code 18 = .ok (.aload_n 0, 1) := by decide +kernel
theorem dX5_takeLast_19 : decode prog_7_method_5_code 19 = .ok (.dup, 1) := by decide +kernel
theorem dX5_takeLast_20 : decode prog_7_method_5_code 20 = .ok (.getfield 19, 3) := by decide +kernel
theorem dX5_takeLast_23 : decode prog_7_method_5_code 23 = .ok (.iconst 1, 1) := by decide +kernel
theorem dX5_takeLast_24 : decode prog_7_method_5_code 24 = .ok (.isub, 1) := by decide +kernel
theorem dX5_takeLast_25 : decode prog_7_method_5_code 25 = .ok (.putfield 19, 3) := by decide +kernel
theorem dX5_takeLast_28 : decode prog_7_method_5_code 28 = .ok (.iload_n 1, 1) := by decide +kernel
theorem dX5_takeLast_29 : decode prog_7_method_5_code 29 = .ok (.ireturn, 1) := by decide +kernel
theorem dX5_takeFirst_0 : decode prog_7_method_6_code 0 = .ok (.aload_n 0, 1) := by decide +kernel
theorem dX5_takeFirst_1 : decode prog_7_method_6_code 1 = .ok (.iconst 0, 1) := by decide +kernel
theorem dX5_takeFirst_2 : decode prog_7_method_6_code 2 = .ok (.invokevirtual 22, 3) := by decide +kernel
theorem dX5_takeFirst_5 : decode prog_7_method_6_code 5 = .ok (.istore_n 1, 1) := by decide +kernel
theorem dX5_takeFirst_6 : decode prog_7_method_6_code 6 = .ok (.aload_n 0, 1) := by decide +kernel
theorem dX5_takeFirst_7 : decode prog_7_method_6_code 7 = .ok (.getfield 19, 3) := by decide +kernel
theorem dX5_takeFirst_10 : decode prog_7_method_6_code 10 = .ok (.ifCond .le 30, 3) := by decide +kernel
theorem dX5_takeFirst_13 : decode prog_7_method_6_code 13 = .ok (.aload_n 0, 1) := by decide +kernel
theorem dX5_takeFirst_14 : decode prog_7_method_6_code 14 = .ok (.dup, 1) := by decide +kernel
theorem dX5_takeFirst_15 : decode prog_7_method_6_code 15 = .ok (.getfield 19, 3) := by decide +kernel
theorem dX5_takeFirst_18 : decode prog_7_method_6_code 18 = .ok (.iconst 1, 1) := by decide +kernel
theorem dX5_takeFirst_19 : decode prog_7_method_6_code 19 = .ok (.isub, 1) := by decide +kernel
theorem dX5_takeFirst_20 : decode prog_7_method_6_code 20 = .ok (.putfield 19, 3) := by decide +kernel
theorem dX5_takeFirst_23 : decode prog_7_method_6_code 23 = .ok (.aload_n 0, 1) := by decide +kernel
theorem dX5_takeFirst_24 : decode prog_7_method_6_code 24 = .ok (.getfield 9, 3) := by decide +kernel
theorem dX5_takeFirst_27 : decode prog_7_method_6_code 27 = .ok (.iconst 1, 1) := by decide +kernel
theorem dX5_takeFirst_28 : decode prog_7_method_6_code 28 = .ok (.aload_n 0, 1) := by decide +kernel
theorem dX5_takeFirst_29 : decode prog_7_method_6_code 29 = .ok (.getfield 9, 3) := by decide +kernel
theorem dX5_takeFirst_32 : decode prog_7_method_6_code 32 = .ok (.iconst 0, 1) := by decide +kernel
theorem dX5_takeFirst_33 : decode prog_7_method_6_code 33 = .ok (.aload_n 0, 1) := by decide +kernel
theorem dX5_takeFirst_34 : decode prog_7_method_6_code 34 = .ok (.getfield 19, 3) := by decide +kernel
theorem dX5_takeFirst_37 : decode prog_7_method_6_code 37 = .ok (.invokestatic 26, 3) := by decide +kernel
theorem dX5_takeFirst_40 : decode prog_7_method_6_code 40 = .ok (.iload_n 1, 1) := by decide +kernel
theorem dX5_takeFirst_41 : decode prog_7_method_6_code 41 = .ok (.ireturn, 1) := by decide +kernel
