theorem dX4_init_0 : decode prog_6_method_1_code 0 = .ok (.aload_n 0, 1) := by decide +kernel
theorem dX4_init_1 : decode prog_6_method_1_code 1 = .ok (.invokespecial 3, 3) := by decide +kernel
theorem dX4_init_4 : decode prog_6_method_1_code 4 = .ok (.aload_n 0, 1) := by decide +kernel
theorem dX4_init_5 : decode prog_6_method_1_code 5 = .ok (.iload_n 1, 1) := by decide +kernel
theorem dX4_init_6 : decode prog_6_method_1_code 6 = .ok (.putfield 9, 3) := by decide +kernel
theorem dX4_init_9 : decode prog_6_method_1_code 9 = .ok (.aload_n 0, 1) := by decide +kernel
theorem dX4_init_10 : decode prog_6_method_1_code 10 = .ok (.aload_n 2, 1) := by decide +kernel
theorem dX4_init_11 : decode prog_6_method_1_code 11 = .ok (.putfield 15, 3) := by decide +kernel
theorem dX4_init_14 : decode prog_6_method_1_code 14 = .ok (.aload_n 0, 1) := by decide +kernel
theorem dX4_init_15 : decode prog_6_method_1_code 15 = .ok (.iconst 3, 1) := by decide +kernel
theorem dX4_init_16 : decode prog_6_method_1_code 16 = .ok (.anewarray 19, 3) := by decide +kernel
theorem dX4_init_19 : decode prog_6_method_1_code 19 = .ok (.putfield 21, 3) := by decide +kernel
theorem dX4_init_22 : decode prog_6_method_1_code 22 = .ok (.iconst 0, 1) := by decide +kernel
theorem dX4_init_23 : decode prog_6_method_1_code 23 = .ok (.istore_n 3, 1) := by decide +kernel
theorem dX4_init_24 : decode prog_6_method_1_code 24 = .ok (.iload_n 3, 1) := by decide +kernel
theorem dX4_init_25 : decode prog_6_method_1_code 25 = .ok (.iconst 3, 1) := by decide +kernel
theorem dX4_init_26 : decode prog_6_method_1_code 26 = .ok (.if_icmp .ge 22, 3) := by decide +kernel
theorem dX4_init_29 : decode prog_6_method_1_code 29 = .ok (.aload_n 0, 1) := by decide +kernel
theorem dX4_init_30 : decode prog_6_method_1_code 30 = .ok (.getfield 21, 3) := by decide +kernel
theorem dX4_init_33 : decode prog_6_method_1_code 33 = .ok (.iload_n 3, 1) := by decide +kernel
theorem dX4_init_34 : decode prog_6_method_1_code 34 = .ok (.new 19, 3) := by decide +kernel
theorem dX4_init_37 : decode prog_6_method_1_code 37 = .ok (.dup, 1) := by decide +kernel
theorem dX4_init_38 : decode prog_6_method_1_code 38 = .ok (.invokespecial 25, 3) := by decide +kernel
theorem dX4_init_41 : decode prog_6_method_1_code 41 = .ok (.aastore, 1) := by decide +kernel
theorem dX4_init_42 : decode prog_6_method_1_code 42 = .ok (.iinc 3 1, 3) := by decide +kernel
theorem dX4_init_45 : decode prog_6_method_1_code 45 = .ok (.goto (-21), 3) := by decide +kernel
theorem dX4_init_48 : decode prog_6_method_1_code 48 = .ok (.return_, 1) := by decide +kernel
theorem dX4_reset_0 : decode prog_6_method_2_code 0 = .ok (.aload_n 0, 1) := by decide +kernel
theorem dX4_reset_1 : decode prog_6_method_2_code 1 = .ok (.iload_n 1, 1) := by decide +kernel
theorem dX4_reset_2 : decode prog_6_method_2_code 2 = .ok (.putfield 26, 3) := by decide +kernel
theorem dX4_reset_5 : decode prog_6_method_2_code 5 = .ok (.aload_n 0, 1) := by decide +kernel
theorem dX4_reset_6 : decode prog_6_method_2_code 6 = .ok (.iload_n 2, 1) := by decide +kernel
theorem dX4_reset_7 : decode prog_6_method_2_code 7 = .ok (.putfield 29, 3) := by decide +kernel
theorem dX4_reset_10 : decode prog_6_method_2_code 10 = .ok (.aload_n 0, 1) := by decide +kernel
theorem dX4_reset_11 : decode prog_6_method_2_code 11 = .ok (.aload_n 3, 1) := by decide +kernel
theorem dX4_reset_12 : decode prog_6_method_2_code 12 = .ok (.putfield 15, 3) := by decide +kernel
theorem dX4_reset_15 : decode prog_6_method_2_code 15 = .ok (.aload_n 0, 1) := by decide +kernel
theorem dX4_reset_16 : decode prog_6_method_2_code 16 = .ok (.iconst 0, 1) := by decide +kernel
theorem dX4_reset_17 : decode prog_6_method_2_code 17 = .ok (.putfield 32, 3) := by decide +kernel
theorem dX4_reset_20 : decode prog_6_method_2_code 20 = .ok (.aload_n 0, 1) := by decide +kernel
theorem dX4_reset_21 : decode prog_6_method_2_code 21 = .ok (.iconst 0, 1) := by decide +kernel
theorem dX4_reset_22 : decode prog_6_method_2_code 22 = .ok (.putfield 35, 3) := by decide +kernel
theorem dX4_reset_25 : decode prog_6_method_2_code 25 = .ok (.aload_n 0, 1) := by decide +kernel
theorem dX4_reset_26 : decode prog_6_method_2_code 26 = .ok (.iconst 0, 1) := by decide +kernel
theorem dX4_reset_27 : decode prog_6_method_2_code 27 = .ok (.putfield 38, 3) := by decide +kernel
theorem dX4_reset_30 : decode prog_6_method_2_code 30 = .ok (.aload_n 0, 1) := by decide +kernel
theorem dX4_reset_31 : decode prog_6_method_2_code 31 = .ok (.iconst 0, 1) := by decide +kernel
theorem dX4_reset_32 : decode prog_6_method_2_code 32 = .ok (.putfield 41, 3) := by decide +kernel
theorem dX4_reset_35 : decode prog_6_method_2_code 35 = .ok (.return_, 1) := by decide +kernel
theorem dX4_innerScope_0 : decode prog_6_method_3_code 0 = .ok (.aload_n 0, 1) := by decide +kernel
theorem dX4_innerScope_1 : decode prog_6_method_3_code 1 = .ok (.getfield 35, 3) := by decide +kernel
theorem dX4_innerScope_4 : decode prog_6_method_3_code 4 = .ok (.ifCond .le 17, 3) := by decide +kernel
theorem dX4_innerScope_7 : decode prog_6_method_3_code 7 = .ok (.aload_n 0, 1) := by decide +kernel
theorem dX4_innerScope_8 : decode prog_6_method_3_code 8 = .ok (.getfield 21, 3) := by decide +kernel
theorem dX4_innerScope_11 : decode prog_6_method_3_code 11 = .ok (.aload_n 0, 1) := by decide +kernel
theorem dX4_innerScope_12 : decode prog_6_method_3_code 12 = .ok (.getfield 35, 3) := by decide +kernel
theorem dX4_innerScope_15 : decode prog_6_method_3_code 15 = .ok (.iconst 1, 1) := by decide +kernel
theorem dX4_innerScope_16 : decode prog_6_method_3_code 16 = .ok (.isub, 1) := by decide +kernel
theorem dX4_innerScope_17 : decode prog_6_method_3_code 17 = .ok (.aaload, 1) := by decide +kernel
theorem dX4_innerScope_18 : decode prog_6_method_3_code 18 = .ok (.goto 7, 3) := by decide +kernel
theorem dX4_innerScope_21 : decode prog_6_method_3_code 21 = .ok (.aload_n 0, 1) := by decide +kernel
theorem dX4_innerScope_22 : decode prog_6_method_3_code 22 = .ok (.getfield 15, 3) := by decide +kernel
theorem dX4_innerScope_25 : decode prog_6_method_3_code 25 = .ok (.areturn, 1) := by decide +kernel
theorem dX4_waitFor_0 : decode prog_6_method_4_code 0 = .ok (.aload_n 0, 1) := by decide +kernel
theorem dX4_waitFor_1 : decode prog_6_method_4_code 1 = .ok (.iconst 2, 1) := by decide +kernel
theorem dX4_waitFor_2 : decode prog_6_method_4_code 2 = .ok (.putfield 38, 3) := by decide +kernel
theorem dX4_waitFor_5 : decode prog_6_method_4_code 5 = .ok (.aload_n 0, 1) := by decide +kernel
theorem dX4_waitFor_6 : decode prog_6_method_4_code 6 = .ok (.iload_n 1, 1) := by decide +kernel
theorem dX4_waitFor_7 : decode prog_6_method_4_code 7 = .ok (.putfield 41, 3) := by decide +kernel
theorem dX4_waitFor_10 : decode prog_6_method_4_code 10 = .ok (.aload_n 0, 1) := by decide +kernel
theorem dX4_waitFor_11 : decode prog_6_method_4_code 11 = .ok (.iload_n 2, 1) := by decide +kernel
theorem dX4_waitFor_12 : decode prog_6_method_4_code 12 = .ok (.putfield 44, 3) := by decide +kernel
theorem dX4_waitFor_15 : decode prog_6_method_4_code 15 = .ok (.return_, 1) := by decide +kernel
