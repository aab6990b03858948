theorem dX0_init_0 : decode prog_2_method_1_code 0 = .ok (.aload_n 0, 1) := by decide +kernel
theorem dX0_init_1 : decode prog_2_method_1_code 1 = .ok (.invokespecial 3, 3) := by decide +kernel
theorem dX0_init_4 : decode prog_2_method_1_code 4 = .ok (.aload_n 0, 1) := by decide +kernel
theorem dX0_init_5 : decode prog_2_method_1_code 5 = .ok (.bipush 16, 2) := by decide +kernel
theorem dX0_init_7 : decode prog_2_method_1_code 7 = .ok (.newarray .int, 2) := by decide +kernel
theorem dX0_init_9 : decode prog_2_method_1_code 9 = .ok (.putfield 9, 3) := by decide +kernel
theorem dX0_init_12 : decode prog_2_method_1_code 12 = .ok (.aload_n 0, 1) := by decide +kernel
theorem dX0_init_13 : decode prog_2_method_1_code 13 = .ok (.bipush 16, 2) := by decide +kernel
theorem dX0_init_15 : decode prog_2_method_1_code 15 = .ok (.newarray .int, 2) := by decide +kernel
theorem dX0_init_17 : decode prog_2_method_1_code 17 = .ok (.putfield 15, 3) := by decide +kernel
theorem dX0_init_20 : decode prog_2_method_1_code 20 = .ok (.return_, 1) := by decide +kernel
theorem dX0_append_0 : decode prog_2_method_2_code 0 = .ok (.aload_n 0, 1) := by decide +kernel
theorem dX0_append_1 : decode prog_2_method_2_code 1 = .ok (.getfield 18, 3) := by decide +kernel
theorem dX0_append_4 : decode prog_2_method_2_code 4 = .ok (.bipush 16, 2) := by decide +kernel
theorem dX0_append_6 : decode prog_2_method_2_code 6 = .ok (.if_icmp .ge 33, 3) := by decide +kernel
theorem dX0_append_9 : decode prog_2_method_2_code 9 = .ok (.aload_n 0, 1) := by decide +kernel
theorem dX0_append_10 : decode prog_2_method_2_code 10 = .ok (.getfield 9, 3) := by decide +kernel
theorem dX0_append_13 : decode prog_2_method_2_code 13 = .ok (.aload_n 0, 1) := by decide +kernel
theorem dX0_append_14 : decode prog_2_method_2_code 14 = .ok (.getfield 18, 3) := by decide +kernel
theorem dX0_append_17 : decode prog_2_method_2_code 17 = .ok (.iload_n 1, 1) := by decide +kernel
theorem dX0_append_18 : decode prog_2_method_2_code 18 = .ok (.iastore, 1) := by decide +kernel
theorem dX0_append_19 : decode prog_2_method_2_code 19 = .ok (.aload_n 0, 1) := by decide +kernel
theorem dX0_append_20 : decode prog_2_method_2_code 20 = .ok (.getfield 15, 3) := by decide +kernel
theorem dX0_append_23 : decode prog_2_method_2_code 23 = .ok (.aload_n 0, 1) := by decide +kernel
theorem dX0_append_24 : decode prog_2_method_2_code 24 = .ok (.getfield 18, 3) := by decide +kernel
theorem dX0_append_27 : decode prog_2_method_2_code 27 = .ok (.iload_n 2, 1) := by decide +kernel
theorem dX0_append_28 : decode prog_2_method_2_code 28 = .ok (.iastore, 1) := by decide +kernel
theorem dX0_append_29 : decode prog_2_method_2_code 29 = .ok (.aload_n 0, 1) := by decide +kernel
theorem dX0_append_30 : decode prog_2_method_2_code 30 = .ok (.dup, 1) := by decide +kernel
theorem dX0_append_31 : decode prog_2_method_2_code 31 = .ok (.getfield 18, 3) := by decide +kernel
theorem dX0_append_34 : decode prog_2_method_2_code 34 = .ok (.iconst 1, 1) := by decide +kernel
theorem dX0_append_35 : decode prog_2_method_2_code 35 = .ok (.iadd, 1) := by decide +kernel
theorem dX0_append_36 : decode prog_2_method_2_code 36 = .ok (.putfield 18, 3) := by decide +kernel
theorem dX0_append_39 : decode prog_2_method_2_code 39 = .ok (.return_, 1) := by decide +kernel
