theorem dX3_init_0 : decode prog_5_method_1_code 0 = .ok (.aload_n 0, 1) := by decide +kernel
theorem dX3_init_1 : decode prog_5_method_1_code 1 = .ok (.invokespecial 3, 3) := by decide +kernel
theorem dX3_init_4 : decode prog_5_method_1_code 4 = .ok (.return_, 1) := by decide +kernel
theorem dX3_open_0 : decode prog_5_method_2_code 0 = .ok (.aload_n 0, 1) := by decide +kernel
theorem dX3_open_1 : decode prog_5_method_2_code 1 = .ok (.iload_n 1, 1) := by decide +kernel
theorem dX3_open_2 : decode prog_5_method_2_code 2 = .ok (.putfield 9, 3) := by decide +kernel
theorem dX3_open_5 : decode prog_5_method_2_code 5 = .ok (.aload_n 0, 1) := by decide +kernel
theorem dX3_open_6 : decode prog_5_method_2_code 6 = .ok (.iload_n 2, 1) := by decide +kernel
theorem dX3_open_7 : decode prog_5_method_2_code 7 = .ok (.putfield 15, 3) := by decide +kernel
theorem dX3_open_10 : decode prog_5_method_2_code 10 = .ok (.aload_n 0, 1) := by decide +kernel
theorem dX3_open_11 : decode prog_5_method_2_code 11 = .ok (.iconst 0, 1) := by decide +kernel
theorem dX3_open_12 : decode prog_5_method_2_code 12 = .ok (.putfield 18, 3) := by decide +kernel
theorem dX3_open_15 : decode prog_5_method_2_code 15 = .ok (.aload_n 0, 1) := by decide +kernel
theorem dX3_open_16 : decode prog_5_method_2_code 16 = .ok (.getstatic 21, 3) := by decide +kernel
theorem dX3_open_19 : decode prog_5_method_2_code 19 = .ok (.iload_n 1, 1) := by decide +kernel
theorem dX3_open_20 : decode prog_5_method_2_code 20 = .ok (.iaload, 1) := by decide +kernel
theorem dX3_open_21 : decode prog_5_method_2_code 21 = .ok (.putfield 25, 3) := by decide +kernel
theorem dX3_open_24 : decode prog_5_method_2_code 24 = .ok (.aload_n 0, 1) := by decide +kernel
theorem dX3_open_25 : decode prog_5_method_2_code 25 = .ok (.iconst 0, 1) := by decide +kernel
theorem dX3_open_26 : decode prog_5_method_2_code 26 = .ok (.putfield 28, 3) := by decide +kernel
theorem dX3_open_29 : decode prog_5_method_2_code 29 = .ok (.aload_n 0, 1) := by decide +kernel
theorem dX3_open_30 : decode prog_5_method_2_code 30 = .ok (.iconst 0, 1) := by decide +kernel
theorem dX3_open_31 : decode prog_5_method_2_code 31 = .ok (.putfield 31, 3) := by decide +kernel
theorem dX3_open_34 : decode prog_5_method_2_code 34 = .ok (.return_, 1) := by decide +kernel
theorem dX3_give_0 : decode prog_5_method_3_code 0 = .ok (.aload_n 0, 1) := by decide +kernel
theorem dX3_give_1 : decode prog_5_method_3_code 1 = .ok (.getfield 9, 3) := by decide +kernel
theorem dX3_give_4 : decode prog_5_method_3_code 4 = .ok (.tableswitch 71 0 2 #[28, 41, 56], 28) := by decide +kernel
theorem dX3_give_32 : decode prog_5_method_3_code 32 = .ok (.aload_n 0, 1) := by decide +kernel
theorem dX3_give_33 : decode prog_5_method_3_code 33 = .ok (.dup, 1) := by decide +kernel
theorem dX3_give_34 : decode prog_5_method_3_code 34 = .ok (.getfield 25, 3) := by decide +kernel
theorem dX3_give_37 : decode prog_5_method_3_code 37 = .ok (.iload_n 1, 1) := by decide +kernel
theorem dX3_give_38 : decode prog_5_method_3_code 38 = .ok (.iadd, 1) := by decide +kernel
theorem dX3_give_39 : decode prog_5_method_3_code 39 = .ok (.putfield 25, 3) := by decide +kernel
theorem dX3_give_42 : decode prog_5_method_3_code 42 = .ok (.goto 43, 3) := by decide +kernel
theorem dX3_give_45 : decode prog_5_method_3_code 45 = .ok (.aload_n 0, 1) := by decide +kernel
theorem dX3_give_46 : decode prog_5_method_3_code 46 = .ok (.aload_n 0, 1) := by decide +kernel
theorem dX3_give_47 : decode prog_5_method_3_code 47 = .ok (.getfield 25, 3) := by decide +kernel
theorem dX3_give_50 : decode prog_5_method_3_code 50 = .ok (.iload_n 1, 1) := by decide +kernel
theorem dX3_give_51 : decode prog_5_method_3_code 51 = .ok (.invokestatic 34, 3) := by decide +kernel
theorem dX3_give_54 : decode prog_5_method_3_code 54 = .ok (.putfield 25, 3) := by decide +kernel
theorem dX3_give_57 : decode prog_5_method_3_code 57 = .ok (.goto 28, 3) := by decide +kernel
theorem dX3_give_60 : decode prog_5_method_3_code 60 = .ok (.aload_n 0, 1) := by decide +kernel
theorem dX3_give_61 : decode prog_5_method_3_code 61 = .ok (.aload_n 0, 1) := by decide +kernel
theorem dX3_give_62 : decode prog_5_method_3_code 62 = .ok (.getfield 25, 3) := by decide +kernel
theorem dX3_give_65 : decode prog_5_method_3_code 65 = .ok (.iload_n 1, 1) := by decide +kernel
theorem dX3_give_66 : decode prog_5_method_3_code 66 = .ok (.invokestatic 40, 3) := by decide +kernel
theorem dX3_give_69 : decode prog_5_method_3_code 69 = .ok (.putfield 25, 3) := by decide +kernel
theorem dX3_give_72 : decode prog_5_method_3_code 72 = .ok (.goto 13, 3) := by decide +kernel
theorem dX3_give_75 : decode prog_5_method_3_code 75 = .ok (.aload_n 0, 1) := by decide +kernel
theorem dX3_give_76 : decode prog_5_method_3_code 76 = .ok (.dup, 1) := by decide +kernel
theorem dX3_give_77 : decode prog_5_method_3_code 77 = .ok (.getfield 25, 3) := by decide +kernel
theorem dX3_give_80 : decode prog_5_method_3_code 80 = .ok (.iload_n 1, 1) := by decide +kernel
theorem dX3_give_81 : decode prog_5_method_3_code 81 = .ok (.imul, 1) := by decide +kernel
theorem dX3_give_82 : decode prog_5_method_3_code 82 = .ok (.putfield 25, 3) := by decide +kernel
theorem dX3_give_85 : decode prog_5_method_3_code 85 = .ok (.return_, 1) := by decide +kernel
theorem dX3_note_0 : decode prog_5_method_4_code 0 = .ok (.aload_n 0, 1) := by decide +kernel
theorem dX3_note_1 : decode prog_5_method_4_code 1 = .ok (.aload_n 0, 1) := by decide +kernel
theorem dX3_note_2 : decode prog_5_method_4_code 2 = .ok (.getfield 28, 3) := by decide +kernel
theorem dX3_note_5 : decode prog_5_method_4_code 5 = .ok (.ifCond .ne 7, 3) := by decide +kernel
theorem dX3_note_8 : decode prog_5_method_4_code 8 = .ok (.iload_n 1, 1) := by decide +kernel
theorem dX3_note_9 : decode prog_5_method_4_code 9 = .ok (.goto 11, 3) := by decide +kernel
theorem dX3_note_12 : decode prog_5_method_4_code 12 = .ok (.aload_n 0, 1) := by decide +kernel
theorem dX3_note_13 : decode prog_5_method_4_code 13 = .ok (.getfield 31, 3) := by decide +kernel
theorem dX3_note_16 : decode prog_5_method_4_code 16 = .ok (.iload_n 1, 1) := by decide +kernel
theorem dX3_note_17 : decode prog_5_method_4_code 17 = .ok (.invokestatic 34, 3) := by decide +kernel
theorem dX3_note_20 : decode prog_5_method_4_code 20 = .ok (.putfield 31, 3) := by decide +kernel
theorem dX3_note_23 : decode prog_5_method_4_code 23 = .ok (.aload_n 0, 1) := by decide +kernel
theorem dX3_note_24 : decode prog_5_method_4_code 24 = .ok (.dup, 1) := by decide +kernel
theorem dX3_note_25 : decode prog_5_method_4_code 25 = .ok (.getfield 28, 3) := by decide +kernel
theorem dX3_note_28 : decode prog_5_method_4_code 28 = .ok (.iconst 1, 1) := by decide +kernel
theorem dX3_note_29 : decode prog_5_method_4_code 29 = .ok (.iadd, 1) := by decide +kernel
theorem dX3_note_30 : decode prog_5_method_4_code 30 = .ok (.putfield 28, 3) := by decide +kernel
theorem dX3_note_33 : decode prog_5_method_4_code 33 = .ok (.return_, 1) := by decide +kernel
theorem dX3_sumAfter_0 : decode prog_5_method_5_code 0 = .ok (.aload_n 0, 1) := by decide +kernel
theorem dX3_sumAfter_1 : decode prog_5_method_5_code 1 = .ok (.getfield 9, 3) := by decide +kernel
theorem dX3_sumAfter_4 : decode prog_5_method_5_code 4 = .ok (.iconst 1, 1) := by decide +kernel
theorem dX3_sumAfter_5 : decode prog_5_method_5_code 5 = .ok (.if_icmp .eq 11, 3) := by decide +kernel
theorem dX3_sumAfter_8 : decode prog_5_method_5_code 8 = .ok (.aload_n 0, 1) := by decide +kernel
theorem dX3_sumAfter_9 : decode prog_5_method_5_code 9 = .ok (.getfield 9, 3) := by decide +kernel
theorem dX3_sumAfter_12 : decode prog_5_method_5_code 12 = .ok (.iconst 2, 1) := by decide +kernel
theorem dX3_sumAfter_13 : decode prog_5_method_5_code 13 = .ok (.if_icmp .ne 10, 3) := by decide +kernel
theorem dX3_sumAfter_16 : decode prog_5_method_5_code 16 = .ok (.aload_n 0, 1) := by decide +kernel
theorem dX3_sumAfter_17 : decode prog_5_method_5_code 17 = .ok (.getfield 25, 3) := by decide +kernel
theorem dX3_sumAfter_20 : decode prog_5_method_5_code 20 = .ok (.goto 9, 3) := by decide +kernel
theorem dX3_sumAfter_23 : decode prog_5_method_5_code 23 = .ok (.iload_n 1, 1) := by decide +kernel
theorem dX3_sumAfter_24 : decode prog_5_method_5_code 24 = .ok (.aload_n 0, 1) := by decide +kernel
theorem dX3_sumAfter_25 : decode prog_5_method_5_code 25 = .ok (.getfield 25, 3) := by decide +kernel
theorem dX3_sumAfter_28 : decode prog_5_method_5_code 28 = .ok (.iadd, 1) := by decide +kernel
theorem dX3_sumAfter_29 : decode prog_5_method_5_code 29 = .ok (.ireturn, 1) := by decide +kernel
