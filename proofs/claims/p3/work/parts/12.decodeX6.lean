theorem dX6_init_0 : decode prog_1_method_1_code 0 = .ok (.aload_n 0, 1) := by decide +kernel
theorem dX6_init_1 : decode prog_1_method_1_code 1 = .ok (.invokespecial 1, 3) := by decide +kernel
theorem dX6_init_4 : decode prog_1_method_1_code 4 = .ok (.aload_n 0, 1) := by decide +kernel
theorem dX6_init_5 : decode prog_1_method_1_code 5 = .ok (.bipush 8, 2) := by decide +kernel
theorem dX6_init_7 : decode prog_1_method_1_code 7 = .ok (.anewarray 9, 3) := by decide +kernel
theorem dX6_init_10 : decode prog_1_method_1_code 10 = .ok (.putfield 11, 3) := by decide +kernel
theorem dX6_init_13 : decode prog_1_method_1_code 13 = .ok (.iconst 0, 1) := by decide +kernel
theorem dX6_init_14 : decode prog_1_method_1_code 14 = .ok (.istore_n 1, 1) := by decide +kernel
theorem dX6_init_15 : decode prog_1_method_1_code 15 = .ok (.iload_n 1, 1) := by decide +kernel
theorem dX6_init_16 : decode prog_1_method_1_code 16 = .ok (.bipush 8, 2) := by decide +kernel
theorem dX6_init_18 : decode prog_1_method_1_code 18 = .ok (.if_icmp .ge 22, 3) := by decide +kernel
theorem dX6_init_21 : decode prog_1_method_1_code 21 = .ok (.aload_n 0, 1) := by decide +kernel
theorem dX6_init_22 : decode prog_1_method_1_code 22 = .ok (.getfield 11, 3) := by decide +kernel
theorem dX6_init_25 : decode prog_1_method_1_code 25 = .ok (.iload_n 1, 1) := by decide +kernel
theorem dX6_init_26 : decode prog_1_method_1_code 26 = .ok (.new 9, 3) := by decide +kernel
theorem dX6_init_29 : decode prog_1_method_1_code 29 = .ok (.dup, 1) := by decide +kernel
theorem dX6_init_30 : decode prog_1_method_1_code 30 = .ok (.invokespecial 15, 3) := by decide +kernel
theorem dX6_init_33 : decode prog_1_method_1_code 33 = .ok (.aastore, 1) := by decide +kernel
theorem dX6_init_34 : decode prog_1_method_1_code 34 = .ok (.iinc 1 1, 3) := by decide +kernel
theorem dX6_init_37 : decode prog_1_method_1_code 37 = .ok (.goto (-22), 3) := by decide +kernel
theorem dX6_init_40 : decode prog_1_method_1_code 40 = .ok (.aload_n 0, 1) := by decide +kernel
theorem dX6_init_41 : decode prog_1_method_1_code 41 = .ok (.new 16, 3) := by decide +kernel
theorem dX6_init_44 : decode prog_1_method_1_code 44 = .ok (.dup, 1) := by decide +kernel
theorem dX6_init_45 : decode prog_1_method_1_code 45 = .ok (.aload_n 0, 1) := by decide +kernel
theorem dX6_init_46 : decode prog_1_method_1_code 46 = .ok (.getfield 11, 3) := by decide +kernel
theorem dX6_init_49 : decode prog_1_method_1_code 49 = .ok (.invokespecial 18, 3) := by decide +kernel
theorem dX6_init_52 : decode prog_1_method_1_code 52 = .ok (.putfield 21, 3) := by decide +kernel
theorem dX6_init_55 : decode prog_1_method_1_code 55 = .ok (.return_, 1) := by decide +kernel
theorem dX6_body_0 : decode prog_1_method_2_code 0 = .ok (.iload_n 1, 1) := by decide +kernel
theorem dX6_body_1 : decode prog_1_method_2_code 1 = .ok (.iconst 0, 1) := by decide +kernel
theorem dX6_body_2 : decode prog_1_method_2_code 2 = .ok (.bipush 7, 2) := by decide +kernel
theorem dX6_body_4 : decode prog_1_method_2_code 4 = .ok (.invokestatic 25, 3) := by decide +kernel
theorem dX6_body_7 : decode prog_1_method_2_code 7 = .ok (.ifCond .ne 13, 3) := by decide +kernel
theorem dX6_body_10 : decode prog_1_method_2_code 10 = .ok (.new 29, 3) := by decide +kernel
theorem dX6_body_13 : decode prog_1_method_2_code 13 = .ok (.dup, 1) := by decide +kernel
theorem dX6_body_14 : decode prog_1_method_2_code 14 = .ok (.ldc 31, 2) := by decide +kernel
theorem dX6_body_16 : decode prog_1_method_2_code 16 = .ok (.invokespecial 33, 3) := by decide +kernel
theorem dX6_body_19 : decode prog_1_method_2_code 19 = .ok (.athrow, 1) := by decide +kernel
theorem dX6_body_20 : decode prog_1_method_2_code 20 = .ok (.aload_n 0, 1) := by decide +kernel
theorem dX6_body_21 : decode prog_1_method_2_code 21 = .ok (.getfield 11, 3) := by decide +kernel
theorem dX6_body_24 : decode prog_1_method_2_code 24 = .ok (.iload_n 1, 1) := by decide +kernel
theorem dX6_body_25 : decode prog_1_method_2_code 25 = .ok (.aaload, 1) := by decide +kernel
theorem dX6_body_26 : decode prog_1_method_2_code 26 = .ok (.getfield 36, 3) := by decide +kernel
theorem dX6_body_29 : decode prog_1_method_2_code 29 = .ok (.istore_n 2, 1) := by decide +kernel
theorem dX6_body_30 : decode prog_1_method_2_code 30 = .ok (.aload_n 0, 1) := by decide +kernel
theorem dX6_body_31 : decode prog_1_method_2_code 31 = .ok (.getfield 11, 3) := by decide +kernel
theorem dX6_body_34 : decode prog_1_method_2_code 34 = .ok (.iload_n 1, 1) := by decide +kernel
theorem dX6_body_35 : decode prog_1_method_2_code 35 = .ok (.aaload, 1) := by decide +kernel
theorem dX6_body_36 : decode prog_1_method_2_code 36 = .ok (.iconst 0, 1) := by decide +kernel
theorem dX6_body_37 : decode prog_1_method_2_code 37 = .ok (.putfield 36, 3) := by decide +kernel
theorem dX6_body_40 : decode prog_1_method_2_code 40 = .ok (.iload_n 2, 1) := by decide +kernel
theorem dX6_body_41 : decode prog_1_method_2_code 41 = .ok (.ireturn, 1) := by decide +kernel
theorem dX6_add_0 : decode prog_1_method_3_code 0 = .ok (.iload_n 1, 1) := by decide +kernel
theorem dX6_add_1 : decode prog_1_method_3_code 1 = .ok (.iconst 0, 1) := by decide +kernel
theorem dX6_add_2 : decode prog_1_method_3_code 2 = .ok (.bipush 7, 2) := by decide +kernel
theorem dX6_add_4 : decode prog_1_method_3_code 4 = .ok (.invokestatic 25, 3) := by decide +kernel
theorem dX6_add_7 : decode prog_1_method_3_code 7 = .ok (.ifCond .eq 11, 3) := by decide +kernel
theorem dX6_add_10 : decode prog_1_method_3_code 10 = .ok (.iload_n 2, 1) := by decide +kernel
theorem dX6_add_11 : decode prog_1_method_3_code 11 = .ok (.iload_n 3, 1) := by decide +kernel
theorem dX6_add_12 : decode prog_1_method_3_code 12 = .ok (.invokestatic 40, 3) := by decide +kernel
theorem dX6_add_15 : decode prog_1_method_3_code 15 = .ok (.ifCond .ne 13, 3) := by decide +kernel
theorem dX6_add_18 : decode prog_1_method_3_code 18 = .ok (.new 29, 3) := by decide +kernel
theorem dX6_add_21 : decode prog_1_method_3_code 21 = .ok (.dup, 1) := by decide +kernel
theorem dX6_add_22 : decode prog_1_method_3_code 22 = .ok (.ldc 44, 2) := by decide +kernel
theorem dX6_add_24 : decode prog_1_method_3_code 24 = .ok (.invokespecial 33, 3) := by decide +kernel
theorem dX6_add_27 : decode prog_1_method_3_code 27 = .ok (.athrow, 1) := by decide +kernel
theorem dX6_add_28 : decode prog_1_method_3_code 28 = .ok (.aload_n 0, 1) := by decide +kernel
theorem dX6_add_29 : decode prog_1_method_3_code 29 = .ok (.getfield 11, 3) := by decide +kernel
theorem dX6_add_32 : decode prog_1_method_3_code 32 = .ok (.iload_n 1, 1) := by decide +kernel
theorem dX6_add_33 : decode prog_1_method_3_code 33 = .ok (.aaload, 1) := by decide +kernel
theorem dX6_add_34 : decode prog_1_method_3_code 34 = .ok (.getfield 36, 3) := by decide +kernel
theorem dX6_add_37 : decode prog_1_method_3_code 37 = .ok (.bipush 16, 2) := by decide +kernel
theorem dX6_add_39 : decode prog_1_method_3_code 39 = .ok (.if_icmp .lt 13, 3) := by decide +kernel
theorem dX6_add_42 : decode prog_1_method_3_code 42 = .ok (.new 46, 3) := by decide +kernel
theorem dX6_add_45 : decode prog_1_method_3_code 45 = .ok (.dup, 1) := by decide +kernel
theorem dX6_add_46 : decode prog_1_method_3_code 46 = .ok (.ldc 48, 2) := by decide +kernel
theorem dX6_add_48 : decode prog_1_method_3_code 48 = .ok (.invokespecial 50, 3) := by decide +kernel
theorem dX6_add_51 : decode prog_1_method_3_code 51 = .ok (.athrow, 1) := by decide +kernel
theorem dX6_add_52 : decode prog_1_method_3_code 52 = .ok (.aload_n 0, 1) := by decide +kernel
theorem dX6_add_53 : decode prog_1_method_3_code 53 = .ok (.getfield 11, 3) := by decide +kernel
theorem dX6_add_56 : decode prog_1_method_3_code 56 = .ok (.iload_n 1, 1) := by decide +kernel
theorem dX6_add_57 : decode prog_1_method_3_code 57 = .ok (.aaload, 1) := by decide +kernel
theorem dX6_add_58 : decode prog_1_method_3_code 58 = .ok (.iload_n 2, 1) := by decide +kernel
theorem dX6_add_59 : decode prog_1_method_3_code 59 = .ok (.iload_n 3, 1) := by decide +kernel
theorem dX6_add_60 : decode prog_1_method_3_code 60 = .ok (.invokevirtual 51, 3) := by decide +kernel
theorem dX6_add_63 : decode prog_1_method_3_code 63 = .ok (.aload_n 0, 1) := by decide +kernel
theorem dX6_add_64 : decode prog_1_method_3_code 64 = .ok (.getfield 11, 3) := by decide +kernel
theorem dX6_add_67 : decode prog_1_method_3_code 67 = .ok (.iload_n 1, 1) := by decide +kernel
theorem dX6_add_68 : decode prog_1_method_3_code 68 = .ok (.aaload, 1) := by decide +kernel
theorem dX6_add_69 : decode prog_1_method_3_code 69 = .ok (.getfield 36, 3) := by decide +kernel
theorem dX6_add_72 : decode prog_1_method_3_code 72 = .ok (.ireturn, 1) := by decide +kernel
theorem dX6_begin_0 : decode prog_1_method_4_code 0 = .ok (.iload_n 1, 1) := by decide +kernel
theorem dX6_begin_1 : decode prog_1_method_4_code 1 = .ok (.iconst 0, 1) := by decide +kernel
theorem dX6_begin_2 : decode prog_1_method_4_code 2 = .ok (.bipush 7, 2) := by decide +kernel
theorem dX6_begin_4 : decode prog_1_method_4_code 4 = .ok (.invokestatic 25, 3) := by decide +kernel
theorem dX6_begin_7 : decode prog_1_method_4_code 7 = .ok (.ifCond .eq 22, 3) := by decide +kernel
theorem dX6_begin_10 : decode prog_1_method_4_code 10 = .ok (.iload_n 3, 1) := by decide +kernel
theorem dX6_begin_11 : decode prog_1_method_4_code 11 = .ok (.iconst 1, 1) := by decide +kernel
theorem dX6_begin_12 : decode prog_1_method_4_code 12 = .ok (.iconst 3, 1) := by decide +kernel
theorem dX6_begin_13 : decode prog_1_method_4_code 13 = .ok (.invokestatic 25, 3) := by decide +kernel
theorem dX6_begin_16 : decode prog_1_method_4_code 16 = .ok (.ifCond .eq 13, 3) := by decide +kernel
theorem dX6_begin_19 : decode prog_1_method_4_code 19 = .ok (.iload 4, 2) := by decide +kernel
theorem dX6_begin_21 : decode prog_1_method_4_code 21 = .ok (.iconst 0, 1) := by decide +kernel
theorem dX6_begin_22 : decode prog_1_method_4_code 22 = .ok (.iconst 1, 1) := by decide +kernel
theorem dX6_begin_23 : decode prog_1_method_4_code 23 = .ok (.invokestatic 25, 3) := by decide +kernel
theorem dX6_begin_26 : decode prog_1_method_4_code 26 = .ok (.ifCond .ne 13, 3) := by decide +kernel
theorem dX6_begin_29 : decode prog_1_method_4_code 29 = .ok (.new 29, 3) := by decide +kernel
theorem dX6_begin_32 : decode prog_1_method_4_code 32 = .ok (.dup, 1) := by decide +kernel
theorem dX6_begin_33 : decode prog_1_method_4_code 33 = .ok (.ldc 55, 2) := by decide +kernel
theorem dX6_begin_35 : decode prog_1_method_4_code 35 = .ok (.invokespecial 33, 3) := by decide +kernel
theorem dX6_begin_38 : decode prog_1_method_4_code 38 = .ok (.athrow, 1) := by decide +kernel
theorem dX6_begin_39 : decode prog_1_method_4_code 39 = .ok (.aload_n 0, 1) := by decide +kernel
theorem dX6_begin_40 : decode prog_1_method_4_code 40 = .ok (.getfield 21, 3) := by decide +kernel
theorem dX6_begin_43 : decode prog_1_method_4_code 43 = .ok (.iload_n 3, 1) := by decide +kernel
theorem dX6_begin_44 : decode prog_1_method_4_code 44 = .ok (.iload 4, 2) := by decide +kernel
theorem dX6_begin_46 : decode prog_1_method_4_code 46 = .ok (.iconst 1, 1) := by decide +kernel
theorem dX6_begin_47 : decode prog_1_method_4_code 47 = .ok (.if_icmp .ne 7, 3) := by decide +kernel
theorem dX6_begin_50 : decode prog_1_method_4_code 50 = .ok (.iconst 1, 1) := by decide +kernel
theorem dX6_begin_51 : decode prog_1_method_4_code 51 = .ok (.goto 4, 3) := by decide +kernel
theorem dX6_begin_54 : decode prog_1_method_4_code 54 = .ok (.iconst 0, 1) := by decide +kernel
theorem dX6_begin_55 : decode prog_1_method_4_code 55 = .ok (.invokevirtual 57, 3) := by decide +kernel
theorem dX6_begin_58 : decode prog_1_method_4_code 58 = .ok (.aload_n 0, 1) := by decide +kernel
theorem dX6_begin_59 : decode prog_1_method_4_code 59 = .ok (.getfield 21, 3) := by decide +kernel
theorem dX6_begin_62 : decode prog_1_method_4_code 62 = .ok (.iload_n 1, 1) := by decide +kernel
theorem dX6_begin_63 : decode prog_1_method_4_code 63 = .ok (.iload_n 2, 1) := by decide +kernel
theorem dX6_begin_64 : decode prog_1_method_4_code 64 = .ok (.invokevirtual 61, 3) := by decide +kernel
theorem dX6_begin_67 : decode prog_1_method_4_code 67 = .ok (.return_, 1) := by decide +kernel
theorem dX6_run_0 : decode prog_1_method_5_code 0 = .ok (.iload_n 1, 1) := by decide +kernel
theorem dX6_run_1 : decode prog_1_method_5_code 1 = .ok (.iconst 0, 1) := by decide +kernel
theorem dX6_run_2 : decode prog_1_method_5_code 2 = .ok (.sipush 200, 3) := by decide +kernel
theorem dX6_run_5 : decode prog_1_method_5_code 5 = .ok (.invokestatic 25, 3) := by decide +kernel
theorem dX6_run_8 : decode prog_1_method_5_code 8 = .ok (.ifCond .ne 13, 3) := by decide +kernel
theorem dX6_run_11 : decode prog_1_method_5_code 11 = .ok (.new 29, 3) := by decide +kernel
theorem dX6_run_14 : decode prog_1_method_5_code 14 = .ok (.dup, 1) := by decide +kernel
theorem dX6_run_15 : decode prog_1_method_5_code 15 = .ok (.ldc 64, 2) := by decide +kernel
theorem dX6_run_17 : decode prog_1_method_5_code 17 = .ok (.invokespecial 33, 3) := by decide +kernel
theorem dX6_run_20 : decode prog_1_method_5_code 20 = .ok (.athrow, 1) := by decide +kernel
theorem dX6_run_21 : decode prog_1_method_5_code 21 = .ok (.aload_n 0, 1) := by decide +kernel
theorem dX6_run_22 : decode prog_1_method_5_code 22 = .ok (.getfield 21, 3) := by decide +kernel
theorem dX6_run_25 : decode prog_1_method_5_code 25 = .ok (.invokevirtual 66, 3) := by decide +kernel
theorem dX6_run_28 : decode prog_1_method_5_code 28 = .ok (.ifCond .ne 13, 3) := by decide +kernel
theorem dX6_run_31 : decode prog_1_method_5_code 31 = .ok (.new 46, 3) := by decide +kernel
theorem dX6_run_34 : decode prog_1_method_5_code 34 = .ok (.dup, 1) := by decide +kernel
theorem dX6_run_35 : decode prog_1_method_5_code 35 = .ok (.ldc 70, 2) := by decide +kernel
theorem dX6_run_37 : decode prog_1_method_5_code 37 = .ok (.invokespecial 50, 3) := by decide +kernel
theorem dX6_run_40 : decode prog_1_method_5_code 40 = .ok (.athrow, 1) := by decide +kernel
theorem dX6_run_41 : decode prog_1_method_5_code 41 = .ok (.iconst 0, 1) := by decide +kernel
theorem dX6_run_42 : decode prog_1_method_5_code 42 = .ok (.istore_n 2, 1) := by decide +kernel
theorem dX6_run_43 : decode prog_1_method_5_code 43 = .ok (.iload_n 2, 1) := by decide +kernel
theorem dX6_run_44 : decode prog_1_method_5_code 44 = .ok (.iload_n 1, 1) := by decide +kernel
theorem dX6_run_45 : decode prog_1_method_5_code 45 = .ok (.if_icmp .ge 36, 3) := by decide +kernel
theorem dX6_run_48 : decode prog_1_method_5_code 48 = .ok (.aload_n 0, 1) := by decide +kernel
theorem dX6_run_49 : decode prog_1_method_5_code 49 = .ok (.getfield 21, 3) := by decide +kernel
theorem dX6_run_52 : decode prog_1_method_5_code 52 = .ok (.invokevirtual 72, 3) := by decide +kernel
theorem dX6_run_55 : decode prog_1_method_5_code 55 = .ok (.ifCond .ne 26, 3) := by decide +kernel
theorem dX6_run_58 : decode prog_1_method_5_code 58 = .ok (.aload_n 0, 1) := by decide +kernel
theorem dX6_run_59 : decode prog_1_method_5_code 59 = .ok (.getfield 21, 3) := by decide +kernel
theorem dX6_run_62 : decode prog_1_method_5_code 62 = .ok (.invokevirtual 75, 3) := by decide +kernel
theorem dX6_run_65 : decode prog_1_method_5_code 65 = .ok (.ifCond .ne 16, 3) := by decide +kernel
theorem dX6_run_68 : decode prog_1_method_5_code 68 = .ok (.aload_n 0, 1) := by decide +kernel
theorem dX6_run_69 : decode prog_1_method_5_code 69 = .ok (.getfield 21, 3) := by decide +kernel
theorem dX6_run_72 : decode prog_1_method_5_code 72 = .ok (.invokevirtual 78, 3) := by decide +kernel
theorem dX6_run_75 : decode prog_1_method_5_code 75 = .ok (.iinc 2 1, 3) := by decide +kernel
theorem dX6_run_78 : decode prog_1_method_5_code 78 = .ok (.goto (-35), 3) := by decide +kernel
theorem dX6_run_81 : decode prog_1_method_5_code 81 = .ok (.aload_n 0, 1) := by decide +kernel
theorem dX6_run_82 : decode prog_1_method_5_code 82 = .ok (.getfield 21, 3) := by decide +kernel
theorem dX6_run_85 : decode prog_1_method_5_code 85 = .ok (.invokevirtual 75, 3) := by decide +kernel
theorem dX6_run_88 : decode prog_1_method_5_code 88 = .ok (.ifCond .eq 13, 3) := by decide +kernel
theorem dX6_run_91 : decode prog_1_method_5_code 91 = .ok (.new 81, 3) := by decide +kernel
theorem dX6_run_94 : decode prog_1_method_5_code 94 = .ok (.dup, 1) := by decide +kernel
theorem dX6_run_95 : decode prog_1_method_5_code 95 = .ok (.ldc 83, 2) := by decide +kernel
theorem dX6_run_97 : decode prog_1_method_5_code 97 = .ok (.invokespecial 85, 3) := by decide +kernel
theorem dX6_run_100 : decode prog_1_method_5_code 100 = .ok (.athrow, 1) := by decide +kernel
theorem dX6_run_101 : decode prog_1_method_5_code 101 = .ok (.aload_n 0, 1) := by decide +kernel
theorem dX6_run_102 : decode prog_1_method_5_code 102 = .ok (.getfield 21, 3) := by decide +kernel
theorem dX6_run_105 : decode prog_1_method_5_code 105 = .ok (.invokevirtual 72, 3) := by decide +kernel
theorem dX6_run_108 : decode prog_1_method_5_code 108 = .ok (.ifCond .eq 7, 3) := by decide +kernel
theorem dX6_run_111 : decode prog_1_method_5_code 111 = .ok (.iconst 1, 1) := by decide +kernel
theorem dX6_run_112 : decode prog_1_method_5_code 112 = .ok (.goto 4, 3) := by decide +kernel
theorem dX6_run_115 : decode prog_1_method_5_code 115 = .ok (.iconst 0, 1) := by decide +kernel
theorem dX6_run_116 : decode prog_1_method_5_code 116 = .ok (.ireturn, 1) := by decide +kernel
theorem dX6_result_0 : decode prog_1_method_6_code 0 = .ok (.aload_n 0, 1) := by decide +kernel
theorem dX6_result_1 : decode prog_1_method_6_code 1 = .ok (.getfield 21, 3) := by decide +kernel
theorem dX6_result_4 : decode prog_1_method_6_code 4 = .ok (.invokevirtual 72, 3) := by decide +kernel
theorem dX6_result_7 : decode prog_1_method_6_code 7 = .ok (.ifCond .ne 13, 3) := by decide +kernel
theorem dX6_result_10 : decode prog_1_method_6_code 10 = .ok (.new 46, 3) := by decide +kernel
theorem dX6_result_13 : decode prog_1_method_6_code 13 = .ok (.dup, 1) := by decide +kernel
theorem dX6_result_14 : decode prog_1_method_6_code 14 = .ok (.ldc 86, 2) := by decide +kernel
theorem dX6_result_16 : decode prog_1_method_6_code 16 = .ok (.invokespecial 50, 3) := by decide +kernel
theorem dX6_result_19 : decode prog_1_method_6_code 19 = .ok (.athrow, 1) := by decide +kernel
theorem dX6_result_20 : decode prog_1_method_6_code 20 = .ok (.aload_n 0, 1) := by decide +kernel
theorem dX6_result_21 : decode prog_1_method_6_code 21 = .ok (.getfield 21, 3) := by decide +kernel
theorem dX6_result_24 : decode prog_1_method_6_code 24 = .ok (.getfield 88, 3) := by decide +kernel
theorem dX6_result_27 : decode prog_1_method_6_code 27 = .ok (.getfield 92, 3) := by decide +kernel
theorem dX6_result_30 : decode prog_1_method_6_code 30 = .ok (.ifCond .le 13, 3) := by decide +kernel
theorem dX6_result_33 : decode prog_1_method_6_code 33 = .ok (.new 97, 3) := by decide +kernel
theorem dX6_result_36 : decode prog_1_method_6_code 36 = .ok (.dup, 1) := by decide +kernel
theorem dX6_result_37 : decode prog_1_method_6_code 37 = .ok (.ldc 99, 2) := by decide +kernel
theorem dX6_result_39 : decode prog_1_method_6_code 39 = .ok (.invokespecial 101, 3) := by decide +kernel
theorem dX6_result_42 : decode prog_1_method_6_code 42 = .ok (.athrow, 1) := by decide +kernel
theorem dX6_result_43 : decode prog_1_method_6_code 43 = .ok (.aload_n 0, 1) := by decide +kernel
theorem dX6_result_44 : decode prog_1_method_6_code 44 = .ok (.getfield 21, 3) := by decide +kernel
theorem dX6_result_47 : decode prog_1_method_6_code 47 = .ok (.getfield 102, 3) := by decide +kernel
theorem dX6_result_50 : decode prog_1_method_6_code 50 = .ok (.iconst 0, 1) := by decide +kernel
theorem dX6_result_51 : decode prog_1_method_6_code 51 = .ok (.aaload, 1) := by decide +kernel
theorem dX6_result_52 : decode prog_1_method_6_code 52 = .ok (.getfield 106, 3) := by decide +kernel
theorem dX6_result_55 : decode prog_1_method_6_code 55 = .ok (.aload_n 0, 1) := by decide +kernel
theorem dX6_result_56 : decode prog_1_method_6_code 56 = .ok (.getfield 21, 3) := by decide +kernel
theorem dX6_result_59 : decode prog_1_method_6_code 59 = .ok (.getfield 88, 3) := by decide +kernel
theorem dX6_result_62 : decode prog_1_method_6_code 62 = .ok (.getfield 111, 3) := by decide +kernel
theorem dX6_result_65 : decode prog_1_method_6_code 65 = .ok (.iadd, 1) := by decide +kernel
theorem dX6_result_66 : decode prog_1_method_6_code 66 = .ok (.ireturn, 1) := by decide +kernel
theorem dX6_said_0 : decode prog_1_method_7_code 0 = .ok (.iload_n 1, 1) := by decide +kernel
theorem dX6_said_1 : decode prog_1_method_7_code 1 = .ok (.iconst 0, 1) := by decide +kernel
theorem dX6_said_2 : decode prog_1_method_7_code 2 = .ok (.aload_n 0, 1) := by decide +kernel
theorem dX6_said_3 : decode prog_1_method_7_code 3 = .ok (.getfield 21, 3) := by decide +kernel
theorem dX6_said_6 : decode prog_1_method_7_code 6 = .ok (.getfield 114, 3) := by decide +kernel
theorem dX6_said_9 : decode prog_1_method_7_code 9 = .ok (.bipush 40, 2) := by decide +kernel
theorem dX6_said_11 : decode prog_1_method_7_code 11 = .ok (.invokestatic 117, 3) := by decide +kernel
theorem dX6_said_14 : decode prog_1_method_7_code 14 = .ok (.iconst 1, 1) := by decide +kernel
theorem dX6_said_15 : decode prog_1_method_7_code 15 = .ok (.isub, 1) := by decide +kernel
theorem dX6_said_16 : decode prog_1_method_7_code 16 = .ok (.invokestatic 25, 3) := by decide +kernel
theorem dX6_said_19 : decode prog_1_method_7_code 19 = .ok (.ifCond .ne 13, 3) := by decide +kernel
theorem dX6_said_22 : decode prog_1_method_7_code 22 = .ok (.new 123, 3) := by decide +kernel
theorem dX6_said_25 : decode prog_1_method_7_code 25 = .ok (.dup, 1) := by decide +kernel
theorem dX6_said_26 : decode prog_1_method_7_code 26 = .ok (.ldc 125, 2) := by decide +kernel
theorem dX6_said_28 : decode prog_1_method_7_code 28 = .ok (.invokespecial 127, 3) := by decide +kernel
theorem dX6_said_31 : decode prog_1_method_7_code 31 = .ok (.athrow, 1) := by decide +kernel
theorem dX6_said_32 : decode prog_1_method_7_code 32 = .ok (.aload_n 0, 1) := by decide +kernel
theorem dX6_said_33 : decode prog_1_method_7_code 33 = .ok (.getfield 21, 3) := by decide +kernel
theorem dX6_said_36 : decode prog_1_method_7_code 36 = .ok (.getfield 128, 3) := by decide +kernel
theorem dX6_said_39 : decode prog_1_method_7_code 39 = .ok (.iload_n 1, 1) := by decide +kernel
theorem dX6_said_40 : decode prog_1_method_7_code 40 = .ok (.iaload, 1) := by decide +kernel
theorem dX6_said_41 : decode prog_1_method_7_code 41 = .ok (.ireturn, 1) := by decide +kernel
theorem dX6_task_0 : decode prog_1_method_8_code 0 = .ok (.iload_n 2, 1) := by decide +kernel
theorem dX6_task_1 : decode prog_1_method_8_code 1 = .ok (.iconst 0, 1) := by decide +kernel
theorem dX6_task_2 : decode prog_1_method_8_code 2 = .ok (.bipush 6, 2) := by decide +kernel
theorem dX6_task_4 : decode prog_1_method_8_code 4 = .ok (.invokestatic 25, 3) := by decide +kernel
theorem dX6_task_7 : decode prog_1_method_8_code 7 = .ok (.ifCond .ne 13, 3) := by decide +kernel
theorem dX6_task_10 : decode prog_1_method_8_code 10 = .ok (.new 29, 3) := by decide +kernel
theorem dX6_task_13 : decode prog_1_method_8_code 13 = .ok (.dup, 1) := by decide +kernel
theorem dX6_task_14 : decode prog_1_method_8_code 14 = .ok (.ldc 132, 2) := by decide +kernel
theorem dX6_task_16 : decode prog_1_method_8_code 16 = .ok (.invokespecial 33, 3) := by decide +kernel
theorem dX6_task_19 : decode prog_1_method_8_code 19 = .ok (.athrow, 1) := by decide +kernel
theorem dX6_task_20 : decode prog_1_method_8_code 20 = .ok (.iload_n 1, 1) := by decide +kernel
theorem dX6_task_21 : decode prog_1_method_8_code 21 = .ok (.iconst 0, 1) := by decide +kernel
theorem dX6_task_22 : decode prog_1_method_8_code 22 = .ok (.aload_n 0, 1) := by decide +kernel
theorem dX6_task_23 : decode prog_1_method_8_code 23 = .ok (.getfield 21, 3) := by decide +kernel
theorem dX6_task_26 : decode prog_1_method_8_code 26 = .ok (.getfield 134, 3) := by decide +kernel
theorem dX6_task_29 : decode prog_1_method_8_code 29 = .ok (.iconst 1, 1) := by decide +kernel
theorem dX6_task_30 : decode prog_1_method_8_code 30 = .ok (.isub, 1) := by decide +kernel
theorem dX6_task_31 : decode prog_1_method_8_code 31 = .ok (.invokestatic 25, 3) := by decide +kernel
theorem dX6_task_34 : decode prog_1_method_8_code 34 = .ok (.ifCond .ne 13, 3) := by decide +kernel
theorem dX6_task_37 : decode prog_1_method_8_code 37 = .ok (.new 123, 3) := by decide +kernel
theorem dX6_task_40 : decode prog_1_method_8_code 40 = .ok (.dup, 1) := by decide +kernel
theorem dX6_task_41 : decode prog_1_method_8_code 41 = .ok (.ldc 137, 2) := by decide +kernel
theorem dX6_task_43 : decode prog_1_method_8_code 43 = .ok (.invokespecial 127, 3) := by decide +kernel
theorem dX6_task_46 : decode prog_1_method_8_code 46 = .ok (.athrow, 1) := by decide +kernel
theorem dX6_task_47 : decode prog_1_method_8_code 47 = .ok (.aload_n 0, 1) := by decide +kernel
theorem dX6_task_48 : decode prog_1_method_8_code 48 = .ok (.getfield 21, 3) := by decide +kernel
theorem dX6_task_51 : decode prog_1_method_8_code 51 = .ok (.aload_n 0, 1) := by decide +kernel
theorem dX6_task_52 : decode prog_1_method_8_code 52 = .ok (.getfield 21, 3) := by decide +kernel
theorem dX6_task_55 : decode prog_1_method_8_code 55 = .ok (.getfield 102, 3) := by decide +kernel
theorem dX6_task_58 : decode prog_1_method_8_code 58 = .ok (.iload_n 1, 1) := by decide +kernel
theorem dX6_task_59 : decode prog_1_method_8_code 59 = .ok (.aaload, 1) := by decide +kernel
theorem dX6_task_60 : decode prog_1_method_8_code 60 = .ok (.iload_n 2, 1) := by decide +kernel
theorem dX6_task_61 : decode prog_1_method_8_code 61 = .ok (.invokevirtual 139, 3) := by decide +kernel
theorem dX6_task_64 : decode prog_1_method_8_code 64 = .ok (.ireturn, 1) := by decide +kernel
theorem dX6_future_0 : decode prog_1_method_9_code 0 = .ok (.iload_n 1, 1) := by decide +kernel
theorem dX6_future_1 : decode prog_1_method_9_code 1 = .ok (.iconst 0, 1) := by decide +kernel
theorem dX6_future_2 : decode prog_1_method_9_code 2 = .ok (.iconst 3, 1) := by decide +kernel
theorem dX6_future_3 : decode prog_1_method_9_code 3 = .ok (.invokestatic 25, 3) := by decide +kernel
theorem dX6_future_6 : decode prog_1_method_9_code 6 = .ok (.ifCond .ne 13, 3) := by decide +kernel
theorem dX6_future_9 : decode prog_1_method_9_code 9 = .ok (.new 29, 3) := by decide +kernel
theorem dX6_future_12 : decode prog_1_method_9_code 12 = .ok (.dup, 1) := by decide +kernel
theorem dX6_future_13 : decode prog_1_method_9_code 13 = .ok (.ldc 143, 2) := by decide +kernel
theorem dX6_future_15 : decode prog_1_method_9_code 15 = .ok (.invokespecial 33, 3) := by decide +kernel
theorem dX6_future_18 : decode prog_1_method_9_code 18 = .ok (.athrow, 1) := by decide +kernel
theorem dX6_future_19 : decode prog_1_method_9_code 19 = .ok (.aload_n 0, 1) := by decide +kernel
theorem dX6_future_20 : decode prog_1_method_9_code 20 = .ok (.getfield 21, 3) := by decide +kernel
theorem dX6_future_23 : decode prog_1_method_9_code 23 = .ok (.getfield 145, 3) := by decide +kernel
theorem dX6_future_26 : decode prog_1_method_9_code 26 = .ok (.iload_n 1, 1) := by decide +kernel
theorem dX6_future_27 : decode prog_1_method_9_code 27 = .ok (.baload, 1) := by decide +kernel
theorem dX6_future_28 : decode prog_1_method_9_code 28 = .ok (.ifCond .ne 13, 3) := by decide +kernel
theorem dX6_future_31 : decode prog_1_method_9_code 31 = .ok (.new 46, 3) := by decide +kernel
theorem dX6_future_34 : decode prog_1_method_9_code 34 = .ok (.dup, 1) := by decide +kernel
theorem dX6_future_35 : decode prog_1_method_9_code 35 = .ok (.ldc 149, 2) := by decide +kernel
theorem dX6_future_37 : decode prog_1_method_9_code 37 = .ok (.invokespecial 50, 3) := by decide +kernel
theorem dX6_future_40 : decode prog_1_method_9_code 40 = .ok (.athrow, 1) := by decide +kernel
theorem dX6_future_41 : decode prog_1_method_9_code 41 = .ok (.aload_n 0, 1) := by decide +kernel
theorem dX6_future_42 : decode prog_1_method_9_code 42 = .ok (.getfield 21, 3) := by decide +kernel
theorem dX6_future_45 : decode prog_1_method_9_code 45 = .ok (.getfield 151, 3) := by decide +kernel
theorem dX6_future_48 : decode prog_1_method_9_code 48 = .ok (.iload_n 1, 1) := by decide +kernel
theorem dX6_future_49 : decode prog_1_method_9_code 49 = .ok (.iaload, 1) := by decide +kernel
theorem dX6_future_50 : decode prog_1_method_9_code 50 = .ok (.ireturn, 1) := by decide +kernel
theorem dX6_count_0 : decode prog_1_method_10_code 0 = .ok (.iload_n 1, 1) := by decide +kernel
theorem dX6_count_1 : decode prog_1_method_10_code 1 = .ok (.iconst 0, 1) := by decide +kernel
theorem dX6_count_2 : decode prog_1_method_10_code 2 = .ok (.bipush 10, 2) := by decide +kernel
theorem dX6_count_4 : decode prog_1_method_10_code 4 = .ok (.invokestatic 25, 3) := by decide +kernel
theorem dX6_count_7 : decode prog_1_method_10_code 7 = .ok (.ifCond .eq 12, 3) := by decide +kernel
theorem dX6_count_10 : decode prog_1_method_10_code 10 = .ok (.aload_n 0, 1) := by decide +kernel
theorem dX6_count_11 : decode prog_1_method_10_code 11 = .ok (.getfield 21, 3) := by decide +kernel
theorem dX6_count_14 : decode prog_1_method_10_code 14 = .ok (.iload_n 1, 1) := by decide +kernel
theorem dX6_count_15 : decode prog_1_method_10_code 15 = .ok (.invokevirtual 154, 3) := by decide +kernel
theorem dX6_count_18 : decode prog_1_method_10_code 18 = .ok (.ireturn, 1) := by decide +kernel
theorem dX6_count_19 : decode prog_1_method_10_code 19 = .ok (.iload_n 1, 1) := by decide +kernel
theorem dX6_count_20 : decode prog_1_method_10_code 20 = .ok (.bipush 20, 2) := by decide +kernel
theorem dX6_count_22 : decode prog_1_method_10_code 22 = .ok (.bipush 22, 2) := by decide +kernel
theorem dX6_count_24 : decode prog_1_method_10_code 24 = .ok (.invokestatic 25, 3) := by decide +kernel
theorem dX6_count_27 : decode prog_1_method_10_code 27 = .ok (.ifCond .eq 19, 3) := by decide +kernel
theorem dX6_count_30 : decode prog_1_method_10_code 30 = .ok (.aload_n 0, 1) := by decide +kernel
theorem dX6_count_31 : decode prog_1_method_10_code 31 = .ok (.getfield 21, 3) := by decide +kernel
theorem dX6_count_34 : decode prog_1_method_10_code 34 = .ok (.getfield 158, 3) := by decide +kernel
theorem dX6_count_37 : decode prog_1_method_10_code 37 = .ok (.iload_n 1, 1) := by decide +kernel
theorem dX6_count_38 : decode prog_1_method_10_code 38 = .ok (.bipush 20, 2) := by decide +kernel
theorem dX6_count_40 : decode prog_1_method_10_code 40 = .ok (.isub, 1) := by decide +kernel
theorem dX6_count_41 : decode prog_1_method_10_code 41 = .ok (.aaload, 1) := by decide +kernel
theorem dX6_count_42 : decode prog_1_method_10_code 42 = .ok (.getfield 162, 3) := by decide +kernel
theorem dX6_count_45 : decode prog_1_method_10_code 45 = .ok (.ireturn, 1) := by decide +kernel
theorem dX6_count_46 : decode prog_1_method_10_code 46 = .ok (.iload_n 1, 1) := by decide +kernel
theorem dX6_count_47 : decode prog_1_method_10_code 47 = .ok (.bipush 30, 2) := by decide +kernel
theorem dX6_count_49 : decode prog_1_method_10_code 49 = .ok (.bipush 32, 2) := by decide +kernel
theorem dX6_count_51 : decode prog_1_method_10_code 51 = .ok (.invokestatic 25, 3) := by decide +kernel
theorem dX6_count_54 : decode prog_1_method_10_code 54 = .ok (.ifCond .eq 19, 3) := by decide +kernel
theorem dX6_count_57 : decode prog_1_method_10_code 57 = .ok (.aload_n 0, 1) := by decide +kernel
theorem dX6_count_58 : decode prog_1_method_10_code 58 = .ok (.getfield 21, 3) := by decide +kernel
theorem dX6_count_61 : decode prog_1_method_10_code 61 = .ok (.getfield 158, 3) := by decide +kernel
theorem dX6_count_64 : decode prog_1_method_10_code 64 = .ok (.iload_n 1, 1) := by decide +kernel
theorem dX6_count_65 : decode prog_1_method_10_code 65 = .ok (.bipush 30, 2) := by decide +kernel
theorem dX6_count_67 : decode prog_1_method_10_code 67 = .ok (.isub, 1) := by decide +kernel
theorem dX6_count_68 : decode prog_1_method_10_code 68 = .ok (.aaload, 1) := by decide +kernel
theorem dX6_count_69 : decode prog_1_method_10_code 69 = .ok (.getfield 167, 3) := by decide +kernel
theorem dX6_count_72 : decode prog_1_method_10_code 72 = .ok (.ireturn, 1) := by decide +kernel
theorem dX6_count_73 : decode prog_1_method_10_code 73 = .ok (.iload_n 1, 1) := by decide +kernel
theorem dX6_count_74 : decode prog_1_method_10_code 74 = .ok (.bipush 40, 2) := by decide +kernel
theorem dX6_count_76 : decode prog_1_method_10_code 76 = .ok (.bipush 87, 2) := by decide +kernel
theorem dX6_count_78 : decode prog_1_method_10_code 78 = .ok (.invokestatic 25, 3) := by decide +kernel
theorem dX6_count_81 : decode prog_1_method_10_code 81 = .ok (.ifCond .eq 20, 3) := by decide +kernel
theorem dX6_count_84 : decode prog_1_method_10_code 84 = .ok (.aload_n 0, 1) := by decide +kernel
theorem dX6_count_85 : decode prog_1_method_10_code 85 = .ok (.getfield 21, 3) := by decide +kernel
theorem dX6_count_88 : decode prog_1_method_10_code 88 = .ok (.getfield 158, 3) := by decide +kernel
theorem dX6_count_91 : decode prog_1_method_10_code 91 = .ok (.iconst 0, 1) := by decide +kernel
theorem dX6_count_92 : decode prog_1_method_10_code 92 = .ok (.aaload, 1) := by decide +kernel
theorem dX6_count_93 : decode prog_1_method_10_code 93 = .ok (.iload_n 1, 1) := by decide +kernel
theorem dX6_count_94 : decode prog_1_method_10_code 94 = .ok (.bipush 40, 2) := by decide +kernel
theorem dX6_count_96 : decode prog_1_method_10_code 96 = .ok (.isub, 1) := by decide +kernel
theorem dX6_count_97 : decode prog_1_method_10_code 97 = .ok (.invokevirtual 168, 3) := by decide +kernel
theorem dX6_count_100 : decode prog_1_method_10_code 100 = .ok (.ireturn, 1) := by decide +kernel
theorem dX6_count_101 : decode prog_1_method_10_code 101 = .ok (.iload_n 1, 1) := by decide +kernel
theorem dX6_count_102 : decode prog_1_method_10_code 102 = .ok (.bipush 100, 2) := by decide +kernel
theorem dX6_count_104 : decode prog_1_method_10_code 104 = .ok (.sipush 147, 3) := by decide +kernel
theorem dX6_count_107 : decode prog_1_method_10_code 107 = .ok (.invokestatic 25, 3) := by decide +kernel
theorem dX6_count_110 : decode prog_1_method_10_code 110 = .ok (.ifCond .eq 20, 3) := by decide +kernel
theorem dX6_count_113 : decode prog_1_method_10_code 113 = .ok (.aload_n 0, 1) := by decide +kernel
theorem dX6_count_114 : decode prog_1_method_10_code 114 = .ok (.getfield 21, 3) := by decide +kernel
theorem dX6_count_117 : decode prog_1_method_10_code 117 = .ok (.getfield 158, 3) := by decide +kernel
theorem dX6_count_120 : decode prog_1_method_10_code 120 = .ok (.iconst 1, 1) := by decide +kernel
theorem dX6_count_121 : decode prog_1_method_10_code 121 = .ok (.aaload, 1) := by decide +kernel
theorem dX6_count_122 : decode prog_1_method_10_code 122 = .ok (.iload_n 1, 1) := by decide +kernel
theorem dX6_count_123 : decode prog_1_method_10_code 123 = .ok (.bipush 100, 2) := by decide +kernel
theorem dX6_count_125 : decode prog_1_method_10_code 125 = .ok (.isub, 1) := by decide +kernel
theorem dX6_count_126 : decode prog_1_method_10_code 126 = .ok (.invokevirtual 168, 3) := by decide +kernel
theorem dX6_count_129 : decode prog_1_method_10_code 129 = .ok (.ireturn, 1) := by decide +kernel
theorem dX6_count_130 : decode prog_1_method_10_code 130 = .ok (.new 29, 3) := by decide +kernel
theorem dX6_count_133 : decode prog_1_method_10_code 133 = .ok (.dup, 1) := by decide +kernel
theorem dX6_count_134 : decode prog_1_method_10_code 134 = .ok (.ldc 171, 2) := by decide +kernel
theorem dX6_count_136 : decode prog_1_method_10_code 136 = .ok (.invokespecial 33, 3) := by decide +kernel
theorem dX6_count_139 : decode prog_1_method_10_code 139 = .ok (.athrow, 1) := by decide +kernel
theorem dX6_isWithin_0 : decode prog_1_method_11_code 0 = .ok (.iload_n 0, 1) := by decide +kernel
theorem dX6_isWithin_1 : decode prog_1_method_11_code 1 = .ok (.iload_n 1, 1) := by decide +kernel
theorem dX6_isWithin_2 : decode prog_1_method_11_code 2 = .ok (.if_icmp .lt 12, 3) := by decide +kernel
theorem dX6_isWithin_5 : decode prog_1_method_11_code 5 = .ok (.iload_n 0, 1) := by decide +kernel
theorem dX6_isWithin_6 : decode prog_1_method_11_code 6 = .ok (.iload_n 2, 1) := by decide +kernel
theorem dX6_isWithin_7 : decode prog_1_method_11_code 7 = .ok (.if_icmp .gt 7, 3) := by decide +kernel
theorem dX6_isWithin_10 : decode prog_1_method_11_code 10 = .ok (.iconst 1, 1) := by decide +kernel
theorem dX6_isWithin_11 : decode prog_1_method_11_code 11 = .ok (.goto 4, 3) := by decide +kernel
theorem dX6_isWithin_14 : decode prog_1_method_11_code 14 = .ok (.iconst 0, 1) := by decide +kernel
theorem dX6_isWithin_15 : decode prog_1_method_11_code 15 = .ok (.ireturn, 1) := by decide +kernel
theorem dX6_isInstruction_0 : decode prog_1_method_12_code 0 = .ok (.iload_n 0, 1) := by decide +kernel
theorem dX6_isInstruction_1 : decode prog_1_method_12_code 1 = .ok (.iconst 0, 1) := by decide +kernel
theorem dX6_isInstruction_2 : decode prog_1_method_12_code 2 = .ok (.bipush 16, 2) := by decide +kernel
theorem dX6_isInstruction_4 : decode prog_1_method_12_code 4 = .ok (.invokestatic 25, 3) := by decide +kernel
theorem dX6_isInstruction_7 : decode prog_1_method_12_code 7 = .ok (.ifCond .eq 24, 3) := by decide +kernel
theorem dX6_isInstruction_10 : decode prog_1_method_12_code 10 = .ok (.iload_n 1, 1) := by decide +kernel
theorem dX6_isInstruction_11 : decode prog_1_method_12_code 11 = .ok (.getstatic 173, 3) := by decide +kernel
theorem dX6_isInstruction_14 : decode prog_1_method_12_code 14 = .ok (.iload_n 0, 1) := by decide +kernel
theorem dX6_isInstruction_15 : decode prog_1_method_12_code 15 = .ok (.iaload, 1) := by decide +kernel
theorem dX6_isInstruction_16 : decode prog_1_method_12_code 16 = .ok (.getstatic 176, 3) := by decide +kernel
theorem dX6_isInstruction_19 : decode prog_1_method_12_code 19 = .ok (.iload_n 0, 1) := by decide +kernel
theorem dX6_isInstruction_20 : decode prog_1_method_12_code 20 = .ok (.iaload, 1) := by decide +kernel
theorem dX6_isInstruction_21 : decode prog_1_method_12_code 21 = .ok (.invokestatic 25, 3) := by decide +kernel
theorem dX6_isInstruction_24 : decode prog_1_method_12_code 24 = .ok (.ifCond .eq 7, 3) := by decide +kernel
theorem dX6_isInstruction_27 : decode prog_1_method_12_code 27 = .ok (.iconst 1, 1) := by decide +kernel
theorem dX6_isInstruction_28 : decode prog_1_method_12_code 28 = .ok (.goto 4, 3) := by decide +kernel
theorem dX6_isInstruction_31 : decode prog_1_method_12_code 31 = .ok (.iconst 0, 1) := by decide +kernel
theorem dX6_isInstruction_32 : decode prog_1_method_12_code 32 = .ok (.ireturn, 1) := by decide +kernel
