theorem dX2_init_0 : decode prog_4_method_1_code 0 = .ok (.aload_n 0, 1) := by decide +kernel
theorem dX2_init_1 : decode prog_4_method_1_code 1 = .ok (.invokespecial 3, 3) := by decide +kernel
theorem dX2_init_4 : decode prog_4_method_1_code 4 = .ok (.aload_n 0, 1) := by decide +kernel
theorem dX2_init_5 : decode prog_4_method_1_code 5 = .ok (.aload_n 1, 1) := by decide +kernel
theorem dX2_init_6 : decode prog_4_method_1_code 6 = .ok (.putfield 9, 3) := by decide +kernel
theorem dX2_init_9 : decode prog_4_method_1_code 9 = .ok (.aload_n 0, 1) := by decide +kernel
theorem dX2_init_10 : decode prog_4_method_1_code 10 = .ok (.new 15, 3) := by decide +kernel
theorem dX2_init_13 : decode prog_4_method_1_code 13 = .ok (.dup, 1) := by decide +kernel
theorem dX2_init_14 : decode prog_4_method_1_code 14 = .ok (.invokespecial 17, 3) := by decide +kernel
theorem dX2_init_17 : decode prog_4_method_1_code 17 = .ok (.putfield 18, 3) := by decide +kernel
theorem dX2_init_20 : decode prog_4_method_1_code 20 = .ok (.aload_n 0, 1) := by decide +kernel
theorem dX2_init_21 : decode prog_4_method_1_code 21 = .ok (.bipush 48, 2) := by decide +kernel
theorem dX2_init_23 : decode prog_4_method_1_code 23 = .ok (.anewarray 22, 3) := by decide +kernel
theorem dX2_init_26 : decode prog_4_method_1_code 26 = .ok (.putfield 24, 3) := by decide +kernel
theorem dX2_init_29 : decode prog_4_method_1_code 29 = .ok (.iconst 0, 1) := by decide +kernel
theorem dX2_init_30 : decode prog_4_method_1_code 30 = .ok (.istore_n 2, 1) := by decide +kernel
theorem dX2_init_31 : decode prog_4_method_1_code 31 = .ok (.iload_n 2, 1) := by decide +kernel
theorem dX2_init_32 : decode prog_4_method_1_code 32 = .ok (.bipush 48, 2) := by decide +kernel
theorem dX2_init_34 : decode prog_4_method_1_code 34 = .ok (.if_icmp .ge 27, 3) := by decide +kernel
theorem dX2_init_37 : decode prog_4_method_1_code 37 = .ok (.aload_n 0, 1) := by decide +kernel
theorem dX2_init_38 : decode prog_4_method_1_code 38 = .ok (.getfield 24, 3) := by decide +kernel
theorem dX2_init_41 : decode prog_4_method_1_code 41 = .ok (.iload_n 2, 1) := by decide +kernel
theorem dX2_init_42 : decode prog_4_method_1_code 42 = .ok (.new 22, 3) := by decide +kernel
theorem dX2_init_45 : decode prog_4_method_1_code 45 = .ok (.dup, 1) := by decide +kernel
theorem dX2_init_46 : decode prog_4_method_1_code 46 = .ok (.iload_n 2, 1) := by decide +kernel
theorem dX2_init_47 : decode prog_4_method_1_code 47 = .ok (.aload_n 0, 1) := by decide +kernel
theorem dX2_init_48 : decode prog_4_method_1_code 48 = .ok (.getfield 18, 3) := by decide +kernel
theorem dX2_init_51 : decode prog_4_method_1_code 51 = .ok (.invokespecial 28, 3) := by decide +kernel
theorem dX2_init_54 : decode prog_4_method_1_code 54 = .ok (.aastore, 1) := by decide +kernel
theorem dX2_init_55 : decode prog_4_method_1_code 55 = .ok (.iinc 2 1, 3) := by decide +kernel
theorem dX2_init_58 : decode prog_4_method_1_code 58 = .ok (.goto (-27), 3) := by decide +kernel
theorem dX2_init_61 : decode prog_4_method_1_code 61 = .ok (.aload_n 0, 1) := by decide +kernel
theorem dX2_init_62 : decode prog_4_method_1_code 62 = .ok (.iconst 2, 1) := by decide +kernel
theorem dX2_init_63 : decode prog_4_method_1_code 63 = .ok (.anewarray 31, 3) := by decide +kernel
theorem dX2_init_66 : decode prog_4_method_1_code 66 = .ok (.putfield 33, 3) := by decide +kernel
theorem dX2_init_69 : decode prog_4_method_1_code 69 = .ok (.iconst 0, 1) := by decide +kernel
theorem dX2_init_70 : decode prog_4_method_1_code 70 = .ok (.istore_n 2, 1) := by decide +kernel
theorem dX2_init_71 : decode prog_4_method_1_code 71 = .ok (.iload_n 2, 1) := by decide +kernel
theorem dX2_init_72 : decode prog_4_method_1_code 72 = .ok (.iconst 2, 1) := by decide +kernel
theorem dX2_init_73 : decode prog_4_method_1_code 73 = .ok (.if_icmp .ge 22, 3) := by decide +kernel
theorem dX2_init_76 : decode prog_4_method_1_code 76 = .ok (.aload_n 0, 1) := by decide +kernel
theorem dX2_init_77 : decode prog_4_method_1_code 77 = .ok (.getfield 33, 3) := by decide +kernel
theorem dX2_init_80 : decode prog_4_method_1_code 80 = .ok (.iload_n 2, 1) := by decide +kernel
theorem dX2_init_81 : decode prog_4_method_1_code 81 = .ok (.new 31, 3) := by decide +kernel
theorem dX2_init_84 : decode prog_4_method_1_code 84 = .ok (.dup, 1) := by decide +kernel
theorem dX2_init_85 : decode prog_4_method_1_code 85 = .ok (.invokespecial 37, 3) := by decide +kernel
theorem dX2_init_88 : decode prog_4_method_1_code 88 = .ok (.aastore, 1) := by decide +kernel
theorem dX2_init_89 : decode prog_4_method_1_code 89 = .ok (.iinc 2 1, 3) := by decide +kernel
theorem dX2_init_92 : decode prog_4_method_1_code 92 = .ok (.goto (-21), 3) := by decide +kernel
theorem dX2_init_95 : decode prog_4_method_1_code 95 = .ok (.aload_n 0, 1) := by decide +kernel
theorem dX2_init_96 : decode prog_4_method_1_code 96 = .ok (.iconst 3, 1) := by decide +kernel
theorem dX2_init_97 : decode prog_4_method_1_code 97 = .ok (.anewarray 38, 3) := by decide +kernel
theorem dX2_init_100 : decode prog_4_method_1_code 100 = .ok (.putfield 40, 3) := by decide +kernel
theorem dX2_init_103 : decode prog_4_method_1_code 103 = .ok (.iconst 0, 1) := by decide +kernel
theorem dX2_init_104 : decode prog_4_method_1_code 104 = .ok (.istore_n 2, 1) := by decide +kernel
theorem dX2_init_105 : decode prog_4_method_1_code 105 = .ok (.iload_n 2, 1) := by decide +kernel
theorem dX2_init_106 : decode prog_4_method_1_code 106 = .ok (.iconst 3, 1) := by decide +kernel
theorem dX2_init_107 : decode prog_4_method_1_code 107 = .ok (.if_icmp .ge 22, 3) := by decide +kernel
theorem dX2_init_110 : decode prog_4_method_1_code 110 = .ok (.aload_n 0, 1) := by decide +kernel
theorem dX2_init_111 : decode prog_4_method_1_code 111 = .ok (.getfield 40, 3) := by decide +kernel
theorem dX2_init_114 : decode prog_4_method_1_code 114 = .ok (.iload_n 2, 1) := by decide +kernel
theorem dX2_init_115 : decode prog_4_method_1_code 115 = .ok (.new 38, 3) := by decide +kernel
theorem dX2_init_118 : decode prog_4_method_1_code 118 = .ok (.dup, 1) := by decide +kernel
theorem dX2_init_119 : decode prog_4_method_1_code 119 = .ok (.invokespecial 44, 3) := by decide +kernel
theorem dX2_init_122 : decode prog_4_method_1_code 122 = .ok (.aastore, 1) := by decide +kernel
theorem dX2_init_123 : decode prog_4_method_1_code 123 = .ok (.iinc 2 1, 3) := by decide +kernel
theorem dX2_init_126 : decode prog_4_method_1_code 126 = .ok (.goto (-21), 3) := by decide +kernel
theorem dX2_init_129 : decode prog_4_method_1_code 129 = .ok (.aload_n 0, 1) := by decide +kernel
theorem dX2_init_130 : decode prog_4_method_1_code 130 = .ok (.iconst 4, 1) := by decide +kernel
theorem dX2_init_131 : decode prog_4_method_1_code 131 = .ok (.newarray .int, 2) := by decide +kernel
theorem dX2_init_133 : decode prog_4_method_1_code 133 = .ok (.putfield 45, 3) := by decide +kernel
theorem dX2_init_136 : decode prog_4_method_1_code 136 = .ok (.aload_n 0, 1) := by decide +kernel
theorem dX2_init_137 : decode prog_4_method_1_code 137 = .ok (.iconst 4, 1) := by decide +kernel
theorem dX2_init_138 : decode prog_4_method_1_code 138 = .ok (.newarray .boolean, 2) := by decide +kernel
theorem dX2_init_140 : decode prog_4_method_1_code 140 = .ok (.putfield 49, 3) := by decide +kernel
theorem dX2_init_143 : decode prog_4_method_1_code 143 = .ok (.aload_n 0, 1) := by decide +kernel
theorem dX2_init_144 : decode prog_4_method_1_code 144 = .ok (.bipush 40, 2) := by decide +kernel
theorem dX2_init_146 : decode prog_4_method_1_code 146 = .ok (.newarray .int, 2) := by decide +kernel
theorem dX2_init_148 : decode prog_4_method_1_code 148 = .ok (.putfield 53, 3) := by decide +kernel
theorem dX2_init_151 : decode prog_4_method_1_code 151 = .ok (.return_, 1) := by decide +kernel
theorem dX2_reset_0 : decode prog_4_method_2_code 0 = .ok (.aload_n 0, 1) := by decide +kernel
theorem dX2_reset_1 : decode prog_4_method_2_code 1 = .ok (.iload_n 1, 1) := by decide +kernel
theorem dX2_reset_2 : decode prog_4_method_2_code 2 = .ok (.putfield 56, 3) := by decide +kernel
theorem dX2_reset_5 : decode prog_4_method_2_code 5 = .ok (.aload_n 0, 1) := by decide +kernel
theorem dX2_reset_6 : decode prog_4_method_2_code 6 = .ok (.iload_n 2, 1) := by decide +kernel
theorem dX2_reset_7 : decode prog_4_method_2_code 7 = .ok (.putfield 60, 3) := by decide +kernel
theorem dX2_reset_10 : decode prog_4_method_2_code 10 = .ok (.aload_n 0, 1) := by decide +kernel
theorem dX2_reset_11 : decode prog_4_method_2_code 11 = .ok (.iconst 0, 1) := by decide +kernel
theorem dX2_reset_12 : decode prog_4_method_2_code 12 = .ok (.putfield 64, 3) := by decide +kernel
theorem dX2_reset_15 : decode prog_4_method_2_code 15 = .ok (.aload_n 0, 1) := by decide +kernel
theorem dX2_reset_16 : decode prog_4_method_2_code 16 = .ok (.iconst 0, 1) := by decide +kernel
theorem dX2_reset_17 : decode prog_4_method_2_code 17 = .ok (.putfield 67, 3) := by decide +kernel
theorem dX2_reset_20 : decode prog_4_method_2_code 20 = .ok (.aload_n 0, 1) := by decide +kernel
theorem dX2_reset_21 : decode prog_4_method_2_code 21 = .ok (.iconst 0, 1) := by decide +kernel
theorem dX2_reset_22 : decode prog_4_method_2_code 22 = .ok (.putfield 70, 3) := by decide +kernel
theorem dX2_reset_25 : decode prog_4_method_2_code 25 = .ok (.aload_n 0, 1) := by decide +kernel
theorem dX2_reset_26 : decode prog_4_method_2_code 26 = .ok (.iconst 0, 1) := by decide +kernel
theorem dX2_reset_27 : decode prog_4_method_2_code 27 = .ok (.putfield 73, 3) := by decide +kernel
theorem dX2_reset_30 : decode prog_4_method_2_code 30 = .ok (.aload_n 0, 1) := by decide +kernel
theorem dX2_reset_31 : decode prog_4_method_2_code 31 = .ok (.iconst 0, 1) := by decide +kernel
theorem dX2_reset_32 : decode prog_4_method_2_code 32 = .ok (.putfield 76, 3) := by decide +kernel
theorem dX2_reset_35 : decode prog_4_method_2_code 35 = .ok (.aload_n 0, 1) := by decide +kernel
theorem dX2_reset_36 : decode prog_4_method_2_code 36 = .ok (.getfield 18, 3) := by decide +kernel
theorem dX2_reset_39 : decode prog_4_method_2_code 39 = .ok (.iconst 0, 1) := by decide +kernel
theorem dX2_reset_40 : decode prog_4_method_2_code 40 = .ok (.iconst 0, 1) := by decide +kernel
theorem dX2_reset_41 : decode prog_4_method_2_code 41 = .ok (.invokevirtual 79, 3) := by decide +kernel
theorem dX2_reset_44 : decode prog_4_method_2_code 44 = .ok (.iconst 0, 1) := by decide +kernel
theorem dX2_reset_45 : decode prog_4_method_2_code 45 = .ok (.istore_n 3, 1) := by decide +kernel
theorem dX2_reset_46 : decode prog_4_method_2_code 46 = .ok (.iload_n 3, 1) := by decide +kernel
theorem dX2_reset_47 : decode prog_4_method_2_code 47 = .ok (.iconst 4, 1) := by decide +kernel
theorem dX2_reset_48 : decode prog_4_method_2_code 48 = .ok (.if_icmp .ge 16, 3) := by decide +kernel
theorem dX2_reset_51 : decode prog_4_method_2_code 51 = .ok (.aload_n 0, 1) := by decide +kernel
theorem dX2_reset_52 : decode prog_4_method_2_code 52 = .ok (.getfield 49, 3) := by decide +kernel
theorem dX2_reset_55 : decode prog_4_method_2_code 55 = .ok (.iload_n 3, 1) := by decide +kernel
theorem dX2_reset_56 : decode prog_4_method_2_code 56 = .ok (.iconst 0, 1) := by decide +kernel
theorem dX2_reset_57 : decode prog_4_method_2_code 57 = .ok (.bastore, 1) := by decide +kernel
theorem dX2_reset_58 : decode prog_4_method_2_code 58 = .ok (.iinc 3 1, 3) := by decide +kernel
theorem dX2_reset_61 : decode prog_4_method_2_code 61 = .ok (.goto (-15), 3) := by decide +kernel
theorem dX2_reset_64 : decode prog_4_method_2_code 64 = .ok (.iconst 0, 1) := by decide +kernel
theorem dX2_reset_65 : decode prog_4_method_2_code 65 = .ok (.istore_n 3, 1) := by decide +kernel
theorem dX2_reset_66 : decode prog_4_method_2_code 66 = .ok (.iload_n 3, 1) := by decide +kernel
theorem dX2_reset_67 : decode prog_4_method_2_code 67 = .ok (.iconst 2, 1) := by decide +kernel
theorem dX2_reset_68 : decode prog_4_method_2_code 68 = .ok (.if_icmp .ge 18, 3) := by decide +kernel
theorem dX2_reset_71 : decode prog_4_method_2_code 71 = .ok (.aload_n 0, 1) := by decide +kernel
theorem dX2_reset_72 : decode prog_4_method_2_code 72 = .ok (.getfield 33, 3) := by decide +kernel
theorem dX2_reset_75 : decode prog_4_method_2_code 75 = .ok (.iload_n 3, 1) := by decide +kernel
theorem dX2_reset_76 : decode prog_4_method_2_code 76 = .ok (.aaload, 1) := by decide +kernel
theorem dX2_reset_77 : decode prog_4_method_2_code 77 = .ok (.invokevirtual 83, 3) := by decide +kernel
theorem dX2_reset_80 : decode prog_4_method_2_code 80 = .ok (.iinc 3 1, 3) := by decide +kernel
theorem dX2_reset_83 : decode prog_4_method_2_code 83 = .ok (.goto (-17), 3) := by decide +kernel
theorem dX2_reset_86 : decode prog_4_method_2_code 86 = .ok (.iconst 0, 1) := by decide +kernel
theorem dX2_reset_87 : decode prog_4_method_2_code 87 = .ok (.istore_n 3, 1) := by decide +kernel
theorem dX2_reset_88 : decode prog_4_method_2_code 88 = .ok (.iload_n 3, 1) := by decide +kernel
theorem dX2_reset_89 : decode prog_4_method_2_code 89 = .ok (.iconst 3, 1) := by decide +kernel
theorem dX2_reset_90 : decode prog_4_method_2_code 90 = .ok (.if_icmp .ge 18, 3) := by decide +kernel
theorem dX2_reset_93 : decode prog_4_method_2_code 93 = .ok (.aload_n 0, 1) := by decide +kernel
theorem dX2_reset_94 : decode prog_4_method_2_code 94 = .ok (.getfield 40, 3) := by decide +kernel
theorem dX2_reset_97 : decode prog_4_method_2_code 97 = .ok (.iload_n 3, 1) := by decide +kernel
theorem dX2_reset_98 : decode prog_4_method_2_code 98 = .ok (.aaload, 1) := by decide +kernel
theorem dX2_reset_99 : decode prog_4_method_2_code 99 = .ok (.invokevirtual 86, 3) := by decide +kernel
theorem dX2_reset_102 : decode prog_4_method_2_code 102 = .ok (.iinc 3 1, 3) := by decide +kernel
theorem dX2_reset_105 : decode prog_4_method_2_code 105 = .ok (.goto (-17), 3) := by decide +kernel
theorem dX2_reset_108 : decode prog_4_method_2_code 108 = .ok (.return_, 1) := by decide +kernel
theorem dX2_beginFirst_0 : decode prog_4_method_3_code 0 = .ok (.aload_n 0, 1) := by decide +kernel
theorem dX2_beginFirst_1 : decode prog_4_method_3_code 1 = .ok (.getfield 24, 3) := by decide +kernel
theorem dX2_beginFirst_4 : decode prog_4_method_3_code 4 = .ok (.iconst 0, 1) := by decide +kernel
theorem dX2_beginFirst_5 : decode prog_4_method_3_code 5 = .ok (.aaload, 1) := by decide +kernel
theorem dX2_beginFirst_6 : decode prog_4_method_3_code 6 = .ok (.iload_n 1, 1) := by decide +kernel
theorem dX2_beginFirst_7 : decode prog_4_method_3_code 7 = .ok (.iload_n 2, 1) := by decide +kernel
theorem dX2_beginFirst_8 : decode prog_4_method_3_code 8 = .ok (.aload_n 0, 1) := by decide +kernel
theorem dX2_beginFirst_9 : decode prog_4_method_3_code 9 = .ok (.getfield 18, 3) := by decide +kernel
theorem dX2_beginFirst_12 : decode prog_4_method_3_code 12 = .ok (.invokevirtual 87, 3) := by decide +kernel
theorem dX2_beginFirst_15 : decode prog_4_method_3_code 15 = .ok (.aload_n 0, 1) := by decide +kernel
theorem dX2_beginFirst_16 : decode prog_4_method_3_code 16 = .ok (.iconst 1, 1) := by decide +kernel
theorem dX2_beginFirst_17 : decode prog_4_method_3_code 17 = .ok (.putfield 64, 3) := by decide +kernel
theorem dX2_beginFirst_20 : decode prog_4_method_3_code 20 = .ok (.aload_n 0, 1) := by decide +kernel
theorem dX2_beginFirst_21 : decode prog_4_method_3_code 21 = .ok (.getfield 18, 3) := by decide +kernel
theorem dX2_beginFirst_24 : decode prog_4_method_3_code 24 = .ok (.iconst 1, 1) := by decide +kernel
theorem dX2_beginFirst_25 : decode prog_4_method_3_code 25 = .ok (.putfield 90, 3) := by decide +kernel
theorem dX2_beginFirst_28 : decode prog_4_method_3_code 28 = .ok (.aload_n 0, 1) := by decide +kernel
theorem dX2_beginFirst_29 : decode prog_4_method_3_code 29 = .ok (.getfield 40, 3) := by decide +kernel
theorem dX2_beginFirst_32 : decode prog_4_method_3_code 32 = .ok (.iconst 0, 1) := by decide +kernel
theorem dX2_beginFirst_33 : decode prog_4_method_3_code 33 = .ok (.aaload, 1) := by decide +kernel
theorem dX2_beginFirst_34 : decode prog_4_method_3_code 34 = .ok (.iconst 0, 1) := by decide +kernel
theorem dX2_beginFirst_35 : decode prog_4_method_3_code 35 = .ok (.invokevirtual 93, 3) := by decide +kernel
theorem dX2_beginFirst_38 : decode prog_4_method_3_code 38 = .ok (.return_, 1) := by decide +kernel
theorem dX2_isBegun_0 : decode prog_4_method_4_code 0 = .ok (.aload_n 0, 1) := by decide +kernel
theorem dX2_isBegun_1 : decode prog_4_method_4_code 1 = .ok (.getfield 64, 3) := by decide +kernel
theorem dX2_isBegun_4 : decode prog_4_method_4_code 4 = .ok (.ifCond .le 7, 3) := by decide +kernel
theorem dX2_isBegun_7 : decode prog_4_method_4_code 7 = .ok (.iconst 1, 1) := by decide +kernel
theorem dX2_isBegun_8 : decode prog_4_method_4_code 8 = .ok (.goto 4, 3) := by decide +kernel
theorem dX2_isBegun_11 : decode prog_4_method_4_code 11 = .ok (.iconst 0, 1) := by decide +kernel
theorem dX2_isBegun_12 : decode prog_4_method_4_code 12 = .ok (.ireturn, 1) := by decide +kernel
theorem dX2_isOver_0 : decode prog_4_method_5_code 0 = .ok (.aload_n 0, 1) := by decide +kernel
theorem dX2_isOver_1 : decode prog_4_method_5_code 1 = .ok (.invokevirtual 97, 3) := by decide +kernel
theorem dX2_isOver_4 : decode prog_4_method_5_code 4 = .ok (.ifCond .eq 17, 3) := by decide +kernel
theorem dX2_isOver_7 : decode prog_4_method_5_code 7 = .ok (.aload_n 0, 1) := by decide +kernel
theorem dX2_isOver_8 : decode prog_4_method_5_code 8 = .ok (.getfield 18, 3) := by decide +kernel
theorem dX2_isOver_11 : decode prog_4_method_5_code 11 = .ok (.getfield 90, 3) := by decide +kernel
theorem dX2_isOver_14 : decode prog_4_method_5_code 14 = .ok (.ifCond .ne 7, 3) := by decide +kernel
theorem dX2_isOver_17 : decode prog_4_method_5_code 17 = .ok (.iconst 1, 1) := by decide +kernel
theorem dX2_isOver_18 : decode prog_4_method_5_code 18 = .ok (.goto 4, 3) := by decide +kernel
theorem dX2_isOver_21 : decode prog_4_method_5_code 21 = .ok (.iconst 0, 1) := by decide +kernel
theorem dX2_isOver_22 : decode prog_4_method_5_code 22 = .ok (.ireturn, 1) := by decide +kernel
theorem dX2_isStuck_0 : decode prog_4_method_6_code 0 = .ok (.iconst 0, 1) := by decide +kernel
theorem dX2_isStuck_1 : decode prog_4_method_6_code 1 = .ok (.istore_n 1, 1) := by decide +kernel
theorem dX2_isStuck_2 : decode prog_4_method_6_code 2 = .ok (.iload_n 1, 1) := by decide +kernel
theorem dX2_isStuck_3 : decode prog_4_method_6_code 3 = .ok (.aload_n 0, 1) := by decide +kernel
theorem dX2_isStuck_4 : decode prog_4_method_6_code 4 = .ok (.getfield 56, 3) := by decide +kernel
theorem dX2_isStuck_7 : decode prog_4_method_6_code 7 = .ok (.if_icmp .ge 36, 3) := by decide +kernel
theorem dX2_isStuck_10 : decode prog_4_method_6_code 10 = .ok (.aload_n 0, 1) := by decide +kernel
theorem dX2_isStuck_11 : decode prog_4_method_6_code 11 = .ok (.getfield 40, 3) := by decide +kernel
theorem dX2_isStuck_14 : decode prog_4_method_6_code 14 = .ok (.iload_n 1, 1) := by decide +kernel
theorem dX2_isStuck_15 : decode prog_4_method_6_code 15 = .ok (.aaload, 1) := by decide +kernel
theorem dX2_isStuck_16 : decode prog_4_method_6_code 16 = .ok (.getfield 101, 3) := by decide +kernel
theorem dX2_isStuck_19 : decode prog_4_method_6_code 19 = .ok (.iconst (-1), 1) := by decide +kernel
theorem dX2_isStuck_20 : decode prog_4_method_6_code 20 = .ok (.if_icmp .ne 15, 3) := by decide +kernel
theorem dX2_isStuck_23 : decode prog_4_method_6_code 23 = .ok (.aload_n 0, 1) := by decide +kernel
theorem dX2_isStuck_24 : decode prog_4_method_6_code 24 = .ok (.getfield 40, 3) := by decide +kernel
theorem dX2_isStuck_27 : decode prog_4_method_6_code 27 = .ok (.iload_n 1, 1) := by decide +kernel
theorem dX2_isStuck_28 : decode prog_4_method_6_code 28 = .ok (.aaload, 1) := by decide +kernel
theorem dX2_isStuck_29 : decode prog_4_method_6_code 29 = .ok (.getfield 104, 3) := by decide +kernel
theorem dX2_isStuck_32 : decode prog_4_method_6_code 32 = .ok (.ifCond .le 5, 3) := by decide +kernel
theorem dX2_isStuck_35 : decode prog_4_method_6_code 35 = .ok (.iconst 0, 1) := by decide +kernel
theorem dX2_isStuck_36 : decode prog_4_method_6_code 36 = .ok (.ireturn, 1) := by decide +kernel
theorem dX2_isStuck_37 : decode prog_4_method_6_code 37 = .ok (.iinc 1 1, 3) := by decide +kernel
theorem dX2_isStuck_40 : decode prog_4_method_6_code 40 = .ok (.goto (-38), 3) := by decide +kernel
theorem dX2_isStuck_43 : decode prog_4_method_6_code 43 = .ok (.aload_n 0, 1) := by decide +kernel
theorem dX2_isStuck_44 : decode prog_4_method_6_code 44 = .ok (.invokevirtual 97, 3) := by decide +kernel
theorem dX2_isStuck_47 : decode prog_4_method_6_code 47 = .ok (.ifCond .eq 14, 3) := by decide +kernel
theorem dX2_isStuck_50 : decode prog_4_method_6_code 50 = .ok (.aload_n 0, 1) := by decide +kernel
theorem dX2_isStuck_51 : decode prog_4_method_6_code 51 = .ok (.invokevirtual 107, 3) := by decide +kernel
theorem dX2_isStuck_54 : decode prog_4_method_6_code 54 = .ok (.ifCond .ne 7, 3) := by decide +kernel
theorem dX2_isStuck_57 : decode prog_4_method_6_code 57 = .ok (.iconst 1, 1) := by decide +kernel
theorem dX2_isStuck_58 : decode prog_4_method_6_code 58 = .ok (.goto 4, 3) := by decide +kernel
theorem dX2_isStuck_61 : decode prog_4_method_6_code 61 = .ok (.iconst 0, 1) := by decide +kernel
theorem dX2_isStuck_62 : decode prog_4_method_6_code 62 = .ok (.ireturn, 1) := by decide +kernel
theorem dX2_tick_0 : decode prog_4_method_7_code 0 = .ok (.iconst 0, 1) := by decide +kernel
theorem dX2_tick_1 : decode prog_4_method_7_code 1 = .ok (.istore_n 1, 1) := by decide +kernel
theorem dX2_tick_2 : decode prog_4_method_7_code 2 = .ok (.iload_n 1, 1) := by decide +kernel
theorem dX2_tick_3 : decode prog_4_method_7_code 3 = .ok (.aload_n 0, 1) := by decide +kernel
theorem dX2_tick_4 : decode prog_4_method_7_code 4 = .ok (.getfield 56, 3) := by decide +kernel
theorem dX2_tick_7 : decode prog_4_method_7_code 7 = .ok (.if_icmp .ge 40, 3) := by decide +kernel
theorem dX2_tick_10 : decode prog_4_method_7_code 10 = .ok (.aload_n 0, 1) := by decide +kernel
theorem dX2_tick_11 : decode prog_4_method_7_code 11 = .ok (.getfield 40, 3) := by decide +kernel
theorem dX2_tick_14 : decode prog_4_method_7_code 14 = .ok (.iload_n 1, 1) := by decide +kernel
theorem dX2_tick_15 : decode prog_4_method_7_code 15 = .ok (.aaload, 1) := by decide +kernel
theorem dX2_tick_16 : decode prog_4_method_7_code 16 = .ok (.getfield 101, 3) := by decide +kernel
theorem dX2_tick_19 : decode prog_4_method_7_code 19 = .ok (.iconst (-1), 1) := by decide +kernel
theorem dX2_tick_20 : decode prog_4_method_7_code 20 = .ok (.if_icmp .ne 11, 3) := by decide +kernel
theorem dX2_tick_23 : decode prog_4_method_7_code 23 = .ok (.aload_n 0, 1) := by decide +kernel
theorem dX2_tick_24 : decode prog_4_method_7_code 24 = .ok (.iload_n 1, 1) := by decide +kernel
theorem dX2_tick_25 : decode prog_4_method_7_code 25 = .ok (.invokevirtual 110, 3) := by decide +kernel
theorem dX2_tick_28 : decode prog_4_method_7_code 28 = .ok (.goto 13, 3) := by decide +kernel
theorem dX2_tick_31 : decode prog_4_method_7_code 31 = .ok (.aload_n 0, 1) := by decide +kernel
theorem dX2_tick_32 : decode prog_4_method_7_code 32 = .ok (.aload_n 0, 1) := by decide +kernel
theorem dX2_tick_33 : decode prog_4_method_7_code 33 = .ok (.getfield 40, 3) := by decide +kernel
theorem dX2_tick_36 : decode prog_4_method_7_code 36 = .ok (.iload_n 1, 1) := by decide +kernel
theorem dX2_tick_37 : decode prog_4_method_7_code 37 = .ok (.aaload, 1) := by decide +kernel
theorem dX2_tick_38 : decode prog_4_method_7_code 38 = .ok (.invokevirtual 113, 3) := by decide +kernel
theorem dX2_tick_41 : decode prog_4_method_7_code 41 = .ok (.iinc 1 1, 3) := by decide +kernel
theorem dX2_tick_44 : decode prog_4_method_7_code 44 = .ok (.goto (-42), 3) := by decide +kernel
theorem dX2_tick_47 : decode prog_4_method_7_code 47 = .ok (.aload_n 0, 1) := by decide +kernel
theorem dX2_tick_48 : decode prog_4_method_7_code 48 = .ok (.dup, 1) := by decide +kernel
theorem dX2_tick_49 : decode prog_4_method_7_code 49 = .ok (.getfield 70, 3) := by decide +kernel
theorem dX2_tick_52 : decode prog_4_method_7_code 52 = .ok (.iconst 1, 1) := by decide +kernel
theorem dX2_tick_53 : decode prog_4_method_7_code 53 = .ok (.iadd, 1) := by decide +kernel
theorem dX2_tick_54 : decode prog_4_method_7_code 54 = .ok (.putfield 70, 3) := by decide +kernel
theorem dX2_tick_57 : decode prog_4_method_7_code 57 = .ok (.return_, 1) := by decide +kernel
theorem dX2_takeOne_0 : decode prog_4_method_8_code 0 = .ok (.aload_n 0, 1) := by decide +kernel
theorem dX2_takeOne_1 : decode prog_4_method_8_code 1 = .ok (.getfield 40, 3) := by decide +kernel
theorem dX2_takeOne_4 : decode prog_4_method_8_code 4 = .ok (.iload_n 1, 1) := by decide +kernel
theorem dX2_takeOne_5 : decode prog_4_method_8_code 5 = .ok (.aaload, 1) := by decide +kernel
theorem dX2_takeOne_6 : decode prog_4_method_8_code 6 = .ok (.astore_n 2, 1) := by decide +kernel
theorem dX2_takeOne_7 : decode prog_4_method_8_code 7 = .ok (.aload_n 2, 1) := by decide +kernel
theorem dX2_takeOne_8 : decode prog_4_method_8_code 8 = .ok (.aload_n 2, 1) := by decide +kernel
theorem dX2_takeOne_9 : decode prog_4_method_8_code 9 = .ok (.invokevirtual 117, 3) := by decide +kernel
theorem dX2_takeOne_12 : decode prog_4_method_8_code 12 = .ok (.putfield 101, 3) := by decide +kernel
theorem dX2_takeOne_15 : decode prog_4_method_8_code 15 = .ok (.iconst 1, 1) := by decide +kernel
theorem dX2_takeOne_16 : decode prog_4_method_8_code 16 = .ok (.istore_n 3, 1) := by decide +kernel
theorem dX2_takeOne_17 : decode prog_4_method_8_code 17 = .ok (.iload_n 3, 1) := by decide +kernel
theorem dX2_takeOne_18 : decode prog_4_method_8_code 18 = .ok (.aload_n 0, 1) := by decide +kernel
theorem dX2_takeOne_19 : decode prog_4_method_8_code 19 = .ok (.getfield 56, 3) := by decide +kernel
theorem dX2_takeOne_22 : decode prog_4_method_8_code 22 = .ok (.if_icmp .ge 55, 3) := by decide +kernel
theorem dX2_takeOne_25 : decode prog_4_method_8_code 25 = .ok (.aload_n 2, 1) := by decide +kernel
theorem dX2_takeOne_26 : decode prog_4_method_8_code 26 = .ok (.getfield 101, 3) := by decide +kernel
theorem dX2_takeOne_29 : decode prog_4_method_8_code 29 = .ok (.iconst (-1), 1) := by decide +kernel
theorem dX2_takeOne_30 : decode prog_4_method_8_code 30 = .ok (.if_icmp .ne 47, 3) := by decide +kernel
theorem dX2_takeOne_33 : decode prog_4_method_8_code 33 = .ok (.aload_n 2, 1) := by decide +kernel
theorem dX2_takeOne_34 : decode prog_4_method_8_code 34 = .ok (.aload_n 0, 1) := by decide +kernel
theorem dX2_takeOne_35 : decode prog_4_method_8_code 35 = .ok (.getfield 40, 3) := by decide +kernel
theorem dX2_takeOne_38 : decode prog_4_method_8_code 38 = .ok (.iload_n 1, 1) := by decide +kernel
theorem dX2_takeOne_39 : decode prog_4_method_8_code 39 = .ok (.iload_n 3, 1) := by decide +kernel
theorem dX2_takeOne_40 : decode prog_4_method_8_code 40 = .ok (.iadd, 1) := by decide +kernel
theorem dX2_takeOne_41 : decode prog_4_method_8_code 41 = .ok (.aload_n 0, 1) := by decide +kernel
theorem dX2_takeOne_42 : decode prog_4_method_8_code 42 = .ok (.getfield 56, 3) := by decide +kernel
theorem dX2_takeOne_45 : decode prog_4_method_8_code 45 = .ok (.irem, 1) := by decide +kernel
theorem dX2_takeOne_46 : decode prog_4_method_8_code 46 = .ok (.aaload, 1) := by decide +kernel
theorem dX2_takeOne_47 : decode prog_4_method_8_code 47 = .ok (.invokevirtual 121, 3) := by decide +kernel
theorem dX2_takeOne_50 : decode prog_4_method_8_code 50 = .ok (.putfield 101, 3) := by decide +kernel
theorem dX2_takeOne_53 : decode prog_4_method_8_code 53 = .ok (.aload_n 2, 1) := by decide +kernel
theorem dX2_takeOne_54 : decode prog_4_method_8_code 54 = .ok (.getfield 101, 3) := by decide +kernel
theorem dX2_takeOne_57 : decode prog_4_method_8_code 57 = .ok (.iconst (-1), 1) := by decide +kernel
theorem dX2_takeOne_58 : decode prog_4_method_8_code 58 = .ok (.if_icmp .eq 13, 3) := by decide +kernel
theorem dX2_takeOne_61 : decode prog_4_method_8_code 61 = .ok (.aload_n 0, 1) := by decide +kernel
theorem dX2_takeOne_62 : decode prog_4_method_8_code 62 = .ok (.dup, 1) := by decide +kernel
theorem dX2_takeOne_63 : decode prog_4_method_8_code 63 = .ok (.getfield 76, 3) := by decide +kernel
theorem dX2_takeOne_66 : decode prog_4_method_8_code 66 = .ok (.iconst 1, 1) := by decide +kernel
theorem dX2_takeOne_67 : decode prog_4_method_8_code 67 = .ok (.iadd, 1) := by decide +kernel
theorem dX2_takeOne_68 : decode prog_4_method_8_code 68 = .ok (.putfield 76, 3) := by decide +kernel
theorem dX2_takeOne_71 : decode prog_4_method_8_code 71 = .ok (.iinc 3 1, 3) := by decide +kernel
theorem dX2_takeOne_74 : decode prog_4_method_8_code 74 = .ok (.goto (-57), 3) := by decide +kernel
theorem dX2_takeOne_77 : decode prog_4_method_8_code 77 = .ok (.aload_n 2, 1) := by decide +kernel
theorem dX2_takeOne_78 : decode prog_4_method_8_code 78 = .ok (.getfield 101, 3) := by decide +kernel
theorem dX2_takeOne_81 : decode prog_4_method_8_code 81 = .ok (.iconst (-1), 1) := by decide +kernel
theorem dX2_takeOne_82 : decode prog_4_method_8_code 82 = .ok (.if_icmp .eq 16, 3) := by decide +kernel
theorem dX2_takeOne_85 : decode prog_4_method_8_code 85 = .ok (.aload_n 0, 1) := by decide +kernel
theorem dX2_takeOne_86 : decode prog_4_method_8_code 86 = .ok (.getfield 24, 3) := by decide +kernel
theorem dX2_takeOne_89 : decode prog_4_method_8_code 89 = .ok (.aload_n 2, 1) := by decide +kernel
theorem dX2_takeOne_90 : decode prog_4_method_8_code 90 = .ok (.getfield 101, 3) := by decide +kernel
theorem dX2_takeOne_93 : decode prog_4_method_8_code 93 = .ok (.aaload, 1) := by decide +kernel
theorem dX2_takeOne_94 : decode prog_4_method_8_code 94 = .ok (.iconst 1, 1) := by decide +kernel
theorem dX2_takeOne_95 : decode prog_4_method_8_code 95 = .ok (.putfield 124, 3) := by decide +kernel
theorem dX2_takeOne_98 : decode prog_4_method_8_code 98 = .ok (.return_, 1) := by decide +kernel
theorem dX2_step_0 : decode prog_4_method_9_code 0 = .ok (.aload_n 0, 1) := by decide +kernel
theorem dX2_step_1 : decode prog_4_method_9_code 1 = .ok (.getfield 24, 3) := by decide +kernel
theorem dX2_step_4 : decode prog_4_method_9_code 4 = .ok (.aload_n 1, 1) := by decide +kernel
theorem dX2_step_5 : decode prog_4_method_9_code 5 = .ok (.getfield 101, 3) := by decide +kernel
theorem dX2_step_8 : decode prog_4_method_9_code 8 = .ok (.aaload, 1) := by decide +kernel
theorem dX2_step_9 : decode prog_4_method_9_code 9 = .ok (.astore_n 2, 1) := by decide +kernel
theorem dX2_step_10 : decode prog_4_method_9_code 10 = .ok (.iconst 0, 1) := by decide +kernel
theorem dX2_step_11 : decode prog_4_method_9_code 11 = .ok (.istore_n 3, 1) := by decide +kernel
theorem dX2_step_12 : decode prog_4_method_9_code 12 = .ok (.aload_n 2, 1) := by decide +kernel
theorem dX2_step_13 : decode prog_4_method_9_code 13 = .ok (.getfield 127, 3) := by decide +kernel
theorem dX2_step_16 : decode prog_4_method_9_code 16 = .ok (.ifCond .eq 12, 3) := by decide +kernel
theorem dX2_step_19 : decode prog_4_method_9_code 19 = .ok (.aload_n 0, 1) := by decide +kernel
theorem dX2_step_20 : decode prog_4_method_9_code 20 = .ok (.aload_n 2, 1) := by decide +kernel
theorem dX2_step_21 : decode prog_4_method_9_code 21 = .ok (.invokevirtual 130, 3) := by decide +kernel
theorem dX2_step_24 : decode prog_4_method_9_code 24 = .ok (.istore_n 3, 1) := by decide +kernel
theorem dX2_step_25 : decode prog_4_method_9_code 25 = .ok (.goto 46, 3) := by decide +kernel
theorem dX2_step_28 : decode prog_4_method_9_code 28 = .ok (.aload_n 2, 1) := by decide +kernel
theorem dX2_step_29 : decode prog_4_method_9_code 29 = .ok (.getfield 134, 3) := by decide +kernel
theorem dX2_step_32 : decode prog_4_method_9_code 32 = .ok (.aload_n 0, 1) := by decide +kernel
theorem dX2_step_33 : decode prog_4_method_9_code 33 = .ok (.getfield 9, 3) := by decide +kernel
theorem dX2_step_36 : decode prog_4_method_9_code 36 = .ok (.aload_n 2, 1) := by decide +kernel
theorem dX2_step_37 : decode prog_4_method_9_code 37 = .ok (.getfield 137, 3) := by decide +kernel
theorem dX2_step_40 : decode prog_4_method_9_code 40 = .ok (.aaload, 1) := by decide +kernel
theorem dX2_step_41 : decode prog_4_method_9_code 41 = .ok (.getfield 140, 3) := by decide +kernel
theorem dX2_step_44 : decode prog_4_method_9_code 44 = .ok (.if_icmp .ge 22, 3) := by decide +kernel
theorem dX2_step_47 : decode prog_4_method_9_code 47 = .ok (.aload_n 0, 1) := by decide +kernel
theorem dX2_step_48 : decode prog_4_method_9_code 48 = .ok (.aload_n 1, 1) := by decide +kernel
theorem dX2_step_49 : decode prog_4_method_9_code 49 = .ok (.aload_n 2, 1) := by decide +kernel
theorem dX2_step_50 : decode prog_4_method_9_code 50 = .ok (.aload_n 0, 1) := by decide +kernel
theorem dX2_step_51 : decode prog_4_method_9_code 51 = .ok (.getfield 9, 3) := by decide +kernel
theorem dX2_step_54 : decode prog_4_method_9_code 54 = .ok (.aload_n 2, 1) := by decide +kernel
theorem dX2_step_55 : decode prog_4_method_9_code 55 = .ok (.getfield 137, 3) := by decide +kernel
theorem dX2_step_58 : decode prog_4_method_9_code 58 = .ok (.aaload, 1) := by decide +kernel
theorem dX2_step_59 : decode prog_4_method_9_code 59 = .ok (.invokevirtual 143, 3) := by decide +kernel
theorem dX2_step_62 : decode prog_4_method_9_code 62 = .ok (.istore_n 3, 1) := by decide +kernel
theorem dX2_step_63 : decode prog_4_method_9_code 63 = .ok (.goto 8, 3) := by decide +kernel
theorem dX2_step_66 : decode prog_4_method_9_code 66 = .ok (.aload_n 0, 1) := by decide +kernel
theorem dX2_step_67 : decode prog_4_method_9_code 67 = .ok (.aload_n 2, 1) := by decide +kernel
theorem dX2_step_68 : decode prog_4_method_9_code 68 = .ok (.invokevirtual 147, 3) := by decide +kernel
theorem dX2_step_71 : decode prog_4_method_9_code 71 = .ok (.iload_n 3, 1) := by decide +kernel
theorem dX2_step_72 : decode prog_4_method_9_code 72 = .ok (.ifCond .eq 16, 3) := by decide +kernel
theorem dX2_step_75 : decode prog_4_method_9_code 75 = .ok (.aload_n 2, 1) := by decide +kernel
theorem dX2_step_76 : decode prog_4_method_9_code 76 = .ok (.invokevirtual 151, 3) := by decide +kernel
theorem dX2_step_79 : decode prog_4_method_9_code 79 = .ok (.iload_n 3, 1) := by decide +kernel
theorem dX2_step_80 : decode prog_4_method_9_code 80 = .ok (.invokevirtual 155, 3) := by decide +kernel
theorem dX2_step_83 : decode prog_4_method_9_code 83 = .ok (.aload_n 0, 1) := by decide +kernel
theorem dX2_step_84 : decode prog_4_method_9_code 84 = .ok (.aload_n 2, 1) := by decide +kernel
theorem dX2_step_85 : decode prog_4_method_9_code 85 = .ok (.invokevirtual 147, 3) := by decide +kernel
theorem dX2_step_88 : decode prog_4_method_9_code 88 = .ok (.aload_n 2, 1) := by decide +kernel
theorem dX2_step_89 : decode prog_4_method_9_code 89 = .ok (.getfield 124, 3) := by decide +kernel
theorem dX2_step_92 : decode prog_4_method_9_code 92 = .ok (.iconst 2, 1) := by decide +kernel
theorem dX2_step_93 : decode prog_4_method_9_code 93 = .ok (.if_icmp .eq 11, 3) := by decide +kernel
theorem dX2_step_96 : decode prog_4_method_9_code 96 = .ok (.aload_n 2, 1) := by decide +kernel
theorem dX2_step_97 : decode prog_4_method_9_code 97 = .ok (.getfield 124, 3) := by decide +kernel
theorem dX2_step_100 : decode prog_4_method_9_code 100 = .ok (.iconst 3, 1) := by decide +kernel
theorem dX2_step_101 : decode prog_4_method_9_code 101 = .ok (.if_icmp .ne 8, 3) := by decide +kernel
theorem dX2_step_104 : decode prog_4_method_9_code 104 = .ok (.aload_n 1, 1) := by decide +kernel
theorem dX2_step_105 : decode prog_4_method_9_code 105 = .ok (.iconst (-1), 1) := by decide +kernel
theorem dX2_step_106 : decode prog_4_method_9_code 106 = .ok (.putfield 101, 3) := by decide +kernel
theorem dX2_step_109 : decode prog_4_method_9_code 109 = .ok (.aload_n 0, 1) := by decide +kernel
theorem dX2_step_110 : decode prog_4_method_9_code 110 = .ok (.aload_n 1, 1) := by decide +kernel
theorem dX2_step_111 : decode prog_4_method_9_code 111 = .ok (.invokevirtual 158, 3) := by decide +kernel
theorem dX2_step_114 : decode prog_4_method_9_code 114 = .ok (.aload_n 0, 1) := by decide +kernel
theorem dX2_step_115 : decode prog_4_method_9_code 115 = .ok (.dup, 1) := by decide +kernel
theorem dX2_step_116 : decode prog_4_method_9_code 116 = .ok (.getfield 73, 3) := by decide +kernel
theorem dX2_step_119 : decode prog_4_method_9_code 119 = .ok (.iconst 1, 1) := by decide +kernel
theorem dX2_step_120 : decode prog_4_method_9_code 120 = .ok (.iadd, 1) := by decide +kernel
theorem dX2_step_121 : decode prog_4_method_9_code 121 = .ok (.putfield 73, 3) := by decide +kernel
theorem dX2_step_124 : decode prog_4_method_9_code 124 = .ok (.return_, 1) := by decide +kernel
theorem dX2_finishWait_0 : decode prog_4_method_10_code 0 = .ok (.aload_n 1, 1) := by decide +kernel
theorem dX2_finishWait_1 : decode prog_4_method_10_code 1 = .ok (.getfield 127, 3) := by decide +kernel
theorem dX2_finishWait_4 : decode prog_4_method_10_code 4 = .ok (.lookupswitch 44 #[(1, 28), (2, 38)], 28) := by decide +kernel
theorem dX2_finishWait_32 : decode prog_4_method_10_code 32 = .ok (.aload_n 0, 1) := by decide +kernel
theorem dX2_finishWait_33 : decode prog_4_method_10_code 33 = .ok (.aload_n 1, 1) := by decide +kernel
theorem dX2_finishWait_34 : decode prog_4_method_10_code 34 = .ok (.aload_n 1, 1) := by decide +kernel
theorem dX2_finishWait_35 : decode prog_4_method_10_code 35 = .ok (.getfield 161, 3) := by decide +kernel
theorem dX2_finishWait_38 : decode prog_4_method_10_code 38 = .ok (.invokevirtual 164, 3) := by decide +kernel
theorem dX2_finishWait_41 : decode prog_4_method_10_code 41 = .ok (.ireturn, 1) := by decide +kernel
theorem dX2_finishWait_42 : decode prog_4_method_10_code 42 = .ok (.aload_n 0, 1) := by decide +kernel
theorem dX2_finishWait_43 : decode prog_4_method_10_code 43 = .ok (.aload_n 1, 1) := by decide +kernel
theorem dX2_finishWait_44 : decode prog_4_method_10_code 44 = .ok (.invokevirtual 168, 3) := by decide +kernel
theorem dX2_finishWait_47 : decode prog_4_method_10_code 47 = .ok (.ireturn, 1) := by decide +kernel
theorem dX2_finishWait_48 : decode prog_4_method_10_code 48 = .ok (.aload_n 0, 1) := by decide +kernel
theorem dX2_finishWait_49 : decode prog_4_method_10_code 49 = .ok (.aload_n 1, 1) := by decide +kernel
theorem dX2_finishWait_50 : decode prog_4_method_10_code 50 = .ok (.invokevirtual 171, 3) := by decide +kernel
theorem dX2_finishWait_53 : decode prog_4_method_10_code 53 = .ok (.ireturn, 1) := by decide +kernel
theorem dX2_instruct_0 : decode prog_4_method_11_code 0 = .ok (.aload_n 3, 1) := by decide +kernel
theorem dX2_instruct_1 : decode prog_4_method_11_code 1 = .ok (.getfield 174, 3) := by decide +kernel
theorem dX2_instruct_4 : decode prog_4_method_11_code 4 = .ok (.aload_n 2, 1) := by decide +kernel
theorem dX2_instruct_5 : decode prog_4_method_11_code 5 = .ok (.getfield 134, 3) := by decide +kernel
theorem dX2_instruct_8 : decode prog_4_method_11_code 8 = .ok (.iaload, 1) := by decide +kernel
theorem dX2_instruct_9 : decode prog_4_method_11_code 9 = .ok (.istore 4, 2) := by decide +kernel
theorem dX2_instruct_11 : decode prog_4_method_11_code 11 = .ok (.aload_n 2, 1) := by decide +kernel
theorem dX2_instruct_12 : decode prog_4_method_11_code 12 = .ok (.getfield 134, 3) := by decide +kernel
theorem dX2_instruct_15 : decode prog_4_method_11_code 15 = .ok (.iconst 1, 1) := by decide +kernel
theorem dX2_instruct_16 : decode prog_4_method_11_code 16 = .ok (.iadd, 1) := by decide +kernel
theorem dX2_instruct_17 : decode prog_4_method_11_code 17 = .ok (.istore 5, 2) := by decide +kernel
theorem dX2_instruct_19 : decode prog_4_method_11_code 19 = .ok (.iconst 0, 1) := by decide +kernel
theorem dX2_instruct_20 : decode prog_4_method_11_code 20 = .ok (.istore 6, 2) := by decide +kernel
theorem dX2_instruct_22 : decode prog_4_method_11_code 22 = .ok (.aload_n 3, 1) := by decide +kernel
theorem dX2_instruct_23 : decode prog_4_method_11_code 23 = .ok (.getfield 177, 3) := by decide +kernel
theorem dX2_instruct_26 : decode prog_4_method_11_code 26 = .ok (.aload_n 2, 1) := by decide +kernel
theorem dX2_instruct_27 : decode prog_4_method_11_code 27 = .ok (.getfield 134, 3) := by decide +kernel
theorem dX2_instruct_30 : decode prog_4_method_11_code 30 = .ok (.iaload, 1) := by decide +kernel
theorem dX2_instruct_31 : decode prog_4_method_11_code 31 = .ok (.tableswitch 300 0 16 #[81, 95, 109, 123, 137, 155, 161, 175, 190, 198, 216, 239, 256, 267, 270, 281, 300], 81) := by decide +kernel
theorem dX2_instruct_112 : decode prog_4_method_11_code 112 = .ok (.aload_n 2, 1) := by decide +kernel
theorem dX2_instruct_113 : decode prog_4_method_11_code 113 = .ok (.dup, 1) := by decide +kernel
theorem dX2_instruct_114 : decode prog_4_method_11_code 114 = .ok (.getfield 180, 3) := by decide +kernel
theorem dX2_instruct_117 : decode prog_4_method_11_code 117 = .ok (.iload 4, 2) := by decide +kernel
theorem dX2_instruct_119 : decode prog_4_method_11_code 119 = .ok (.iadd, 1) := by decide +kernel
theorem dX2_instruct_120 : decode prog_4_method_11_code 120 = .ok (.putfield 180, 3) := by decide +kernel
theorem dX2_instruct_123 : decode prog_4_method_11_code 123 = .ok (.goto 212, 3) := by decide +kernel
theorem dX2_instruct_126 : decode prog_4_method_11_code 126 = .ok (.aload_n 2, 1) := by decide +kernel
theorem dX2_instruct_127 : decode prog_4_method_11_code 127 = .ok (.dup, 1) := by decide +kernel
theorem dX2_instruct_128 : decode prog_4_method_11_code 128 = .ok (.getfield 180, 3) := by decide +kernel
theorem dX2_instruct_131 : decode prog_4_method_11_code 131 = .ok (.iload 4, 2) := by decide +kernel
theorem dX2_instruct_133 : decode prog_4_method_11_code 133 = .ok (.imul, 1) := by decide +kernel
theorem dX2_instruct_134 : decode prog_4_method_11_code 134 = .ok (.putfield 180, 3) := by decide +kernel
theorem dX2_instruct_137 : decode prog_4_method_11_code 137 = .ok (.goto 198, 3) := by decide +kernel
theorem dX2_instruct_140 : decode prog_4_method_11_code 140 = .ok (.aload_n 0, 1) := by decide +kernel
theorem dX2_instruct_141 : decode prog_4_method_11_code 141 = .ok (.aload_n 1, 1) := by decide +kernel
theorem dX2_instruct_142 : decode prog_4_method_11_code 142 = .ok (.aload_n 2, 1) := by decide +kernel
theorem dX2_instruct_143 : decode prog_4_method_11_code 143 = .ok (.iload 4, 2) := by decide +kernel
theorem dX2_instruct_145 : decode prog_4_method_11_code 145 = .ok (.iconst 0, 1) := by decide +kernel
theorem dX2_instruct_146 : decode prog_4_method_11_code 146 = .ok (.invokevirtual 183, 3) := by decide +kernel
theorem dX2_instruct_149 : decode prog_4_method_11_code 149 = .ok (.istore 6, 2) := by decide +kernel
theorem dX2_instruct_151 : decode prog_4_method_11_code 151 = .ok (.goto 184, 3) := by decide +kernel
theorem dX2_instruct_154 : decode prog_4_method_11_code 154 = .ok (.aload_n 0, 1) := by decide +kernel
theorem dX2_instruct_155 : decode prog_4_method_11_code 155 = .ok (.aload_n 1, 1) := by decide +kernel
theorem dX2_instruct_156 : decode prog_4_method_11_code 156 = .ok (.aload_n 2, 1) := by decide +kernel
theorem dX2_instruct_157 : decode prog_4_method_11_code 157 = .ok (.iload 4, 2) := by decide +kernel
theorem dX2_instruct_159 : decode prog_4_method_11_code 159 = .ok (.iconst 1, 1) := by decide +kernel
theorem dX2_instruct_160 : decode prog_4_method_11_code 160 = .ok (.invokevirtual 183, 3) := by decide +kernel
theorem dX2_instruct_163 : decode prog_4_method_11_code 163 = .ok (.istore 6, 2) := by decide +kernel
theorem dX2_instruct_165 : decode prog_4_method_11_code 165 = .ok (.goto 170, 3) := by decide +kernel
theorem dX2_instruct_168 : decode prog_4_method_11_code 168 = .ok (.aload_n 0, 1) := by decide +kernel
theorem dX2_instruct_169 : decode prog_4_method_11_code 169 = .ok (.aload_n 2, 1) := by decide +kernel
theorem dX2_instruct_170 : decode prog_4_method_11_code 170 = .ok (.iload 4, 2) := by decide +kernel
theorem dX2_instruct_172 : decode prog_4_method_11_code 172 = .ok (.iconst 4, 1) := by decide +kernel
theorem dX2_instruct_173 : decode prog_4_method_11_code 173 = .ok (.irem, 1) := by decide +kernel
theorem dX2_instruct_174 : decode prog_4_method_11_code 174 = .ok (.iload 4, 2) := by decide +kernel
theorem dX2_instruct_176 : decode prog_4_method_11_code 176 = .ok (.iconst 4, 1) := by decide +kernel
theorem dX2_instruct_177 : decode prog_4_method_11_code 177 = .ok (.idiv, 1) := by decide +kernel
theorem dX2_instruct_178 : decode prog_4_method_11_code 178 = .ok (.invokevirtual 187, 3) := by decide +kernel
theorem dX2_instruct_181 : decode prog_4_method_11_code 181 = .ok (.istore 6, 2) := by decide +kernel
theorem dX2_instruct_183 : decode prog_4_method_11_code 183 = .ok (.goto 152, 3) := by decide +kernel
theorem dX2_instruct_186 : decode prog_4_method_11_code 186 = .ok (.aload_n 0, 1) := by decide +kernel
theorem dX2_instruct_187 : decode prog_4_method_11_code 187 = .ok (.aload_n 2, 1) := by decide +kernel
theorem dX2_instruct_188 : decode prog_4_method_11_code 188 = .ok (.invokevirtual 191, 3) := by decide +kernel
theorem dX2_instruct_191 : decode prog_4_method_11_code 191 = .ok (.ireturn, 1) := by decide +kernel
theorem dX2_instruct_192 : decode prog_4_method_11_code 192 = .ok (.aload_n 2, 1) := by decide +kernel
theorem dX2_instruct_193 : decode prog_4_method_11_code 193 = .ok (.invokevirtual 151, 3) := by decide +kernel
theorem dX2_instruct_196 : decode prog_4_method_11_code 196 = .ok (.aload_n 2, 1) := by decide +kernel
theorem dX2_instruct_197 : decode prog_4_method_11_code 197 = .ok (.getfield 180, 3) := by decide +kernel
theorem dX2_instruct_200 : decode prog_4_method_11_code 200 = .ok (.invokevirtual 194, 3) := by decide +kernel
theorem dX2_instruct_203 : decode prog_4_method_11_code 203 = .ok (.goto 132, 3) := by decide +kernel
theorem dX2_instruct_206 : decode prog_4_method_11_code 206 = .ok (.aload_n 0, 1) := by decide +kernel
theorem dX2_instruct_207 : decode prog_4_method_11_code 207 = .ok (.iload 4, 2) := by decide +kernel
theorem dX2_instruct_209 : decode prog_4_method_11_code 209 = .ok (.aload_n 2, 1) := by decide +kernel
theorem dX2_instruct_210 : decode prog_4_method_11_code 210 = .ok (.getfield 180, 3) := by decide +kernel
theorem dX2_instruct_213 : decode prog_4_method_11_code 213 = .ok (.invokevirtual 197, 3) := by decide +kernel
theorem dX2_instruct_216 : decode prog_4_method_11_code 216 = .ok (.istore 6, 2) := by decide +kernel
theorem dX2_instruct_218 : decode prog_4_method_11_code 218 = .ok (.goto 117, 3) := by decide +kernel
theorem dX2_instruct_221 : decode prog_4_method_11_code 221 = .ok (.aload_n 0, 1) := by decide +kernel
theorem dX2_instruct_222 : decode prog_4_method_11_code 222 = .ok (.aload_n 2, 1) := by decide +kernel
theorem dX2_instruct_223 : decode prog_4_method_11_code 223 = .ok (.iload 4, 2) := by decide +kernel
theorem dX2_instruct_225 : decode prog_4_method_11_code 225 = .ok (.invokevirtual 164, 3) := by decide +kernel
theorem dX2_instruct_228 : decode prog_4_method_11_code 228 = .ok (.ireturn, 1) := by decide +kernel
theorem dX2_instruct_229 : decode prog_4_method_11_code 229 = .ok (.aload_n 0, 1) := by decide +kernel
theorem dX2_instruct_230 : decode prog_4_method_11_code 230 = .ok (.aload_n 2, 1) := by decide +kernel
theorem dX2_instruct_231 : decode prog_4_method_11_code 231 = .ok (.iload 4, 2) := by decide +kernel
theorem dX2_instruct_233 : decode prog_4_method_11_code 233 = .ok (.iconst 4, 1) := by decide +kernel
theorem dX2_instruct_234 : decode prog_4_method_11_code 234 = .ok (.idiv, 1) := by decide +kernel
theorem dX2_instruct_235 : decode prog_4_method_11_code 235 = .ok (.iload 4, 2) := by decide +kernel
theorem dX2_instruct_237 : decode prog_4_method_11_code 237 = .ok (.iconst 4, 1) := by decide +kernel
theorem dX2_instruct_238 : decode prog_4_method_11_code 238 = .ok (.irem, 1) := by decide +kernel
theorem dX2_instruct_239 : decode prog_4_method_11_code 239 = .ok (.invokevirtual 201, 3) := by decide +kernel
theorem dX2_instruct_242 : decode prog_4_method_11_code 242 = .ok (.istore 6, 2) := by decide +kernel
theorem dX2_instruct_244 : decode prog_4_method_11_code 244 = .ok (.goto 91, 3) := by decide +kernel
theorem dX2_instruct_247 : decode prog_4_method_11_code 247 = .ok (.aload_n 0, 1) := by decide +kernel
theorem dX2_instruct_248 : decode prog_4_method_11_code 248 = .ok (.aload_n 2, 1) := by decide +kernel
theorem dX2_instruct_249 : decode prog_4_method_11_code 249 = .ok (.aload_n 0, 1) := by decide +kernel
theorem dX2_instruct_250 : decode prog_4_method_11_code 250 = .ok (.getfield 33, 3) := by decide +kernel
theorem dX2_instruct_253 : decode prog_4_method_11_code 253 = .ok (.iload 4, 2) := by decide +kernel
theorem dX2_instruct_255 : decode prog_4_method_11_code 255 = .ok (.iconst 4, 1) := by decide +kernel
theorem dX2_instruct_256 : decode prog_4_method_11_code 256 = .ok (.idiv, 1) := by decide +kernel
theorem dX2_instruct_257 : decode prog_4_method_11_code 257 = .ok (.aaload, 1) := by decide +kernel
theorem dX2_instruct_258 : decode prog_4_method_11_code 258 = .ok (.iload 4, 2) := by decide +kernel
theorem dX2_instruct_260 : decode prog_4_method_11_code 260 = .ok (.iconst 4, 1) := by decide +kernel
theorem dX2_instruct_261 : decode prog_4_method_11_code 261 = .ok (.irem, 1) := by decide +kernel
theorem dX2_instruct_262 : decode prog_4_method_11_code 262 = .ok (.invokevirtual 204, 3) := by decide +kernel
theorem dX2_instruct_265 : decode prog_4_method_11_code 265 = .ok (.istore 6, 2) := by decide +kernel
theorem dX2_instruct_267 : decode prog_4_method_11_code 267 = .ok (.goto 68, 3) := by decide +kernel
theorem dX2_instruct_270 : decode prog_4_method_11_code 270 = .ok (.aload_n 0, 1) := by decide +kernel
theorem dX2_instruct_271 : decode prog_4_method_11_code 271 = .ok (.aload_n 2, 1) := by decide +kernel
theorem dX2_instruct_272 : decode prog_4_method_11_code 272 = .ok (.aload_n 0, 1) := by decide +kernel
theorem dX2_instruct_273 : decode prog_4_method_11_code 273 = .ok (.getfield 33, 3) := by decide +kernel
theorem dX2_instruct_276 : decode prog_4_method_11_code 276 = .ok (.iload 4, 2) := by decide +kernel
theorem dX2_instruct_278 : decode prog_4_method_11_code 278 = .ok (.aaload, 1) := by decide +kernel
theorem dX2_instruct_279 : decode prog_4_method_11_code 279 = .ok (.invokevirtual 208, 3) := by decide +kernel
theorem dX2_instruct_282 : decode prog_4_method_11_code 282 = .ok (.istore 6, 2) := by decide +kernel
theorem dX2_instruct_284 : decode prog_4_method_11_code 284 = .ok (.goto 51, 3) := by decide +kernel
theorem dX2_instruct_287 : decode prog_4_method_11_code 287 = .ok (.aload_n 0, 1) := by decide +kernel
theorem dX2_instruct_288 : decode prog_4_method_11_code 288 = .ok (.aload_n 2, 1) := by decide +kernel
theorem dX2_instruct_289 : decode prog_4_method_11_code 289 = .ok (.invokevirtual 212, 3) := by decide +kernel
theorem dX2_instruct_292 : decode prog_4_method_11_code 292 = .ok (.aload_n 0, 1) := by decide +kernel
theorem dX2_instruct_293 : decode prog_4_method_11_code 293 = .ok (.aload_n 2, 1) := by decide +kernel
theorem dX2_instruct_294 : decode prog_4_method_11_code 294 = .ok (.invokevirtual 168, 3) := by decide +kernel
theorem dX2_instruct_297 : decode prog_4_method_11_code 297 = .ok (.ireturn, 1) := by decide +kernel
theorem dX2_instruct_298 : decode prog_4_method_11_code 298 = .ok (.iload 4, 2) := by decide +kernel
theorem dX2_instruct_300 : decode prog_4_method_11_code 300 = .ok (.ireturn, 1) := by decide +kernel
theorem dX2_instruct_301 : decode prog_4_method_11_code 301 = .ok (.aload_n 0, 1) := by decide +kernel
theorem dX2_instruct_302 : decode prog_4_method_11_code 302 = .ok (.aload_n 2, 1) := by decide +kernel
theorem dX2_instruct_303 : decode prog_4_method_11_code 303 = .ok (.getfield 180, 3) := by decide +kernel
theorem dX2_instruct_306 : decode prog_4_method_11_code 306 = .ok (.invokevirtual 215, 3) := by decide +kernel
theorem dX2_instruct_309 : decode prog_4_method_11_code 309 = .ok (.goto 26, 3) := by decide +kernel
theorem dX2_instruct_312 : decode prog_4_method_11_code 312 = .ok (.aload_n 2, 1) := by decide +kernel
theorem dX2_instruct_313 : decode prog_4_method_11_code 313 = .ok (.getfield 180, 3) := by decide +kernel
theorem dX2_instruct_316 : decode prog_4_method_11_code 316 = .ok (.ifCond .eq 8, 3) := by decide +kernel
theorem dX2_instruct_319 : decode prog_4_method_11_code 319 = .ok (.iload 4, 2) := by decide +kernel
theorem dX2_instruct_321 : decode prog_4_method_11_code 321 = .ok (.goto 5, 3) := by decide +kernel
theorem dX2_instruct_324 : decode prog_4_method_11_code 324 = .ok (.iload 5, 2) := by decide +kernel
theorem dX2_instruct_326 : decode prog_4_method_11_code 326 = .ok (.istore 5, 2) := by decide +kernel
theorem dX2_instruct_328 : decode prog_4_method_11_code 328 = .ok (.goto 7, 3) := by decide +kernel
theorem dX2_instruct_331 : decode prog_4_method_11_code 331 = .ok (.iload 4, 2) := by decide +kernel
theorem dX2_instruct_333 : decode prog_4_method_11_code 333 = .ok (.istore 5, 2) := by decide +kernel
theorem dX2_instruct_335 : decode prog_4_method_11_code 335 = .ok (.aload_n 2, 1) := by decide +kernel
theorem dX2_instruct_336 : decode prog_4_method_11_code 336 = .ok (.iload 6, 2) := by decide +kernel
theorem dX2_instruct_338 : decode prog_4_method_11_code 338 = .ok (.ifCond .ne 8, 3) := by decide +kernel
theorem dX2_instruct_341 : decode prog_4_method_11_code 341 = .ok (.iload 5, 2) := by decide +kernel
theorem dX2_instruct_343 : decode prog_4_method_11_code 343 = .ok (.goto 7, 3) := by decide +kernel
theorem dX2_instruct_346 : decode prog_4_method_11_code 346 = .ok (.aload_n 2, 1) := by decide +kernel
theorem dX2_instruct_347 : decode prog_4_method_11_code 347 = .ok (.getfield 134, 3) := by decide +kernel
theorem dX2_instruct_350 : decode prog_4_method_11_code 350 = .ok (.putfield 134, 3) := by decide +kernel
theorem dX2_instruct_353 : decode prog_4_method_11_code 353 = .ok (.iload 6, 2) := by decide +kernel
theorem dX2_instruct_355 : decode prog_4_method_11_code 355 = .ok (.ireturn, 1) := by decide +kernel
theorem dX2_spawn_0 : decode prog_4_method_12_code 0 = .ok (.aload_n 0, 1) := by decide +kernel
theorem dX2_spawn_1 : decode prog_4_method_12_code 1 = .ok (.getfield 64, 3) := by decide +kernel
theorem dX2_spawn_4 : decode prog_4_method_12_code 4 = .ok (.bipush 48, 2) := by decide +kernel
theorem dX2_spawn_6 : decode prog_4_method_12_code 6 = .ok (.if_icmp .lt 5, 3) := by decide +kernel
theorem dX2_spawn_9 : decode prog_4_method_12_code 9 = .ok (.iconst 1, 1) := by decide +kernel
theorem dX2_spawn_10 : decode prog_4_method_12_code 10 = .ok (.ireturn, 1) := by decide +kernel
theorem dX2_spawn_11 : decode prog_4_method_12_code 11 = .ok (.aload_n 0, 1) := by decide +kernel
theorem dX2_spawn_12 : decode prog_4_method_12_code 12 = .ok (.aload_n 2, 1) := by decide +kernel
theorem dX2_spawn_13 : decode prog_4_method_12_code 13 = .ok (.iload_n 3, 1) := by decide +kernel
theorem dX2_spawn_14 : decode prog_4_method_12_code 14 = .ok (.invokevirtual 218, 3) := by decide +kernel
theorem dX2_spawn_17 : decode prog_4_method_12_code 17 = .ok (.astore 5, 2) := by decide +kernel
theorem dX2_spawn_19 : decode prog_4_method_12_code 19 = .ok (.iload 4, 2) := by decide +kernel
theorem dX2_spawn_21 : decode prog_4_method_12_code 21 = .ok (.ifCond .eq 37, 3) := by decide +kernel
theorem dX2_spawn_24 : decode prog_4_method_12_code 24 = .ok (.iconst 0, 1) := by decide +kernel
theorem dX2_spawn_25 : decode prog_4_method_12_code 25 = .ok (.istore 6, 2) := by decide +kernel
theorem dX2_spawn_27 : decode prog_4_method_12_code 27 = .ok (.iload 6, 2) := by decide +kernel
theorem dX2_spawn_29 : decode prog_4_method_12_code 29 = .ok (.iconst 2, 1) := by decide +kernel
theorem dX2_spawn_30 : decode prog_4_method_12_code 30 = .ok (.if_icmp .ge 28, 3) := by decide +kernel
theorem dX2_spawn_33 : decode prog_4_method_12_code 33 = .ok (.aload_n 0, 1) := by decide +kernel
theorem dX2_spawn_34 : decode prog_4_method_12_code 34 = .ok (.getfield 33, 3) := by decide +kernel
theorem dX2_spawn_37 : decode prog_4_method_12_code 37 = .ok (.iload 6, 2) := by decide +kernel
theorem dX2_spawn_39 : decode prog_4_method_12_code 39 = .ok (.aaload, 1) := by decide +kernel
theorem dX2_spawn_40 : decode prog_4_method_12_code 40 = .ok (.aload_n 2, 1) := by decide +kernel
theorem dX2_spawn_41 : decode prog_4_method_12_code 41 = .ok (.getfield 222, 3) := by decide +kernel
theorem dX2_spawn_44 : decode prog_4_method_12_code 44 = .ok (.aload 5, 2) := by decide +kernel
theorem dX2_spawn_46 : decode prog_4_method_12_code 46 = .ok (.getfield 222, 3) := by decide +kernel
theorem dX2_spawn_49 : decode prog_4_method_12_code 49 = .ok (.invokevirtual 225, 3) := by decide +kernel
theorem dX2_spawn_52 : decode prog_4_method_12_code 52 = .ok (.iinc 6 1, 3) := by decide +kernel
theorem dX2_spawn_55 : decode prog_4_method_12_code 55 = .ok (.goto (-28), 3) := by decide +kernel
theorem dX2_spawn_58 : decode prog_4_method_12_code 58 = .ok (.aload_n 0, 1) := by decide +kernel
theorem dX2_spawn_59 : decode prog_4_method_12_code 59 = .ok (.getfield 60, 3) := by decide +kernel
theorem dX2_spawn_62 : decode prog_4_method_12_code 62 = .ok (.ifCond .eq 34, 3) := by decide +kernel
theorem dX2_spawn_65 : decode prog_4_method_12_code 65 = .ok (.aload 5, 2) := by decide +kernel
theorem dX2_spawn_67 : decode prog_4_method_12_code 67 = .ok (.iconst 1, 1) := by decide +kernel
theorem dX2_spawn_68 : decode prog_4_method_12_code 68 = .ok (.putfield 124, 3) := by decide +kernel
theorem dX2_spawn_71 : decode prog_4_method_12_code 71 = .ok (.aload_n 1, 1) := by decide +kernel
theorem dX2_spawn_72 : decode prog_4_method_12_code 72 = .ok (.aload 5, 2) := by decide +kernel
theorem dX2_spawn_74 : decode prog_4_method_12_code 74 = .ok (.getfield 222, 3) := by decide +kernel
theorem dX2_spawn_77 : decode prog_4_method_12_code 77 = .ok (.putfield 101, 3) := by decide +kernel
theorem dX2_spawn_80 : decode prog_4_method_12_code 80 = .ok (.aload_n 2, 1) := by decide +kernel
theorem dX2_spawn_81 : decode prog_4_method_12_code 81 = .ok (.iconst 0, 1) := by decide +kernel
theorem dX2_spawn_82 : decode prog_4_method_12_code 82 = .ok (.putfield 124, 3) := by decide +kernel
theorem dX2_spawn_85 : decode prog_4_method_12_code 85 = .ok (.aload_n 1, 1) := by decide +kernel
theorem dX2_spawn_86 : decode prog_4_method_12_code 86 = .ok (.aload_n 2, 1) := by decide +kernel
theorem dX2_spawn_87 : decode prog_4_method_12_code 87 = .ok (.getfield 222, 3) := by decide +kernel
theorem dX2_spawn_90 : decode prog_4_method_12_code 90 = .ok (.invokevirtual 93, 3) := by decide +kernel
theorem dX2_spawn_93 : decode prog_4_method_12_code 93 = .ok (.goto 12, 3) := by decide +kernel
theorem dX2_spawn_96 : decode prog_4_method_12_code 96 = .ok (.aload_n 1, 1) := by decide +kernel
theorem dX2_spawn_97 : decode prog_4_method_12_code 97 = .ok (.aload 5, 2) := by decide +kernel
theorem dX2_spawn_99 : decode prog_4_method_12_code 99 = .ok (.getfield 222, 3) := by decide +kernel
theorem dX2_spawn_102 : decode prog_4_method_12_code 102 = .ok (.invokevirtual 93, 3) := by decide +kernel
theorem dX2_spawn_105 : decode prog_4_method_12_code 105 = .ok (.iconst 0, 1) := by decide +kernel
theorem dX2_spawn_106 : decode prog_4_method_12_code 106 = .ok (.ireturn, 1) := by decide +kernel
theorem dX2_spawnWaiting_0 : decode prog_4_method_13_code 0 = .ok (.aload_n 0, 1) := by decide +kernel
theorem dX2_spawnWaiting_1 : decode prog_4_method_13_code 1 = .ok (.getfield 64, 3) := by decide +kernel
theorem dX2_spawnWaiting_4 : decode prog_4_method_13_code 4 = .ok (.bipush 48, 2) := by decide +kernel
theorem dX2_spawnWaiting_6 : decode prog_4_method_13_code 6 = .ok (.if_icmp .lt 5, 3) := by decide +kernel
theorem dX2_spawnWaiting_9 : decode prog_4_method_13_code 9 = .ok (.iconst 1, 1) := by decide +kernel
theorem dX2_spawnWaiting_10 : decode prog_4_method_13_code 10 = .ok (.ireturn, 1) := by decide +kernel
theorem dX2_spawnWaiting_11 : decode prog_4_method_13_code 11 = .ok (.aload_n 0, 1) := by decide +kernel
theorem dX2_spawnWaiting_12 : decode prog_4_method_13_code 12 = .ok (.aload_n 1, 1) := by decide +kernel
theorem dX2_spawnWaiting_13 : decode prog_4_method_13_code 13 = .ok (.iload_n 2, 1) := by decide +kernel
theorem dX2_spawnWaiting_14 : decode prog_4_method_13_code 14 = .ok (.invokevirtual 218, 3) := by decide +kernel
theorem dX2_spawnWaiting_17 : decode prog_4_method_13_code 17 = .ok (.iconst 0, 1) := by decide +kernel
theorem dX2_spawnWaiting_18 : decode prog_4_method_13_code 18 = .ok (.iload_n 3, 1) := by decide +kernel
theorem dX2_spawnWaiting_19 : decode prog_4_method_13_code 19 = .ok (.invokevirtual 228, 3) := by decide +kernel
theorem dX2_spawnWaiting_22 : decode prog_4_method_13_code 22 = .ok (.iconst 0, 1) := by decide +kernel
theorem dX2_spawnWaiting_23 : decode prog_4_method_13_code 23 = .ok (.ireturn, 1) := by decide +kernel
theorem dX2_makeTask_0 : decode prog_4_method_14_code 0 = .ok (.aload_n 0, 1) := by decide +kernel
theorem dX2_makeTask_1 : decode prog_4_method_14_code 1 = .ok (.getfield 24, 3) := by decide +kernel
theorem dX2_makeTask_4 : decode prog_4_method_14_code 4 = .ok (.aload_n 0, 1) := by decide +kernel
theorem dX2_makeTask_5 : decode prog_4_method_14_code 5 = .ok (.getfield 64, 3) := by decide +kernel
theorem dX2_makeTask_8 : decode prog_4_method_14_code 8 = .ok (.aaload, 1) := by decide +kernel
theorem dX2_makeTask_9 : decode prog_4_method_14_code 9 = .ok (.astore_n 3, 1) := by decide +kernel
theorem dX2_makeTask_10 : decode prog_4_method_14_code 10 = .ok (.aload_n 0, 1) := by decide +kernel
theorem dX2_makeTask_11 : decode prog_4_method_14_code 11 = .ok (.dup, 1) := by decide +kernel
theorem dX2_makeTask_12 : decode prog_4_method_14_code 12 = .ok (.getfield 64, 3) := by decide +kernel
theorem dX2_makeTask_15 : decode prog_4_method_14_code 15 = .ok (.iconst 1, 1) := by decide +kernel
theorem dX2_makeTask_16 : decode prog_4_method_14_code 16 = .ok (.iadd, 1) := by decide +kernel
theorem dX2_makeTask_17 : decode prog_4_method_14_code 17 = .ok (.putfield 64, 3) := by decide +kernel
theorem dX2_makeTask_20 : decode prog_4_method_14_code 20 = .ok (.aload_n 1, 1) := by decide +kernel
theorem dX2_makeTask_21 : decode prog_4_method_14_code 21 = .ok (.invokevirtual 151, 3) := by decide +kernel
theorem dX2_makeTask_24 : decode prog_4_method_14_code 24 = .ok (.astore 4, 2) := by decide +kernel
theorem dX2_makeTask_26 : decode prog_4_method_14_code 26 = .ok (.aload_n 3, 1) := by decide +kernel
theorem dX2_makeTask_27 : decode prog_4_method_14_code 27 = .ok (.iload_n 2, 1) := by decide +kernel
theorem dX2_makeTask_28 : decode prog_4_method_14_code 28 = .ok (.aload_n 1, 1) := by decide +kernel
theorem dX2_makeTask_29 : decode prog_4_method_14_code 29 = .ok (.getfield 180, 3) := by decide +kernel
theorem dX2_makeTask_32 : decode prog_4_method_14_code 32 = .ok (.aload 4, 2) := by decide +kernel
theorem dX2_makeTask_34 : decode prog_4_method_14_code 34 = .ok (.invokevirtual 87, 3) := by decide +kernel
theorem dX2_makeTask_37 : decode prog_4_method_14_code 37 = .ok (.aload 4, 2) := by decide +kernel
theorem dX2_makeTask_39 : decode prog_4_method_14_code 39 = .ok (.dup, 1) := by decide +kernel
theorem dX2_makeTask_40 : decode prog_4_method_14_code 40 = .ok (.getfield 90, 3) := by decide +kernel
theorem dX2_makeTask_43 : decode prog_4_method_14_code 43 = .ok (.iconst 1, 1) := by decide +kernel
theorem dX2_makeTask_44 : decode prog_4_method_14_code 44 = .ok (.iadd, 1) := by decide +kernel
theorem dX2_makeTask_45 : decode prog_4_method_14_code 45 = .ok (.putfield 90, 3) := by decide +kernel
theorem dX2_makeTask_48 : decode prog_4_method_14_code 48 = .ok (.aload_n 3, 1) := by decide +kernel
theorem dX2_makeTask_49 : decode prog_4_method_14_code 49 = .ok (.areturn, 1) := by decide +kernel
theorem dX2_openScope_0 : decode prog_4_method_15_code 0 = .ok (.aload_n 1, 1) := by decide +kernel
theorem dX2_openScope_1 : decode prog_4_method_15_code 1 = .ok (.getfield 231, 3) := by decide +kernel
theorem dX2_openScope_4 : decode prog_4_method_15_code 4 = .ok (.iconst 3, 1) := by decide +kernel
theorem dX2_openScope_5 : decode prog_4_method_15_code 5 = .ok (.if_icmp .lt 5, 3) := by decide +kernel
theorem dX2_openScope_8 : decode prog_4_method_15_code 8 = .ok (.iconst 1, 1) := by decide +kernel
theorem dX2_openScope_9 : decode prog_4_method_15_code 9 = .ok (.ireturn, 1) := by decide +kernel
theorem dX2_openScope_10 : decode prog_4_method_15_code 10 = .ok (.aload_n 1, 1) := by decide +kernel
theorem dX2_openScope_11 : decode prog_4_method_15_code 11 = .ok (.getfield 234, 3) := by decide +kernel
theorem dX2_openScope_14 : decode prog_4_method_15_code 14 = .ok (.aload_n 1, 1) := by decide +kernel
theorem dX2_openScope_15 : decode prog_4_method_15_code 15 = .ok (.getfield 231, 3) := by decide +kernel
theorem dX2_openScope_18 : decode prog_4_method_15_code 18 = .ok (.aaload, 1) := by decide +kernel
theorem dX2_openScope_19 : decode prog_4_method_15_code 19 = .ok (.iload_n 2, 1) := by decide +kernel
theorem dX2_openScope_20 : decode prog_4_method_15_code 20 = .ok (.iload_n 3, 1) := by decide +kernel
theorem dX2_openScope_21 : decode prog_4_method_15_code 21 = .ok (.invokevirtual 79, 3) := by decide +kernel
theorem dX2_openScope_24 : decode prog_4_method_15_code 24 = .ok (.aload_n 1, 1) := by decide +kernel
theorem dX2_openScope_25 : decode prog_4_method_15_code 25 = .ok (.dup, 1) := by decide +kernel
theorem dX2_openScope_26 : decode prog_4_method_15_code 26 = .ok (.getfield 231, 3) := by decide +kernel
theorem dX2_openScope_29 : decode prog_4_method_15_code 29 = .ok (.iconst 1, 1) := by decide +kernel
theorem dX2_openScope_30 : decode prog_4_method_15_code 30 = .ok (.iadd, 1) := by decide +kernel
theorem dX2_openScope_31 : decode prog_4_method_15_code 31 = .ok (.putfield 231, 3) := by decide +kernel
theorem dX2_openScope_34 : decode prog_4_method_15_code 34 = .ok (.iconst 0, 1) := by decide +kernel
theorem dX2_openScope_35 : decode prog_4_method_15_code 35 = .ok (.ireturn, 1) := by decide +kernel
theorem dX2_close_0 : decode prog_4_method_16_code 0 = .ok (.aload_n 1, 1) := by decide +kernel
theorem dX2_close_1 : decode prog_4_method_16_code 1 = .ok (.getfield 231, 3) := by decide +kernel
theorem dX2_close_4 : decode prog_4_method_16_code 4 = .ok (.ifCond .ne 5, 3) := by decide +kernel
theorem dX2_close_7 : decode prog_4_method_16_code 7 = .ok (.iconst 4, 1) := by decide +kernel
theorem dX2_close_8 : decode prog_4_method_16_code 8 = .ok (.ireturn, 1) := by decide +kernel
theorem dX2_close_9 : decode prog_4_method_16_code 9 = .ok (.aload_n 1, 1) := by decide +kernel
theorem dX2_close_10 : decode prog_4_method_16_code 10 = .ok (.iconst 3, 1) := by decide +kernel
theorem dX2_close_11 : decode prog_4_method_16_code 11 = .ok (.putfield 127, 3) := by decide +kernel
theorem dX2_close_14 : decode prog_4_method_16_code 14 = .ok (.iconst 0, 1) := by decide +kernel
theorem dX2_close_15 : decode prog_4_method_16_code 15 = .ok (.ireturn, 1) := by decide +kernel
theorem dX2_put_0 : decode prog_4_method_17_code 0 = .ok (.aload_n 0, 1) := by decide +kernel
theorem dX2_put_1 : decode prog_4_method_17_code 1 = .ok (.getfield 49, 3) := by decide +kernel
theorem dX2_put_4 : decode prog_4_method_17_code 4 = .ok (.iload_n 1, 1) := by decide +kernel
theorem dX2_put_5 : decode prog_4_method_17_code 5 = .ok (.baload, 1) := by decide +kernel
theorem dX2_put_6 : decode prog_4_method_17_code 6 = .ok (.ifCond .eq 5, 3) := by decide +kernel
theorem dX2_put_9 : decode prog_4_method_17_code 9 = .ok (.iconst 2, 1) := by decide +kernel
theorem dX2_put_10 : decode prog_4_method_17_code 10 = .ok (.ireturn, 1) := by decide +kernel
theorem dX2_put_11 : decode prog_4_method_17_code 11 = .ok (.aload_n 0, 1) := by decide +kernel
theorem dX2_put_12 : decode prog_4_method_17_code 12 = .ok (.getfield 49, 3) := by decide +kernel
theorem dX2_put_15 : decode prog_4_method_17_code 15 = .ok (.iload_n 1, 1) := by decide +kernel
theorem dX2_put_16 : decode prog_4_method_17_code 16 = .ok (.iconst 1, 1) := by decide +kernel
theorem dX2_put_17 : decode prog_4_method_17_code 17 = .ok (.bastore, 1) := by decide +kernel
theorem dX2_put_18 : decode prog_4_method_17_code 18 = .ok (.aload_n 0, 1) := by decide +kernel
theorem dX2_put_19 : decode prog_4_method_17_code 19 = .ok (.getfield 45, 3) := by decide +kernel
theorem dX2_put_22 : decode prog_4_method_17_code 22 = .ok (.iload_n 1, 1) := by decide +kernel
theorem dX2_put_23 : decode prog_4_method_17_code 23 = .ok (.iload_n 2, 1) := by decide +kernel
theorem dX2_put_24 : decode prog_4_method_17_code 24 = .ok (.iastore, 1) := by decide +kernel
theorem dX2_put_25 : decode prog_4_method_17_code 25 = .ok (.iconst 0, 1) := by decide +kernel
theorem dX2_put_26 : decode prog_4_method_17_code 26 = .ok (.ireturn, 1) := by decide +kernel
theorem dX2_get_0 : decode prog_4_method_18_code 0 = .ok (.aload_n 0, 1) := by decide +kernel
theorem dX2_get_1 : decode prog_4_method_18_code 1 = .ok (.getfield 49, 3) := by decide +kernel
theorem dX2_get_4 : decode prog_4_method_18_code 4 = .ok (.iload_n 2, 1) := by decide +kernel
theorem dX2_get_5 : decode prog_4_method_18_code 5 = .ok (.baload, 1) := by decide +kernel
theorem dX2_get_6 : decode prog_4_method_18_code 6 = .ok (.ifCond .ne 11, 3) := by decide +kernel
theorem dX2_get_9 : decode prog_4_method_18_code 9 = .ok (.aload_n 1, 1) := by decide +kernel
theorem dX2_get_10 : decode prog_4_method_18_code 10 = .ok (.iconst 1, 1) := by decide +kernel
theorem dX2_get_11 : decode prog_4_method_18_code 11 = .ok (.iload_n 2, 1) := by decide +kernel
theorem dX2_get_12 : decode prog_4_method_18_code 12 = .ok (.invokevirtual 228, 3) := by decide +kernel
theorem dX2_get_15 : decode prog_4_method_18_code 15 = .ok (.iconst 0, 1) := by decide +kernel
theorem dX2_get_16 : decode prog_4_method_18_code 16 = .ok (.ireturn, 1) := by decide +kernel
theorem dX2_get_17 : decode prog_4_method_18_code 17 = .ok (.aload_n 1, 1) := by decide +kernel
theorem dX2_get_18 : decode prog_4_method_18_code 18 = .ok (.dup, 1) := by decide +kernel
theorem dX2_get_19 : decode prog_4_method_18_code 19 = .ok (.getfield 180, 3) := by decide +kernel
theorem dX2_get_22 : decode prog_4_method_18_code 22 = .ok (.aload_n 0, 1) := by decide +kernel
theorem dX2_get_23 : decode prog_4_method_18_code 23 = .ok (.getfield 45, 3) := by decide +kernel
theorem dX2_get_26 : decode prog_4_method_18_code 26 = .ok (.iload_n 2, 1) := by decide +kernel
theorem dX2_get_27 : decode prog_4_method_18_code 27 = .ok (.iaload, 1) := by decide +kernel
theorem dX2_get_28 : decode prog_4_method_18_code 28 = .ok (.iadd, 1) := by decide +kernel
theorem dX2_get_29 : decode prog_4_method_18_code 29 = .ok (.putfield 180, 3) := by decide +kernel
theorem dX2_get_32 : decode prog_4_method_18_code 32 = .ok (.aload_n 1, 1) := by decide +kernel
theorem dX2_get_33 : decode prog_4_method_18_code 33 = .ok (.iconst 0, 1) := by decide +kernel
theorem dX2_get_34 : decode prog_4_method_18_code 34 = .ok (.putfield 127, 3) := by decide +kernel
theorem dX2_get_37 : decode prog_4_method_18_code 37 = .ok (.aload_n 1, 1) := by decide +kernel
theorem dX2_get_38 : decode prog_4_method_18_code 38 = .ok (.dup, 1) := by decide +kernel
theorem dX2_get_39 : decode prog_4_method_18_code 39 = .ok (.getfield 134, 3) := by decide +kernel
theorem dX2_get_42 : decode prog_4_method_18_code 42 = .ok (.iconst 1, 1) := by decide +kernel
theorem dX2_get_43 : decode prog_4_method_18_code 43 = .ok (.iadd, 1) := by decide +kernel
theorem dX2_get_44 : decode prog_4_method_18_code 44 = .ok (.putfield 134, 3) := by decide +kernel
theorem dX2_get_47 : decode prog_4_method_18_code 47 = .ok (.iconst 0, 1) := by decide +kernel
theorem dX2_get_48 : decode prog_4_method_18_code 48 = .ok (.ireturn, 1) := by decide +kernel
theorem dX2_join_0 : decode prog_4_method_19_code 0 = .ok (.iload_n 3, 1) := by decide +kernel
theorem dX2_join_1 : decode prog_4_method_19_code 1 = .ok (.ifCond .eq 15, 3) := by decide +kernel
theorem dX2_join_4 : decode prog_4_method_19_code 4 = .ok (.aload_n 2, 1) := by decide +kernel
theorem dX2_join_5 : decode prog_4_method_19_code 5 = .ok (.getfield 238, 3) := by decide +kernel
theorem dX2_join_8 : decode prog_4_method_19_code 8 = .ok (.aload_n 1, 1) := by decide +kernel
theorem dX2_join_9 : decode prog_4_method_19_code 9 = .ok (.getfield 222, 3) := by decide +kernel
theorem dX2_join_12 : decode prog_4_method_19_code 12 = .ok (.iaload, 1) := by decide +kernel
theorem dX2_join_13 : decode prog_4_method_19_code 13 = .ok (.ifCond .eq 5, 3) := by decide +kernel
theorem dX2_join_16 : decode prog_4_method_19_code 16 = .ok (.iconst 3, 1) := by decide +kernel
theorem dX2_join_17 : decode prog_4_method_19_code 17 = .ok (.ireturn, 1) := by decide +kernel
theorem dX2_join_18 : decode prog_4_method_19_code 18 = .ok (.aload_n 2, 1) := by decide +kernel
theorem dX2_join_19 : decode prog_4_method_19_code 19 = .ok (.aload_n 1, 1) := by decide +kernel
theorem dX2_join_20 : decode prog_4_method_19_code 20 = .ok (.getfield 222, 3) := by decide +kernel
theorem dX2_join_23 : decode prog_4_method_19_code 23 = .ok (.iload_n 3, 1) := by decide +kernel
theorem dX2_join_24 : decode prog_4_method_19_code 24 = .ok (.invokevirtual 241, 3) := by decide +kernel
theorem dX2_join_27 : decode prog_4_method_19_code 27 = .ok (.iconst 0, 1) := by decide +kernel
theorem dX2_join_28 : decode prog_4_method_19_code 28 = .ok (.ireturn, 1) := by decide +kernel
theorem dX2_leave_0 : decode prog_4_method_20_code 0 = .ok (.aload_n 2, 1) := by decide +kernel
theorem dX2_leave_1 : decode prog_4_method_20_code 1 = .ok (.getfield 238, 3) := by decide +kernel
theorem dX2_leave_4 : decode prog_4_method_20_code 4 = .ok (.aload_n 1, 1) := by decide +kernel
theorem dX2_leave_5 : decode prog_4_method_20_code 5 = .ok (.getfield 222, 3) := by decide +kernel
theorem dX2_leave_8 : decode prog_4_method_20_code 8 = .ok (.iaload, 1) := by decide +kernel
theorem dX2_leave_9 : decode prog_4_method_20_code 9 = .ok (.ifCond .ne 5, 3) := by decide +kernel
theorem dX2_leave_12 : decode prog_4_method_20_code 12 = .ok (.iconst 3, 1) := by decide +kernel
theorem dX2_leave_13 : decode prog_4_method_20_code 13 = .ok (.ireturn, 1) := by decide +kernel
theorem dX2_leave_14 : decode prog_4_method_20_code 14 = .ok (.aload_n 2, 1) := by decide +kernel
theorem dX2_leave_15 : decode prog_4_method_20_code 15 = .ok (.aload_n 1, 1) := by decide +kernel
theorem dX2_leave_16 : decode prog_4_method_20_code 16 = .ok (.getfield 222, 3) := by decide +kernel
theorem dX2_leave_19 : decode prog_4_method_20_code 19 = .ok (.invokevirtual 243, 3) := by decide +kernel
theorem dX2_leave_22 : decode prog_4_method_20_code 22 = .ok (.iconst 0, 1) := by decide +kernel
theorem dX2_leave_23 : decode prog_4_method_20_code 23 = .ok (.ireturn, 1) := by decide +kernel
theorem dX2_signalAll_0 : decode prog_4_method_21_code 0 = .ok (.iconst 0, 1) := by decide +kernel
theorem dX2_signalAll_1 : decode prog_4_method_21_code 1 = .ok (.istore_n 2, 1) := by decide +kernel
theorem dX2_signalAll_2 : decode prog_4_method_21_code 2 = .ok (.iload_n 2, 1) := by decide +kernel
theorem dX2_signalAll_3 : decode prog_4_method_21_code 3 = .ok (.iconst 2, 1) := by decide +kernel
theorem dX2_signalAll_4 : decode prog_4_method_21_code 4 = .ok (.if_icmp .ge 22, 3) := by decide +kernel
theorem dX2_signalAll_7 : decode prog_4_method_21_code 7 = .ok (.aload_n 0, 1) := by decide +kernel
theorem dX2_signalAll_8 : decode prog_4_method_21_code 8 = .ok (.getfield 33, 3) := by decide +kernel
theorem dX2_signalAll_11 : decode prog_4_method_21_code 11 = .ok (.iload_n 2, 1) := by decide +kernel
theorem dX2_signalAll_12 : decode prog_4_method_21_code 12 = .ok (.aaload, 1) := by decide +kernel
theorem dX2_signalAll_13 : decode prog_4_method_21_code 13 = .ok (.aload_n 1, 1) := by decide +kernel
theorem dX2_signalAll_14 : decode prog_4_method_21_code 14 = .ok (.getfield 222, 3) := by decide +kernel
theorem dX2_signalAll_17 : decode prog_4_method_21_code 17 = .ok (.invokevirtual 245, 3) := by decide +kernel
theorem dX2_signalAll_20 : decode prog_4_method_21_code 20 = .ok (.iinc 2 1, 3) := by decide +kernel
theorem dX2_signalAll_23 : decode prog_4_method_21_code 23 = .ok (.goto (-21), 3) := by decide +kernel
theorem dX2_signalAll_26 : decode prog_4_method_21_code 26 = .ok (.return_, 1) := by decide +kernel
theorem dX2_passPhases_0 : decode prog_4_method_22_code 0 = .ok (.aload_n 0, 1) := by decide +kernel
theorem dX2_passPhases_1 : decode prog_4_method_22_code 1 = .ok (.aload_n 1, 1) := by decide +kernel
theorem dX2_passPhases_2 : decode prog_4_method_22_code 2 = .ok (.invokevirtual 248, 3) := by decide +kernel
theorem dX2_passPhases_5 : decode prog_4_method_22_code 5 = .ok (.ifCond .eq 11, 3) := by decide +kernel
theorem dX2_passPhases_8 : decode prog_4_method_22_code 8 = .ok (.aload_n 1, 1) := by decide +kernel
theorem dX2_passPhases_9 : decode prog_4_method_22_code 9 = .ok (.iconst 2, 1) := by decide +kernel
theorem dX2_passPhases_10 : decode prog_4_method_22_code 10 = .ok (.iconst 0, 1) := by decide +kernel
theorem dX2_passPhases_11 : decode prog_4_method_22_code 11 = .ok (.invokevirtual 228, 3) := by decide +kernel
theorem dX2_passPhases_14 : decode prog_4_method_22_code 14 = .ok (.iconst 0, 1) := by decide +kernel
theorem dX2_passPhases_15 : decode prog_4_method_22_code 15 = .ok (.ireturn, 1) := by decide +kernel
theorem dX2_passPhases_16 : decode prog_4_method_22_code 16 = .ok (.iconst 0, 1) := by decide +kernel
theorem dX2_passPhases_17 : decode prog_4_method_22_code 17 = .ok (.istore_n 2, 1) := by decide +kernel
theorem dX2_passPhases_18 : decode prog_4_method_22_code 18 = .ok (.iload_n 2, 1) := by decide +kernel
theorem dX2_passPhases_19 : decode prog_4_method_22_code 19 = .ok (.iconst 2, 1) := by decide +kernel
theorem dX2_passPhases_20 : decode prog_4_method_22_code 20 = .ok (.if_icmp .ge 22, 3) := by decide +kernel
theorem dX2_passPhases_23 : decode prog_4_method_22_code 23 = .ok (.aload_n 0, 1) := by decide +kernel
theorem dX2_passPhases_24 : decode prog_4_method_22_code 24 = .ok (.getfield 33, 3) := by decide +kernel
theorem dX2_passPhases_27 : decode prog_4_method_22_code 27 = .ok (.iload_n 2, 1) := by decide +kernel
theorem dX2_passPhases_28 : decode prog_4_method_22_code 28 = .ok (.aaload, 1) := by decide +kernel
theorem dX2_passPhases_29 : decode prog_4_method_22_code 29 = .ok (.aload_n 1, 1) := by decide +kernel
theorem dX2_passPhases_30 : decode prog_4_method_22_code 30 = .ok (.getfield 222, 3) := by decide +kernel
theorem dX2_passPhases_33 : decode prog_4_method_22_code 33 = .ok (.invokevirtual 252, 3) := by decide +kernel
theorem dX2_passPhases_36 : decode prog_4_method_22_code 36 = .ok (.iinc 2 1, 3) := by decide +kernel
theorem dX2_passPhases_39 : decode prog_4_method_22_code 39 = .ok (.goto (-21), 3) := by decide +kernel
theorem dX2_passPhases_42 : decode prog_4_method_22_code 42 = .ok (.aload_n 1, 1) := by decide +kernel
theorem dX2_passPhases_43 : decode prog_4_method_22_code 43 = .ok (.iconst 0, 1) := by decide +kernel
theorem dX2_passPhases_44 : decode prog_4_method_22_code 44 = .ok (.putfield 127, 3) := by decide +kernel
theorem dX2_passPhases_47 : decode prog_4_method_22_code 47 = .ok (.aload_n 1, 1) := by decide +kernel
theorem dX2_passPhases_48 : decode prog_4_method_22_code 48 = .ok (.dup, 1) := by decide +kernel
theorem dX2_passPhases_49 : decode prog_4_method_22_code 49 = .ok (.getfield 134, 3) := by decide +kernel
theorem dX2_passPhases_52 : decode prog_4_method_22_code 52 = .ok (.iconst 1, 1) := by decide +kernel
theorem dX2_passPhases_53 : decode prog_4_method_22_code 53 = .ok (.iadd, 1) := by decide +kernel
theorem dX2_passPhases_54 : decode prog_4_method_22_code 54 = .ok (.putfield 134, 3) := by decide +kernel
theorem dX2_passPhases_57 : decode prog_4_method_22_code 57 = .ok (.iconst 0, 1) := by decide +kernel
theorem dX2_passPhases_58 : decode prog_4_method_22_code 58 = .ok (.ireturn, 1) := by decide +kernel
theorem dX2_isHeldBack_0 : decode prog_4_method_23_code 0 = .ok (.iconst 0, 1) := by decide +kernel
theorem dX2_isHeldBack_1 : decode prog_4_method_23_code 1 = .ok (.istore_n 2, 1) := by decide +kernel
theorem dX2_isHeldBack_2 : decode prog_4_method_23_code 2 = .ok (.iload_n 2, 1) := by decide +kernel
theorem dX2_isHeldBack_3 : decode prog_4_method_23_code 3 = .ok (.iconst 2, 1) := by decide +kernel
theorem dX2_isHeldBack_4 : decode prog_4_method_23_code 4 = .ok (.if_icmp .ge 27, 3) := by decide +kernel
theorem dX2_isHeldBack_7 : decode prog_4_method_23_code 7 = .ok (.aload_n 0, 1) := by decide +kernel
theorem dX2_isHeldBack_8 : decode prog_4_method_23_code 8 = .ok (.getfield 33, 3) := by decide +kernel
theorem dX2_isHeldBack_11 : decode prog_4_method_23_code 11 = .ok (.iload_n 2, 1) := by decide +kernel
theorem dX2_isHeldBack_12 : decode prog_4_method_23_code 12 = .ok (.aaload, 1) := by decide +kernel
theorem dX2_isHeldBack_13 : decode prog_4_method_23_code 13 = .ok (.aload_n 1, 1) := by decide +kernel
theorem dX2_isHeldBack_14 : decode prog_4_method_23_code 14 = .ok (.getfield 222, 3) := by decide +kernel
theorem dX2_isHeldBack_17 : decode prog_4_method_23_code 17 = .ok (.invokevirtual 255, 3) := by decide +kernel
theorem dX2_isHeldBack_20 : decode prog_4_method_23_code 20 = .ok (.ifCond .eq 5, 3) := by decide +kernel
theorem dX2_isHeldBack_23 : decode prog_4_method_23_code 23 = .ok (.iconst 1, 1) := by decide +kernel
theorem dX2_isHeldBack_24 : decode prog_4_method_23_code 24 = .ok (.ireturn, 1) := by decide +kernel
theorem dX2_isHeldBack_25 : decode prog_4_method_23_code 25 = .ok (.iinc 2 1, 3) := by decide +kernel
theorem dX2_isHeldBack_28 : decode prog_4_method_23_code 28 = .ok (.goto (-26), 3) := by decide +kernel
theorem dX2_isHeldBack_31 : decode prog_4_method_23_code 31 = .ok (.iconst 0, 1) := by decide +kernel
theorem dX2_isHeldBack_32 : decode prog_4_method_23_code 32 = .ok (.ireturn, 1) := by decide +kernel
theorem dX2_say_0 : decode prog_4_method_24_code 0 = .ok (.aload_n 0, 1) := by decide +kernel
theorem dX2_say_1 : decode prog_4_method_24_code 1 = .ok (.getfield 67, 3) := by decide +kernel
theorem dX2_say_4 : decode prog_4_method_24_code 4 = .ok (.bipush 40, 2) := by decide +kernel
theorem dX2_say_6 : decode prog_4_method_24_code 6 = .ok (.if_icmp .ge 13, 3) := by decide +kernel
theorem dX2_say_9 : decode prog_4_method_24_code 9 = .ok (.aload_n 0, 1) := by decide +kernel
theorem dX2_say_10 : decode prog_4_method_24_code 10 = .ok (.getfield 53, 3) := by decide +kernel
theorem dX2_say_13 : decode prog_4_method_24_code 13 = .ok (.aload_n 0, 1) := by decide +kernel
theorem dX2_say_14 : decode prog_4_method_24_code 14 = .ok (.getfield 67, 3) := by decide +kernel
theorem dX2_say_17 : decode prog_4_method_24_code 17 = .ok (.iload_n 1, 1) := by decide +kernel
theorem dX2_say_18 : decode prog_4_method_24_code 18 = .ok (.iastore, 1) := by decide +kernel
theorem dX2_say_19 : decode prog_4_method_24_code 19 = .ok (.aload_n 0, 1) := by decide +kernel
theorem dX2_say_20 : decode prog_4_method_24_code 20 = .ok (.dup, 1) := by decide +kernel
theorem dX2_say_21 : decode prog_4_method_24_code 21 = .ok (.getfield 67, 3) := by decide +kernel
theorem dX2_say_24 : decode prog_4_method_24_code 24 = .ok (.iconst 1, 1) := by decide +kernel
theorem dX2_say_25 : decode prog_4_method_24_code 25 = .ok (.iadd, 1) := by decide +kernel
theorem dX2_say_26 : decode prog_4_method_24_code 26 = .ok (.putfield 67, 3) := by decide +kernel
theorem dX2_say_29 : decode prog_4_method_24_code 29 = .ok (.return_, 1) := by decide +kernel
theorem dX2_endScope_0 : decode prog_4_method_25_code 0 = .ok (.aload_n 1, 1) := by decide +kernel
theorem dX2_endScope_1 : decode prog_4_method_25_code 1 = .ok (.invokevirtual 151, 3) := by decide +kernel
theorem dX2_endScope_4 : decode prog_4_method_25_code 4 = .ok (.astore_n 2, 1) := by decide +kernel
theorem dX2_endScope_5 : decode prog_4_method_25_code 5 = .ok (.aload_n 2, 1) := by decide +kernel
theorem dX2_endScope_6 : decode prog_4_method_25_code 6 = .ok (.getfield 90, 3) := by decide +kernel
theorem dX2_endScope_9 : decode prog_4_method_25_code 9 = .ok (.ifCond .le 10, 3) := by decide +kernel
theorem dX2_endScope_12 : decode prog_4_method_25_code 12 = .ok (.aload_n 1, 1) := by decide +kernel
theorem dX2_endScope_13 : decode prog_4_method_25_code 13 = .ok (.iconst 2, 1) := by decide +kernel
theorem dX2_endScope_14 : decode prog_4_method_25_code 14 = .ok (.putfield 124, 3) := by decide +kernel
theorem dX2_endScope_17 : decode prog_4_method_25_code 17 = .ok (.iconst 0, 1) := by decide +kernel
theorem dX2_endScope_18 : decode prog_4_method_25_code 18 = .ok (.ireturn, 1) := by decide +kernel
theorem dX2_endScope_19 : decode prog_4_method_25_code 19 = .ok (.aload_n 1, 1) := by decide +kernel
theorem dX2_endScope_20 : decode prog_4_method_25_code 20 = .ok (.getfield 127, 3) := by decide +kernel
theorem dX2_endScope_23 : decode prog_4_method_25_code 23 = .ok (.iconst 3, 1) := by decide +kernel
theorem dX2_endScope_24 : decode prog_4_method_25_code 24 = .ok (.if_icmp .ne 7, 3) := by decide +kernel
theorem dX2_endScope_27 : decode prog_4_method_25_code 27 = .ok (.iconst 1, 1) := by decide +kernel
theorem dX2_endScope_28 : decode prog_4_method_25_code 28 = .ok (.goto 4, 3) := by decide +kernel
theorem dX2_endScope_31 : decode prog_4_method_25_code 31 = .ok (.iconst 0, 1) := by decide +kernel
theorem dX2_endScope_32 : decode prog_4_method_25_code 32 = .ok (.istore_n 3, 1) := by decide +kernel
theorem dX2_endScope_33 : decode prog_4_method_25_code 33 = .ok (.aload_n 1, 1) := by decide +kernel
theorem dX2_endScope_34 : decode prog_4_method_25_code 34 = .ok (.dup, 1) := by decide +kernel
theorem dX2_endScope_35 : decode prog_4_method_25_code 35 = .ok (.getfield 231, 3) := by decide +kernel
theorem dX2_endScope_38 : decode prog_4_method_25_code 38 = .ok (.iconst 1, 1) := by decide +kernel
theorem dX2_endScope_39 : decode prog_4_method_25_code 39 = .ok (.isub, 1) := by decide +kernel
theorem dX2_endScope_40 : decode prog_4_method_25_code 40 = .ok (.putfield 231, 3) := by decide +kernel
theorem dX2_endScope_43 : decode prog_4_method_25_code 43 = .ok (.aload_n 1, 1) := by decide +kernel
theorem dX2_endScope_44 : decode prog_4_method_25_code 44 = .ok (.iconst 0, 1) := by decide +kernel
theorem dX2_endScope_45 : decode prog_4_method_25_code 45 = .ok (.putfield 127, 3) := by decide +kernel
theorem dX2_endScope_48 : decode prog_4_method_25_code 48 = .ok (.aload_n 2, 1) := by decide +kernel
theorem dX2_endScope_49 : decode prog_4_method_25_code 49 = .ok (.getfield 259, 3) := by decide +kernel
theorem dX2_endScope_52 : decode prog_4_method_25_code 52 = .ok (.ifCond .ne 35, 3) := by decide +kernel
theorem dX2_endScope_55 : decode prog_4_method_25_code 55 = .ok (.aload_n 1, 1) := by decide +kernel
theorem dX2_endScope_56 : decode prog_4_method_25_code 56 = .ok (.aload_n 2, 1) := by decide +kernel
theorem dX2_endScope_57 : decode prog_4_method_25_code 57 = .ok (.aload_n 1, 1) := by decide +kernel
theorem dX2_endScope_58 : decode prog_4_method_25_code 58 = .ok (.getfield 180, 3) := by decide +kernel
theorem dX2_endScope_61 : decode prog_4_method_25_code 61 = .ok (.invokevirtual 262, 3) := by decide +kernel
theorem dX2_endScope_64 : decode prog_4_method_25_code 64 = .ok (.putfield 180, 3) := by decide +kernel
theorem dX2_endScope_67 : decode prog_4_method_25_code 67 = .ok (.aload_n 1, 1) := by decide +kernel
theorem dX2_endScope_68 : decode prog_4_method_25_code 68 = .ok (.dup, 1) := by decide +kernel
theorem dX2_endScope_69 : decode prog_4_method_25_code 69 = .ok (.getfield 134, 3) := by decide +kernel
theorem dX2_endScope_72 : decode prog_4_method_25_code 72 = .ok (.iload_n 3, 1) := by decide +kernel
theorem dX2_endScope_73 : decode prog_4_method_25_code 73 = .ok (.ifCond .eq 7, 3) := by decide +kernel
theorem dX2_endScope_76 : decode prog_4_method_25_code 76 = .ok (.iconst 1, 1) := by decide +kernel
theorem dX2_endScope_77 : decode prog_4_method_25_code 77 = .ok (.goto 4, 3) := by decide +kernel
theorem dX2_endScope_80 : decode prog_4_method_25_code 80 = .ok (.iconst 0, 1) := by decide +kernel
theorem dX2_endScope_81 : decode prog_4_method_25_code 81 = .ok (.iadd, 1) := by decide +kernel
theorem dX2_endScope_82 : decode prog_4_method_25_code 82 = .ok (.putfield 134, 3) := by decide +kernel
theorem dX2_endScope_85 : decode prog_4_method_25_code 85 = .ok (.iconst 0, 1) := by decide +kernel
theorem dX2_endScope_86 : decode prog_4_method_25_code 86 = .ok (.ireturn, 1) := by decide +kernel
theorem dX2_endScope_87 : decode prog_4_method_25_code 87 = .ok (.aload_n 2, 1) := by decide +kernel
theorem dX2_endScope_88 : decode prog_4_method_25_code 88 = .ok (.getfield 266, 3) := by decide +kernel
theorem dX2_endScope_91 : decode prog_4_method_25_code 91 = .ok (.ifCond .ne 8, 3) := by decide +kernel
theorem dX2_endScope_94 : decode prog_4_method_25_code 94 = .ok (.aload_n 2, 1) := by decide +kernel
theorem dX2_endScope_95 : decode prog_4_method_25_code 95 = .ok (.getfield 269, 3) := by decide +kernel
theorem dX2_endScope_98 : decode prog_4_method_25_code 98 = .ok (.ireturn, 1) := by decide +kernel
theorem dX2_endScope_99 : decode prog_4_method_25_code 99 = .ok (.aload_n 1, 1) := by decide +kernel
theorem dX2_endScope_100 : decode prog_4_method_25_code 100 = .ok (.aload_n 2, 1) := by decide +kernel
theorem dX2_endScope_101 : decode prog_4_method_25_code 101 = .ok (.getfield 269, 3) := by decide +kernel
theorem dX2_endScope_104 : decode prog_4_method_25_code 104 = .ok (.putfield 180, 3) := by decide +kernel
theorem dX2_endScope_107 : decode prog_4_method_25_code 107 = .ok (.aload_n 1, 1) := by decide +kernel
theorem dX2_endScope_108 : decode prog_4_method_25_code 108 = .ok (.aload_n 2, 1) := by decide +kernel
theorem dX2_endScope_109 : decode prog_4_method_25_code 109 = .ok (.getfield 266, 3) := by decide +kernel
theorem dX2_endScope_112 : decode prog_4_method_25_code 112 = .ok (.putfield 134, 3) := by decide +kernel
theorem dX2_endScope_115 : decode prog_4_method_25_code 115 = .ok (.iconst 0, 1) := by decide +kernel
theorem dX2_endScope_116 : decode prog_4_method_25_code 116 = .ok (.ireturn, 1) := by decide +kernel
theorem dX2_endInnermost_0 : decode prog_4_method_26_code 0 = .ok (.aload_n 1, 1) := by decide +kernel
theorem dX2_endInnermost_1 : decode prog_4_method_26_code 1 = .ok (.getfield 231, 3) := by decide +kernel
theorem dX2_endInnermost_4 : decode prog_4_method_26_code 4 = .ok (.ifCond .le 11, 3) := by decide +kernel
theorem dX2_endInnermost_7 : decode prog_4_method_26_code 7 = .ok (.aload_n 1, 1) := by decide +kernel
theorem dX2_endInnermost_8 : decode prog_4_method_26_code 8 = .ok (.iconst 4, 1) := by decide +kernel
theorem dX2_endInnermost_9 : decode prog_4_method_26_code 9 = .ok (.putfield 127, 3) := by decide +kernel
theorem dX2_endInnermost_12 : decode prog_4_method_26_code 12 = .ok (.goto 8, 3) := by decide +kernel
theorem dX2_endInnermost_15 : decode prog_4_method_26_code 15 = .ok (.aload_n 0, 1) := by decide +kernel
theorem dX2_endInnermost_16 : decode prog_4_method_26_code 16 = .ok (.aload_n 1, 1) := by decide +kernel
theorem dX2_endInnermost_17 : decode prog_4_method_26_code 17 = .ok (.invokevirtual 272, 3) := by decide +kernel
theorem dX2_endInnermost_20 : decode prog_4_method_26_code 20 = .ok (.return_, 1) := by decide +kernel
theorem dX2_finish_0 : decode prog_4_method_27_code 0 = .ok (.aload_n 1, 1) := by decide +kernel
theorem dX2_finish_1 : decode prog_4_method_27_code 1 = .ok (.iconst 3, 1) := by decide +kernel
theorem dX2_finish_2 : decode prog_4_method_27_code 2 = .ok (.putfield 124, 3) := by decide +kernel
theorem dX2_finish_5 : decode prog_4_method_27_code 5 = .ok (.iconst 0, 1) := by decide +kernel
theorem dX2_finish_6 : decode prog_4_method_27_code 6 = .ok (.istore_n 2, 1) := by decide +kernel
theorem dX2_finish_7 : decode prog_4_method_27_code 7 = .ok (.iload_n 2, 1) := by decide +kernel
theorem dX2_finish_8 : decode prog_4_method_27_code 8 = .ok (.iconst 2, 1) := by decide +kernel
theorem dX2_finish_9 : decode prog_4_method_27_code 9 = .ok (.if_icmp .ge 22, 3) := by decide +kernel
theorem dX2_finish_12 : decode prog_4_method_27_code 12 = .ok (.aload_n 0, 1) := by decide +kernel
theorem dX2_finish_13 : decode prog_4_method_27_code 13 = .ok (.getfield 33, 3) := by decide +kernel
theorem dX2_finish_16 : decode prog_4_method_27_code 16 = .ok (.iload_n 2, 1) := by decide +kernel
theorem dX2_finish_17 : decode prog_4_method_27_code 17 = .ok (.aaload, 1) := by decide +kernel
theorem dX2_finish_18 : decode prog_4_method_27_code 18 = .ok (.aload_n 1, 1) := by decide +kernel
theorem dX2_finish_19 : decode prog_4_method_27_code 19 = .ok (.getfield 222, 3) := by decide +kernel
theorem dX2_finish_22 : decode prog_4_method_27_code 22 = .ok (.invokevirtual 243, 3) := by decide +kernel
theorem dX2_finish_25 : decode prog_4_method_27_code 25 = .ok (.iinc 2 1, 3) := by decide +kernel
theorem dX2_finish_28 : decode prog_4_method_27_code 28 = .ok (.goto (-21), 3) := by decide +kernel
theorem dX2_finish_31 : decode prog_4_method_27_code 31 = .ok (.aload_n 1, 1) := by decide +kernel
theorem dX2_finish_32 : decode prog_4_method_27_code 32 = .ok (.getfield 275, 3) := by decide +kernel
theorem dX2_finish_35 : decode prog_4_method_27_code 35 = .ok (.dup, 1) := by decide +kernel
theorem dX2_finish_36 : decode prog_4_method_27_code 36 = .ok (.getfield 90, 3) := by decide +kernel
theorem dX2_finish_39 : decode prog_4_method_27_code 39 = .ok (.iconst 1, 1) := by decide +kernel
theorem dX2_finish_40 : decode prog_4_method_27_code 40 = .ok (.isub, 1) := by decide +kernel
theorem dX2_finish_41 : decode prog_4_method_27_code 41 = .ok (.putfield 90, 3) := by decide +kernel
theorem dX2_finish_44 : decode prog_4_method_27_code 44 = .ok (.return_, 1) := by decide +kernel
theorem dX2_wakeAll_0 : decode prog_4_method_28_code 0 = .ok (.iconst 0, 1) := by decide +kernel
theorem dX2_wakeAll_1 : decode prog_4_method_28_code 1 = .ok (.istore_n 2, 1) := by decide +kernel
theorem dX2_wakeAll_2 : decode prog_4_method_28_code 2 = .ok (.iload_n 2, 1) := by decide +kernel
theorem dX2_wakeAll_3 : decode prog_4_method_28_code 3 = .ok (.aload_n 0, 1) := by decide +kernel
theorem dX2_wakeAll_4 : decode prog_4_method_28_code 4 = .ok (.getfield 64, 3) := by decide +kernel
theorem dX2_wakeAll_7 : decode prog_4_method_28_code 7 = .ok (.if_icmp .ge 50, 3) := by decide +kernel
theorem dX2_wakeAll_10 : decode prog_4_method_28_code 10 = .ok (.aload_n 0, 1) := by decide +kernel
theorem dX2_wakeAll_11 : decode prog_4_method_28_code 11 = .ok (.getfield 24, 3) := by decide +kernel
theorem dX2_wakeAll_14 : decode prog_4_method_28_code 14 = .ok (.iload_n 2, 1) := by decide +kernel
theorem dX2_wakeAll_15 : decode prog_4_method_28_code 15 = .ok (.aaload, 1) := by decide +kernel
theorem dX2_wakeAll_16 : decode prog_4_method_28_code 16 = .ok (.getfield 124, 3) := by decide +kernel
theorem dX2_wakeAll_19 : decode prog_4_method_28_code 19 = .ok (.iconst 2, 1) := by decide +kernel
theorem dX2_wakeAll_20 : decode prog_4_method_28_code 20 = .ok (.if_icmp .ne 31, 3) := by decide +kernel
theorem dX2_wakeAll_23 : decode prog_4_method_28_code 23 = .ok (.aload_n 0, 1) := by decide +kernel
theorem dX2_wakeAll_24 : decode prog_4_method_28_code 24 = .ok (.aload_n 0, 1) := by decide +kernel
theorem dX2_wakeAll_25 : decode prog_4_method_28_code 25 = .ok (.getfield 24, 3) := by decide +kernel
theorem dX2_wakeAll_28 : decode prog_4_method_28_code 28 = .ok (.iload_n 2, 1) := by decide +kernel
theorem dX2_wakeAll_29 : decode prog_4_method_28_code 29 = .ok (.aaload, 1) := by decide +kernel
theorem dX2_wakeAll_30 : decode prog_4_method_28_code 30 = .ok (.invokevirtual 278, 3) := by decide +kernel
theorem dX2_wakeAll_33 : decode prog_4_method_28_code 33 = .ok (.ifCond .eq 18, 3) := by decide +kernel
theorem dX2_wakeAll_36 : decode prog_4_method_28_code 36 = .ok (.aload_n 0, 1) := by decide +kernel
theorem dX2_wakeAll_37 : decode prog_4_method_28_code 37 = .ok (.getfield 24, 3) := by decide +kernel
theorem dX2_wakeAll_40 : decode prog_4_method_28_code 40 = .ok (.iload_n 2, 1) := by decide +kernel
theorem dX2_wakeAll_41 : decode prog_4_method_28_code 41 = .ok (.aaload, 1) := by decide +kernel
theorem dX2_wakeAll_42 : decode prog_4_method_28_code 42 = .ok (.iconst 0, 1) := by decide +kernel
theorem dX2_wakeAll_43 : decode prog_4_method_28_code 43 = .ok (.putfield 124, 3) := by decide +kernel
theorem dX2_wakeAll_46 : decode prog_4_method_28_code 46 = .ok (.aload_n 1, 1) := by decide +kernel
theorem dX2_wakeAll_47 : decode prog_4_method_28_code 47 = .ok (.iload_n 2, 1) := by decide +kernel
theorem dX2_wakeAll_48 : decode prog_4_method_28_code 48 = .ok (.invokevirtual 93, 3) := by decide +kernel
theorem dX2_wakeAll_51 : decode prog_4_method_28_code 51 = .ok (.iinc 2 1, 3) := by decide +kernel
theorem dX2_wakeAll_54 : decode prog_4_method_28_code 54 = .ok (.goto (-52), 3) := by decide +kernel
theorem dX2_wakeAll_57 : decode prog_4_method_28_code 57 = .ok (.return_, 1) := by decide +kernel
theorem dX2_isWaitOver_0 : decode prog_4_method_29_code 0 = .ok (.aload_n 1, 1) := by decide +kernel
theorem dX2_isWaitOver_1 : decode prog_4_method_29_code 1 = .ok (.getfield 127, 3) := by decide +kernel
theorem dX2_isWaitOver_4 : decode prog_4_method_29_code 4 = .ok (.tableswitch 52 0 2 #[28, 28, 38], 28) := by decide +kernel
theorem dX2_isWaitOver_32 : decode prog_4_method_29_code 32 = .ok (.aload_n 0, 1) := by decide +kernel
theorem dX2_isWaitOver_33 : decode prog_4_method_29_code 33 = .ok (.getfield 49, 3) := by decide +kernel
theorem dX2_isWaitOver_36 : decode prog_4_method_29_code 36 = .ok (.aload_n 1, 1) := by decide +kernel
theorem dX2_isWaitOver_37 : decode prog_4_method_29_code 37 = .ok (.getfield 161, 3) := by decide +kernel
theorem dX2_isWaitOver_40 : decode prog_4_method_29_code 40 = .ok (.baload, 1) := by decide +kernel
theorem dX2_isWaitOver_41 : decode prog_4_method_29_code 41 = .ok (.ireturn, 1) := by decide +kernel
theorem dX2_isWaitOver_42 : decode prog_4_method_29_code 42 = .ok (.aload_n 0, 1) := by decide +kernel
theorem dX2_isWaitOver_43 : decode prog_4_method_29_code 43 = .ok (.aload_n 1, 1) := by decide +kernel
theorem dX2_isWaitOver_44 : decode prog_4_method_29_code 44 = .ok (.invokevirtual 248, 3) := by decide +kernel
theorem dX2_isWaitOver_47 : decode prog_4_method_29_code 47 = .ok (.ifCond .ne 7, 3) := by decide +kernel
theorem dX2_isWaitOver_50 : decode prog_4_method_29_code 50 = .ok (.iconst 1, 1) := by decide +kernel
theorem dX2_isWaitOver_51 : decode prog_4_method_29_code 51 = .ok (.goto 4, 3) := by decide +kernel
theorem dX2_isWaitOver_54 : decode prog_4_method_29_code 54 = .ok (.iconst 0, 1) := by decide +kernel
theorem dX2_isWaitOver_55 : decode prog_4_method_29_code 55 = .ok (.ireturn, 1) := by decide +kernel
theorem dX2_isWaitOver_56 : decode prog_4_method_29_code 56 = .ok (.aload_n 1, 1) := by decide +kernel
theorem dX2_isWaitOver_57 : decode prog_4_method_29_code 57 = .ok (.invokevirtual 151, 3) := by decide +kernel
theorem dX2_isWaitOver_60 : decode prog_4_method_29_code 60 = .ok (.getfield 90, 3) := by decide +kernel
theorem dX2_isWaitOver_63 : decode prog_4_method_29_code 63 = .ok (.ifCond .ne 7, 3) := by decide +kernel
theorem dX2_isWaitOver_66 : decode prog_4_method_29_code 66 = .ok (.iconst 1, 1) := by decide +kernel
theorem dX2_isWaitOver_67 : decode prog_4_method_29_code 67 = .ok (.goto 4, 3) := by decide +kernel
theorem dX2_isWaitOver_70 : decode prog_4_method_29_code 70 = .ok (.iconst 0, 1) := by decide +kernel
theorem dX2_isWaitOver_71 : decode prog_4_method_29_code 71 = .ok (.ireturn, 1) := by decide +kernel
theorem dX2_answerOf_0 : decode prog_4_method_30_code 0 = .ok (.iload_n 2, 1) := by decide +kernel
theorem dX2_answerOf_1 : decode prog_4_method_30_code 1 = .ok (.tableswitch 79 0 5 #[39, 44, 49, 54, 59, 64], 39) := by decide +kernel
theorem dX2_answerOf_40 : decode prog_4_method_30_code 40 = .ok (.aload_n 1, 1) := by decide +kernel
theorem dX2_answerOf_41 : decode prog_4_method_30_code 41 = .ok (.getfield 124, 3) := by decide +kernel
theorem dX2_answerOf_44 : decode prog_4_method_30_code 44 = .ok (.ireturn, 1) := by decide +kernel
theorem dX2_answerOf_45 : decode prog_4_method_30_code 45 = .ok (.aload_n 1, 1) := by decide +kernel
theorem dX2_answerOf_46 : decode prog_4_method_30_code 46 = .ok (.getfield 180, 3) := by decide +kernel
theorem dX2_answerOf_49 : decode prog_4_method_30_code 49 = .ok (.ireturn, 1) := by decide +kernel
theorem dX2_answerOf_50 : decode prog_4_method_30_code 50 = .ok (.aload_n 1, 1) := by decide +kernel
theorem dX2_answerOf_51 : decode prog_4_method_30_code 51 = .ok (.getfield 134, 3) := by decide +kernel
theorem dX2_answerOf_54 : decode prog_4_method_30_code 54 = .ok (.ireturn, 1) := by decide +kernel
theorem dX2_answerOf_55 : decode prog_4_method_30_code 55 = .ok (.aload_n 1, 1) := by decide +kernel
theorem dX2_answerOf_56 : decode prog_4_method_30_code 56 = .ok (.getfield 137, 3) := by decide +kernel
theorem dX2_answerOf_59 : decode prog_4_method_30_code 59 = .ok (.ireturn, 1) := by decide +kernel
theorem dX2_answerOf_60 : decode prog_4_method_30_code 60 = .ok (.aload_n 1, 1) := by decide +kernel
theorem dX2_answerOf_61 : decode prog_4_method_30_code 61 = .ok (.getfield 231, 3) := by decide +kernel
theorem dX2_answerOf_64 : decode prog_4_method_30_code 64 = .ok (.ireturn, 1) := by decide +kernel
theorem dX2_answerOf_65 : decode prog_4_method_30_code 65 = .ok (.aload_n 0, 1) := by decide +kernel
theorem dX2_answerOf_66 : decode prog_4_method_30_code 66 = .ok (.getfield 33, 3) := by decide +kernel
theorem dX2_answerOf_69 : decode prog_4_method_30_code 69 = .ok (.iconst 0, 1) := by decide +kernel
theorem dX2_answerOf_70 : decode prog_4_method_30_code 70 = .ok (.aaload, 1) := by decide +kernel
theorem dX2_answerOf_71 : decode prog_4_method_30_code 71 = .ok (.getfield 238, 3) := by decide +kernel
theorem dX2_answerOf_74 : decode prog_4_method_30_code 74 = .ok (.aload_n 1, 1) := by decide +kernel
theorem dX2_answerOf_75 : decode prog_4_method_30_code 75 = .ok (.getfield 222, 3) := by decide +kernel
theorem dX2_answerOf_78 : decode prog_4_method_30_code 78 = .ok (.iaload, 1) := by decide +kernel
theorem dX2_answerOf_79 : decode prog_4_method_30_code 79 = .ok (.ireturn, 1) := by decide +kernel
theorem dX2_answerOf_80 : decode prog_4_method_30_code 80 = .ok (.aload_n 0, 1) := by decide +kernel
theorem dX2_answerOf_81 : decode prog_4_method_30_code 81 = .ok (.getfield 33, 3) := by decide +kernel
theorem dX2_answerOf_84 : decode prog_4_method_30_code 84 = .ok (.iconst 1, 1) := by decide +kernel
theorem dX2_answerOf_85 : decode prog_4_method_30_code 85 = .ok (.aaload, 1) := by decide +kernel
theorem dX2_answerOf_86 : decode prog_4_method_30_code 86 = .ok (.getfield 238, 3) := by decide +kernel
theorem dX2_answerOf_89 : decode prog_4_method_30_code 89 = .ok (.aload_n 1, 1) := by decide +kernel
theorem dX2_answerOf_90 : decode prog_4_method_30_code 90 = .ok (.getfield 222, 3) := by decide +kernel
theorem dX2_answerOf_93 : decode prog_4_method_30_code 93 = .ok (.iaload, 1) := by decide +kernel
theorem dX2_answerOf_94 : decode prog_4_method_30_code 94 = .ok (.ireturn, 1) := by decide +kernel
theorem dX2_figure_0 : decode prog_4_method_31_code 0 = .ok (.iload_n 1, 1) := by decide +kernel
theorem dX2_figure_1 : decode prog_4_method_31_code 1 = .ok (.tableswitch 121 0 9 #[55, 60, 65, 70, 75, 80, 85, 93, 101, 111], 55) := by decide +kernel
theorem dX2_figure_56 : decode prog_4_method_31_code 56 = .ok (.aload_n 0, 1) := by decide +kernel
theorem dX2_figure_57 : decode prog_4_method_31_code 57 = .ok (.getfield 64, 3) := by decide +kernel
theorem dX2_figure_60 : decode prog_4_method_31_code 60 = .ok (.ireturn, 1) := by decide +kernel
theorem dX2_figure_61 : decode prog_4_method_31_code 61 = .ok (.aload_n 0, 1) := by decide +kernel
theorem dX2_figure_62 : decode prog_4_method_31_code 62 = .ok (.invokevirtual 281, 3) := by decide +kernel
theorem dX2_figure_65 : decode prog_4_method_31_code 65 = .ok (.ireturn, 1) := by decide +kernel
theorem dX2_figure_66 : decode prog_4_method_31_code 66 = .ok (.aload_n 0, 1) := by decide +kernel
theorem dX2_figure_67 : decode prog_4_method_31_code 67 = .ok (.getfield 70, 3) := by decide +kernel
theorem dX2_figure_70 : decode prog_4_method_31_code 70 = .ok (.ireturn, 1) := by decide +kernel
theorem dX2_figure_71 : decode prog_4_method_31_code 71 = .ok (.aload_n 0, 1) := by decide +kernel
theorem dX2_figure_72 : decode prog_4_method_31_code 72 = .ok (.getfield 73, 3) := by decide +kernel
theorem dX2_figure_75 : decode prog_4_method_31_code 75 = .ok (.ireturn, 1) := by decide +kernel
theorem dX2_figure_76 : decode prog_4_method_31_code 76 = .ok (.aload_n 0, 1) := by decide +kernel
theorem dX2_figure_77 : decode prog_4_method_31_code 77 = .ok (.getfield 76, 3) := by decide +kernel
theorem dX2_figure_80 : decode prog_4_method_31_code 80 = .ok (.ireturn, 1) := by decide +kernel
theorem dX2_figure_81 : decode prog_4_method_31_code 81 = .ok (.aload_n 0, 1) := by decide +kernel
theorem dX2_figure_82 : decode prog_4_method_31_code 82 = .ok (.getfield 67, 3) := by decide +kernel
theorem dX2_figure_85 : decode prog_4_method_31_code 85 = .ok (.ireturn, 1) := by decide +kernel
theorem dX2_figure_86 : decode prog_4_method_31_code 86 = .ok (.aload_n 0, 1) := by decide +kernel
theorem dX2_figure_87 : decode prog_4_method_31_code 87 = .ok (.getfield 18, 3) := by decide +kernel
theorem dX2_figure_90 : decode prog_4_method_31_code 90 = .ok (.getfield 259, 3) := by decide +kernel
theorem dX2_figure_93 : decode prog_4_method_31_code 93 = .ok (.ireturn, 1) := by decide +kernel
theorem dX2_figure_94 : decode prog_4_method_31_code 94 = .ok (.aload_n 0, 1) := by decide +kernel
theorem dX2_figure_95 : decode prog_4_method_31_code 95 = .ok (.getfield 18, 3) := by decide +kernel
theorem dX2_figure_98 : decode prog_4_method_31_code 98 = .ok (.getfield 269, 3) := by decide +kernel
theorem dX2_figure_101 : decode prog_4_method_31_code 101 = .ok (.ireturn, 1) := by decide +kernel
theorem dX2_figure_102 : decode prog_4_method_31_code 102 = .ok (.aload_n 0, 1) := by decide +kernel
theorem dX2_figure_103 : decode prog_4_method_31_code 103 = .ok (.getfield 33, 3) := by decide +kernel
theorem dX2_figure_106 : decode prog_4_method_31_code 106 = .ok (.iconst 0, 1) := by decide +kernel
theorem dX2_figure_107 : decode prog_4_method_31_code 107 = .ok (.aaload, 1) := by decide +kernel
theorem dX2_figure_108 : decode prog_4_method_31_code 108 = .ok (.getfield 284, 3) := by decide +kernel
theorem dX2_figure_111 : decode prog_4_method_31_code 111 = .ok (.ireturn, 1) := by decide +kernel
theorem dX2_figure_112 : decode prog_4_method_31_code 112 = .ok (.aload_n 0, 1) := by decide +kernel
theorem dX2_figure_113 : decode prog_4_method_31_code 113 = .ok (.getfield 33, 3) := by decide +kernel
theorem dX2_figure_116 : decode prog_4_method_31_code 116 = .ok (.iconst 1, 1) := by decide +kernel
theorem dX2_figure_117 : decode prog_4_method_31_code 117 = .ok (.aaload, 1) := by decide +kernel
theorem dX2_figure_118 : decode prog_4_method_31_code 118 = .ok (.getfield 284, 3) := by decide +kernel
theorem dX2_figure_121 : decode prog_4_method_31_code 121 = .ok (.ireturn, 1) := by decide +kernel
theorem dX2_figure_122 : decode prog_4_method_31_code 122 = .ok (.aload_n 0, 1) := by decide +kernel
theorem dX2_figure_123 : decode prog_4_method_31_code 123 = .ok (.invokevirtual 107, 3) := by decide +kernel
theorem dX2_figure_126 : decode prog_4_method_31_code 126 = .ok (.ifCond .eq 7, 3) := by decide +kernel
theorem dX2_figure_129 : decode prog_4_method_31_code 129 = .ok (.iconst 1, 1) := by decide +kernel
theorem dX2_figure_130 : decode prog_4_method_31_code 130 = .ok (.goto 4, 3) := by decide +kernel
theorem dX2_figure_133 : decode prog_4_method_31_code 133 = .ok (.iconst 0, 1) := by decide +kernel
theorem dX2_figure_134 : decode prog_4_method_31_code 134 = .ok (.ireturn, 1) := by decide +kernel
theorem dX2_unfinishedTasks_0 : decode prog_4_method_32_code 0 = .ok (.iconst 0, 1) := by decide +kernel
theorem dX2_unfinishedTasks_1 : decode prog_4_method_32_code 1 = .ok (.istore_n 1, 1) := by decide +kernel
theorem dX2_unfinishedTasks_2 : decode prog_4_method_32_code 2 = .ok (.iconst 0, 1) := by decide +kernel
theorem dX2_unfinishedTasks_3 : decode prog_4_method_32_code 3 = .ok (.istore_n 2, 1) := by decide +kernel
theorem dX2_unfinishedTasks_4 : decode prog_4_method_32_code 4 = .ok (.iload_n 2, 1) := by decide +kernel
theorem dX2_unfinishedTasks_5 : decode prog_4_method_32_code 5 = .ok (.aload_n 0, 1) := by decide +kernel
theorem dX2_unfinishedTasks_6 : decode prog_4_method_32_code 6 = .ok (.getfield 64, 3) := by decide +kernel
theorem dX2_unfinishedTasks_9 : decode prog_4_method_32_code 9 = .ok (.if_icmp .ge 25, 3) := by decide +kernel
theorem dX2_unfinishedTasks_12 : decode prog_4_method_32_code 12 = .ok (.aload_n 0, 1) := by decide +kernel
theorem dX2_unfinishedTasks_13 : decode prog_4_method_32_code 13 = .ok (.getfield 24, 3) := by decide +kernel
theorem dX2_unfinishedTasks_16 : decode prog_4_method_32_code 16 = .ok (.iload_n 2, 1) := by decide +kernel
theorem dX2_unfinishedTasks_17 : decode prog_4_method_32_code 17 = .ok (.aaload, 1) := by decide +kernel
theorem dX2_unfinishedTasks_18 : decode prog_4_method_32_code 18 = .ok (.getfield 124, 3) := by decide +kernel
theorem dX2_unfinishedTasks_21 : decode prog_4_method_32_code 21 = .ok (.iconst 3, 1) := by decide +kernel
theorem dX2_unfinishedTasks_22 : decode prog_4_method_32_code 22 = .ok (.if_icmp .eq 6, 3) := by decide +kernel
theorem dX2_unfinishedTasks_25 : decode prog_4_method_32_code 25 = .ok (.iinc 1 1, 3) := by decide +kernel
theorem dX2_unfinishedTasks_28 : decode prog_4_method_32_code 28 = .ok (.iinc 2 1, 3) := by decide +kernel
theorem dX2_unfinishedTasks_31 : decode prog_4_method_32_code 31 = .ok (.goto (-27), 3) := by decide +kernel
theorem dX2_unfinishedTasks_34 : decode prog_4_method_32_code 34 = .ok (.iload_n 1, 1) := by decide +kernel
theorem dX2_unfinishedTasks_35 : decode prog_4_method_32_code 35 = .ok (.ireturn, 1) := by decide +kernel
