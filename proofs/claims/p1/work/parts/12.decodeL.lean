theorem dL_body_0 : decode method_3_code 0 = .ok (.aload_n 2, 1) := by decide +kernel
theorem dL_body_1 : decode method_3_code 1 = .ok (.iconst 0, 1) := by decide +kernel
theorem dL_body_2 : decode method_3_code 2 = .ok (.aload_n 0, 1) := by decide +kernel
theorem dL_body_3 : decode method_3_code 3 = .ok (.iload_n 1, 1) := by decide +kernel
theorem dL_body_4 : decode method_3_code 4 = .ok (.invokevirtual 7, 3) := by decide +kernel
theorem dL_body_7 : decode method_3_code 7 = .ok (.i2l, 1) := by decide +kernel
theorem dL_body_8 : decode method_3_code 8 = .ok (.lastore, 1) := by decide +kernel
theorem dL_body_9 : decode method_3_code 9 = .ok (.goto 6, 3) := by decide +kernel
theorem dL_body_12 : decode method_3_code 12 = .ok (.astore_n 3, 1) := by decide +kernel
theorem dL_body_13 : decode method_3_code 13 = .ok (.iconst 1, 1) := by decide +kernel
theorem dL_body_14 : decode method_3_code 14 = .ok (.ireturn, 1) := by decide +kernel
theorem dL_body_15 : decode method_3_code 15 = .ok (.iconst 0, 1) := by decide +kernel
theorem dL_body_16 : decode method_3_code 16 = .ok (.ireturn, 1) := by decide +kernel
theorem dL_add_0 : decode method_4_code 0 = .ok (.aload 4, 2) := by decide +kernel
theorem dL_add_2 : decode method_4_code 2 = .ok (.iconst 0, 1) := by decide +kernel
theorem dL_add_3 : decode method_4_code 3 = .ok (.aload_n 0, 1) := by decide +kernel
theorem dL_add_4 : decode method_4_code 4 = .ok (.iload_n 1, 1) := by decide +kernel
theorem dL_add_5 : decode method_4_code 5 = .ok (.iload_n 2, 1) := by decide +kernel
theorem dL_add_6 : decode method_4_code 6 = .ok (.iload_n 3, 1) := by decide +kernel
theorem dL_add_7 : decode method_4_code 7 = .ok (.invokevirtual 15, 3) := by decide +kernel
theorem dL_add_10 : decode method_4_code 10 = .ok (.i2l, 1) := by decide +kernel
theorem dL_add_11 : decode method_4_code 11 = .ok (.lastore, 1) := by decide +kernel
theorem dL_add_12 : decode method_4_code 12 = .ok (.goto 11, 3) := by decide +kernel
theorem dL_add_15 : decode method_4_code 15 = .ok (.astore 5, 2) := by decide +kernel
theorem dL_add_17 : decode method_4_code 17 = .ok (.iconst 1, 1) := by decide +kernel
theorem dL_add_18 : decode method_4_code 18 = .ok (.ireturn, 1) := by decide +kernel
theorem dL_add_19 : decode method_4_code 19 = .ok (.astore 5, 2) := by decide +kernel
theorem dL_add_21 : decode method_4_code 21 = .ok (.iconst 2, 1) := by decide +kernel
theorem dL_add_22 : decode method_4_code 22 = .ok (.ireturn, 1) := by decide +kernel
theorem dL_add_23 : decode method_4_code 23 = .ok (.iconst 0, 1) := by decide +kernel
theorem dL_add_24 : decode method_4_code 24 = .ok (.ireturn, 1) := by decide +kernel
theorem dL_begin_0 : decode method_5_code 0 = .ok (.aload_n 0, 1) := by decide +kernel
theorem dL_begin_1 : decode method_5_code 1 = .ok (.iload_n 1, 1) := by decide +kernel
theorem dL_begin_2 : decode method_5_code 2 = .ok (.iload_n 2, 1) := by decide +kernel
theorem dL_begin_3 : decode method_5_code 3 = .ok (.iload_n 3, 1) := by decide +kernel
theorem dL_begin_4 : decode method_5_code 4 = .ok (.iload 4, 2) := by decide +kernel
theorem dL_begin_6 : decode method_5_code 6 = .ok (.invokevirtual 21, 3) := by decide +kernel
theorem dL_begin_9 : decode method_5_code 9 = .ok (.goto 7, 3) := by decide +kernel
theorem dL_begin_12 : decode method_5_code 12 = .ok (.astore 5, 2) := by decide +kernel
theorem dL_begin_14 : decode method_5_code 14 = .ok (.iconst 1, 1) := by decide +kernel
theorem dL_begin_15 : decode method_5_code 15 = .ok (.ireturn, 1) := by decide +kernel
theorem dL_begin_16 : decode method_5_code 16 = .ok (.iconst 0, 1) := by decide +kernel
theorem dL_begin_17 : decode method_5_code 17 = .ok (.ireturn, 1) := by decide +kernel
theorem dL_run_0 : decode method_6_code 0 = .ok (.aload_n 2, 1) := by decide +kernel
theorem dL_run_1 : decode method_6_code 1 = .ok (.iconst 0, 1) := by decide +kernel
theorem dL_run_2 : decode method_6_code 2 = .ok (.aload_n 0, 1) := by decide +kernel
theorem dL_run_3 : decode method_6_code 3 = .ok (.iload_n 1, 1) := by decide +kernel
theorem dL_run_4 : decode method_6_code 4 = .ok (.invokevirtual 25, 3) := by decide +kernel
theorem dL_run_7 : decode method_6_code 7 = .ok (.i2l, 1) := by decide +kernel
theorem dL_run_8 : decode method_6_code 8 = .ok (.lastore, 1) := by decide +kernel
theorem dL_run_9 : decode method_6_code 9 = .ok (.goto 12, 3) := by decide +kernel
theorem dL_run_12 : decode method_6_code 12 = .ok (.astore_n 3, 1) := by decide +kernel
theorem dL_run_13 : decode method_6_code 13 = .ok (.iconst 1, 1) := by decide +kernel
theorem dL_run_14 : decode method_6_code 14 = .ok (.ireturn, 1) := by decide +kernel
theorem dL_run_15 : decode method_6_code 15 = .ok (.astore_n 3, 1) := by decide +kernel
theorem dL_run_16 : decode method_6_code 16 = .ok (.iconst 2, 1) := by decide +kernel
theorem dL_run_17 : decode method_6_code 17 = .ok (.ireturn, 1) := by decide +kernel
theorem dL_run_18 : decode method_6_code 18 = .ok (.astore_n 3, 1) := by decide +kernel
theorem dL_run_19 : decode method_6_code 19 = .ok (.iconst 3, 1) := by decide +kernel
theorem dL_run_20 : decode method_6_code 20 = .ok (.ireturn, 1) := by decide +kernel
theorem dL_run_21 : decode method_6_code 21 = .ok (.iconst 0, 1) := by decide +kernel
theorem dL_run_22 : decode method_6_code 22 = .ok (.ireturn, 1) := by decide +kernel
theorem dL_result_0 : decode method_7_code 0 = .ok (.aload_n 1, 1) := by decide +kernel
theorem dL_result_1 : decode method_7_code 1 = .ok (.iconst 0, 1) := by decide +kernel
theorem dL_result_2 : decode method_7_code 2 = .ok (.aload_n 0, 1) := by decide +kernel
theorem dL_result_3 : decode method_7_code 3 = .ok (.invokevirtual 30, 3) := by decide +kernel
theorem dL_result_6 : decode method_7_code 6 = .ok (.i2l, 1) := by decide +kernel
theorem dL_result_7 : decode method_7_code 7 = .ok (.lastore, 1) := by decide +kernel
theorem dL_result_8 : decode method_7_code 8 = .ok (.goto 9, 3) := by decide +kernel
theorem dL_result_11 : decode method_7_code 11 = .ok (.astore_n 2, 1) := by decide +kernel
theorem dL_result_12 : decode method_7_code 12 = .ok (.iconst 1, 1) := by decide +kernel
theorem dL_result_13 : decode method_7_code 13 = .ok (.ireturn, 1) := by decide +kernel
theorem dL_result_14 : decode method_7_code 14 = .ok (.astore_n 2, 1) := by decide +kernel
theorem dL_result_15 : decode method_7_code 15 = .ok (.iconst 2, 1) := by decide +kernel
theorem dL_result_16 : decode method_7_code 16 = .ok (.ireturn, 1) := by decide +kernel
theorem dL_result_17 : decode method_7_code 17 = .ok (.iconst 0, 1) := by decide +kernel
theorem dL_result_18 : decode method_7_code 18 = .ok (.ireturn, 1) := by decide +kernel
theorem dL_said_0 : decode method_8_code 0 = .ok (.aload_n 2, 1) := by decide +kernel
theorem dL_said_1 : decode method_8_code 1 = .ok (.iconst 0, 1) := by decide +kernel
theorem dL_said_2 : decode method_8_code 2 = .ok (.aload_n 0, 1) := by decide +kernel
theorem dL_said_3 : decode method_8_code 3 = .ok (.iload_n 1, 1) := by decide +kernel
theorem dL_said_4 : decode method_8_code 4 = .ok (.invokevirtual 36, 3) := by decide +kernel
theorem dL_said_7 : decode method_8_code 7 = .ok (.i2l, 1) := by decide +kernel
theorem dL_said_8 : decode method_8_code 8 = .ok (.lastore, 1) := by decide +kernel
theorem dL_said_9 : decode method_8_code 9 = .ok (.goto 6, 3) := by decide +kernel
theorem dL_said_12 : decode method_8_code 12 = .ok (.astore_n 3, 1) := by decide +kernel
theorem dL_said_13 : decode method_8_code 13 = .ok (.iconst 1, 1) := by decide +kernel
theorem dL_said_14 : decode method_8_code 14 = .ok (.ireturn, 1) := by decide +kernel
theorem dL_said_15 : decode method_8_code 15 = .ok (.iconst 0, 1) := by decide +kernel
theorem dL_said_16 : decode method_8_code 16 = .ok (.ireturn, 1) := by decide +kernel
theorem dL_task_0 : decode method_9_code 0 = .ok (.aload_n 3, 1) := by decide +kernel
theorem dL_task_1 : decode method_9_code 1 = .ok (.iconst 0, 1) := by decide +kernel
theorem dL_task_2 : decode method_9_code 2 = .ok (.aload_n 0, 1) := by decide +kernel
theorem dL_task_3 : decode method_9_code 3 = .ok (.iload_n 1, 1) := by decide +kernel
theorem dL_task_4 : decode method_9_code 4 = .ok (.iload_n 2, 1) := by decide +kernel
theorem dL_task_5 : decode method_9_code 5 = .ok (.invokevirtual 41, 3) := by decide +kernel
theorem dL_task_8 : decode method_9_code 8 = .ok (.i2l, 1) := by decide +kernel
theorem dL_task_9 : decode method_9_code 9 = .ok (.lastore, 1) := by decide +kernel
theorem dL_task_10 : decode method_9_code 10 = .ok (.goto 11, 3) := by decide +kernel
theorem dL_task_13 : decode method_9_code 13 = .ok (.astore 4, 2) := by decide +kernel
theorem dL_task_15 : decode method_9_code 15 = .ok (.iconst 1, 1) := by decide +kernel
theorem dL_task_16 : decode method_9_code 16 = .ok (.ireturn, 1) := by decide +kernel
theorem dL_task_17 : decode method_9_code 17 = .ok (.astore 4, 2) := by decide +kernel
theorem dL_task_19 : decode method_9_code 19 = .ok (.iconst 2, 1) := by decide +kernel
theorem dL_task_20 : decode method_9_code 20 = .ok (.ireturn, 1) := by decide +kernel
theorem dL_task_21 : decode method_9_code 21 = .ok (.iconst 0, 1) := by decide +kernel
theorem dL_task_22 : decode method_9_code 22 = .ok (.ireturn, 1) := by decide +kernel
theorem dL_future_0 : decode method_10_code 0 = .ok (.aload_n 2, 1) := by decide +kernel
theorem dL_future_1 : decode method_10_code 1 = .ok (.iconst 0, 1) := by decide +kernel
theorem dL_future_2 : decode method_10_code 2 = .ok (.aload_n 0, 1) := by decide +kernel
theorem dL_future_3 : decode method_10_code 3 = .ok (.iload_n 1, 1) := by decide +kernel
theorem dL_future_4 : decode method_10_code 4 = .ok (.invokevirtual 45, 3) := by decide +kernel
theorem dL_future_7 : decode method_10_code 7 = .ok (.i2l, 1) := by decide +kernel
theorem dL_future_8 : decode method_10_code 8 = .ok (.lastore, 1) := by decide +kernel
theorem dL_future_9 : decode method_10_code 9 = .ok (.goto 9, 3) := by decide +kernel
theorem dL_future_12 : decode method_10_code 12 = .ok (.astore_n 3, 1) := by decide +kernel
theorem dL_future_13 : decode method_10_code 13 = .ok (.iconst 1, 1) := by decide +kernel
theorem dL_future_14 : decode method_10_code 14 = .ok (.ireturn, 1) := by decide +kernel
theorem dL_future_15 : decode method_10_code 15 = .ok (.astore_n 3, 1) := by decide +kernel
theorem dL_future_16 : decode method_10_code 16 = .ok (.iconst 2, 1) := by decide +kernel
theorem dL_future_17 : decode method_10_code 17 = .ok (.ireturn, 1) := by decide +kernel
theorem dL_future_18 : decode method_10_code 18 = .ok (.iconst 0, 1) := by decide +kernel
theorem dL_future_19 : decode method_10_code 19 = .ok (.ireturn, 1) := by decide +kernel
theorem dL_count_0 : decode method_11_code 0 = .ok (.aload_n 2, 1) := by decide +kernel
theorem dL_count_1 : decode method_11_code 1 = .ok (.iconst 0, 1) := by decide +kernel
theorem dL_count_2 : decode method_11_code 2 = .ok (.aload_n 0, 1) := by decide +kernel
theorem dL_count_3 : decode method_11_code 3 = .ok (.iload_n 1, 1) := by decide +kernel
theorem dL_count_4 : decode method_11_code 4 = .ok (.invokevirtual 48, 3) := by decide +kernel
theorem dL_count_7 : decode method_11_code 7 = .ok (.i2l, 1) := by decide +kernel
theorem dL_count_8 : decode method_11_code 8 = .ok (.lastore, 1) := by decide +kernel
theorem dL_count_9 : decode method_11_code 9 = .ok (.goto 6, 3) := by decide +kernel
theorem dL_count_12 : decode method_11_code 12 = .ok (.astore_n 3, 1) := by decide +kernel
theorem dL_count_13 : decode method_11_code 13 = .ok (.iconst 1, 1) := by decide +kernel
theorem dL_count_14 : decode method_11_code 14 = .ok (.ireturn, 1) := by decide +kernel
theorem dL_count_15 : decode method_11_code 15 = .ok (.iconst 0, 1) := by decide +kernel
theorem dL_count_16 : decode method_11_code 16 = .ok (.ireturn, 1) := by decide +kernel
theorem dL_law_0 : decode code 0 = .ok (.new 8, 3) := by decide +kernel
theorem dL_law_3 : decode code 3 = .ok (.dup, 1) := by decide +kernel
theorem dL_law_4 : decode code 4 = .ok (.invokespecial 51, 3) := by decide +kernel
theorem dL_law_7 : decode code 7 = .ok (.astore_n 1, 1) := by decide +kernel
theorem dL_law_8 : decode code 8 = .ok (.new 52, 3) := by decide +kernel
theorem dL_law_11 : decode code 11 = .ok (.dup, 1) := by decide +kernel
theorem dL_law_12 : decode code 12 = .ok (.invokespecial 54, 3) := by decide +kernel
theorem dL_law_15 : decode code 15 = .ok (.astore_n 2, 1) := by decide +kernel
theorem dL_law_16 : decode code 16 = .ok (.iconst 1, 1) := by decide +kernel
theorem dL_law_17 : decode code 17 = .ok (.newarray .long, 2) := by decide +kernel
theorem dL_law_19 : decode code 19 = .ok (.astore_n 3, 1) := by decide +kernel
theorem dL_law_20 : decode code 20 = .ok (.iconst 0, 1) := by decide +kernel
theorem dL_law_21 : decode code 21 = .ok (.istore 4, 2) := by decide +kernel
theorem dL_law_23 : decode code 23 = .ok (.iload 4, 2) := by decide +kernel
theorem dL_law_25 : decode code 25 = .ok (.aload_n 0, 1) := by decide +kernel
theorem dL_law_26 : decode code 26 = .ok (.arraylength, 1) := by decide +kernel
theorem dL_law_27 : decode code 27 = .ok (.iconst 5, 1) := by decide +kernel
theorem dL_law_28 : decode code 28 = .ok (.isub, 1) := by decide +kernel
theorem dL_law_29 : decode code 29 = .ok (.if_icmp .gt 609, 3) := by decide +kernel
theorem dL_law_32 : decode code 32 = .ok (.aload_n 0, 1) := by decide +kernel
theorem dL_law_33 : decode code 33 = .ok (.iload 4, 2) := by decide +kernel
theorem dL_law_35 : decode code 35 = .ok (.iaload, 1) := by decide +kernel
theorem dL_law_36 : decode code 36 = .ok (.bipush 15, 2) := by decide +kernel
theorem dL_law_38 : decode code 38 = .ok (.iand, 1) := by decide +kernel
theorem dL_law_39 : decode code 39 = .ok (.tableswitch 593 0 8 #[49, 105, 185, 257, 313, 357, 413, 481, 537], 49) := by decide +kernel
theorem dL_law_88 : decode code 88 = .ok (.aload_n 1, 1) := by decide +kernel
theorem dL_law_89 : decode code 89 = .ok (.aload_n 0, 1) := by decide +kernel
theorem dL_law_90 : decode code 90 = .ok (.iload 4, 2) := by decide +kernel
theorem dL_law_92 : decode code 92 = .ok (.iconst 1, 1) := by decide +kernel
theorem dL_law_93 : decode code 93 = .ok (.iadd, 1) := by decide +kernel
theorem dL_law_94 : decode code 94 = .ok (.iaload, 1) := by decide +kernel
theorem dL_law_95 : decode code 95 = .ok (.aload_n 3, 1) := by decide +kernel
theorem dL_law_96 : decode code 96 = .ok (.invokestatic 55, 3) := by decide +kernel
theorem dL_law_99 : decode code 99 = .ok (.istore 5, 2) := by decide +kernel
theorem dL_law_101 : decode code 101 = .ok (.aload_n 2, 1) := by decide +kernel
theorem dL_law_102 : decode code 102 = .ok (.aload_n 0, 1) := by decide +kernel
theorem dL_law_103 : decode code 103 = .ok (.iload 4, 2) := by decide +kernel
theorem dL_law_105 : decode code 105 = .ok (.iconst 1, 1) := by decide +kernel
theorem dL_law_106 : decode code 106 = .ok (.iadd, 1) := by decide +kernel
theorem dL_law_107 : decode code 107 = .ok (.iaload, 1) := by decide +kernel
theorem dL_law_108 : decode code 108 = .ok (.invokevirtual 60, 3) := by decide +kernel
theorem dL_law_111 : decode code 111 = .ok (.istore 6, 2) := by decide +kernel
theorem dL_law_113 : decode code 113 = .ok (.aload_n 2, 1) := by decide +kernel
theorem dL_law_114 : decode code 114 = .ok (.invokevirtual 61, 3) := by decide +kernel
theorem dL_law_117 : decode code 117 = .ok (.iload 5, 2) := by decide +kernel
theorem dL_law_119 : decode code 119 = .ok (.if_icmp .eq 5, 3) := by decide +kernel
theorem dL_law_122 : decode code 122 = .ok (.iconst 0, 1) := by decide +kernel
theorem dL_law_123 : decode code 123 = .ok (.ireturn, 1) := by decide +kernel
theorem dL_law_124 : decode code 124 = .ok (.iload 5, 2) := by decide +kernel
theorem dL_law_126 : decode code 126 = .ok (.ifCond .ne 15, 3) := by decide +kernel
theorem dL_law_129 : decode code 129 = .ok (.aload_n 3, 1) := by decide +kernel
theorem dL_law_130 : decode code 130 = .ok (.iconst 0, 1) := by decide +kernel
theorem dL_law_131 : decode code 131 = .ok (.laload, 1) := by decide +kernel
theorem dL_law_132 : decode code 132 = .ok (.iload 6, 2) := by decide +kernel
theorem dL_law_134 : decode code 134 = .ok (.i2l, 1) := by decide +kernel
theorem dL_law_135 : decode code 135 = .ok (.lcmp, 1) := by decide +kernel
theorem dL_law_136 : decode code 136 = .ok (.ifCond .eq 5, 3) := by decide +kernel
theorem dL_law_139 : decode code 139 = .ok (.iconst 0, 1) := by decide +kernel
theorem dL_law_140 : decode code 140 = .ok (.ireturn, 1) := by decide +kernel
theorem dL_law_141 : decode code 141 = .ok (.goto 491, 3) := by decide +kernel
theorem dL_law_144 : decode code 144 = .ok (.aload_n 1, 1) := by decide +kernel
theorem dL_law_145 : decode code 145 = .ok (.aload_n 0, 1) := by decide +kernel
theorem dL_law_146 : decode code 146 = .ok (.iload 4, 2) := by decide +kernel
theorem dL_law_148 : decode code 148 = .ok (.iconst 1, 1) := by decide +kernel
theorem dL_law_149 : decode code 149 = .ok (.iadd, 1) := by decide +kernel
theorem dL_law_150 : decode code 150 = .ok (.iaload, 1) := by decide +kernel
theorem dL_law_151 : decode code 151 = .ok (.aload_n 0, 1) := by decide +kernel
theorem dL_law_152 : decode code 152 = .ok (.iload 4, 2) := by decide +kernel
theorem dL_law_154 : decode code 154 = .ok (.iconst 2, 1) := by decide +kernel
theorem dL_law_155 : decode code 155 = .ok (.iadd, 1) := by decide +kernel
theorem dL_law_156 : decode code 156 = .ok (.iaload, 1) := by decide +kernel
theorem dL_law_157 : decode code 157 = .ok (.aload_n 0, 1) := by decide +kernel
theorem dL_law_158 : decode code 158 = .ok (.iload 4, 2) := by decide +kernel
theorem dL_law_160 : decode code 160 = .ok (.iconst 3, 1) := by decide +kernel
theorem dL_law_161 : decode code 161 = .ok (.iadd, 1) := by decide +kernel
theorem dL_law_162 : decode code 162 = .ok (.iaload, 1) := by decide +kernel
theorem dL_law_163 : decode code 163 = .ok (.aload_n 3, 1) := by decide +kernel
theorem dL_law_164 : decode code 164 = .ok (.invokestatic 64, 3) := by decide +kernel
theorem dL_law_167 : decode code 167 = .ok (.istore 5, 2) := by decide +kernel
theorem dL_law_169 : decode code 169 = .ok (.aload_n 2, 1) := by decide +kernel
theorem dL_law_170 : decode code 170 = .ok (.aload_n 0, 1) := by decide +kernel
theorem dL_law_171 : decode code 171 = .ok (.iload 4, 2) := by decide +kernel
theorem dL_law_173 : decode code 173 = .ok (.iconst 1, 1) := by decide +kernel
theorem dL_law_174 : decode code 174 = .ok (.iadd, 1) := by decide +kernel
theorem dL_law_175 : decode code 175 = .ok (.iaload, 1) := by decide +kernel
theorem dL_law_176 : decode code 176 = .ok (.aload_n 0, 1) := by decide +kernel
theorem dL_law_177 : decode code 177 = .ok (.iload 4, 2) := by decide +kernel
theorem dL_law_179 : decode code 179 = .ok (.iconst 2, 1) := by decide +kernel
theorem dL_law_180 : decode code 180 = .ok (.iadd, 1) := by decide +kernel
theorem dL_law_181 : decode code 181 = .ok (.iaload, 1) := by decide +kernel
theorem dL_law_182 : decode code 182 = .ok (.aload_n 0, 1) := by decide +kernel
theorem dL_law_183 : decode code 183 = .ok (.iload 4, 2) := by decide +kernel
theorem dL_law_185 : decode code 185 = .ok (.iconst 3, 1) := by decide +kernel
theorem dL_law_186 : decode code 186 = .ok (.iadd, 1) := by decide +kernel
theorem dL_law_187 : decode code 187 = .ok (.iaload, 1) := by decide +kernel
theorem dL_law_188 : decode code 188 = .ok (.invokevirtual 67, 3) := by decide +kernel
theorem dL_law_191 : decode code 191 = .ok (.istore 6, 2) := by decide +kernel
theorem dL_law_193 : decode code 193 = .ok (.aload_n 2, 1) := by decide +kernel
theorem dL_law_194 : decode code 194 = .ok (.invokevirtual 61, 3) := by decide +kernel
theorem dL_law_197 : decode code 197 = .ok (.iload 5, 2) := by decide +kernel
theorem dL_law_199 : decode code 199 = .ok (.if_icmp .eq 5, 3) := by decide +kernel
theorem dL_law_202 : decode code 202 = .ok (.iconst 0, 1) := by decide +kernel
theorem dL_law_203 : decode code 203 = .ok (.ireturn, 1) := by decide +kernel
theorem dL_law_204 : decode code 204 = .ok (.iload 5, 2) := by decide +kernel
theorem dL_law_206 : decode code 206 = .ok (.ifCond .ne 15, 3) := by decide +kernel
theorem dL_law_209 : decode code 209 = .ok (.aload_n 3, 1) := by decide +kernel
theorem dL_law_210 : decode code 210 = .ok (.iconst 0, 1) := by decide +kernel
theorem dL_law_211 : decode code 211 = .ok (.laload, 1) := by decide +kernel
theorem dL_law_212 : decode code 212 = .ok (.iload 6, 2) := by decide +kernel
theorem dL_law_214 : decode code 214 = .ok (.i2l, 1) := by decide +kernel
theorem dL_law_215 : decode code 215 = .ok (.lcmp, 1) := by decide +kernel
theorem dL_law_216 : decode code 216 = .ok (.ifCond .eq 5, 3) := by decide +kernel
theorem dL_law_219 : decode code 219 = .ok (.iconst 0, 1) := by decide +kernel
theorem dL_law_220 : decode code 220 = .ok (.ireturn, 1) := by decide +kernel
theorem dL_law_221 : decode code 221 = .ok (.goto 411, 3) := by decide +kernel
theorem dL_law_224 : decode code 224 = .ok (.aload_n 1, 1) := by decide +kernel
theorem dL_law_225 : decode code 225 = .ok (.aload_n 0, 1) := by decide +kernel
theorem dL_law_226 : decode code 226 = .ok (.iload 4, 2) := by decide +kernel
theorem dL_law_228 : decode code 228 = .ok (.iconst 1, 1) := by decide +kernel
theorem dL_law_229 : decode code 229 = .ok (.iadd, 1) := by decide +kernel
theorem dL_law_230 : decode code 230 = .ok (.iaload, 1) := by decide +kernel
theorem dL_law_231 : decode code 231 = .ok (.aload_n 0, 1) := by decide +kernel
theorem dL_law_232 : decode code 232 = .ok (.iload 4, 2) := by decide +kernel
theorem dL_law_234 : decode code 234 = .ok (.iconst 2, 1) := by decide +kernel
theorem dL_law_235 : decode code 235 = .ok (.iadd, 1) := by decide +kernel
theorem dL_law_236 : decode code 236 = .ok (.iaload, 1) := by decide +kernel
theorem dL_law_237 : decode code 237 = .ok (.aload_n 0, 1) := by decide +kernel
theorem dL_law_238 : decode code 238 = .ok (.iload 4, 2) := by decide +kernel
theorem dL_law_240 : decode code 240 = .ok (.iconst 3, 1) := by decide +kernel
theorem dL_law_241 : decode code 241 = .ok (.iadd, 1) := by decide +kernel
theorem dL_law_242 : decode code 242 = .ok (.iaload, 1) := by decide +kernel
theorem dL_law_243 : decode code 243 = .ok (.aload_n 0, 1) := by decide +kernel
theorem dL_law_244 : decode code 244 = .ok (.iload 4, 2) := by decide +kernel
theorem dL_law_246 : decode code 246 = .ok (.iconst 4, 1) := by decide +kernel
theorem dL_law_247 : decode code 247 = .ok (.iadd, 1) := by decide +kernel
theorem dL_law_248 : decode code 248 = .ok (.iaload, 1) := by decide +kernel
theorem dL_law_249 : decode code 249 = .ok (.invokestatic 68, 3) := by decide +kernel
theorem dL_law_252 : decode code 252 = .ok (.istore 5, 2) := by decide +kernel
theorem dL_law_254 : decode code 254 = .ok (.aload_n 2, 1) := by decide +kernel
theorem dL_law_255 : decode code 255 = .ok (.aload_n 0, 1) := by decide +kernel
theorem dL_law_256 : decode code 256 = .ok (.iload 4, 2) := by decide +kernel
theorem dL_law_258 : decode code 258 = .ok (.iconst 1, 1) := by decide +kernel
theorem dL_law_259 : decode code 259 = .ok (.iadd, 1) := by decide +kernel
theorem dL_law_260 : decode code 260 = .ok (.iaload, 1) := by decide +kernel
theorem dL_law_261 : decode code 261 = .ok (.aload_n 0, 1) := by decide +kernel
theorem dL_law_262 : decode code 262 = .ok (.iload 4, 2) := by decide +kernel
theorem dL_law_264 : decode code 264 = .ok (.iconst 2, 1) := by decide +kernel
theorem dL_law_265 : decode code 265 = .ok (.iadd, 1) := by decide +kernel
theorem dL_law_266 : decode code 266 = .ok (.iaload, 1) := by decide +kernel
theorem dL_law_267 : decode code 267 = .ok (.aload_n 0, 1) := by decide +kernel
theorem dL_law_268 : decode code 268 = .ok (.iload 4, 2) := by decide +kernel
theorem dL_law_270 : decode code 270 = .ok (.iconst 3, 1) := by decide +kernel
theorem dL_law_271 : decode code 271 = .ok (.iadd, 1) := by decide +kernel
theorem dL_law_272 : decode code 272 = .ok (.iaload, 1) := by decide +kernel
theorem dL_law_273 : decode code 273 = .ok (.aload_n 0, 1) := by decide +kernel
theorem dL_law_274 : decode code 274 = .ok (.iload 4, 2) := by decide +kernel
theorem dL_law_276 : decode code 276 = .ok (.iconst 4, 1) := by decide +kernel
theorem dL_law_277 : decode code 277 = .ok (.iadd, 1) := by decide +kernel
theorem dL_law_278 : decode code 278 = .ok (.iaload, 1) := by decide +kernel
theorem dL_law_279 : decode code 279 = .ok (.invokevirtual 71, 3) := by decide +kernel
theorem dL_law_282 : decode code 282 = .ok (.aload_n 2, 1) := by decide +kernel
theorem dL_law_283 : decode code 283 = .ok (.invokevirtual 61, 3) := by decide +kernel
theorem dL_law_286 : decode code 286 = .ok (.iload 5, 2) := by decide +kernel
theorem dL_law_288 : decode code 288 = .ok (.if_icmp .eq 5, 3) := by decide +kernel
theorem dL_law_291 : decode code 291 = .ok (.iconst 0, 1) := by decide +kernel
theorem dL_law_292 : decode code 292 = .ok (.ireturn, 1) := by decide +kernel
theorem dL_law_293 : decode code 293 = .ok (.goto 339, 3) := by decide +kernel
theorem dL_law_296 : decode code 296 = .ok (.aload_n 1, 1) := by decide +kernel
theorem dL_law_297 : decode code 297 = .ok (.aload_n 0, 1) := by decide +kernel
theorem dL_law_298 : decode code 298 = .ok (.iload 4, 2) := by decide +kernel
theorem dL_law_300 : decode code 300 = .ok (.iconst 1, 1) := by decide +kernel
theorem dL_law_301 : decode code 301 = .ok (.iadd, 1) := by decide +kernel
theorem dL_law_302 : decode code 302 = .ok (.iaload, 1) := by decide +kernel
theorem dL_law_303 : decode code 303 = .ok (.aload_n 3, 1) := by decide +kernel
theorem dL_law_304 : decode code 304 = .ok (.invokestatic 72, 3) := by decide +kernel
theorem dL_law_307 : decode code 307 = .ok (.istore 5, 2) := by decide +kernel
theorem dL_law_309 : decode code 309 = .ok (.aload_n 2, 1) := by decide +kernel
theorem dL_law_310 : decode code 310 = .ok (.aload_n 0, 1) := by decide +kernel
theorem dL_law_311 : decode code 311 = .ok (.iload 4, 2) := by decide +kernel
theorem dL_law_313 : decode code 313 = .ok (.iconst 1, 1) := by decide +kernel
theorem dL_law_314 : decode code 314 = .ok (.iadd, 1) := by decide +kernel
theorem dL_law_315 : decode code 315 = .ok (.iaload, 1) := by decide +kernel
theorem dL_law_316 : decode code 316 = .ok (.invokevirtual 74, 3) := by decide +kernel
theorem dL_law_319 : decode code 319 = .ok (.istore 6, 2) := by decide +kernel
theorem dL_law_321 : decode code 321 = .ok (.aload_n 2, 1) := by decide +kernel
theorem dL_law_322 : decode code 322 = .ok (.invokevirtual 61, 3) := by decide +kernel
theorem dL_law_325 : decode code 325 = .ok (.iload 5, 2) := by decide +kernel
theorem dL_law_327 : decode code 327 = .ok (.if_icmp .eq 5, 3) := by decide +kernel
theorem dL_law_330 : decode code 330 = .ok (.iconst 0, 1) := by decide +kernel
theorem dL_law_331 : decode code 331 = .ok (.ireturn, 1) := by decide +kernel
theorem dL_law_332 : decode code 332 = .ok (.iload 5, 2) := by decide +kernel
theorem dL_law_334 : decode code 334 = .ok (.ifCond .ne 15, 3) := by decide +kernel
theorem dL_law_337 : decode code 337 = .ok (.aload_n 3, 1) := by decide +kernel
theorem dL_law_338 : decode code 338 = .ok (.iconst 0, 1) := by decide +kernel
theorem dL_law_339 : decode code 339 = .ok (.laload, 1) := by decide +kernel
theorem dL_law_340 : decode code 340 = .ok (.iload 6, 2) := by decide +kernel
theorem dL_law_342 : decode code 342 = .ok (.i2l, 1) := by decide +kernel
theorem dL_law_343 : decode code 343 = .ok (.lcmp, 1) := by decide +kernel
theorem dL_law_344 : decode code 344 = .ok (.ifCond .eq 5, 3) := by decide +kernel
theorem dL_law_347 : decode code 347 = .ok (.iconst 0, 1) := by decide +kernel
theorem dL_law_348 : decode code 348 = .ok (.ireturn, 1) := by decide +kernel
theorem dL_law_349 : decode code 349 = .ok (.goto 283, 3) := by decide +kernel
theorem dL_law_352 : decode code 352 = .ok (.aload_n 1, 1) := by decide +kernel
theorem dL_law_353 : decode code 353 = .ok (.aload_n 3, 1) := by decide +kernel
theorem dL_law_354 : decode code 354 = .ok (.invokestatic 75, 3) := by decide +kernel
theorem dL_law_357 : decode code 357 = .ok (.istore 5, 2) := by decide +kernel
theorem dL_law_359 : decode code 359 = .ok (.aload_n 2, 1) := by decide +kernel
theorem dL_law_360 : decode code 360 = .ok (.invokevirtual 78, 3) := by decide +kernel
theorem dL_law_363 : decode code 363 = .ok (.istore 6, 2) := by decide +kernel
theorem dL_law_365 : decode code 365 = .ok (.aload_n 2, 1) := by decide +kernel
theorem dL_law_366 : decode code 366 = .ok (.invokevirtual 61, 3) := by decide +kernel
theorem dL_law_369 : decode code 369 = .ok (.iload 5, 2) := by decide +kernel
theorem dL_law_371 : decode code 371 = .ok (.if_icmp .eq 5, 3) := by decide +kernel
theorem dL_law_374 : decode code 374 = .ok (.iconst 0, 1) := by decide +kernel
theorem dL_law_375 : decode code 375 = .ok (.ireturn, 1) := by decide +kernel
theorem dL_law_376 : decode code 376 = .ok (.iload 5, 2) := by decide +kernel
theorem dL_law_378 : decode code 378 = .ok (.ifCond .ne 15, 3) := by decide +kernel
theorem dL_law_381 : decode code 381 = .ok (.aload_n 3, 1) := by decide +kernel
theorem dL_law_382 : decode code 382 = .ok (.iconst 0, 1) := by decide +kernel
theorem dL_law_383 : decode code 383 = .ok (.laload, 1) := by decide +kernel
theorem dL_law_384 : decode code 384 = .ok (.iload 6, 2) := by decide +kernel
theorem dL_law_386 : decode code 386 = .ok (.i2l, 1) := by decide +kernel
theorem dL_law_387 : decode code 387 = .ok (.lcmp, 1) := by decide +kernel
theorem dL_law_388 : decode code 388 = .ok (.ifCond .eq 5, 3) := by decide +kernel
theorem dL_law_391 : decode code 391 = .ok (.iconst 0, 1) := by decide +kernel
theorem dL_law_392 : decode code 392 = .ok (.ireturn, 1) := by decide +kernel
theorem dL_law_393 : decode code 393 = .ok (.goto 239, 3) := by decide +kernel
theorem dL_law_396 : decode code 396 = .ok (.aload_n 1, 1) := by decide +kernel
theorem dL_law_397 : decode code 397 = .ok (.aload_n 0, 1) := by decide +kernel
theorem dL_law_398 : decode code 398 = .ok (.iload 4, 2) := by decide +kernel
theorem dL_law_400 : decode code 400 = .ok (.iconst 1, 1) := by decide +kernel
theorem dL_law_401 : decode code 401 = .ok (.iadd, 1) := by decide +kernel
theorem dL_law_402 : decode code 402 = .ok (.iaload, 1) := by decide +kernel
theorem dL_law_403 : decode code 403 = .ok (.aload_n 3, 1) := by decide +kernel
theorem dL_law_404 : decode code 404 = .ok (.invokestatic 79, 3) := by decide +kernel
theorem dL_law_407 : decode code 407 = .ok (.istore 5, 2) := by decide +kernel
theorem dL_law_409 : decode code 409 = .ok (.aload_n 2, 1) := by decide +kernel
theorem dL_law_410 : decode code 410 = .ok (.aload_n 0, 1) := by decide +kernel
theorem dL_law_411 : decode code 411 = .ok (.iload 4, 2) := by decide +kernel
theorem dL_law_413 : decode code 413 = .ok (.iconst 1, 1) := by decide +kernel
theorem dL_law_414 : decode code 414 = .ok (.iadd, 1) := by decide +kernel
theorem dL_law_415 : decode code 415 = .ok (.iaload, 1) := by decide +kernel
theorem dL_law_416 : decode code 416 = .ok (.invokevirtual 81, 3) := by decide +kernel
theorem dL_law_419 : decode code 419 = .ok (.istore 6, 2) := by decide +kernel
theorem dL_law_421 : decode code 421 = .ok (.aload_n 2, 1) := by decide +kernel
theorem dL_law_422 : decode code 422 = .ok (.invokevirtual 61, 3) := by decide +kernel
theorem dL_law_425 : decode code 425 = .ok (.iload 5, 2) := by decide +kernel
theorem dL_law_427 : decode code 427 = .ok (.if_icmp .eq 5, 3) := by decide +kernel
theorem dL_law_430 : decode code 430 = .ok (.iconst 0, 1) := by decide +kernel
theorem dL_law_431 : decode code 431 = .ok (.ireturn, 1) := by decide +kernel
theorem dL_law_432 : decode code 432 = .ok (.iload 5, 2) := by decide +kernel
theorem dL_law_434 : decode code 434 = .ok (.ifCond .ne 15, 3) := by decide +kernel
theorem dL_law_437 : decode code 437 = .ok (.aload_n 3, 1) := by decide +kernel
theorem dL_law_438 : decode code 438 = .ok (.iconst 0, 1) := by decide +kernel
theorem dL_law_439 : decode code 439 = .ok (.laload, 1) := by decide +kernel
theorem dL_law_440 : decode code 440 = .ok (.iload 6, 2) := by decide +kernel
theorem dL_law_442 : decode code 442 = .ok (.i2l, 1) := by decide +kernel
theorem dL_law_443 : decode code 443 = .ok (.lcmp, 1) := by decide +kernel
theorem dL_law_444 : decode code 444 = .ok (.ifCond .eq 5, 3) := by decide +kernel
theorem dL_law_447 : decode code 447 = .ok (.iconst 0, 1) := by decide +kernel
theorem dL_law_448 : decode code 448 = .ok (.ireturn, 1) := by decide +kernel
theorem dL_law_449 : decode code 449 = .ok (.goto 183, 3) := by decide +kernel
theorem dL_law_452 : decode code 452 = .ok (.aload_n 1, 1) := by decide +kernel
theorem dL_law_453 : decode code 453 = .ok (.aload_n 0, 1) := by decide +kernel
theorem dL_law_454 : decode code 454 = .ok (.iload 4, 2) := by decide +kernel
theorem dL_law_456 : decode code 456 = .ok (.iconst 1, 1) := by decide +kernel
theorem dL_law_457 : decode code 457 = .ok (.iadd, 1) := by decide +kernel
theorem dL_law_458 : decode code 458 = .ok (.iaload, 1) := by decide +kernel
theorem dL_law_459 : decode code 459 = .ok (.aload_n 0, 1) := by decide +kernel
theorem dL_law_460 : decode code 460 = .ok (.iload 4, 2) := by decide +kernel
theorem dL_law_462 : decode code 462 = .ok (.iconst 2, 1) := by decide +kernel
theorem dL_law_463 : decode code 463 = .ok (.iadd, 1) := by decide +kernel
theorem dL_law_464 : decode code 464 = .ok (.iaload, 1) := by decide +kernel
theorem dL_law_465 : decode code 465 = .ok (.aload_n 3, 1) := by decide +kernel
theorem dL_law_466 : decode code 466 = .ok (.invokestatic 82, 3) := by decide +kernel
theorem dL_law_469 : decode code 469 = .ok (.istore 5, 2) := by decide +kernel
theorem dL_law_471 : decode code 471 = .ok (.aload_n 2, 1) := by decide +kernel
theorem dL_law_472 : decode code 472 = .ok (.aload_n 0, 1) := by decide +kernel
theorem dL_law_473 : decode code 473 = .ok (.iload 4, 2) := by decide +kernel
theorem dL_law_475 : decode code 475 = .ok (.iconst 1, 1) := by decide +kernel
theorem dL_law_476 : decode code 476 = .ok (.iadd, 1) := by decide +kernel
theorem dL_law_477 : decode code 477 = .ok (.iaload, 1) := by decide +kernel
theorem dL_law_478 : decode code 478 = .ok (.aload_n 0, 1) := by decide +kernel
theorem dL_law_479 : decode code 479 = .ok (.iload 4, 2) := by decide +kernel
theorem dL_law_481 : decode code 481 = .ok (.iconst 2, 1) := by decide +kernel
theorem dL_law_482 : decode code 482 = .ok (.iadd, 1) := by decide +kernel
theorem dL_law_483 : decode code 483 = .ok (.iaload, 1) := by decide +kernel
theorem dL_law_484 : decode code 484 = .ok (.invokevirtual 85, 3) := by decide +kernel
theorem dL_law_487 : decode code 487 = .ok (.istore 6, 2) := by decide +kernel
theorem dL_law_489 : decode code 489 = .ok (.aload_n 2, 1) := by decide +kernel
theorem dL_law_490 : decode code 490 = .ok (.invokevirtual 61, 3) := by decide +kernel
theorem dL_law_493 : decode code 493 = .ok (.iload 5, 2) := by decide +kernel
theorem dL_law_495 : decode code 495 = .ok (.if_icmp .eq 5, 3) := by decide +kernel
theorem dL_law_498 : decode code 498 = .ok (.iconst 0, 1) := by decide +kernel
theorem dL_law_499 : decode code 499 = .ok (.ireturn, 1) := by decide +kernel
theorem dL_law_500 : decode code 500 = .ok (.iload 5, 2) := by decide +kernel
theorem dL_law_502 : decode code 502 = .ok (.ifCond .ne 15, 3) := by decide +kernel
theorem dL_law_505 : decode code 505 = .ok (.aload_n 3, 1) := by decide +kernel
theorem dL_law_506 : decode code 506 = .ok (.iconst 0, 1) := by decide +kernel
theorem dL_law_507 : decode code 507 = .ok (.laload, 1) := by decide +kernel
theorem dL_law_508 : decode code 508 = .ok (.iload 6, 2) := by decide +kernel
theorem dL_law_510 : decode code 510 = .ok (.i2l, 1) := by decide +kernel
theorem dL_law_511 : decode code 511 = .ok (.lcmp, 1) := by decide +kernel
theorem dL_law_512 : decode code 512 = .ok (.ifCond .eq 5, 3) := by decide +kernel
theorem dL_law_515 : decode code 515 = .ok (.iconst 0, 1) := by decide +kernel
theorem dL_law_516 : decode code 516 = .ok (.ireturn, 1) := by decide +kernel
theorem dL_law_517 : decode code 517 = .ok (.goto 115, 3) := by decide +kernel
theorem dL_law_520 : decode code 520 = .ok (.aload_n 1, 1) := by decide +kernel
theorem dL_law_521 : decode code 521 = .ok (.aload_n 0, 1) := by decide +kernel
theorem dL_law_522 : decode code 522 = .ok (.iload 4, 2) := by decide +kernel
theorem dL_law_524 : decode code 524 = .ok (.iconst 1, 1) := by decide +kernel
theorem dL_law_525 : decode code 525 = .ok (.iadd, 1) := by decide +kernel
theorem dL_law_526 : decode code 526 = .ok (.iaload, 1) := by decide +kernel
theorem dL_law_527 : decode code 527 = .ok (.aload_n 3, 1) := by decide +kernel
theorem dL_law_528 : decode code 528 = .ok (.invokestatic 86, 3) := by decide +kernel
theorem dL_law_531 : decode code 531 = .ok (.istore 5, 2) := by decide +kernel
theorem dL_law_533 : decode code 533 = .ok (.aload_n 2, 1) := by decide +kernel
theorem dL_law_534 : decode code 534 = .ok (.aload_n 0, 1) := by decide +kernel
theorem dL_law_535 : decode code 535 = .ok (.iload 4, 2) := by decide +kernel
theorem dL_law_537 : decode code 537 = .ok (.iconst 1, 1) := by decide +kernel
theorem dL_law_538 : decode code 538 = .ok (.iadd, 1) := by decide +kernel
theorem dL_law_539 : decode code 539 = .ok (.iaload, 1) := by decide +kernel
theorem dL_law_540 : decode code 540 = .ok (.invokevirtual 88, 3) := by decide +kernel
theorem dL_law_543 : decode code 543 = .ok (.istore 6, 2) := by decide +kernel
theorem dL_law_545 : decode code 545 = .ok (.aload_n 2, 1) := by decide +kernel
theorem dL_law_546 : decode code 546 = .ok (.invokevirtual 61, 3) := by decide +kernel
theorem dL_law_549 : decode code 549 = .ok (.iload 5, 2) := by decide +kernel
theorem dL_law_551 : decode code 551 = .ok (.if_icmp .eq 5, 3) := by decide +kernel
theorem dL_law_554 : decode code 554 = .ok (.iconst 0, 1) := by decide +kernel
theorem dL_law_555 : decode code 555 = .ok (.ireturn, 1) := by decide +kernel
theorem dL_law_556 : decode code 556 = .ok (.iload 5, 2) := by decide +kernel
theorem dL_law_558 : decode code 558 = .ok (.ifCond .ne 15, 3) := by decide +kernel
theorem dL_law_561 : decode code 561 = .ok (.aload_n 3, 1) := by decide +kernel
theorem dL_law_562 : decode code 562 = .ok (.iconst 0, 1) := by decide +kernel
theorem dL_law_563 : decode code 563 = .ok (.laload, 1) := by decide +kernel
theorem dL_law_564 : decode code 564 = .ok (.iload 6, 2) := by decide +kernel
theorem dL_law_566 : decode code 566 = .ok (.i2l, 1) := by decide +kernel
theorem dL_law_567 : decode code 567 = .ok (.lcmp, 1) := by decide +kernel
theorem dL_law_568 : decode code 568 = .ok (.ifCond .eq 5, 3) := by decide +kernel
theorem dL_law_571 : decode code 571 = .ok (.iconst 0, 1) := by decide +kernel
theorem dL_law_572 : decode code 572 = .ok (.ireturn, 1) := by decide +kernel
theorem dL_law_573 : decode code 573 = .ok (.goto 59, 3) := by decide +kernel
theorem dL_law_576 : decode code 576 = .ok (.aload_n 1, 1) := by decide +kernel
theorem dL_law_577 : decode code 577 = .ok (.aload_n 0, 1) := by decide +kernel
theorem dL_law_578 : decode code 578 = .ok (.iload 4, 2) := by decide +kernel
theorem dL_law_580 : decode code 580 = .ok (.iconst 1, 1) := by decide +kernel
theorem dL_law_581 : decode code 581 = .ok (.iadd, 1) := by decide +kernel
theorem dL_law_582 : decode code 582 = .ok (.iaload, 1) := by decide +kernel
theorem dL_law_583 : decode code 583 = .ok (.aload_n 3, 1) := by decide +kernel
theorem dL_law_584 : decode code 584 = .ok (.invokestatic 89, 3) := by decide +kernel
theorem dL_law_587 : decode code 587 = .ok (.istore 5, 2) := by decide +kernel
theorem dL_law_589 : decode code 589 = .ok (.aload_n 2, 1) := by decide +kernel
theorem dL_law_590 : decode code 590 = .ok (.aload_n 0, 1) := by decide +kernel
theorem dL_law_591 : decode code 591 = .ok (.iload 4, 2) := by decide +kernel
theorem dL_law_593 : decode code 593 = .ok (.iconst 1, 1) := by decide +kernel
theorem dL_law_594 : decode code 594 = .ok (.iadd, 1) := by decide +kernel
theorem dL_law_595 : decode code 595 = .ok (.iaload, 1) := by decide +kernel
theorem dL_law_596 : decode code 596 = .ok (.invokevirtual 91, 3) := by decide +kernel
theorem dL_law_599 : decode code 599 = .ok (.istore 6, 2) := by decide +kernel
theorem dL_law_601 : decode code 601 = .ok (.aload_n 2, 1) := by decide +kernel
theorem dL_law_602 : decode code 602 = .ok (.invokevirtual 61, 3) := by decide +kernel
theorem dL_law_605 : decode code 605 = .ok (.iload 5, 2) := by decide +kernel
theorem dL_law_607 : decode code 607 = .ok (.if_icmp .eq 5, 3) := by decide +kernel
theorem dL_law_610 : decode code 610 = .ok (.iconst 0, 1) := by decide +kernel
theorem dL_law_611 : decode code 611 = .ok (.ireturn, 1) := by decide +kernel
theorem dL_law_612 : decode code 612 = .ok (.iload 5, 2) := by decide +kernel
theorem dL_law_614 : decode code 614 = .ok (.ifCond .ne 15, 3) := by decide +kernel
theorem dL_law_617 : decode code 617 = .ok (.aload_n 3, 1) := by decide +kernel
theorem dL_law_618 : decode code 618 = .ok (.iconst 0, 1) := by decide +kernel
theorem dL_law_619 : decode code 619 = .ok (.laload, 1) := by decide +kernel
theorem dL_law_620 : decode code 620 = .ok (.iload 6, 2) := by decide +kernel
theorem dL_law_622 : decode code 622 = .ok (.i2l, 1) := by decide +kernel
theorem dL_law_623 : decode code 623 = .ok (.lcmp, 1) := by decide +kernel
theorem dL_law_624 : decode code 624 = .ok (.ifCond .eq 5, 3) := by decide +kernel
theorem dL_law_627 : decode code 627 = .ok (.iconst 0, 1) := by decide +kernel
theorem dL_law_628 : decode code 628 = .ok (.ireturn, 1) := by decide +kernel
theorem dL_law_629 : decode code 629 = .ok (.goto 3, 3) := by decide +kernel
theorem dL_law_632 : decode code 632 = .ok (.iinc 4 5, 3) := by decide +kernel
theorem dL_law_635 : decode code 635 = .ok (.goto (-612), 3) := by decide +kernel
theorem dL_law_638 : decode code 638 = .ok (.iconst 1, 1) := by decide +kernel
theorem dL_law_639 : decode code 639 = .ok (.ireturn, 1) := by decide +kernel
