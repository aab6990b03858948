theorem dL_body_0 : decode method_3_code 0 = .ok (.aload_n 2, 1) := by decide +kernel
theorem dL_body_1 : decode method_3_code 1 = .ok (.iconst 0, 1) := by decide +kernel
theorem dL_body_2 : decode method_3_code 2 = .ok (.aload_n 0, 1) := by decide +kernel
theorem dL_body_3 : decode method_3_code 3 = .ok (.iload_n 1, 1) := by decide +kernel
theorem dL_body_4 : decode method_3_code 4 = .ok (.invokevirtual 7, 3) := by decide +kernel
theorem dL_body_7 : decode method_3_code 7 = .ok (.i2l, 1) := by decide +kernel
theorem dL_body_8 : decode method_3_code 8 = .ok (.lastore, 1) := by decide +kernel
theorem dL_body_9 : decode method_3_code 9 = .ok (.goto 6, 3) := by decide +kernel
theorem dL_body_12 : decode method_3_code 12 = .ok (.astore_n 3, 1) := by decide +kernel
theorem dL_body_13 : decode method_3_code 13 = .ok (.iconst 1, 1) := by decide +kernel
theorem dL_body_14 : decode method_3_code 14 = .ok (.ireturn, 1) := by decide +kernel
theorem dL_body_15 : decode method_3_code 15 = .ok (.iconst 0, 1) := by decide +kernel
theorem dL_body_16 : decode method_3_code 16 = .ok (.ireturn, 1) := by decide +kernel
theorem dL_add_0 : decode method_4_code 0 = .ok (.aload 4, 2) := by decide +kernel
theorem dL_add_2 : decode method_4_code 2 = .ok (.iconst 0, 1) := by decide +kernel
theorem dL_add_3 : decode method_4_code 3 = .ok (.aload_n 0, 1) := by decide +kernel
theorem dL_add_4 : decode method_4_code 4 = .ok (.iload_n 1, 1) := by decide +kernel
theorem dL_add_5 : decode method_4_code 5 = .ok (.iload_n 2, 1) := by decide +kernel
theorem dL_add_6 : decode method_4_code 6 = .ok (.iload_n 3, 1) := by decide +kernel
theorem dL_add_7 : decode method_4_code 7 = .ok (.invokevirtual 15, 3) := by decide +kernel
theorem dL_add_10 : decode method_4_code 10 = .ok (.i2l, 1) := by decide +kernel
theorem dL_add_11 : decode method_4_code 11 = .ok (.lastore, 1) := by decide +kernel
theorem dL_add_12 : decode method_4_code 12 = .ok (.goto 11, 3) := by decide +kernel
theorem dL_add_15 : decode method_4_code 15 = .ok (.astore 5, 2) := by decide +kernel
theorem dL_add_17 : decode method_4_code 17 = .ok (.iconst 1, 1) := by decide +kernel
theorem dL_add_18 : decode method_4_code 18 = .ok (.ireturn, 1) := by decide +kernel
theorem dL_add_19 : decode method_4_code 19 = .ok (.astore 5, 2) := by decide +kernel
theorem dL_add_21 : decode method_4_code 21 = .ok (.iconst 2, 1) := by decide +kernel
theorem dL_add_22 : decode method_4_code 22 = .ok (.ireturn, 1) := by decide +kernel
theorem dL_add_23 : decode method_4_code 23 = .ok (.iconst 0, 1) := by decide +kernel
theorem dL_add_24 : decode method_4_code 24 = .ok (.ireturn, 1) := by decide +kernel
theorem dL_begin_0 : decode method_5_code 0 = .ok (.aload_n 0, 1) := by decide +kernel
theorem dL_begin_1 : decode method_5_code 1 = .ok (.iload_n 1, 1) := by decide +kernel
theorem dL_begin_2 : decode method_5_code 2 = .ok (.iload_n 2, 1) := by decide +kernel
theorem dL_begin_3 : decode method_5_code 3 = .ok (.iload_n 3, 1) := by decide +kernel
theorem dL_begin_4 : decode method_5_code 4 = .ok (.iload 4, 2) := by decide +kernel
theorem dL_begin_6 : decode method_5_code 6 = .ok (.invokevirtual 21, 3) := by decide +kernel
theorem dL_begin_9 : decode method_5_code 9 = .ok (.goto 7, 3) := by decide +kernel
theorem dL_begin_12 : decode method_5_code 12 = .ok (.astore 5, 2) := by decide +kernel
theorem dL_begin_14 : decode method_5_code 14 = .ok (.iconst 1, 1) := by decide +kernel
theorem dL_begin_15 : decode method_5_code 15 = .ok (.ireturn, 1) := by decide +kernel
theorem dL_begin_16 : decode method_5_code 16 = .ok (.iconst 0, 1) := by decide +kernel
theorem dL_begin_17 : decode method_5_code 17 = .ok (.ireturn, 1) := by decide +kernel
theorem dL_run_0 : decode method_6_code 0 = .ok (.aload_n 2, 1) := by decide +kernel
theorem dL_run_1 : decode method_6_code 1 = .ok (.iconst 0, 1) := by decide +kernel
theorem dL_run_2 : decode method_6_code 2 = .ok (.aload_n 0, 1) := by decide +kernel
theorem dL_run_3 : decode method_6_code 3 = .ok (.iload_n 1, 1) := by decide +kernel
theorem dL_run_4 : decode method_6_code 4 = .ok (.invokevirtual 25, 3) := by decide +kernel
theorem dL_run_7 : decode method_6_code 7 = .ok (.i2l, 1) := by decide +kernel
theorem dL_run_8 : decode method_6_code 8 = .ok (.lastore, 1) := by decide +kernel
theorem dL_run_9 : decode method_6_code 9 = .ok (.goto 12, 3) := by decide +kernel
theorem dL_run_12 : decode method_6_code 12 = .ok (.astore_n 3, 1) := by decide +kernel
theorem dL_run_13 : decode method_6_code 13 = .ok (.iconst 1, 1) := by decide +kernel
theorem dL_run_14 : decode method_6_code 14 = .ok (.ireturn, 1) := by decide +kernel
theorem dL_run_15 : decode method_6_code 15 = .ok (.astore_n 3, 1) := by decide +kernel
theorem dL_run_16 : decode method_6_code 16 = .ok (.iconst 2, 1) := by decide +kernel
theorem dL_run_17 : decode method_6_code 17 = .ok (.ireturn, 1) := by decide +kernel
theorem dL_run_18 : decode method_6_code 18 = .ok (.astore_n 3, 1) := by decide +kernel
theorem dL_run_19 : decode method_6_code 19 = .ok (.iconst 3, 1) := by decide +kernel
theorem dL_run_20 : decode method_6_code 20 = .ok (.ireturn, 1) := by decide +kernel
theorem dL_run_21 : decode method_6_code 21 = .ok (.iconst 0, 1) := by decide +kernel
theorem dL_run_22 : decode method_6_code 22 = .ok (.ireturn, 1) := by decide +kernel
theorem dL_result_0 : decode method_7_code 0 = .ok (.aload_n 1, 1) := by decide +kernel
theorem dL_result_1 : decode method_7_code 1 = .ok (.iconst 0, 1) := by decide +kernel
theorem dL_result_2 : decode method_7_code 2 = .ok (.aload_n 0, 1) := by decide +kernel
theorem dL_result_3 : decode method_7_code 3 = .ok (.invokevirtual 30, 3) := by decide +kernel
theorem dL_result_6 : decode method_7_code 6 = .ok (.i2l, 1) := by decide +kernel
theorem dL_result_7 : decode method_7_code 7 = .ok (.lastore, 1) := by decide +kernel
theorem dL_result_8 : decode method_7_code 8 = .ok (.goto 9, 3) := by decide +kernel
theorem dL_result_11 : decode method_7_code 11 = .ok (.astore_n 2, 1) := by decide +kernel
theorem dL_result_12 : decode method_7_code 12 = .ok (.iconst 1, 1) := by decide +kernel
theorem dL_result_13 : decode method_7_code 13 = .ok (.ireturn, 1) := by decide +kernel
theorem dL_result_14 : decode method_7_code 14 = .ok (.astore_n 2, 1) := by decide +kernel
theorem dL_result_15 : decode method_7_code 15 = .ok (.iconst 2, 1) := by decide +kernel
theorem dL_result_16 : decode method_7_code 16 = .ok (.ireturn, 1) := by decide +kernel
theorem dL_result_17 : decode method_7_code 17 = .ok (.iconst 0, 1) := by decide +kernel
theorem dL_result_18 : decode method_7_code 18 = .ok (.ireturn, 1) := by decide +kernel
theorem dL_said_0 : decode method_8_code 0 = .ok (.aload_n 2, 1) := by decide +kernel
theorem dL_said_1 : decode method_8_code 1 = .ok (.iconst 0, 1) := by decide +kernel
theorem dL_said_2 : decode method_8_code 2 = .ok (.aload_n 0, 1) := by decide +kernel
theorem dL_said_3 : decode method_8_code 3 = .ok (.iload_n 1, 1) := by decide +kernel
theorem dL_said_4 : decode method_8_code 4 = .ok (.invokevirtual 36, 3) := by decide +kernel
theorem dL_said_7 : decode method_8_code 7 = .ok (.i2l, 1) := by decide +kernel
theorem dL_said_8 : decode method_8_code 8 = .ok (.lastore, 1) := by decide +kernel
theorem dL_said_9 : decode method_8_code 9 = .ok (.goto 6, 3) := by decide +kernel
theorem dL_said_12 : decode method_8_code 12 = .ok (.astore_n 3, 1) := by decide +kernel
theorem dL_said_13 : decode method_8_code 13 = .ok (.iconst 1, 1) := by decide +kernel
theorem dL_said_14 : decode method_8_code 14 = .ok (.ireturn, 1) := by decide +kernel
theorem dL_said_15 : decode method_8_code 15 = .ok (.iconst 0, 1) := by decide +kernel
theorem dL_said_16 : decode method_8_code 16 = .ok (.ireturn, 1) := by decide +kernel
theorem dL_task_0 : decode method_9_code 0 = .ok (.aload_n 3, 1) := by decide +kernel
theorem dL_task_1 : decode method_9_code 1 = .ok (.iconst 0, 1) := by decide +kernel
theorem dL_task_2 : decode method_9_code 2 = .ok (.aload_n 0, 1) := by decide +kernel
theorem dL_task_3 : decode method_9_code 3 = .ok (.iload_n 1, 1) := by decide +kernel
theorem dL_task_4 : decode method_9_code 4 = .ok (.iload_n 2, 1) := by decide +kernel
theorem dL_task_5 : decode method_9_code 5 = .ok (.invokevirtual 41, 3) := by decide +kernel
theorem dL_task_8 : decode method_9_code 8 = .ok (.i2l, 1) := by decide +kernel
theorem dL_task_9 : decode method_9_code 9 = .ok (.lastore, 1) := by decide +kernel
theorem dL_task_10 : decode method_9_code 10 = .ok (.goto 11, 3) := by decide +kernel
theorem dL_task_13 : decode method_9_code 13 = .ok (.astore 4, 2) := by decide +kernel
theorem dL_task_15 : decode method_9_code 15 = .ok (.iconst 1, 1) := by decide +kernel
theorem dL_task_16 : decode method_9_code 16 = .ok (.ireturn, 1) := by decide +kernel
theorem dL_task_17 : decode method_9_code 17 = .ok (.astore 4, 2) := by decide +kernel
theorem dL_task_19 : decode method_9_code 19 = .ok (.iconst 2, 1) := by decide +kernel
theorem dL_task_20 : decode method_9_code 20 = .ok (.ireturn, 1) := by decide +kernel
theorem dL_task_21 : decode method_9_code 21 = .ok (.iconst 0, 1) := by decide +kernel
theorem dL_task_22 : decode method_9_code 22 = .ok (.ireturn, 1) := by decide +kernel
theorem dL_future_0 : decode method_10_code 0 = .ok (.aload_n 2, 1) := by decide +kernel
theorem dL_future_1 : decode method_10_code 1 = .ok (.iconst 0, 1) := by decide +kernel
theorem dL_future_2 : decode method_10_code 2 = .ok (.aload_n 0, 1) := by decide +kernel
theorem dL_future_3 : decode method_10_code 3 = .ok (.iload_n 1, 1) := by decide +kernel
theorem dL_future_4 : decode method_10_code 4 = .ok (.invokevirtual 45, 3) := by decide +kernel
theorem dL_future_7 : decode method_10_code 7 = .ok (.i2l, 1) := by decide +kernel
theorem dL_future_8 : decode method_10_code 8 = .ok (.lastore, 1) := by decide +kernel
theorem dL_future_9 : decode method_10_code 9 = .ok (.goto 9, 3) := by decide +kernel
theorem dL_future_12 : decode method_10_code 12 = .ok (.astore_n 3, 1) := by decide +kernel
theorem dL_future_13 : decode method_10_code 13 = .ok (.iconst 1, 1) := by decide +kernel
theorem dL_future_14 : decode method_10_code 14 = .ok (.ireturn, 1) := by decide +kernel
theorem dL_future_15 : decode method_10_code 15 = .ok (.astore_n 3, 1) := by decide +kernel
theorem dL_future_16 : decode method_10_code 16 = .ok (.iconst 2, 1) := by decide +kernel
theorem dL_future_17 : decode method_10_code 17 = .ok (.ireturn, 1) := by decide +kernel
theorem dL_future_18 : decode method_10_code 18 = .ok (.iconst 0, 1) := by decide +kernel
theorem dL_future_19 : decode method_10_code 19 = .ok (.ireturn, 1) := by decide +kernel
theorem dL_count_0 : decode method_11_code 0 = .ok (.aload_n 2, 1) := by decide +kernel
theorem dL_count_1 : decode method_11_code 1 = .ok (.iconst 0, 1) := by decide +kernel
theorem dL_count_2 : decode method_11_code 2 = .ok (.aload_n 0, 1) := by decide +kernel
theorem dL_count_3 : decode method_11_code 3 = .ok (.iload_n 1, 1) := by decide +kernel
theorem dL_count_4 : decode method_11_code 4 = .ok (.invokevirtual 48, 3) := by decide +kernel
theorem dL_count_7 : decode method_11_code 7 = .ok (.i2l, 1) := by decide +kernel
theorem dL_count_8 : decode method_11_code 8 = .ok (.lastore, 1) := by decide +kernel
theorem dL_count_9 : decode method_11_code 9 = .ok (.goto 6, 3) := by decide +kernel
theorem dL_count_12 : decode method_11_code 12 = .ok (.astore_n 3, 1) := by decide +kernel
theorem dL_count_13 : decode method_11_code 13 = .ok (.iconst 1, 1) := by decide +kernel
theorem dL_count_14 : decode method_11_code 14 = .ok (.ireturn, 1) := by decide +kernel
theorem dL_count_15 : decode method_11_code 15 = .ok (.iconst 0, 1) := by decide +kernel
theorem dL_count_16 : decode method_11_code 16 = .ok (.ireturn, 1) := by decide +kernel
theorem dL_law_0 : decode code 0 = .ok (.new 8, 3) := by decide +kernel
theorem dL_law_3 : decode code 3 = .ok (.dup, 1) := by decide +kernel
theorem dL_law_4 : decode code 4 = .ok (.invokespecial 51, 3) := by decide +kernel
theorem dL_law_7 : decode code 7 = .ok (.astore_n 1, 1) := by decide +kernel
theorem dL_law_8 : decode code 8 = .ok (.new 52, 3) := by decide +kernel
theorem dL_law_11 : decode code 11 = .ok (.dup, 1) := by decide +kernel
theorem dL_law_12 : decode code 12 = .ok (.invokespecial 54, 3) := by decide +kernel
theorem dL_law_15 : decode code 15 = .ok (.astore_n 2, 1) := by decide +kernel
theorem dL_law_16 : decode code 16 = .ok (.iconst 1, 1) := by decide +kernel
theorem dL_law_17 : decode code 17 = .ok (.newarray .long, 2) := by decide +kernel
theorem dL_law_19 : decode code 19 = .ok (.astore_n 3, 1) := by decide +kernel
theorem dL_law_20 : decode code 20 = .ok (.iconst 0, 1) := by decide +kernel
theorem dL_law_21 : decode code 21 = .ok (.istore 4, 2) := by decide +kernel
theorem dL_law_23 : decode code 23 = .ok (.iload 4, 2) := by decide +kernel
theorem dL_law_25 : decode code 25 = .ok (.aload_n 0, 1) := by decide +kernel
theorem dL_law_26 : decode code 26 = .ok (.arraylength, 1) := by decide +kernel
theorem dL_law_27 : decode code 27 = .ok (.iconst 5, 1) := by decide +kernel
theorem dL_law_28 : decode code 28 = .ok (.isub, 1) := by decide +kernel
theorem dL_law_29 : decode code 29 = .ok (.if_icmp .gt 402, 3) := by decide +kernel
theorem dL_law_32 : decode code 32 = .ok (.aload_n 0, 1) := by decide +kernel
theorem dL_law_33 : decode code 33 = .ok (.iload 4, 2) := by decide +kernel
theorem dL_law_35 : decode code 35 = .ok (.iaload, 1) := by decide +kernel
theorem dL_law_36 : decode code 36 = .ok (.bipush 15, 2) := by decide +kernel
theorem dL_law_38 : decode code 38 = .ok (.iand, 1) := by decide +kernel
theorem dL_law_39 : decode code 39 = .ok (.tableswitch 386 0 8 #[49, 77, 157, 218, 246, 262, 290, 330, 358], 49) := by decide +kernel
theorem dL_law_88 : decode code 88 = .ok (.aload_n 1, 1) := by decide +kernel
theorem dL_law_89 : decode code 89 = .ok (.aload_n 0, 1) := by decide +kernel
theorem dL_law_90 : decode code 90 = .ok (.iload 4, 2) := by decide +kernel
theorem dL_law_92 : decode code 92 = .ok (.iconst 1, 1) := by decide +kernel
theorem dL_law_93 : decode code 93 = .ok (.iadd, 1) := by decide +kernel
theorem dL_law_94 : decode code 94 = .ok (.iaload, 1) := by decide +kernel
theorem dL_law_95 : decode code 95 = .ok (.aload_n 3, 1) := by decide +kernel
theorem dL_law_96 : decode code 96 = .ok (.invokestatic 55, 3) := by decide +kernel
theorem dL_law_99 : decode code 99 = .ok (.istore 5, 2) := by decide +kernel
theorem dL_law_101 : decode code 101 = .ok (.aload_n 2, 1) := by decide +kernel
theorem dL_law_102 : decode code 102 = .ok (.aload_n 0, 1) := by decide +kernel
theorem dL_law_103 : decode code 103 = .ok (.iload 4, 2) := by decide +kernel
theorem dL_law_105 : decode code 105 = .ok (.iconst 1, 1) := by decide +kernel
theorem dL_law_106 : decode code 106 = .ok (.iadd, 1) := by decide +kernel
theorem dL_law_107 : decode code 107 = .ok (.iaload, 1) := by decide +kernel
theorem dL_law_108 : decode code 108 = .ok (.invokevirtual 60, 3) := by decide +kernel
theorem dL_law_111 : decode code 111 = .ok (.istore 6, 2) := by decide +kernel
theorem dL_law_113 : decode code 113 = .ok (.goto 312, 3) := by decide +kernel
theorem dL_law_116 : decode code 116 = .ok (.aload_n 1, 1) := by decide +kernel
theorem dL_law_117 : decode code 117 = .ok (.aload_n 0, 1) := by decide +kernel
theorem dL_law_118 : decode code 118 = .ok (.iload 4, 2) := by decide +kernel
theorem dL_law_120 : decode code 120 = .ok (.iconst 1, 1) := by decide +kernel
theorem dL_law_121 : decode code 121 = .ok (.iadd, 1) := by decide +kernel
theorem dL_law_122 : decode code 122 = .ok (.iaload, 1) := by decide +kernel
theorem dL_law_123 : decode code 123 = .ok (.aload_n 0, 1) := by decide +kernel
theorem dL_law_124 : decode code 124 = .ok (.iload 4, 2) := by decide +kernel
theorem dL_law_126 : decode code 126 = .ok (.iconst 2, 1) := by decide +kernel
theorem dL_law_127 : decode code 127 = .ok (.iadd, 1) := by decide +kernel
theorem dL_law_128 : decode code 128 = .ok (.iaload, 1) := by decide +kernel
theorem dL_law_129 : decode code 129 = .ok (.aload_n 0, 1) := by decide +kernel
theorem dL_law_130 : decode code 130 = .ok (.iload 4, 2) := by decide +kernel
theorem dL_law_132 : decode code 132 = .ok (.iconst 3, 1) := by decide +kernel
theorem dL_law_133 : decode code 133 = .ok (.iadd, 1) := by decide +kernel
theorem dL_law_134 : decode code 134 = .ok (.iaload, 1) := by decide +kernel
theorem dL_law_135 : decode code 135 = .ok (.aload_n 3, 1) := by decide +kernel
theorem dL_law_136 : decode code 136 = .ok (.invokestatic 61, 3) := by decide +kernel
theorem dL_law_139 : decode code 139 = .ok (.istore 5, 2) := by decide +kernel
theorem dL_law_141 : decode code 141 = .ok (.aload_n 2, 1) := by decide +kernel
theorem dL_law_142 : decode code 142 = .ok (.aload_n 0, 1) := by decide +kernel
theorem dL_law_143 : decode code 143 = .ok (.iload 4, 2) := by decide +kernel
theorem dL_law_145 : decode code 145 = .ok (.iconst 1, 1) := by decide +kernel
theorem dL_law_146 : decode code 146 = .ok (.iadd, 1) := by decide +kernel
theorem dL_law_147 : decode code 147 = .ok (.iaload, 1) := by decide +kernel
theorem dL_law_148 : decode code 148 = .ok (.aload_n 0, 1) := by decide +kernel
theorem dL_law_149 : decode code 149 = .ok (.iload 4, 2) := by decide +kernel
theorem dL_law_151 : decode code 151 = .ok (.iconst 2, 1) := by decide +kernel
theorem dL_law_152 : decode code 152 = .ok (.iadd, 1) := by decide +kernel
theorem dL_law_153 : decode code 153 = .ok (.iaload, 1) := by decide +kernel
theorem dL_law_154 : decode code 154 = .ok (.aload_n 0, 1) := by decide +kernel
theorem dL_law_155 : decode code 155 = .ok (.iload 4, 2) := by decide +kernel
theorem dL_law_157 : decode code 157 = .ok (.iconst 3, 1) := by decide +kernel
theorem dL_law_158 : decode code 158 = .ok (.iadd, 1) := by decide +kernel
theorem dL_law_159 : decode code 159 = .ok (.iaload, 1) := by decide +kernel
theorem dL_law_160 : decode code 160 = .ok (.invokevirtual 64, 3) := by decide +kernel
theorem dL_law_163 : decode code 163 = .ok (.istore 6, 2) := by decide +kernel
theorem dL_law_165 : decode code 165 = .ok (.aload_n 2, 1) := by decide +kernel
theorem dL_law_166 : decode code 166 = .ok (.invokevirtual 65, 3) := by decide +kernel
theorem dL_law_169 : decode code 169 = .ok (.iload 5, 2) := by decide +kernel
theorem dL_law_171 : decode code 171 = .ok (.if_icmp .eq 5, 3) := by decide +kernel
theorem dL_law_174 : decode code 174 = .ok (.iconst 0, 1) := by decide +kernel
theorem dL_law_175 : decode code 175 = .ok (.ireturn, 1) := by decide +kernel
theorem dL_law_176 : decode code 176 = .ok (.iload 5, 2) := by decide +kernel
theorem dL_law_178 : decode code 178 = .ok (.ifCond .ne 15, 3) := by decide +kernel
theorem dL_law_181 : decode code 181 = .ok (.aload_n 3, 1) := by decide +kernel
theorem dL_law_182 : decode code 182 = .ok (.iconst 0, 1) := by decide +kernel
theorem dL_law_183 : decode code 183 = .ok (.laload, 1) := by decide +kernel
theorem dL_law_184 : decode code 184 = .ok (.iload 6, 2) := by decide +kernel
theorem dL_law_186 : decode code 186 = .ok (.i2l, 1) := by decide +kernel
theorem dL_law_187 : decode code 187 = .ok (.lcmp, 1) := by decide +kernel
theorem dL_law_188 : decode code 188 = .ok (.ifCond .eq 5, 3) := by decide +kernel
theorem dL_law_191 : decode code 191 = .ok (.iconst 0, 1) := by decide +kernel
theorem dL_law_192 : decode code 192 = .ok (.ireturn, 1) := by decide +kernel
theorem dL_law_193 : decode code 193 = .ok (.goto 232, 3) := by decide +kernel
theorem dL_law_196 : decode code 196 = .ok (.aload_n 1, 1) := by decide +kernel
theorem dL_law_197 : decode code 197 = .ok (.aload_n 0, 1) := by decide +kernel
theorem dL_law_198 : decode code 198 = .ok (.iload 4, 2) := by decide +kernel
theorem dL_law_200 : decode code 200 = .ok (.iconst 1, 1) := by decide +kernel
theorem dL_law_201 : decode code 201 = .ok (.iadd, 1) := by decide +kernel
theorem dL_law_202 : decode code 202 = .ok (.iaload, 1) := by decide +kernel
theorem dL_law_203 : decode code 203 = .ok (.aload_n 0, 1) := by decide +kernel
theorem dL_law_204 : decode code 204 = .ok (.iload 4, 2) := by decide +kernel
theorem dL_law_206 : decode code 206 = .ok (.iconst 2, 1) := by decide +kernel
theorem dL_law_207 : decode code 207 = .ok (.iadd, 1) := by decide +kernel
theorem dL_law_208 : decode code 208 = .ok (.iaload, 1) := by decide +kernel
theorem dL_law_209 : decode code 209 = .ok (.aload_n 0, 1) := by decide +kernel
theorem dL_law_210 : decode code 210 = .ok (.iload 4, 2) := by decide +kernel
theorem dL_law_212 : decode code 212 = .ok (.iconst 3, 1) := by decide +kernel
theorem dL_law_213 : decode code 213 = .ok (.iadd, 1) := by decide +kernel
theorem dL_law_214 : decode code 214 = .ok (.iaload, 1) := by decide +kernel
theorem dL_law_215 : decode code 215 = .ok (.aload_n 0, 1) := by decide +kernel
theorem dL_law_216 : decode code 216 = .ok (.iload 4, 2) := by decide +kernel
theorem dL_law_218 : decode code 218 = .ok (.iconst 4, 1) := by decide +kernel
theorem dL_law_219 : decode code 219 = .ok (.iadd, 1) := by decide +kernel
theorem dL_law_220 : decode code 220 = .ok (.iaload, 1) := by decide +kernel
theorem dL_law_221 : decode code 221 = .ok (.invokestatic 68, 3) := by decide +kernel
theorem dL_law_224 : decode code 224 = .ok (.istore 5, 2) := by decide +kernel
theorem dL_law_226 : decode code 226 = .ok (.aload_n 2, 1) := by decide +kernel
theorem dL_law_227 : decode code 227 = .ok (.aload_n 0, 1) := by decide +kernel
theorem dL_law_228 : decode code 228 = .ok (.iload 4, 2) := by decide +kernel
theorem dL_law_230 : decode code 230 = .ok (.iconst 1, 1) := by decide +kernel
theorem dL_law_231 : decode code 231 = .ok (.iadd, 1) := by decide +kernel
theorem dL_law_232 : decode code 232 = .ok (.iaload, 1) := by decide +kernel
theorem dL_law_233 : decode code 233 = .ok (.aload_n 0, 1) := by decide +kernel
theorem dL_law_234 : decode code 234 = .ok (.iload 4, 2) := by decide +kernel
theorem dL_law_236 : decode code 236 = .ok (.iconst 2, 1) := by decide +kernel
theorem dL_law_237 : decode code 237 = .ok (.iadd, 1) := by decide +kernel
theorem dL_law_238 : decode code 238 = .ok (.iaload, 1) := by decide +kernel
theorem dL_law_239 : decode code 239 = .ok (.aload_n 0, 1) := by decide +kernel
theorem dL_law_240 : decode code 240 = .ok (.iload 4, 2) := by decide +kernel
theorem dL_law_242 : decode code 242 = .ok (.iconst 3, 1) := by decide +kernel
theorem dL_law_243 : decode code 243 = .ok (.iadd, 1) := by decide +kernel
theorem dL_law_244 : decode code 244 = .ok (.iaload, 1) := by decide +kernel
theorem dL_law_245 : decode code 245 = .ok (.aload_n 0, 1) := by decide +kernel
theorem dL_law_246 : decode code 246 = .ok (.iload 4, 2) := by decide +kernel
theorem dL_law_248 : decode code 248 = .ok (.iconst 4, 1) := by decide +kernel
theorem dL_law_249 : decode code 249 = .ok (.iadd, 1) := by decide +kernel
theorem dL_law_250 : decode code 250 = .ok (.iaload, 1) := by decide +kernel
theorem dL_law_251 : decode code 251 = .ok (.invokevirtual 71, 3) := by decide +kernel
theorem dL_law_254 : decode code 254 = .ok (.goto 171, 3) := by decide +kernel
theorem dL_law_257 : decode code 257 = .ok (.aload_n 1, 1) := by decide +kernel
theorem dL_law_258 : decode code 258 = .ok (.aload_n 0, 1) := by decide +kernel
theorem dL_law_259 : decode code 259 = .ok (.iload 4, 2) := by decide +kernel
theorem dL_law_261 : decode code 261 = .ok (.iconst 1, 1) := by decide +kernel
theorem dL_law_262 : decode code 262 = .ok (.iadd, 1) := by decide +kernel
theorem dL_law_263 : decode code 263 = .ok (.iaload, 1) := by decide +kernel
theorem dL_law_264 : decode code 264 = .ok (.aload_n 3, 1) := by decide +kernel
theorem dL_law_265 : decode code 265 = .ok (.invokestatic 72, 3) := by decide +kernel
theorem dL_law_268 : decode code 268 = .ok (.istore 5, 2) := by decide +kernel
theorem dL_law_270 : decode code 270 = .ok (.aload_n 2, 1) := by decide +kernel
theorem dL_law_271 : decode code 271 = .ok (.aload_n 0, 1) := by decide +kernel
theorem dL_law_272 : decode code 272 = .ok (.iload 4, 2) := by decide +kernel
theorem dL_law_274 : decode code 274 = .ok (.iconst 1, 1) := by decide +kernel
theorem dL_law_275 : decode code 275 = .ok (.iadd, 1) := by decide +kernel
theorem dL_law_276 : decode code 276 = .ok (.iaload, 1) := by decide +kernel
theorem dL_law_277 : decode code 277 = .ok (.invokevirtual 74, 3) := by decide +kernel
theorem dL_law_280 : decode code 280 = .ok (.istore 6, 2) := by decide +kernel
theorem dL_law_282 : decode code 282 = .ok (.goto 143, 3) := by decide +kernel
theorem dL_law_285 : decode code 285 = .ok (.aload_n 1, 1) := by decide +kernel
theorem dL_law_286 : decode code 286 = .ok (.aload_n 3, 1) := by decide +kernel
theorem dL_law_287 : decode code 287 = .ok (.invokestatic 75, 3) := by decide +kernel
theorem dL_law_290 : decode code 290 = .ok (.istore 5, 2) := by decide +kernel
theorem dL_law_292 : decode code 292 = .ok (.aload_n 2, 1) := by decide +kernel
theorem dL_law_293 : decode code 293 = .ok (.invokevirtual 78, 3) := by decide +kernel
theorem dL_law_296 : decode code 296 = .ok (.istore 6, 2) := by decide +kernel
theorem dL_law_298 : decode code 298 = .ok (.goto 127, 3) := by decide +kernel
theorem dL_law_301 : decode code 301 = .ok (.aload_n 1, 1) := by decide +kernel
theorem dL_law_302 : decode code 302 = .ok (.aload_n 0, 1) := by decide +kernel
theorem dL_law_303 : decode code 303 = .ok (.iload 4, 2) := by decide +kernel
theorem dL_law_305 : decode code 305 = .ok (.iconst 1, 1) := by decide +kernel
theorem dL_law_306 : decode code 306 = .ok (.iadd, 1) := by decide +kernel
theorem dL_law_307 : decode code 307 = .ok (.iaload, 1) := by decide +kernel
theorem dL_law_308 : decode code 308 = .ok (.aload_n 3, 1) := by decide +kernel
theorem dL_law_309 : decode code 309 = .ok (.invokestatic 79, 3) := by decide +kernel
theorem dL_law_312 : decode code 312 = .ok (.istore 5, 2) := by decide +kernel
theorem dL_law_314 : decode code 314 = .ok (.aload_n 2, 1) := by decide +kernel
theorem dL_law_315 : decode code 315 = .ok (.aload_n 0, 1) := by decide +kernel
theorem dL_law_316 : decode code 316 = .ok (.iload 4, 2) := by decide +kernel
theorem dL_law_318 : decode code 318 = .ok (.iconst 1, 1) := by decide +kernel
theorem dL_law_319 : decode code 319 = .ok (.iadd, 1) := by decide +kernel
theorem dL_law_320 : decode code 320 = .ok (.iaload, 1) := by decide +kernel
theorem dL_law_321 : decode code 321 = .ok (.invokevirtual 81, 3) := by decide +kernel
theorem dL_law_324 : decode code 324 = .ok (.istore 6, 2) := by decide +kernel
theorem dL_law_326 : decode code 326 = .ok (.goto 99, 3) := by decide +kernel
theorem dL_law_329 : decode code 329 = .ok (.aload_n 1, 1) := by decide +kernel
theorem dL_law_330 : decode code 330 = .ok (.aload_n 0, 1) := by decide +kernel
theorem dL_law_331 : decode code 331 = .ok (.iload 4, 2) := by decide +kernel
theorem dL_law_333 : decode code 333 = .ok (.iconst 1, 1) := by decide +kernel
theorem dL_law_334 : decode code 334 = .ok (.iadd, 1) := by decide +kernel
theorem dL_law_335 : decode code 335 = .ok (.iaload, 1) := by decide +kernel
theorem dL_law_336 : decode code 336 = .ok (.aload_n 0, 1) := by decide +kernel
theorem dL_law_337 : decode code 337 = .ok (.iload 4, 2) := by decide +kernel
theorem dL_law_339 : decode code 339 = .ok (.iconst 2, 1) := by decide +kernel
theorem dL_law_340 : decode code 340 = .ok (.iadd, 1) := by decide +kernel
theorem dL_law_341 : decode code 341 = .ok (.iaload, 1) := by decide +kernel
theorem dL_law_342 : decode code 342 = .ok (.aload_n 3, 1) := by decide +kernel
theorem dL_law_343 : decode code 343 = .ok (.invokestatic 82, 3) := by decide +kernel
theorem dL_law_346 : decode code 346 = .ok (.istore 5, 2) := by decide +kernel
theorem dL_law_348 : decode code 348 = .ok (.aload_n 2, 1) := by decide +kernel
theorem dL_law_349 : decode code 349 = .ok (.aload_n 0, 1) := by decide +kernel
theorem dL_law_350 : decode code 350 = .ok (.iload 4, 2) := by decide +kernel
theorem dL_law_352 : decode code 352 = .ok (.iconst 1, 1) := by decide +kernel
theorem dL_law_353 : decode code 353 = .ok (.iadd, 1) := by decide +kernel
theorem dL_law_354 : decode code 354 = .ok (.iaload, 1) := by decide +kernel
theorem dL_law_355 : decode code 355 = .ok (.aload_n 0, 1) := by decide +kernel
theorem dL_law_356 : decode code 356 = .ok (.iload 4, 2) := by decide +kernel
theorem dL_law_358 : decode code 358 = .ok (.iconst 2, 1) := by decide +kernel
theorem dL_law_359 : decode code 359 = .ok (.iadd, 1) := by decide +kernel
theorem dL_law_360 : decode code 360 = .ok (.iaload, 1) := by decide +kernel
theorem dL_law_361 : decode code 361 = .ok (.invokevirtual 85, 3) := by decide +kernel
theorem dL_law_364 : decode code 364 = .ok (.istore 6, 2) := by decide +kernel
theorem dL_law_366 : decode code 366 = .ok (.goto 59, 3) := by decide +kernel
theorem dL_law_369 : decode code 369 = .ok (.aload_n 1, 1) := by decide +kernel
theorem dL_law_370 : decode code 370 = .ok (.aload_n 0, 1) := by decide +kernel
theorem dL_law_371 : decode code 371 = .ok (.iload 4, 2) := by decide +kernel
theorem dL_law_373 : decode code 373 = .ok (.iconst 1, 1) := by decide +kernel
theorem dL_law_374 : decode code 374 = .ok (.iadd, 1) := by decide +kernel
theorem dL_law_375 : decode code 375 = .ok (.iaload, 1) := by decide +kernel
theorem dL_law_376 : decode code 376 = .ok (.aload_n 3, 1) := by decide +kernel
theorem dL_law_377 : decode code 377 = .ok (.invokestatic 86, 3) := by decide +kernel
theorem dL_law_380 : decode code 380 = .ok (.istore 5, 2) := by decide +kernel
theorem dL_law_382 : decode code 382 = .ok (.aload_n 2, 1) := by decide +kernel
theorem dL_law_383 : decode code 383 = .ok (.aload_n 0, 1) := by decide +kernel
theorem dL_law_384 : decode code 384 = .ok (.iload 4, 2) := by decide +kernel
theorem dL_law_386 : decode code 386 = .ok (.iconst 1, 1) := by decide +kernel
theorem dL_law_387 : decode code 387 = .ok (.iadd, 1) := by decide +kernel
theorem dL_law_388 : decode code 388 = .ok (.iaload, 1) := by decide +kernel
theorem dL_law_389 : decode code 389 = .ok (.invokevirtual 88, 3) := by decide +kernel
theorem dL_law_392 : decode code 392 = .ok (.istore 6, 2) := by decide +kernel
theorem dL_law_394 : decode code 394 = .ok (.goto 31, 3) := by decide +kernel
theorem dL_law_397 : decode code 397 = .ok (.aload_n 1, 1) := by decide +kernel
theorem dL_law_398 : decode code 398 = .ok (.aload_n 0, 1) := by decide +kernel
theorem dL_law_399 : decode code 399 = .ok (.iload 4, 2) := by decide +kernel
theorem dL_law_401 : decode code 401 = .ok (.iconst 1, 1) := by decide +kernel
theorem dL_law_402 : decode code 402 = .ok (.iadd, 1) := by decide +kernel
theorem dL_law_403 : decode code 403 = .ok (.iaload, 1) := by decide +kernel
theorem dL_law_404 : decode code 404 = .ok (.aload_n 3, 1) := by decide +kernel
theorem dL_law_405 : decode code 405 = .ok (.invokestatic 89, 3) := by decide +kernel
theorem dL_law_408 : decode code 408 = .ok (.istore 5, 2) := by decide +kernel
theorem dL_law_410 : decode code 410 = .ok (.aload_n 2, 1) := by decide +kernel
theorem dL_law_411 : decode code 411 = .ok (.aload_n 0, 1) := by decide +kernel
theorem dL_law_412 : decode code 412 = .ok (.iload 4, 2) := by decide +kernel
theorem dL_law_414 : decode code 414 = .ok (.iconst 1, 1) := by decide +kernel
theorem dL_law_415 : decode code 415 = .ok (.iadd, 1) := by decide +kernel
theorem dL_law_416 : decode code 416 = .ok (.iaload, 1) := by decide +kernel
theorem dL_law_417 : decode code 417 = .ok (.invokevirtual 91, 3) := by decide +kernel
theorem dL_law_420 : decode code 420 = .ok (.istore 6, 2) := by decide +kernel
theorem dL_law_422 : decode code 422 = .ok (.goto 3, 3) := by decide +kernel
theorem dL_law_425 : decode code 425 = .ok (.iinc 4 5, 3) := by decide +kernel
theorem dL_law_428 : decode code 428 = .ok (.goto (-405), 3) := by decide +kernel
theorem dL_law_431 : decode code 431 = .ok (.iconst 1, 1) := by decide +kernel
theorem dL_law_432 : decode code 432 = .ok (.ireturn, 1) := by decide +kernel
