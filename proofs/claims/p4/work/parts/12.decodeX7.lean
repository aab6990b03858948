theorem dX7_init_0 : decode prog_9_method_1_code 0 = .ok (.aload_n 0, 1) := by decide +kernel
theorem dX7_init_1 : decode prog_9_method_1_code 1 = .ok (.invokespecial 1, 3) := by decide +kernel
theorem dX7_init_4 : decode prog_9_method_1_code 4 = .ok (.aload_n 0, 1) := by decide +kernel
theorem dX7_init_5 : decode prog_9_method_1_code 5 = .ok (.bipush 8, 2) := by decide +kernel
theorem dX7_init_7 : decode prog_9_method_1_code 7 = .ok (.newarray .int, 2) := by decide +kernel
theorem dX7_init_9 : decode prog_9_method_1_code 9 = .ok (.putfield 7, 3) := by decide +kernel
theorem dX7_init_12 : decode prog_9_method_1_code 12 = .ok (.aload_n 0, 1) := by decide +kernel
theorem dX7_init_13 : decode prog_9_method_1_code 13 = .ok (.sipush 128, 3) := by decide +kernel
theorem dX7_init_16 : decode prog_9_method_1_code 16 = .ok (.newarray .int, 2) := by decide +kernel
theorem dX7_init_18 : decode prog_9_method_1_code 18 = .ok (.putfield 13, 3) := by decide +kernel
theorem dX7_init_21 : decode prog_9_method_1_code 21 = .ok (.aload_n 0, 1) := by decide +kernel
theorem dX7_init_22 : decode prog_9_method_1_code 22 = .ok (.sipush 128, 3) := by decide +kernel
theorem dX7_init_25 : decode prog_9_method_1_code 25 = .ok (.newarray .int, 2) := by decide +kernel
theorem dX7_init_27 : decode prog_9_method_1_code 27 = .ok (.putfield 16, 3) := by decide +kernel
theorem dX7_init_30 : decode prog_9_method_1_code 30 = .ok (.aload_n 0, 1) := by decide +kernel
theorem dX7_init_31 : decode prog_9_method_1_code 31 = .ok (.bipush 48, 2) := by decide +kernel
theorem dX7_init_33 : decode prog_9_method_1_code 33 = .ok (.newarray .int, 2) := by decide +kernel
theorem dX7_init_35 : decode prog_9_method_1_code 35 = .ok (.putfield 19, 3) := by decide +kernel
theorem dX7_init_38 : decode prog_9_method_1_code 38 = .ok (.aload_n 0, 1) := by decide +kernel
theorem dX7_init_39 : decode prog_9_method_1_code 39 = .ok (.bipush 48, 2) := by decide +kernel
theorem dX7_init_41 : decode prog_9_method_1_code 41 = .ok (.newarray .int, 2) := by decide +kernel
theorem dX7_init_43 : decode prog_9_method_1_code 43 = .ok (.putfield 22, 3) := by decide +kernel
theorem dX7_init_46 : decode prog_9_method_1_code 46 = .ok (.aload_n 0, 1) := by decide +kernel
theorem dX7_init_47 : decode prog_9_method_1_code 47 = .ok (.bipush 48, 2) := by decide +kernel
theorem dX7_init_49 : decode prog_9_method_1_code 49 = .ok (.newarray .int, 2) := by decide +kernel
theorem dX7_init_51 : decode prog_9_method_1_code 51 = .ok (.putfield 25, 3) := by decide +kernel
theorem dX7_init_54 : decode prog_9_method_1_code 54 = .ok (.aload_n 0, 1) := by decide +kernel
theorem dX7_init_55 : decode prog_9_method_1_code 55 = .ok (.bipush 48, 2) := by decide +kernel
theorem dX7_init_57 : decode prog_9_method_1_code 57 = .ok (.newarray .int, 2) := by decide +kernel
theorem dX7_init_59 : decode prog_9_method_1_code 59 = .ok (.putfield 28, 3) := by decide +kernel
theorem dX7_init_62 : decode prog_9_method_1_code 62 = .ok (.aload_n 0, 1) := by decide +kernel
theorem dX7_init_63 : decode prog_9_method_1_code 63 = .ok (.bipush 48, 2) := by decide +kernel
theorem dX7_init_65 : decode prog_9_method_1_code 65 = .ok (.newarray .int, 2) := by decide +kernel
theorem dX7_init_67 : decode prog_9_method_1_code 67 = .ok (.putfield 31, 3) := by decide +kernel
theorem dX7_init_70 : decode prog_9_method_1_code 70 = .ok (.aload_n 0, 1) := by decide +kernel
theorem dX7_init_71 : decode prog_9_method_1_code 71 = .ok (.bipush 48, 2) := by decide +kernel
theorem dX7_init_73 : decode prog_9_method_1_code 73 = .ok (.newarray .int, 2) := by decide +kernel
theorem dX7_init_75 : decode prog_9_method_1_code 75 = .ok (.putfield 34, 3) := by decide +kernel
theorem dX7_init_78 : decode prog_9_method_1_code 78 = .ok (.aload_n 0, 1) := by decide +kernel
theorem dX7_init_79 : decode prog_9_method_1_code 79 = .ok (.bipush 48, 2) := by decide +kernel
theorem dX7_init_81 : decode prog_9_method_1_code 81 = .ok (.newarray .int, 2) := by decide +kernel
theorem dX7_init_83 : decode prog_9_method_1_code 83 = .ok (.putfield 37, 3) := by decide +kernel
theorem dX7_init_86 : decode prog_9_method_1_code 86 = .ok (.aload_n 0, 1) := by decide +kernel
theorem dX7_init_87 : decode prog_9_method_1_code 87 = .ok (.bipush 48, 2) := by decide +kernel
theorem dX7_init_89 : decode prog_9_method_1_code 89 = .ok (.newarray .int, 2) := by decide +kernel
theorem dX7_init_91 : decode prog_9_method_1_code 91 = .ok (.putfield 40, 3) := by decide +kernel
theorem dX7_init_94 : decode prog_9_method_1_code 94 = .ok (.aload_n 0, 1) := by decide +kernel
theorem dX7_init_95 : decode prog_9_method_1_code 95 = .ok (.iconst 4, 1) := by decide +kernel
theorem dX7_init_96 : decode prog_9_method_1_code 96 = .ok (.newarray .int, 2) := by decide +kernel
theorem dX7_init_98 : decode prog_9_method_1_code 98 = .ok (.putfield 43, 3) := by decide +kernel
theorem dX7_init_101 : decode prog_9_method_1_code 101 = .ok (.aload_n 0, 1) := by decide +kernel
theorem dX7_init_102 : decode prog_9_method_1_code 102 = .ok (.bipush 48, 2) := by decide +kernel
theorem dX7_init_104 : decode prog_9_method_1_code 104 = .ok (.newarray .boolean, 2) := by decide +kernel
theorem dX7_init_106 : decode prog_9_method_1_code 106 = .ok (.putfield 46, 3) := by decide +kernel
theorem dX7_init_109 : decode prog_9_method_1_code 109 = .ok (.aload_n 0, 1) := by decide +kernel
theorem dX7_init_110 : decode prog_9_method_1_code 110 = .ok (.bipush 48, 2) := by decide +kernel
theorem dX7_init_112 : decode prog_9_method_1_code 112 = .ok (.newarray .boolean, 2) := by decide +kernel
theorem dX7_init_114 : decode prog_9_method_1_code 114 = .ok (.putfield 50, 3) := by decide +kernel
theorem dX7_init_117 : decode prog_9_method_1_code 117 = .ok (.aload_n 0, 1) := by decide +kernel
theorem dX7_init_118 : decode prog_9_method_1_code 118 = .ok (.bipush 48, 2) := by decide +kernel
theorem dX7_init_120 : decode prog_9_method_1_code 120 = .ok (.newarray .boolean, 2) := by decide +kernel
theorem dX7_init_122 : decode prog_9_method_1_code 122 = .ok (.putfield 53, 3) := by decide +kernel
theorem dX7_init_125 : decode prog_9_method_1_code 125 = .ok (.aload_n 0, 1) := by decide +kernel
theorem dX7_init_126 : decode prog_9_method_1_code 126 = .ok (.iconst 4, 1) := by decide +kernel
theorem dX7_init_127 : decode prog_9_method_1_code 127 = .ok (.newarray .boolean, 2) := by decide +kernel
theorem dX7_init_129 : decode prog_9_method_1_code 129 = .ok (.putfield 56, 3) := by decide +kernel
theorem dX7_init_132 : decode prog_9_method_1_code 132 = .ok (.aload_n 0, 1) := by decide +kernel
theorem dX7_init_133 : decode prog_9_method_1_code 133 = .ok (.bipush 96, 2) := by decide +kernel
theorem dX7_init_135 : decode prog_9_method_1_code 135 = .ok (.newarray .int, 2) := by decide +kernel
theorem dX7_init_137 : decode prog_9_method_1_code 137 = .ok (.putfield 59, 3) := by decide +kernel
theorem dX7_init_140 : decode prog_9_method_1_code 140 = .ok (.aload_n 0, 1) := by decide +kernel
theorem dX7_init_141 : decode prog_9_method_1_code 141 = .ok (.bipush 96, 2) := by decide +kernel
theorem dX7_init_143 : decode prog_9_method_1_code 143 = .ok (.newarray .int, 2) := by decide +kernel
theorem dX7_init_145 : decode prog_9_method_1_code 145 = .ok (.putfield 62, 3) := by decide +kernel
theorem dX7_init_148 : decode prog_9_method_1_code 148 = .ok (.aload_n 0, 1) := by decide +kernel
theorem dX7_init_149 : decode prog_9_method_1_code 149 = .ok (.bipush 96, 2) := by decide +kernel
theorem dX7_init_151 : decode prog_9_method_1_code 151 = .ok (.newarray .int, 2) := by decide +kernel
theorem dX7_init_153 : decode prog_9_method_1_code 153 = .ok (.putfield 65, 3) := by decide +kernel
theorem dX7_init_156 : decode prog_9_method_1_code 156 = .ok (.aload_n 0, 1) := by decide +kernel
theorem dX7_init_157 : decode prog_9_method_1_code 157 = .ok (.iconst 2, 1) := by decide +kernel
theorem dX7_init_158 : decode prog_9_method_1_code 158 = .ok (.newarray .int, 2) := by decide +kernel
theorem dX7_init_160 : decode prog_9_method_1_code 160 = .ok (.putfield 68, 3) := by decide +kernel
theorem dX7_init_163 : decode prog_9_method_1_code 163 = .ok (.aload_n 0, 1) := by decide +kernel
theorem dX7_init_164 : decode prog_9_method_1_code 164 = .ok (.sipush 145, 3) := by decide +kernel
theorem dX7_init_167 : decode prog_9_method_1_code 167 = .ok (.newarray .int, 2) := by decide +kernel
theorem dX7_init_169 : decode prog_9_method_1_code 169 = .ok (.putfield 71, 3) := by decide +kernel
theorem dX7_init_172 : decode prog_9_method_1_code 172 = .ok (.aload_n 0, 1) := by decide +kernel
theorem dX7_init_173 : decode prog_9_method_1_code 173 = .ok (.sipush 145, 3) := by decide +kernel
theorem dX7_init_176 : decode prog_9_method_1_code 176 = .ok (.newarray .int, 2) := by decide +kernel
theorem dX7_init_178 : decode prog_9_method_1_code 178 = .ok (.putfield 74, 3) := by decide +kernel
theorem dX7_init_181 : decode prog_9_method_1_code 181 = .ok (.aload_n 0, 1) := by decide +kernel
theorem dX7_init_182 : decode prog_9_method_1_code 182 = .ok (.sipush 145, 3) := by decide +kernel
theorem dX7_init_185 : decode prog_9_method_1_code 185 = .ok (.newarray .int, 2) := by decide +kernel
theorem dX7_init_187 : decode prog_9_method_1_code 187 = .ok (.putfield 77, 3) := by decide +kernel
theorem dX7_init_190 : decode prog_9_method_1_code 190 = .ok (.aload_n 0, 1) := by decide +kernel
theorem dX7_init_191 : decode prog_9_method_1_code 191 = .ok (.sipush 145, 3) := by decide +kernel
theorem dX7_init_194 : decode prog_9_method_1_code 194 = .ok (.newarray .int, 2) := by decide +kernel
theorem dX7_init_196 : decode prog_9_method_1_code 196 = .ok (.putfield 80, 3) := by decide +kernel
theorem dX7_init_199 : decode prog_9_method_1_code 199 = .ok (.aload_n 0, 1) := by decide +kernel
theorem dX7_init_200 : decode prog_9_method_1_code 200 = .ok (.sipush 145, 3) := by decide +kernel
theorem dX7_init_203 : decode prog_9_method_1_code 203 = .ok (.newarray .int, 2) := by decide +kernel
theorem dX7_init_205 : decode prog_9_method_1_code 205 = .ok (.putfield 83, 3) := by decide +kernel
theorem dX7_init_208 : decode prog_9_method_1_code 208 = .ok (.aload_n 0, 1) := by decide +kernel
theorem dX7_init_209 : decode prog_9_method_1_code 209 = .ok (.sipush 145, 3) := by decide +kernel
theorem dX7_init_212 : decode prog_9_method_1_code 212 = .ok (.newarray .int, 2) := by decide +kernel
theorem dX7_init_214 : decode prog_9_method_1_code 214 = .ok (.putfield 86, 3) := by decide +kernel
theorem dX7_init_217 : decode prog_9_method_1_code 217 = .ok (.aload_n 0, 1) := by decide +kernel
theorem dX7_init_218 : decode prog_9_method_1_code 218 = .ok (.iconst 3, 1) := by decide +kernel
theorem dX7_init_219 : decode prog_9_method_1_code 219 = .ok (.newarray .int, 2) := by decide +kernel
theorem dX7_init_221 : decode prog_9_method_1_code 221 = .ok (.putfield 89, 3) := by decide +kernel
theorem dX7_init_224 : decode prog_9_method_1_code 224 = .ok (.aload_n 0, 1) := by decide +kernel
theorem dX7_init_225 : decode prog_9_method_1_code 225 = .ok (.iconst 3, 1) := by decide +kernel
theorem dX7_init_226 : decode prog_9_method_1_code 226 = .ok (.newarray .int, 2) := by decide +kernel
theorem dX7_init_228 : decode prog_9_method_1_code 228 = .ok (.putfield 92, 3) := by decide +kernel
theorem dX7_init_231 : decode prog_9_method_1_code 231 = .ok (.aload_n 0, 1) := by decide +kernel
theorem dX7_init_232 : decode prog_9_method_1_code 232 = .ok (.sipush 144, 3) := by decide +kernel
theorem dX7_init_235 : decode prog_9_method_1_code 235 = .ok (.newarray .int, 2) := by decide +kernel
theorem dX7_init_237 : decode prog_9_method_1_code 237 = .ok (.putfield 95, 3) := by decide +kernel
theorem dX7_init_240 : decode prog_9_method_1_code 240 = .ok (.aload_n 0, 1) := by decide +kernel
theorem dX7_init_241 : decode prog_9_method_1_code 241 = .ok (.bipush 40, 2) := by decide +kernel
theorem dX7_init_243 : decode prog_9_method_1_code 243 = .ok (.newarray .int, 2) := by decide +kernel
theorem dX7_init_245 : decode prog_9_method_1_code 245 = .ok (.putfield 98, 3) := by decide +kernel
theorem dX7_init_248 : decode prog_9_method_1_code 248 = .ok (.return_, 1) := by decide +kernel
theorem dX7_thrown_0 : decode prog_9_method_2_code 0 = .ok (.aload_n 0, 1) := by decide +kernel
theorem dX7_thrown_1 : decode prog_9_method_2_code 1 = .ok (.getfield 101, 3) := by decide +kernel
theorem dX7_thrown_4 : decode prog_9_method_2_code 4 = .ok (.ireturn, 1) := by decide +kernel
theorem dX7_in_0 : decode prog_9_method_3_code 0 = .ok (.iload_n 0, 1) := by decide +kernel
theorem dX7_in_1 : decode prog_9_method_3_code 1 = .ok (.iload_n 1, 1) := by decide +kernel
theorem dX7_in_2 : decode prog_9_method_3_code 2 = .ok (.if_icmp .lt 12, 3) := by decide +kernel
theorem dX7_in_5 : decode prog_9_method_3_code 5 = .ok (.iload_n 0, 1) := by decide +kernel
theorem dX7_in_6 : decode prog_9_method_3_code 6 = .ok (.iload_n 2, 1) := by decide +kernel
theorem dX7_in_7 : decode prog_9_method_3_code 7 = .ok (.if_icmp .gt 7, 3) := by decide +kernel
theorem dX7_in_10 : decode prog_9_method_3_code 10 = .ok (.iconst 1, 1) := by decide +kernel
theorem dX7_in_11 : decode prog_9_method_3_code 11 = .ok (.goto 4, 3) := by decide +kernel
theorem dX7_in_14 : decode prog_9_method_3_code 14 = .ok (.iconst 0, 1) := by decide +kernel
theorem dX7_in_15 : decode prog_9_method_3_code 15 = .ok (.ireturn, 1) := by decide +kernel
theorem dX7_fail_0 : decode prog_9_method_4_code 0 = .ok (.aload_n 0, 1) := by decide +kernel
theorem dX7_fail_1 : decode prog_9_method_4_code 1 = .ok (.iload_n 1, 1) := by decide +kernel
theorem dX7_fail_2 : decode prog_9_method_4_code 2 = .ok (.putfield 101, 3) := by decide +kernel
theorem dX7_fail_5 : decode prog_9_method_4_code 5 = .ok (.iconst 0, 1) := by decide +kernel
theorem dX7_fail_6 : decode prog_9_method_4_code 6 = .ok (.ireturn, 1) := by decide +kernel
theorem dX7_body_0 : decode prog_9_method_5_code 0 = .ok (.iload_n 1, 1) := by decide +kernel
theorem dX7_body_1 : decode prog_9_method_5_code 1 = .ok (.iconst 0, 1) := by decide +kernel
theorem dX7_body_2 : decode prog_9_method_5_code 2 = .ok (.bipush 7, 2) := by decide +kernel
theorem dX7_body_4 : decode prog_9_method_5_code 4 = .ok (.invokestatic 105, 3) := by decide +kernel
theorem dX7_body_7 : decode prog_9_method_5_code 7 = .ok (.ifCond .ne 9, 3) := by decide +kernel
theorem dX7_body_10 : decode prog_9_method_5_code 10 = .ok (.aload_n 0, 1) := by decide +kernel
theorem dX7_body_11 : decode prog_9_method_5_code 11 = .ok (.iconst 1, 1) := by decide +kernel
theorem dX7_body_12 : decode prog_9_method_5_code 12 = .ok (.invokevirtual 109, 3) := by decide +kernel
theorem dX7_body_15 : decode prog_9_method_5_code 15 = .ok (.ireturn, 1) := by decide +kernel
theorem dX7_body_16 : decode prog_9_method_5_code 16 = .ok (.aload_n 0, 1) := by decide +kernel
theorem dX7_body_17 : decode prog_9_method_5_code 17 = .ok (.iconst 0, 1) := by decide +kernel
theorem dX7_body_18 : decode prog_9_method_5_code 18 = .ok (.putfield 101, 3) := by decide +kernel
theorem dX7_body_21 : decode prog_9_method_5_code 21 = .ok (.aload_n 0, 1) := by decide +kernel
theorem dX7_body_22 : decode prog_9_method_5_code 22 = .ok (.getfield 7, 3) := by decide +kernel
theorem dX7_body_25 : decode prog_9_method_5_code 25 = .ok (.iload_n 1, 1) := by decide +kernel
theorem dX7_body_26 : decode prog_9_method_5_code 26 = .ok (.iaload, 1) := by decide +kernel
theorem dX7_body_27 : decode prog_9_method_5_code 27 = .ok (.istore_n 2, 1) := by decide +kernel
theorem dX7_body_28 : decode prog_9_method_5_code 28 = .ok (.aload_n 0, 1) := by decide +kernel
theorem dX7_body_29 : decode prog_9_method_5_code 29 = .ok (.getfield 7, 3) := by decide +kernel
theorem dX7_body_32 : decode prog_9_method_5_code 32 = .ok (.iload_n 1, 1) := by decide +kernel
theorem dX7_body_33 : decode prog_9_method_5_code 33 = .ok (.iconst 0, 1) := by decide +kernel
theorem dX7_body_34 : decode prog_9_method_5_code 34 = .ok (.iastore, 1) := by decide +kernel
theorem dX7_body_35 : decode prog_9_method_5_code 35 = .ok (.iload_n 2, 1) := by decide +kernel
theorem dX7_body_36 : decode prog_9_method_5_code 36 = .ok (.ireturn, 1) := by decide +kernel
theorem dX7_fits_0 : decode prog_9_method_6_code 0 = .ok (.iload_n 0, 1) := by decide +kernel
theorem dX7_fits_1 : decode prog_9_method_6_code 1 = .ok (.tableswitch 130 2 16 #[75, 75, 83, 130, 130, 91, 91, 98, 75, 106, 130, 113, 130, 122, 122], 75) := by decide +kernel
theorem dX7_fits_76 : decode prog_9_method_6_code 76 = .ok (.iload_n 1, 1) := by decide +kernel
theorem dX7_fits_77 : decode prog_9_method_6_code 77 = .ok (.iconst 0, 1) := by decide +kernel
theorem dX7_fits_78 : decode prog_9_method_6_code 78 = .ok (.bipush 7, 2) := by decide +kernel
theorem dX7_fits_80 : decode prog_9_method_6_code 80 = .ok (.invokestatic 105, 3) := by decide +kernel
theorem dX7_fits_83 : decode prog_9_method_6_code 83 = .ok (.ireturn, 1) := by decide +kernel
theorem dX7_fits_84 : decode prog_9_method_6_code 84 = .ok (.iload_n 1, 1) := by decide +kernel
theorem dX7_fits_85 : decode prog_9_method_6_code 85 = .ok (.iconst 0, 1) := by decide +kernel
theorem dX7_fits_86 : decode prog_9_method_6_code 86 = .ok (.bipush 63, 2) := by decide +kernel
theorem dX7_fits_88 : decode prog_9_method_6_code 88 = .ok (.invokestatic 105, 3) := by decide +kernel
theorem dX7_fits_91 : decode prog_9_method_6_code 91 = .ok (.ireturn, 1) := by decide +kernel
theorem dX7_fits_92 : decode prog_9_method_6_code 92 = .ok (.iload_n 1, 1) := by decide +kernel
theorem dX7_fits_93 : decode prog_9_method_6_code 93 = .ok (.iconst 0, 1) := by decide +kernel
theorem dX7_fits_94 : decode prog_9_method_6_code 94 = .ok (.iconst 3, 1) := by decide +kernel
theorem dX7_fits_95 : decode prog_9_method_6_code 95 = .ok (.invokestatic 105, 3) := by decide +kernel
theorem dX7_fits_98 : decode prog_9_method_6_code 98 = .ok (.ireturn, 1) := by decide +kernel
theorem dX7_fits_99 : decode prog_9_method_6_code 99 = .ok (.iload_n 1, 1) := by decide +kernel
theorem dX7_fits_100 : decode prog_9_method_6_code 100 = .ok (.iconst 0, 1) := by decide +kernel
theorem dX7_fits_101 : decode prog_9_method_6_code 101 = .ok (.bipush 31, 2) := by decide +kernel
theorem dX7_fits_103 : decode prog_9_method_6_code 103 = .ok (.invokestatic 105, 3) := by decide +kernel
theorem dX7_fits_106 : decode prog_9_method_6_code 106 = .ok (.ireturn, 1) := by decide +kernel
theorem dX7_fits_107 : decode prog_9_method_6_code 107 = .ok (.iload_n 1, 1) := by decide +kernel
theorem dX7_fits_108 : decode prog_9_method_6_code 108 = .ok (.iconst 0, 1) := by decide +kernel
theorem dX7_fits_109 : decode prog_9_method_6_code 109 = .ok (.iconst 1, 1) := by decide +kernel
theorem dX7_fits_110 : decode prog_9_method_6_code 110 = .ok (.invokestatic 105, 3) := by decide +kernel
theorem dX7_fits_113 : decode prog_9_method_6_code 113 = .ok (.ireturn, 1) := by decide +kernel
theorem dX7_fits_114 : decode prog_9_method_6_code 114 = .ok (.iload_n 1, 1) := by decide +kernel
theorem dX7_fits_115 : decode prog_9_method_6_code 115 = .ok (.bipush 10, 2) := by decide +kernel
theorem dX7_fits_117 : decode prog_9_method_6_code 117 = .ok (.bipush 99, 2) := by decide +kernel
theorem dX7_fits_119 : decode prog_9_method_6_code 119 = .ok (.invokestatic 105, 3) := by decide +kernel
theorem dX7_fits_122 : decode prog_9_method_6_code 122 = .ok (.ireturn, 1) := by decide +kernel
theorem dX7_fits_123 : decode prog_9_method_6_code 123 = .ok (.iload_n 1, 1) := by decide +kernel
theorem dX7_fits_124 : decode prog_9_method_6_code 124 = .ok (.iconst 0, 1) := by decide +kernel
theorem dX7_fits_125 : decode prog_9_method_6_code 125 = .ok (.bipush 15, 2) := by decide +kernel
theorem dX7_fits_127 : decode prog_9_method_6_code 127 = .ok (.invokestatic 105, 3) := by decide +kernel
theorem dX7_fits_130 : decode prog_9_method_6_code 130 = .ok (.ireturn, 1) := by decide +kernel
theorem dX7_fits_131 : decode prog_9_method_6_code 131 = .ok (.iload_n 0, 1) := by decide +kernel
theorem dX7_fits_132 : decode prog_9_method_6_code 132 = .ok (.iconst 0, 1) := by decide +kernel
theorem dX7_fits_133 : decode prog_9_method_6_code 133 = .ok (.bipush 16, 2) := by decide +kernel
theorem dX7_fits_135 : decode prog_9_method_6_code 135 = .ok (.invokestatic 105, 3) := by decide +kernel
theorem dX7_fits_138 : decode prog_9_method_6_code 138 = .ok (.ireturn, 1) := by decide +kernel
theorem dX7_add_0 : decode prog_9_method_7_code 0 = .ok (.iload_n 1, 1) := by decide +kernel
theorem dX7_add_1 : decode prog_9_method_7_code 1 = .ok (.iconst 0, 1) := by decide +kernel
theorem dX7_add_2 : decode prog_9_method_7_code 2 = .ok (.bipush 7, 2) := by decide +kernel
theorem dX7_add_4 : decode prog_9_method_7_code 4 = .ok (.invokestatic 105, 3) := by decide +kernel
theorem dX7_add_7 : decode prog_9_method_7_code 7 = .ok (.ifCond .eq 11, 3) := by decide +kernel
theorem dX7_add_10 : decode prog_9_method_7_code 10 = .ok (.iload_n 2, 1) := by decide +kernel
theorem dX7_add_11 : decode prog_9_method_7_code 11 = .ok (.iload_n 3, 1) := by decide +kernel
theorem dX7_add_12 : decode prog_9_method_7_code 12 = .ok (.invokestatic 113, 3) := by decide +kernel
theorem dX7_add_15 : decode prog_9_method_7_code 15 = .ok (.ifCond .ne 9, 3) := by decide +kernel
theorem dX7_add_18 : decode prog_9_method_7_code 18 = .ok (.aload_n 0, 1) := by decide +kernel
theorem dX7_add_19 : decode prog_9_method_7_code 19 = .ok (.iconst 1, 1) := by decide +kernel
theorem dX7_add_20 : decode prog_9_method_7_code 20 = .ok (.invokevirtual 109, 3) := by decide +kernel
theorem dX7_add_23 : decode prog_9_method_7_code 23 = .ok (.ireturn, 1) := by decide +kernel
theorem dX7_add_24 : decode prog_9_method_7_code 24 = .ok (.aload_n 0, 1) := by decide +kernel
theorem dX7_add_25 : decode prog_9_method_7_code 25 = .ok (.getfield 7, 3) := by decide +kernel
theorem dX7_add_28 : decode prog_9_method_7_code 28 = .ok (.iload_n 1, 1) := by decide +kernel
theorem dX7_add_29 : decode prog_9_method_7_code 29 = .ok (.iaload, 1) := by decide +kernel
theorem dX7_add_30 : decode prog_9_method_7_code 30 = .ok (.bipush 16, 2) := by decide +kernel
theorem dX7_add_32 : decode prog_9_method_7_code 32 = .ok (.if_icmp .ne 9, 3) := by decide +kernel
theorem dX7_add_35 : decode prog_9_method_7_code 35 = .ok (.aload_n 0, 1) := by decide +kernel
theorem dX7_add_36 : decode prog_9_method_7_code 36 = .ok (.iconst 2, 1) := by decide +kernel
theorem dX7_add_37 : decode prog_9_method_7_code 37 = .ok (.invokevirtual 109, 3) := by decide +kernel
theorem dX7_add_40 : decode prog_9_method_7_code 40 = .ok (.ireturn, 1) := by decide +kernel
theorem dX7_add_41 : decode prog_9_method_7_code 41 = .ok (.aload_n 0, 1) := by decide +kernel
theorem dX7_add_42 : decode prog_9_method_7_code 42 = .ok (.iconst 0, 1) := by decide +kernel
theorem dX7_add_43 : decode prog_9_method_7_code 43 = .ok (.putfield 101, 3) := by decide +kernel
theorem dX7_add_46 : decode prog_9_method_7_code 46 = .ok (.aload_n 0, 1) := by decide +kernel
theorem dX7_add_47 : decode prog_9_method_7_code 47 = .ok (.getfield 13, 3) := by decide +kernel
theorem dX7_add_50 : decode prog_9_method_7_code 50 = .ok (.bipush 16, 2) := by decide +kernel
theorem dX7_add_52 : decode prog_9_method_7_code 52 = .ok (.iload_n 1, 1) := by decide +kernel
theorem dX7_add_53 : decode prog_9_method_7_code 53 = .ok (.imul, 1) := by decide +kernel
theorem dX7_add_54 : decode prog_9_method_7_code 54 = .ok (.aload_n 0, 1) := by decide +kernel
theorem dX7_add_55 : decode prog_9_method_7_code 55 = .ok (.getfield 7, 3) := by decide +kernel
theorem dX7_add_58 : decode prog_9_method_7_code 58 = .ok (.iload_n 1, 1) := by decide +kernel
theorem dX7_add_59 : decode prog_9_method_7_code 59 = .ok (.iaload, 1) := by decide +kernel
theorem dX7_add_60 : decode prog_9_method_7_code 60 = .ok (.iadd, 1) := by decide +kernel
theorem dX7_add_61 : decode prog_9_method_7_code 61 = .ok (.iload_n 2, 1) := by decide +kernel
theorem dX7_add_62 : decode prog_9_method_7_code 62 = .ok (.iastore, 1) := by decide +kernel
theorem dX7_add_63 : decode prog_9_method_7_code 63 = .ok (.aload_n 0, 1) := by decide +kernel
theorem dX7_add_64 : decode prog_9_method_7_code 64 = .ok (.getfield 16, 3) := by decide +kernel
theorem dX7_add_67 : decode prog_9_method_7_code 67 = .ok (.bipush 16, 2) := by decide +kernel
theorem dX7_add_69 : decode prog_9_method_7_code 69 = .ok (.iload_n 1, 1) := by decide +kernel
theorem dX7_add_70 : decode prog_9_method_7_code 70 = .ok (.imul, 1) := by decide +kernel
theorem dX7_add_71 : decode prog_9_method_7_code 71 = .ok (.aload_n 0, 1) := by decide +kernel
theorem dX7_add_72 : decode prog_9_method_7_code 72 = .ok (.getfield 7, 3) := by decide +kernel
theorem dX7_add_75 : decode prog_9_method_7_code 75 = .ok (.iload_n 1, 1) := by decide +kernel
theorem dX7_add_76 : decode prog_9_method_7_code 76 = .ok (.iaload, 1) := by decide +kernel
theorem dX7_add_77 : decode prog_9_method_7_code 77 = .ok (.iadd, 1) := by decide +kernel
theorem dX7_add_78 : decode prog_9_method_7_code 78 = .ok (.iload_n 3, 1) := by decide +kernel
theorem dX7_add_79 : decode prog_9_method_7_code 79 = .ok (.iastore, 1) := by decide +kernel
theorem dX7_add_80 : decode prog_9_method_7_code 80 = .ok (.aload_n 0, 1) := by decide +kernel
theorem dX7_add_81 : decode prog_9_method_7_code 81 = .ok (.getfield 7, 3) := by decide +kernel
theorem dX7_add_84 : decode prog_9_method_7_code 84 = .ok (.iload_n 1, 1) := by decide +kernel
theorem dX7_add_85 : decode prog_9_method_7_code 85 = .ok (.dup2, 1) := by decide +kernel
theorem dX7_add_86 : decode prog_9_method_7_code 86 = .ok (.iaload, 1) := by decide +kernel
theorem dX7_add_87 : decode prog_9_method_7_code 87 = .ok (.iconst 1, 1) := by decide +kernel
theorem dX7_add_88 : decode prog_9_method_7_code 88 = .ok (.iadd, 1) := by decide +kernel
theorem dX7_add_89 : decode prog_9_method_7_code 89 = .ok (.iastore, 1) := by decide +kernel
theorem dX7_add_90 : decode prog_9_method_7_code 90 = .ok (.aload_n 0, 1) := by decide +kernel
theorem dX7_add_91 : decode prog_9_method_7_code 91 = .ok (.getfield 7, 3) := by decide +kernel
theorem dX7_add_94 : decode prog_9_method_7_code 94 = .ok (.iload_n 1, 1) := by decide +kernel
theorem dX7_add_95 : decode prog_9_method_7_code 95 = .ok (.iaload, 1) := by decide +kernel
theorem dX7_add_96 : decode prog_9_method_7_code 96 = .ok (.ireturn, 1) := by decide +kernel
theorem dX7_openScope_0 : decode prog_9_method_8_code 0 = .ok (.aload_n 0, 1) := by decide +kernel
theorem dX7_openScope_1 : decode prog_9_method_8_code 1 = .ok (.getfield 71, 3) := by decide +kernel
theorem dX7_openScope_4 : decode prog_9_method_8_code 4 = .ok (.iload_n 1, 1) := by decide +kernel
theorem dX7_openScope_5 : decode prog_9_method_8_code 5 = .ok (.iconst 0, 1) := by decide +kernel
theorem dX7_openScope_6 : decode prog_9_method_8_code 6 = .ok (.iastore, 1) := by decide +kernel
theorem dX7_openScope_7 : decode prog_9_method_8_code 7 = .ok (.aload_n 0, 1) := by decide +kernel
theorem dX7_openScope_8 : decode prog_9_method_8_code 8 = .ok (.getfield 77, 3) := by decide +kernel
theorem dX7_openScope_11 : decode prog_9_method_8_code 11 = .ok (.iload_n 1, 1) := by decide +kernel
theorem dX7_openScope_12 : decode prog_9_method_8_code 12 = .ok (.iload_n 2, 1) := by decide +kernel
theorem dX7_openScope_13 : decode prog_9_method_8_code 13 = .ok (.iastore, 1) := by decide +kernel
theorem dX7_openScope_14 : decode prog_9_method_8_code 14 = .ok (.aload_n 0, 1) := by decide +kernel
theorem dX7_openScope_15 : decode prog_9_method_8_code 15 = .ok (.getfield 80, 3) := by decide +kernel
theorem dX7_openScope_18 : decode prog_9_method_8_code 18 = .ok (.iload_n 1, 1) := by decide +kernel
theorem dX7_openScope_19 : decode prog_9_method_8_code 19 = .ok (.iload_n 3, 1) := by decide +kernel
theorem dX7_openScope_20 : decode prog_9_method_8_code 20 = .ok (.iastore, 1) := by decide +kernel
theorem dX7_openScope_21 : decode prog_9_method_8_code 21 = .ok (.aload_n 0, 1) := by decide +kernel
theorem dX7_openScope_22 : decode prog_9_method_8_code 22 = .ok (.getfield 83, 3) := by decide +kernel
theorem dX7_openScope_25 : decode prog_9_method_8_code 25 = .ok (.iload_n 1, 1) := by decide +kernel
theorem dX7_openScope_26 : decode prog_9_method_8_code 26 = .ok (.iconst 0, 1) := by decide +kernel
theorem dX7_openScope_27 : decode prog_9_method_8_code 27 = .ok (.iastore, 1) := by decide +kernel
theorem dX7_openScope_28 : decode prog_9_method_8_code 28 = .ok (.aload_n 0, 1) := by decide +kernel
theorem dX7_openScope_29 : decode prog_9_method_8_code 29 = .ok (.getfield 86, 3) := by decide +kernel
theorem dX7_openScope_32 : decode prog_9_method_8_code 32 = .ok (.iload_n 1, 1) := by decide +kernel
theorem dX7_openScope_33 : decode prog_9_method_8_code 33 = .ok (.iconst 0, 1) := by decide +kernel
theorem dX7_openScope_34 : decode prog_9_method_8_code 34 = .ok (.iastore, 1) := by decide +kernel
theorem dX7_openScope_35 : decode prog_9_method_8_code 35 = .ok (.aload_n 0, 1) := by decide +kernel
theorem dX7_openScope_36 : decode prog_9_method_8_code 36 = .ok (.getfield 74, 3) := by decide +kernel
theorem dX7_openScope_39 : decode prog_9_method_8_code 39 = .ok (.iload_n 1, 1) := by decide +kernel
theorem dX7_openScope_40 : decode prog_9_method_8_code 40 = .ok (.iload_n 2, 1) := by decide +kernel
theorem dX7_openScope_41 : decode prog_9_method_8_code 41 = .ok (.iconst 1, 1) := by decide +kernel
theorem dX7_openScope_42 : decode prog_9_method_8_code 42 = .ok (.if_icmp .ne 8, 3) := by decide +kernel
theorem dX7_openScope_45 : decode prog_9_method_8_code 45 = .ok (.ldc 117, 2) := by decide +kernel
theorem dX7_openScope_47 : decode prog_9_method_8_code 47 = .ok (.goto 23, 3) := by decide +kernel
theorem dX7_openScope_50 : decode prog_9_method_8_code 50 = .ok (.iload_n 2, 1) := by decide +kernel
theorem dX7_openScope_51 : decode prog_9_method_8_code 51 = .ok (.iconst 2, 1) := by decide +kernel
theorem dX7_openScope_52 : decode prog_9_method_8_code 52 = .ok (.if_icmp .ne 8, 3) := by decide +kernel
theorem dX7_openScope_55 : decode prog_9_method_8_code 55 = .ok (.ldc 118, 2) := by decide +kernel
theorem dX7_openScope_57 : decode prog_9_method_8_code 57 = .ok (.goto 13, 3) := by decide +kernel
theorem dX7_openScope_60 : decode prog_9_method_8_code 60 = .ok (.iload_n 2, 1) := by decide +kernel
theorem dX7_openScope_61 : decode prog_9_method_8_code 61 = .ok (.iconst 3, 1) := by decide +kernel
theorem dX7_openScope_62 : decode prog_9_method_8_code 62 = .ok (.if_icmp .ne 7, 3) := by decide +kernel
theorem dX7_openScope_65 : decode prog_9_method_8_code 65 = .ok (.iconst 1, 1) := by decide +kernel
theorem dX7_openScope_66 : decode prog_9_method_8_code 66 = .ok (.goto 4, 3) := by decide +kernel
theorem dX7_openScope_69 : decode prog_9_method_8_code 69 = .ok (.iconst 0, 1) := by decide +kernel
theorem dX7_openScope_70 : decode prog_9_method_8_code 70 = .ok (.iastore, 1) := by decide +kernel
theorem dX7_openScope_71 : decode prog_9_method_8_code 71 = .ok (.return_, 1) := by decide +kernel
theorem dX7_note_0 : decode prog_9_method_9_code 0 = .ok (.aload_n 0, 1) := by decide +kernel
theorem dX7_note_1 : decode prog_9_method_9_code 1 = .ok (.getfield 83, 3) := by decide +kernel
theorem dX7_note_4 : decode prog_9_method_9_code 4 = .ok (.iload_n 1, 1) := by decide +kernel
theorem dX7_note_5 : decode prog_9_method_9_code 5 = .ok (.iaload, 1) := by decide +kernel
theorem dX7_note_6 : decode prog_9_method_9_code 6 = .ok (.ifCond .eq 13, 3) := by decide +kernel
theorem dX7_note_9 : decode prog_9_method_9_code 9 = .ok (.iload_n 2, 1) := by decide +kernel
theorem dX7_note_10 : decode prog_9_method_9_code 10 = .ok (.aload_n 0, 1) := by decide +kernel
theorem dX7_note_11 : decode prog_9_method_9_code 11 = .ok (.getfield 86, 3) := by decide +kernel
theorem dX7_note_14 : decode prog_9_method_9_code 14 = .ok (.iload_n 1, 1) := by decide +kernel
theorem dX7_note_15 : decode prog_9_method_9_code 15 = .ok (.iaload, 1) := by decide +kernel
theorem dX7_note_16 : decode prog_9_method_9_code 16 = .ok (.if_icmp .ge 10, 3) := by decide +kernel
theorem dX7_note_19 : decode prog_9_method_9_code 19 = .ok (.aload_n 0, 1) := by decide +kernel
theorem dX7_note_20 : decode prog_9_method_9_code 20 = .ok (.getfield 86, 3) := by decide +kernel
theorem dX7_note_23 : decode prog_9_method_9_code 23 = .ok (.iload_n 1, 1) := by decide +kernel
theorem dX7_note_24 : decode prog_9_method_9_code 24 = .ok (.iload_n 2, 1) := by decide +kernel
theorem dX7_note_25 : decode prog_9_method_9_code 25 = .ok (.iastore, 1) := by decide +kernel
theorem dX7_note_26 : decode prog_9_method_9_code 26 = .ok (.aload_n 0, 1) := by decide +kernel
theorem dX7_note_27 : decode prog_9_method_9_code 27 = .ok (.getfield 83, 3) := by decide +kernel
theorem dX7_note_30 : decode prog_9_method_9_code 30 = .ok (.iload_n 1, 1) := by decide +kernel
theorem dX7_note_31 : decode prog_9_method_9_code 31 = .ok (.dup2, 1) := by decide +kernel
theorem dX7_note_32 : decode prog_9_method_9_code 32 = .ok (.iaload, 1) := by decide +kernel
theorem dX7_note_33 : decode prog_9_method_9_code 33 = .ok (.iconst 1, 1) := by decide +kernel
theorem dX7_note_34 : decode prog_9_method_9_code 34 = .ok (.iadd, 1) := by decide +kernel
theorem dX7_note_35 : decode prog_9_method_9_code 35 = .ok (.iastore, 1) := by decide +kernel
theorem dX7_note_36 : decode prog_9_method_9_code 36 = .ok (.return_, 1) := by decide +kernel
theorem dX7_inner_0 : decode prog_9_method_10_code 0 = .ok (.aload_n 0, 1) := by decide +kernel
theorem dX7_inner_1 : decode prog_9_method_10_code 1 = .ok (.getfield 34, 3) := by decide +kernel
theorem dX7_inner_4 : decode prog_9_method_10_code 4 = .ok (.iload_n 1, 1) := by decide +kernel
theorem dX7_inner_5 : decode prog_9_method_10_code 5 = .ok (.iaload, 1) := by decide +kernel
theorem dX7_inner_6 : decode prog_9_method_10_code 6 = .ok (.ifCond .le 18, 3) := by decide +kernel
theorem dX7_inner_9 : decode prog_9_method_10_code 9 = .ok (.iconst 3, 1) := by decide +kernel
theorem dX7_inner_10 : decode prog_9_method_10_code 10 = .ok (.iload_n 1, 1) := by decide +kernel
theorem dX7_inner_11 : decode prog_9_method_10_code 11 = .ok (.imul, 1) := by decide +kernel
theorem dX7_inner_12 : decode prog_9_method_10_code 12 = .ok (.aload_n 0, 1) := by decide +kernel
theorem dX7_inner_13 : decode prog_9_method_10_code 13 = .ok (.getfield 34, 3) := by decide +kernel
theorem dX7_inner_16 : decode prog_9_method_10_code 16 = .ok (.iload_n 1, 1) := by decide +kernel
theorem dX7_inner_17 : decode prog_9_method_10_code 17 = .ok (.iaload, 1) := by decide +kernel
theorem dX7_inner_18 : decode prog_9_method_10_code 18 = .ok (.iadd, 1) := by decide +kernel
theorem dX7_inner_19 : decode prog_9_method_10_code 19 = .ok (.iconst 1, 1) := by decide +kernel
theorem dX7_inner_20 : decode prog_9_method_10_code 20 = .ok (.isub, 1) := by decide +kernel
theorem dX7_inner_21 : decode prog_9_method_10_code 21 = .ok (.goto 9, 3) := by decide +kernel
theorem dX7_inner_24 : decode prog_9_method_10_code 24 = .ok (.aload_n 0, 1) := by decide +kernel
theorem dX7_inner_25 : decode prog_9_method_10_code 25 = .ok (.getfield 31, 3) := by decide +kernel
theorem dX7_inner_28 : decode prog_9_method_10_code 28 = .ok (.iload_n 1, 1) := by decide +kernel
theorem dX7_inner_29 : decode prog_9_method_10_code 29 = .ok (.iaload, 1) := by decide +kernel
theorem dX7_inner_30 : decode prog_9_method_10_code 30 = .ok (.ireturn, 1) := by decide +kernel
theorem dX7_newTask_0 : decode prog_9_method_11_code 0 = .ok (.aload_n 0, 1) := by decide +kernel
theorem dX7_newTask_1 : decode prog_9_method_11_code 1 = .ok (.getfield 119, 3) := by decide +kernel
theorem dX7_newTask_4 : decode prog_9_method_11_code 4 = .ok (.istore 4, 2) := by decide +kernel
theorem dX7_newTask_6 : decode prog_9_method_11_code 6 = .ok (.aload_n 0, 1) := by decide +kernel
theorem dX7_newTask_7 : decode prog_9_method_11_code 7 = .ok (.dup, 1) := by decide +kernel
theorem dX7_newTask_8 : decode prog_9_method_11_code 8 = .ok (.getfield 119, 3) := by decide +kernel
theorem dX7_newTask_11 : decode prog_9_method_11_code 11 = .ok (.iconst 1, 1) := by decide +kernel
theorem dX7_newTask_12 : decode prog_9_method_11_code 12 = .ok (.iadd, 1) := by decide +kernel
theorem dX7_newTask_13 : decode prog_9_method_11_code 13 = .ok (.putfield 119, 3) := by decide +kernel
theorem dX7_newTask_16 : decode prog_9_method_11_code 16 = .ok (.aload_n 0, 1) := by decide +kernel
theorem dX7_newTask_17 : decode prog_9_method_11_code 17 = .ok (.getfield 28, 3) := by decide +kernel
theorem dX7_newTask_20 : decode prog_9_method_11_code 20 = .ok (.iload 4, 2) := by decide +kernel
theorem dX7_newTask_22 : decode prog_9_method_11_code 22 = .ok (.iload_n 1, 1) := by decide +kernel
theorem dX7_newTask_23 : decode prog_9_method_11_code 23 = .ok (.iastore, 1) := by decide +kernel
theorem dX7_newTask_24 : decode prog_9_method_11_code 24 = .ok (.aload_n 0, 1) := by decide +kernel
theorem dX7_newTask_25 : decode prog_9_method_11_code 25 = .ok (.getfield 22, 3) := by decide +kernel
theorem dX7_newTask_28 : decode prog_9_method_11_code 28 = .ok (.iload 4, 2) := by decide +kernel
theorem dX7_newTask_30 : decode prog_9_method_11_code 30 = .ok (.iload_n 2, 1) := by decide +kernel
theorem dX7_newTask_31 : decode prog_9_method_11_code 31 = .ok (.iastore, 1) := by decide +kernel
theorem dX7_newTask_32 : decode prog_9_method_11_code 32 = .ok (.aload_n 0, 1) := by decide +kernel
theorem dX7_newTask_33 : decode prog_9_method_11_code 33 = .ok (.getfield 25, 3) := by decide +kernel
theorem dX7_newTask_36 : decode prog_9_method_11_code 36 = .ok (.iload 4, 2) := by decide +kernel
theorem dX7_newTask_38 : decode prog_9_method_11_code 38 = .ok (.iconst 0, 1) := by decide +kernel
theorem dX7_newTask_39 : decode prog_9_method_11_code 39 = .ok (.iastore, 1) := by decide +kernel
theorem dX7_newTask_40 : decode prog_9_method_11_code 40 = .ok (.aload_n 0, 1) := by decide +kernel
theorem dX7_newTask_41 : decode prog_9_method_11_code 41 = .ok (.getfield 34, 3) := by decide +kernel
theorem dX7_newTask_44 : decode prog_9_method_11_code 44 = .ok (.iload 4, 2) := by decide +kernel
theorem dX7_newTask_46 : decode prog_9_method_11_code 46 = .ok (.iconst 0, 1) := by decide +kernel
theorem dX7_newTask_47 : decode prog_9_method_11_code 47 = .ok (.iastore, 1) := by decide +kernel
theorem dX7_newTask_48 : decode prog_9_method_11_code 48 = .ok (.aload_n 0, 1) := by decide +kernel
theorem dX7_newTask_49 : decode prog_9_method_11_code 49 = .ok (.getfield 31, 3) := by decide +kernel
theorem dX7_newTask_52 : decode prog_9_method_11_code 52 = .ok (.iload 4, 2) := by decide +kernel
theorem dX7_newTask_54 : decode prog_9_method_11_code 54 = .ok (.iload_n 3, 1) := by decide +kernel
theorem dX7_newTask_55 : decode prog_9_method_11_code 55 = .ok (.iastore, 1) := by decide +kernel
theorem dX7_newTask_56 : decode prog_9_method_11_code 56 = .ok (.aload_n 0, 1) := by decide +kernel
theorem dX7_newTask_57 : decode prog_9_method_11_code 57 = .ok (.getfield 19, 3) := by decide +kernel
theorem dX7_newTask_60 : decode prog_9_method_11_code 60 = .ok (.iload 4, 2) := by decide +kernel
theorem dX7_newTask_62 : decode prog_9_method_11_code 62 = .ok (.iconst 0, 1) := by decide +kernel
theorem dX7_newTask_63 : decode prog_9_method_11_code 63 = .ok (.iastore, 1) := by decide +kernel
theorem dX7_newTask_64 : decode prog_9_method_11_code 64 = .ok (.aload_n 0, 1) := by decide +kernel
theorem dX7_newTask_65 : decode prog_9_method_11_code 65 = .ok (.getfield 37, 3) := by decide +kernel
theorem dX7_newTask_68 : decode prog_9_method_11_code 68 = .ok (.iload 4, 2) := by decide +kernel
theorem dX7_newTask_70 : decode prog_9_method_11_code 70 = .ok (.iconst 0, 1) := by decide +kernel
theorem dX7_newTask_71 : decode prog_9_method_11_code 71 = .ok (.iastore, 1) := by decide +kernel
theorem dX7_newTask_72 : decode prog_9_method_11_code 72 = .ok (.aload_n 0, 1) := by decide +kernel
theorem dX7_newTask_73 : decode prog_9_method_11_code 73 = .ok (.getfield 46, 3) := by decide +kernel
theorem dX7_newTask_76 : decode prog_9_method_11_code 76 = .ok (.iload 4, 2) := by decide +kernel
theorem dX7_newTask_78 : decode prog_9_method_11_code 78 = .ok (.iconst 0, 1) := by decide +kernel
theorem dX7_newTask_79 : decode prog_9_method_11_code 79 = .ok (.bastore, 1) := by decide +kernel
theorem dX7_newTask_80 : decode prog_9_method_11_code 80 = .ok (.aload_n 0, 1) := by decide +kernel
theorem dX7_newTask_81 : decode prog_9_method_11_code 81 = .ok (.getfield 53, 3) := by decide +kernel
theorem dX7_newTask_84 : decode prog_9_method_11_code 84 = .ok (.iload 4, 2) := by decide +kernel
theorem dX7_newTask_86 : decode prog_9_method_11_code 86 = .ok (.iconst 0, 1) := by decide +kernel
theorem dX7_newTask_87 : decode prog_9_method_11_code 87 = .ok (.bastore, 1) := by decide +kernel
theorem dX7_newTask_88 : decode prog_9_method_11_code 88 = .ok (.iconst 0, 1) := by decide +kernel
theorem dX7_newTask_89 : decode prog_9_method_11_code 89 = .ok (.istore 5, 2) := by decide +kernel
theorem dX7_newTask_91 : decode prog_9_method_11_code 91 = .ok (.iload 5, 2) := by decide +kernel
theorem dX7_newTask_93 : decode prog_9_method_11_code 93 = .ok (.iconst 2, 1) := by decide +kernel
theorem dX7_newTask_94 : decode prog_9_method_11_code 94 = .ok (.if_icmp .ge 22, 3) := by decide +kernel
theorem dX7_newTask_97 : decode prog_9_method_11_code 97 = .ok (.aload_n 0, 1) := by decide +kernel
theorem dX7_newTask_98 : decode prog_9_method_11_code 98 = .ok (.getfield 59, 3) := by decide +kernel
theorem dX7_newTask_101 : decode prog_9_method_11_code 101 = .ok (.iconst 2, 1) := by decide +kernel
theorem dX7_newTask_102 : decode prog_9_method_11_code 102 = .ok (.iload 4, 2) := by decide +kernel
theorem dX7_newTask_104 : decode prog_9_method_11_code 104 = .ok (.imul, 1) := by decide +kernel
theorem dX7_newTask_105 : decode prog_9_method_11_code 105 = .ok (.iload 5, 2) := by decide +kernel
theorem dX7_newTask_107 : decode prog_9_method_11_code 107 = .ok (.iadd, 1) := by decide +kernel
theorem dX7_newTask_108 : decode prog_9_method_11_code 108 = .ok (.iconst 0, 1) := by decide +kernel
theorem dX7_newTask_109 : decode prog_9_method_11_code 109 = .ok (.iastore, 1) := by decide +kernel
theorem dX7_newTask_110 : decode prog_9_method_11_code 110 = .ok (.iinc 5 1, 3) := by decide +kernel
theorem dX7_newTask_113 : decode prog_9_method_11_code 113 = .ok (.goto (-22), 3) := by decide +kernel
theorem dX7_newTask_116 : decode prog_9_method_11_code 116 = .ok (.aload_n 0, 1) := by decide +kernel
theorem dX7_newTask_117 : decode prog_9_method_11_code 117 = .ok (.getfield 71, 3) := by decide +kernel
theorem dX7_newTask_120 : decode prog_9_method_11_code 120 = .ok (.iload_n 3, 1) := by decide +kernel
theorem dX7_newTask_121 : decode prog_9_method_11_code 121 = .ok (.dup2, 1) := by decide +kernel
theorem dX7_newTask_122 : decode prog_9_method_11_code 122 = .ok (.iaload, 1) := by decide +kernel
theorem dX7_newTask_123 : decode prog_9_method_11_code 123 = .ok (.iconst 1, 1) := by decide +kernel
theorem dX7_newTask_124 : decode prog_9_method_11_code 124 = .ok (.iadd, 1) := by decide +kernel
theorem dX7_newTask_125 : decode prog_9_method_11_code 125 = .ok (.iastore, 1) := by decide +kernel
theorem dX7_newTask_126 : decode prog_9_method_11_code 126 = .ok (.iload 4, 2) := by decide +kernel
theorem dX7_newTask_128 : decode prog_9_method_11_code 128 = .ok (.ireturn, 1) := by decide +kernel
theorem dX7_begin_0 : decode prog_9_method_12_code 0 = .ok (.aload_n 0, 1) := by decide +kernel
theorem dX7_begin_1 : decode prog_9_method_12_code 1 = .ok (.iload_n 1, 1) := by decide +kernel
theorem dX7_begin_2 : decode prog_9_method_12_code 2 = .ok (.iconst 0, 1) := by decide +kernel
theorem dX7_begin_3 : decode prog_9_method_12_code 3 = .ok (.bipush 7, 2) := by decide +kernel
theorem dX7_begin_5 : decode prog_9_method_12_code 5 = .ok (.invokestatic 105, 3) := by decide +kernel
theorem dX7_begin_8 : decode prog_9_method_12_code 8 = .ok (.ifCond .eq 26, 3) := by decide +kernel
theorem dX7_begin_11 : decode prog_9_method_12_code 11 = .ok (.iload_n 3, 1) := by decide +kernel
theorem dX7_begin_12 : decode prog_9_method_12_code 12 = .ok (.iconst 1, 1) := by decide +kernel
theorem dX7_begin_13 : decode prog_9_method_12_code 13 = .ok (.iconst 3, 1) := by decide +kernel
theorem dX7_begin_14 : decode prog_9_method_12_code 14 = .ok (.invokestatic 105, 3) := by decide +kernel
theorem dX7_begin_17 : decode prog_9_method_12_code 17 = .ok (.ifCond .eq 17, 3) := by decide +kernel
theorem dX7_begin_20 : decode prog_9_method_12_code 20 = .ok (.iload 4, 2) := by decide +kernel
theorem dX7_begin_22 : decode prog_9_method_12_code 22 = .ok (.iconst 0, 1) := by decide +kernel
theorem dX7_begin_23 : decode prog_9_method_12_code 23 = .ok (.iconst 1, 1) := by decide +kernel
theorem dX7_begin_24 : decode prog_9_method_12_code 24 = .ok (.invokestatic 105, 3) := by decide +kernel
theorem dX7_begin_27 : decode prog_9_method_12_code 27 = .ok (.ifCond .eq 7, 3) := by decide +kernel
theorem dX7_begin_30 : decode prog_9_method_12_code 30 = .ok (.iconst 0, 1) := by decide +kernel
theorem dX7_begin_31 : decode prog_9_method_12_code 31 = .ok (.goto 4, 3) := by decide +kernel
theorem dX7_begin_34 : decode prog_9_method_12_code 34 = .ok (.iconst 1, 1) := by decide +kernel
theorem dX7_begin_35 : decode prog_9_method_12_code 35 = .ok (.putfield 101, 3) := by decide +kernel
theorem dX7_begin_38 : decode prog_9_method_12_code 38 = .ok (.aload_n 0, 1) := by decide +kernel
theorem dX7_begin_39 : decode prog_9_method_12_code 39 = .ok (.getfield 101, 3) := by decide +kernel
theorem dX7_begin_42 : decode prog_9_method_12_code 42 = .ok (.ifCond .le 4, 3) := by decide +kernel
theorem dX7_begin_45 : decode prog_9_method_12_code 45 = .ok (.return_, 1) := by decide +kernel
theorem dX7_begin_46 : decode prog_9_method_12_code 46 = .ok (.aload_n 0, 1) := by decide +kernel
theorem dX7_begin_47 : decode prog_9_method_12_code 47 = .ok (.iconst 1, 1) := by decide +kernel
theorem dX7_begin_48 : decode prog_9_method_12_code 48 = .ok (.putfield 122, 3) := by decide +kernel
theorem dX7_begin_51 : decode prog_9_method_12_code 51 = .ok (.aload_n 0, 1) := by decide +kernel
theorem dX7_begin_52 : decode prog_9_method_12_code 52 = .ok (.iconst 0, 1) := by decide +kernel
theorem dX7_begin_53 : decode prog_9_method_12_code 53 = .ok (.putfield 119, 3) := by decide +kernel
theorem dX7_begin_56 : decode prog_9_method_12_code 56 = .ok (.aload_n 0, 1) := by decide +kernel
theorem dX7_begin_57 : decode prog_9_method_12_code 57 = .ok (.iconst 0, 1) := by decide +kernel
theorem dX7_begin_58 : decode prog_9_method_12_code 58 = .ok (.putfield 126, 3) := by decide +kernel
theorem dX7_begin_61 : decode prog_9_method_12_code 61 = .ok (.aload_n 0, 1) := by decide +kernel
theorem dX7_begin_62 : decode prog_9_method_12_code 62 = .ok (.iconst 0, 1) := by decide +kernel
theorem dX7_begin_63 : decode prog_9_method_12_code 63 = .ok (.putfield 129, 3) := by decide +kernel
theorem dX7_begin_66 : decode prog_9_method_12_code 66 = .ok (.aload_n 0, 1) := by decide +kernel
theorem dX7_begin_67 : decode prog_9_method_12_code 67 = .ok (.iconst 0, 1) := by decide +kernel
theorem dX7_begin_68 : decode prog_9_method_12_code 68 = .ok (.putfield 132, 3) := by decide +kernel
theorem dX7_begin_71 : decode prog_9_method_12_code 71 = .ok (.aload_n 0, 1) := by decide +kernel
theorem dX7_begin_72 : decode prog_9_method_12_code 72 = .ok (.iconst 0, 1) := by decide +kernel
theorem dX7_begin_73 : decode prog_9_method_12_code 73 = .ok (.putfield 135, 3) := by decide +kernel
theorem dX7_begin_76 : decode prog_9_method_12_code 76 = .ok (.aload_n 0, 1) := by decide +kernel
theorem dX7_begin_77 : decode prog_9_method_12_code 77 = .ok (.iload_n 3, 1) := by decide +kernel
theorem dX7_begin_78 : decode prog_9_method_12_code 78 = .ok (.putfield 138, 3) := by decide +kernel
theorem dX7_begin_81 : decode prog_9_method_12_code 81 = .ok (.aload_n 0, 1) := by decide +kernel
theorem dX7_begin_82 : decode prog_9_method_12_code 82 = .ok (.iload 4, 2) := by decide +kernel
theorem dX7_begin_84 : decode prog_9_method_12_code 84 = .ok (.putfield 141, 3) := by decide +kernel
theorem dX7_begin_87 : decode prog_9_method_12_code 87 = .ok (.iconst 0, 1) := by decide +kernel
theorem dX7_begin_88 : decode prog_9_method_12_code 88 = .ok (.istore 5, 2) := by decide +kernel
theorem dX7_begin_90 : decode prog_9_method_12_code 90 = .ok (.iload 5, 2) := by decide +kernel
theorem dX7_begin_92 : decode prog_9_method_12_code 92 = .ok (.iconst 4, 1) := by decide +kernel
theorem dX7_begin_93 : decode prog_9_method_12_code 93 = .ok (.if_icmp .ge 17, 3) := by decide +kernel
theorem dX7_begin_96 : decode prog_9_method_12_code 96 = .ok (.aload_n 0, 1) := by decide +kernel
theorem dX7_begin_97 : decode prog_9_method_12_code 97 = .ok (.getfield 56, 3) := by decide +kernel
theorem dX7_begin_100 : decode prog_9_method_12_code 100 = .ok (.iload 5, 2) := by decide +kernel
theorem dX7_begin_102 : decode prog_9_method_12_code 102 = .ok (.iconst 0, 1) := by decide +kernel
theorem dX7_begin_103 : decode prog_9_method_12_code 103 = .ok (.bastore, 1) := by decide +kernel
theorem dX7_begin_104 : decode prog_9_method_12_code 104 = .ok (.iinc 5 1, 3) := by decide +kernel
theorem dX7_begin_107 : decode prog_9_method_12_code 107 = .ok (.goto (-17), 3) := by decide +kernel
theorem dX7_begin_110 : decode prog_9_method_12_code 110 = .ok (.iconst 0, 1) := by decide +kernel
theorem dX7_begin_111 : decode prog_9_method_12_code 111 = .ok (.istore 5, 2) := by decide +kernel
theorem dX7_begin_113 : decode prog_9_method_12_code 113 = .ok (.iload 5, 2) := by decide +kernel
theorem dX7_begin_115 : decode prog_9_method_12_code 115 = .ok (.iconst 3, 1) := by decide +kernel
theorem dX7_begin_116 : decode prog_9_method_12_code 116 = .ok (.if_icmp .ge 25, 3) := by decide +kernel
theorem dX7_begin_119 : decode prog_9_method_12_code 119 = .ok (.aload_n 0, 1) := by decide +kernel
theorem dX7_begin_120 : decode prog_9_method_12_code 120 = .ok (.getfield 89, 3) := by decide +kernel
theorem dX7_begin_123 : decode prog_9_method_12_code 123 = .ok (.iload 5, 2) := by decide +kernel
theorem dX7_begin_125 : decode prog_9_method_12_code 125 = .ok (.iconst (-1), 1) := by decide +kernel
theorem dX7_begin_126 : decode prog_9_method_12_code 126 = .ok (.iastore, 1) := by decide +kernel
theorem dX7_begin_127 : decode prog_9_method_12_code 127 = .ok (.aload_n 0, 1) := by decide +kernel
theorem dX7_begin_128 : decode prog_9_method_12_code 128 = .ok (.getfield 92, 3) := by decide +kernel
theorem dX7_begin_131 : decode prog_9_method_12_code 131 = .ok (.iload 5, 2) := by decide +kernel
theorem dX7_begin_133 : decode prog_9_method_12_code 133 = .ok (.iconst 0, 1) := by decide +kernel
theorem dX7_begin_134 : decode prog_9_method_12_code 134 = .ok (.iastore, 1) := by decide +kernel
theorem dX7_begin_135 : decode prog_9_method_12_code 135 = .ok (.iinc 5 1, 3) := by decide +kernel
theorem dX7_begin_138 : decode prog_9_method_12_code 138 = .ok (.goto (-25), 3) := by decide +kernel
theorem dX7_begin_141 : decode prog_9_method_12_code 141 = .ok (.aload_n 0, 1) := by decide +kernel
theorem dX7_begin_142 : decode prog_9_method_12_code 142 = .ok (.getfield 68, 3) := by decide +kernel
theorem dX7_begin_145 : decode prog_9_method_12_code 145 = .ok (.iconst 0, 1) := by decide +kernel
theorem dX7_begin_146 : decode prog_9_method_12_code 146 = .ok (.iconst 0, 1) := by decide +kernel
theorem dX7_begin_147 : decode prog_9_method_12_code 147 = .ok (.iastore, 1) := by decide +kernel
theorem dX7_begin_148 : decode prog_9_method_12_code 148 = .ok (.aload_n 0, 1) := by decide +kernel
theorem dX7_begin_149 : decode prog_9_method_12_code 149 = .ok (.getfield 68, 3) := by decide +kernel
theorem dX7_begin_152 : decode prog_9_method_12_code 152 = .ok (.iconst 1, 1) := by decide +kernel
theorem dX7_begin_153 : decode prog_9_method_12_code 153 = .ok (.iconst 0, 1) := by decide +kernel
theorem dX7_begin_154 : decode prog_9_method_12_code 154 = .ok (.iastore, 1) := by decide +kernel
theorem dX7_begin_155 : decode prog_9_method_12_code 155 = .ok (.aload_n 0, 1) := by decide +kernel
theorem dX7_begin_156 : decode prog_9_method_12_code 156 = .ok (.sipush 144, 3) := by decide +kernel
theorem dX7_begin_159 : decode prog_9_method_12_code 159 = .ok (.iconst 0, 1) := by decide +kernel
theorem dX7_begin_160 : decode prog_9_method_12_code 160 = .ok (.iconst 0, 1) := by decide +kernel
theorem dX7_begin_161 : decode prog_9_method_12_code 161 = .ok (.invokevirtual 144, 3) := by decide +kernel
theorem dX7_begin_164 : decode prog_9_method_12_code 164 = .ok (.aload_n 0, 1) := by decide +kernel
theorem dX7_begin_165 : decode prog_9_method_12_code 165 = .ok (.iload_n 1, 1) := by decide +kernel
theorem dX7_begin_166 : decode prog_9_method_12_code 166 = .ok (.iload_n 2, 1) := by decide +kernel
theorem dX7_begin_167 : decode prog_9_method_12_code 167 = .ok (.sipush 144, 3) := by decide +kernel
theorem dX7_begin_170 : decode prog_9_method_12_code 170 = .ok (.invokevirtual 148, 3) := by decide +kernel
theorem dX7_begin_173 : decode prog_9_method_12_code 173 = .ok (.istore 5, 2) := by decide +kernel
theorem dX7_begin_175 : decode prog_9_method_12_code 175 = .ok (.aload_n 0, 1) := by decide +kernel
theorem dX7_begin_176 : decode prog_9_method_12_code 176 = .ok (.iconst 0, 1) := by decide +kernel
theorem dX7_begin_177 : decode prog_9_method_12_code 177 = .ok (.iload 5, 2) := by decide +kernel
theorem dX7_begin_179 : decode prog_9_method_12_code 179 = .ok (.invokevirtual 152, 3) := by decide +kernel
theorem dX7_begin_182 : decode prog_9_method_12_code 182 = .ok (.return_, 1) := by decide +kernel
theorem dX7_push_0 : decode prog_9_method_13_code 0 = .ok (.aload_n 0, 1) := by decide +kernel
theorem dX7_push_1 : decode prog_9_method_13_code 1 = .ok (.getfield 19, 3) := by decide +kernel
theorem dX7_push_4 : decode prog_9_method_13_code 4 = .ok (.iload_n 2, 1) := by decide +kernel
theorem dX7_push_5 : decode prog_9_method_13_code 5 = .ok (.iconst 0, 1) := by decide +kernel
theorem dX7_push_6 : decode prog_9_method_13_code 6 = .ok (.iastore, 1) := by decide +kernel
theorem dX7_push_7 : decode prog_9_method_13_code 7 = .ok (.aload_n 0, 1) := by decide +kernel
theorem dX7_push_8 : decode prog_9_method_13_code 8 = .ok (.getfield 95, 3) := by decide +kernel
theorem dX7_push_11 : decode prog_9_method_13_code 11 = .ok (.bipush 48, 2) := by decide +kernel
theorem dX7_push_13 : decode prog_9_method_13_code 13 = .ok (.iload_n 1, 1) := by decide +kernel
theorem dX7_push_14 : decode prog_9_method_13_code 14 = .ok (.imul, 1) := by decide +kernel
theorem dX7_push_15 : decode prog_9_method_13_code 15 = .ok (.aload_n 0, 1) := by decide +kernel
theorem dX7_push_16 : decode prog_9_method_13_code 16 = .ok (.getfield 92, 3) := by decide +kernel
theorem dX7_push_19 : decode prog_9_method_13_code 19 = .ok (.iload_n 1, 1) := by decide +kernel
theorem dX7_push_20 : decode prog_9_method_13_code 20 = .ok (.iaload, 1) := by decide +kernel
theorem dX7_push_21 : decode prog_9_method_13_code 21 = .ok (.iadd, 1) := by decide +kernel
theorem dX7_push_22 : decode prog_9_method_13_code 22 = .ok (.iload_n 2, 1) := by decide +kernel
theorem dX7_push_23 : decode prog_9_method_13_code 23 = .ok (.iastore, 1) := by decide +kernel
theorem dX7_push_24 : decode prog_9_method_13_code 24 = .ok (.aload_n 0, 1) := by decide +kernel
theorem dX7_push_25 : decode prog_9_method_13_code 25 = .ok (.getfield 92, 3) := by decide +kernel
theorem dX7_push_28 : decode prog_9_method_13_code 28 = .ok (.iload_n 1, 1) := by decide +kernel
theorem dX7_push_29 : decode prog_9_method_13_code 29 = .ok (.dup2, 1) := by decide +kernel
theorem dX7_push_30 : decode prog_9_method_13_code 30 = .ok (.iaload, 1) := by decide +kernel
theorem dX7_push_31 : decode prog_9_method_13_code 31 = .ok (.iconst 1, 1) := by decide +kernel
theorem dX7_push_32 : decode prog_9_method_13_code 32 = .ok (.iadd, 1) := by decide +kernel
theorem dX7_push_33 : decode prog_9_method_13_code 33 = .ok (.iastore, 1) := by decide +kernel
theorem dX7_push_34 : decode prog_9_method_13_code 34 = .ok (.return_, 1) := by decide +kernel
theorem dX7_move_0 : decode prog_9_method_14_code 0 = .ok (.iconst 0, 1) := by decide +kernel
theorem dX7_move_1 : decode prog_9_method_14_code 1 = .ok (.istore_n 1, 1) := by decide +kernel
theorem dX7_move_2 : decode prog_9_method_14_code 2 = .ok (.iload_n 1, 1) := by decide +kernel
theorem dX7_move_3 : decode prog_9_method_14_code 3 = .ok (.iconst 2, 1) := by decide +kernel
theorem dX7_move_4 : decode prog_9_method_14_code 4 = .ok (.if_icmp .ge 89, 3) := by decide +kernel
theorem dX7_move_7 : decode prog_9_method_14_code 7 = .ok (.iconst (-1), 1) := by decide +kernel
theorem dX7_move_8 : decode prog_9_method_14_code 8 = .ok (.istore_n 2, 1) := by decide +kernel
theorem dX7_move_9 : decode prog_9_method_14_code 9 = .ok (.iconst 0, 1) := by decide +kernel
theorem dX7_move_10 : decode prog_9_method_14_code 10 = .ok (.istore_n 3, 1) := by decide +kernel
theorem dX7_move_11 : decode prog_9_method_14_code 11 = .ok (.iload_n 3, 1) := by decide +kernel
theorem dX7_move_12 : decode prog_9_method_14_code 12 = .ok (.aload_n 0, 1) := by decide +kernel
theorem dX7_move_13 : decode prog_9_method_14_code 13 = .ok (.getfield 119, 3) := by decide +kernel
theorem dX7_move_16 : decode prog_9_method_14_code 16 = .ok (.if_icmp .ge 54, 3) := by decide +kernel
theorem dX7_move_19 : decode prog_9_method_14_code 19 = .ok (.aload_n 0, 1) := by decide +kernel
theorem dX7_move_20 : decode prog_9_method_14_code 20 = .ok (.getfield 59, 3) := by decide +kernel
theorem dX7_move_23 : decode prog_9_method_14_code 23 = .ok (.iconst 2, 1) := by decide +kernel
theorem dX7_move_24 : decode prog_9_method_14_code 24 = .ok (.iload_n 3, 1) := by decide +kernel
theorem dX7_move_25 : decode prog_9_method_14_code 25 = .ok (.imul, 1) := by decide +kernel
theorem dX7_move_26 : decode prog_9_method_14_code 26 = .ok (.iload_n 1, 1) := by decide +kernel
theorem dX7_move_27 : decode prog_9_method_14_code 27 = .ok (.iadd, 1) := by decide +kernel
theorem dX7_move_28 : decode prog_9_method_14_code 28 = .ok (.iaload, 1) := by decide +kernel
theorem dX7_move_29 : decode prog_9_method_14_code 29 = .ok (.iconst 1, 1) := by decide +kernel
theorem dX7_move_30 : decode prog_9_method_14_code 30 = .ok (.iand, 1) := by decide +kernel
theorem dX7_move_31 : decode prog_9_method_14_code 31 = .ok (.iconst 1, 1) := by decide +kernel
theorem dX7_move_32 : decode prog_9_method_14_code 32 = .ok (.if_icmp .ne 32, 3) := by decide +kernel
theorem dX7_move_35 : decode prog_9_method_14_code 35 = .ok (.iload_n 2, 1) := by decide +kernel
theorem dX7_move_36 : decode prog_9_method_14_code 36 = .ok (.ifCond .lt 17, 3) := by decide +kernel
theorem dX7_move_39 : decode prog_9_method_14_code 39 = .ok (.aload_n 0, 1) := by decide +kernel
theorem dX7_move_40 : decode prog_9_method_14_code 40 = .ok (.getfield 62, 3) := by decide +kernel
theorem dX7_move_43 : decode prog_9_method_14_code 43 = .ok (.iconst 2, 1) := by decide +kernel
theorem dX7_move_44 : decode prog_9_method_14_code 44 = .ok (.iload_n 3, 1) := by decide +kernel
theorem dX7_move_45 : decode prog_9_method_14_code 45 = .ok (.imul, 1) := by decide +kernel
theorem dX7_move_46 : decode prog_9_method_14_code 46 = .ok (.iload_n 1, 1) := by decide +kernel
theorem dX7_move_47 : decode prog_9_method_14_code 47 = .ok (.iadd, 1) := by decide +kernel
theorem dX7_move_48 : decode prog_9_method_14_code 48 = .ok (.iaload, 1) := by decide +kernel
theorem dX7_move_49 : decode prog_9_method_14_code 49 = .ok (.iload_n 2, 1) := by decide +kernel
theorem dX7_move_50 : decode prog_9_method_14_code 50 = .ok (.if_icmp .ge 14, 3) := by decide +kernel
theorem dX7_move_53 : decode prog_9_method_14_code 53 = .ok (.aload_n 0, 1) := by decide +kernel
theorem dX7_move_54 : decode prog_9_method_14_code 54 = .ok (.getfield 62, 3) := by decide +kernel
theorem dX7_move_57 : decode prog_9_method_14_code 57 = .ok (.iconst 2, 1) := by decide +kernel
theorem dX7_move_58 : decode prog_9_method_14_code 58 = .ok (.iload_n 3, 1) := by decide +kernel
theorem dX7_move_59 : decode prog_9_method_14_code 59 = .ok (.imul, 1) := by decide +kernel
theorem dX7_move_60 : decode prog_9_method_14_code 60 = .ok (.iload_n 1, 1) := by decide +kernel
theorem dX7_move_61 : decode prog_9_method_14_code 61 = .ok (.iadd, 1) := by decide +kernel
theorem dX7_move_62 : decode prog_9_method_14_code 62 = .ok (.iaload, 1) := by decide +kernel
theorem dX7_move_63 : decode prog_9_method_14_code 63 = .ok (.istore_n 2, 1) := by decide +kernel
theorem dX7_move_64 : decode prog_9_method_14_code 64 = .ok (.iinc 3 1, 3) := by decide +kernel
theorem dX7_move_67 : decode prog_9_method_14_code 67 = .ok (.goto (-56), 3) := by decide +kernel
theorem dX7_move_70 : decode prog_9_method_14_code 70 = .ok (.iload_n 2, 1) := by decide +kernel
theorem dX7_move_71 : decode prog_9_method_14_code 71 = .ok (.aload_n 0, 1) := by decide +kernel
theorem dX7_move_72 : decode prog_9_method_14_code 72 = .ok (.getfield 68, 3) := by decide +kernel
theorem dX7_move_75 : decode prog_9_method_14_code 75 = .ok (.iload_n 1, 1) := by decide +kernel
theorem dX7_move_76 : decode prog_9_method_14_code 76 = .ok (.iaload, 1) := by decide +kernel
theorem dX7_move_77 : decode prog_9_method_14_code 77 = .ok (.if_icmp .le 10, 3) := by decide +kernel
theorem dX7_move_80 : decode prog_9_method_14_code 80 = .ok (.aload_n 0, 1) := by decide +kernel
theorem dX7_move_81 : decode prog_9_method_14_code 81 = .ok (.getfield 68, 3) := by decide +kernel
theorem dX7_move_84 : decode prog_9_method_14_code 84 = .ok (.iload_n 1, 1) := by decide +kernel
theorem dX7_move_85 : decode prog_9_method_14_code 85 = .ok (.iload_n 2, 1) := by decide +kernel
theorem dX7_move_86 : decode prog_9_method_14_code 86 = .ok (.iastore, 1) := by decide +kernel
theorem dX7_move_87 : decode prog_9_method_14_code 87 = .ok (.iinc 1 1, 3) := by decide +kernel
theorem dX7_move_90 : decode prog_9_method_14_code 90 = .ok (.goto (-88), 3) := by decide +kernel
theorem dX7_move_93 : decode prog_9_method_14_code 93 = .ok (.return_, 1) := by decide +kernel
theorem dX7_isPassed_0 : decode prog_9_method_15_code 0 = .ok (.iconst 0, 1) := by decide +kernel
theorem dX7_isPassed_1 : decode prog_9_method_15_code 1 = .ok (.istore_n 2, 1) := by decide +kernel
theorem dX7_isPassed_2 : decode prog_9_method_15_code 2 = .ok (.iload_n 2, 1) := by decide +kernel
theorem dX7_isPassed_3 : decode prog_9_method_15_code 3 = .ok (.iconst 2, 1) := by decide +kernel
theorem dX7_isPassed_4 : decode prog_9_method_15_code 4 = .ok (.if_icmp .ge 46, 3) := by decide +kernel
theorem dX7_isPassed_7 : decode prog_9_method_15_code 7 = .ok (.aload_n 0, 1) := by decide +kernel
theorem dX7_isPassed_8 : decode prog_9_method_15_code 8 = .ok (.getfield 59, 3) := by decide +kernel
theorem dX7_isPassed_11 : decode prog_9_method_15_code 11 = .ok (.iconst 2, 1) := by decide +kernel
theorem dX7_isPassed_12 : decode prog_9_method_15_code 12 = .ok (.iload_n 1, 1) := by decide +kernel
theorem dX7_isPassed_13 : decode prog_9_method_15_code 13 = .ok (.imul, 1) := by decide +kernel
theorem dX7_isPassed_14 : decode prog_9_method_15_code 14 = .ok (.iload_n 2, 1) := by decide +kernel
theorem dX7_isPassed_15 : decode prog_9_method_15_code 15 = .ok (.iadd, 1) := by decide +kernel
theorem dX7_isPassed_16 : decode prog_9_method_15_code 16 = .ok (.iaload, 1) := by decide +kernel
theorem dX7_isPassed_17 : decode prog_9_method_15_code 17 = .ok (.iconst 2, 1) := by decide +kernel
theorem dX7_isPassed_18 : decode prog_9_method_15_code 18 = .ok (.iand, 1) := by decide +kernel
theorem dX7_isPassed_19 : decode prog_9_method_15_code 19 = .ok (.iconst 2, 1) := by decide +kernel
theorem dX7_isPassed_20 : decode prog_9_method_15_code 20 = .ok (.if_icmp .ne 24, 3) := by decide +kernel
theorem dX7_isPassed_23 : decode prog_9_method_15_code 23 = .ok (.aload_n 0, 1) := by decide +kernel
theorem dX7_isPassed_24 : decode prog_9_method_15_code 24 = .ok (.getfield 68, 3) := by decide +kernel
theorem dX7_isPassed_27 : decode prog_9_method_15_code 27 = .ok (.iload_n 2, 1) := by decide +kernel
theorem dX7_isPassed_28 : decode prog_9_method_15_code 28 = .ok (.iaload, 1) := by decide +kernel
theorem dX7_isPassed_29 : decode prog_9_method_15_code 29 = .ok (.aload_n 0, 1) := by decide +kernel
theorem dX7_isPassed_30 : decode prog_9_method_15_code 30 = .ok (.getfield 65, 3) := by decide +kernel
theorem dX7_isPassed_33 : decode prog_9_method_15_code 33 = .ok (.iconst 2, 1) := by decide +kernel
theorem dX7_isPassed_34 : decode prog_9_method_15_code 34 = .ok (.iload_n 1, 1) := by decide +kernel
theorem dX7_isPassed_35 : decode prog_9_method_15_code 35 = .ok (.imul, 1) := by decide +kernel
theorem dX7_isPassed_36 : decode prog_9_method_15_code 36 = .ok (.iload_n 2, 1) := by decide +kernel
theorem dX7_isPassed_37 : decode prog_9_method_15_code 37 = .ok (.iadd, 1) := by decide +kernel
theorem dX7_isPassed_38 : decode prog_9_method_15_code 38 = .ok (.iaload, 1) := by decide +kernel
theorem dX7_isPassed_39 : decode prog_9_method_15_code 39 = .ok (.if_icmp .gt 5, 3) := by decide +kernel
theorem dX7_isPassed_42 : decode prog_9_method_15_code 42 = .ok (.iconst 0, 1) := by decide +kernel
theorem dX7_isPassed_43 : decode prog_9_method_15_code 43 = .ok (.ireturn, 1) := by decide +kernel
theorem dX7_isPassed_44 : decode prog_9_method_15_code 44 = .ok (.iinc 2 1, 3) := by decide +kernel
theorem dX7_isPassed_47 : decode prog_9_method_15_code 47 = .ok (.goto (-45), 3) := by decide +kernel
theorem dX7_isPassed_50 : decode prog_9_method_15_code 50 = .ok (.iconst 1, 1) := by decide +kernel
theorem dX7_isPassed_51 : decode prog_9_method_15_code 51 = .ok (.ireturn, 1) := by decide +kernel
theorem dX7_next_0 : decode prog_9_method_16_code 0 = .ok (.iconst 0, 1) := by decide +kernel
theorem dX7_next_1 : decode prog_9_method_16_code 1 = .ok (.istore_n 2, 1) := by decide +kernel
theorem dX7_next_2 : decode prog_9_method_16_code 2 = .ok (.iload_n 2, 1) := by decide +kernel
theorem dX7_next_3 : decode prog_9_method_16_code 3 = .ok (.iconst 2, 1) := by decide +kernel
theorem dX7_next_4 : decode prog_9_method_16_code 4 = .ok (.if_icmp .ge 48, 3) := by decide +kernel
theorem dX7_next_7 : decode prog_9_method_16_code 7 = .ok (.aload_n 0, 1) := by decide +kernel
theorem dX7_next_8 : decode prog_9_method_16_code 8 = .ok (.getfield 53, 3) := by decide +kernel
theorem dX7_next_11 : decode prog_9_method_16_code 11 = .ok (.iload_n 1, 1) := by decide +kernel
theorem dX7_next_12 : decode prog_9_method_16_code 12 = .ok (.baload, 1) := by decide +kernel
theorem dX7_next_13 : decode prog_9_method_16_code 13 = .ok (.ifCond .ne 39, 3) := by decide +kernel
theorem dX7_next_16 : decode prog_9_method_16_code 16 = .ok (.aload_n 0, 1) := by decide +kernel
theorem dX7_next_17 : decode prog_9_method_16_code 17 = .ok (.getfield 59, 3) := by decide +kernel
theorem dX7_next_20 : decode prog_9_method_16_code 20 = .ok (.iconst 2, 1) := by decide +kernel
theorem dX7_next_21 : decode prog_9_method_16_code 21 = .ok (.iload_n 1, 1) := by decide +kernel
theorem dX7_next_22 : decode prog_9_method_16_code 22 = .ok (.imul, 1) := by decide +kernel
theorem dX7_next_23 : decode prog_9_method_16_code 23 = .ok (.iload_n 2, 1) := by decide +kernel
theorem dX7_next_24 : decode prog_9_method_16_code 24 = .ok (.iadd, 1) := by decide +kernel
theorem dX7_next_25 : decode prog_9_method_16_code 25 = .ok (.iaload, 1) := by decide +kernel
theorem dX7_next_26 : decode prog_9_method_16_code 26 = .ok (.iconst 1, 1) := by decide +kernel
theorem dX7_next_27 : decode prog_9_method_16_code 27 = .ok (.iand, 1) := by decide +kernel
theorem dX7_next_28 : decode prog_9_method_16_code 28 = .ok (.iconst 1, 1) := by decide +kernel
theorem dX7_next_29 : decode prog_9_method_16_code 29 = .ok (.if_icmp .ne 17, 3) := by decide +kernel
theorem dX7_next_32 : decode prog_9_method_16_code 32 = .ok (.aload_n 0, 1) := by decide +kernel
theorem dX7_next_33 : decode prog_9_method_16_code 33 = .ok (.getfield 62, 3) := by decide +kernel
theorem dX7_next_36 : decode prog_9_method_16_code 36 = .ok (.iconst 2, 1) := by decide +kernel
theorem dX7_next_37 : decode prog_9_method_16_code 37 = .ok (.iload_n 1, 1) := by decide +kernel
theorem dX7_next_38 : decode prog_9_method_16_code 38 = .ok (.imul, 1) := by decide +kernel
theorem dX7_next_39 : decode prog_9_method_16_code 39 = .ok (.iload_n 2, 1) := by decide +kernel
theorem dX7_next_40 : decode prog_9_method_16_code 40 = .ok (.iadd, 1) := by decide +kernel
theorem dX7_next_41 : decode prog_9_method_16_code 41 = .ok (.dup2, 1) := by decide +kernel
theorem dX7_next_42 : decode prog_9_method_16_code 42 = .ok (.iaload, 1) := by decide +kernel
theorem dX7_next_43 : decode prog_9_method_16_code 43 = .ok (.iconst 1, 1) := by decide +kernel
theorem dX7_next_44 : decode prog_9_method_16_code 44 = .ok (.iadd, 1) := by decide +kernel
theorem dX7_next_45 : decode prog_9_method_16_code 45 = .ok (.iastore, 1) := by decide +kernel
theorem dX7_next_46 : decode prog_9_method_16_code 46 = .ok (.iinc 2 1, 3) := by decide +kernel
theorem dX7_next_49 : decode prog_9_method_16_code 49 = .ok (.goto (-47), 3) := by decide +kernel
theorem dX7_next_52 : decode prog_9_method_16_code 52 = .ok (.aload_n 0, 1) := by decide +kernel
theorem dX7_next_53 : decode prog_9_method_16_code 53 = .ok (.getfield 53, 3) := by decide +kernel
theorem dX7_next_56 : decode prog_9_method_16_code 56 = .ok (.iload_n 1, 1) := by decide +kernel
theorem dX7_next_57 : decode prog_9_method_16_code 57 = .ok (.iconst 1, 1) := by decide +kernel
theorem dX7_next_58 : decode prog_9_method_16_code 58 = .ok (.bastore, 1) := by decide +kernel
theorem dX7_next_59 : decode prog_9_method_16_code 59 = .ok (.aload_n 0, 1) := by decide +kernel
theorem dX7_next_60 : decode prog_9_method_16_code 60 = .ok (.invokevirtual 156, 3) := by decide +kernel
theorem dX7_next_63 : decode prog_9_method_16_code 63 = .ok (.aload_n 0, 1) := by decide +kernel
theorem dX7_next_64 : decode prog_9_method_16_code 64 = .ok (.iload_n 1, 1) := by decide +kernel
theorem dX7_next_65 : decode prog_9_method_16_code 65 = .ok (.invokevirtual 159, 3) := by decide +kernel
theorem dX7_next_68 : decode prog_9_method_16_code 68 = .ok (.istore_n 2, 1) := by decide +kernel
theorem dX7_next_69 : decode prog_9_method_16_code 69 = .ok (.iload_n 2, 1) := by decide +kernel
theorem dX7_next_70 : decode prog_9_method_16_code 70 = .ok (.ifCond .ne 10, 3) := by decide +kernel
theorem dX7_next_73 : decode prog_9_method_16_code 73 = .ok (.aload_n 0, 1) := by decide +kernel
theorem dX7_next_74 : decode prog_9_method_16_code 74 = .ok (.iload_n 1, 1) := by decide +kernel
theorem dX7_next_75 : decode prog_9_method_16_code 75 = .ok (.iconst 2, 1) := by decide +kernel
theorem dX7_next_76 : decode prog_9_method_16_code 76 = .ok (.invokevirtual 163, 3) := by decide +kernel
theorem dX7_next_79 : decode prog_9_method_16_code 79 = .ok (.return_, 1) := by decide +kernel
theorem dX7_next_80 : decode prog_9_method_16_code 80 = .ok (.iconst 0, 1) := by decide +kernel
theorem dX7_next_81 : decode prog_9_method_16_code 81 = .ok (.istore_n 3, 1) := by decide +kernel
theorem dX7_next_82 : decode prog_9_method_16_code 82 = .ok (.iload_n 3, 1) := by decide +kernel
theorem dX7_next_83 : decode prog_9_method_16_code 83 = .ok (.iconst 2, 1) := by decide +kernel
theorem dX7_next_84 : decode prog_9_method_16_code 84 = .ok (.if_icmp .ge 39, 3) := by decide +kernel
theorem dX7_next_87 : decode prog_9_method_16_code 87 = .ok (.aload_n 0, 1) := by decide +kernel
theorem dX7_next_88 : decode prog_9_method_16_code 88 = .ok (.getfield 59, 3) := by decide +kernel
theorem dX7_next_91 : decode prog_9_method_16_code 91 = .ok (.iconst 2, 1) := by decide +kernel
theorem dX7_next_92 : decode prog_9_method_16_code 92 = .ok (.iload_n 1, 1) := by decide +kernel
theorem dX7_next_93 : decode prog_9_method_16_code 93 = .ok (.imul, 1) := by decide +kernel
theorem dX7_next_94 : decode prog_9_method_16_code 94 = .ok (.iload_n 3, 1) := by decide +kernel
theorem dX7_next_95 : decode prog_9_method_16_code 95 = .ok (.iadd, 1) := by decide +kernel
theorem dX7_next_96 : decode prog_9_method_16_code 96 = .ok (.iaload, 1) := by decide +kernel
theorem dX7_next_97 : decode prog_9_method_16_code 97 = .ok (.iconst 2, 1) := by decide +kernel
theorem dX7_next_98 : decode prog_9_method_16_code 98 = .ok (.iand, 1) := by decide +kernel
theorem dX7_next_99 : decode prog_9_method_16_code 99 = .ok (.iconst 2, 1) := by decide +kernel
theorem dX7_next_100 : decode prog_9_method_16_code 100 = .ok (.if_icmp .ne 17, 3) := by decide +kernel
theorem dX7_next_103 : decode prog_9_method_16_code 103 = .ok (.aload_n 0, 1) := by decide +kernel
theorem dX7_next_104 : decode prog_9_method_16_code 104 = .ok (.getfield 65, 3) := by decide +kernel
theorem dX7_next_107 : decode prog_9_method_16_code 107 = .ok (.iconst 2, 1) := by decide +kernel
theorem dX7_next_108 : decode prog_9_method_16_code 108 = .ok (.iload_n 1, 1) := by decide +kernel
theorem dX7_next_109 : decode prog_9_method_16_code 109 = .ok (.imul, 1) := by decide +kernel
theorem dX7_next_110 : decode prog_9_method_16_code 110 = .ok (.iload_n 3, 1) := by decide +kernel
theorem dX7_next_111 : decode prog_9_method_16_code 111 = .ok (.iadd, 1) := by decide +kernel
theorem dX7_next_112 : decode prog_9_method_16_code 112 = .ok (.dup2, 1) := by decide +kernel
theorem dX7_next_113 : decode prog_9_method_16_code 113 = .ok (.iaload, 1) := by decide +kernel
theorem dX7_next_114 : decode prog_9_method_16_code 114 = .ok (.iconst 1, 1) := by decide +kernel
theorem dX7_next_115 : decode prog_9_method_16_code 115 = .ok (.iadd, 1) := by decide +kernel
theorem dX7_next_116 : decode prog_9_method_16_code 116 = .ok (.iastore, 1) := by decide +kernel
theorem dX7_next_117 : decode prog_9_method_16_code 117 = .ok (.iinc 3 1, 3) := by decide +kernel
theorem dX7_next_120 : decode prog_9_method_16_code 120 = .ok (.goto (-38), 3) := by decide +kernel
theorem dX7_next_123 : decode prog_9_method_16_code 123 = .ok (.aload_n 0, 1) := by decide +kernel
theorem dX7_next_124 : decode prog_9_method_16_code 124 = .ok (.getfield 53, 3) := by decide +kernel
theorem dX7_next_127 : decode prog_9_method_16_code 127 = .ok (.iload_n 1, 1) := by decide +kernel
theorem dX7_next_128 : decode prog_9_method_16_code 128 = .ok (.iconst 0, 1) := by decide +kernel
theorem dX7_next_129 : decode prog_9_method_16_code 129 = .ok (.bastore, 1) := by decide +kernel
theorem dX7_next_130 : decode prog_9_method_16_code 130 = .ok (.aload_n 0, 1) := by decide +kernel
theorem dX7_next_131 : decode prog_9_method_16_code 131 = .ok (.getfield 25, 3) := by decide +kernel
theorem dX7_next_134 : decode prog_9_method_16_code 134 = .ok (.iload_n 1, 1) := by decide +kernel
theorem dX7_next_135 : decode prog_9_method_16_code 135 = .ok (.dup2, 1) := by decide +kernel
theorem dX7_next_136 : decode prog_9_method_16_code 136 = .ok (.iaload, 1) := by decide +kernel
theorem dX7_next_137 : decode prog_9_method_16_code 137 = .ok (.iconst 1, 1) := by decide +kernel
theorem dX7_next_138 : decode prog_9_method_16_code 138 = .ok (.iadd, 1) := by decide +kernel
theorem dX7_next_139 : decode prog_9_method_16_code 139 = .ok (.iastore, 1) := by decide +kernel
theorem dX7_next_140 : decode prog_9_method_16_code 140 = .ok (.return_, 1) := by decide +kernel
theorem dX7_set_0 : decode prog_9_method_17_code 0 = .ok (.aload_n 0, 1) := by decide +kernel
theorem dX7_set_1 : decode prog_9_method_17_code 1 = .ok (.getfield 19, 3) := by decide +kernel
theorem dX7_set_4 : decode prog_9_method_17_code 4 = .ok (.iload_n 1, 1) := by decide +kernel
theorem dX7_set_5 : decode prog_9_method_17_code 5 = .ok (.iconst 2, 1) := by decide +kernel
theorem dX7_set_6 : decode prog_9_method_17_code 6 = .ok (.iastore, 1) := by decide +kernel
theorem dX7_set_7 : decode prog_9_method_17_code 7 = .ok (.aload_n 0, 1) := by decide +kernel
theorem dX7_set_8 : decode prog_9_method_17_code 8 = .ok (.getfield 37, 3) := by decide +kernel
theorem dX7_set_11 : decode prog_9_method_17_code 11 = .ok (.iload_n 1, 1) := by decide +kernel
theorem dX7_set_12 : decode prog_9_method_17_code 12 = .ok (.iload_n 2, 1) := by decide +kernel
theorem dX7_set_13 : decode prog_9_method_17_code 13 = .ok (.iastore, 1) := by decide +kernel
theorem dX7_set_14 : decode prog_9_method_17_code 14 = .ok (.return_, 1) := by decide +kernel
theorem dX7_finish_0 : decode prog_9_method_18_code 0 = .ok (.aload_n 0, 1) := by decide +kernel
theorem dX7_finish_1 : decode prog_9_method_18_code 1 = .ok (.getfield 19, 3) := by decide +kernel
theorem dX7_finish_4 : decode prog_9_method_18_code 4 = .ok (.iload_n 1, 1) := by decide +kernel
theorem dX7_finish_5 : decode prog_9_method_18_code 5 = .ok (.iconst 3, 1) := by decide +kernel
theorem dX7_finish_6 : decode prog_9_method_18_code 6 = .ok (.iastore, 1) := by decide +kernel
theorem dX7_finish_7 : decode prog_9_method_18_code 7 = .ok (.iconst 0, 1) := by decide +kernel
theorem dX7_finish_8 : decode prog_9_method_18_code 8 = .ok (.istore_n 2, 1) := by decide +kernel
theorem dX7_finish_9 : decode prog_9_method_18_code 9 = .ok (.iload_n 2, 1) := by decide +kernel
theorem dX7_finish_10 : decode prog_9_method_18_code 10 = .ok (.iconst 2, 1) := by decide +kernel
theorem dX7_finish_11 : decode prog_9_method_18_code 11 = .ok (.if_icmp .ge 20, 3) := by decide +kernel
theorem dX7_finish_14 : decode prog_9_method_18_code 14 = .ok (.aload_n 0, 1) := by decide +kernel
theorem dX7_finish_15 : decode prog_9_method_18_code 15 = .ok (.getfield 59, 3) := by decide +kernel
theorem dX7_finish_18 : decode prog_9_method_18_code 18 = .ok (.iconst 2, 1) := by decide +kernel
theorem dX7_finish_19 : decode prog_9_method_18_code 19 = .ok (.iload_n 1, 1) := by decide +kernel
theorem dX7_finish_20 : decode prog_9_method_18_code 20 = .ok (.imul, 1) := by decide +kernel
theorem dX7_finish_21 : decode prog_9_method_18_code 21 = .ok (.iload_n 2, 1) := by decide +kernel
theorem dX7_finish_22 : decode prog_9_method_18_code 22 = .ok (.iadd, 1) := by decide +kernel
theorem dX7_finish_23 : decode prog_9_method_18_code 23 = .ok (.iconst 0, 1) := by decide +kernel
theorem dX7_finish_24 : decode prog_9_method_18_code 24 = .ok (.iastore, 1) := by decide +kernel
theorem dX7_finish_25 : decode prog_9_method_18_code 25 = .ok (.iinc 2 1, 3) := by decide +kernel
theorem dX7_finish_28 : decode prog_9_method_18_code 28 = .ok (.goto (-19), 3) := by decide +kernel
theorem dX7_finish_31 : decode prog_9_method_18_code 31 = .ok (.aload_n 0, 1) := by decide +kernel
theorem dX7_finish_32 : decode prog_9_method_18_code 32 = .ok (.invokevirtual 156, 3) := by decide +kernel
theorem dX7_finish_35 : decode prog_9_method_18_code 35 = .ok (.aload_n 0, 1) := by decide +kernel
theorem dX7_finish_36 : decode prog_9_method_18_code 36 = .ok (.getfield 71, 3) := by decide +kernel
theorem dX7_finish_39 : decode prog_9_method_18_code 39 = .ok (.aload_n 0, 1) := by decide +kernel
theorem dX7_finish_40 : decode prog_9_method_18_code 40 = .ok (.getfield 31, 3) := by decide +kernel
theorem dX7_finish_43 : decode prog_9_method_18_code 43 = .ok (.iload_n 1, 1) := by decide +kernel
theorem dX7_finish_44 : decode prog_9_method_18_code 44 = .ok (.iaload, 1) := by decide +kernel
theorem dX7_finish_45 : decode prog_9_method_18_code 45 = .ok (.dup2, 1) := by decide +kernel
theorem dX7_finish_46 : decode prog_9_method_18_code 46 = .ok (.iaload, 1) := by decide +kernel
theorem dX7_finish_47 : decode prog_9_method_18_code 47 = .ok (.iconst 1, 1) := by decide +kernel
theorem dX7_finish_48 : decode prog_9_method_18_code 48 = .ok (.isub, 1) := by decide +kernel
theorem dX7_finish_49 : decode prog_9_method_18_code 49 = .ok (.iastore, 1) := by decide +kernel
theorem dX7_finish_50 : decode prog_9_method_18_code 50 = .ok (.return_, 1) := by decide +kernel
theorem dX7_raise_0 : decode prog_9_method_19_code 0 = .ok (.aload_n 0, 1) := by decide +kernel
theorem dX7_raise_1 : decode prog_9_method_19_code 1 = .ok (.getfield 34, 3) := by decide +kernel
theorem dX7_raise_4 : decode prog_9_method_19_code 4 = .ok (.iload_n 1, 1) := by decide +kernel
theorem dX7_raise_5 : decode prog_9_method_19_code 5 = .ok (.iaload, 1) := by decide +kernel
theorem dX7_raise_6 : decode prog_9_method_19_code 6 = .ok (.ifCond .le 30, 3) := by decide +kernel
theorem dX7_raise_9 : decode prog_9_method_19_code 9 = .ok (.aload_n 0, 1) := by decide +kernel
theorem dX7_raise_10 : decode prog_9_method_19_code 10 = .ok (.aload_n 0, 1) := by decide +kernel
theorem dX7_raise_11 : decode prog_9_method_19_code 11 = .ok (.iload_n 1, 1) := by decide +kernel
theorem dX7_raise_12 : decode prog_9_method_19_code 12 = .ok (.invokevirtual 166, 3) := by decide +kernel
theorem dX7_raise_15 : decode prog_9_method_19_code 15 = .ok (.iload_n 2, 1) := by decide +kernel
theorem dX7_raise_16 : decode prog_9_method_19_code 16 = .ok (.invokevirtual 169, 3) := by decide +kernel
theorem dX7_raise_19 : decode prog_9_method_19_code 19 = .ok (.aload_n 0, 1) := by decide +kernel
theorem dX7_raise_20 : decode prog_9_method_19_code 20 = .ok (.getfield 46, 3) := by decide +kernel
theorem dX7_raise_23 : decode prog_9_method_19_code 23 = .ok (.iload_n 1, 1) := by decide +kernel
theorem dX7_raise_24 : decode prog_9_method_19_code 24 = .ok (.iconst 1, 1) := by decide +kernel
theorem dX7_raise_25 : decode prog_9_method_19_code 25 = .ok (.bastore, 1) := by decide +kernel
theorem dX7_raise_26 : decode prog_9_method_19_code 26 = .ok (.aload_n 0, 1) := by decide +kernel
theorem dX7_raise_27 : decode prog_9_method_19_code 27 = .ok (.getfield 50, 3) := by decide +kernel
theorem dX7_raise_30 : decode prog_9_method_19_code 30 = .ok (.iload_n 1, 1) := by decide +kernel
theorem dX7_raise_31 : decode prog_9_method_19_code 31 = .ok (.iconst 0, 1) := by decide +kernel
theorem dX7_raise_32 : decode prog_9_method_19_code 32 = .ok (.bastore, 1) := by decide +kernel
theorem dX7_raise_33 : decode prog_9_method_19_code 33 = .ok (.goto 19, 3) := by decide +kernel
theorem dX7_raise_36 : decode prog_9_method_19_code 36 = .ok (.aload_n 0, 1) := by decide +kernel
theorem dX7_raise_37 : decode prog_9_method_19_code 37 = .ok (.aload_n 0, 1) := by decide +kernel
theorem dX7_raise_38 : decode prog_9_method_19_code 38 = .ok (.getfield 31, 3) := by decide +kernel
theorem dX7_raise_41 : decode prog_9_method_19_code 41 = .ok (.iload_n 1, 1) := by decide +kernel
theorem dX7_raise_42 : decode prog_9_method_19_code 42 = .ok (.iaload, 1) := by decide +kernel
theorem dX7_raise_43 : decode prog_9_method_19_code 43 = .ok (.iload_n 2, 1) := by decide +kernel
theorem dX7_raise_44 : decode prog_9_method_19_code 44 = .ok (.invokevirtual 169, 3) := by decide +kernel
theorem dX7_raise_47 : decode prog_9_method_19_code 47 = .ok (.aload_n 0, 1) := by decide +kernel
theorem dX7_raise_48 : decode prog_9_method_19_code 48 = .ok (.iload_n 1, 1) := by decide +kernel
theorem dX7_raise_49 : decode prog_9_method_19_code 49 = .ok (.invokevirtual 172, 3) := by decide +kernel
theorem dX7_raise_52 : decode prog_9_method_19_code 52 = .ok (.return_, 1) := by decide +kernel
theorem dX7_end_0 : decode prog_9_method_20_code 0 = .ok (.aload_n 0, 1) := by decide +kernel
theorem dX7_end_1 : decode prog_9_method_20_code 1 = .ok (.iload_n 1, 1) := by decide +kernel
theorem dX7_end_2 : decode prog_9_method_20_code 2 = .ok (.invokevirtual 166, 3) := by decide +kernel
theorem dX7_end_5 : decode prog_9_method_20_code 5 = .ok (.istore_n 2, 1) := by decide +kernel
theorem dX7_end_6 : decode prog_9_method_20_code 6 = .ok (.aload_n 0, 1) := by decide +kernel
theorem dX7_end_7 : decode prog_9_method_20_code 7 = .ok (.getfield 71, 3) := by decide +kernel
theorem dX7_end_10 : decode prog_9_method_20_code 10 = .ok (.iload_n 2, 1) := by decide +kernel
theorem dX7_end_11 : decode prog_9_method_20_code 11 = .ok (.iaload, 1) := by decide +kernel
theorem dX7_end_12 : decode prog_9_method_20_code 12 = .ok (.ifCond .le 10, 3) := by decide +kernel
theorem dX7_end_15 : decode prog_9_method_20_code 15 = .ok (.aload_n 0, 1) := by decide +kernel
theorem dX7_end_16 : decode prog_9_method_20_code 16 = .ok (.iload_n 1, 1) := by decide +kernel
theorem dX7_end_17 : decode prog_9_method_20_code 17 = .ok (.iconst 3, 1) := by decide +kernel
theorem dX7_end_18 : decode prog_9_method_20_code 18 = .ok (.invokevirtual 163, 3) := by decide +kernel
theorem dX7_end_21 : decode prog_9_method_20_code 21 = .ok (.return_, 1) := by decide +kernel
theorem dX7_end_22 : decode prog_9_method_20_code 22 = .ok (.aload_n 0, 1) := by decide +kernel
theorem dX7_end_23 : decode prog_9_method_20_code 23 = .ok (.getfield 46, 3) := by decide +kernel
theorem dX7_end_26 : decode prog_9_method_20_code 26 = .ok (.iload_n 1, 1) := by decide +kernel
theorem dX7_end_27 : decode prog_9_method_20_code 27 = .ok (.iconst 0, 1) := by decide +kernel
theorem dX7_end_28 : decode prog_9_method_20_code 28 = .ok (.bastore, 1) := by decide +kernel
theorem dX7_end_29 : decode prog_9_method_20_code 29 = .ok (.aload_n 0, 1) := by decide +kernel
theorem dX7_end_30 : decode prog_9_method_20_code 30 = .ok (.getfield 34, 3) := by decide +kernel
theorem dX7_end_33 : decode prog_9_method_20_code 33 = .ok (.iload_n 1, 1) := by decide +kernel
theorem dX7_end_34 : decode prog_9_method_20_code 34 = .ok (.dup2, 1) := by decide +kernel
theorem dX7_end_35 : decode prog_9_method_20_code 35 = .ok (.iaload, 1) := by decide +kernel
theorem dX7_end_36 : decode prog_9_method_20_code 36 = .ok (.iconst 1, 1) := by decide +kernel
theorem dX7_end_37 : decode prog_9_method_20_code 37 = .ok (.isub, 1) := by decide +kernel
theorem dX7_end_38 : decode prog_9_method_20_code 38 = .ok (.iastore, 1) := by decide +kernel
theorem dX7_end_39 : decode prog_9_method_20_code 39 = .ok (.aload_n 0, 1) := by decide +kernel
theorem dX7_end_40 : decode prog_9_method_20_code 40 = .ok (.getfield 83, 3) := by decide +kernel
theorem dX7_end_43 : decode prog_9_method_20_code 43 = .ok (.iload_n 2, 1) := by decide +kernel
theorem dX7_end_44 : decode prog_9_method_20_code 44 = .ok (.iaload, 1) := by decide +kernel
theorem dX7_end_45 : decode prog_9_method_20_code 45 = .ok (.ifCond .ne 72, 3) := by decide +kernel
theorem dX7_end_48 : decode prog_9_method_20_code 48 = .ok (.aload_n 0, 1) := by decide +kernel
theorem dX7_end_49 : decode prog_9_method_20_code 49 = .ok (.getfield 22, 3) := by decide +kernel
theorem dX7_end_52 : decode prog_9_method_20_code 52 = .ok (.iload_n 1, 1) := by decide +kernel
theorem dX7_end_53 : decode prog_9_method_20_code 53 = .ok (.aload_n 0, 1) := by decide +kernel
theorem dX7_end_54 : decode prog_9_method_20_code 54 = .ok (.getfield 77, 3) := by decide +kernel
theorem dX7_end_57 : decode prog_9_method_20_code 57 = .ok (.iload_n 2, 1) := by decide +kernel
theorem dX7_end_58 : decode prog_9_method_20_code 58 = .ok (.iaload, 1) := by decide +kernel
theorem dX7_end_59 : decode prog_9_method_20_code 59 = .ok (.ifCond .eq 13, 3) := by decide +kernel
theorem dX7_end_62 : decode prog_9_method_20_code 62 = .ok (.aload_n 0, 1) := by decide +kernel
theorem dX7_end_63 : decode prog_9_method_20_code 63 = .ok (.getfield 77, 3) := by decide +kernel
theorem dX7_end_66 : decode prog_9_method_20_code 66 = .ok (.iload_n 2, 1) := by decide +kernel
theorem dX7_end_67 : decode prog_9_method_20_code 67 = .ok (.iaload, 1) := by decide +kernel
theorem dX7_end_68 : decode prog_9_method_20_code 68 = .ok (.iconst 3, 1) := by decide +kernel
theorem dX7_end_69 : decode prog_9_method_20_code 69 = .ok (.if_icmp .ne 19, 3) := by decide +kernel
theorem dX7_end_72 : decode prog_9_method_20_code 72 = .ok (.aload_n 0, 1) := by decide +kernel
theorem dX7_end_73 : decode prog_9_method_20_code 73 = .ok (.getfield 22, 3) := by decide +kernel
theorem dX7_end_76 : decode prog_9_method_20_code 76 = .ok (.iload_n 1, 1) := by decide +kernel
theorem dX7_end_77 : decode prog_9_method_20_code 77 = .ok (.iaload, 1) := by decide +kernel
theorem dX7_end_78 : decode prog_9_method_20_code 78 = .ok (.aload_n 0, 1) := by decide +kernel
theorem dX7_end_79 : decode prog_9_method_20_code 79 = .ok (.getfield 74, 3) := by decide +kernel
theorem dX7_end_82 : decode prog_9_method_20_code 82 = .ok (.iload_n 2, 1) := by decide +kernel
theorem dX7_end_83 : decode prog_9_method_20_code 83 = .ok (.iaload, 1) := by decide +kernel
theorem dX7_end_84 : decode prog_9_method_20_code 84 = .ok (.iadd, 1) := by decide +kernel
theorem dX7_end_85 : decode prog_9_method_20_code 85 = .ok (.goto 9, 3) := by decide +kernel
theorem dX7_end_88 : decode prog_9_method_20_code 88 = .ok (.aload_n 0, 1) := by decide +kernel
theorem dX7_end_89 : decode prog_9_method_20_code 89 = .ok (.getfield 74, 3) := by decide +kernel
theorem dX7_end_92 : decode prog_9_method_20_code 92 = .ok (.iload_n 2, 1) := by decide +kernel
theorem dX7_end_93 : decode prog_9_method_20_code 93 = .ok (.iaload, 1) := by decide +kernel
theorem dX7_end_94 : decode prog_9_method_20_code 94 = .ok (.iastore, 1) := by decide +kernel
theorem dX7_end_95 : decode prog_9_method_20_code 95 = .ok (.aload_n 0, 1) := by decide +kernel
theorem dX7_end_96 : decode prog_9_method_20_code 96 = .ok (.getfield 50, 3) := by decide +kernel
theorem dX7_end_99 : decode prog_9_method_20_code 99 = .ok (.iload_n 1, 1) := by decide +kernel
theorem dX7_end_100 : decode prog_9_method_20_code 100 = .ok (.baload, 1) := by decide +kernel
theorem dX7_end_101 : decode prog_9_method_20_code 101 = .ok (.ifCond .eq 63, 3) := by decide +kernel
theorem dX7_end_104 : decode prog_9_method_20_code 104 = .ok (.aload_n 0, 1) := by decide +kernel
theorem dX7_end_105 : decode prog_9_method_20_code 105 = .ok (.getfield 25, 3) := by decide +kernel
theorem dX7_end_108 : decode prog_9_method_20_code 108 = .ok (.iload_n 1, 1) := by decide +kernel
theorem dX7_end_109 : decode prog_9_method_20_code 109 = .ok (.dup2, 1) := by decide +kernel
theorem dX7_end_110 : decode prog_9_method_20_code 110 = .ok (.iaload, 1) := by decide +kernel
theorem dX7_end_111 : decode prog_9_method_20_code 111 = .ok (.iconst 1, 1) := by decide +kernel
theorem dX7_end_112 : decode prog_9_method_20_code 112 = .ok (.iadd, 1) := by decide +kernel
theorem dX7_end_113 : decode prog_9_method_20_code 113 = .ok (.iastore, 1) := by decide +kernel
theorem dX7_end_114 : decode prog_9_method_20_code 114 = .ok (.goto 50, 3) := by decide +kernel
theorem dX7_end_117 : decode prog_9_method_20_code 117 = .ok (.aload_n 0, 1) := by decide +kernel
theorem dX7_end_118 : decode prog_9_method_20_code 118 = .ok (.getfield 80, 3) := by decide +kernel
theorem dX7_end_121 : decode prog_9_method_20_code 121 = .ok (.iload_n 2, 1) := by decide +kernel
theorem dX7_end_122 : decode prog_9_method_20_code 122 = .ok (.iaload, 1) := by decide +kernel
theorem dX7_end_123 : decode prog_9_method_20_code 123 = .ok (.ifCond .le 30, 3) := by decide +kernel
theorem dX7_end_126 : decode prog_9_method_20_code 126 = .ok (.aload_n 0, 1) := by decide +kernel
theorem dX7_end_127 : decode prog_9_method_20_code 127 = .ok (.getfield 25, 3) := by decide +kernel
theorem dX7_end_130 : decode prog_9_method_20_code 130 = .ok (.iload_n 1, 1) := by decide +kernel
theorem dX7_end_131 : decode prog_9_method_20_code 131 = .ok (.aload_n 0, 1) := by decide +kernel
theorem dX7_end_132 : decode prog_9_method_20_code 132 = .ok (.getfield 80, 3) := by decide +kernel
theorem dX7_end_135 : decode prog_9_method_20_code 135 = .ok (.iload_n 2, 1) := by decide +kernel
theorem dX7_end_136 : decode prog_9_method_20_code 136 = .ok (.iaload, 1) := by decide +kernel
theorem dX7_end_137 : decode prog_9_method_20_code 137 = .ok (.iastore, 1) := by decide +kernel
theorem dX7_end_138 : decode prog_9_method_20_code 138 = .ok (.aload_n 0, 1) := by decide +kernel
theorem dX7_end_139 : decode prog_9_method_20_code 139 = .ok (.getfield 22, 3) := by decide +kernel
theorem dX7_end_142 : decode prog_9_method_20_code 142 = .ok (.iload_n 1, 1) := by decide +kernel
theorem dX7_end_143 : decode prog_9_method_20_code 143 = .ok (.aload_n 0, 1) := by decide +kernel
theorem dX7_end_144 : decode prog_9_method_20_code 144 = .ok (.getfield 86, 3) := by decide +kernel
theorem dX7_end_147 : decode prog_9_method_20_code 147 = .ok (.iload_n 2, 1) := by decide +kernel
theorem dX7_end_148 : decode prog_9_method_20_code 148 = .ok (.iaload, 1) := by decide +kernel
theorem dX7_end_149 : decode prog_9_method_20_code 149 = .ok (.iastore, 1) := by decide +kernel
theorem dX7_end_150 : decode prog_9_method_20_code 150 = .ok (.goto 14, 3) := by decide +kernel
theorem dX7_end_153 : decode prog_9_method_20_code 153 = .ok (.aload_n 0, 1) := by decide +kernel
theorem dX7_end_154 : decode prog_9_method_20_code 154 = .ok (.iload_n 1, 1) := by decide +kernel
theorem dX7_end_155 : decode prog_9_method_20_code 155 = .ok (.aload_n 0, 1) := by decide +kernel
theorem dX7_end_156 : decode prog_9_method_20_code 156 = .ok (.getfield 86, 3) := by decide +kernel
theorem dX7_end_159 : decode prog_9_method_20_code 159 = .ok (.iload_n 2, 1) := by decide +kernel
theorem dX7_end_160 : decode prog_9_method_20_code 160 = .ok (.iaload, 1) := by decide +kernel
theorem dX7_end_161 : decode prog_9_method_20_code 161 = .ok (.invokevirtual 176, 3) := by decide +kernel
theorem dX7_end_164 : decode prog_9_method_20_code 164 = .ok (.return_, 1) := by decide +kernel
theorem dX7_give_0 : decode prog_9_method_21_code 0 = .ok (.aload_n 0, 1) := by decide +kernel
theorem dX7_give_1 : decode prog_9_method_21_code 1 = .ok (.iload_n 1, 1) := by decide +kernel
theorem dX7_give_2 : decode prog_9_method_21_code 2 = .ok (.invokevirtual 166, 3) := by decide +kernel
theorem dX7_give_5 : decode prog_9_method_21_code 5 = .ok (.istore_n 2, 1) := by decide +kernel
theorem dX7_give_6 : decode prog_9_method_21_code 6 = .ok (.aload_n 0, 1) := by decide +kernel
theorem dX7_give_7 : decode prog_9_method_21_code 7 = .ok (.getfield 22, 3) := by decide +kernel
theorem dX7_give_10 : decode prog_9_method_21_code 10 = .ok (.iload_n 1, 1) := by decide +kernel
theorem dX7_give_11 : decode prog_9_method_21_code 11 = .ok (.iaload, 1) := by decide +kernel
theorem dX7_give_12 : decode prog_9_method_21_code 12 = .ok (.istore_n 3, 1) := by decide +kernel
theorem dX7_give_13 : decode prog_9_method_21_code 13 = .ok (.aload_n 0, 1) := by decide +kernel
theorem dX7_give_14 : decode prog_9_method_21_code 14 = .ok (.getfield 77, 3) := by decide +kernel
theorem dX7_give_17 : decode prog_9_method_21_code 17 = .ok (.iload_n 2, 1) := by decide +kernel
theorem dX7_give_18 : decode prog_9_method_21_code 18 = .ok (.iaload, 1) := by decide +kernel
theorem dX7_give_19 : decode prog_9_method_21_code 19 = .ok (.ifCond .ne 16, 3) := by decide +kernel
theorem dX7_give_22 : decode prog_9_method_21_code 22 = .ok (.aload_n 0, 1) := by decide +kernel
theorem dX7_give_23 : decode prog_9_method_21_code 23 = .ok (.getfield 74, 3) := by decide +kernel
theorem dX7_give_26 : decode prog_9_method_21_code 26 = .ok (.iload_n 2, 1) := by decide +kernel
theorem dX7_give_27 : decode prog_9_method_21_code 27 = .ok (.dup2, 1) := by decide +kernel
theorem dX7_give_28 : decode prog_9_method_21_code 28 = .ok (.iaload, 1) := by decide +kernel
theorem dX7_give_29 : decode prog_9_method_21_code 29 = .ok (.iload_n 3, 1) := by decide +kernel
theorem dX7_give_30 : decode prog_9_method_21_code 30 = .ok (.iadd, 1) := by decide +kernel
theorem dX7_give_31 : decode prog_9_method_21_code 31 = .ok (.iastore, 1) := by decide +kernel
theorem dX7_give_32 : decode prog_9_method_21_code 32 = .ok (.goto 91, 3) := by decide +kernel
theorem dX7_give_35 : decode prog_9_method_21_code 35 = .ok (.aload_n 0, 1) := by decide +kernel
theorem dX7_give_36 : decode prog_9_method_21_code 36 = .ok (.getfield 77, 3) := by decide +kernel
theorem dX7_give_39 : decode prog_9_method_21_code 39 = .ok (.iload_n 2, 1) := by decide +kernel
theorem dX7_give_40 : decode prog_9_method_21_code 40 = .ok (.iaload, 1) := by decide +kernel
theorem dX7_give_41 : decode prog_9_method_21_code 41 = .ok (.iconst 1, 1) := by decide +kernel
theorem dX7_give_42 : decode prog_9_method_21_code 42 = .ok (.if_icmp .ne 32, 3) := by decide +kernel
theorem dX7_give_45 : decode prog_9_method_21_code 45 = .ok (.aload_n 0, 1) := by decide +kernel
theorem dX7_give_46 : decode prog_9_method_21_code 46 = .ok (.getfield 74, 3) := by decide +kernel
theorem dX7_give_49 : decode prog_9_method_21_code 49 = .ok (.iload_n 2, 1) := by decide +kernel
theorem dX7_give_50 : decode prog_9_method_21_code 50 = .ok (.iload_n 3, 1) := by decide +kernel
theorem dX7_give_51 : decode prog_9_method_21_code 51 = .ok (.aload_n 0, 1) := by decide +kernel
theorem dX7_give_52 : decode prog_9_method_21_code 52 = .ok (.getfield 74, 3) := by decide +kernel
theorem dX7_give_55 : decode prog_9_method_21_code 55 = .ok (.iload_n 2, 1) := by decide +kernel
theorem dX7_give_56 : decode prog_9_method_21_code 56 = .ok (.iaload, 1) := by decide +kernel
theorem dX7_give_57 : decode prog_9_method_21_code 57 = .ok (.if_icmp .ge 7, 3) := by decide +kernel
theorem dX7_give_60 : decode prog_9_method_21_code 60 = .ok (.iload_n 3, 1) := by decide +kernel
theorem dX7_give_61 : decode prog_9_method_21_code 61 = .ok (.goto 9, 3) := by decide +kernel
theorem dX7_give_64 : decode prog_9_method_21_code 64 = .ok (.aload_n 0, 1) := by decide +kernel
theorem dX7_give_65 : decode prog_9_method_21_code 65 = .ok (.getfield 74, 3) := by decide +kernel
theorem dX7_give_68 : decode prog_9_method_21_code 68 = .ok (.iload_n 2, 1) := by decide +kernel
theorem dX7_give_69 : decode prog_9_method_21_code 69 = .ok (.iaload, 1) := by decide +kernel
theorem dX7_give_70 : decode prog_9_method_21_code 70 = .ok (.iastore, 1) := by decide +kernel
theorem dX7_give_71 : decode prog_9_method_21_code 71 = .ok (.goto 52, 3) := by decide +kernel
theorem dX7_give_74 : decode prog_9_method_21_code 74 = .ok (.aload_n 0, 1) := by decide +kernel
theorem dX7_give_75 : decode prog_9_method_21_code 75 = .ok (.getfield 77, 3) := by decide +kernel
theorem dX7_give_78 : decode prog_9_method_21_code 78 = .ok (.iload_n 2, 1) := by decide +kernel
theorem dX7_give_79 : decode prog_9_method_21_code 79 = .ok (.iaload, 1) := by decide +kernel
theorem dX7_give_80 : decode prog_9_method_21_code 80 = .ok (.iconst 2, 1) := by decide +kernel
theorem dX7_give_81 : decode prog_9_method_21_code 81 = .ok (.if_icmp .ne 32, 3) := by decide +kernel
theorem dX7_give_84 : decode prog_9_method_21_code 84 = .ok (.aload_n 0, 1) := by decide +kernel
theorem dX7_give_85 : decode prog_9_method_21_code 85 = .ok (.getfield 74, 3) := by decide +kernel
theorem dX7_give_88 : decode prog_9_method_21_code 88 = .ok (.iload_n 2, 1) := by decide +kernel
theorem dX7_give_89 : decode prog_9_method_21_code 89 = .ok (.iload_n 3, 1) := by decide +kernel
theorem dX7_give_90 : decode prog_9_method_21_code 90 = .ok (.aload_n 0, 1) := by decide +kernel
theorem dX7_give_91 : decode prog_9_method_21_code 91 = .ok (.getfield 74, 3) := by decide +kernel
theorem dX7_give_94 : decode prog_9_method_21_code 94 = .ok (.iload_n 2, 1) := by decide +kernel
theorem dX7_give_95 : decode prog_9_method_21_code 95 = .ok (.iaload, 1) := by decide +kernel
theorem dX7_give_96 : decode prog_9_method_21_code 96 = .ok (.if_icmp .le 7, 3) := by decide +kernel
theorem dX7_give_99 : decode prog_9_method_21_code 99 = .ok (.iload_n 3, 1) := by decide +kernel
theorem dX7_give_100 : decode prog_9_method_21_code 100 = .ok (.goto 9, 3) := by decide +kernel
theorem dX7_give_103 : decode prog_9_method_21_code 103 = .ok (.aload_n 0, 1) := by decide +kernel
theorem dX7_give_104 : decode prog_9_method_21_code 104 = .ok (.getfield 74, 3) := by decide +kernel
theorem dX7_give_107 : decode prog_9_method_21_code 107 = .ok (.iload_n 2, 1) := by decide +kernel
theorem dX7_give_108 : decode prog_9_method_21_code 108 = .ok (.iaload, 1) := by decide +kernel
theorem dX7_give_109 : decode prog_9_method_21_code 109 = .ok (.iastore, 1) := by decide +kernel
theorem dX7_give_110 : decode prog_9_method_21_code 110 = .ok (.goto 13, 3) := by decide +kernel
theorem dX7_give_113 : decode prog_9_method_21_code 113 = .ok (.aload_n 0, 1) := by decide +kernel
theorem dX7_give_114 : decode prog_9_method_21_code 114 = .ok (.getfield 74, 3) := by decide +kernel
theorem dX7_give_117 : decode prog_9_method_21_code 117 = .ok (.iload_n 2, 1) := by decide +kernel
theorem dX7_give_118 : decode prog_9_method_21_code 118 = .ok (.dup2, 1) := by decide +kernel
theorem dX7_give_119 : decode prog_9_method_21_code 119 = .ok (.iaload, 1) := by decide +kernel
theorem dX7_give_120 : decode prog_9_method_21_code 120 = .ok (.iload_n 3, 1) := by decide +kernel
theorem dX7_give_121 : decode prog_9_method_21_code 121 = .ok (.imul, 1) := by decide +kernel
theorem dX7_give_122 : decode prog_9_method_21_code 122 = .ok (.iastore, 1) := by decide +kernel
theorem dX7_give_123 : decode prog_9_method_21_code 123 = .ok (.return_, 1) := by decide +kernel
theorem dX7_spawn_0 : decode prog_9_method_22_code 0 = .ok (.aload_n 0, 1) := by decide +kernel
theorem dX7_spawn_1 : decode prog_9_method_22_code 1 = .ok (.getfield 119, 3) := by decide +kernel
theorem dX7_spawn_4 : decode prog_9_method_22_code 4 = .ok (.bipush 48, 2) := by decide +kernel
theorem dX7_spawn_6 : decode prog_9_method_22_code 6 = .ok (.if_icmp .ne 10, 3) := by decide +kernel
theorem dX7_spawn_9 : decode prog_9_method_22_code 9 = .ok (.aload_n 0, 1) := by decide +kernel
theorem dX7_spawn_10 : decode prog_9_method_22_code 10 = .ok (.iload_n 1, 1) := by decide +kernel
theorem dX7_spawn_11 : decode prog_9_method_22_code 11 = .ok (.iconst 1, 1) := by decide +kernel
theorem dX7_spawn_12 : decode prog_9_method_22_code 12 = .ok (.invokevirtual 176, 3) := by decide +kernel
theorem dX7_spawn_15 : decode prog_9_method_22_code 15 = .ok (.return_, 1) := by decide +kernel
theorem dX7_spawn_16 : decode prog_9_method_22_code 16 = .ok (.aload_n 0, 1) := by decide +kernel
theorem dX7_spawn_17 : decode prog_9_method_22_code 17 = .ok (.iload_n 2, 1) := by decide +kernel
theorem dX7_spawn_18 : decode prog_9_method_22_code 18 = .ok (.bipush 9, 2) := by decide +kernel
theorem dX7_spawn_20 : decode prog_9_method_22_code 20 = .ok (.if_icmp .ne 9, 3) := by decide +kernel
theorem dX7_spawn_23 : decode prog_9_method_22_code 23 = .ok (.iload_n 3, 1) := by decide +kernel
theorem dX7_spawn_24 : decode prog_9_method_22_code 24 = .ok (.iconst 4, 1) := by decide +kernel
theorem dX7_spawn_25 : decode prog_9_method_22_code 25 = .ok (.idiv, 1) := by decide +kernel
theorem dX7_spawn_26 : decode prog_9_method_22_code 26 = .ok (.goto 4, 3) := by decide +kernel
theorem dX7_spawn_29 : decode prog_9_method_22_code 29 = .ok (.iload_n 3, 1) := by decide +kernel
theorem dX7_spawn_30 : decode prog_9_method_22_code 30 = .ok (.aload_n 0, 1) := by decide +kernel
theorem dX7_spawn_31 : decode prog_9_method_22_code 31 = .ok (.getfield 22, 3) := by decide +kernel
theorem dX7_spawn_34 : decode prog_9_method_22_code 34 = .ok (.iload_n 1, 1) := by decide +kernel
theorem dX7_spawn_35 : decode prog_9_method_22_code 35 = .ok (.iaload, 1) := by decide +kernel
theorem dX7_spawn_36 : decode prog_9_method_22_code 36 = .ok (.aload_n 0, 1) := by decide +kernel
theorem dX7_spawn_37 : decode prog_9_method_22_code 37 = .ok (.iload_n 1, 1) := by decide +kernel
theorem dX7_spawn_38 : decode prog_9_method_22_code 38 = .ok (.invokevirtual 166, 3) := by decide +kernel
theorem dX7_spawn_41 : decode prog_9_method_22_code 41 = .ok (.invokevirtual 148, 3) := by decide +kernel
theorem dX7_spawn_44 : decode prog_9_method_22_code 44 = .ok (.istore 4, 2) := by decide +kernel
theorem dX7_spawn_46 : decode prog_9_method_22_code 46 = .ok (.iconst 0, 1) := by decide +kernel
theorem dX7_spawn_47 : decode prog_9_method_22_code 47 = .ok (.istore 5, 2) := by decide +kernel
theorem dX7_spawn_49 : decode prog_9_method_22_code 49 = .ok (.iload 5, 2) := by decide +kernel
theorem dX7_spawn_51 : decode prog_9_method_22_code 51 = .ok (.iconst 2, 1) := by decide +kernel
theorem dX7_spawn_52 : decode prog_9_method_22_code 52 = .ok (.if_icmp .ge 83, 3) := by decide +kernel
theorem dX7_spawn_55 : decode prog_9_method_22_code 55 = .ok (.iload_n 2, 1) := by decide +kernel
theorem dX7_spawn_56 : decode prog_9_method_22_code 56 = .ok (.iconst 3, 1) := by decide +kernel
theorem dX7_spawn_57 : decode prog_9_method_22_code 57 = .ok (.if_icmp .ne 78, 3) := by decide +kernel
theorem dX7_spawn_60 : decode prog_9_method_22_code 60 = .ok (.aload_n 0, 1) := by decide +kernel
theorem dX7_spawn_61 : decode prog_9_method_22_code 61 = .ok (.getfield 59, 3) := by decide +kernel
theorem dX7_spawn_64 : decode prog_9_method_22_code 64 = .ok (.iconst 2, 1) := by decide +kernel
theorem dX7_spawn_65 : decode prog_9_method_22_code 65 = .ok (.iload 4, 2) := by decide +kernel
theorem dX7_spawn_67 : decode prog_9_method_22_code 67 = .ok (.imul, 1) := by decide +kernel
theorem dX7_spawn_68 : decode prog_9_method_22_code 68 = .ok (.iload 5, 2) := by decide +kernel
theorem dX7_spawn_70 : decode prog_9_method_22_code 70 = .ok (.iadd, 1) := by decide +kernel
theorem dX7_spawn_71 : decode prog_9_method_22_code 71 = .ok (.aload_n 0, 1) := by decide +kernel
theorem dX7_spawn_72 : decode prog_9_method_22_code 72 = .ok (.getfield 59, 3) := by decide +kernel
theorem dX7_spawn_75 : decode prog_9_method_22_code 75 = .ok (.iconst 2, 1) := by decide +kernel
theorem dX7_spawn_76 : decode prog_9_method_22_code 76 = .ok (.iload_n 1, 1) := by decide +kernel
theorem dX7_spawn_77 : decode prog_9_method_22_code 77 = .ok (.imul, 1) := by decide +kernel
theorem dX7_spawn_78 : decode prog_9_method_22_code 78 = .ok (.iload 5, 2) := by decide +kernel
theorem dX7_spawn_80 : decode prog_9_method_22_code 80 = .ok (.iadd, 1) := by decide +kernel
theorem dX7_spawn_81 : decode prog_9_method_22_code 81 = .ok (.iaload, 1) := by decide +kernel
theorem dX7_spawn_82 : decode prog_9_method_22_code 82 = .ok (.iastore, 1) := by decide +kernel
theorem dX7_spawn_83 : decode prog_9_method_22_code 83 = .ok (.aload_n 0, 1) := by decide +kernel
theorem dX7_spawn_84 : decode prog_9_method_22_code 84 = .ok (.getfield 62, 3) := by decide +kernel
theorem dX7_spawn_87 : decode prog_9_method_22_code 87 = .ok (.iconst 2, 1) := by decide +kernel
theorem dX7_spawn_88 : decode prog_9_method_22_code 88 = .ok (.iload 4, 2) := by decide +kernel
theorem dX7_spawn_90 : decode prog_9_method_22_code 90 = .ok (.imul, 1) := by decide +kernel
theorem dX7_spawn_91 : decode prog_9_method_22_code 91 = .ok (.iload 5, 2) := by decide +kernel
theorem dX7_spawn_93 : decode prog_9_method_22_code 93 = .ok (.iadd, 1) := by decide +kernel
theorem dX7_spawn_94 : decode prog_9_method_22_code 94 = .ok (.aload_n 0, 1) := by decide +kernel
theorem dX7_spawn_95 : decode prog_9_method_22_code 95 = .ok (.getfield 62, 3) := by decide +kernel
theorem dX7_spawn_98 : decode prog_9_method_22_code 98 = .ok (.iconst 2, 1) := by decide +kernel
theorem dX7_spawn_99 : decode prog_9_method_22_code 99 = .ok (.iload_n 1, 1) := by decide +kernel
theorem dX7_spawn_100 : decode prog_9_method_22_code 100 = .ok (.imul, 1) := by decide +kernel
theorem dX7_spawn_101 : decode prog_9_method_22_code 101 = .ok (.iload 5, 2) := by decide +kernel
theorem dX7_spawn_103 : decode prog_9_method_22_code 103 = .ok (.iadd, 1) := by decide +kernel
theorem dX7_spawn_104 : decode prog_9_method_22_code 104 = .ok (.iaload, 1) := by decide +kernel
theorem dX7_spawn_105 : decode prog_9_method_22_code 105 = .ok (.iastore, 1) := by decide +kernel
theorem dX7_spawn_106 : decode prog_9_method_22_code 106 = .ok (.aload_n 0, 1) := by decide +kernel
theorem dX7_spawn_107 : decode prog_9_method_22_code 107 = .ok (.getfield 65, 3) := by decide +kernel
theorem dX7_spawn_110 : decode prog_9_method_22_code 110 = .ok (.iconst 2, 1) := by decide +kernel
theorem dX7_spawn_111 : decode prog_9_method_22_code 111 = .ok (.iload 4, 2) := by decide +kernel
theorem dX7_spawn_113 : decode prog_9_method_22_code 113 = .ok (.imul, 1) := by decide +kernel
theorem dX7_spawn_114 : decode prog_9_method_22_code 114 = .ok (.iload 5, 2) := by decide +kernel
theorem dX7_spawn_116 : decode prog_9_method_22_code 116 = .ok (.iadd, 1) := by decide +kernel
theorem dX7_spawn_117 : decode prog_9_method_22_code 117 = .ok (.aload_n 0, 1) := by decide +kernel
theorem dX7_spawn_118 : decode prog_9_method_22_code 118 = .ok (.getfield 65, 3) := by decide +kernel
theorem dX7_spawn_121 : decode prog_9_method_22_code 121 = .ok (.iconst 2, 1) := by decide +kernel
theorem dX7_spawn_122 : decode prog_9_method_22_code 122 = .ok (.iload_n 1, 1) := by decide +kernel
theorem dX7_spawn_123 : decode prog_9_method_22_code 123 = .ok (.imul, 1) := by decide +kernel
theorem dX7_spawn_124 : decode prog_9_method_22_code 124 = .ok (.iload 5, 2) := by decide +kernel
theorem dX7_spawn_126 : decode prog_9_method_22_code 126 = .ok (.iadd, 1) := by decide +kernel
theorem dX7_spawn_127 : decode prog_9_method_22_code 127 = .ok (.iaload, 1) := by decide +kernel
theorem dX7_spawn_128 : decode prog_9_method_22_code 128 = .ok (.iastore, 1) := by decide +kernel
theorem dX7_spawn_129 : decode prog_9_method_22_code 129 = .ok (.iinc 5 1, 3) := by decide +kernel
theorem dX7_spawn_132 : decode prog_9_method_22_code 132 = .ok (.goto (-83), 3) := by decide +kernel
theorem dX7_spawn_135 : decode prog_9_method_22_code 135 = .ok (.iload_n 2, 1) := by decide +kernel
theorem dX7_spawn_136 : decode prog_9_method_22_code 136 = .ok (.bipush 9, 2) := by decide +kernel
theorem dX7_spawn_138 : decode prog_9_method_22_code 138 = .ok (.if_icmp .ne 23, 3) := by decide +kernel
theorem dX7_spawn_141 : decode prog_9_method_22_code 141 = .ok (.aload_n 0, 1) := by decide +kernel
theorem dX7_spawn_142 : decode prog_9_method_22_code 142 = .ok (.iload 4, 2) := by decide +kernel
theorem dX7_spawn_144 : decode prog_9_method_22_code 144 = .ok (.iconst 4, 1) := by decide +kernel
theorem dX7_spawn_145 : decode prog_9_method_22_code 145 = .ok (.invokevirtual 163, 3) := by decide +kernel
theorem dX7_spawn_148 : decode prog_9_method_22_code 148 = .ok (.aload_n 0, 1) := by decide +kernel
theorem dX7_spawn_149 : decode prog_9_method_22_code 149 = .ok (.getfield 40, 3) := by decide +kernel
theorem dX7_spawn_152 : decode prog_9_method_22_code 152 = .ok (.iload 4, 2) := by decide +kernel
theorem dX7_spawn_154 : decode prog_9_method_22_code 154 = .ok (.iload_n 3, 1) := by decide +kernel
theorem dX7_spawn_155 : decode prog_9_method_22_code 155 = .ok (.iconst 4, 1) := by decide +kernel
theorem dX7_spawn_156 : decode prog_9_method_22_code 156 = .ok (.irem, 1) := by decide +kernel
theorem dX7_spawn_157 : decode prog_9_method_22_code 157 = .ok (.iastore, 1) := by decide +kernel
theorem dX7_spawn_158 : decode prog_9_method_22_code 158 = .ok (.goto 9, 3) := by decide +kernel
theorem dX7_spawn_161 : decode prog_9_method_22_code 161 = .ok (.aload_n 0, 1) := by decide +kernel
theorem dX7_spawn_162 : decode prog_9_method_22_code 162 = .ok (.iload 4, 2) := by decide +kernel
theorem dX7_spawn_164 : decode prog_9_method_22_code 164 = .ok (.putfield 179, 3) := by decide +kernel
theorem dX7_spawn_167 : decode prog_9_method_22_code 167 = .ok (.aload_n 0, 1) := by decide +kernel
theorem dX7_spawn_168 : decode prog_9_method_22_code 168 = .ok (.getfield 25, 3) := by decide +kernel
theorem dX7_spawn_171 : decode prog_9_method_22_code 171 = .ok (.iload_n 1, 1) := by decide +kernel
theorem dX7_spawn_172 : decode prog_9_method_22_code 172 = .ok (.dup2, 1) := by decide +kernel
theorem dX7_spawn_173 : decode prog_9_method_22_code 173 = .ok (.iaload, 1) := by decide +kernel
theorem dX7_spawn_174 : decode prog_9_method_22_code 174 = .ok (.iconst 1, 1) := by decide +kernel
theorem dX7_spawn_175 : decode prog_9_method_22_code 175 = .ok (.iadd, 1) := by decide +kernel
theorem dX7_spawn_176 : decode prog_9_method_22_code 176 = .ok (.iastore, 1) := by decide +kernel
theorem dX7_spawn_177 : decode prog_9_method_22_code 177 = .ok (.return_, 1) := by decide +kernel
theorem dX7_join_0 : decode prog_9_method_23_code 0 = .ok (.iload_n 2, 1) := by decide +kernel
theorem dX7_join_1 : decode prog_9_method_23_code 1 = .ok (.bipush 10, 2) := by decide +kernel
theorem dX7_join_3 : decode prog_9_method_23_code 3 = .ok (.if_icmp .ne 9, 3) := by decide +kernel
theorem dX7_join_6 : decode prog_9_method_23_code 6 = .ok (.iload_n 3, 1) := by decide +kernel
theorem dX7_join_7 : decode prog_9_method_23_code 7 = .ok (.iconst 4, 1) := by decide +kernel
theorem dX7_join_8 : decode prog_9_method_23_code 8 = .ok (.idiv, 1) := by decide +kernel
theorem dX7_join_9 : decode prog_9_method_23_code 9 = .ok (.goto 4, 3) := by decide +kernel
theorem dX7_join_12 : decode prog_9_method_23_code 12 = .ok (.iload_n 3, 1) := by decide +kernel
theorem dX7_join_13 : decode prog_9_method_23_code 13 = .ok (.istore 4, 2) := by decide +kernel
theorem dX7_join_15 : decode prog_9_method_23_code 15 = .ok (.iload_n 2, 1) := by decide +kernel
theorem dX7_join_16 : decode prog_9_method_23_code 16 = .ok (.bipush 10, 2) := by decide +kernel
theorem dX7_join_18 : decode prog_9_method_23_code 18 = .ok (.if_icmp .ne 9, 3) := by decide +kernel
theorem dX7_join_21 : decode prog_9_method_23_code 21 = .ok (.iload_n 3, 1) := by decide +kernel
theorem dX7_join_22 : decode prog_9_method_23_code 22 = .ok (.iconst 4, 1) := by decide +kernel
theorem dX7_join_23 : decode prog_9_method_23_code 23 = .ok (.irem, 1) := by decide +kernel
theorem dX7_join_24 : decode prog_9_method_23_code 24 = .ok (.goto 4, 3) := by decide +kernel
theorem dX7_join_27 : decode prog_9_method_23_code 27 = .ok (.iconst 0, 1) := by decide +kernel
theorem dX7_join_28 : decode prog_9_method_23_code 28 = .ok (.istore 5, 2) := by decide +kernel
theorem dX7_join_30 : decode prog_9_method_23_code 30 = .ok (.iconst 2, 1) := by decide +kernel
theorem dX7_join_31 : decode prog_9_method_23_code 31 = .ok (.iload_n 1, 1) := by decide +kernel
theorem dX7_join_32 : decode prog_9_method_23_code 32 = .ok (.imul, 1) := by decide +kernel
theorem dX7_join_33 : decode prog_9_method_23_code 33 = .ok (.iload 4, 2) := by decide +kernel
theorem dX7_join_35 : decode prog_9_method_23_code 35 = .ok (.iadd, 1) := by decide +kernel
theorem dX7_join_36 : decode prog_9_method_23_code 36 = .ok (.istore 6, 2) := by decide +kernel
theorem dX7_join_38 : decode prog_9_method_23_code 38 = .ok (.iload_n 2, 1) := by decide +kernel
theorem dX7_join_39 : decode prog_9_method_23_code 39 = .ok (.bipush 10, 2) := by decide +kernel
theorem dX7_join_41 : decode prog_9_method_23_code 41 = .ok (.if_icmp .ne 21, 3) := by decide +kernel
theorem dX7_join_44 : decode prog_9_method_23_code 44 = .ok (.aload_n 0, 1) := by decide +kernel
theorem dX7_join_45 : decode prog_9_method_23_code 45 = .ok (.getfield 59, 3) := by decide +kernel
theorem dX7_join_48 : decode prog_9_method_23_code 48 = .ok (.iload 6, 2) := by decide +kernel
theorem dX7_join_50 : decode prog_9_method_23_code 50 = .ok (.iaload, 1) := by decide +kernel
theorem dX7_join_51 : decode prog_9_method_23_code 51 = .ok (.ifCond .gt 21, 3) := by decide +kernel
theorem dX7_join_54 : decode prog_9_method_23_code 54 = .ok (.iload 5, 2) := by decide +kernel
theorem dX7_join_56 : decode prog_9_method_23_code 56 = .ok (.ifCond .ne 23, 3) := by decide +kernel
theorem dX7_join_59 : decode prog_9_method_23_code 59 = .ok (.goto 13, 3) := by decide +kernel
theorem dX7_join_62 : decode prog_9_method_23_code 62 = .ok (.aload_n 0, 1) := by decide +kernel
theorem dX7_join_63 : decode prog_9_method_23_code 63 = .ok (.getfield 59, 3) := by decide +kernel
theorem dX7_join_66 : decode prog_9_method_23_code 66 = .ok (.iload 6, 2) := by decide +kernel
theorem dX7_join_68 : decode prog_9_method_23_code 68 = .ok (.iaload, 1) := by decide +kernel
theorem dX7_join_69 : decode prog_9_method_23_code 69 = .ok (.ifCond .ne 10, 3) := by decide +kernel
theorem dX7_join_72 : decode prog_9_method_23_code 72 = .ok (.aload_n 0, 1) := by decide +kernel
theorem dX7_join_73 : decode prog_9_method_23_code 73 = .ok (.iload_n 1, 1) := by decide +kernel
theorem dX7_join_74 : decode prog_9_method_23_code 74 = .ok (.iconst 3, 1) := by decide +kernel
theorem dX7_join_75 : decode prog_9_method_23_code 75 = .ok (.invokevirtual 176, 3) := by decide +kernel
theorem dX7_join_78 : decode prog_9_method_23_code 78 = .ok (.return_, 1) := by decide +kernel
theorem dX7_join_79 : decode prog_9_method_23_code 79 = .ok (.aload_n 0, 1) := by decide +kernel
theorem dX7_join_80 : decode prog_9_method_23_code 80 = .ok (.getfield 59, 3) := by decide +kernel
theorem dX7_join_83 : decode prog_9_method_23_code 83 = .ok (.iload 6, 2) := by decide +kernel
theorem dX7_join_85 : decode prog_9_method_23_code 85 = .ok (.iload 5, 2) := by decide +kernel
theorem dX7_join_87 : decode prog_9_method_23_code 87 = .ok (.iastore, 1) := by decide +kernel
theorem dX7_join_88 : decode prog_9_method_23_code 88 = .ok (.aload_n 0, 1) := by decide +kernel
theorem dX7_join_89 : decode prog_9_method_23_code 89 = .ok (.getfield 62, 3) := by decide +kernel
theorem dX7_join_92 : decode prog_9_method_23_code 92 = .ok (.iload 6, 2) := by decide +kernel
theorem dX7_join_94 : decode prog_9_method_23_code 94 = .ok (.aload_n 0, 1) := by decide +kernel
theorem dX7_join_95 : decode prog_9_method_23_code 95 = .ok (.getfield 68, 3) := by decide +kernel
theorem dX7_join_98 : decode prog_9_method_23_code 98 = .ok (.iload 4, 2) := by decide +kernel
theorem dX7_join_100 : decode prog_9_method_23_code 100 = .ok (.iaload, 1) := by decide +kernel
theorem dX7_join_101 : decode prog_9_method_23_code 101 = .ok (.iastore, 1) := by decide +kernel
theorem dX7_join_102 : decode prog_9_method_23_code 102 = .ok (.aload_n 0, 1) := by decide +kernel
theorem dX7_join_103 : decode prog_9_method_23_code 103 = .ok (.getfield 65, 3) := by decide +kernel
theorem dX7_join_106 : decode prog_9_method_23_code 106 = .ok (.iload 6, 2) := by decide +kernel
theorem dX7_join_108 : decode prog_9_method_23_code 108 = .ok (.aload_n 0, 1) := by decide +kernel
theorem dX7_join_109 : decode prog_9_method_23_code 109 = .ok (.getfield 68, 3) := by decide +kernel
theorem dX7_join_112 : decode prog_9_method_23_code 112 = .ok (.iload 4, 2) := by decide +kernel
theorem dX7_join_114 : decode prog_9_method_23_code 114 = .ok (.iaload, 1) := by decide +kernel
theorem dX7_join_115 : decode prog_9_method_23_code 115 = .ok (.iastore, 1) := by decide +kernel
theorem dX7_join_116 : decode prog_9_method_23_code 116 = .ok (.aload_n 0, 1) := by decide +kernel
theorem dX7_join_117 : decode prog_9_method_23_code 117 = .ok (.invokevirtual 156, 3) := by decide +kernel
theorem dX7_join_120 : decode prog_9_method_23_code 120 = .ok (.aload_n 0, 1) := by decide +kernel
theorem dX7_join_121 : decode prog_9_method_23_code 121 = .ok (.getfield 25, 3) := by decide +kernel
theorem dX7_join_124 : decode prog_9_method_23_code 124 = .ok (.iload_n 1, 1) := by decide +kernel
theorem dX7_join_125 : decode prog_9_method_23_code 125 = .ok (.dup2, 1) := by decide +kernel
theorem dX7_join_126 : decode prog_9_method_23_code 126 = .ok (.iaload, 1) := by decide +kernel
theorem dX7_join_127 : decode prog_9_method_23_code 127 = .ok (.iconst 1, 1) := by decide +kernel
theorem dX7_join_128 : decode prog_9_method_23_code 128 = .ok (.iadd, 1) := by decide +kernel
theorem dX7_join_129 : decode prog_9_method_23_code 129 = .ok (.iastore, 1) := by decide +kernel
theorem dX7_join_130 : decode prog_9_method_23_code 130 = .ok (.return_, 1) := by decide +kernel
theorem dX7_onFuture_0 : decode prog_9_method_24_code 0 = .ok (.iload_n 2, 1) := by decide +kernel
theorem dX7_onFuture_1 : decode prog_9_method_24_code 1 = .ok (.bipush 7, 2) := by decide +kernel
theorem dX7_onFuture_3 : decode prog_9_method_24_code 3 = .ok (.if_icmp .ne 21, 3) := by decide +kernel
theorem dX7_onFuture_6 : decode prog_9_method_24_code 6 = .ok (.aload_n 0, 1) := by decide +kernel
theorem dX7_onFuture_7 : decode prog_9_method_24_code 7 = .ok (.getfield 56, 3) := by decide +kernel
theorem dX7_onFuture_10 : decode prog_9_method_24_code 10 = .ok (.iload_n 3, 1) := by decide +kernel
theorem dX7_onFuture_11 : decode prog_9_method_24_code 11 = .ok (.baload, 1) := by decide +kernel
theorem dX7_onFuture_12 : decode prog_9_method_24_code 12 = .ok (.ifCond .eq 12, 3) := by decide +kernel
theorem dX7_onFuture_15 : decode prog_9_method_24_code 15 = .ok (.aload_n 0, 1) := by decide +kernel
theorem dX7_onFuture_16 : decode prog_9_method_24_code 16 = .ok (.iload_n 1, 1) := by decide +kernel
theorem dX7_onFuture_17 : decode prog_9_method_24_code 17 = .ok (.iconst 2, 1) := by decide +kernel
theorem dX7_onFuture_18 : decode prog_9_method_24_code 18 = .ok (.invokevirtual 176, 3) := by decide +kernel
theorem dX7_onFuture_21 : decode prog_9_method_24_code 21 = .ok (.goto 87, 3) := by decide +kernel
theorem dX7_onFuture_24 : decode prog_9_method_24_code 24 = .ok (.iload_n 2, 1) := by decide +kernel
theorem dX7_onFuture_25 : decode prog_9_method_24_code 25 = .ok (.bipush 8, 2) := by decide +kernel
theorem dX7_onFuture_27 : decode prog_9_method_24_code 27 = .ok (.if_icmp .ne 28, 3) := by decide +kernel
theorem dX7_onFuture_30 : decode prog_9_method_24_code 30 = .ok (.aload_n 0, 1) := by decide +kernel
theorem dX7_onFuture_31 : decode prog_9_method_24_code 31 = .ok (.getfield 56, 3) := by decide +kernel
theorem dX7_onFuture_34 : decode prog_9_method_24_code 34 = .ok (.iload_n 3, 1) := by decide +kernel
theorem dX7_onFuture_35 : decode prog_9_method_24_code 35 = .ok (.baload, 1) := by decide +kernel
theorem dX7_onFuture_36 : decode prog_9_method_24_code 36 = .ok (.ifCond .ne 19, 3) := by decide +kernel
theorem dX7_onFuture_39 : decode prog_9_method_24_code 39 = .ok (.aload_n 0, 1) := by decide +kernel
theorem dX7_onFuture_40 : decode prog_9_method_24_code 40 = .ok (.iload_n 1, 1) := by decide +kernel
theorem dX7_onFuture_41 : decode prog_9_method_24_code 41 = .ok (.iconst 1, 1) := by decide +kernel
theorem dX7_onFuture_42 : decode prog_9_method_24_code 42 = .ok (.invokevirtual 163, 3) := by decide +kernel
theorem dX7_onFuture_45 : decode prog_9_method_24_code 45 = .ok (.aload_n 0, 1) := by decide +kernel
theorem dX7_onFuture_46 : decode prog_9_method_24_code 46 = .ok (.getfield 40, 3) := by decide +kernel
theorem dX7_onFuture_49 : decode prog_9_method_24_code 49 = .ok (.iload_n 1, 1) := by decide +kernel
theorem dX7_onFuture_50 : decode prog_9_method_24_code 50 = .ok (.iload_n 3, 1) := by decide +kernel
theorem dX7_onFuture_51 : decode prog_9_method_24_code 51 = .ok (.iastore, 1) := by decide +kernel
theorem dX7_onFuture_52 : decode prog_9_method_24_code 52 = .ok (.goto 56, 3) := by decide +kernel
theorem dX7_onFuture_55 : decode prog_9_method_24_code 55 = .ok (.iload_n 2, 1) := by decide +kernel
theorem dX7_onFuture_56 : decode prog_9_method_24_code 56 = .ok (.bipush 7, 2) := by decide +kernel
theorem dX7_onFuture_58 : decode prog_9_method_24_code 58 = .ok (.if_icmp .ne 18, 3) := by decide +kernel
theorem dX7_onFuture_61 : decode prog_9_method_24_code 61 = .ok (.aload_n 0, 1) := by decide +kernel
theorem dX7_onFuture_62 : decode prog_9_method_24_code 62 = .ok (.getfield 43, 3) := by decide +kernel
theorem dX7_onFuture_65 : decode prog_9_method_24_code 65 = .ok (.iload_n 3, 1) := by decide +kernel
theorem dX7_onFuture_66 : decode prog_9_method_24_code 66 = .ok (.aload_n 0, 1) := by decide +kernel
theorem dX7_onFuture_67 : decode prog_9_method_24_code 67 = .ok (.getfield 22, 3) := by decide +kernel
theorem dX7_onFuture_70 : decode prog_9_method_24_code 70 = .ok (.iload_n 1, 1) := by decide +kernel
theorem dX7_onFuture_71 : decode prog_9_method_24_code 71 = .ok (.iaload, 1) := by decide +kernel
theorem dX7_onFuture_72 : decode prog_9_method_24_code 72 = .ok (.iastore, 1) := by decide +kernel
theorem dX7_onFuture_73 : decode prog_9_method_24_code 73 = .ok (.goto 18, 3) := by decide +kernel
theorem dX7_onFuture_76 : decode prog_9_method_24_code 76 = .ok (.aload_n 0, 1) := by decide +kernel
theorem dX7_onFuture_77 : decode prog_9_method_24_code 77 = .ok (.getfield 22, 3) := by decide +kernel
theorem dX7_onFuture_80 : decode prog_9_method_24_code 80 = .ok (.iload_n 1, 1) := by decide +kernel
theorem dX7_onFuture_81 : decode prog_9_method_24_code 81 = .ok (.dup2, 1) := by decide +kernel
theorem dX7_onFuture_82 : decode prog_9_method_24_code 82 = .ok (.iaload, 1) := by decide +kernel
theorem dX7_onFuture_83 : decode prog_9_method_24_code 83 = .ok (.aload_n 0, 1) := by decide +kernel
theorem dX7_onFuture_84 : decode prog_9_method_24_code 84 = .ok (.getfield 43, 3) := by decide +kernel
theorem dX7_onFuture_87 : decode prog_9_method_24_code 87 = .ok (.iload_n 3, 1) := by decide +kernel
theorem dX7_onFuture_88 : decode prog_9_method_24_code 88 = .ok (.iaload, 1) := by decide +kernel
theorem dX7_onFuture_89 : decode prog_9_method_24_code 89 = .ok (.iadd, 1) := by decide +kernel
theorem dX7_onFuture_90 : decode prog_9_method_24_code 90 = .ok (.iastore, 1) := by decide +kernel
theorem dX7_onFuture_91 : decode prog_9_method_24_code 91 = .ok (.aload_n 0, 1) := by decide +kernel
theorem dX7_onFuture_92 : decode prog_9_method_24_code 92 = .ok (.getfield 56, 3) := by decide +kernel
theorem dX7_onFuture_95 : decode prog_9_method_24_code 95 = .ok (.iload_n 3, 1) := by decide +kernel
theorem dX7_onFuture_96 : decode prog_9_method_24_code 96 = .ok (.iconst 1, 1) := by decide +kernel
theorem dX7_onFuture_97 : decode prog_9_method_24_code 97 = .ok (.bastore, 1) := by decide +kernel
theorem dX7_onFuture_98 : decode prog_9_method_24_code 98 = .ok (.aload_n 0, 1) := by decide +kernel
theorem dX7_onFuture_99 : decode prog_9_method_24_code 99 = .ok (.getfield 25, 3) := by decide +kernel
theorem dX7_onFuture_102 : decode prog_9_method_24_code 102 = .ok (.iload_n 1, 1) := by decide +kernel
theorem dX7_onFuture_103 : decode prog_9_method_24_code 103 = .ok (.dup2, 1) := by decide +kernel
theorem dX7_onFuture_104 : decode prog_9_method_24_code 104 = .ok (.iaload, 1) := by decide +kernel
theorem dX7_onFuture_105 : decode prog_9_method_24_code 105 = .ok (.iconst 1, 1) := by decide +kernel
theorem dX7_onFuture_106 : decode prog_9_method_24_code 106 = .ok (.iadd, 1) := by decide +kernel
theorem dX7_onFuture_107 : decode prog_9_method_24_code 107 = .ok (.iastore, 1) := by decide +kernel
theorem dX7_onFuture_108 : decode prog_9_method_24_code 108 = .ok (.return_, 1) := by decide +kernel
theorem dX7_onScope_0 : decode prog_9_method_25_code 0 = .ok (.iload_n 2, 1) := by decide +kernel
theorem dX7_onScope_1 : decode prog_9_method_25_code 1 = .ok (.iconst 4, 1) := by decide +kernel
theorem dX7_onScope_2 : decode prog_9_method_25_code 2 = .ok (.if_icmp .ne 22, 3) := by decide +kernel
theorem dX7_onScope_5 : decode prog_9_method_25_code 5 = .ok (.aload_n 0, 1) := by decide +kernel
theorem dX7_onScope_6 : decode prog_9_method_25_code 6 = .ok (.getfield 34, 3) := by decide +kernel
theorem dX7_onScope_9 : decode prog_9_method_25_code 9 = .ok (.iload_n 1, 1) := by decide +kernel
theorem dX7_onScope_10 : decode prog_9_method_25_code 10 = .ok (.iaload, 1) := by decide +kernel
theorem dX7_onScope_11 : decode prog_9_method_25_code 11 = .ok (.iconst 3, 1) := by decide +kernel
theorem dX7_onScope_12 : decode prog_9_method_25_code 12 = .ok (.if_icmp .ne 12, 3) := by decide +kernel
theorem dX7_onScope_15 : decode prog_9_method_25_code 15 = .ok (.aload_n 0, 1) := by decide +kernel
theorem dX7_onScope_16 : decode prog_9_method_25_code 16 = .ok (.iload_n 1, 1) := by decide +kernel
theorem dX7_onScope_17 : decode prog_9_method_25_code 17 = .ok (.iconst 1, 1) := by decide +kernel
theorem dX7_onScope_18 : decode prog_9_method_25_code 18 = .ok (.invokevirtual 176, 3) := by decide +kernel
theorem dX7_onScope_21 : decode prog_9_method_25_code 21 = .ok (.goto 88, 3) := by decide +kernel
theorem dX7_onScope_24 : decode prog_9_method_25_code 24 = .ok (.iload_n 2, 1) := by decide +kernel
theorem dX7_onScope_25 : decode prog_9_method_25_code 25 = .ok (.iconst 5, 1) := by decide +kernel
theorem dX7_onScope_26 : decode prog_9_method_25_code 26 = .ok (.if_icmp .ne 21, 3) := by decide +kernel
theorem dX7_onScope_29 : decode prog_9_method_25_code 29 = .ok (.aload_n 0, 1) := by decide +kernel
theorem dX7_onScope_30 : decode prog_9_method_25_code 30 = .ok (.getfield 34, 3) := by decide +kernel
theorem dX7_onScope_33 : decode prog_9_method_25_code 33 = .ok (.iload_n 1, 1) := by decide +kernel
theorem dX7_onScope_34 : decode prog_9_method_25_code 34 = .ok (.iaload, 1) := by decide +kernel
theorem dX7_onScope_35 : decode prog_9_method_25_code 35 = .ok (.ifCond .ne 12, 3) := by decide +kernel
theorem dX7_onScope_38 : decode prog_9_method_25_code 38 = .ok (.aload_n 0, 1) := by decide +kernel
theorem dX7_onScope_39 : decode prog_9_method_25_code 39 = .ok (.iload_n 1, 1) := by decide +kernel
theorem dX7_onScope_40 : decode prog_9_method_25_code 40 = .ok (.iconst 4, 1) := by decide +kernel
theorem dX7_onScope_41 : decode prog_9_method_25_code 41 = .ok (.invokevirtual 176, 3) := by decide +kernel
theorem dX7_onScope_44 : decode prog_9_method_25_code 44 = .ok (.goto 65, 3) := by decide +kernel
theorem dX7_onScope_47 : decode prog_9_method_25_code 47 = .ok (.iload_n 2, 1) := by decide +kernel
theorem dX7_onScope_48 : decode prog_9_method_25_code 48 = .ok (.iconst 5, 1) := by decide +kernel
theorem dX7_onScope_49 : decode prog_9_method_25_code 49 = .ok (.if_icmp .ne 20, 3) := by decide +kernel
theorem dX7_onScope_52 : decode prog_9_method_25_code 52 = .ok (.aload_n 0, 1) := by decide +kernel
theorem dX7_onScope_53 : decode prog_9_method_25_code 53 = .ok (.getfield 46, 3) := by decide +kernel
theorem dX7_onScope_56 : decode prog_9_method_25_code 56 = .ok (.iload_n 1, 1) := by decide +kernel
theorem dX7_onScope_57 : decode prog_9_method_25_code 57 = .ok (.iconst 1, 1) := by decide +kernel
theorem dX7_onScope_58 : decode prog_9_method_25_code 58 = .ok (.bastore, 1) := by decide +kernel
theorem dX7_onScope_59 : decode prog_9_method_25_code 59 = .ok (.aload_n 0, 1) := by decide +kernel
theorem dX7_onScope_60 : decode prog_9_method_25_code 60 = .ok (.getfield 50, 3) := by decide +kernel
theorem dX7_onScope_63 : decode prog_9_method_25_code 63 = .ok (.iload_n 1, 1) := by decide +kernel
theorem dX7_onScope_64 : decode prog_9_method_25_code 64 = .ok (.iconst 1, 1) := by decide +kernel
theorem dX7_onScope_65 : decode prog_9_method_25_code 65 = .ok (.bastore, 1) := by decide +kernel
theorem dX7_onScope_66 : decode prog_9_method_25_code 66 = .ok (.goto 43, 3) := by decide +kernel
theorem dX7_onScope_69 : decode prog_9_method_25_code 69 = .ok (.aload_n 0, 1) := by decide +kernel
theorem dX7_onScope_70 : decode prog_9_method_25_code 70 = .ok (.iconst 3, 1) := by decide +kernel
theorem dX7_onScope_71 : decode prog_9_method_25_code 71 = .ok (.iload_n 1, 1) := by decide +kernel
theorem dX7_onScope_72 : decode prog_9_method_25_code 72 = .ok (.imul, 1) := by decide +kernel
theorem dX7_onScope_73 : decode prog_9_method_25_code 73 = .ok (.aload_n 0, 1) := by decide +kernel
theorem dX7_onScope_74 : decode prog_9_method_25_code 74 = .ok (.getfield 34, 3) := by decide +kernel
theorem dX7_onScope_77 : decode prog_9_method_25_code 77 = .ok (.iload_n 1, 1) := by decide +kernel
theorem dX7_onScope_78 : decode prog_9_method_25_code 78 = .ok (.iaload, 1) := by decide +kernel
theorem dX7_onScope_79 : decode prog_9_method_25_code 79 = .ok (.iadd, 1) := by decide +kernel
theorem dX7_onScope_80 : decode prog_9_method_25_code 80 = .ok (.iload_n 3, 1) := by decide +kernel
theorem dX7_onScope_81 : decode prog_9_method_25_code 81 = .ok (.iconst 4, 1) := by decide +kernel
theorem dX7_onScope_82 : decode prog_9_method_25_code 82 = .ok (.irem, 1) := by decide +kernel
theorem dX7_onScope_83 : decode prog_9_method_25_code 83 = .ok (.iload_n 3, 1) := by decide +kernel
theorem dX7_onScope_84 : decode prog_9_method_25_code 84 = .ok (.iconst 4, 1) := by decide +kernel
theorem dX7_onScope_85 : decode prog_9_method_25_code 85 = .ok (.idiv, 1) := by decide +kernel
theorem dX7_onScope_86 : decode prog_9_method_25_code 86 = .ok (.invokevirtual 144, 3) := by decide +kernel
theorem dX7_onScope_89 : decode prog_9_method_25_code 89 = .ok (.aload_n 0, 1) := by decide +kernel
theorem dX7_onScope_90 : decode prog_9_method_25_code 90 = .ok (.getfield 34, 3) := by decide +kernel
theorem dX7_onScope_93 : decode prog_9_method_25_code 93 = .ok (.iload_n 1, 1) := by decide +kernel
theorem dX7_onScope_94 : decode prog_9_method_25_code 94 = .ok (.dup2, 1) := by decide +kernel
theorem dX7_onScope_95 : decode prog_9_method_25_code 95 = .ok (.iaload, 1) := by decide +kernel
theorem dX7_onScope_96 : decode prog_9_method_25_code 96 = .ok (.iconst 1, 1) := by decide +kernel
theorem dX7_onScope_97 : decode prog_9_method_25_code 97 = .ok (.iadd, 1) := by decide +kernel
theorem dX7_onScope_98 : decode prog_9_method_25_code 98 = .ok (.iastore, 1) := by decide +kernel
theorem dX7_onScope_99 : decode prog_9_method_25_code 99 = .ok (.aload_n 0, 1) := by decide +kernel
theorem dX7_onScope_100 : decode prog_9_method_25_code 100 = .ok (.getfield 25, 3) := by decide +kernel
theorem dX7_onScope_103 : decode prog_9_method_25_code 103 = .ok (.iload_n 1, 1) := by decide +kernel
theorem dX7_onScope_104 : decode prog_9_method_25_code 104 = .ok (.dup2, 1) := by decide +kernel
theorem dX7_onScope_105 : decode prog_9_method_25_code 105 = .ok (.iaload, 1) := by decide +kernel
theorem dX7_onScope_106 : decode prog_9_method_25_code 106 = .ok (.iconst 1, 1) := by decide +kernel
theorem dX7_onScope_107 : decode prog_9_method_25_code 107 = .ok (.iadd, 1) := by decide +kernel
theorem dX7_onScope_108 : decode prog_9_method_25_code 108 = .ok (.iastore, 1) := by decide +kernel
theorem dX7_onScope_109 : decode prog_9_method_25_code 109 = .ok (.return_, 1) := by decide +kernel
theorem dX7_step_0 : decode prog_9_method_26_code 0 = .ok (.aload_n 0, 1) := by decide +kernel
theorem dX7_step_1 : decode prog_9_method_26_code 1 = .ok (.dup, 1) := by decide +kernel
theorem dX7_step_2 : decode prog_9_method_26_code 2 = .ok (.getfield 129, 3) := by decide +kernel
theorem dX7_step_5 : decode prog_9_method_26_code 5 = .ok (.iconst 1, 1) := by decide +kernel
theorem dX7_step_6 : decode prog_9_method_26_code 6 = .ok (.iadd, 1) := by decide +kernel
theorem dX7_step_7 : decode prog_9_method_26_code 7 = .ok (.putfield 129, 3) := by decide +kernel
theorem dX7_step_10 : decode prog_9_method_26_code 10 = .ok (.aload_n 0, 1) := by decide +kernel
theorem dX7_step_11 : decode prog_9_method_26_code 11 = .ok (.iconst (-1), 1) := by decide +kernel
theorem dX7_step_12 : decode prog_9_method_26_code 12 = .ok (.putfield 179, 3) := by decide +kernel
theorem dX7_step_15 : decode prog_9_method_26_code 15 = .ok (.aload_n 0, 1) := by decide +kernel
theorem dX7_step_16 : decode prog_9_method_26_code 16 = .ok (.getfield 46, 3) := by decide +kernel
theorem dX7_step_19 : decode prog_9_method_26_code 19 = .ok (.iload_n 1, 1) := by decide +kernel
theorem dX7_step_20 : decode prog_9_method_26_code 20 = .ok (.baload, 1) := by decide +kernel
theorem dX7_step_21 : decode prog_9_method_26_code 21 = .ok (.ifCond .eq 9, 3) := by decide +kernel
theorem dX7_step_24 : decode prog_9_method_26_code 24 = .ok (.aload_n 0, 1) := by decide +kernel
theorem dX7_step_25 : decode prog_9_method_26_code 25 = .ok (.iload_n 1, 1) := by decide +kernel
theorem dX7_step_26 : decode prog_9_method_26_code 26 = .ok (.invokevirtual 182, 3) := by decide +kernel
theorem dX7_step_29 : decode prog_9_method_26_code 29 = .ok (.return_, 1) := by decide +kernel
theorem dX7_step_30 : decode prog_9_method_26_code 30 = .ok (.aload_n 0, 1) := by decide +kernel
theorem dX7_step_31 : decode prog_9_method_26_code 31 = .ok (.getfield 28, 3) := by decide +kernel
theorem dX7_step_34 : decode prog_9_method_26_code 34 = .ok (.iload_n 1, 1) := by decide +kernel
theorem dX7_step_35 : decode prog_9_method_26_code 35 = .ok (.iaload, 1) := by decide +kernel
theorem dX7_step_36 : decode prog_9_method_26_code 36 = .ok (.istore_n 2, 1) := by decide +kernel
theorem dX7_step_37 : decode prog_9_method_26_code 37 = .ok (.aload_n 0, 1) := by decide +kernel
theorem dX7_step_38 : decode prog_9_method_26_code 38 = .ok (.getfield 25, 3) := by decide +kernel
theorem dX7_step_41 : decode prog_9_method_26_code 41 = .ok (.iload_n 1, 1) := by decide +kernel
theorem dX7_step_42 : decode prog_9_method_26_code 42 = .ok (.iaload, 1) := by decide +kernel
theorem dX7_step_43 : decode prog_9_method_26_code 43 = .ok (.aload_n 0, 1) := by decide +kernel
theorem dX7_step_44 : decode prog_9_method_26_code 44 = .ok (.getfield 7, 3) := by decide +kernel
theorem dX7_step_47 : decode prog_9_method_26_code 47 = .ok (.iload_n 2, 1) := by decide +kernel
theorem dX7_step_48 : decode prog_9_method_26_code 48 = .ok (.iaload, 1) := by decide +kernel
theorem dX7_step_49 : decode prog_9_method_26_code 49 = .ok (.if_icmp .lt 35, 3) := by decide +kernel
theorem dX7_step_52 : decode prog_9_method_26_code 52 = .ok (.aload_n 0, 1) := by decide +kernel
theorem dX7_step_53 : decode prog_9_method_26_code 53 = .ok (.getfield 34, 3) := by decide +kernel
theorem dX7_step_56 : decode prog_9_method_26_code 56 = .ok (.iload_n 1, 1) := by decide +kernel
theorem dX7_step_57 : decode prog_9_method_26_code 57 = .ok (.iaload, 1) := by decide +kernel
theorem dX7_step_58 : decode prog_9_method_26_code 58 = .ok (.ifCond .ne 11, 3) := by decide +kernel
theorem dX7_step_61 : decode prog_9_method_26_code 61 = .ok (.aload_n 0, 1) := by decide +kernel
theorem dX7_step_62 : decode prog_9_method_26_code 62 = .ok (.iload_n 1, 1) := by decide +kernel
theorem dX7_step_63 : decode prog_9_method_26_code 63 = .ok (.invokevirtual 172, 3) := by decide +kernel
theorem dX7_step_66 : decode prog_9_method_26_code 66 = .ok (.goto 17, 3) := by decide +kernel
theorem dX7_step_69 : decode prog_9_method_26_code 69 = .ok (.aload_n 0, 1) := by decide +kernel
theorem dX7_step_70 : decode prog_9_method_26_code 70 = .ok (.getfield 46, 3) := by decide +kernel
theorem dX7_step_73 : decode prog_9_method_26_code 73 = .ok (.iload_n 1, 1) := by decide +kernel
theorem dX7_step_74 : decode prog_9_method_26_code 74 = .ok (.iconst 1, 1) := by decide +kernel
theorem dX7_step_75 : decode prog_9_method_26_code 75 = .ok (.bastore, 1) := by decide +kernel
theorem dX7_step_76 : decode prog_9_method_26_code 76 = .ok (.aload_n 0, 1) := by decide +kernel
theorem dX7_step_77 : decode prog_9_method_26_code 77 = .ok (.getfield 50, 3) := by decide +kernel
theorem dX7_step_80 : decode prog_9_method_26_code 80 = .ok (.iload_n 1, 1) := by decide +kernel
theorem dX7_step_81 : decode prog_9_method_26_code 81 = .ok (.iconst 0, 1) := by decide +kernel
theorem dX7_step_82 : decode prog_9_method_26_code 82 = .ok (.bastore, 1) := by decide +kernel
theorem dX7_step_83 : decode prog_9_method_26_code 83 = .ok (.return_, 1) := by decide +kernel
theorem dX7_step_84 : decode prog_9_method_26_code 84 = .ok (.aload_n 0, 1) := by decide +kernel
theorem dX7_step_85 : decode prog_9_method_26_code 85 = .ok (.getfield 13, 3) := by decide +kernel
theorem dX7_step_88 : decode prog_9_method_26_code 88 = .ok (.bipush 16, 2) := by decide +kernel
theorem dX7_step_90 : decode prog_9_method_26_code 90 = .ok (.iload_n 2, 1) := by decide +kernel
theorem dX7_step_91 : decode prog_9_method_26_code 91 = .ok (.imul, 1) := by decide +kernel
theorem dX7_step_92 : decode prog_9_method_26_code 92 = .ok (.aload_n 0, 1) := by decide +kernel
theorem dX7_step_93 : decode prog_9_method_26_code 93 = .ok (.getfield 25, 3) := by decide +kernel
theorem dX7_step_96 : decode prog_9_method_26_code 96 = .ok (.iload_n 1, 1) := by decide +kernel
theorem dX7_step_97 : decode prog_9_method_26_code 97 = .ok (.iaload, 1) := by decide +kernel
theorem dX7_step_98 : decode prog_9_method_26_code 98 = .ok (.iadd, 1) := by decide +kernel
theorem dX7_step_99 : decode prog_9_method_26_code 99 = .ok (.iaload, 1) := by decide +kernel
theorem dX7_step_100 : decode prog_9_method_26_code 100 = .ok (.istore_n 3, 1) := by decide +kernel
theorem dX7_step_101 : decode prog_9_method_26_code 101 = .ok (.aload_n 0, 1) := by decide +kernel
theorem dX7_step_102 : decode prog_9_method_26_code 102 = .ok (.getfield 16, 3) := by decide +kernel
theorem dX7_step_105 : decode prog_9_method_26_code 105 = .ok (.bipush 16, 2) := by decide +kernel
theorem dX7_step_107 : decode prog_9_method_26_code 107 = .ok (.iload_n 2, 1) := by decide +kernel
theorem dX7_step_108 : decode prog_9_method_26_code 108 = .ok (.imul, 1) := by decide +kernel
theorem dX7_step_109 : decode prog_9_method_26_code 109 = .ok (.aload_n 0, 1) := by decide +kernel
theorem dX7_step_110 : decode prog_9_method_26_code 110 = .ok (.getfield 25, 3) := by decide +kernel
theorem dX7_step_113 : decode prog_9_method_26_code 113 = .ok (.iload_n 1, 1) := by decide +kernel
theorem dX7_step_114 : decode prog_9_method_26_code 114 = .ok (.iaload, 1) := by decide +kernel
theorem dX7_step_115 : decode prog_9_method_26_code 115 = .ok (.iadd, 1) := by decide +kernel
theorem dX7_step_116 : decode prog_9_method_26_code 116 = .ok (.iaload, 1) := by decide +kernel
theorem dX7_step_117 : decode prog_9_method_26_code 117 = .ok (.istore 4, 2) := by decide +kernel
theorem dX7_step_119 : decode prog_9_method_26_code 119 = .ok (.iload_n 3, 1) := by decide +kernel
theorem dX7_step_120 : decode prog_9_method_26_code 120 = .ok (.tableswitch 208 0 16 #[172, 186, 84, 84, 93, 93, 200, 102, 102, 84, 111, 111, 120, 126, 208, 134, 163], 84) := by decide +kernel
theorem dX7_step_204 : decode prog_9_method_26_code 204 = .ok (.aload_n 0, 1) := by decide +kernel
theorem dX7_step_205 : decode prog_9_method_26_code 205 = .ok (.iload_n 1, 1) := by decide +kernel
theorem dX7_step_206 : decode prog_9_method_26_code 206 = .ok (.iload_n 3, 1) := by decide +kernel
theorem dX7_step_207 : decode prog_9_method_26_code 207 = .ok (.iload 4, 2) := by decide +kernel
theorem dX7_step_209 : decode prog_9_method_26_code 209 = .ok (.invokevirtual 185, 3) := by decide +kernel
theorem dX7_step_212 : decode prog_9_method_26_code 212 = .ok (.return_, 1) := by decide +kernel
theorem dX7_step_213 : decode prog_9_method_26_code 213 = .ok (.aload_n 0, 1) := by decide +kernel
theorem dX7_step_214 : decode prog_9_method_26_code 214 = .ok (.iload_n 1, 1) := by decide +kernel
theorem dX7_step_215 : decode prog_9_method_26_code 215 = .ok (.iload_n 3, 1) := by decide +kernel
theorem dX7_step_216 : decode prog_9_method_26_code 216 = .ok (.iload 4, 2) := by decide +kernel
theorem dX7_step_218 : decode prog_9_method_26_code 218 = .ok (.invokevirtual 188, 3) := by decide +kernel
theorem dX7_step_221 : decode prog_9_method_26_code 221 = .ok (.return_, 1) := by decide +kernel
theorem dX7_step_222 : decode prog_9_method_26_code 222 = .ok (.aload_n 0, 1) := by decide +kernel
theorem dX7_step_223 : decode prog_9_method_26_code 223 = .ok (.iload_n 1, 1) := by decide +kernel
theorem dX7_step_224 : decode prog_9_method_26_code 224 = .ok (.iload_n 3, 1) := by decide +kernel
theorem dX7_step_225 : decode prog_9_method_26_code 225 = .ok (.iload 4, 2) := by decide +kernel
theorem dX7_step_227 : decode prog_9_method_26_code 227 = .ok (.invokevirtual 191, 3) := by decide +kernel
theorem dX7_step_230 : decode prog_9_method_26_code 230 = .ok (.return_, 1) := by decide +kernel
theorem dX7_step_231 : decode prog_9_method_26_code 231 = .ok (.aload_n 0, 1) := by decide +kernel
theorem dX7_step_232 : decode prog_9_method_26_code 232 = .ok (.iload_n 1, 1) := by decide +kernel
theorem dX7_step_233 : decode prog_9_method_26_code 233 = .ok (.iload_n 3, 1) := by decide +kernel
theorem dX7_step_234 : decode prog_9_method_26_code 234 = .ok (.iload 4, 2) := by decide +kernel
theorem dX7_step_236 : decode prog_9_method_26_code 236 = .ok (.invokevirtual 194, 3) := by decide +kernel
theorem dX7_step_239 : decode prog_9_method_26_code 239 = .ok (.return_, 1) := by decide +kernel
theorem dX7_step_240 : decode prog_9_method_26_code 240 = .ok (.aload_n 0, 1) := by decide +kernel
theorem dX7_step_241 : decode prog_9_method_26_code 241 = .ok (.iload_n 1, 1) := by decide +kernel
theorem dX7_step_242 : decode prog_9_method_26_code 242 = .ok (.invokevirtual 197, 3) := by decide +kernel
theorem dX7_step_245 : decode prog_9_method_26_code 245 = .ok (.return_, 1) := by decide +kernel
theorem dX7_step_246 : decode prog_9_method_26_code 246 = .ok (.aload_n 0, 1) := by decide +kernel
theorem dX7_step_247 : decode prog_9_method_26_code 247 = .ok (.iload_n 1, 1) := by decide +kernel
theorem dX7_step_248 : decode prog_9_method_26_code 248 = .ok (.iload 4, 2) := by decide +kernel
theorem dX7_step_250 : decode prog_9_method_26_code 250 = .ok (.invokevirtual 176, 3) := by decide +kernel
theorem dX7_step_253 : decode prog_9_method_26_code 253 = .ok (.return_, 1) := by decide +kernel
theorem dX7_step_254 : decode prog_9_method_26_code 254 = .ok (.aload_n 0, 1) := by decide +kernel
theorem dX7_step_255 : decode prog_9_method_26_code 255 = .ok (.getfield 25, 3) := by decide +kernel
theorem dX7_step_258 : decode prog_9_method_26_code 258 = .ok (.iload_n 1, 1) := by decide +kernel
theorem dX7_step_259 : decode prog_9_method_26_code 259 = .ok (.aload_n 0, 1) := by decide +kernel
theorem dX7_step_260 : decode prog_9_method_26_code 260 = .ok (.getfield 22, 3) := by decide +kernel
theorem dX7_step_263 : decode prog_9_method_26_code 263 = .ok (.iload_n 1, 1) := by decide +kernel
theorem dX7_step_264 : decode prog_9_method_26_code 264 = .ok (.iaload, 1) := by decide +kernel
theorem dX7_step_265 : decode prog_9_method_26_code 265 = .ok (.ifCond .eq 8, 3) := by decide +kernel
theorem dX7_step_268 : decode prog_9_method_26_code 268 = .ok (.iload 4, 2) := by decide +kernel
theorem dX7_step_270 : decode prog_9_method_26_code 270 = .ok (.goto 11, 3) := by decide +kernel
theorem dX7_step_273 : decode prog_9_method_26_code 273 = .ok (.aload_n 0, 1) := by decide +kernel
theorem dX7_step_274 : decode prog_9_method_26_code 274 = .ok (.getfield 25, 3) := by decide +kernel
theorem dX7_step_277 : decode prog_9_method_26_code 277 = .ok (.iload_n 1, 1) := by decide +kernel
theorem dX7_step_278 : decode prog_9_method_26_code 278 = .ok (.iaload, 1) := by decide +kernel
theorem dX7_step_279 : decode prog_9_method_26_code 279 = .ok (.iconst 1, 1) := by decide +kernel
theorem dX7_step_280 : decode prog_9_method_26_code 280 = .ok (.iadd, 1) := by decide +kernel
theorem dX7_step_281 : decode prog_9_method_26_code 281 = .ok (.iastore, 1) := by decide +kernel
theorem dX7_step_282 : decode prog_9_method_26_code 282 = .ok (.return_, 1) := by decide +kernel
theorem dX7_step_283 : decode prog_9_method_26_code 283 = .ok (.aload_n 0, 1) := by decide +kernel
theorem dX7_step_284 : decode prog_9_method_26_code 284 = .ok (.getfield 25, 3) := by decide +kernel
theorem dX7_step_287 : decode prog_9_method_26_code 287 = .ok (.iload_n 1, 1) := by decide +kernel
theorem dX7_step_288 : decode prog_9_method_26_code 288 = .ok (.iload 4, 2) := by decide +kernel
theorem dX7_step_290 : decode prog_9_method_26_code 290 = .ok (.iastore, 1) := by decide +kernel
theorem dX7_step_291 : decode prog_9_method_26_code 291 = .ok (.return_, 1) := by decide +kernel
theorem dX7_step_292 : decode prog_9_method_26_code 292 = .ok (.aload_n 0, 1) := by decide +kernel
theorem dX7_step_293 : decode prog_9_method_26_code 293 = .ok (.getfield 22, 3) := by decide +kernel
theorem dX7_step_296 : decode prog_9_method_26_code 296 = .ok (.iload_n 1, 1) := by decide +kernel
theorem dX7_step_297 : decode prog_9_method_26_code 297 = .ok (.dup2, 1) := by decide +kernel
theorem dX7_step_298 : decode prog_9_method_26_code 298 = .ok (.iaload, 1) := by decide +kernel
theorem dX7_step_299 : decode prog_9_method_26_code 299 = .ok (.iload 4, 2) := by decide +kernel
theorem dX7_step_301 : decode prog_9_method_26_code 301 = .ok (.iadd, 1) := by decide +kernel
theorem dX7_step_302 : decode prog_9_method_26_code 302 = .ok (.iastore, 1) := by decide +kernel
theorem dX7_step_303 : decode prog_9_method_26_code 303 = .ok (.goto 59, 3) := by decide +kernel
theorem dX7_step_306 : decode prog_9_method_26_code 306 = .ok (.aload_n 0, 1) := by decide +kernel
theorem dX7_step_307 : decode prog_9_method_26_code 307 = .ok (.getfield 22, 3) := by decide +kernel
theorem dX7_step_310 : decode prog_9_method_26_code 310 = .ok (.iload_n 1, 1) := by decide +kernel
theorem dX7_step_311 : decode prog_9_method_26_code 311 = .ok (.dup2, 1) := by decide +kernel
theorem dX7_step_312 : decode prog_9_method_26_code 312 = .ok (.iaload, 1) := by decide +kernel
theorem dX7_step_313 : decode prog_9_method_26_code 313 = .ok (.iload 4, 2) := by decide +kernel
theorem dX7_step_315 : decode prog_9_method_26_code 315 = .ok (.imul, 1) := by decide +kernel
theorem dX7_step_316 : decode prog_9_method_26_code 316 = .ok (.iastore, 1) := by decide +kernel
theorem dX7_step_317 : decode prog_9_method_26_code 317 = .ok (.goto 45, 3) := by decide +kernel
theorem dX7_step_320 : decode prog_9_method_26_code 320 = .ok (.aload_n 0, 1) := by decide +kernel
theorem dX7_step_321 : decode prog_9_method_26_code 321 = .ok (.iload_n 1, 1) := by decide +kernel
theorem dX7_step_322 : decode prog_9_method_26_code 322 = .ok (.invokevirtual 200, 3) := by decide +kernel
theorem dX7_step_325 : decode prog_9_method_26_code 325 = .ok (.goto 37, 3) := by decide +kernel
theorem dX7_step_328 : decode prog_9_method_26_code 328 = .ok (.aload_n 0, 1) := by decide +kernel
theorem dX7_step_329 : decode prog_9_method_26_code 329 = .ok (.getfield 135, 3) := by decide +kernel
theorem dX7_step_332 : decode prog_9_method_26_code 332 = .ok (.bipush 40, 2) := by decide +kernel
theorem dX7_step_334 : decode prog_9_method_26_code 334 = .ok (.if_icmp .ge 18, 3) := by decide +kernel
theorem dX7_step_337 : decode prog_9_method_26_code 337 = .ok (.aload_n 0, 1) := by decide +kernel
theorem dX7_step_338 : decode prog_9_method_26_code 338 = .ok (.getfield 98, 3) := by decide +kernel
theorem dX7_step_341 : decode prog_9_method_26_code 341 = .ok (.aload_n 0, 1) := by decide +kernel
theorem dX7_step_342 : decode prog_9_method_26_code 342 = .ok (.getfield 135, 3) := by decide +kernel
theorem dX7_step_345 : decode prog_9_method_26_code 345 = .ok (.aload_n 0, 1) := by decide +kernel
theorem dX7_step_346 : decode prog_9_method_26_code 346 = .ok (.getfield 22, 3) := by decide +kernel
theorem dX7_step_349 : decode prog_9_method_26_code 349 = .ok (.iload_n 1, 1) := by decide +kernel
theorem dX7_step_350 : decode prog_9_method_26_code 350 = .ok (.iaload, 1) := by decide +kernel
theorem dX7_step_351 : decode prog_9_method_26_code 351 = .ok (.iastore, 1) := by decide +kernel
theorem dX7_step_352 : decode prog_9_method_26_code 352 = .ok (.aload_n 0, 1) := by decide +kernel
theorem dX7_step_353 : decode prog_9_method_26_code 353 = .ok (.dup, 1) := by decide +kernel
theorem dX7_step_354 : decode prog_9_method_26_code 354 = .ok (.getfield 135, 3) := by decide +kernel
theorem dX7_step_357 : decode prog_9_method_26_code 357 = .ok (.iconst 1, 1) := by decide +kernel
theorem dX7_step_358 : decode prog_9_method_26_code 358 = .ok (.iadd, 1) := by decide +kernel
theorem dX7_step_359 : decode prog_9_method_26_code 359 = .ok (.putfield 135, 3) := by decide +kernel
theorem dX7_step_362 : decode prog_9_method_26_code 362 = .ok (.aload_n 0, 1) := by decide +kernel
theorem dX7_step_363 : decode prog_9_method_26_code 363 = .ok (.getfield 25, 3) := by decide +kernel
theorem dX7_step_366 : decode prog_9_method_26_code 366 = .ok (.iload_n 1, 1) := by decide +kernel
theorem dX7_step_367 : decode prog_9_method_26_code 367 = .ok (.dup2, 1) := by decide +kernel
theorem dX7_step_368 : decode prog_9_method_26_code 368 = .ok (.iaload, 1) := by decide +kernel
theorem dX7_step_369 : decode prog_9_method_26_code 369 = .ok (.iconst 1, 1) := by decide +kernel
theorem dX7_step_370 : decode prog_9_method_26_code 370 = .ok (.iadd, 1) := by decide +kernel
theorem dX7_step_371 : decode prog_9_method_26_code 371 = .ok (.iastore, 1) := by decide +kernel
theorem dX7_step_372 : decode prog_9_method_26_code 372 = .ok (.return_, 1) := by decide +kernel
theorem dX7_isReady_0 : decode prog_9_method_27_code 0 = .ok (.aload_n 0, 1) := by decide +kernel
theorem dX7_isReady_1 : decode prog_9_method_27_code 1 = .ok (.getfield 37, 3) := by decide +kernel
theorem dX7_isReady_4 : decode prog_9_method_27_code 4 = .ok (.iload_n 1, 1) := by decide +kernel
theorem dX7_isReady_5 : decode prog_9_method_27_code 5 = .ok (.iaload, 1) := by decide +kernel
theorem dX7_isReady_6 : decode prog_9_method_27_code 6 = .ok (.lookupswitch 51 #[(2, 26), (3, 32)], 26) := by decide +kernel
theorem dX7_isReady_32 : decode prog_9_method_27_code 32 = .ok (.aload_n 0, 1) := by decide +kernel
theorem dX7_isReady_33 : decode prog_9_method_27_code 33 = .ok (.iload_n 1, 1) := by decide +kernel
theorem dX7_isReady_34 : decode prog_9_method_27_code 34 = .ok (.invokevirtual 159, 3) := by decide +kernel
theorem dX7_isReady_37 : decode prog_9_method_27_code 37 = .ok (.ireturn, 1) := by decide +kernel
theorem dX7_isReady_38 : decode prog_9_method_27_code 38 = .ok (.aload_n 0, 1) := by decide +kernel
theorem dX7_isReady_39 : decode prog_9_method_27_code 39 = .ok (.getfield 71, 3) := by decide +kernel
theorem dX7_isReady_42 : decode prog_9_method_27_code 42 = .ok (.aload_n 0, 1) := by decide +kernel
theorem dX7_isReady_43 : decode prog_9_method_27_code 43 = .ok (.iload_n 1, 1) := by decide +kernel
theorem dX7_isReady_44 : decode prog_9_method_27_code 44 = .ok (.invokevirtual 166, 3) := by decide +kernel
theorem dX7_isReady_47 : decode prog_9_method_27_code 47 = .ok (.iaload, 1) := by decide +kernel
theorem dX7_isReady_48 : decode prog_9_method_27_code 48 = .ok (.ifCond .ne 7, 3) := by decide +kernel
theorem dX7_isReady_51 : decode prog_9_method_27_code 51 = .ok (.iconst 1, 1) := by decide +kernel
theorem dX7_isReady_52 : decode prog_9_method_27_code 52 = .ok (.goto 4, 3) := by decide +kernel
theorem dX7_isReady_55 : decode prog_9_method_27_code 55 = .ok (.iconst 0, 1) := by decide +kernel
theorem dX7_isReady_56 : decode prog_9_method_27_code 56 = .ok (.ireturn, 1) := by decide +kernel
theorem dX7_isReady_57 : decode prog_9_method_27_code 57 = .ok (.aload_n 0, 1) := by decide +kernel
theorem dX7_isReady_58 : decode prog_9_method_27_code 58 = .ok (.getfield 56, 3) := by decide +kernel
theorem dX7_isReady_61 : decode prog_9_method_27_code 61 = .ok (.aload_n 0, 1) := by decide +kernel
theorem dX7_isReady_62 : decode prog_9_method_27_code 62 = .ok (.getfield 40, 3) := by decide +kernel
theorem dX7_isReady_65 : decode prog_9_method_27_code 65 = .ok (.iload_n 1, 1) := by decide +kernel
theorem dX7_isReady_66 : decode prog_9_method_27_code 66 = .ok (.iaload, 1) := by decide +kernel
theorem dX7_isReady_67 : decode prog_9_method_27_code 67 = .ok (.baload, 1) := by decide +kernel
theorem dX7_isReady_68 : decode prog_9_method_27_code 68 = .ok (.ireturn, 1) := by decide +kernel
theorem dX7_ready_0 : decode prog_9_method_28_code 0 = .ok (.aload_n 0, 1) := by decide +kernel
theorem dX7_ready_1 : decode prog_9_method_28_code 1 = .ok (.getfield 179, 3) := by decide +kernel
theorem dX7_ready_4 : decode prog_9_method_28_code 4 = .ok (.ifCond .lt 40, 3) := by decide +kernel
theorem dX7_ready_7 : decode prog_9_method_28_code 7 = .ok (.aload_n 0, 1) := by decide +kernel
theorem dX7_ready_8 : decode prog_9_method_28_code 8 = .ok (.getfield 141, 3) := by decide +kernel
theorem dX7_ready_11 : decode prog_9_method_28_code 11 = .ok (.iconst 1, 1) := by decide +kernel
theorem dX7_ready_12 : decode prog_9_method_28_code 12 = .ok (.if_icmp .ne 32, 3) := by decide +kernel
theorem dX7_ready_15 : decode prog_9_method_28_code 15 = .ok (.aload_n 0, 1) := by decide +kernel
theorem dX7_ready_16 : decode prog_9_method_28_code 16 = .ok (.iload_n 1, 1) := by decide +kernel
theorem dX7_ready_17 : decode prog_9_method_28_code 17 = .ok (.iload_n 2, 1) := by decide +kernel
theorem dX7_ready_18 : decode prog_9_method_28_code 18 = .ok (.invokevirtual 152, 3) := by decide +kernel
theorem dX7_ready_21 : decode prog_9_method_28_code 21 = .ok (.aload_n 0, 1) := by decide +kernel
theorem dX7_ready_22 : decode prog_9_method_28_code 22 = .ok (.getfield 89, 3) := by decide +kernel
theorem dX7_ready_25 : decode prog_9_method_28_code 25 = .ok (.iload_n 1, 1) := by decide +kernel
theorem dX7_ready_26 : decode prog_9_method_28_code 26 = .ok (.aload_n 0, 1) := by decide +kernel
theorem dX7_ready_27 : decode prog_9_method_28_code 27 = .ok (.getfield 179, 3) := by decide +kernel
theorem dX7_ready_30 : decode prog_9_method_28_code 30 = .ok (.iastore, 1) := by decide +kernel
theorem dX7_ready_31 : decode prog_9_method_28_code 31 = .ok (.aload_n 0, 1) := by decide +kernel
theorem dX7_ready_32 : decode prog_9_method_28_code 32 = .ok (.getfield 19, 3) := by decide +kernel
theorem dX7_ready_35 : decode prog_9_method_28_code 35 = .ok (.aload_n 0, 1) := by decide +kernel
theorem dX7_ready_36 : decode prog_9_method_28_code 36 = .ok (.getfield 179, 3) := by decide +kernel
theorem dX7_ready_39 : decode prog_9_method_28_code 39 = .ok (.iconst 1, 1) := by decide +kernel
theorem dX7_ready_40 : decode prog_9_method_28_code 40 = .ok (.iastore, 1) := by decide +kernel
theorem dX7_ready_41 : decode prog_9_method_28_code 41 = .ok (.goto 19, 3) := by decide +kernel
theorem dX7_ready_44 : decode prog_9_method_28_code 44 = .ok (.aload_n 0, 1) := by decide +kernel
theorem dX7_ready_45 : decode prog_9_method_28_code 45 = .ok (.getfield 179, 3) := by decide +kernel
theorem dX7_ready_48 : decode prog_9_method_28_code 48 = .ok (.ifCond .lt 12, 3) := by decide +kernel
theorem dX7_ready_51 : decode prog_9_method_28_code 51 = .ok (.aload_n 0, 1) := by decide +kernel
theorem dX7_ready_52 : decode prog_9_method_28_code 52 = .ok (.iload_n 1, 1) := by decide +kernel
theorem dX7_ready_53 : decode prog_9_method_28_code 53 = .ok (.aload_n 0, 1) := by decide +kernel
theorem dX7_ready_54 : decode prog_9_method_28_code 54 = .ok (.getfield 179, 3) := by decide +kernel
theorem dX7_ready_57 : decode prog_9_method_28_code 57 = .ok (.invokevirtual 152, 3) := by decide +kernel
theorem dX7_ready_60 : decode prog_9_method_28_code 60 = .ok (.iconst 0, 1) := by decide +kernel
theorem dX7_ready_61 : decode prog_9_method_28_code 61 = .ok (.istore_n 3, 1) := by decide +kernel
theorem dX7_ready_62 : decode prog_9_method_28_code 62 = .ok (.iload_n 3, 1) := by decide +kernel
theorem dX7_ready_63 : decode prog_9_method_28_code 63 = .ok (.aload_n 0, 1) := by decide +kernel
theorem dX7_ready_64 : decode prog_9_method_28_code 64 = .ok (.getfield 119, 3) := by decide +kernel
theorem dX7_ready_67 : decode prog_9_method_28_code 67 = .ok (.if_icmp .ge 55, 3) := by decide +kernel
theorem dX7_ready_70 : decode prog_9_method_28_code 70 = .ok (.aload_n 0, 1) := by decide +kernel
theorem dX7_ready_71 : decode prog_9_method_28_code 71 = .ok (.getfield 19, 3) := by decide +kernel
theorem dX7_ready_74 : decode prog_9_method_28_code 74 = .ok (.iload_n 3, 1) := by decide +kernel
theorem dX7_ready_75 : decode prog_9_method_28_code 75 = .ok (.iaload, 1) := by decide +kernel
theorem dX7_ready_76 : decode prog_9_method_28_code 76 = .ok (.iconst 2, 1) := by decide +kernel
theorem dX7_ready_77 : decode prog_9_method_28_code 77 = .ok (.if_icmp .ne 15, 3) := by decide +kernel
theorem dX7_ready_80 : decode prog_9_method_28_code 80 = .ok (.aload_n 0, 1) := by decide +kernel
theorem dX7_ready_81 : decode prog_9_method_28_code 81 = .ok (.iload_n 3, 1) := by decide +kernel
theorem dX7_ready_82 : decode prog_9_method_28_code 82 = .ok (.invokevirtual 203, 3) := by decide +kernel
theorem dX7_ready_85 : decode prog_9_method_28_code 85 = .ok (.ifCond .eq 7, 3) := by decide +kernel
theorem dX7_ready_88 : decode prog_9_method_28_code 88 = .ok (.iconst 1, 1) := by decide +kernel
theorem dX7_ready_89 : decode prog_9_method_28_code 89 = .ok (.goto 4, 3) := by decide +kernel
theorem dX7_ready_92 : decode prog_9_method_28_code 92 = .ok (.iconst 0, 1) := by decide +kernel
theorem dX7_ready_93 : decode prog_9_method_28_code 93 = .ok (.istore 4, 2) := by decide +kernel
theorem dX7_ready_95 : decode prog_9_method_28_code 95 = .ok (.iload 4, 2) := by decide +kernel
theorem dX7_ready_97 : decode prog_9_method_28_code 97 = .ok (.ifCond .ne 6, 3) := by decide +kernel
theorem dX7_ready_100 : decode prog_9_method_28_code 100 = .ok (.goto 16, 3) := by decide +kernel
theorem dX7_ready_103 : decode prog_9_method_28_code 103 = .ok (.aload_n 0, 1) := by decide +kernel
theorem dX7_ready_104 : decode prog_9_method_28_code 104 = .ok (.getfield 37, 3) := by decide +kernel
theorem dX7_ready_107 : decode prog_9_method_28_code 107 = .ok (.iload_n 3, 1) := by decide +kernel
theorem dX7_ready_108 : decode prog_9_method_28_code 108 = .ok (.iconst 0, 1) := by decide +kernel
theorem dX7_ready_109 : decode prog_9_method_28_code 109 = .ok (.iastore, 1) := by decide +kernel
theorem dX7_ready_110 : decode prog_9_method_28_code 110 = .ok (.aload_n 0, 1) := by decide +kernel
theorem dX7_ready_111 : decode prog_9_method_28_code 111 = .ok (.iload_n 1, 1) := by decide +kernel
theorem dX7_ready_112 : decode prog_9_method_28_code 112 = .ok (.iload_n 3, 1) := by decide +kernel
theorem dX7_ready_113 : decode prog_9_method_28_code 113 = .ok (.invokevirtual 152, 3) := by decide +kernel
theorem dX7_ready_116 : decode prog_9_method_28_code 116 = .ok (.iinc 3 1, 3) := by decide +kernel
theorem dX7_ready_119 : decode prog_9_method_28_code 119 = .ok (.goto (-57), 3) := by decide +kernel
theorem dX7_ready_122 : decode prog_9_method_28_code 122 = .ok (.return_, 1) := by decide +kernel
theorem dX7_take_0 : decode prog_9_method_29_code 0 = .ok (.aload_n 0, 1) := by decide +kernel
theorem dX7_take_1 : decode prog_9_method_29_code 1 = .ok (.getfield 92, 3) := by decide +kernel
theorem dX7_take_4 : decode prog_9_method_29_code 4 = .ok (.iload_n 1, 1) := by decide +kernel
theorem dX7_take_5 : decode prog_9_method_29_code 5 = .ok (.iaload, 1) := by decide +kernel
theorem dX7_take_6 : decode prog_9_method_29_code 6 = .ok (.ifCond .le 30, 3) := by decide +kernel
theorem dX7_take_9 : decode prog_9_method_29_code 9 = .ok (.aload_n 0, 1) := by decide +kernel
theorem dX7_take_10 : decode prog_9_method_29_code 10 = .ok (.getfield 92, 3) := by decide +kernel
theorem dX7_take_13 : decode prog_9_method_29_code 13 = .ok (.iload_n 1, 1) := by decide +kernel
theorem dX7_take_14 : decode prog_9_method_29_code 14 = .ok (.dup2, 1) := by decide +kernel
theorem dX7_take_15 : decode prog_9_method_29_code 15 = .ok (.iaload, 1) := by decide +kernel
theorem dX7_take_16 : decode prog_9_method_29_code 16 = .ok (.iconst 1, 1) := by decide +kernel
theorem dX7_take_17 : decode prog_9_method_29_code 17 = .ok (.isub, 1) := by decide +kernel
theorem dX7_take_18 : decode prog_9_method_29_code 18 = .ok (.iastore, 1) := by decide +kernel
theorem dX7_take_19 : decode prog_9_method_29_code 19 = .ok (.aload_n 0, 1) := by decide +kernel
theorem dX7_take_20 : decode prog_9_method_29_code 20 = .ok (.getfield 95, 3) := by decide +kernel
theorem dX7_take_23 : decode prog_9_method_29_code 23 = .ok (.bipush 48, 2) := by decide +kernel
theorem dX7_take_25 : decode prog_9_method_29_code 25 = .ok (.iload_n 1, 1) := by decide +kernel
theorem dX7_take_26 : decode prog_9_method_29_code 26 = .ok (.imul, 1) := by decide +kernel
theorem dX7_take_27 : decode prog_9_method_29_code 27 = .ok (.aload_n 0, 1) := by decide +kernel
theorem dX7_take_28 : decode prog_9_method_29_code 28 = .ok (.getfield 92, 3) := by decide +kernel
theorem dX7_take_31 : decode prog_9_method_29_code 31 = .ok (.iload_n 1, 1) := by decide +kernel
theorem dX7_take_32 : decode prog_9_method_29_code 32 = .ok (.iaload, 1) := by decide +kernel
theorem dX7_take_33 : decode prog_9_method_29_code 33 = .ok (.iadd, 1) := by decide +kernel
theorem dX7_take_34 : decode prog_9_method_29_code 34 = .ok (.iaload, 1) := by decide +kernel
theorem dX7_take_35 : decode prog_9_method_29_code 35 = .ok (.ireturn, 1) := by decide +kernel
theorem dX7_take_36 : decode prog_9_method_29_code 36 = .ok (.iconst 1, 1) := by decide +kernel
theorem dX7_take_37 : decode prog_9_method_29_code 37 = .ok (.istore_n 2, 1) := by decide +kernel
theorem dX7_take_38 : decode prog_9_method_29_code 38 = .ok (.iload_n 2, 1) := by decide +kernel
theorem dX7_take_39 : decode prog_9_method_29_code 39 = .ok (.aload_n 0, 1) := by decide +kernel
theorem dX7_take_40 : decode prog_9_method_29_code 40 = .ok (.getfield 138, 3) := by decide +kernel
theorem dX7_take_43 : decode prog_9_method_29_code 43 = .ok (.if_icmp .ge 110, 3) := by decide +kernel
theorem dX7_take_46 : decode prog_9_method_29_code 46 = .ok (.iload_n 1, 1) := by decide +kernel
theorem dX7_take_47 : decode prog_9_method_29_code 47 = .ok (.iload_n 2, 1) := by decide +kernel
theorem dX7_take_48 : decode prog_9_method_29_code 48 = .ok (.iadd, 1) := by decide +kernel
theorem dX7_take_49 : decode prog_9_method_29_code 49 = .ok (.aload_n 0, 1) := by decide +kernel
theorem dX7_take_50 : decode prog_9_method_29_code 50 = .ok (.getfield 138, 3) := by decide +kernel
theorem dX7_take_53 : decode prog_9_method_29_code 53 = .ok (.irem, 1) := by decide +kernel
theorem dX7_take_54 : decode prog_9_method_29_code 54 = .ok (.istore_n 3, 1) := by decide +kernel
theorem dX7_take_55 : decode prog_9_method_29_code 55 = .ok (.aload_n 0, 1) := by decide +kernel
theorem dX7_take_56 : decode prog_9_method_29_code 56 = .ok (.getfield 92, 3) := by decide +kernel
theorem dX7_take_59 : decode prog_9_method_29_code 59 = .ok (.iload_n 3, 1) := by decide +kernel
theorem dX7_take_60 : decode prog_9_method_29_code 60 = .ok (.iaload, 1) := by decide +kernel
theorem dX7_take_61 : decode prog_9_method_29_code 61 = .ok (.ifCond .ne 6, 3) := by decide +kernel
theorem dX7_take_64 : decode prog_9_method_29_code 64 = .ok (.goto 83, 3) := by decide +kernel
theorem dX7_take_67 : decode prog_9_method_29_code 67 = .ok (.aload_n 0, 1) := by decide +kernel
theorem dX7_take_68 : decode prog_9_method_29_code 68 = .ok (.getfield 95, 3) := by decide +kernel
theorem dX7_take_71 : decode prog_9_method_29_code 71 = .ok (.bipush 48, 2) := by decide +kernel
theorem dX7_take_73 : decode prog_9_method_29_code 73 = .ok (.iload_n 3, 1) := by decide +kernel
theorem dX7_take_74 : decode prog_9_method_29_code 74 = .ok (.imul, 1) := by decide +kernel
theorem dX7_take_75 : decode prog_9_method_29_code 75 = .ok (.iaload, 1) := by decide +kernel
theorem dX7_take_76 : decode prog_9_method_29_code 76 = .ok (.istore 4, 2) := by decide +kernel
theorem dX7_take_78 : decode prog_9_method_29_code 78 = .ok (.aload_n 0, 1) := by decide +kernel
theorem dX7_take_79 : decode prog_9_method_29_code 79 = .ok (.getfield 92, 3) := by decide +kernel
theorem dX7_take_82 : decode prog_9_method_29_code 82 = .ok (.iload_n 3, 1) := by decide +kernel
theorem dX7_take_83 : decode prog_9_method_29_code 83 = .ok (.dup2, 1) := by decide +kernel
theorem dX7_take_84 : decode prog_9_method_29_code 84 = .ok (.iaload, 1) := by decide +kernel
theorem dX7_take_85 : decode prog_9_method_29_code 85 = .ok (.iconst 1, 1) := by decide +kernel
theorem dX7_take_86 : decode prog_9_method_29_code 86 = .ok (.isub, 1) := by decide +kernel
theorem dX7_take_87 : decode prog_9_method_29_code 87 = .ok (.iastore, 1) := by decide +kernel
theorem dX7_take_88 : decode prog_9_method_29_code 88 = .ok (.iconst 0, 1) := by decide +kernel
theorem dX7_take_89 : decode prog_9_method_29_code 89 = .ok (.istore 5, 2) := by decide +kernel
theorem dX7_take_91 : decode prog_9_method_29_code 91 = .ok (.iload 5, 2) := by decide +kernel
theorem dX7_take_93 : decode prog_9_method_29_code 93 = .ok (.aload_n 0, 1) := by decide +kernel
theorem dX7_take_94 : decode prog_9_method_29_code 94 = .ok (.getfield 92, 3) := by decide +kernel
theorem dX7_take_97 : decode prog_9_method_29_code 97 = .ok (.iload_n 3, 1) := by decide +kernel
theorem dX7_take_98 : decode prog_9_method_29_code 98 = .ok (.iaload, 1) := by decide +kernel
theorem dX7_take_99 : decode prog_9_method_29_code 99 = .ok (.if_icmp .ge 35, 3) := by decide +kernel
theorem dX7_take_102 : decode prog_9_method_29_code 102 = .ok (.aload_n 0, 1) := by decide +kernel
theorem dX7_take_103 : decode prog_9_method_29_code 103 = .ok (.getfield 95, 3) := by decide +kernel
theorem dX7_take_106 : decode prog_9_method_29_code 106 = .ok (.bipush 48, 2) := by decide +kernel
theorem dX7_take_108 : decode prog_9_method_29_code 108 = .ok (.iload_n 3, 1) := by decide +kernel
theorem dX7_take_109 : decode prog_9_method_29_code 109 = .ok (.imul, 1) := by decide +kernel
theorem dX7_take_110 : decode prog_9_method_29_code 110 = .ok (.iload 5, 2) := by decide +kernel
theorem dX7_take_112 : decode prog_9_method_29_code 112 = .ok (.iadd, 1) := by decide +kernel
theorem dX7_take_113 : decode prog_9_method_29_code 113 = .ok (.aload_n 0, 1) := by decide +kernel
theorem dX7_take_114 : decode prog_9_method_29_code 114 = .ok (.getfield 95, 3) := by decide +kernel
theorem dX7_take_117 : decode prog_9_method_29_code 117 = .ok (.bipush 48, 2) := by decide +kernel
theorem dX7_take_119 : decode prog_9_method_29_code 119 = .ok (.iload_n 3, 1) := by decide +kernel
theorem dX7_take_120 : decode prog_9_method_29_code 120 = .ok (.imul, 1) := by decide +kernel
theorem dX7_take_121 : decode prog_9_method_29_code 121 = .ok (.iload 5, 2) := by decide +kernel
theorem dX7_take_123 : decode prog_9_method_29_code 123 = .ok (.iadd, 1) := by decide +kernel
theorem dX7_take_124 : decode prog_9_method_29_code 124 = .ok (.iconst 1, 1) := by decide +kernel
theorem dX7_take_125 : decode prog_9_method_29_code 125 = .ok (.iadd, 1) := by decide +kernel
theorem dX7_take_126 : decode prog_9_method_29_code 126 = .ok (.iaload, 1) := by decide +kernel
theorem dX7_take_127 : decode prog_9_method_29_code 127 = .ok (.iastore, 1) := by decide +kernel
theorem dX7_take_128 : decode prog_9_method_29_code 128 = .ok (.iinc 5 1, 3) := by decide +kernel
theorem dX7_take_131 : decode prog_9_method_29_code 131 = .ok (.goto (-40), 3) := by decide +kernel
theorem dX7_take_134 : decode prog_9_method_29_code 134 = .ok (.aload_n 0, 1) := by decide +kernel
theorem dX7_take_135 : decode prog_9_method_29_code 135 = .ok (.dup, 1) := by decide +kernel
theorem dX7_take_136 : decode prog_9_method_29_code 136 = .ok (.getfield 132, 3) := by decide +kernel
theorem dX7_take_139 : decode prog_9_method_29_code 139 = .ok (.iconst 1, 1) := by decide +kernel
theorem dX7_take_140 : decode prog_9_method_29_code 140 = .ok (.iadd, 1) := by decide +kernel
theorem dX7_take_141 : decode prog_9_method_29_code 141 = .ok (.putfield 132, 3) := by decide +kernel
theorem dX7_take_144 : decode prog_9_method_29_code 144 = .ok (.iload 4, 2) := by decide +kernel
theorem dX7_take_146 : decode prog_9_method_29_code 146 = .ok (.ireturn, 1) := by decide +kernel
theorem dX7_take_147 : decode prog_9_method_29_code 147 = .ok (.iinc 2 1, 3) := by decide +kernel
theorem dX7_take_150 : decode prog_9_method_29_code 150 = .ok (.goto (-112), 3) := by decide +kernel
theorem dX7_take_153 : decode prog_9_method_29_code 153 = .ok (.iconst (-1), 1) := by decide +kernel
theorem dX7_take_154 : decode prog_9_method_29_code 154 = .ok (.ireturn, 1) := by decide +kernel
theorem dX7_work_0 : decode prog_9_method_30_code 0 = .ok (.aload_n 0, 1) := by decide +kernel
theorem dX7_work_1 : decode prog_9_method_30_code 1 = .ok (.getfield 89, 3) := by decide +kernel
theorem dX7_work_4 : decode prog_9_method_30_code 4 = .ok (.iload_n 1, 1) := by decide +kernel
theorem dX7_work_5 : decode prog_9_method_30_code 5 = .ok (.iaload, 1) := by decide +kernel
theorem dX7_work_6 : decode prog_9_method_30_code 6 = .ok (.istore_n 2, 1) := by decide +kernel
theorem dX7_work_7 : decode prog_9_method_30_code 7 = .ok (.iload_n 2, 1) := by decide +kernel
theorem dX7_work_8 : decode prog_9_method_30_code 8 = .ok (.ifCond .ge 28, 3) := by decide +kernel
theorem dX7_work_11 : decode prog_9_method_30_code 11 = .ok (.aload_n 0, 1) := by decide +kernel
theorem dX7_work_12 : decode prog_9_method_30_code 12 = .ok (.iload_n 1, 1) := by decide +kernel
theorem dX7_work_13 : decode prog_9_method_30_code 13 = .ok (.invokevirtual 206, 3) := by decide +kernel
theorem dX7_work_16 : decode prog_9_method_30_code 16 = .ok (.istore_n 2, 1) := by decide +kernel
theorem dX7_work_17 : decode prog_9_method_30_code 17 = .ok (.aload_n 0, 1) := by decide +kernel
theorem dX7_work_18 : decode prog_9_method_30_code 18 = .ok (.getfield 89, 3) := by decide +kernel
theorem dX7_work_21 : decode prog_9_method_30_code 21 = .ok (.iload_n 1, 1) := by decide +kernel
theorem dX7_work_22 : decode prog_9_method_30_code 22 = .ok (.iload_n 2, 1) := by decide +kernel
theorem dX7_work_23 : decode prog_9_method_30_code 23 = .ok (.iastore, 1) := by decide +kernel
theorem dX7_work_24 : decode prog_9_method_30_code 24 = .ok (.iload_n 2, 1) := by decide +kernel
theorem dX7_work_25 : decode prog_9_method_30_code 25 = .ok (.ifCond .lt 10, 3) := by decide +kernel
theorem dX7_work_28 : decode prog_9_method_30_code 28 = .ok (.aload_n 0, 1) := by decide +kernel
theorem dX7_work_29 : decode prog_9_method_30_code 29 = .ok (.getfield 19, 3) := by decide +kernel
theorem dX7_work_32 : decode prog_9_method_30_code 32 = .ok (.iload_n 2, 1) := by decide +kernel
theorem dX7_work_33 : decode prog_9_method_30_code 33 = .ok (.iconst 1, 1) := by decide +kernel
theorem dX7_work_34 : decode prog_9_method_30_code 34 = .ok (.iastore, 1) := by decide +kernel
theorem dX7_work_35 : decode prog_9_method_30_code 35 = .ok (.return_, 1) := by decide +kernel
theorem dX7_work_36 : decode prog_9_method_30_code 36 = .ok (.aload_n 0, 1) := by decide +kernel
theorem dX7_work_37 : decode prog_9_method_30_code 37 = .ok (.iload_n 2, 1) := by decide +kernel
theorem dX7_work_38 : decode prog_9_method_30_code 38 = .ok (.invokevirtual 209, 3) := by decide +kernel
theorem dX7_work_41 : decode prog_9_method_30_code 41 = .ok (.aload_n 0, 1) := by decide +kernel
theorem dX7_work_42 : decode prog_9_method_30_code 42 = .ok (.getfield 19, 3) := by decide +kernel
theorem dX7_work_45 : decode prog_9_method_30_code 45 = .ok (.iload_n 2, 1) := by decide +kernel
theorem dX7_work_46 : decode prog_9_method_30_code 46 = .ok (.iaload, 1) := by decide +kernel
theorem dX7_work_47 : decode prog_9_method_30_code 47 = .ok (.iconst 1, 1) := by decide +kernel
theorem dX7_work_48 : decode prog_9_method_30_code 48 = .ok (.if_icmp .eq 10, 3) := by decide +kernel
theorem dX7_work_51 : decode prog_9_method_30_code 51 = .ok (.aload_n 0, 1) := by decide +kernel
theorem dX7_work_52 : decode prog_9_method_30_code 52 = .ok (.getfield 89, 3) := by decide +kernel
theorem dX7_work_55 : decode prog_9_method_30_code 55 = .ok (.iload_n 1, 1) := by decide +kernel
theorem dX7_work_56 : decode prog_9_method_30_code 56 = .ok (.iconst (-1), 1) := by decide +kernel
theorem dX7_work_57 : decode prog_9_method_30_code 57 = .ok (.iastore, 1) := by decide +kernel
theorem dX7_work_58 : decode prog_9_method_30_code 58 = .ok (.aload_n 0, 1) := by decide +kernel
theorem dX7_work_59 : decode prog_9_method_30_code 59 = .ok (.iload_n 1, 1) := by decide +kernel
theorem dX7_work_60 : decode prog_9_method_30_code 60 = .ok (.iload_n 2, 1) := by decide +kernel
theorem dX7_work_61 : decode prog_9_method_30_code 61 = .ok (.invokevirtual 212, 3) := by decide +kernel
theorem dX7_work_64 : decode prog_9_method_30_code 64 = .ok (.return_, 1) := by decide +kernel
theorem dX7_isOver_0 : decode prog_9_method_31_code 0 = .ok (.aload_n 0, 1) := by decide +kernel
theorem dX7_isOver_1 : decode prog_9_method_31_code 1 = .ok (.getfield 122, 3) := by decide +kernel
theorem dX7_isOver_4 : decode prog_9_method_31_code 4 = .ok (.ifCond .eq 18, 3) := by decide +kernel
theorem dX7_isOver_7 : decode prog_9_method_31_code 7 = .ok (.aload_n 0, 1) := by decide +kernel
theorem dX7_isOver_8 : decode prog_9_method_31_code 8 = .ok (.getfield 71, 3) := by decide +kernel
theorem dX7_isOver_11 : decode prog_9_method_31_code 11 = .ok (.sipush 144, 3) := by decide +kernel
theorem dX7_isOver_14 : decode prog_9_method_31_code 14 = .ok (.iaload, 1) := by decide +kernel
theorem dX7_isOver_15 : decode prog_9_method_31_code 15 = .ok (.ifCond .ne 7, 3) := by decide +kernel
theorem dX7_isOver_18 : decode prog_9_method_31_code 18 = .ok (.iconst 1, 1) := by decide +kernel
theorem dX7_isOver_19 : decode prog_9_method_31_code 19 = .ok (.goto 4, 3) := by decide +kernel
theorem dX7_isOver_22 : decode prog_9_method_31_code 22 = .ok (.iconst 0, 1) := by decide +kernel
theorem dX7_isOver_23 : decode prog_9_method_31_code 23 = .ok (.ireturn, 1) := by decide +kernel
theorem dX7_isStuck_0 : decode prog_9_method_32_code 0 = .ok (.iconst 0, 1) := by decide +kernel
theorem dX7_isStuck_1 : decode prog_9_method_32_code 1 = .ok (.istore_n 1, 1) := by decide +kernel
theorem dX7_isStuck_2 : decode prog_9_method_32_code 2 = .ok (.iload_n 1, 1) := by decide +kernel
theorem dX7_isStuck_3 : decode prog_9_method_32_code 3 = .ok (.aload_n 0, 1) := by decide +kernel
theorem dX7_isStuck_4 : decode prog_9_method_32_code 4 = .ok (.getfield 138, 3) := by decide +kernel
theorem dX7_isStuck_7 : decode prog_9_method_32_code 7 = .ok (.if_icmp .ge 29, 3) := by decide +kernel
theorem dX7_isStuck_10 : decode prog_9_method_32_code 10 = .ok (.aload_n 0, 1) := by decide +kernel
theorem dX7_isStuck_11 : decode prog_9_method_32_code 11 = .ok (.getfield 89, 3) := by decide +kernel
theorem dX7_isStuck_14 : decode prog_9_method_32_code 14 = .ok (.iload_n 1, 1) := by decide +kernel
theorem dX7_isStuck_15 : decode prog_9_method_32_code 15 = .ok (.iaload, 1) := by decide +kernel
theorem dX7_isStuck_16 : decode prog_9_method_32_code 16 = .ok (.ifCond .ge 12, 3) := by decide +kernel
theorem dX7_isStuck_19 : decode prog_9_method_32_code 19 = .ok (.aload_n 0, 1) := by decide +kernel
theorem dX7_isStuck_20 : decode prog_9_method_32_code 20 = .ok (.getfield 92, 3) := by decide +kernel
theorem dX7_isStuck_23 : decode prog_9_method_32_code 23 = .ok (.iload_n 1, 1) := by decide +kernel
theorem dX7_isStuck_24 : decode prog_9_method_32_code 24 = .ok (.iaload, 1) := by decide +kernel
theorem dX7_isStuck_25 : decode prog_9_method_32_code 25 = .ok (.ifCond .le 5, 3) := by decide +kernel
theorem dX7_isStuck_28 : decode prog_9_method_32_code 28 = .ok (.iconst 0, 1) := by decide +kernel
theorem dX7_isStuck_29 : decode prog_9_method_32_code 29 = .ok (.ireturn, 1) := by decide +kernel
theorem dX7_isStuck_30 : decode prog_9_method_32_code 30 = .ok (.iinc 1 1, 3) := by decide +kernel
theorem dX7_isStuck_33 : decode prog_9_method_32_code 33 = .ok (.goto (-31), 3) := by decide +kernel
theorem dX7_isStuck_36 : decode prog_9_method_32_code 36 = .ok (.aload_n 0, 1) := by decide +kernel
theorem dX7_isStuck_37 : decode prog_9_method_32_code 37 = .ok (.getfield 71, 3) := by decide +kernel
theorem dX7_isStuck_40 : decode prog_9_method_32_code 40 = .ok (.sipush 144, 3) := by decide +kernel
theorem dX7_isStuck_43 : decode prog_9_method_32_code 43 = .ok (.iaload, 1) := by decide +kernel
theorem dX7_isStuck_44 : decode prog_9_method_32_code 44 = .ok (.ifCond .le 7, 3) := by decide +kernel
theorem dX7_isStuck_47 : decode prog_9_method_32_code 47 = .ok (.iconst 1, 1) := by decide +kernel
theorem dX7_isStuck_48 : decode prog_9_method_32_code 48 = .ok (.goto 4, 3) := by decide +kernel
theorem dX7_isStuck_51 : decode prog_9_method_32_code 51 = .ok (.iconst 0, 1) := by decide +kernel
theorem dX7_isStuck_52 : decode prog_9_method_32_code 52 = .ok (.ireturn, 1) := by decide +kernel
theorem dX7_run_0 : decode prog_9_method_33_code 0 = .ok (.iload_n 1, 1) := by decide +kernel
theorem dX7_run_1 : decode prog_9_method_33_code 1 = .ok (.iconst 0, 1) := by decide +kernel
theorem dX7_run_2 : decode prog_9_method_33_code 2 = .ok (.sipush 200, 3) := by decide +kernel
theorem dX7_run_5 : decode prog_9_method_33_code 5 = .ok (.invokestatic 105, 3) := by decide +kernel
theorem dX7_run_8 : decode prog_9_method_33_code 8 = .ok (.ifCond .ne 9, 3) := by decide +kernel
theorem dX7_run_11 : decode prog_9_method_33_code 11 = .ok (.aload_n 0, 1) := by decide +kernel
theorem dX7_run_12 : decode prog_9_method_33_code 12 = .ok (.iconst 1, 1) := by decide +kernel
theorem dX7_run_13 : decode prog_9_method_33_code 13 = .ok (.invokevirtual 109, 3) := by decide +kernel
theorem dX7_run_16 : decode prog_9_method_33_code 16 = .ok (.ireturn, 1) := by decide +kernel
theorem dX7_run_17 : decode prog_9_method_33_code 17 = .ok (.aload_n 0, 1) := by decide +kernel
theorem dX7_run_18 : decode prog_9_method_33_code 18 = .ok (.getfield 122, 3) := by decide +kernel
theorem dX7_run_21 : decode prog_9_method_33_code 21 = .ok (.ifCond .ne 9, 3) := by decide +kernel
theorem dX7_run_24 : decode prog_9_method_33_code 24 = .ok (.aload_n 0, 1) := by decide +kernel
theorem dX7_run_25 : decode prog_9_method_33_code 25 = .ok (.iconst 2, 1) := by decide +kernel
theorem dX7_run_26 : decode prog_9_method_33_code 26 = .ok (.invokevirtual 109, 3) := by decide +kernel
theorem dX7_run_29 : decode prog_9_method_33_code 29 = .ok (.ireturn, 1) := by decide +kernel
theorem dX7_run_30 : decode prog_9_method_33_code 30 = .ok (.aload_n 0, 1) := by decide +kernel
theorem dX7_run_31 : decode prog_9_method_33_code 31 = .ok (.iconst 0, 1) := by decide +kernel
theorem dX7_run_32 : decode prog_9_method_33_code 32 = .ok (.putfield 101, 3) := by decide +kernel
theorem dX7_run_35 : decode prog_9_method_33_code 35 = .ok (.iconst 0, 1) := by decide +kernel
theorem dX7_run_36 : decode prog_9_method_33_code 36 = .ok (.istore_n 2, 1) := by decide +kernel
theorem dX7_run_37 : decode prog_9_method_33_code 37 = .ok (.iload_n 2, 1) := by decide +kernel
theorem dX7_run_38 : decode prog_9_method_33_code 38 = .ok (.iload_n 1, 1) := by decide +kernel
theorem dX7_run_39 : decode prog_9_method_33_code 39 = .ok (.if_icmp .ge 66, 3) := by decide +kernel
theorem dX7_run_42 : decode prog_9_method_33_code 42 = .ok (.aload_n 0, 1) := by decide +kernel
theorem dX7_run_43 : decode prog_9_method_33_code 43 = .ok (.invokevirtual 215, 3) := by decide +kernel
theorem dX7_run_46 : decode prog_9_method_33_code 46 = .ok (.istore_n 3, 1) := by decide +kernel
theorem dX7_run_47 : decode prog_9_method_33_code 47 = .ok (.aload_n 0, 1) := by decide +kernel
theorem dX7_run_48 : decode prog_9_method_33_code 48 = .ok (.invokevirtual 219, 3) := by decide +kernel
theorem dX7_run_51 : decode prog_9_method_33_code 51 = .ok (.istore 4, 2) := by decide +kernel
theorem dX7_run_53 : decode prog_9_method_33_code 53 = .ok (.iload_n 3, 1) := by decide +kernel
theorem dX7_run_54 : decode prog_9_method_33_code 54 = .ok (.ifCond .ne 51, 3) := by decide +kernel
theorem dX7_run_57 : decode prog_9_method_33_code 57 = .ok (.iload 4, 2) := by decide +kernel
theorem dX7_run_59 : decode prog_9_method_33_code 59 = .ok (.ifCond .eq 6, 3) := by decide +kernel
theorem dX7_run_62 : decode prog_9_method_33_code 62 = .ok (.goto 43, 3) := by decide +kernel
theorem dX7_run_65 : decode prog_9_method_33_code 65 = .ok (.iconst 0, 1) := by decide +kernel
theorem dX7_run_66 : decode prog_9_method_33_code 66 = .ok (.istore 5, 2) := by decide +kernel
theorem dX7_run_68 : decode prog_9_method_33_code 68 = .ok (.iload 5, 2) := by decide +kernel
theorem dX7_run_70 : decode prog_9_method_33_code 70 = .ok (.aload_n 0, 1) := by decide +kernel
theorem dX7_run_71 : decode prog_9_method_33_code 71 = .ok (.getfield 138, 3) := by decide +kernel
theorem dX7_run_74 : decode prog_9_method_33_code 74 = .ok (.if_icmp .ge 15, 3) := by decide +kernel
theorem dX7_run_77 : decode prog_9_method_33_code 77 = .ok (.aload_n 0, 1) := by decide +kernel
theorem dX7_run_78 : decode prog_9_method_33_code 78 = .ok (.iload 5, 2) := by decide +kernel
theorem dX7_run_80 : decode prog_9_method_33_code 80 = .ok (.invokevirtual 222, 3) := by decide +kernel
theorem dX7_run_83 : decode prog_9_method_33_code 83 = .ok (.iinc 5 1, 3) := by decide +kernel
theorem dX7_run_86 : decode prog_9_method_33_code 86 = .ok (.goto (-18), 3) := by decide +kernel
theorem dX7_run_89 : decode prog_9_method_33_code 89 = .ok (.aload_n 0, 1) := by decide +kernel
theorem dX7_run_90 : decode prog_9_method_33_code 90 = .ok (.dup, 1) := by decide +kernel
theorem dX7_run_91 : decode prog_9_method_33_code 91 = .ok (.getfield 126, 3) := by decide +kernel
theorem dX7_run_94 : decode prog_9_method_33_code 94 = .ok (.iconst 1, 1) := by decide +kernel
theorem dX7_run_95 : decode prog_9_method_33_code 95 = .ok (.iadd, 1) := by decide +kernel
theorem dX7_run_96 : decode prog_9_method_33_code 96 = .ok (.putfield 126, 3) := by decide +kernel
theorem dX7_run_99 : decode prog_9_method_33_code 99 = .ok (.iinc 2 1, 3) := by decide +kernel
theorem dX7_run_102 : decode prog_9_method_33_code 102 = .ok (.goto (-65), 3) := by decide +kernel
theorem dX7_run_105 : decode prog_9_method_33_code 105 = .ok (.aload_n 0, 1) := by decide +kernel
theorem dX7_run_106 : decode prog_9_method_33_code 106 = .ok (.invokevirtual 219, 3) := by decide +kernel
theorem dX7_run_109 : decode prog_9_method_33_code 109 = .ok (.istore_n 2, 1) := by decide +kernel
theorem dX7_run_110 : decode prog_9_method_33_code 110 = .ok (.iload_n 2, 1) := by decide +kernel
theorem dX7_run_111 : decode prog_9_method_33_code 111 = .ok (.ifCond .eq 9, 3) := by decide +kernel
theorem dX7_run_114 : decode prog_9_method_33_code 114 = .ok (.aload_n 0, 1) := by decide +kernel
theorem dX7_run_115 : decode prog_9_method_33_code 115 = .ok (.iconst 3, 1) := by decide +kernel
theorem dX7_run_116 : decode prog_9_method_33_code 116 = .ok (.invokevirtual 109, 3) := by decide +kernel
theorem dX7_run_119 : decode prog_9_method_33_code 119 = .ok (.ireturn, 1) := by decide +kernel
theorem dX7_run_120 : decode prog_9_method_33_code 120 = .ok (.aload_n 0, 1) := by decide +kernel
theorem dX7_run_121 : decode prog_9_method_33_code 121 = .ok (.getfield 71, 3) := by decide +kernel
theorem dX7_run_124 : decode prog_9_method_33_code 124 = .ok (.sipush 144, 3) := by decide +kernel
theorem dX7_run_127 : decode prog_9_method_33_code 127 = .ok (.iaload, 1) := by decide +kernel
theorem dX7_run_128 : decode prog_9_method_33_code 128 = .ok (.ifCond .ne 7, 3) := by decide +kernel
theorem dX7_run_131 : decode prog_9_method_33_code 131 = .ok (.iconst 1, 1) := by decide +kernel
theorem dX7_run_132 : decode prog_9_method_33_code 132 = .ok (.goto 4, 3) := by decide +kernel
theorem dX7_run_135 : decode prog_9_method_33_code 135 = .ok (.iconst 0, 1) := by decide +kernel
theorem dX7_run_136 : decode prog_9_method_33_code 136 = .ok (.ireturn, 1) := by decide +kernel
theorem dX7_result_0 : decode prog_9_method_34_code 0 = .ok (.aload_n 0, 1) := by decide +kernel
theorem dX7_result_1 : decode prog_9_method_34_code 1 = .ok (.invokevirtual 215, 3) := by decide +kernel
theorem dX7_result_4 : decode prog_9_method_34_code 4 = .ok (.istore_n 1, 1) := by decide +kernel
theorem dX7_result_5 : decode prog_9_method_34_code 5 = .ok (.iload_n 1, 1) := by decide +kernel
theorem dX7_result_6 : decode prog_9_method_34_code 6 = .ok (.ifCond .ne 9, 3) := by decide +kernel
theorem dX7_result_9 : decode prog_9_method_34_code 9 = .ok (.aload_n 0, 1) := by decide +kernel
theorem dX7_result_10 : decode prog_9_method_34_code 10 = .ok (.iconst 1, 1) := by decide +kernel
theorem dX7_result_11 : decode prog_9_method_34_code 11 = .ok (.invokevirtual 109, 3) := by decide +kernel
theorem dX7_result_14 : decode prog_9_method_34_code 14 = .ok (.ireturn, 1) := by decide +kernel
theorem dX7_result_15 : decode prog_9_method_34_code 15 = .ok (.aload_n 0, 1) := by decide +kernel
theorem dX7_result_16 : decode prog_9_method_34_code 16 = .ok (.getfield 83, 3) := by decide +kernel
theorem dX7_result_19 : decode prog_9_method_34_code 19 = .ok (.sipush 144, 3) := by decide +kernel
theorem dX7_result_22 : decode prog_9_method_34_code 22 = .ok (.iaload, 1) := by decide +kernel
theorem dX7_result_23 : decode prog_9_method_34_code 23 = .ok (.ifCond .le 9, 3) := by decide +kernel
theorem dX7_result_26 : decode prog_9_method_34_code 26 = .ok (.aload_n 0, 1) := by decide +kernel
theorem dX7_result_27 : decode prog_9_method_34_code 27 = .ok (.iconst 2, 1) := by decide +kernel
theorem dX7_result_28 : decode prog_9_method_34_code 28 = .ok (.invokevirtual 109, 3) := by decide +kernel
theorem dX7_result_31 : decode prog_9_method_34_code 31 = .ok (.ireturn, 1) := by decide +kernel
theorem dX7_result_32 : decode prog_9_method_34_code 32 = .ok (.aload_n 0, 1) := by decide +kernel
theorem dX7_result_33 : decode prog_9_method_34_code 33 = .ok (.iconst 0, 1) := by decide +kernel
theorem dX7_result_34 : decode prog_9_method_34_code 34 = .ok (.putfield 101, 3) := by decide +kernel
theorem dX7_result_37 : decode prog_9_method_34_code 37 = .ok (.aload_n 0, 1) := by decide +kernel
theorem dX7_result_38 : decode prog_9_method_34_code 38 = .ok (.getfield 22, 3) := by decide +kernel
theorem dX7_result_41 : decode prog_9_method_34_code 41 = .ok (.iconst 0, 1) := by decide +kernel
theorem dX7_result_42 : decode prog_9_method_34_code 42 = .ok (.iaload, 1) := by decide +kernel
theorem dX7_result_43 : decode prog_9_method_34_code 43 = .ok (.aload_n 0, 1) := by decide +kernel
theorem dX7_result_44 : decode prog_9_method_34_code 44 = .ok (.getfield 74, 3) := by decide +kernel
theorem dX7_result_47 : decode prog_9_method_34_code 47 = .ok (.sipush 144, 3) := by decide +kernel
theorem dX7_result_50 : decode prog_9_method_34_code 50 = .ok (.iaload, 1) := by decide +kernel
theorem dX7_result_51 : decode prog_9_method_34_code 51 = .ok (.iadd, 1) := by decide +kernel
theorem dX7_result_52 : decode prog_9_method_34_code 52 = .ok (.ireturn, 1) := by decide +kernel
theorem dX7_said_0 : decode prog_9_method_35_code 0 = .ok (.aload_n 0, 1) := by decide +kernel
theorem dX7_said_1 : decode prog_9_method_35_code 1 = .ok (.iload_n 1, 1) := by decide +kernel
theorem dX7_said_2 : decode prog_9_method_35_code 2 = .ok (.iconst 0, 1) := by decide +kernel
theorem dX7_said_3 : decode prog_9_method_35_code 3 = .ok (.aload_n 0, 1) := by decide +kernel
theorem dX7_said_4 : decode prog_9_method_35_code 4 = .ok (.getfield 135, 3) := by decide +kernel
theorem dX7_said_7 : decode prog_9_method_35_code 7 = .ok (.bipush 40, 2) := by decide +kernel
theorem dX7_said_9 : decode prog_9_method_35_code 9 = .ok (.if_icmp .ge 10, 3) := by decide +kernel
theorem dX7_said_12 : decode prog_9_method_35_code 12 = .ok (.aload_n 0, 1) := by decide +kernel
theorem dX7_said_13 : decode prog_9_method_35_code 13 = .ok (.getfield 135, 3) := by decide +kernel
theorem dX7_said_16 : decode prog_9_method_35_code 16 = .ok (.goto 5, 3) := by decide +kernel
theorem dX7_said_19 : decode prog_9_method_35_code 19 = .ok (.bipush 40, 2) := by decide +kernel
theorem dX7_said_21 : decode prog_9_method_35_code 21 = .ok (.iconst 1, 1) := by decide +kernel
theorem dX7_said_22 : decode prog_9_method_35_code 22 = .ok (.isub, 1) := by decide +kernel
theorem dX7_said_23 : decode prog_9_method_35_code 23 = .ok (.invokestatic 105, 3) := by decide +kernel
theorem dX7_said_26 : decode prog_9_method_35_code 26 = .ok (.ifCond .eq 7, 3) := by decide +kernel
theorem dX7_said_29 : decode prog_9_method_35_code 29 = .ok (.iconst 0, 1) := by decide +kernel
theorem dX7_said_30 : decode prog_9_method_35_code 30 = .ok (.goto 4, 3) := by decide +kernel
theorem dX7_said_33 : decode prog_9_method_35_code 33 = .ok (.iconst 1, 1) := by decide +kernel
theorem dX7_said_34 : decode prog_9_method_35_code 34 = .ok (.putfield 101, 3) := by decide +kernel
theorem dX7_said_37 : decode prog_9_method_35_code 37 = .ok (.aload_n 0, 1) := by decide +kernel
theorem dX7_said_38 : decode prog_9_method_35_code 38 = .ok (.getfield 101, 3) := by decide +kernel
theorem dX7_said_41 : decode prog_9_method_35_code 41 = .ok (.ifCond .le 7, 3) := by decide +kernel
theorem dX7_said_44 : decode prog_9_method_35_code 44 = .ok (.iconst 0, 1) := by decide +kernel
theorem dX7_said_45 : decode prog_9_method_35_code 45 = .ok (.goto 9, 3) := by decide +kernel
theorem dX7_said_48 : decode prog_9_method_35_code 48 = .ok (.aload_n 0, 1) := by decide +kernel
theorem dX7_said_49 : decode prog_9_method_35_code 49 = .ok (.getfield 98, 3) := by decide +kernel
theorem dX7_said_52 : decode prog_9_method_35_code 52 = .ok (.iload_n 1, 1) := by decide +kernel
theorem dX7_said_53 : decode prog_9_method_35_code 53 = .ok (.iaload, 1) := by decide +kernel
theorem dX7_said_54 : decode prog_9_method_35_code 54 = .ok (.ireturn, 1) := by decide +kernel
theorem dX7_task_0 : decode prog_9_method_36_code 0 = .ok (.iload_n 2, 1) := by decide +kernel
theorem dX7_task_1 : decode prog_9_method_36_code 1 = .ok (.iconst 0, 1) := by decide +kernel
theorem dX7_task_2 : decode prog_9_method_36_code 2 = .ok (.bipush 6, 2) := by decide +kernel
theorem dX7_task_4 : decode prog_9_method_36_code 4 = .ok (.invokestatic 105, 3) := by decide +kernel
theorem dX7_task_7 : decode prog_9_method_36_code 7 = .ok (.ifCond .ne 9, 3) := by decide +kernel
theorem dX7_task_10 : decode prog_9_method_36_code 10 = .ok (.aload_n 0, 1) := by decide +kernel
theorem dX7_task_11 : decode prog_9_method_36_code 11 = .ok (.iconst 1, 1) := by decide +kernel
theorem dX7_task_12 : decode prog_9_method_36_code 12 = .ok (.invokevirtual 109, 3) := by decide +kernel
theorem dX7_task_15 : decode prog_9_method_36_code 15 = .ok (.ireturn, 1) := by decide +kernel
theorem dX7_task_16 : decode prog_9_method_36_code 16 = .ok (.aload_n 0, 1) := by decide +kernel
theorem dX7_task_17 : decode prog_9_method_36_code 17 = .ok (.getfield 122, 3) := by decide +kernel
theorem dX7_task_20 : decode prog_9_method_36_code 20 = .ok (.ifCond .eq 17, 3) := by decide +kernel
theorem dX7_task_23 : decode prog_9_method_36_code 23 = .ok (.iload_n 1, 1) := by decide +kernel
theorem dX7_task_24 : decode prog_9_method_36_code 24 = .ok (.iconst 0, 1) := by decide +kernel
theorem dX7_task_25 : decode prog_9_method_36_code 25 = .ok (.aload_n 0, 1) := by decide +kernel
theorem dX7_task_26 : decode prog_9_method_36_code 26 = .ok (.getfield 119, 3) := by decide +kernel
theorem dX7_task_29 : decode prog_9_method_36_code 29 = .ok (.iconst 1, 1) := by decide +kernel
theorem dX7_task_30 : decode prog_9_method_36_code 30 = .ok (.isub, 1) := by decide +kernel
theorem dX7_task_31 : decode prog_9_method_36_code 31 = .ok (.invokestatic 105, 3) := by decide +kernel
theorem dX7_task_34 : decode prog_9_method_36_code 34 = .ok (.ifCond .ne 9, 3) := by decide +kernel
theorem dX7_task_37 : decode prog_9_method_36_code 37 = .ok (.aload_n 0, 1) := by decide +kernel
theorem dX7_task_38 : decode prog_9_method_36_code 38 = .ok (.iconst 2, 1) := by decide +kernel
theorem dX7_task_39 : decode prog_9_method_36_code 39 = .ok (.invokevirtual 109, 3) := by decide +kernel
theorem dX7_task_42 : decode prog_9_method_36_code 42 = .ok (.ireturn, 1) := by decide +kernel
theorem dX7_task_43 : decode prog_9_method_36_code 43 = .ok (.aload_n 0, 1) := by decide +kernel
theorem dX7_task_44 : decode prog_9_method_36_code 44 = .ok (.iconst 0, 1) := by decide +kernel
theorem dX7_task_45 : decode prog_9_method_36_code 45 = .ok (.putfield 101, 3) := by decide +kernel
theorem dX7_task_48 : decode prog_9_method_36_code 48 = .ok (.iload_n 2, 1) := by decide +kernel
theorem dX7_task_49 : decode prog_9_method_36_code 49 = .ok (.tableswitch 70 0 4 #[35, 42, 49, 56, 63], 35) := by decide +kernel
theorem dX7_task_84 : decode prog_9_method_36_code 84 = .ok (.aload_n 0, 1) := by decide +kernel
theorem dX7_task_85 : decode prog_9_method_36_code 85 = .ok (.getfield 19, 3) := by decide +kernel
theorem dX7_task_88 : decode prog_9_method_36_code 88 = .ok (.iload_n 1, 1) := by decide +kernel
theorem dX7_task_89 : decode prog_9_method_36_code 89 = .ok (.iaload, 1) := by decide +kernel
theorem dX7_task_90 : decode prog_9_method_36_code 90 = .ok (.ireturn, 1) := by decide +kernel
theorem dX7_task_91 : decode prog_9_method_36_code 91 = .ok (.aload_n 0, 1) := by decide +kernel
theorem dX7_task_92 : decode prog_9_method_36_code 92 = .ok (.getfield 22, 3) := by decide +kernel
theorem dX7_task_95 : decode prog_9_method_36_code 95 = .ok (.iload_n 1, 1) := by decide +kernel
theorem dX7_task_96 : decode prog_9_method_36_code 96 = .ok (.iaload, 1) := by decide +kernel
theorem dX7_task_97 : decode prog_9_method_36_code 97 = .ok (.ireturn, 1) := by decide +kernel
theorem dX7_task_98 : decode prog_9_method_36_code 98 = .ok (.aload_n 0, 1) := by decide +kernel
theorem dX7_task_99 : decode prog_9_method_36_code 99 = .ok (.getfield 25, 3) := by decide +kernel
theorem dX7_task_102 : decode prog_9_method_36_code 102 = .ok (.iload_n 1, 1) := by decide +kernel
theorem dX7_task_103 : decode prog_9_method_36_code 103 = .ok (.iaload, 1) := by decide +kernel
theorem dX7_task_104 : decode prog_9_method_36_code 104 = .ok (.ireturn, 1) := by decide +kernel
theorem dX7_task_105 : decode prog_9_method_36_code 105 = .ok (.aload_n 0, 1) := by decide +kernel
theorem dX7_task_106 : decode prog_9_method_36_code 106 = .ok (.getfield 28, 3) := by decide +kernel
theorem dX7_task_109 : decode prog_9_method_36_code 109 = .ok (.iload_n 1, 1) := by decide +kernel
theorem dX7_task_110 : decode prog_9_method_36_code 110 = .ok (.iaload, 1) := by decide +kernel
theorem dX7_task_111 : decode prog_9_method_36_code 111 = .ok (.ireturn, 1) := by decide +kernel
theorem dX7_task_112 : decode prog_9_method_36_code 112 = .ok (.aload_n 0, 1) := by decide +kernel
theorem dX7_task_113 : decode prog_9_method_36_code 113 = .ok (.getfield 34, 3) := by decide +kernel
theorem dX7_task_116 : decode prog_9_method_36_code 116 = .ok (.iload_n 1, 1) := by decide +kernel
theorem dX7_task_117 : decode prog_9_method_36_code 117 = .ok (.iaload, 1) := by decide +kernel
theorem dX7_task_118 : decode prog_9_method_36_code 118 = .ok (.ireturn, 1) := by decide +kernel
theorem dX7_task_119 : decode prog_9_method_36_code 119 = .ok (.aload_n 0, 1) := by decide +kernel
theorem dX7_task_120 : decode prog_9_method_36_code 120 = .ok (.getfield 59, 3) := by decide +kernel
theorem dX7_task_123 : decode prog_9_method_36_code 123 = .ok (.iconst 2, 1) := by decide +kernel
theorem dX7_task_124 : decode prog_9_method_36_code 124 = .ok (.iload_n 1, 1) := by decide +kernel
theorem dX7_task_125 : decode prog_9_method_36_code 125 = .ok (.imul, 1) := by decide +kernel
theorem dX7_task_126 : decode prog_9_method_36_code 126 = .ok (.iload_n 2, 1) := by decide +kernel
theorem dX7_task_127 : decode prog_9_method_36_code 127 = .ok (.iadd, 1) := by decide +kernel
theorem dX7_task_128 : decode prog_9_method_36_code 128 = .ok (.iconst 5, 1) := by decide +kernel
theorem dX7_task_129 : decode prog_9_method_36_code 129 = .ok (.isub, 1) := by decide +kernel
theorem dX7_task_130 : decode prog_9_method_36_code 130 = .ok (.iaload, 1) := by decide +kernel
theorem dX7_task_131 : decode prog_9_method_36_code 131 = .ok (.ireturn, 1) := by decide +kernel
theorem dX7_future_0 : decode prog_9_method_37_code 0 = .ok (.aload_n 0, 1) := by decide +kernel
theorem dX7_future_1 : decode prog_9_method_37_code 1 = .ok (.iload_n 1, 1) := by decide +kernel
theorem dX7_future_2 : decode prog_9_method_37_code 2 = .ok (.iconst 0, 1) := by decide +kernel
theorem dX7_future_3 : decode prog_9_method_37_code 3 = .ok (.iconst 3, 1) := by decide +kernel
theorem dX7_future_4 : decode prog_9_method_37_code 4 = .ok (.invokestatic 105, 3) := by decide +kernel
theorem dX7_future_7 : decode prog_9_method_37_code 7 = .ok (.ifCond .ne 7, 3) := by decide +kernel
theorem dX7_future_10 : decode prog_9_method_37_code 10 = .ok (.iconst 1, 1) := by decide +kernel
theorem dX7_future_11 : decode prog_9_method_37_code 11 = .ok (.goto 17, 3) := by decide +kernel
theorem dX7_future_14 : decode prog_9_method_37_code 14 = .ok (.aload_n 0, 1) := by decide +kernel
theorem dX7_future_15 : decode prog_9_method_37_code 15 = .ok (.getfield 56, 3) := by decide +kernel
theorem dX7_future_18 : decode prog_9_method_37_code 18 = .ok (.iload_n 1, 1) := by decide +kernel
theorem dX7_future_19 : decode prog_9_method_37_code 19 = .ok (.baload, 1) := by decide +kernel
theorem dX7_future_20 : decode prog_9_method_37_code 20 = .ok (.ifCond .ne 7, 3) := by decide +kernel
theorem dX7_future_23 : decode prog_9_method_37_code 23 = .ok (.iconst 2, 1) := by decide +kernel
theorem dX7_future_24 : decode prog_9_method_37_code 24 = .ok (.goto 4, 3) := by decide +kernel
theorem dX7_future_27 : decode prog_9_method_37_code 27 = .ok (.iconst 0, 1) := by decide +kernel
theorem dX7_future_28 : decode prog_9_method_37_code 28 = .ok (.putfield 101, 3) := by decide +kernel
theorem dX7_future_31 : decode prog_9_method_37_code 31 = .ok (.aload_n 0, 1) := by decide +kernel
theorem dX7_future_32 : decode prog_9_method_37_code 32 = .ok (.getfield 101, 3) := by decide +kernel
theorem dX7_future_35 : decode prog_9_method_37_code 35 = .ok (.ifCond .le 7, 3) := by decide +kernel
theorem dX7_future_38 : decode prog_9_method_37_code 38 = .ok (.iconst 0, 1) := by decide +kernel
theorem dX7_future_39 : decode prog_9_method_37_code 39 = .ok (.goto 9, 3) := by decide +kernel
theorem dX7_future_42 : decode prog_9_method_37_code 42 = .ok (.aload_n 0, 1) := by decide +kernel
theorem dX7_future_43 : decode prog_9_method_37_code 43 = .ok (.getfield 43, 3) := by decide +kernel
theorem dX7_future_46 : decode prog_9_method_37_code 46 = .ok (.iload_n 1, 1) := by decide +kernel
theorem dX7_future_47 : decode prog_9_method_37_code 47 = .ok (.iaload, 1) := by decide +kernel
theorem dX7_future_48 : decode prog_9_method_37_code 48 = .ok (.ireturn, 1) := by decide +kernel
theorem dX7_queuedAt_0 : decode prog_9_method_38_code 0 = .ok (.aload_n 0, 1) := by decide +kernel
theorem dX7_queuedAt_1 : decode prog_9_method_38_code 1 = .ok (.getfield 122, 3) := by decide +kernel
theorem dX7_queuedAt_4 : decode prog_9_method_38_code 4 = .ok (.ifCond .eq 35, 3) := by decide +kernel
theorem dX7_queuedAt_7 : decode prog_9_method_38_code 7 = .ok (.iload_n 1, 1) := by decide +kernel
theorem dX7_queuedAt_8 : decode prog_9_method_38_code 8 = .ok (.aload_n 0, 1) := by decide +kernel
theorem dX7_queuedAt_9 : decode prog_9_method_38_code 9 = .ok (.getfield 138, 3) := by decide +kernel
theorem dX7_queuedAt_12 : decode prog_9_method_38_code 12 = .ok (.if_icmp .ge 27, 3) := by decide +kernel
theorem dX7_queuedAt_15 : decode prog_9_method_38_code 15 = .ok (.iload_n 2, 1) := by decide +kernel
theorem dX7_queuedAt_16 : decode prog_9_method_38_code 16 = .ok (.aload_n 0, 1) := by decide +kernel
theorem dX7_queuedAt_17 : decode prog_9_method_38_code 17 = .ok (.getfield 92, 3) := by decide +kernel
theorem dX7_queuedAt_20 : decode prog_9_method_38_code 20 = .ok (.iload_n 1, 1) := by decide +kernel
theorem dX7_queuedAt_21 : decode prog_9_method_38_code 21 = .ok (.iaload, 1) := by decide +kernel
theorem dX7_queuedAt_22 : decode prog_9_method_38_code 22 = .ok (.if_icmp .ge 17, 3) := by decide +kernel
theorem dX7_queuedAt_25 : decode prog_9_method_38_code 25 = .ok (.aload_n 0, 1) := by decide +kernel
theorem dX7_queuedAt_26 : decode prog_9_method_38_code 26 = .ok (.getfield 95, 3) := by decide +kernel
theorem dX7_queuedAt_29 : decode prog_9_method_38_code 29 = .ok (.bipush 48, 2) := by decide +kernel
theorem dX7_queuedAt_31 : decode prog_9_method_38_code 31 = .ok (.iload_n 1, 1) := by decide +kernel
theorem dX7_queuedAt_32 : decode prog_9_method_38_code 32 = .ok (.imul, 1) := by decide +kernel
theorem dX7_queuedAt_33 : decode prog_9_method_38_code 33 = .ok (.iload_n 2, 1) := by decide +kernel
theorem dX7_queuedAt_34 : decode prog_9_method_38_code 34 = .ok (.iadd, 1) := by decide +kernel
theorem dX7_queuedAt_35 : decode prog_9_method_38_code 35 = .ok (.iaload, 1) := by decide +kernel
theorem dX7_queuedAt_36 : decode prog_9_method_38_code 36 = .ok (.goto 4, 3) := by decide +kernel
theorem dX7_queuedAt_39 : decode prog_9_method_38_code 39 = .ok (.iconst (-1), 1) := by decide +kernel
theorem dX7_queuedAt_40 : decode prog_9_method_38_code 40 = .ok (.ireturn, 1) := by decide +kernel
theorem dX7_count_0 : decode prog_9_method_39_code 0 = .ok (.iload_n 1, 1) := by decide +kernel
theorem dX7_count_1 : decode prog_9_method_39_code 1 = .ok (.bipush 20, 2) := by decide +kernel
theorem dX7_count_3 : decode prog_9_method_39_code 3 = .ok (.bipush 22, 2) := by decide +kernel
theorem dX7_count_5 : decode prog_9_method_39_code 5 = .ok (.invokestatic 105, 3) := by decide +kernel
theorem dX7_count_8 : decode prog_9_method_39_code 8 = .ok (.ifCond .ne 37, 3) := by decide +kernel
theorem dX7_count_11 : decode prog_9_method_39_code 11 = .ok (.iload_n 1, 1) := by decide +kernel
theorem dX7_count_12 : decode prog_9_method_39_code 12 = .ok (.bipush 30, 2) := by decide +kernel
theorem dX7_count_14 : decode prog_9_method_39_code 14 = .ok (.bipush 32, 2) := by decide +kernel
theorem dX7_count_16 : decode prog_9_method_39_code 16 = .ok (.invokestatic 105, 3) := by decide +kernel
theorem dX7_count_19 : decode prog_9_method_39_code 19 = .ok (.ifCond .ne 26, 3) := by decide +kernel
theorem dX7_count_22 : decode prog_9_method_39_code 22 = .ok (.iload_n 1, 1) := by decide +kernel
theorem dX7_count_23 : decode prog_9_method_39_code 23 = .ok (.bipush 40, 2) := by decide +kernel
theorem dX7_count_25 : decode prog_9_method_39_code 25 = .ok (.bipush 87, 2) := by decide +kernel
theorem dX7_count_27 : decode prog_9_method_39_code 27 = .ok (.invokestatic 105, 3) := by decide +kernel
theorem dX7_count_30 : decode prog_9_method_39_code 30 = .ok (.ifCond .ne 15, 3) := by decide +kernel
theorem dX7_count_33 : decode prog_9_method_39_code 33 = .ok (.iload_n 1, 1) := by decide +kernel
theorem dX7_count_34 : decode prog_9_method_39_code 34 = .ok (.bipush 100, 2) := by decide +kernel
theorem dX7_count_36 : decode prog_9_method_39_code 36 = .ok (.sipush 147, 3) := by decide +kernel
theorem dX7_count_39 : decode prog_9_method_39_code 39 = .ok (.invokestatic 105, 3) := by decide +kernel
theorem dX7_count_42 : decode prog_9_method_39_code 42 = .ok (.ifCond .eq 7, 3) := by decide +kernel
theorem dX7_count_45 : decode prog_9_method_39_code 45 = .ok (.iconst 1, 1) := by decide +kernel
theorem dX7_count_46 : decode prog_9_method_39_code 46 = .ok (.goto 4, 3) := by decide +kernel
theorem dX7_count_49 : decode prog_9_method_39_code 49 = .ok (.iconst 0, 1) := by decide +kernel
theorem dX7_count_50 : decode prog_9_method_39_code 50 = .ok (.istore_n 2, 1) := by decide +kernel
theorem dX7_count_51 : decode prog_9_method_39_code 51 = .ok (.iload_n 1, 1) := by decide +kernel
theorem dX7_count_52 : decode prog_9_method_39_code 52 = .ok (.iconst 0, 1) := by decide +kernel
theorem dX7_count_53 : decode prog_9_method_39_code 53 = .ok (.bipush 10, 2) := by decide +kernel
theorem dX7_count_55 : decode prog_9_method_39_code 55 = .ok (.invokestatic 105, 3) := by decide +kernel
theorem dX7_count_58 : decode prog_9_method_39_code 58 = .ok (.ifCond .ne 13, 3) := by decide +kernel
theorem dX7_count_61 : decode prog_9_method_39_code 61 = .ok (.iload_n 2, 1) := by decide +kernel
theorem dX7_count_62 : decode prog_9_method_39_code 62 = .ok (.ifCond .ne 9, 3) := by decide +kernel
theorem dX7_count_65 : decode prog_9_method_39_code 65 = .ok (.aload_n 0, 1) := by decide +kernel
theorem dX7_count_66 : decode prog_9_method_39_code 66 = .ok (.iconst 1, 1) := by decide +kernel
theorem dX7_count_67 : decode prog_9_method_39_code 67 = .ok (.invokevirtual 109, 3) := by decide +kernel
theorem dX7_count_70 : decode prog_9_method_39_code 70 = .ok (.ireturn, 1) := by decide +kernel
theorem dX7_count_71 : decode prog_9_method_39_code 71 = .ok (.aload_n 0, 1) := by decide +kernel
theorem dX7_count_72 : decode prog_9_method_39_code 72 = .ok (.iconst 0, 1) := by decide +kernel
theorem dX7_count_73 : decode prog_9_method_39_code 73 = .ok (.putfield 101, 3) := by decide +kernel
theorem dX7_count_76 : decode prog_9_method_39_code 76 = .ok (.iload_n 1, 1) := by decide +kernel
theorem dX7_count_77 : decode prog_9_method_39_code 77 = .ok (.bipush 99, 2) := by decide +kernel
theorem dX7_count_79 : decode prog_9_method_39_code 79 = .ok (.if_icmp .le 13, 3) := by decide +kernel
theorem dX7_count_82 : decode prog_9_method_39_code 82 = .ok (.aload_n 0, 1) := by decide +kernel
theorem dX7_count_83 : decode prog_9_method_39_code 83 = .ok (.iconst 1, 1) := by decide +kernel
theorem dX7_count_84 : decode prog_9_method_39_code 84 = .ok (.iload_n 1, 1) := by decide +kernel
theorem dX7_count_85 : decode prog_9_method_39_code 85 = .ok (.bipush 100, 2) := by decide +kernel
theorem dX7_count_87 : decode prog_9_method_39_code 87 = .ok (.isub, 1) := by decide +kernel
theorem dX7_count_88 : decode prog_9_method_39_code 88 = .ok (.invokevirtual 225, 3) := by decide +kernel
theorem dX7_count_91 : decode prog_9_method_39_code 91 = .ok (.ireturn, 1) := by decide +kernel
theorem dX7_count_92 : decode prog_9_method_39_code 92 = .ok (.iload_n 1, 1) := by decide +kernel
theorem dX7_count_93 : decode prog_9_method_39_code 93 = .ok (.bipush 39, 2) := by decide +kernel
theorem dX7_count_95 : decode prog_9_method_39_code 95 = .ok (.if_icmp .le 13, 3) := by decide +kernel
theorem dX7_count_98 : decode prog_9_method_39_code 98 = .ok (.aload_n 0, 1) := by decide +kernel
theorem dX7_count_99 : decode prog_9_method_39_code 99 = .ok (.iconst 0, 1) := by decide +kernel
theorem dX7_count_100 : decode prog_9_method_39_code 100 = .ok (.iload_n 1, 1) := by decide +kernel
theorem dX7_count_101 : decode prog_9_method_39_code 101 = .ok (.bipush 40, 2) := by decide +kernel
theorem dX7_count_103 : decode prog_9_method_39_code 103 = .ok (.isub, 1) := by decide +kernel
theorem dX7_count_104 : decode prog_9_method_39_code 104 = .ok (.invokevirtual 225, 3) := by decide +kernel
theorem dX7_count_107 : decode prog_9_method_39_code 107 = .ok (.ireturn, 1) := by decide +kernel
theorem dX7_count_108 : decode prog_9_method_39_code 108 = .ok (.iload_n 1, 1) := by decide +kernel
theorem dX7_count_109 : decode prog_9_method_39_code 109 = .ok (.bipush 29, 2) := by decide +kernel
theorem dX7_count_111 : decode prog_9_method_39_code 111 = .ok (.if_icmp .le 35, 3) := by decide +kernel
theorem dX7_count_114 : decode prog_9_method_39_code 114 = .ok (.aload_n 0, 1) := by decide +kernel
theorem dX7_count_115 : decode prog_9_method_39_code 115 = .ok (.getfield 122, 3) := by decide +kernel
theorem dX7_count_118 : decode prog_9_method_39_code 118 = .ok (.ifCond .eq 26, 3) := by decide +kernel
theorem dX7_count_121 : decode prog_9_method_39_code 121 = .ok (.iload_n 1, 1) := by decide +kernel
theorem dX7_count_122 : decode prog_9_method_39_code 122 = .ok (.bipush 30, 2) := by decide +kernel
theorem dX7_count_124 : decode prog_9_method_39_code 124 = .ok (.isub, 1) := by decide +kernel
theorem dX7_count_125 : decode prog_9_method_39_code 125 = .ok (.aload_n 0, 1) := by decide +kernel
theorem dX7_count_126 : decode prog_9_method_39_code 126 = .ok (.getfield 138, 3) := by decide +kernel
theorem dX7_count_129 : decode prog_9_method_39_code 129 = .ok (.if_icmp .ge 15, 3) := by decide +kernel
theorem dX7_count_132 : decode prog_9_method_39_code 132 = .ok (.aload_n 0, 1) := by decide +kernel
theorem dX7_count_133 : decode prog_9_method_39_code 133 = .ok (.getfield 92, 3) := by decide +kernel
theorem dX7_count_136 : decode prog_9_method_39_code 136 = .ok (.iload_n 1, 1) := by decide +kernel
theorem dX7_count_137 : decode prog_9_method_39_code 137 = .ok (.bipush 30, 2) := by decide +kernel
theorem dX7_count_139 : decode prog_9_method_39_code 139 = .ok (.isub, 1) := by decide +kernel
theorem dX7_count_140 : decode prog_9_method_39_code 140 = .ok (.iaload, 1) := by decide +kernel
theorem dX7_count_141 : decode prog_9_method_39_code 141 = .ok (.goto 4, 3) := by decide +kernel
theorem dX7_count_144 : decode prog_9_method_39_code 144 = .ok (.iconst 0, 1) := by decide +kernel
theorem dX7_count_145 : decode prog_9_method_39_code 145 = .ok (.ireturn, 1) := by decide +kernel
theorem dX7_count_146 : decode prog_9_method_39_code 146 = .ok (.iload_n 1, 1) := by decide +kernel
theorem dX7_count_147 : decode prog_9_method_39_code 147 = .ok (.bipush 19, 2) := by decide +kernel
theorem dX7_count_149 : decode prog_9_method_39_code 149 = .ok (.if_icmp .le 35, 3) := by decide +kernel
theorem dX7_count_152 : decode prog_9_method_39_code 152 = .ok (.aload_n 0, 1) := by decide +kernel
theorem dX7_count_153 : decode prog_9_method_39_code 153 = .ok (.getfield 122, 3) := by decide +kernel
theorem dX7_count_156 : decode prog_9_method_39_code 156 = .ok (.ifCond .eq 26, 3) := by decide +kernel
theorem dX7_count_159 : decode prog_9_method_39_code 159 = .ok (.iload_n 1, 1) := by decide +kernel
theorem dX7_count_160 : decode prog_9_method_39_code 160 = .ok (.bipush 20, 2) := by decide +kernel
theorem dX7_count_162 : decode prog_9_method_39_code 162 = .ok (.isub, 1) := by decide +kernel
theorem dX7_count_163 : decode prog_9_method_39_code 163 = .ok (.aload_n 0, 1) := by decide +kernel
theorem dX7_count_164 : decode prog_9_method_39_code 164 = .ok (.getfield 138, 3) := by decide +kernel
theorem dX7_count_167 : decode prog_9_method_39_code 167 = .ok (.if_icmp .ge 15, 3) := by decide +kernel
theorem dX7_count_170 : decode prog_9_method_39_code 170 = .ok (.aload_n 0, 1) := by decide +kernel
theorem dX7_count_171 : decode prog_9_method_39_code 171 = .ok (.getfield 89, 3) := by decide +kernel
theorem dX7_count_174 : decode prog_9_method_39_code 174 = .ok (.iload_n 1, 1) := by decide +kernel
theorem dX7_count_175 : decode prog_9_method_39_code 175 = .ok (.bipush 20, 2) := by decide +kernel
theorem dX7_count_177 : decode prog_9_method_39_code 177 = .ok (.isub, 1) := by decide +kernel
theorem dX7_count_178 : decode prog_9_method_39_code 178 = .ok (.iaload, 1) := by decide +kernel
theorem dX7_count_179 : decode prog_9_method_39_code 179 = .ok (.goto 4, 3) := by decide +kernel
theorem dX7_count_182 : decode prog_9_method_39_code 182 = .ok (.iconst (-1), 1) := by decide +kernel
theorem dX7_count_183 : decode prog_9_method_39_code 183 = .ok (.ireturn, 1) := by decide +kernel
theorem dX7_count_184 : decode prog_9_method_39_code 184 = .ok (.aload_n 0, 1) := by decide +kernel
theorem dX7_count_185 : decode prog_9_method_39_code 185 = .ok (.getfield 122, 3) := by decide +kernel
theorem dX7_count_188 : decode prog_9_method_39_code 188 = .ok (.ifCond .ne 5, 3) := by decide +kernel
theorem dX7_count_191 : decode prog_9_method_39_code 191 = .ok (.iconst 0, 1) := by decide +kernel
theorem dX7_count_192 : decode prog_9_method_39_code 192 = .ok (.ireturn, 1) := by decide +kernel
theorem dX7_count_193 : decode prog_9_method_39_code 193 = .ok (.iconst 0, 1) := by decide +kernel
theorem dX7_count_194 : decode prog_9_method_39_code 194 = .ok (.istore_n 3, 1) := by decide +kernel
theorem dX7_count_195 : decode prog_9_method_39_code 195 = .ok (.iconst 0, 1) := by decide +kernel
theorem dX7_count_196 : decode prog_9_method_39_code 196 = .ok (.istore 4, 2) := by decide +kernel
theorem dX7_count_198 : decode prog_9_method_39_code 198 = .ok (.iload 4, 2) := by decide +kernel
theorem dX7_count_200 : decode prog_9_method_39_code 200 = .ok (.aload_n 0, 1) := by decide +kernel
theorem dX7_count_201 : decode prog_9_method_39_code 201 = .ok (.getfield 119, 3) := by decide +kernel
theorem dX7_count_204 : decode prog_9_method_39_code 204 = .ok (.if_icmp .ge 23, 3) := by decide +kernel
theorem dX7_count_207 : decode prog_9_method_39_code 207 = .ok (.aload_n 0, 1) := by decide +kernel
theorem dX7_count_208 : decode prog_9_method_39_code 208 = .ok (.getfield 19, 3) := by decide +kernel
theorem dX7_count_211 : decode prog_9_method_39_code 211 = .ok (.iload 4, 2) := by decide +kernel
theorem dX7_count_213 : decode prog_9_method_39_code 213 = .ok (.iaload, 1) := by decide +kernel
theorem dX7_count_214 : decode prog_9_method_39_code 214 = .ok (.iconst 3, 1) := by decide +kernel
theorem dX7_count_215 : decode prog_9_method_39_code 215 = .ok (.if_icmp .eq 6, 3) := by decide +kernel
theorem dX7_count_218 : decode prog_9_method_39_code 218 = .ok (.iinc 3 1, 3) := by decide +kernel
theorem dX7_count_221 : decode prog_9_method_39_code 221 = .ok (.iinc 4 1, 3) := by decide +kernel
theorem dX7_count_224 : decode prog_9_method_39_code 224 = .ok (.goto (-26), 3) := by decide +kernel
theorem dX7_count_227 : decode prog_9_method_39_code 227 = .ok (.iload_n 1, 1) := by decide +kernel
theorem dX7_count_228 : decode prog_9_method_39_code 228 = .ok (.tableswitch 115 0 9 #[56, 61, 63, 68, 73, 78, 83, 92, 101, 108], 56) := by decide +kernel
theorem dX7_count_284 : decode prog_9_method_39_code 284 = .ok (.aload_n 0, 1) := by decide +kernel
theorem dX7_count_285 : decode prog_9_method_39_code 285 = .ok (.getfield 119, 3) := by decide +kernel
theorem dX7_count_288 : decode prog_9_method_39_code 288 = .ok (.ireturn, 1) := by decide +kernel
theorem dX7_count_289 : decode prog_9_method_39_code 289 = .ok (.iload_n 3, 1) := by decide +kernel
theorem dX7_count_290 : decode prog_9_method_39_code 290 = .ok (.ireturn, 1) := by decide +kernel
theorem dX7_count_291 : decode prog_9_method_39_code 291 = .ok (.aload_n 0, 1) := by decide +kernel
theorem dX7_count_292 : decode prog_9_method_39_code 292 = .ok (.getfield 126, 3) := by decide +kernel
theorem dX7_count_295 : decode prog_9_method_39_code 295 = .ok (.ireturn, 1) := by decide +kernel
theorem dX7_count_296 : decode prog_9_method_39_code 296 = .ok (.aload_n 0, 1) := by decide +kernel
theorem dX7_count_297 : decode prog_9_method_39_code 297 = .ok (.getfield 129, 3) := by decide +kernel
theorem dX7_count_300 : decode prog_9_method_39_code 300 = .ok (.ireturn, 1) := by decide +kernel
theorem dX7_count_301 : decode prog_9_method_39_code 301 = .ok (.aload_n 0, 1) := by decide +kernel
theorem dX7_count_302 : decode prog_9_method_39_code 302 = .ok (.getfield 132, 3) := by decide +kernel
theorem dX7_count_305 : decode prog_9_method_39_code 305 = .ok (.ireturn, 1) := by decide +kernel
theorem dX7_count_306 : decode prog_9_method_39_code 306 = .ok (.aload_n 0, 1) := by decide +kernel
theorem dX7_count_307 : decode prog_9_method_39_code 307 = .ok (.getfield 135, 3) := by decide +kernel
theorem dX7_count_310 : decode prog_9_method_39_code 310 = .ok (.ireturn, 1) := by decide +kernel
theorem dX7_count_311 : decode prog_9_method_39_code 311 = .ok (.aload_n 0, 1) := by decide +kernel
theorem dX7_count_312 : decode prog_9_method_39_code 312 = .ok (.getfield 83, 3) := by decide +kernel
theorem dX7_count_315 : decode prog_9_method_39_code 315 = .ok (.sipush 144, 3) := by decide +kernel
theorem dX7_count_318 : decode prog_9_method_39_code 318 = .ok (.iaload, 1) := by decide +kernel
theorem dX7_count_319 : decode prog_9_method_39_code 319 = .ok (.ireturn, 1) := by decide +kernel
theorem dX7_count_320 : decode prog_9_method_39_code 320 = .ok (.aload_n 0, 1) := by decide +kernel
theorem dX7_count_321 : decode prog_9_method_39_code 321 = .ok (.getfield 86, 3) := by decide +kernel
theorem dX7_count_324 : decode prog_9_method_39_code 324 = .ok (.sipush 144, 3) := by decide +kernel
theorem dX7_count_327 : decode prog_9_method_39_code 327 = .ok (.iaload, 1) := by decide +kernel
theorem dX7_count_328 : decode prog_9_method_39_code 328 = .ok (.ireturn, 1) := by decide +kernel
theorem dX7_count_329 : decode prog_9_method_39_code 329 = .ok (.aload_n 0, 1) := by decide +kernel
theorem dX7_count_330 : decode prog_9_method_39_code 330 = .ok (.getfield 68, 3) := by decide +kernel
theorem dX7_count_333 : decode prog_9_method_39_code 333 = .ok (.iconst 0, 1) := by decide +kernel
theorem dX7_count_334 : decode prog_9_method_39_code 334 = .ok (.iaload, 1) := by decide +kernel
theorem dX7_count_335 : decode prog_9_method_39_code 335 = .ok (.ireturn, 1) := by decide +kernel
theorem dX7_count_336 : decode prog_9_method_39_code 336 = .ok (.aload_n 0, 1) := by decide +kernel
theorem dX7_count_337 : decode prog_9_method_39_code 337 = .ok (.getfield 68, 3) := by decide +kernel
theorem dX7_count_340 : decode prog_9_method_39_code 340 = .ok (.iconst 1, 1) := by decide +kernel
theorem dX7_count_341 : decode prog_9_method_39_code 341 = .ok (.iaload, 1) := by decide +kernel
theorem dX7_count_342 : decode prog_9_method_39_code 342 = .ok (.ireturn, 1) := by decide +kernel
theorem dX7_count_343 : decode prog_9_method_39_code 343 = .ok (.aload_n 0, 1) := by decide +kernel
theorem dX7_count_344 : decode prog_9_method_39_code 344 = .ok (.getfield 71, 3) := by decide +kernel
theorem dX7_count_347 : decode prog_9_method_39_code 347 = .ok (.sipush 144, 3) := by decide +kernel
theorem dX7_count_350 : decode prog_9_method_39_code 350 = .ok (.iaload, 1) := by decide +kernel
theorem dX7_count_351 : decode prog_9_method_39_code 351 = .ok (.ifCond .ne 7, 3) := by decide +kernel
theorem dX7_count_354 : decode prog_9_method_39_code 354 = .ok (.iconst 1, 1) := by decide +kernel
theorem dX7_count_355 : decode prog_9_method_39_code 355 = .ok (.goto 4, 3) := by decide +kernel
theorem dX7_count_358 : decode prog_9_method_39_code 358 = .ok (.iconst 0, 1) := by decide +kernel
theorem dX7_count_359 : decode prog_9_method_39_code 359 = .ok (.ireturn, 1) := by decide +kernel
