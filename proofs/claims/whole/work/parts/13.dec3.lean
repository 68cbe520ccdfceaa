theorem dPR_settle_134 : decode prog_5_method_7_code 134 = .ok (.goto 134, 3) := by decide +kernel
theorem dPR_settle_137 : decode prog_5_method_7_code 137 = .ok (.aload_n 0, 1) := by decide +kernel
theorem dPR_settle_138 : decode prog_5_method_7_code 138 = .ok (.getfield 57, 3) := by decide +kernel
theorem dPR_settle_141 : decode prog_5_method_7_code 141 = .ok (.ifnull 127, 3) := by decide +kernel
theorem dPR_settle_144 : decode prog_5_method_7_code 144 = .ok (.aload_n 0, 1) := by decide +kernel
theorem dPR_settle_145 : decode prog_5_method_7_code 145 = .ok (.getfield 15, 3) := by decide +kernel
theorem dPR_settle_148 : decode prog_5_method_7_code 148 = .ok (.aload_n 0, 1) := by decide +kernel
theorem dPR_settle_149 : decode prog_5_method_7_code 149 = .ok (.getfield 57, 3) := by decide +kernel
theorem dPR_settle_152 : decode prog_5_method_7_code 152 = .ok (.aload_n 0, 1) := by decide +kernel
theorem dPR_settle_153 : decode prog_5_method_7_code 153 = .ok (.getfield 64, 3) := by decide +kernel
theorem dPR_settle_156 : decode prog_5_method_7_code 156 = .ok (.aload_n 0, 1) := by decide +kernel
theorem dPR_settle_157 : decode prog_5_method_7_code 157 = .ok (.getfield 68, 3) := by decide +kernel
theorem dPR_settle_160 : decode prog_5_method_7_code 160 = .ok (.invokevirtual 71, 3) := by decide +kernel
theorem dPR_settle_163 : decode prog_5_method_7_code 163 = .ok (.goto 105, 3) := by decide +kernel
theorem dPR_settle_166 : decode prog_5_method_7_code 166 = .ok (.aload_n 0, 1) := by decide +kernel
theorem dPR_settle_167 : decode prog_5_method_7_code 167 = .ok (.getfield 15, 3) := by decide +kernel
theorem dPR_settle_170 : decode prog_5_method_7_code 170 = .ok (.iconst 2, 1) := by decide +kernel
theorem dPR_settle_171 : decode prog_5_method_7_code 171 = .ok (.aload_n 0, 1) := by decide +kernel
theorem dPR_settle_172 : decode prog_5_method_7_code 172 = .ok (.getfield 117, 3) := by decide +kernel
theorem dPR_settle_175 : decode prog_5_method_7_code 175 = .ok (.invokevirtual 171, 3) := by decide +kernel
theorem dPR_settle_178 : decode prog_5_method_7_code 178 = .ok (.pop, 1) := by decide +kernel
theorem dPR_settle_179 : decode prog_5_method_7_code 179 = .ok (.goto 89, 3) := by decide +kernel
theorem dPR_settle_182 : decode prog_5_method_7_code 182 = .ok (.aload_n 0, 1) := by decide +kernel
theorem dPR_settle_183 : decode prog_5_method_7_code 183 = .ok (.getfield 147, 3) := by decide +kernel
theorem dPR_settle_186 : decode prog_5_method_7_code 186 = .ok (.ifCond .eq 22, 3) := by decide +kernel
theorem dPR_settle_189 : decode prog_5_method_7_code 189 = .ok (.aload_n 0, 1) := by decide +kernel
theorem dPR_settle_190 : decode prog_5_method_7_code 190 = .ok (.getfield 15, 3) := by decide +kernel
theorem dPR_settle_193 : decode prog_5_method_7_code 193 = .ok (.aload_n 0, 1) := by decide +kernel
theorem dPR_settle_194 : decode prog_5_method_7_code 194 = .ok (.getfield 114, 3) := by decide +kernel
theorem dPR_settle_197 : decode prog_5_method_7_code 197 = .ok (.aload_n 0, 1) := by decide +kernel
theorem dPR_settle_198 : decode prog_5_method_7_code 198 = .ok (.getfield 175, 3) := by decide +kernel
theorem dPR_settle_201 : decode prog_5_method_7_code 201 = .ok (.aload_n 0, 1) := by decide +kernel
theorem dPR_settle_202 : decode prog_5_method_7_code 202 = .ok (.getfield 178, 3) := by decide +kernel
theorem dPR_settle_205 : decode prog_5_method_7_code 205 = .ok (.invokevirtual 181, 3) := by decide +kernel
theorem dPR_settle_208 : decode prog_5_method_7_code 208 = .ok (.aload_n 0, 1) := by decide +kernel
theorem dPR_settle_209 : decode prog_5_method_7_code 209 = .ok (.getfield 15, 3) := by decide +kernel
theorem dPR_settle_212 : decode prog_5_method_7_code 212 = .ok (.iconst 2, 1) := by decide +kernel
theorem dPR_settle_213 : decode prog_5_method_7_code 213 = .ok (.aload_n 0, 1) := by decide +kernel
theorem dPR_settle_214 : decode prog_5_method_7_code 214 = .ok (.getfield 117, 3) := by decide +kernel
theorem dPR_settle_217 : decode prog_5_method_7_code 217 = .ok (.invokevirtual 171, 3) := by decide +kernel
theorem dPR_settle_220 : decode prog_5_method_7_code 220 = .ok (.pop, 1) := by decide +kernel
theorem dPR_settle_221 : decode prog_5_method_7_code 221 = .ok (.goto 47, 3) := by decide +kernel
theorem dPR_settle_224 : decode prog_5_method_7_code 224 = .ok (.aload_n 0, 1) := by decide +kernel
theorem dPR_settle_225 : decode prog_5_method_7_code 225 = .ok (.getfield 15, 3) := by decide +kernel
theorem dPR_settle_228 : decode prog_5_method_7_code 228 = .ok (.iconst 3, 1) := by decide +kernel
theorem dPR_settle_229 : decode prog_5_method_7_code 229 = .ok (.aload_n 0, 1) := by decide +kernel
theorem dPR_settle_230 : decode prog_5_method_7_code 230 = .ok (.getfield 175, 3) := by decide +kernel
theorem dPR_settle_233 : decode prog_5_method_7_code 233 = .ok (.invokevirtual 171, 3) := by decide +kernel
theorem dPR_settle_236 : decode prog_5_method_7_code 236 = .ok (.pop, 1) := by decide +kernel
theorem dPR_settle_237 : decode prog_5_method_7_code 237 = .ok (.goto 31, 3) := by decide +kernel
theorem dPR_settle_240 : decode prog_5_method_7_code 240 = .ok (.aload_n 0, 1) := by decide +kernel
theorem dPR_settle_241 : decode prog_5_method_7_code 241 = .ok (.getfield 15, 3) := by decide +kernel
theorem dPR_settle_244 : decode prog_5_method_7_code 244 = .ok (.aload_n 0, 1) := by decide +kernel
theorem dPR_settle_245 : decode prog_5_method_7_code 245 = .ok (.getfield 175, 3) := by decide +kernel
theorem dPR_settle_248 : decode prog_5_method_7_code 248 = .ok (.invokevirtual 184, 3) := by decide +kernel
theorem dPR_settle_251 : decode prog_5_method_7_code 251 = .ok (.goto 17, 3) := by decide +kernel
theorem dPR_settle_254 : decode prog_5_method_7_code 254 = .ok (.aload_n 0, 1) := by decide +kernel
theorem dPR_settle_255 : decode prog_5_method_7_code 255 = .ok (.getfield 15, 3) := by decide +kernel
theorem dPR_settle_258 : decode prog_5_method_7_code 258 = .ok (.aload_n 0, 1) := by decide +kernel
theorem dPR_settle_259 : decode prog_5_method_7_code 259 = .ok (.getfield 114, 3) := by decide +kernel
theorem dPR_settle_262 : decode prog_5_method_7_code 262 = .ok (.invokevirtual 187, 3) := by decide +kernel
theorem dPR_settle_265 : decode prog_5_method_7_code 265 = .ok (.goto 3, 3) := by decide +kernel
theorem dPR_settle_268 : decode prog_5_method_7_code 268 = .ok (.return_, 1) := by decide +kernel
theorem dPR_step_0 : decode prog_5_method_3_code 0 = .ok (.aload_n 0, 1) := by decide +kernel
theorem dPR_step_1 : decode prog_5_method_3_code 1 = .ok (.aload_n 1, 1) := by decide +kernel
theorem dPR_step_2 : decode prog_5_method_3_code 2 = .ok (.invokevirtual 81, 3) := by decide +kernel
theorem dPR_step_5 : decode prog_5_method_3_code 5 = .ok (.aload_n 0, 1) := by decide +kernel
theorem dPR_step_6 : decode prog_5_method_3_code 6 = .ok (.getfield 40, 3) := by decide +kernel
theorem dPR_step_9 : decode prog_5_method_3_code 9 = .ok (.aload_n 0, 1) := by decide +kernel
theorem dPR_step_10 : decode prog_5_method_3_code 10 = .ok (.getfield 85, 3) := by decide +kernel
theorem dPR_step_13 : decode prog_5_method_3_code 13 = .ok (.invokevirtual 88, 3) := by decide +kernel
theorem dPR_step_16 : decode prog_5_method_3_code 16 = .ok (.aload_n 0, 1) := by decide +kernel
theorem dPR_step_17 : decode prog_5_method_3_code 17 = .ok (.getfield 9, 3) := by decide +kernel
theorem dPR_step_20 : decode prog_5_method_3_code 20 = .ok (.invokevirtual 53, 3) := by decide +kernel
theorem dPR_step_23 : decode prog_5_method_3_code 23 = .ok (.ifCond .ne 83, 3) := by decide +kernel
theorem dPR_step_26 : decode prog_5_method_3_code 26 = .ok (.aload_n 0, 1) := by decide +kernel
theorem dPR_step_27 : decode prog_5_method_3_code 27 = .ok (.getfield 40, 3) := by decide +kernel
theorem dPR_step_30 : decode prog_5_method_3_code 30 = .ok (.getfield 92, 3) := by decide +kernel
theorem dPR_step_33 : decode prog_5_method_3_code 33 = .ok (.bipush 9, 2) := by decide +kernel
theorem dPR_step_35 : decode prog_5_method_3_code 35 = .ok (.if_icmp .ge 10, 3) := by decide +kernel
theorem dPR_step_38 : decode prog_5_method_3_code 38 = .ok (.aload_n 0, 1) := by decide +kernel
theorem dPR_step_39 : decode prog_5_method_3_code 39 = .ok (.invokevirtual 95, 3) := by decide +kernel
theorem dPR_step_42 : decode prog_5_method_3_code 42 = .ok (.goto 64, 3) := by decide +kernel
theorem dPR_step_45 : decode prog_5_method_3_code 45 = .ok (.aload_n 0, 1) := by decide +kernel
theorem dPR_step_46 : decode prog_5_method_3_code 46 = .ok (.getfield 40, 3) := by decide +kernel
theorem dPR_step_49 : decode prog_5_method_3_code 49 = .ok (.getfield 92, 3) := by decide +kernel
theorem dPR_step_52 : decode prog_5_method_3_code 52 = .ok (.bipush 17, 2) := by decide +kernel
theorem dPR_step_54 : decode prog_5_method_3_code 54 = .ok (.if_icmp .ge 10, 3) := by decide +kernel
theorem dPR_step_57 : decode prog_5_method_3_code 57 = .ok (.aload_n 0, 1) := by decide +kernel
theorem dPR_step_58 : decode prog_5_method_3_code 58 = .ok (.invokevirtual 98, 3) := by decide +kernel
theorem dPR_step_61 : decode prog_5_method_3_code 61 = .ok (.goto 45, 3) := by decide +kernel
theorem dPR_step_64 : decode prog_5_method_3_code 64 = .ok (.aload_n 0, 1) := by decide +kernel
theorem dPR_step_65 : decode prog_5_method_3_code 65 = .ok (.getfield 40, 3) := by decide +kernel
theorem dPR_step_68 : decode prog_5_method_3_code 68 = .ok (.getfield 92, 3) := by decide +kernel
theorem dPR_step_71 : decode prog_5_method_3_code 71 = .ok (.bipush 25, 2) := by decide +kernel
theorem dPR_step_73 : decode prog_5_method_3_code 73 = .ok (.if_icmp .ge 10, 3) := by decide +kernel
theorem dPR_step_76 : decode prog_5_method_3_code 76 = .ok (.aload_n 0, 1) := by decide +kernel
theorem dPR_step_77 : decode prog_5_method_3_code 77 = .ok (.invokevirtual 101, 3) := by decide +kernel
theorem dPR_step_80 : decode prog_5_method_3_code 80 = .ok (.goto 26, 3) := by decide +kernel
theorem dPR_step_83 : decode prog_5_method_3_code 83 = .ok (.aload_n 0, 1) := by decide +kernel
theorem dPR_step_84 : decode prog_5_method_3_code 84 = .ok (.getfield 40, 3) := by decide +kernel
theorem dPR_step_87 : decode prog_5_method_3_code 87 = .ok (.getfield 92, 3) := by decide +kernel
theorem dPR_step_90 : decode prog_5_method_3_code 90 = .ok (.bipush 40, 2) := by decide +kernel
theorem dPR_step_92 : decode prog_5_method_3_code 92 = .ok (.if_icmp .ge 10, 3) := by decide +kernel
theorem dPR_step_95 : decode prog_5_method_3_code 95 = .ok (.aload_n 0, 1) := by decide +kernel
theorem dPR_step_96 : decode prog_5_method_3_code 96 = .ok (.invokevirtual 104, 3) := by decide +kernel
theorem dPR_step_99 : decode prog_5_method_3_code 99 = .ok (.goto 7, 3) := by decide +kernel
theorem dPR_step_102 : decode prog_5_method_3_code 102 = .ok (.aload_n 0, 1) := by decide +kernel
theorem dPR_step_103 : decode prog_5_method_3_code 103 = .ok (.invokevirtual 107, 3) := by decide +kernel
theorem dPR_step_106 : decode prog_5_method_3_code 106 = .ok (.aload_n 0, 1) := by decide +kernel
theorem dPR_step_107 : decode prog_5_method_3_code 107 = .ok (.getfield 110, 3) := by decide +kernel
theorem dPR_step_110 : decode prog_5_method_3_code 110 = .ok (.ifCond .eq 19, 3) := by decide +kernel
theorem dPR_step_113 : decode prog_5_method_3_code 113 = .ok (.aload_n 0, 1) := by decide +kernel
theorem dPR_step_114 : decode prog_5_method_3_code 114 = .ok (.getfield 15, 3) := by decide +kernel
theorem dPR_step_117 : decode prog_5_method_3_code 117 = .ok (.aload_n 0, 1) := by decide +kernel
theorem dPR_step_118 : decode prog_5_method_3_code 118 = .ok (.getfield 114, 3) := by decide +kernel
theorem dPR_step_121 : decode prog_5_method_3_code 121 = .ok (.aload_n 0, 1) := by decide +kernel
theorem dPR_step_122 : decode prog_5_method_3_code 122 = .ok (.getfield 117, 3) := by decide +kernel
theorem dPR_step_125 : decode prog_5_method_3_code 125 = .ok (.invokevirtual 120, 3) := by decide +kernel
theorem dPR_step_128 : decode prog_5_method_3_code 128 = .ok (.return_, 1) := by decide +kernel
theorem dPR_step_129 : decode prog_5_method_3_code 129 = .ok (.aload_n 0, 1) := by decide +kernel
theorem dPR_step_130 : decode prog_5_method_3_code 130 = .ok (.invokevirtual 124, 3) := by decide +kernel
theorem dPR_step_133 : decode prog_5_method_3_code 133 = .ok (.aload_n 0, 1) := by decide +kernel
theorem dPR_step_134 : decode prog_5_method_3_code 134 = .ok (.getfield 9, 3) := by decide +kernel
theorem dPR_step_137 : decode prog_5_method_3_code 137 = .ok (.invokevirtual 53, 3) := by decide +kernel
theorem dPR_step_140 : decode prog_5_method_3_code 140 = .ok (.ifCond .eq 29, 3) := by decide +kernel
theorem dPR_step_143 : decode prog_5_method_3_code 143 = .ok (.aload_n 0, 1) := by decide +kernel
theorem dPR_step_144 : decode prog_5_method_3_code 144 = .ok (.getfield 9, 3) := by decide +kernel
theorem dPR_step_147 : decode prog_5_method_3_code 147 = .ok (.invokevirtual 61, 3) := by decide +kernel
theorem dPR_step_150 : decode prog_5_method_3_code 150 = .ok (.aload_n 0, 1) := by decide +kernel
theorem dPR_step_151 : decode prog_5_method_3_code 151 = .ok (.getfield 15, 3) := by decide +kernel
theorem dPR_step_154 : decode prog_5_method_3_code 154 = .ok (.aload_n 0, 1) := by decide +kernel
theorem dPR_step_155 : decode prog_5_method_3_code 155 = .ok (.getfield 114, 3) := by decide +kernel
theorem dPR_step_158 : decode prog_5_method_3_code 158 = .ok (.aload_n 0, 1) := by decide +kernel
theorem dPR_step_159 : decode prog_5_method_3_code 159 = .ok (.getfield 9, 3) := by decide +kernel
theorem dPR_step_162 : decode prog_5_method_3_code 162 = .ok (.invokevirtual 127, 3) := by decide +kernel
theorem dPR_step_165 : decode prog_5_method_3_code 165 = .ok (.invokevirtual 131, 3) := by decide +kernel
theorem dPR_step_168 : decode prog_5_method_3_code 168 = .ok (.return_, 1) := by decide +kernel
theorem dPR_step_169 : decode prog_5_method_3_code 169 = .ok (.aload_n 0, 1) := by decide +kernel
theorem dPR_step_170 : decode prog_5_method_3_code 170 = .ok (.invokevirtual 134, 3) := by decide +kernel
theorem dPR_step_173 : decode prog_5_method_3_code 173 = .ok (.return_, 1) := by decide +kernel
theorem dME_makeOdd_0 : decode prog_4_method_14_code 0 = .ok (.iload_n 1, 1) := by decide +kernel
theorem dME_makeOdd_1 : decode prog_4_method_14_code 1 = .ok (.bipush 8, 2) := by decide +kernel
theorem dME_makeOdd_3 : decode prog_4_method_14_code 3 = .ok (.ishr, 1) := by decide +kernel
theorem dME_makeOdd_4 : decode prog_4_method_14_code 4 = .ok (.bipush 15, 2) := by decide +kernel
theorem dME_makeOdd_6 : decode prog_4_method_14_code 6 = .ok (.iand, 1) := by decide +kernel
theorem dME_makeOdd_7 : decode prog_4_method_14_code 7 = .ok (.istore_n 2, 1) := by decide +kernel
theorem dME_makeOdd_8 : decode prog_4_method_14_code 8 = .ok (.aload_n 0, 1) := by decide +kernel
theorem dME_makeOdd_9 : decode prog_4_method_14_code 9 = .ok (.getfield 15, 3) := by decide +kernel
theorem dME_makeOdd_12 : decode prog_4_method_14_code 12 = .ok (.iload_n 2, 1) := by decide +kernel
theorem dME_makeOdd_13 : decode prog_4_method_14_code 13 = .ok (.iaload, 1) := by decide +kernel
theorem dME_makeOdd_14 : decode prog_4_method_14_code 14 = .ok (.istore_n 3, 1) := by decide +kernel
theorem dME_makeOdd_15 : decode prog_4_method_14_code 15 = .ok (.aload_n 0, 1) := by decide +kernel
theorem dME_makeOdd_16 : decode prog_4_method_14_code 16 = .ok (.iload_n 1, 1) := by decide +kernel
theorem dME_makeOdd_17 : decode prog_4_method_14_code 17 = .ok (.invokevirtual 32, 3) := by decide +kernel
theorem dME_makeOdd_20 : decode prog_4_method_14_code 20 = .ok (.istore 4, 2) := by decide +kernel
theorem dME_makeOdd_22 : decode prog_4_method_14_code 22 = .ok (.iload_n 3, 1) := by decide +kernel
theorem dME_makeOdd_23 : decode prog_4_method_14_code 23 = .ok (.iconst (-1), 1) := by decide +kernel
theorem dME_makeOdd_24 : decode prog_4_method_14_code 24 = .ok (.if_icmp .eq 19, 3) := by decide +kernel
theorem dME_makeOdd_27 : decode prog_4_method_14_code 27 = .ok (.aload_n 0, 1) := by decide +kernel
theorem dME_makeOdd_28 : decode prog_4_method_14_code 28 = .ok (.getfield 18, 3) := by decide +kernel
theorem dME_makeOdd_31 : decode prog_4_method_14_code 31 = .ok (.iload_n 2, 1) := by decide +kernel
theorem dME_makeOdd_32 : decode prog_4_method_14_code 32 = .ok (.baload, 1) := by decide +kernel
theorem dME_makeOdd_33 : decode prog_4_method_14_code 33 = .ok (.ifCond .ne 10, 3) := by decide +kernel
theorem dME_makeOdd_36 : decode prog_4_method_14_code 36 = .ok (.iload 4, 2) := by decide +kernel
theorem dME_makeOdd_38 : decode prog_4_method_14_code 38 = .ok (.iconst 1, 1) := by decide +kernel
theorem dME_makeOdd_39 : decode prog_4_method_14_code 39 = .ok (.iand, 1) := by decide +kernel
theorem dME_makeOdd_40 : decode prog_4_method_14_code 40 = .ok (.ifCond .eq 4, 3) := by decide +kernel
theorem dME_makeOdd_43 : decode prog_4_method_14_code 43 = .ok (.return_, 1) := by decide +kernel
theorem dME_makeOdd_44 : decode prog_4_method_14_code 44 = .ok (.aload_n 0, 1) := by decide +kernel
theorem dME_makeOdd_45 : decode prog_4_method_14_code 45 = .ok (.iload_n 1, 1) := by decide +kernel
theorem dME_makeOdd_46 : decode prog_4_method_14_code 46 = .ok (.iload 4, 2) := by decide +kernel
theorem dME_makeOdd_48 : decode prog_4_method_14_code 48 = .ok (.iconst 1, 1) := by decide +kernel
theorem dME_makeOdd_49 : decode prog_4_method_14_code 49 = .ok (.iadd, 1) := by decide +kernel
theorem dME_makeOdd_50 : decode prog_4_method_14_code 50 = .ok (.invokevirtual 36, 3) := by decide +kernel
theorem dME_makeOdd_53 : decode prog_4_method_14_code 53 = .ok (.aload_n 0, 1) := by decide +kernel
theorem dME_makeOdd_54 : decode prog_4_method_14_code 54 = .ok (.getfield 22, 3) := by decide +kernel
theorem dME_makeOdd_57 : decode prog_4_method_14_code 57 = .ok (.iload_n 3, 1) := by decide +kernel
theorem dME_makeOdd_58 : decode prog_4_method_14_code 58 = .ok (.iconst 3, 1) := by decide +kernel
theorem dME_makeOdd_59 : decode prog_4_method_14_code 59 = .ok (.iastore, 1) := by decide +kernel
theorem dME_makeOdd_60 : decode prog_4_method_14_code 60 = .ok (.return_, 1) := by decide +kernel
theorem dRO_leastTimeout_0 : decode prog_6_method_16_code 0 = .ok (.iconst 0, 1) := by decide +kernel
theorem dRO_leastTimeout_1 : decode prog_6_method_16_code 1 = .ok (.istore_n 1, 1) := by decide +kernel
theorem dRO_leastTimeout_2 : decode prog_6_method_16_code 2 = .ok (.iconst 0, 1) := by decide +kernel
theorem dRO_leastTimeout_3 : decode prog_6_method_16_code 3 = .ok (.istore_n 2, 1) := by decide +kernel
theorem dRO_leastTimeout_4 : decode prog_6_method_16_code 4 = .ok (.iload_n 2, 1) := by decide +kernel
theorem dRO_leastTimeout_5 : decode prog_6_method_16_code 5 = .ok (.bipush 6, 2) := by decide +kernel
theorem dRO_leastTimeout_7 : decode prog_6_method_16_code 7 = .ok (.if_icmp .ge 34, 3) := by decide +kernel
theorem dRO_leastTimeout_10 : decode prog_6_method_16_code 10 = .ok (.aload_n 0, 1) := by decide +kernel
theorem dRO_leastTimeout_11 : decode prog_6_method_16_code 11 = .ok (.getfield 13, 3) := by decide +kernel
theorem dRO_leastTimeout_14 : decode prog_6_method_16_code 14 = .ok (.iload_n 2, 1) := by decide +kernel
theorem dRO_leastTimeout_15 : decode prog_6_method_16_code 15 = .ok (.aaload, 1) := by decide +kernel
theorem dRO_leastTimeout_16 : decode prog_6_method_16_code 16 = .ok (.getfield 65, 3) := by decide +kernel
theorem dRO_leastTimeout_19 : decode prog_6_method_16_code 19 = .ok (.istore_n 3, 1) := by decide +kernel
theorem dRO_leastTimeout_20 : decode prog_6_method_16_code 20 = .ok (.iload_n 3, 1) := by decide +kernel
theorem dRO_leastTimeout_21 : decode prog_6_method_16_code 21 = .ok (.ifCond .le 14, 3) := by decide +kernel
theorem dRO_leastTimeout_24 : decode prog_6_method_16_code 24 = .ok (.iload_n 1, 1) := by decide +kernel
theorem dRO_leastTimeout_25 : decode prog_6_method_16_code 25 = .ok (.ifCond .eq 8, 3) := by decide +kernel
theorem dRO_leastTimeout_28 : decode prog_6_method_16_code 28 = .ok (.iload_n 3, 1) := by decide +kernel
theorem dRO_leastTimeout_29 : decode prog_6_method_16_code 29 = .ok (.iload_n 1, 1) := by decide +kernel
theorem dRO_leastTimeout_30 : decode prog_6_method_16_code 30 = .ok (.if_icmp .ge 5, 3) := by decide +kernel
theorem dRO_leastTimeout_33 : decode prog_6_method_16_code 33 = .ok (.iload_n 3, 1) := by decide +kernel
theorem dRO_leastTimeout_34 : decode prog_6_method_16_code 34 = .ok (.istore_n 1, 1) := by decide +kernel
theorem dRO_leastTimeout_35 : decode prog_6_method_16_code 35 = .ok (.iinc 2 1, 3) := by decide +kernel
theorem dRO_leastTimeout_38 : decode prog_6_method_16_code 38 = .ok (.goto (-34), 3) := by decide +kernel
theorem dRO_leastTimeout_41 : decode prog_6_method_16_code 41 = .ok (.iload_n 1, 1) := by decide +kernel
theorem dRO_leastTimeout_42 : decode prog_6_method_16_code 42 = .ok (.ireturn, 1) := by decide +kernel
theorem dRO_lowerTimeouts_0 : decode prog_6_method_17_code 0 = .ok (.iconst 0, 1) := by decide +kernel
theorem dRO_lowerTimeouts_1 : decode prog_6_method_17_code 1 = .ok (.istore_n 2, 1) := by decide +kernel
theorem dRO_lowerTimeouts_2 : decode prog_6_method_17_code 2 = .ok (.iconst 0, 1) := by decide +kernel
theorem dRO_lowerTimeouts_3 : decode prog_6_method_17_code 3 = .ok (.istore_n 3, 1) := by decide +kernel
theorem dRO_lowerTimeouts_4 : decode prog_6_method_17_code 4 = .ok (.iload_n 3, 1) := by decide +kernel
theorem dRO_lowerTimeouts_5 : decode prog_6_method_17_code 5 = .ok (.bipush 6, 2) := by decide +kernel
theorem dRO_lowerTimeouts_7 : decode prog_6_method_17_code 7 = .ok (.if_icmp .ge 53, 3) := by decide +kernel
theorem dRO_lowerTimeouts_10 : decode prog_6_method_17_code 10 = .ok (.aload_n 0, 1) := by decide +kernel
theorem dRO_lowerTimeouts_11 : decode prog_6_method_17_code 11 = .ok (.getfield 13, 3) := by decide +kernel
theorem dRO_lowerTimeouts_14 : decode prog_6_method_17_code 14 = .ok (.iload_n 3, 1) := by decide +kernel
theorem dRO_lowerTimeouts_15 : decode prog_6_method_17_code 15 = .ok (.aaload, 1) := by decide +kernel
theorem dRO_lowerTimeouts_16 : decode prog_6_method_17_code 16 = .ok (.astore 4, 2) := by decide +kernel
theorem dRO_lowerTimeouts_18 : decode prog_6_method_17_code 18 = .ok (.aload 4, 2) := by decide +kernel
theorem dRO_lowerTimeouts_20 : decode prog_6_method_17_code 20 = .ok (.getfield 65, 3) := by decide +kernel
theorem dRO_lowerTimeouts_23 : decode prog_6_method_17_code 23 = .ok (.ifCond .le 31, 3) := by decide +kernel
theorem dRO_lowerTimeouts_26 : decode prog_6_method_17_code 26 = .ok (.aload 4, 2) := by decide +kernel
theorem dRO_lowerTimeouts_28 : decode prog_6_method_17_code 28 = .ok (.dup, 1) := by decide +kernel
theorem dRO_lowerTimeouts_29 : decode prog_6_method_17_code 29 = .ok (.getfield 65, 3) := by decide +kernel
theorem dRO_lowerTimeouts_32 : decode prog_6_method_17_code 32 = .ok (.iload_n 1, 1) := by decide +kernel
theorem dRO_lowerTimeouts_33 : decode prog_6_method_17_code 33 = .ok (.isub, 1) := by decide +kernel
theorem dRO_lowerTimeouts_34 : decode prog_6_method_17_code 34 = .ok (.putfield 65, 3) := by decide +kernel
theorem dRO_lowerTimeouts_37 : decode prog_6_method_17_code 37 = .ok (.aload 4, 2) := by decide +kernel
theorem dRO_lowerTimeouts_39 : decode prog_6_method_17_code 39 = .ok (.getfield 65, 3) := by decide +kernel
theorem dRO_lowerTimeouts_42 : decode prog_6_method_17_code 42 = .ok (.ifCond .ne 12, 3) := by decide +kernel
theorem dRO_lowerTimeouts_45 : decode prog_6_method_17_code 45 = .ok (.aload_n 0, 1) := by decide +kernel
theorem dRO_lowerTimeouts_46 : decode prog_6_method_17_code 46 = .ok (.aload 4, 2) := by decide +kernel
theorem dRO_lowerTimeouts_48 : decode prog_6_method_17_code 48 = .ok (.invokevirtual 58, 3) := by decide +kernel
theorem dRO_lowerTimeouts_51 : decode prog_6_method_17_code 51 = .ok (.iinc 2 1, 3) := by decide +kernel
theorem dRO_lowerTimeouts_54 : decode prog_6_method_17_code 54 = .ok (.iinc 3 1, 3) := by decide +kernel
theorem dRO_lowerTimeouts_57 : decode prog_6_method_17_code 57 = .ok (.goto (-53), 3) := by decide +kernel
theorem dRO_lowerTimeouts_60 : decode prog_6_method_17_code 60 = .ok (.iload_n 2, 1) := by decide +kernel
theorem dRO_lowerTimeouts_61 : decode prog_6_method_17_code 61 = .ok (.ireturn, 1) := by decide +kernel
theorem dRO_passTicks_0 : decode prog_6_method_15_code 0 = .ok (.iload_n 1, 1) := by decide +kernel
theorem dRO_passTicks_1 : decode prog_6_method_15_code 1 = .ok (.istore_n 2, 1) := by decide +kernel
theorem dRO_passTicks_2 : decode prog_6_method_15_code 2 = .ok (.iconst 0, 1) := by decide +kernel
theorem dRO_passTicks_3 : decode prog_6_method_15_code 3 = .ok (.istore_n 3, 1) := by decide +kernel
theorem dRO_passTicks_4 : decode prog_6_method_15_code 4 = .ok (.iconst 0, 1) := by decide +kernel
theorem dRO_passTicks_5 : decode prog_6_method_15_code 5 = .ok (.istore 4, 2) := by decide +kernel
theorem dRO_passTicks_7 : decode prog_6_method_15_code 7 = .ok (.iload 4, 2) := by decide +kernel
theorem dRO_passTicks_9 : decode prog_6_method_15_code 9 = .ok (.bipush 6, 2) := by decide +kernel
theorem dRO_passTicks_11 : decode prog_6_method_15_code 11 = .ok (.if_icmp .ge 43, 3) := by decide +kernel
theorem dRO_passTicks_14 : decode prog_6_method_15_code 14 = .ok (.aload_n 0, 1) := by decide +kernel
theorem dRO_passTicks_15 : decode prog_6_method_15_code 15 = .ok (.invokevirtual 75, 3) := by decide +kernel
theorem dRO_passTicks_18 : decode prog_6_method_15_code 18 = .ok (.istore 5, 2) := by decide +kernel
theorem dRO_passTicks_20 : decode prog_6_method_15_code 20 = .ok (.iload 5, 2) := by decide +kernel
theorem dRO_passTicks_22 : decode prog_6_method_15_code 22 = .ok (.ifCond .eq 32, 3) := by decide +kernel
theorem dRO_passTicks_25 : decode prog_6_method_15_code 25 = .ok (.iload 5, 2) := by decide +kernel
theorem dRO_passTicks_27 : decode prog_6_method_15_code 27 = .ok (.iload_n 2, 1) := by decide +kernel
theorem dRO_passTicks_28 : decode prog_6_method_15_code 28 = .ok (.if_icmp .le 6, 3) := by decide +kernel
theorem dRO_passTicks_31 : decode prog_6_method_15_code 31 = .ok (.goto 23, 3) := by decide +kernel
theorem dRO_passTicks_34 : decode prog_6_method_15_code 34 = .ok (.iload_n 3, 1) := by decide +kernel
theorem dRO_passTicks_35 : decode prog_6_method_15_code 35 = .ok (.aload_n 0, 1) := by decide +kernel
theorem dRO_passTicks_36 : decode prog_6_method_15_code 36 = .ok (.iload 5, 2) := by decide +kernel
theorem dRO_passTicks_38 : decode prog_6_method_15_code 38 = .ok (.invokevirtual 78, 3) := by decide +kernel
theorem dRO_passTicks_41 : decode prog_6_method_15_code 41 = .ok (.iadd, 1) := by decide +kernel
theorem dRO_passTicks_42 : decode prog_6_method_15_code 42 = .ok (.istore_n 3, 1) := by decide +kernel
theorem dRO_passTicks_43 : decode prog_6_method_15_code 43 = .ok (.iload_n 2, 1) := by decide +kernel
theorem dRO_passTicks_44 : decode prog_6_method_15_code 44 = .ok (.iload 5, 2) := by decide +kernel
theorem dRO_passTicks_46 : decode prog_6_method_15_code 46 = .ok (.isub, 1) := by decide +kernel
theorem dRO_passTicks_47 : decode prog_6_method_15_code 47 = .ok (.istore_n 2, 1) := by decide +kernel
theorem dRO_passTicks_48 : decode prog_6_method_15_code 48 = .ok (.iinc 4 1, 3) := by decide +kernel
theorem dRO_passTicks_51 : decode prog_6_method_15_code 51 = .ok (.goto (-44), 3) := by decide +kernel
theorem dRO_passTicks_54 : decode prog_6_method_15_code 54 = .ok (.iload_n 3, 1) := by decide +kernel
theorem dRO_passTicks_55 : decode prog_6_method_15_code 55 = .ok (.aload_n 0, 1) := by decide +kernel
theorem dRO_passTicks_56 : decode prog_6_method_15_code 56 = .ok (.iload_n 2, 1) := by decide +kernel
theorem dRO_passTicks_57 : decode prog_6_method_15_code 57 = .ok (.invokevirtual 78, 3) := by decide +kernel
theorem dRO_passTicks_60 : decode prog_6_method_15_code 60 = .ok (.iadd, 1) := by decide +kernel
theorem dRO_passTicks_61 : decode prog_6_method_15_code 61 = .ok (.ireturn, 1) := by decide +kernel
theorem dMO_thrown_0 : decode prog_10_method_2_code 0 = .ok (.aload_n 0, 1) := by decide +kernel
theorem dMO_thrown_1 : decode prog_10_method_2_code 1 = .ok (.getfield 63, 3) := by decide +kernel
theorem dMO_thrown_4 : decode prog_10_method_2_code 4 = .ok (.ireturn, 1) := by decide +kernel
theorem dMO_first_0 : decode prog_10_method_28_code 0 = .ok (.iconst (-1), 1) := by decide +kernel
theorem dMO_first_1 : decode prog_10_method_28_code 1 = .ok (.istore_n 1, 1) := by decide +kernel
theorem dMO_first_2 : decode prog_10_method_28_code 2 = .ok (.iconst 0, 1) := by decide +kernel
theorem dMO_first_3 : decode prog_10_method_28_code 3 = .ok (.istore_n 2, 1) := by decide +kernel
theorem dMO_first_4 : decode prog_10_method_28_code 4 = .ok (.iload_n 2, 1) := by decide +kernel
theorem dMO_first_5 : decode prog_10_method_28_code 5 = .ok (.bipush 6, 2) := by decide +kernel
theorem dMO_first_7 : decode prog_10_method_28_code 7 = .ok (.if_icmp .ge 74, 3) := by decide +kernel
theorem dMO_first_10 : decode prog_10_method_28_code 10 = .ok (.aload_n 0, 1) := by decide +kernel
theorem dMO_first_11 : decode prog_10_method_28_code 11 = .ok (.getfield 23, 3) := by decide +kernel
theorem dMO_first_14 : decode prog_10_method_28_code 14 = .ok (.iload_n 2, 1) := by decide +kernel
theorem dMO_first_15 : decode prog_10_method_28_code 15 = .ok (.iaload, 1) := by decide +kernel
theorem dMO_first_16 : decode prog_10_method_28_code 16 = .ok (.iconst 1, 1) := by decide +kernel
theorem dMO_first_17 : decode prog_10_method_28_code 17 = .ok (.if_icmp .eq 6, 3) := by decide +kernel
theorem dMO_first_20 : decode prog_10_method_28_code 20 = .ok (.goto 55, 3) := by decide +kernel
theorem dMO_first_23 : decode prog_10_method_28_code 23 = .ok (.iload_n 1, 1) := by decide +kernel
theorem dMO_first_24 : decode prog_10_method_28_code 24 = .ok (.ifCond .lt 49, 3) := by decide +kernel
theorem dMO_first_27 : decode prog_10_method_28_code 27 = .ok (.aload_n 0, 1) := by decide +kernel
theorem dMO_first_28 : decode prog_10_method_28_code 28 = .ok (.getfield 26, 3) := by decide +kernel
theorem dMO_first_31 : decode prog_10_method_28_code 31 = .ok (.iload_n 2, 1) := by decide +kernel
theorem dMO_first_32 : decode prog_10_method_28_code 32 = .ok (.iaload, 1) := by decide +kernel
theorem dMO_first_33 : decode prog_10_method_28_code 33 = .ok (.aload_n 0, 1) := by decide +kernel
theorem dMO_first_34 : decode prog_10_method_28_code 34 = .ok (.getfield 26, 3) := by decide +kernel
theorem dMO_first_37 : decode prog_10_method_28_code 37 = .ok (.iload_n 1, 1) := by decide +kernel
theorem dMO_first_38 : decode prog_10_method_28_code 38 = .ok (.iaload, 1) := by decide +kernel
theorem dMO_first_39 : decode prog_10_method_28_code 39 = .ok (.if_icmp .gt 34, 3) := by decide +kernel
theorem dMO_first_42 : decode prog_10_method_28_code 42 = .ok (.aload_n 0, 1) := by decide +kernel
theorem dMO_first_43 : decode prog_10_method_28_code 43 = .ok (.getfield 26, 3) := by decide +kernel
theorem dMO_first_46 : decode prog_10_method_28_code 46 = .ok (.iload_n 2, 1) := by decide +kernel
theorem dMO_first_47 : decode prog_10_method_28_code 47 = .ok (.iaload, 1) := by decide +kernel
theorem dMO_first_48 : decode prog_10_method_28_code 48 = .ok (.aload_n 0, 1) := by decide +kernel
theorem dMO_first_49 : decode prog_10_method_28_code 49 = .ok (.getfield 26, 3) := by decide +kernel
theorem dMO_first_52 : decode prog_10_method_28_code 52 = .ok (.iload_n 1, 1) := by decide +kernel
theorem dMO_first_53 : decode prog_10_method_28_code 53 = .ok (.iaload, 1) := by decide +kernel
theorem dMO_first_54 : decode prog_10_method_28_code 54 = .ok (.if_icmp .ne 21, 3) := by decide +kernel
theorem dMO_first_57 : decode prog_10_method_28_code 57 = .ok (.aload_n 0, 1) := by decide +kernel
theorem dMO_first_58 : decode prog_10_method_28_code 58 = .ok (.getfield 47, 3) := by decide +kernel
theorem dMO_first_61 : decode prog_10_method_28_code 61 = .ok (.iload_n 2, 1) := by decide +kernel
theorem dMO_first_62 : decode prog_10_method_28_code 62 = .ok (.laload, 1) := by decide +kernel
theorem dMO_first_63 : decode prog_10_method_28_code 63 = .ok (.aload_n 0, 1) := by decide +kernel
theorem dMO_first_64 : decode prog_10_method_28_code 64 = .ok (.getfield 47, 3) := by decide +kernel
theorem dMO_first_67 : decode prog_10_method_28_code 67 = .ok (.iload_n 1, 1) := by decide +kernel
theorem dMO_first_68 : decode prog_10_method_28_code 68 = .ok (.laload, 1) := by decide +kernel
theorem dMO_first_69 : decode prog_10_method_28_code 69 = .ok (.lcmp, 1) := by decide +kernel
theorem dMO_first_70 : decode prog_10_method_28_code 70 = .ok (.ifCond .ge 5, 3) := by decide +kernel
theorem dMO_first_73 : decode prog_10_method_28_code 73 = .ok (.iload_n 2, 1) := by decide +kernel
theorem dMO_first_74 : decode prog_10_method_28_code 74 = .ok (.istore_n 1, 1) := by decide +kernel
theorem dMO_first_75 : decode prog_10_method_28_code 75 = .ok (.iinc 2 1, 3) := by decide +kernel
theorem dMO_first_78 : decode prog_10_method_28_code 78 = .ok (.goto (-74), 3) := by decide +kernel
theorem dMO_first_81 : decode prog_10_method_28_code 81 = .ok (.iload_n 1, 1) := by decide +kernel
theorem dMO_first_82 : decode prog_10_method_28_code 82 = .ok (.ireturn, 1) := by decide +kernel
theorem dMO_at_0 : decode prog_10_method_4_code 0 = .ok (.iload_n 1, 1) := by decide +kernel
theorem dMO_at_1 : decode prog_10_method_4_code 1 = .ok (.sipush 4095, 3) := by decide +kernel
theorem dMO_at_4 : decode prog_10_method_4_code 4 = .ok (.iand, 1) := by decide +kernel
theorem dMO_at_5 : decode prog_10_method_4_code 5 = .ok (.istore_n 2, 1) := by decide +kernel
theorem dMO_at_6 : decode prog_10_method_4_code 6 = .ok (.aload_n 0, 1) := by decide +kernel
theorem dMO_at_7 : decode prog_10_method_4_code 7 = .ok (.getfield 7, 3) := by decide +kernel
theorem dMO_at_10 : decode prog_10_method_4_code 10 = .ok (.iload_n 2, 1) := by decide +kernel
theorem dMO_at_11 : decode prog_10_method_4_code 11 = .ok (.sipush 256, 3) := by decide +kernel
theorem dMO_at_14 : decode prog_10_method_4_code 14 = .ok (.idiv, 1) := by decide +kernel
theorem dMO_at_15 : decode prog_10_method_4_code 15 = .ok (.iaload, 1) := by decide +kernel
theorem dMO_at_16 : decode prog_10_method_4_code 16 = .ok (.ifCond .ge 7, 3) := by decide +kernel
theorem dMO_at_19 : decode prog_10_method_4_code 19 = .ok (.iconst (-1), 1) := by decide +kernel
theorem dMO_at_20 : decode prog_10_method_4_code 20 = .ok (.goto 23, 3) := by decide +kernel
theorem dMO_at_23 : decode prog_10_method_4_code 23 = .ok (.sipush 256, 3) := by decide +kernel
theorem dMO_at_26 : decode prog_10_method_4_code 26 = .ok (.aload_n 0, 1) := by decide +kernel
theorem dMO_at_27 : decode prog_10_method_4_code 27 = .ok (.getfield 7, 3) := by decide +kernel
theorem dMO_at_30 : decode prog_10_method_4_code 30 = .ok (.iload_n 2, 1) := by decide +kernel
theorem dMO_at_31 : decode prog_10_method_4_code 31 = .ok (.sipush 256, 3) := by decide +kernel
theorem dMO_at_34 : decode prog_10_method_4_code 34 = .ok (.idiv, 1) := by decide +kernel
theorem dMO_at_35 : decode prog_10_method_4_code 35 = .ok (.iaload, 1) := by decide +kernel
theorem dMO_at_36 : decode prog_10_method_4_code 36 = .ok (.imul, 1) := by decide +kernel
theorem dMO_at_37 : decode prog_10_method_4_code 37 = .ok (.iload_n 2, 1) := by decide +kernel
theorem dMO_at_38 : decode prog_10_method_4_code 38 = .ok (.sipush 256, 3) := by decide +kernel
theorem dMO_at_41 : decode prog_10_method_4_code 41 = .ok (.irem, 1) := by decide +kernel
theorem dMO_at_42 : decode prog_10_method_4_code 42 = .ok (.iadd, 1) := by decide +kernel
theorem dMO_at_43 : decode prog_10_method_4_code 43 = .ok (.ireturn, 1) := by decide +kernel
theorem dMO_wrong_0 : decode prog_10_method_5_code 0 = .ok (.aload_n 0, 1) := by decide +kernel
theorem dMO_wrong_1 : decode prog_10_method_5_code 1 = .ok (.aload_n 0, 1) := by decide +kernel
theorem dMO_wrong_2 : decode prog_10_method_5_code 2 = .ok (.getfield 68, 3) := by decide +kernel
theorem dMO_wrong_5 : decode prog_10_method_5_code 5 = .ok (.ifCond .ne 7, 3) := by decide +kernel
theorem dMO_wrong_8 : decode prog_10_method_5_code 8 = .ok (.iload_n 1, 1) := by decide +kernel
theorem dMO_wrong_9 : decode prog_10_method_5_code 9 = .ok (.goto 7, 3) := by decide +kernel
theorem dMO_wrong_12 : decode prog_10_method_5_code 12 = .ok (.aload_n 0, 1) := by decide +kernel
theorem dMO_wrong_13 : decode prog_10_method_5_code 13 = .ok (.getfield 68, 3) := by decide +kernel
theorem dMO_wrong_16 : decode prog_10_method_5_code 16 = .ok (.putfield 68, 3) := by decide +kernel
theorem dMO_wrong_19 : decode prog_10_method_5_code 19 = .ok (.return_, 1) := by decide +kernel
theorem dMO_read_0 : decode prog_10_method_6_code 0 = .ok (.aload_n 0, 1) := by decide +kernel
theorem dMO_read_1 : decode prog_10_method_6_code 1 = .ok (.getfield 68, 3) := by decide +kernel
theorem dMO_read_4 : decode prog_10_method_6_code 4 = .ok (.ifCond .le 5, 3) := by decide +kernel
theorem dMO_read_7 : decode prog_10_method_6_code 7 = .ok (.iconst 0, 1) := by decide +kernel
theorem dMO_read_8 : decode prog_10_method_6_code 8 = .ok (.ireturn, 1) := by decide +kernel
theorem dMO_read_9 : decode prog_10_method_6_code 9 = .ok (.aload_n 0, 1) := by decide +kernel
theorem dMO_read_10 : decode prog_10_method_6_code 10 = .ok (.iload_n 1, 1) := by decide +kernel
theorem dMO_read_11 : decode prog_10_method_6_code 11 = .ok (.invokevirtual 71, 3) := by decide +kernel
theorem dMO_read_14 : decode prog_10_method_6_code 14 = .ok (.istore_n 2, 1) := by decide +kernel
theorem dMO_read_15 : decode prog_10_method_6_code 15 = .ok (.iload_n 2, 1) := by decide +kernel
theorem dMO_read_16 : decode prog_10_method_6_code 16 = .ok (.ifCond .ge 10, 3) := by decide +kernel
theorem dMO_read_19 : decode prog_10_method_6_code 19 = .ok (.aload_n 0, 1) := by decide +kernel
theorem dMO_read_20 : decode prog_10_method_6_code 20 = .ok (.iconst 1, 1) := by decide +kernel
theorem dMO_read_21 : decode prog_10_method_6_code 21 = .ok (.invokevirtual 75, 3) := by decide +kernel
theorem dMO_read_24 : decode prog_10_method_6_code 24 = .ok (.iconst 0, 1) := by decide +kernel
theorem dMO_read_25 : decode prog_10_method_6_code 25 = .ok (.ireturn, 1) := by decide +kernel
theorem dMO_read_26 : decode prog_10_method_6_code 26 = .ok (.aload_n 0, 1) := by decide +kernel
theorem dMO_read_27 : decode prog_10_method_6_code 27 = .ok (.getfield 13, 3) := by decide +kernel
theorem dMO_read_30 : decode prog_10_method_6_code 30 = .ok (.iload_n 2, 1) := by decide +kernel
theorem dMO_read_31 : decode prog_10_method_6_code 31 = .ok (.sipush 256, 3) := by decide +kernel
theorem dMO_read_34 : decode prog_10_method_6_code 34 = .ok (.idiv, 1) := by decide +kernel
theorem dMO_read_35 : decode prog_10_method_6_code 35 = .ok (.aload_n 0, 1) := by decide +kernel
theorem dMO_read_36 : decode prog_10_method_6_code 36 = .ok (.getfield 13, 3) := by decide +kernel
theorem dMO_read_39 : decode prog_10_method_6_code 39 = .ok (.iload_n 2, 1) := by decide +kernel
theorem dMO_read_40 : decode prog_10_method_6_code 40 = .ok (.sipush 256, 3) := by decide +kernel
theorem dMO_read_43 : decode prog_10_method_6_code 43 = .ok (.idiv, 1) := by decide +kernel
theorem dMO_read_44 : decode prog_10_method_6_code 44 = .ok (.iaload, 1) := by decide +kernel
theorem dMO_read_45 : decode prog_10_method_6_code 45 = .ok (.iconst 1, 1) := by decide +kernel
theorem dMO_read_46 : decode prog_10_method_6_code 46 = .ok (.ior, 1) := by decide +kernel
theorem dMO_read_47 : decode prog_10_method_6_code 47 = .ok (.iastore, 1) := by decide +kernel
theorem dMO_read_48 : decode prog_10_method_6_code 48 = .ok (.aload_n 0, 1) := by decide +kernel
theorem dMO_read_49 : decode prog_10_method_6_code 49 = .ok (.getfield 16, 3) := by decide +kernel
theorem dMO_read_52 : decode prog_10_method_6_code 52 = .ok (.iload_n 2, 1) := by decide +kernel
theorem dMO_read_53 : decode prog_10_method_6_code 53 = .ok (.iaload, 1) := by decide +kernel
theorem dMO_read_54 : decode prog_10_method_6_code 54 = .ok (.ireturn, 1) := by decide +kernel
theorem dMO_low_0 : decode prog_10_method_3_code 0 = .ok (.iload_n 0, 1) := by decide +kernel
theorem dMO_low_1 : decode prog_10_method_3_code 1 = .ok (.ldc 67, 2) := by decide +kernel
theorem dMO_low_3 : decode prog_10_method_3_code 3 = .ok (.iand, 1) := by decide +kernel
theorem dMO_low_4 : decode prog_10_method_3_code 4 = .ok (.ireturn, 1) := by decide +kernel
theorem dMO_byteAt_0 : decode prog_10_method_9_code 0 = .ok (.aload_n 0, 1) := by decide +kernel
theorem dMO_byteAt_1 : decode prog_10_method_9_code 1 = .ok (.iload_n 1, 1) := by decide +kernel
theorem dMO_byteAt_2 : decode prog_10_method_9_code 2 = .ok (.iload_n 2, 1) := by decide +kernel
theorem dMO_byteAt_3 : decode prog_10_method_9_code 3 = .ok (.invokestatic 82, 3) := by decide +kernel
theorem dMO_byteAt_6 : decode prog_10_method_9_code 6 = .ok (.iconst 2, 1) := by decide +kernel
theorem dMO_byteAt_7 : decode prog_10_method_9_code 7 = .ok (.idiv, 1) := by decide +kernel
theorem dMO_byteAt_8 : decode prog_10_method_9_code 8 = .ok (.iadd, 1) := by decide +kernel
theorem dMO_byteAt_9 : decode prog_10_method_9_code 9 = .ok (.invokevirtual 85, 3) := by decide +kernel
theorem dMO_byteAt_12 : decode prog_10_method_9_code 12 = .ok (.istore_n 3, 1) := by decide +kernel
theorem dMO_byteAt_13 : decode prog_10_method_9_code 13 = .ok (.iload_n 2, 1) := by decide +kernel
theorem dMO_byteAt_14 : decode prog_10_method_9_code 14 = .ok (.iconst 2, 1) := by decide +kernel
theorem dMO_byteAt_15 : decode prog_10_method_9_code 15 = .ok (.irem, 1) := by decide +kernel
theorem dMO_byteAt_16 : decode prog_10_method_9_code 16 = .ok (.ifCond .ne 10, 3) := by decide +kernel
theorem dMO_byteAt_19 : decode prog_10_method_9_code 19 = .ok (.iload_n 3, 1) := by decide +kernel
theorem dMO_byteAt_20 : decode prog_10_method_9_code 20 = .ok (.bipush 8, 2) := by decide +kernel
theorem dMO_byteAt_22 : decode prog_10_method_9_code 22 = .ok (.ishr, 1) := by decide +kernel
theorem dMO_byteAt_23 : decode prog_10_method_9_code 23 = .ok (.goto 8, 3) := by decide +kernel
theorem dMO_byteAt_26 : decode prog_10_method_9_code 26 = .ok (.iload_n 3, 1) := by decide +kernel
theorem dMO_byteAt_27 : decode prog_10_method_9_code 27 = .ok (.sipush 255, 3) := by decide +kernel
theorem dMO_byteAt_30 : decode prog_10_method_9_code 30 = .ok (.iand, 1) := by decide +kernel
theorem dMO_byteAt_31 : decode prog_10_method_9_code 31 = .ok (.ireturn, 1) := by decide +kernel
theorem dMO_nextByte_0 : decode prog_10_method_10_code 0 = .ok (.aload_n 0, 1) := by decide +kernel
theorem dMO_nextByte_1 : decode prog_10_method_10_code 1 = .ok (.aload_n 0, 1) := by decide +kernel
theorem dMO_nextByte_2 : decode prog_10_method_10_code 2 = .ok (.getfield 88, 3) := by decide +kernel
theorem dMO_nextByte_5 : decode prog_10_method_10_code 5 = .ok (.aload_n 0, 1) := by decide +kernel
theorem dMO_nextByte_6 : decode prog_10_method_10_code 6 = .ok (.getfield 91, 3) := by decide +kernel
theorem dMO_nextByte_9 : decode prog_10_method_10_code 9 = .ok (.invokevirtual 94, 3) := by decide +kernel
theorem dMO_nextByte_12 : decode prog_10_method_10_code 12 = .ok (.istore_n 1, 1) := by decide +kernel
theorem dMO_nextByte_13 : decode prog_10_method_10_code 13 = .ok (.aload_n 0, 1) := by decide +kernel
theorem dMO_nextByte_14 : decode prog_10_method_10_code 14 = .ok (.aload_n 0, 1) := by decide +kernel
theorem dMO_nextByte_15 : decode prog_10_method_10_code 15 = .ok (.getfield 91, 3) := by decide +kernel
theorem dMO_nextByte_18 : decode prog_10_method_10_code 18 = .ok (.iconst 1, 1) := by decide +kernel
theorem dMO_nextByte_19 : decode prog_10_method_10_code 19 = .ok (.iadd, 1) := by decide +kernel
theorem dMO_nextByte_20 : decode prog_10_method_10_code 20 = .ok (.invokestatic 82, 3) := by decide +kernel
theorem dMO_nextByte_23 : decode prog_10_method_10_code 23 = .ok (.putfield 91, 3) := by decide +kernel
theorem dMO_nextByte_26 : decode prog_10_method_10_code 26 = .ok (.iload_n 1, 1) := by decide +kernel
theorem dMO_nextByte_27 : decode prog_10_method_10_code 27 = .ok (.ireturn, 1) := by decide +kernel
theorem dMO_push_0 : decode prog_10_method_12_code 0 = .ok (.aload_n 0, 1) := by decide +kernel
theorem dMO_push_1 : decode prog_10_method_12_code 1 = .ok (.getfield 68, 3) := by decide +kernel
theorem dMO_push_4 : decode prog_10_method_12_code 4 = .ok (.ifCond .le 4, 3) := by decide +kernel
theorem dMO_push_7 : decode prog_10_method_12_code 7 = .ok (.return_, 1) := by decide +kernel
theorem dMO_push_8 : decode prog_10_method_12_code 8 = .ok (.aload_n 0, 1) := by decide +kernel
theorem dMO_push_9 : decode prog_10_method_12_code 9 = .ok (.getfield 57, 3) := by decide +kernel
theorem dMO_push_12 : decode prog_10_method_12_code 12 = .ok (.aload_n 0, 1) := by decide +kernel
theorem dMO_push_13 : decode prog_10_method_12_code 13 = .ok (.getfield 98, 3) := by decide +kernel
theorem dMO_push_16 : decode prog_10_method_12_code 16 = .ok (.iload_n 1, 1) := by decide +kernel
theorem dMO_push_17 : decode prog_10_method_12_code 17 = .ok (.invokestatic 82, 3) := by decide +kernel
theorem dMO_push_20 : decode prog_10_method_12_code 20 = .ok (.iastore, 1) := by decide +kernel
theorem dMO_push_21 : decode prog_10_method_12_code 21 = .ok (.aload_n 0, 1) := by decide +kernel
theorem dMO_push_22 : decode prog_10_method_12_code 22 = .ok (.dup, 1) := by decide +kernel
theorem dMO_push_23 : decode prog_10_method_12_code 23 = .ok (.getfield 98, 3) := by decide +kernel
theorem dMO_push_26 : decode prog_10_method_12_code 26 = .ok (.iconst 1, 1) := by decide +kernel
theorem dMO_push_27 : decode prog_10_method_12_code 27 = .ok (.iadd, 1) := by decide +kernel
theorem dMO_push_28 : decode prog_10_method_12_code 28 = .ok (.putfield 98, 3) := by decide +kernel
theorem dMO_push_31 : decode prog_10_method_12_code 31 = .ok (.return_, 1) := by decide +kernel
theorem dMO_pop_0 : decode prog_10_method_11_code 0 = .ok (.aload_n 0, 1) := by decide +kernel
theorem dMO_pop_1 : decode prog_10_method_11_code 1 = .ok (.getfield 68, 3) := by decide +kernel
theorem dMO_pop_4 : decode prog_10_method_11_code 4 = .ok (.ifCond .le 5, 3) := by decide +kernel
theorem dMO_pop_7 : decode prog_10_method_11_code 7 = .ok (.iconst 0, 1) := by decide +kernel
theorem dMO_pop_8 : decode prog_10_method_11_code 8 = .ok (.ireturn, 1) := by decide +kernel
theorem dMO_pop_9 : decode prog_10_method_11_code 9 = .ok (.aload_n 0, 1) := by decide +kernel
theorem dMO_pop_10 : decode prog_10_method_11_code 10 = .ok (.getfield 98, 3) := by decide +kernel
theorem dMO_pop_13 : decode prog_10_method_11_code 13 = .ok (.ifCond .ne 10, 3) := by decide +kernel
theorem dMO_pop_16 : decode prog_10_method_11_code 16 = .ok (.aload_n 0, 1) := by decide +kernel
theorem dMO_pop_17 : decode prog_10_method_11_code 17 = .ok (.iconst 5, 1) := by decide +kernel
theorem dMO_pop_18 : decode prog_10_method_11_code 18 = .ok (.invokevirtual 75, 3) := by decide +kernel
theorem dMO_pop_21 : decode prog_10_method_11_code 21 = .ok (.iconst 0, 1) := by decide +kernel
theorem dMO_pop_22 : decode prog_10_method_11_code 22 = .ok (.ireturn, 1) := by decide +kernel
theorem dMO_pop_23 : decode prog_10_method_11_code 23 = .ok (.aload_n 0, 1) := by decide +kernel
theorem dMO_pop_24 : decode prog_10_method_11_code 24 = .ok (.dup, 1) := by decide +kernel
theorem dMO_pop_25 : decode prog_10_method_11_code 25 = .ok (.getfield 98, 3) := by decide +kernel
theorem dMO_pop_28 : decode prog_10_method_11_code 28 = .ok (.iconst 1, 1) := by decide +kernel
theorem dMO_pop_29 : decode prog_10_method_11_code 29 = .ok (.isub, 1) := by decide +kernel
theorem dMO_pop_30 : decode prog_10_method_11_code 30 = .ok (.putfield 98, 3) := by decide +kernel
theorem dMO_pop_33 : decode prog_10_method_11_code 33 = .ok (.aload_n 0, 1) := by decide +kernel
theorem dMO_pop_34 : decode prog_10_method_11_code 34 = .ok (.getfield 57, 3) := by decide +kernel
theorem dMO_pop_37 : decode prog_10_method_11_code 37 = .ok (.aload_n 0, 1) := by decide +kernel
theorem dMO_pop_38 : decode prog_10_method_11_code 38 = .ok (.getfield 98, 3) := by decide +kernel
theorem dMO_pop_41 : decode prog_10_method_11_code 41 = .ok (.iaload, 1) := by decide +kernel
theorem dMO_pop_42 : decode prog_10_method_11_code 42 = .ok (.ireturn, 1) := by decide +kernel
theorem dMO_write_0 : decode prog_10_method_7_code 0 = .ok (.aload_n 0, 1) := by decide +kernel
theorem dMO_write_1 : decode prog_10_method_7_code 1 = .ok (.getfield 68, 3) := by decide +kernel
theorem dMO_write_4 : decode prog_10_method_7_code 4 = .ok (.ifCond .le 4, 3) := by decide +kernel
theorem dMO_write_7 : decode prog_10_method_7_code 7 = .ok (.return_, 1) := by decide +kernel
theorem dMO_write_8 : decode prog_10_method_7_code 8 = .ok (.aload_n 0, 1) := by decide +kernel
theorem dMO_write_9 : decode prog_10_method_7_code 9 = .ok (.iload_n 1, 1) := by decide +kernel
theorem dMO_write_10 : decode prog_10_method_7_code 10 = .ok (.invokevirtual 71, 3) := by decide +kernel
theorem dMO_write_13 : decode prog_10_method_7_code 13 = .ok (.istore_n 3, 1) := by decide +kernel
theorem dMO_write_14 : decode prog_10_method_7_code 14 = .ok (.iload_n 3, 1) := by decide +kernel
theorem dMO_write_15 : decode prog_10_method_7_code 15 = .ok (.ifCond .ge 11, 3) := by decide +kernel
theorem dMO_write_18 : decode prog_10_method_7_code 18 = .ok (.aload_n 0, 1) := by decide +kernel
theorem dMO_write_19 : decode prog_10_method_7_code 19 = .ok (.iconst 1, 1) := by decide +kernel
theorem dMO_write_20 : decode prog_10_method_7_code 20 = .ok (.invokevirtual 75, 3) := by decide +kernel
theorem dMO_write_23 : decode prog_10_method_7_code 23 = .ok (.goto 25, 3) := by decide +kernel
theorem dMO_write_26 : decode prog_10_method_7_code 26 = .ok (.aload_n 0, 1) := by decide +kernel
theorem dMO_write_27 : decode prog_10_method_7_code 27 = .ok (.getfield 19, 3) := by decide +kernel
theorem dMO_write_30 : decode prog_10_method_7_code 30 = .ok (.iload_n 1, 1) := by decide +kernel
theorem dMO_write_31 : decode prog_10_method_7_code 31 = .ok (.sipush 4095, 3) := by decide +kernel
theorem dMO_write_34 : decode prog_10_method_7_code 34 = .ok (.iand, 1) := by decide +kernel
theorem dMO_write_35 : decode prog_10_method_7_code 35 = .ok (.sipush 256, 3) := by decide +kernel
theorem dMO_write_38 : decode prog_10_method_7_code 38 = .ok (.idiv, 1) := by decide +kernel
theorem dMO_write_39 : decode prog_10_method_7_code 39 = .ok (.baload, 1) := by decide +kernel
theorem dMO_write_40 : decode prog_10_method_7_code 40 = .ok (.ifCond .eq 8, 3) := by decide +kernel
theorem dMO_write_43 : decode prog_10_method_7_code 43 = .ok (.aload_n 0, 1) := by decide +kernel
theorem dMO_write_44 : decode prog_10_method_7_code 44 = .ok (.iconst 2, 1) := by decide +kernel
theorem dMO_write_45 : decode prog_10_method_7_code 45 = .ok (.invokevirtual 75, 3) := by decide +kernel
theorem dMO_write_48 : decode prog_10_method_7_code 48 = .ok (.aload_n 0, 1) := by decide +kernel
theorem dMO_write_49 : decode prog_10_method_7_code 49 = .ok (.getfield 68, 3) := by decide +kernel
theorem dMO_write_52 : decode prog_10_method_7_code 52 = .ok (.ifCond .le 4, 3) := by decide +kernel
theorem dMO_write_55 : decode prog_10_method_7_code 55 = .ok (.return_, 1) := by decide +kernel
theorem dMO_write_56 : decode prog_10_method_7_code 56 = .ok (.aload_n 0, 1) := by decide +kernel
theorem dMO_write_57 : decode prog_10_method_7_code 57 = .ok (.getfield 13, 3) := by decide +kernel
theorem dMO_write_60 : decode prog_10_method_7_code 60 = .ok (.iload_n 3, 1) := by decide +kernel
theorem dMO_write_61 : decode prog_10_method_7_code 61 = .ok (.sipush 256, 3) := by decide +kernel
theorem dMO_write_64 : decode prog_10_method_7_code 64 = .ok (.idiv, 1) := by decide +kernel
theorem dMO_write_65 : decode prog_10_method_7_code 65 = .ok (.iconst 3, 1) := by decide +kernel
theorem dMO_write_66 : decode prog_10_method_7_code 66 = .ok (.iastore, 1) := by decide +kernel
theorem dMO_write_67 : decode prog_10_method_7_code 67 = .ok (.aload_n 0, 1) := by decide +kernel
theorem dMO_write_68 : decode prog_10_method_7_code 68 = .ok (.getfield 51, 3) := by decide +kernel
theorem dMO_write_71 : decode prog_10_method_7_code 71 = .ok (.aload_n 0, 1) := by decide +kernel
theorem dMO_write_72 : decode prog_10_method_7_code 72 = .ok (.getfield 79, 3) := by decide +kernel
theorem dMO_write_75 : decode prog_10_method_7_code 75 = .ok (.iload_n 3, 1) := by decide +kernel
theorem dMO_write_76 : decode prog_10_method_7_code 76 = .ok (.iastore, 1) := by decide +kernel
theorem dMO_write_77 : decode prog_10_method_7_code 77 = .ok (.aload_n 0, 1) := by decide +kernel
theorem dMO_write_78 : decode prog_10_method_7_code 78 = .ok (.getfield 54, 3) := by decide +kernel
theorem dMO_write_81 : decode prog_10_method_7_code 81 = .ok (.aload_n 0, 1) := by decide +kernel
theorem dMO_write_82 : decode prog_10_method_7_code 82 = .ok (.getfield 79, 3) := by decide +kernel
theorem dMO_write_85 : decode prog_10_method_7_code 85 = .ok (.aload_n 0, 1) := by decide +kernel
theorem dMO_write_86 : decode prog_10_method_7_code 86 = .ok (.getfield 16, 3) := by decide +kernel
theorem dMO_write_89 : decode prog_10_method_7_code 89 = .ok (.iload_n 3, 1) := by decide +kernel
theorem dMO_write_90 : decode prog_10_method_7_code 90 = .ok (.iaload, 1) := by decide +kernel
theorem dMO_write_91 : decode prog_10_method_7_code 91 = .ok (.iastore, 1) := by decide +kernel
theorem dMO_write_92 : decode prog_10_method_7_code 92 = .ok (.aload_n 0, 1) := by decide +kernel
theorem dMO_write_93 : decode prog_10_method_7_code 93 = .ok (.dup, 1) := by decide +kernel
theorem dMO_write_94 : decode prog_10_method_7_code 94 = .ok (.getfield 79, 3) := by decide +kernel
theorem dMO_write_97 : decode prog_10_method_7_code 97 = .ok (.iconst 1, 1) := by decide +kernel
theorem dMO_write_98 : decode prog_10_method_7_code 98 = .ok (.iadd, 1) := by decide +kernel
theorem dMO_write_99 : decode prog_10_method_7_code 99 = .ok (.putfield 79, 3) := by decide +kernel
theorem dMO_write_102 : decode prog_10_method_7_code 102 = .ok (.aload_n 0, 1) := by decide +kernel
theorem dMO_write_103 : decode prog_10_method_7_code 103 = .ok (.getfield 16, 3) := by decide +kernel
theorem dMO_write_106 : decode prog_10_method_7_code 106 = .ok (.iload_n 3, 1) := by decide +kernel
theorem dMO_write_107 : decode prog_10_method_7_code 107 = .ok (.iload_n 2, 1) := by decide +kernel
theorem dMO_write_108 : decode prog_10_method_7_code 108 = .ok (.invokestatic 82, 3) := by decide +kernel
theorem dMO_write_111 : decode prog_10_method_7_code 111 = .ok (.iastore, 1) := by decide +kernel
theorem dMO_write_112 : decode prog_10_method_7_code 112 = .ok (.return_, 1) := by decide +kernel
theorem dMO_signed_0 : decode prog_10_method_13_code 0 = .ok (.iload_n 0, 1) := by decide +kernel
theorem dMO_signed_1 : decode prog_10_method_13_code 1 = .ok (.ldc 101, 2) := by decide +kernel
theorem dMO_signed_3 : decode prog_10_method_13_code 3 = .ok (.if_icmp .lt 10, 3) := by decide +kernel
theorem dMO_signed_6 : decode prog_10_method_13_code 6 = .ok (.iload_n 0, 1) := by decide +kernel
theorem dMO_signed_7 : decode prog_10_method_13_code 7 = .ok (.ldc 102, 2) := by decide +kernel
theorem dMO_signed_9 : decode prog_10_method_13_code 9 = .ok (.isub, 1) := by decide +kernel
theorem dMO_signed_10 : decode prog_10_method_13_code 10 = .ok (.goto 4, 3) := by decide +kernel
theorem dMO_signed_13 : decode prog_10_method_13_code 13 = .ok (.iload_n 0, 1) := by decide +kernel
theorem dMO_signed_14 : decode prog_10_method_13_code 14 = .ok (.ireturn, 1) := by decide +kernel
theorem dMO_field_0 : decode prog_10_method_29_code 0 = .ok (.iload_n 1, 1) := by decide +kernel
theorem dMO_field_1 : decode prog_10_method_29_code 1 = .ok (.bipush 16, 2) := by decide +kernel
theorem dMO_field_3 : decode prog_10_method_29_code 3 = .ok (.idiv, 1) := by decide +kernel
theorem dMO_field_4 : decode prog_10_method_29_code 4 = .ok (.istore_n 2, 1) := by decide +kernel
theorem dMO_field_5 : decode prog_10_method_29_code 5 = .ok (.iload_n 1, 1) := by decide +kernel
theorem dMO_field_6 : decode prog_10_method_29_code 6 = .ok (.bipush 16, 2) := by decide +kernel
theorem dMO_field_8 : decode prog_10_method_29_code 8 = .ok (.irem, 1) := by decide +kernel
theorem dMO_field_9 : decode prog_10_method_29_code 9 = .ok (.iconst 1, 1) := by decide +kernel
theorem dMO_field_10 : decode prog_10_method_29_code 10 = .ok (.iadd, 1) := by decide +kernel
theorem dMO_field_11 : decode prog_10_method_29_code 11 = .ok (.bipush 16, 2) := by decide +kernel
theorem dMO_field_13 : decode prog_10_method_29_code 13 = .ok (.iload_n 2, 1) := by decide +kernel
theorem dMO_field_14 : decode prog_10_method_29_code 14 = .ok (.isub, 1) := by decide +kernel
theorem dMO_field_15 : decode prog_10_method_29_code 15 = .ok (.if_icmp .le 10, 3) := by decide +kernel
theorem dMO_field_18 : decode prog_10_method_29_code 18 = .ok (.bipush 16, 2) := by decide +kernel
theorem dMO_field_20 : decode prog_10_method_29_code 20 = .ok (.iload_n 2, 1) := by decide +kernel
theorem dMO_field_21 : decode prog_10_method_29_code 21 = .ok (.isub, 1) := by decide +kernel
theorem dMO_field_22 : decode prog_10_method_29_code 22 = .ok (.goto 9, 3) := by decide +kernel
theorem dMO_field_25 : decode prog_10_method_29_code 25 = .ok (.iload_n 1, 1) := by decide +kernel
theorem dMO_field_26 : decode prog_10_method_29_code 26 = .ok (.bipush 16, 2) := by decide +kernel
theorem dMO_field_28 : decode prog_10_method_29_code 28 = .ok (.irem, 1) := by decide +kernel
theorem dMO_field_29 : decode prog_10_method_29_code 29 = .ok (.iconst 1, 1) := by decide +kernel
theorem dMO_field_30 : decode prog_10_method_29_code 30 = .ok (.iadd, 1) := by decide +kernel
theorem dMO_field_31 : decode prog_10_method_29_code 31 = .ok (.istore_n 3, 1) := by decide +kernel
theorem dMO_field_32 : decode prog_10_method_29_code 32 = .ok (.iload_n 0, 1) := by decide +kernel
theorem dMO_field_33 : decode prog_10_method_29_code 33 = .ok (.bipush 16, 2) := by decide +kernel
theorem dMO_field_35 : decode prog_10_method_29_code 35 = .ok (.iload_n 2, 1) := by decide +kernel
theorem dMO_field_36 : decode prog_10_method_29_code 36 = .ok (.isub, 1) := by decide +kernel
theorem dMO_field_37 : decode prog_10_method_29_code 37 = .ok (.iload_n 3, 1) := by decide +kernel
theorem dMO_field_38 : decode prog_10_method_29_code 38 = .ok (.isub, 1) := by decide +kernel
theorem dMO_field_39 : decode prog_10_method_29_code 39 = .ok (.ishr, 1) := by decide +kernel
theorem dMO_field_40 : decode prog_10_method_29_code 40 = .ok (.iconst 1, 1) := by decide +kernel
theorem dMO_field_41 : decode prog_10_method_29_code 41 = .ok (.iload_n 3, 1) := by decide +kernel
theorem dMO_field_42 : decode prog_10_method_29_code 42 = .ok (.ishl, 1) := by decide +kernel
theorem dMO_field_43 : decode prog_10_method_29_code 43 = .ok (.iconst 1, 1) := by decide +kernel
theorem dMO_field_44 : decode prog_10_method_29_code 44 = .ok (.isub, 1) := by decide +kernel
theorem dMO_field_45 : decode prog_10_method_29_code 45 = .ok (.iand, 1) := by decide +kernel
theorem dMO_field_46 : decode prog_10_method_29_code 46 = .ok (.ireturn, 1) := by decide +kernel
theorem dMO_placed_0 : decode prog_10_method_30_code 0 = .ok (.iload_n 2, 1) := by decide +kernel
theorem dMO_placed_1 : decode prog_10_method_30_code 1 = .ok (.bipush 16, 2) := by decide +kernel
theorem dMO_placed_3 : decode prog_10_method_30_code 3 = .ok (.idiv, 1) := by decide +kernel
theorem dMO_placed_4 : decode prog_10_method_30_code 4 = .ok (.istore_n 3, 1) := by decide +kernel
theorem dMO_placed_5 : decode prog_10_method_30_code 5 = .ok (.iload_n 2, 1) := by decide +kernel
theorem dMO_placed_6 : decode prog_10_method_30_code 6 = .ok (.bipush 16, 2) := by decide +kernel
