theorem dPR_combine_29 : decode prog_5_method_9_code 29 = .ok (.ifCond .ne 15, 3) := by decide +kernel
theorem dPR_combine_32 : decode prog_5_method_9_code 32 = .ok (.aload_n 0, 1) := by decide +kernel
theorem dPR_combine_33 : decode prog_5_method_9_code 33 = .ok (.getfield 9, 3) := by decide +kernel
theorem dPR_combine_36 : decode prog_5_method_9_code 36 = .ok (.bipush 7, 2) := by decide +kernel
theorem dPR_combine_38 : decode prog_5_method_9_code 38 = .ok (.invokevirtual 153, 3) := by decide +kernel
theorem dPR_combine_41 : decode prog_5_method_9_code 41 = .ok (.goto 22, 3) := by decide +kernel
theorem dPR_combine_44 : decode prog_5_method_9_code 44 = .ok (.aload_n 0, 1) := by decide +kernel
theorem dPR_combine_45 : decode prog_5_method_9_code 45 = .ok (.getfield 31, 3) := by decide +kernel
theorem dPR_combine_48 : decode prog_5_method_9_code 48 = .ok (.aload_n 0, 1) := by decide +kernel
theorem dPR_combine_49 : decode prog_5_method_9_code 49 = .ok (.getfield 40, 3) := by decide +kernel
theorem dPR_combine_52 : decode prog_5_method_9_code 52 = .ok (.getfield 92, 3) := by decide +kernel
theorem dPR_combine_55 : decode prog_5_method_9_code 55 = .ok (.iload_n 2, 1) := by decide +kernel
theorem dPR_combine_56 : decode prog_5_method_9_code 56 = .ok (.iload_n 1, 1) := by decide +kernel
theorem dPR_combine_57 : decode prog_5_method_9_code 57 = .ok (.invokestatic 206, 3) := by decide +kernel
theorem dPR_combine_60 : decode prog_5_method_9_code 60 = .ok (.invokevirtual 193, 3) := by decide +kernel
theorem dPR_combine_63 : decode prog_5_method_9_code 63 = .ok (.return_, 1) := by decide +kernel
theorem dIN_jump_0 : decode prog_3_method_3_code 0 = .ok (.aload_n 0, 1) := by decide +kernel
theorem dIN_jump_1 : decode prog_3_method_3_code 1 = .ok (.aload_n 0, 1) := by decide +kernel
theorem dIN_jump_2 : decode prog_3_method_3_code 2 = .ok (.getfield 34, 3) := by decide +kernel
theorem dIN_jump_5 : decode prog_3_method_3_code 5 = .ok (.aload_n 0, 1) := by decide +kernel
theorem dIN_jump_6 : decode prog_3_method_3_code 6 = .ok (.getfield 52, 3) := by decide +kernel
theorem dIN_jump_9 : decode prog_3_method_3_code 9 = .ok (.i2b, 1) := by decide +kernel
theorem dIN_jump_10 : decode prog_3_method_3_code 10 = .ok (.iadd, 1) := by decide +kernel
theorem dIN_jump_11 : decode prog_3_method_3_code 11 = .ok (.putfield 55, 3) := by decide +kernel
theorem dIN_jump_14 : decode prog_3_method_3_code 14 = .ok (.return_, 1) := by decide +kernel
theorem dPR_fieldShift_0 : decode prog_5_method_14_code 0 = .ok (.aload_n 0, 1) := by decide +kernel
theorem dPR_fieldShift_1 : decode prog_5_method_14_code 1 = .ok (.getfield 40, 3) := by decide +kernel
theorem dPR_fieldShift_4 : decode prog_5_method_14_code 4 = .ok (.getfield 190, 3) := by decide +kernel
theorem dPR_fieldShift_7 : decode prog_5_method_14_code 7 = .ok (.iconst 4, 1) := by decide +kernel
theorem dPR_fieldShift_8 : decode prog_5_method_14_code 8 = .ok (.ishr, 1) := by decide +kernel
theorem dPR_fieldShift_9 : decode prog_5_method_14_code 9 = .ok (.istore_n 1, 1) := by decide +kernel
theorem dPR_fieldShift_10 : decode prog_5_method_14_code 10 = .ok (.aload_n 0, 1) := by decide +kernel
theorem dPR_fieldShift_11 : decode prog_5_method_14_code 11 = .ok (.getfield 40, 3) := by decide +kernel
theorem dPR_fieldShift_14 : decode prog_5_method_14_code 14 = .ok (.getfield 190, 3) := by decide +kernel
theorem dPR_fieldShift_17 : decode prog_5_method_14_code 17 = .ok (.bipush 15, 2) := by decide +kernel
theorem dPR_fieldShift_19 : decode prog_5_method_14_code 19 = .ok (.iand, 1) := by decide +kernel
theorem dPR_fieldShift_20 : decode prog_5_method_14_code 20 = .ok (.iconst 1, 1) := by decide +kernel
theorem dPR_fieldShift_21 : decode prog_5_method_14_code 21 = .ok (.iadd, 1) := by decide +kernel
theorem dPR_fieldShift_22 : decode prog_5_method_14_code 22 = .ok (.istore_n 2, 1) := by decide +kernel
theorem dPR_fieldShift_23 : decode prog_5_method_14_code 23 = .ok (.iconst 0, 1) := by decide +kernel
theorem dPR_fieldShift_24 : decode prog_5_method_14_code 24 = .ok (.bipush 16, 2) := by decide +kernel
theorem dPR_fieldShift_26 : decode prog_5_method_14_code 26 = .ok (.iload_n 1, 1) := by decide +kernel
theorem dPR_fieldShift_27 : decode prog_5_method_14_code 27 = .ok (.isub, 1) := by decide +kernel
theorem dPR_fieldShift_28 : decode prog_5_method_14_code 28 = .ok (.iload_n 2, 1) := by decide +kernel
theorem dPR_fieldShift_29 : decode prog_5_method_14_code 29 = .ok (.isub, 1) := by decide +kernel
theorem dPR_fieldShift_30 : decode prog_5_method_14_code 30 = .ok (.invokestatic 223, 3) := by decide +kernel
theorem dPR_fieldShift_33 : decode prog_5_method_14_code 33 = .ok (.ireturn, 1) := by decide +kernel
theorem dPR_fieldMask_0 : decode prog_5_method_13_code 0 = .ok (.aload_n 0, 1) := by decide +kernel
theorem dPR_fieldMask_1 : decode prog_5_method_13_code 1 = .ok (.getfield 40, 3) := by decide +kernel
theorem dPR_fieldMask_4 : decode prog_5_method_13_code 4 = .ok (.getfield 190, 3) := by decide +kernel
theorem dPR_fieldMask_7 : decode prog_5_method_13_code 7 = .ok (.iconst 4, 1) := by decide +kernel
theorem dPR_fieldMask_8 : decode prog_5_method_13_code 8 = .ok (.ishr, 1) := by decide +kernel
theorem dPR_fieldMask_9 : decode prog_5_method_13_code 9 = .ok (.istore_n 1, 1) := by decide +kernel
theorem dPR_fieldMask_10 : decode prog_5_method_13_code 10 = .ok (.ldc 222, 2) := by decide +kernel
theorem dPR_fieldMask_12 : decode prog_5_method_13_code 12 = .ok (.iload_n 1, 1) := by decide +kernel
theorem dPR_fieldMask_13 : decode prog_5_method_13_code 13 = .ok (.ishr, 1) := by decide +kernel
theorem dPR_fieldMask_14 : decode prog_5_method_13_code 14 = .ok (.ldc 222, 2) := by decide +kernel
theorem dPR_fieldMask_16 : decode prog_5_method_13_code 16 = .ok (.aload_n 0, 1) := by decide +kernel
theorem dPR_fieldMask_17 : decode prog_5_method_13_code 17 = .ok (.invokevirtual 219, 3) := by decide +kernel
theorem dPR_fieldMask_20 : decode prog_5_method_13_code 20 = .ok (.ishl, 1) := by decide +kernel
theorem dPR_fieldMask_21 : decode prog_5_method_13_code 21 = .ok (.iand, 1) := by decide +kernel
theorem dPR_fieldMask_22 : decode prog_5_method_13_code 22 = .ok (.ireturn, 1) := by decide +kernel
theorem dPR_arrange_0 : decode prog_5_method_12_code 0 = .ok (.aload_n 0, 1) := by decide +kernel
theorem dPR_arrange_1 : decode prog_5_method_12_code 1 = .ok (.getfield 40, 3) := by decide +kernel
theorem dPR_arrange_4 : decode prog_5_method_12_code 4 = .ok (.getfield 92, 3) := by decide +kernel
theorem dPR_arrange_7 : decode prog_5_method_12_code 7 = .ok (.tableswitch 258 17 24 #[45, 72, 83, 118, 128, 148, 185, 212], 45) := by decide +kernel
theorem dPR_arrange_52 : decode prog_5_method_12_code 52 = .ok (.aload_n 0, 1) := by decide +kernel
theorem dPR_arrange_53 : decode prog_5_method_12_code 53 = .ok (.getfield 31, 3) := by decide +kernel
theorem dPR_arrange_56 : decode prog_5_method_12_code 56 = .ok (.invokevirtual 200, 3) := by decide +kernel
theorem dPR_arrange_59 : decode prog_5_method_12_code 59 = .ok (.istore_n 1, 1) := by decide +kernel
theorem dPR_arrange_60 : decode prog_5_method_12_code 60 = .ok (.aload_n 0, 1) := by decide +kernel
theorem dPR_arrange_61 : decode prog_5_method_12_code 61 = .ok (.getfield 31, 3) := by decide +kernel
theorem dPR_arrange_64 : decode prog_5_method_12_code 64 = .ok (.iload_n 1, 1) := by decide +kernel
theorem dPR_arrange_65 : decode prog_5_method_12_code 65 = .ok (.invokevirtual 193, 3) := by decide +kernel
theorem dPR_arrange_68 : decode prog_5_method_12_code 68 = .ok (.aload_n 0, 1) := by decide +kernel
theorem dPR_arrange_69 : decode prog_5_method_12_code 69 = .ok (.getfield 31, 3) := by decide +kernel
theorem dPR_arrange_72 : decode prog_5_method_12_code 72 = .ok (.iload_n 1, 1) := by decide +kernel
theorem dPR_arrange_73 : decode prog_5_method_12_code 73 = .ok (.invokevirtual 193, 3) := by decide +kernel
theorem dPR_arrange_76 : decode prog_5_method_12_code 76 = .ok (.goto 189, 3) := by decide +kernel
theorem dPR_arrange_79 : decode prog_5_method_12_code 79 = .ok (.aload_n 0, 1) := by decide +kernel
theorem dPR_arrange_80 : decode prog_5_method_12_code 80 = .ok (.getfield 31, 3) := by decide +kernel
theorem dPR_arrange_83 : decode prog_5_method_12_code 83 = .ok (.invokevirtual 200, 3) := by decide +kernel
theorem dPR_arrange_86 : decode prog_5_method_12_code 86 = .ok (.pop, 1) := by decide +kernel
theorem dPR_arrange_87 : decode prog_5_method_12_code 87 = .ok (.goto 178, 3) := by decide +kernel
theorem dPR_arrange_90 : decode prog_5_method_12_code 90 = .ok (.aload_n 0, 1) := by decide +kernel
theorem dPR_arrange_91 : decode prog_5_method_12_code 91 = .ok (.getfield 31, 3) := by decide +kernel
theorem dPR_arrange_94 : decode prog_5_method_12_code 94 = .ok (.invokevirtual 200, 3) := by decide +kernel
theorem dPR_arrange_97 : decode prog_5_method_12_code 97 = .ok (.istore_n 2, 1) := by decide +kernel
theorem dPR_arrange_98 : decode prog_5_method_12_code 98 = .ok (.aload_n 0, 1) := by decide +kernel
theorem dPR_arrange_99 : decode prog_5_method_12_code 99 = .ok (.getfield 31, 3) := by decide +kernel
theorem dPR_arrange_102 : decode prog_5_method_12_code 102 = .ok (.invokevirtual 200, 3) := by decide +kernel
theorem dPR_arrange_105 : decode prog_5_method_12_code 105 = .ok (.istore_n 3, 1) := by decide +kernel
theorem dPR_arrange_106 : decode prog_5_method_12_code 106 = .ok (.aload_n 0, 1) := by decide +kernel
theorem dPR_arrange_107 : decode prog_5_method_12_code 107 = .ok (.getfield 31, 3) := by decide +kernel
theorem dPR_arrange_110 : decode prog_5_method_12_code 110 = .ok (.iload_n 2, 1) := by decide +kernel
theorem dPR_arrange_111 : decode prog_5_method_12_code 111 = .ok (.invokevirtual 193, 3) := by decide +kernel
theorem dPR_arrange_114 : decode prog_5_method_12_code 114 = .ok (.aload_n 0, 1) := by decide +kernel
theorem dPR_arrange_115 : decode prog_5_method_12_code 115 = .ok (.getfield 31, 3) := by decide +kernel
theorem dPR_arrange_118 : decode prog_5_method_12_code 118 = .ok (.iload_n 3, 1) := by decide +kernel
theorem dPR_arrange_119 : decode prog_5_method_12_code 119 = .ok (.invokevirtual 193, 3) := by decide +kernel
theorem dPR_arrange_122 : decode prog_5_method_12_code 122 = .ok (.goto 143, 3) := by decide +kernel
theorem dPR_arrange_125 : decode prog_5_method_12_code 125 = .ok (.aload_n 0, 1) := by decide +kernel
theorem dPR_arrange_126 : decode prog_5_method_12_code 126 = .ok (.getfield 40, 3) := by decide +kernel
theorem dPR_arrange_129 : decode prog_5_method_12_code 129 = .ok (.invokevirtual 213, 3) := by decide +kernel
theorem dPR_arrange_132 : decode prog_5_method_12_code 132 = .ok (.goto 133, 3) := by decide +kernel
theorem dPR_arrange_135 : decode prog_5_method_12_code 135 = .ok (.aload_n 0, 1) := by decide +kernel
theorem dPR_arrange_136 : decode prog_5_method_12_code 136 = .ok (.getfield 31, 3) := by decide +kernel
theorem dPR_arrange_139 : decode prog_5_method_12_code 139 = .ok (.invokevirtual 200, 3) := by decide +kernel
theorem dPR_arrange_142 : decode prog_5_method_12_code 142 = .ok (.ifCond .ne 123, 3) := by decide +kernel
theorem dPR_arrange_145 : decode prog_5_method_12_code 145 = .ok (.aload_n 0, 1) := by decide +kernel
theorem dPR_arrange_146 : decode prog_5_method_12_code 146 = .ok (.getfield 40, 3) := by decide +kernel
theorem dPR_arrange_149 : decode prog_5_method_12_code 149 = .ok (.invokevirtual 213, 3) := by decide +kernel
theorem dPR_arrange_152 : decode prog_5_method_12_code 152 = .ok (.goto 113, 3) := by decide +kernel
theorem dPR_arrange_155 : decode prog_5_method_12_code 155 = .ok (.aload_n 0, 1) := by decide +kernel
theorem dPR_arrange_156 : decode prog_5_method_12_code 156 = .ok (.getfield 31, 3) := by decide +kernel
theorem dPR_arrange_159 : decode prog_5_method_12_code 159 = .ok (.invokevirtual 200, 3) := by decide +kernel
theorem dPR_arrange_162 : decode prog_5_method_12_code 162 = .ok (.i2s, 1) := by decide +kernel
theorem dPR_arrange_163 : decode prog_5_method_12_code 163 = .ok (.istore 4, 2) := by decide +kernel
theorem dPR_arrange_165 : decode prog_5_method_12_code 165 = .ok (.aload_n 0, 1) := by decide +kernel
theorem dPR_arrange_166 : decode prog_5_method_12_code 166 = .ok (.getfield 31, 3) := by decide +kernel
theorem dPR_arrange_169 : decode prog_5_method_12_code 169 = .ok (.invokevirtual 200, 3) := by decide +kernel
theorem dPR_arrange_172 : decode prog_5_method_12_code 172 = .ok (.i2s, 1) := by decide +kernel
theorem dPR_arrange_173 : decode prog_5_method_12_code 173 = .ok (.istore 5, 2) := by decide +kernel
theorem dPR_arrange_175 : decode prog_5_method_12_code 175 = .ok (.iload 5, 2) := by decide +kernel
theorem dPR_arrange_177 : decode prog_5_method_12_code 177 = .ok (.iload 4, 2) := by decide +kernel
theorem dPR_arrange_179 : decode prog_5_method_12_code 179 = .ok (.if_icmp .ge 86, 3) := by decide +kernel
theorem dPR_arrange_182 : decode prog_5_method_12_code 182 = .ok (.aload_n 0, 1) := by decide +kernel
theorem dPR_arrange_183 : decode prog_5_method_12_code 183 = .ok (.getfield 40, 3) := by decide +kernel
theorem dPR_arrange_186 : decode prog_5_method_12_code 186 = .ok (.invokevirtual 213, 3) := by decide +kernel
theorem dPR_arrange_189 : decode prog_5_method_12_code 189 = .ok (.goto 76, 3) := by decide +kernel
theorem dPR_arrange_192 : decode prog_5_method_12_code 192 = .ok (.aload_n 0, 1) := by decide +kernel
theorem dPR_arrange_193 : decode prog_5_method_12_code 193 = .ok (.getfield 31, 3) := by decide +kernel
theorem dPR_arrange_196 : decode prog_5_method_12_code 196 = .ok (.aload_n 0, 1) := by decide +kernel
theorem dPR_arrange_197 : decode prog_5_method_12_code 197 = .ok (.getfield 31, 3) := by decide +kernel
theorem dPR_arrange_200 : decode prog_5_method_12_code 200 = .ok (.invokevirtual 200, 3) := by decide +kernel
theorem dPR_arrange_203 : decode prog_5_method_12_code 203 = .ok (.aload_n 0, 1) := by decide +kernel
theorem dPR_arrange_204 : decode prog_5_method_12_code 204 = .ok (.invokevirtual 216, 3) := by decide +kernel
theorem dPR_arrange_207 : decode prog_5_method_12_code 207 = .ok (.iand, 1) := by decide +kernel
theorem dPR_arrange_208 : decode prog_5_method_12_code 208 = .ok (.aload_n 0, 1) := by decide +kernel
theorem dPR_arrange_209 : decode prog_5_method_12_code 209 = .ok (.invokevirtual 219, 3) := by decide +kernel
theorem dPR_arrange_212 : decode prog_5_method_12_code 212 = .ok (.ishr, 1) := by decide +kernel
theorem dPR_arrange_213 : decode prog_5_method_12_code 213 = .ok (.invokevirtual 193, 3) := by decide +kernel
theorem dPR_arrange_216 : decode prog_5_method_12_code 216 = .ok (.goto 49, 3) := by decide +kernel
theorem dPR_arrange_219 : decode prog_5_method_12_code 219 = .ok (.aload_n 0, 1) := by decide +kernel
theorem dPR_arrange_220 : decode prog_5_method_12_code 220 = .ok (.getfield 31, 3) := by decide +kernel
theorem dPR_arrange_223 : decode prog_5_method_12_code 223 = .ok (.invokevirtual 200, 3) := by decide +kernel
theorem dPR_arrange_226 : decode prog_5_method_12_code 226 = .ok (.aload_n 0, 1) := by decide +kernel
theorem dPR_arrange_227 : decode prog_5_method_12_code 227 = .ok (.invokevirtual 219, 3) := by decide +kernel
theorem dPR_arrange_230 : decode prog_5_method_12_code 230 = .ok (.ishl, 1) := by decide +kernel
theorem dPR_arrange_231 : decode prog_5_method_12_code 231 = .ok (.istore 6, 2) := by decide +kernel
theorem dPR_arrange_233 : decode prog_5_method_12_code 233 = .ok (.aload_n 0, 1) := by decide +kernel
theorem dPR_arrange_234 : decode prog_5_method_12_code 234 = .ok (.getfield 31, 3) := by decide +kernel
theorem dPR_arrange_237 : decode prog_5_method_12_code 237 = .ok (.aload_n 0, 1) := by decide +kernel
theorem dPR_arrange_238 : decode prog_5_method_12_code 238 = .ok (.getfield 31, 3) := by decide +kernel
theorem dPR_arrange_241 : decode prog_5_method_12_code 241 = .ok (.invokevirtual 200, 3) := by decide +kernel
theorem dPR_arrange_244 : decode prog_5_method_12_code 244 = .ok (.aload_n 0, 1) := by decide +kernel
theorem dPR_arrange_245 : decode prog_5_method_12_code 245 = .ok (.invokevirtual 216, 3) := by decide +kernel
theorem dPR_arrange_248 : decode prog_5_method_12_code 248 = .ok (.iconst (-1), 1) := by decide +kernel
theorem dPR_arrange_249 : decode prog_5_method_12_code 249 = .ok (.ixor, 1) := by decide +kernel
theorem dPR_arrange_250 : decode prog_5_method_12_code 250 = .ok (.iand, 1) := by decide +kernel
theorem dPR_arrange_251 : decode prog_5_method_12_code 251 = .ok (.iload 6, 2) := by decide +kernel
theorem dPR_arrange_253 : decode prog_5_method_12_code 253 = .ok (.aload_n 0, 1) := by decide +kernel
theorem dPR_arrange_254 : decode prog_5_method_12_code 254 = .ok (.invokevirtual 216, 3) := by decide +kernel
theorem dPR_arrange_257 : decode prog_5_method_12_code 257 = .ok (.iand, 1) := by decide +kernel
theorem dPR_arrange_258 : decode prog_5_method_12_code 258 = .ok (.ior, 1) := by decide +kernel
theorem dPR_arrange_259 : decode prog_5_method_12_code 259 = .ok (.invokevirtual 193, 3) := by decide +kernel
theorem dPR_arrange_262 : decode prog_5_method_12_code 262 = .ok (.goto 3, 3) := by decide +kernel
theorem dPR_arrange_265 : decode prog_5_method_12_code 265 = .ok (.return_, 1) := by decide +kernel
theorem dPR_saveNext_0 : decode prog_5_method_6_code 0 = .ok (.aload_n 0, 1) := by decide +kernel
theorem dPR_saveNext_1 : decode prog_5_method_6_code 1 = .ok (.getfield 9, 3) := by decide +kernel
theorem dPR_saveNext_4 : decode prog_5_method_6_code 4 = .ok (.aload_n 0, 1) := by decide +kernel
theorem dPR_saveNext_5 : decode prog_5_method_6_code 5 = .ok (.getfield 114, 3) := by decide +kernel
theorem dPR_saveNext_8 : decode prog_5_method_6_code 8 = .ok (.getfield 140, 3) := by decide +kernel
theorem dPR_saveNext_11 : decode prog_5_method_6_code 11 = .ok (.iconst 2, 1) := by decide +kernel
theorem dPR_saveNext_12 : decode prog_5_method_6_code 12 = .ok (.iadd, 1) := by decide +kernel
theorem dPR_saveNext_13 : decode prog_5_method_6_code 13 = .ok (.aload_n 0, 1) := by decide +kernel
theorem dPR_saveNext_14 : decode prog_5_method_6_code 14 = .ok (.getfield 40, 3) := by decide +kernel
theorem dPR_saveNext_17 : decode prog_5_method_6_code 17 = .ok (.getfield 159, 3) := by decide +kernel
theorem dPR_saveNext_20 : decode prog_5_method_6_code 20 = .ok (.invokevirtual 162, 3) := by decide +kernel
theorem dPR_saveNext_23 : decode prog_5_method_6_code 23 = .ok (.aload_n 0, 1) := by decide +kernel
theorem dPR_saveNext_24 : decode prog_5_method_6_code 24 = .ok (.iconst 0, 1) := by decide +kernel
theorem dPR_saveNext_25 : decode prog_5_method_6_code 25 = .ok (.putfield 141, 3) := by decide +kernel
theorem dPR_saveNext_28 : decode prog_5_method_6_code 28 = .ok (.return_, 1) := by decide +kernel
theorem dFR_procedure_0 : decode prog_2_method_8_code 0 = .ok (.iload_n 0, 1) := by decide +kernel
theorem dFR_procedure_1 : decode prog_2_method_8_code 1 = .ok (.bipush 32, 2) := by decide +kernel
theorem dFR_procedure_3 : decode prog_2_method_8_code 3 = .ok (.imul, 1) := by decide +kernel
theorem dFR_procedure_4 : decode prog_2_method_8_code 4 = .ok (.iload_n 1, 1) := by decide +kernel
theorem dFR_procedure_5 : decode prog_2_method_8_code 5 = .ok (.iconst 2, 1) := by decide +kernel
theorem dFR_procedure_6 : decode prog_2_method_8_code 6 = .ok (.imul, 1) := by decide +kernel
theorem dFR_procedure_7 : decode prog_2_method_8_code 7 = .ok (.iadd, 1) := by decide +kernel
theorem dFR_procedure_8 : decode prog_2_method_8_code 8 = .ok (.iconst 1, 1) := by decide +kernel
theorem dFR_procedure_9 : decode prog_2_method_8_code 9 = .ok (.iadd, 1) := by decide +kernel
theorem dFR_procedure_10 : decode prog_2_method_8_code 10 = .ok (.ireturn, 1) := by decide +kernel
theorem dPR_goTo_0 : decode prog_5_method_16_code 0 = .ok (.aload_n 0, 1) := by decide +kernel
theorem dPR_goTo_1 : decode prog_5_method_16_code 1 = .ok (.getfield 24, 3) := by decide +kernel
theorem dPR_goTo_4 : decode prog_5_method_16_code 4 = .ok (.iload_n 1, 1) := by decide +kernel
theorem dPR_goTo_5 : decode prog_5_method_16_code 5 = .ok (.invokevirtual 243, 3) := by decide +kernel
theorem dPR_goTo_8 : decode prog_5_method_16_code 8 = .ok (.istore_n 3, 1) := by decide +kernel
theorem dPR_goTo_9 : decode prog_5_method_16_code 9 = .ok (.aload_n 0, 1) := by decide +kernel
theorem dPR_goTo_10 : decode prog_5_method_16_code 10 = .ok (.iload_n 3, 1) := by decide +kernel
theorem dPR_goTo_11 : decode prog_5_method_16_code 11 = .ok (.invokestatic 246, 3) := by decide +kernel
theorem dPR_goTo_14 : decode prog_5_method_16_code 14 = .ok (.ifCond .eq 15, 3) := by decide +kernel
theorem dPR_goTo_17 : decode prog_5_method_16_code 17 = .ok (.aload_n 0, 1) := by decide +kernel
theorem dPR_goTo_18 : decode prog_5_method_16_code 18 = .ok (.getfield 24, 3) := by decide +kernel
theorem dPR_goTo_21 : decode prog_5_method_16_code 21 = .ok (.iload_n 3, 1) := by decide +kernel
theorem dPR_goTo_22 : decode prog_5_method_16_code 22 = .ok (.iload_n 2, 1) := by decide +kernel
theorem dPR_goTo_23 : decode prog_5_method_16_code 23 = .ok (.invokevirtual 250, 3) := by decide +kernel
theorem dPR_goTo_26 : decode prog_5_method_16_code 26 = .ok (.goto 4, 3) := by decide +kernel
theorem dPR_goTo_29 : decode prog_5_method_16_code 29 = .ok (.iload_n 3, 1) := by decide +kernel
theorem dPR_goTo_30 : decode prog_5_method_16_code 30 = .ok (.putfield 85, 3) := by decide +kernel
theorem dPR_goTo_33 : decode prog_5_method_16_code 33 = .ok (.return_, 1) := by decide +kernel
theorem dFR_giveBack_0 : decode prog_2_method_3_code 0 = .ok (.aload_n 0, 1) := by decide +kernel
theorem dFR_giveBack_1 : decode prog_2_method_3_code 1 = .ok (.getfield 9, 3) := by decide +kernel
theorem dFR_giveBack_4 : decode prog_2_method_3_code 4 = .ok (.iload_n 1, 1) := by decide +kernel
theorem dFR_giveBack_5 : decode prog_2_method_3_code 5 = .ok (.iconst 3, 1) := by decide +kernel
theorem dFR_giveBack_6 : decode prog_2_method_3_code 6 = .ok (.iadd, 1) := by decide +kernel
theorem dFR_giveBack_7 : decode prog_2_method_3_code 7 = .ok (.invokevirtual 15, 3) := by decide +kernel
theorem dFR_giveBack_10 : decode prog_2_method_3_code 10 = .ok (.bipush 7, 2) := by decide +kernel
theorem dFR_giveBack_12 : decode prog_2_method_3_code 12 = .ok (.iand, 1) := by decide +kernel
theorem dFR_giveBack_13 : decode prog_2_method_3_code 13 = .ok (.istore_n 2, 1) := by decide +kernel
theorem dFR_giveBack_14 : decode prog_2_method_3_code 14 = .ok (.aload_n 0, 1) := by decide +kernel
theorem dFR_giveBack_15 : decode prog_2_method_3_code 15 = .ok (.getfield 9, 3) := by decide +kernel
theorem dFR_giveBack_18 : decode prog_2_method_3_code 18 = .ok (.bipush 16, 2) := by decide +kernel
theorem dFR_giveBack_20 : decode prog_2_method_3_code 20 = .ok (.iload_n 2, 1) := by decide +kernel
theorem dFR_giveBack_21 : decode prog_2_method_3_code 21 = .ok (.iadd, 1) := by decide +kernel
theorem dFR_giveBack_22 : decode prog_2_method_3_code 22 = .ok (.invokevirtual 15, 3) := by decide +kernel
theorem dFR_giveBack_25 : decode prog_2_method_3_code 25 = .ok (.istore_n 3, 1) := by decide +kernel
theorem dFR_giveBack_26 : decode prog_2_method_3_code 26 = .ok (.aload_n 0, 1) := by decide +kernel
theorem dFR_giveBack_27 : decode prog_2_method_3_code 27 = .ok (.getfield 9, 3) := by decide +kernel
theorem dFR_giveBack_30 : decode prog_2_method_3_code 30 = .ok (.iload_n 1, 1) := by decide +kernel
theorem dFR_giveBack_31 : decode prog_2_method_3_code 31 = .ok (.iload_n 3, 1) := by decide +kernel
theorem dFR_giveBack_32 : decode prog_2_method_3_code 32 = .ok (.invokevirtual 25, 3) := by decide +kernel
theorem dFR_giveBack_35 : decode prog_2_method_3_code 35 = .ok (.aload_n 0, 1) := by decide +kernel
theorem dFR_giveBack_36 : decode prog_2_method_3_code 36 = .ok (.getfield 9, 3) := by decide +kernel
theorem dFR_giveBack_39 : decode prog_2_method_3_code 39 = .ok (.bipush 16, 2) := by decide +kernel
theorem dFR_giveBack_41 : decode prog_2_method_3_code 41 = .ok (.iload_n 2, 1) := by decide +kernel
theorem dFR_giveBack_42 : decode prog_2_method_3_code 42 = .ok (.iadd, 1) := by decide +kernel
theorem dFR_giveBack_43 : decode prog_2_method_3_code 43 = .ok (.iload_n 1, 1) := by decide +kernel
theorem dFR_giveBack_44 : decode prog_2_method_3_code 44 = .ok (.invokevirtual 25, 3) := by decide +kernel
theorem dFR_giveBack_47 : decode prog_2_method_3_code 47 = .ok (.return_, 1) := by decide +kernel
theorem dPR_transfer_0 : decode prog_5_method_15_code 0 = .ok (.aload_n 0, 1) := by decide +kernel
theorem dPR_transfer_1 : decode prog_5_method_15_code 1 = .ok (.getfield 40, 3) := by decide +kernel
theorem dPR_transfer_4 : decode prog_5_method_15_code 4 = .ok (.getfield 190, 3) := by decide +kernel
theorem dPR_transfer_7 : decode prog_5_method_15_code 7 = .ok (.istore_n 1, 1) := by decide +kernel
theorem dPR_transfer_8 : decode prog_5_method_15_code 8 = .ok (.aload_n 0, 1) := by decide +kernel
theorem dPR_transfer_9 : decode prog_5_method_15_code 9 = .ok (.getfield 40, 3) := by decide +kernel
theorem dPR_transfer_12 : decode prog_5_method_15_code 12 = .ok (.getfield 92, 3) := by decide +kernel
theorem dPR_transfer_15 : decode prog_5_method_15_code 15 = .ok (.tableswitch 263 25 31 #[41, 73, 138, 111, 200, 221, 238], 41) := by decide +kernel
theorem dPR_transfer_56 : decode prog_5_method_15_code 56 = .ok (.aload_n 0, 1) := by decide +kernel
theorem dPR_transfer_57 : decode prog_5_method_15_code 57 = .ok (.invokevirtual 156, 3) := by decide +kernel
theorem dPR_transfer_60 : decode prog_5_method_15_code 60 = .ok (.aload_n 0, 1) := by decide +kernel
theorem dPR_transfer_61 : decode prog_5_method_15_code 61 = .ok (.aload_n 0, 1) := by decide +kernel
theorem dPR_transfer_62 : decode prog_5_method_15_code 62 = .ok (.getfield 40, 3) := by decide +kernel
theorem dPR_transfer_65 : decode prog_5_method_15_code 65 = .ok (.getfield 228, 3) := by decide +kernel
theorem dPR_transfer_68 : decode prog_5_method_15_code 68 = .ok (.iload_n 1, 1) := by decide +kernel
theorem dPR_transfer_69 : decode prog_5_method_15_code 69 = .ok (.bipush 15, 2) := by decide +kernel
theorem dPR_transfer_71 : decode prog_5_method_15_code 71 = .ok (.iand, 1) := by decide +kernel
theorem dPR_transfer_72 : decode prog_5_method_15_code 72 = .ok (.invokestatic 231, 3) := by decide +kernel
theorem dPR_transfer_75 : decode prog_5_method_15_code 75 = .ok (.aload_n 0, 1) := by decide +kernel
theorem dPR_transfer_76 : decode prog_5_method_15_code 76 = .ok (.getfield 114, 3) := by decide +kernel
theorem dPR_transfer_79 : decode prog_5_method_15_code 79 = .ok (.getfield 140, 3) := by decide +kernel
theorem dPR_transfer_82 : decode prog_5_method_15_code 82 = .ok (.invokevirtual 234, 3) := by decide +kernel
theorem dPR_transfer_85 : decode prog_5_method_15_code 85 = .ok (.goto 193, 3) := by decide +kernel
theorem dPR_transfer_88 : decode prog_5_method_15_code 88 = .ok (.aload_n 0, 1) := by decide +kernel
theorem dPR_transfer_89 : decode prog_5_method_15_code 89 = .ok (.getfield 9, 3) := by decide +kernel
theorem dPR_transfer_92 : decode prog_5_method_15_code 92 = .ok (.aload_n 0, 1) := by decide +kernel
theorem dPR_transfer_93 : decode prog_5_method_15_code 93 = .ok (.getfield 40, 3) := by decide +kernel
theorem dPR_transfer_96 : decode prog_5_method_15_code 96 = .ok (.getfield 203, 3) := by decide +kernel
theorem dPR_transfer_99 : decode prog_5_method_15_code 99 = .ok (.iconst 1, 1) := by decide +kernel
theorem dPR_transfer_100 : decode prog_5_method_15_code 100 = .ok (.isub, 1) := by decide +kernel
theorem dPR_transfer_101 : decode prog_5_method_15_code 101 = .ok (.iload_n 1, 1) := by decide +kernel
theorem dPR_transfer_102 : decode prog_5_method_15_code 102 = .ok (.isub, 1) := by decide +kernel
theorem dPR_transfer_103 : decode prog_5_method_15_code 103 = .ok (.invokevirtual 196, 3) := by decide +kernel
theorem dPR_transfer_106 : decode prog_5_method_15_code 106 = .ok (.istore_n 2, 1) := by decide +kernel
theorem dPR_transfer_107 : decode prog_5_method_15_code 107 = .ok (.aload_n 0, 1) := by decide +kernel
theorem dPR_transfer_108 : decode prog_5_method_15_code 108 = .ok (.invokevirtual 156, 3) := by decide +kernel
theorem dPR_transfer_111 : decode prog_5_method_15_code 111 = .ok (.aload_n 0, 1) := by decide +kernel
theorem dPR_transfer_112 : decode prog_5_method_15_code 112 = .ok (.iload_n 2, 1) := by decide +kernel
theorem dPR_transfer_113 : decode prog_5_method_15_code 113 = .ok (.aload_n 0, 1) := by decide +kernel
theorem dPR_transfer_114 : decode prog_5_method_15_code 114 = .ok (.getfield 114, 3) := by decide +kernel
theorem dPR_transfer_117 : decode prog_5_method_15_code 117 = .ok (.getfield 140, 3) := by decide +kernel
theorem dPR_transfer_120 : decode prog_5_method_15_code 120 = .ok (.invokevirtual 234, 3) := by decide +kernel
theorem dPR_transfer_123 : decode prog_5_method_15_code 123 = .ok (.goto 155, 3) := by decide +kernel
theorem dPR_transfer_126 : decode prog_5_method_15_code 126 = .ok (.aload_n 0, 1) := by decide +kernel
theorem dPR_transfer_127 : decode prog_5_method_15_code 127 = .ok (.getfield 31, 3) := by decide +kernel
theorem dPR_transfer_130 : decode prog_5_method_15_code 130 = .ok (.invokevirtual 200, 3) := by decide +kernel
theorem dPR_transfer_133 : decode prog_5_method_15_code 133 = .ok (.istore_n 3, 1) := by decide +kernel
theorem dPR_transfer_134 : decode prog_5_method_15_code 134 = .ok (.aload_n 0, 1) := by decide +kernel
theorem dPR_transfer_135 : decode prog_5_method_15_code 135 = .ok (.invokevirtual 156, 3) := by decide +kernel
theorem dPR_transfer_138 : decode prog_5_method_15_code 138 = .ok (.aload_n 0, 1) := by decide +kernel
theorem dPR_transfer_139 : decode prog_5_method_15_code 139 = .ok (.iload_n 3, 1) := by decide +kernel
theorem dPR_transfer_140 : decode prog_5_method_15_code 140 = .ok (.aload_n 0, 1) := by decide +kernel
theorem dPR_transfer_141 : decode prog_5_method_15_code 141 = .ok (.getfield 114, 3) := by decide +kernel
theorem dPR_transfer_144 : decode prog_5_method_15_code 144 = .ok (.getfield 140, 3) := by decide +kernel
theorem dPR_transfer_147 : decode prog_5_method_15_code 147 = .ok (.invokevirtual 234, 3) := by decide +kernel
theorem dPR_transfer_150 : decode prog_5_method_15_code 150 = .ok (.goto 128, 3) := by decide +kernel
theorem dPR_transfer_153 : decode prog_5_method_15_code 153 = .ok (.aload_n 0, 1) := by decide +kernel
theorem dPR_transfer_154 : decode prog_5_method_15_code 154 = .ok (.iconst 0, 1) := by decide +kernel
theorem dPR_transfer_155 : decode prog_5_method_15_code 155 = .ok (.putfield 141, 3) := by decide +kernel
theorem dPR_transfer_158 : decode prog_5_method_15_code 158 = .ok (.aload_n 0, 1) := by decide +kernel
theorem dPR_transfer_159 : decode prog_5_method_15_code 159 = .ok (.getfield 9, 3) := by decide +kernel
theorem dPR_transfer_162 : decode prog_5_method_15_code 162 = .ok (.aload_n 0, 1) := by decide +kernel
theorem dPR_transfer_163 : decode prog_5_method_15_code 163 = .ok (.getfield 85, 3) := by decide +kernel
theorem dPR_transfer_166 : decode prog_5_method_15_code 166 = .ok (.iconst 0, 1) := by decide +kernel
theorem dPR_transfer_167 : decode prog_5_method_15_code 167 = .ok (.iadd, 1) := by decide +kernel
theorem dPR_transfer_168 : decode prog_5_method_15_code 168 = .ok (.invokevirtual 196, 3) := by decide +kernel
theorem dPR_transfer_171 : decode prog_5_method_15_code 171 = .ok (.istore 4, 2) := by decide +kernel
theorem dPR_transfer_173 : decode prog_5_method_15_code 173 = .ok (.aload_n 0, 1) := by decide +kernel
theorem dPR_transfer_174 : decode prog_5_method_15_code 174 = .ok (.getfield 24, 3) := by decide +kernel
theorem dPR_transfer_177 : decode prog_5_method_15_code 177 = .ok (.aload_n 0, 1) := by decide +kernel
theorem dPR_transfer_178 : decode prog_5_method_15_code 178 = .ok (.getfield 85, 3) := by decide +kernel
theorem dPR_transfer_181 : decode prog_5_method_15_code 181 = .ok (.invokevirtual 237, 3) := by decide +kernel
theorem dPR_transfer_184 : decode prog_5_method_15_code 184 = .ok (.aload_n 0, 1) := by decide +kernel
theorem dPR_transfer_185 : decode prog_5_method_15_code 185 = .ok (.iload 4, 2) := by decide +kernel
theorem dPR_transfer_187 : decode prog_5_method_15_code 187 = .ok (.ifCond .ne 7, 3) := by decide +kernel
theorem dPR_transfer_190 : decode prog_5_method_15_code 190 = .ok (.iconst 1, 1) := by decide +kernel
theorem dPR_transfer_191 : decode prog_5_method_15_code 191 = .ok (.goto 4, 3) := by decide +kernel
theorem dPR_transfer_194 : decode prog_5_method_15_code 194 = .ok (.iconst 0, 1) := by decide +kernel
theorem dPR_transfer_195 : decode prog_5_method_15_code 195 = .ok (.putfield 144, 3) := by decide +kernel
theorem dPR_transfer_198 : decode prog_5_method_15_code 198 = .ok (.aload_n 0, 1) := by decide +kernel
theorem dPR_transfer_199 : decode prog_5_method_15_code 199 = .ok (.getfield 144, 3) := by decide +kernel
theorem dPR_transfer_202 : decode prog_5_method_15_code 202 = .ok (.ifCond .ne 76, 3) := by decide +kernel
theorem dPR_transfer_205 : decode prog_5_method_15_code 205 = .ok (.aload_n 0, 1) := by decide +kernel
theorem dPR_transfer_206 : decode prog_5_method_15_code 206 = .ok (.iload 4, 2) := by decide +kernel
theorem dPR_transfer_208 : decode prog_5_method_15_code 208 = .ok (.iconst 0, 1) := by decide +kernel
theorem dPR_transfer_209 : decode prog_5_method_15_code 209 = .ok (.invokevirtual 234, 3) := by decide +kernel
theorem dPR_transfer_212 : decode prog_5_method_15_code 212 = .ok (.goto 66, 3) := by decide +kernel
theorem dPR_transfer_215 : decode prog_5_method_15_code 215 = .ok (.aload_n 0, 1) := by decide +kernel
theorem dPR_transfer_216 : decode prog_5_method_15_code 216 = .ok (.getfield 31, 3) := by decide +kernel
theorem dPR_transfer_219 : decode prog_5_method_15_code 219 = .ok (.aload_n 0, 1) := by decide +kernel
theorem dPR_transfer_220 : decode prog_5_method_15_code 220 = .ok (.getfield 24, 3) := by decide +kernel
theorem dPR_transfer_223 : decode prog_5_method_15_code 223 = .ok (.iload_n 1, 1) := by decide +kernel
theorem dPR_transfer_224 : decode prog_5_method_15_code 224 = .ok (.bipush 7, 2) := by decide +kernel
theorem dPR_transfer_226 : decode prog_5_method_15_code 226 = .ok (.iand, 1) := by decide +kernel
theorem dPR_transfer_227 : decode prog_5_method_15_code 227 = .ok (.invokevirtual 240, 3) := by decide +kernel
theorem dPR_transfer_230 : decode prog_5_method_15_code 230 = .ok (.invokevirtual 193, 3) := by decide +kernel
theorem dPR_transfer_233 : decode prog_5_method_15_code 233 = .ok (.goto 45, 3) := by decide +kernel
theorem dPR_transfer_236 : decode prog_5_method_15_code 236 = .ok (.aload_n 0, 1) := by decide +kernel
theorem dPR_transfer_237 : decode prog_5_method_15_code 237 = .ok (.getfield 24, 3) := by decide +kernel
theorem dPR_transfer_240 : decode prog_5_method_15_code 240 = .ok (.aload_n 0, 1) := by decide +kernel
theorem dPR_transfer_241 : decode prog_5_method_15_code 241 = .ok (.getfield 31, 3) := by decide +kernel
theorem dPR_transfer_244 : decode prog_5_method_15_code 244 = .ok (.invokevirtual 200, 3) := by decide +kernel
theorem dPR_transfer_247 : decode prog_5_method_15_code 247 = .ok (.invokevirtual 237, 3) := by decide +kernel
theorem dPR_transfer_250 : decode prog_5_method_15_code 250 = .ok (.goto 28, 3) := by decide +kernel
theorem dPR_transfer_253 : decode prog_5_method_15_code 253 = .ok (.aload_n 0, 1) := by decide +kernel
theorem dPR_transfer_254 : decode prog_5_method_15_code 254 = .ok (.getfield 31, 3) := by decide +kernel
theorem dPR_transfer_257 : decode prog_5_method_15_code 257 = .ok (.invokevirtual 200, 3) := by decide +kernel
theorem dPR_transfer_260 : decode prog_5_method_15_code 260 = .ok (.istore 5, 2) := by decide +kernel
theorem dPR_transfer_262 : decode prog_5_method_15_code 262 = .ok (.aload_n 0, 1) := by decide +kernel
theorem dPR_transfer_263 : decode prog_5_method_15_code 263 = .ok (.iload 5, 2) := by decide +kernel
theorem dPR_transfer_265 : decode prog_5_method_15_code 265 = .ok (.aload_n 0, 1) := by decide +kernel
theorem dPR_transfer_266 : decode prog_5_method_15_code 266 = .ok (.getfield 31, 3) := by decide +kernel
theorem dPR_transfer_269 : decode prog_5_method_15_code 269 = .ok (.invokevirtual 200, 3) := by decide +kernel
theorem dPR_transfer_272 : decode prog_5_method_15_code 272 = .ok (.invokevirtual 49, 3) := by decide +kernel
theorem dPR_transfer_275 : decode prog_5_method_15_code 275 = .ok (.goto 3, 3) := by decide +kernel
theorem dPR_transfer_278 : decode prog_5_method_15_code 278 = .ok (.return_, 1) := by decide +kernel
theorem dME_addressOf_0 : decode prog_4_method_5_code 0 = .ok (.iload_n 0, 1) := by decide +kernel
theorem dME_addressOf_1 : decode prog_4_method_5_code 1 = .ok (.sipush 4095, 3) := by decide +kernel
theorem dME_addressOf_4 : decode prog_4_method_5_code 4 = .ok (.iand, 1) := by decide +kernel
theorem dME_addressOf_5 : decode prog_4_method_5_code 5 = .ok (.ireturn, 1) := by decide +kernel
theorem dPR_enterMonitor_0 : decode prog_5_method_19_code 0 = .ok (.aload_n 0, 1) := by decide +kernel
theorem dPR_enterMonitor_1 : decode prog_5_method_19_code 1 = .ok (.iload_n 1, 1) := by decide +kernel
theorem dPR_enterMonitor_2 : decode prog_5_method_19_code 2 = .ok (.invokestatic 263, 3) := by decide +kernel
theorem dPR_enterMonitor_5 : decode prog_5_method_19_code 5 = .ok (.putfield 117, 3) := by decide +kernel
theorem dPR_enterMonitor_8 : decode prog_5_method_19_code 8 = .ok (.aload_n 0, 1) := by decide +kernel
theorem dPR_enterMonitor_9 : decode prog_5_method_19_code 9 = .ok (.getfield 9, 3) := by decide +kernel
theorem dPR_enterMonitor_12 : decode prog_5_method_19_code 12 = .ok (.aload_n 0, 1) := by decide +kernel
theorem dPR_enterMonitor_13 : decode prog_5_method_19_code 13 = .ok (.getfield 117, 3) := by decide +kernel
theorem dPR_enterMonitor_16 : decode prog_5_method_19_code 16 = .ok (.invokevirtual 196, 3) := by decide +kernel
theorem dPR_enterMonitor_19 : decode prog_5_method_19_code 19 = .ok (.ifCond .ne 18, 3) := by decide +kernel
theorem dPR_enterMonitor_22 : decode prog_5_method_19_code 22 = .ok (.aload_n 0, 1) := by decide +kernel
theorem dPR_enterMonitor_23 : decode prog_5_method_19_code 23 = .ok (.getfield 9, 3) := by decide +kernel
theorem dPR_enterMonitor_26 : decode prog_5_method_19_code 26 = .ok (.aload_n 0, 1) := by decide +kernel
theorem dPR_enterMonitor_27 : decode prog_5_method_19_code 27 = .ok (.getfield 117, 3) := by decide +kernel
theorem dPR_enterMonitor_30 : decode prog_5_method_19_code 30 = .ok (.iconst 1, 1) := by decide +kernel
theorem dPR_enterMonitor_31 : decode prog_5_method_19_code 31 = .ok (.invokevirtual 162, 3) := by decide +kernel
theorem dPR_enterMonitor_34 : decode prog_5_method_19_code 34 = .ok (.goto 8, 3) := by decide +kernel
theorem dPR_enterMonitor_37 : decode prog_5_method_19_code 37 = .ok (.aload_n 0, 1) := by decide +kernel
theorem dPR_enterMonitor_38 : decode prog_5_method_19_code 38 = .ok (.iconst 1, 1) := by decide +kernel
theorem dPR_enterMonitor_39 : decode prog_5_method_19_code 39 = .ok (.putfield 110, 3) := by decide +kernel
theorem dPR_enterMonitor_42 : decode prog_5_method_19_code 42 = .ok (.return_, 1) := by decide +kernel
theorem dPR_exitMonitor_0 : decode prog_5_method_20_code 0 = .ok (.aload_n 0, 1) := by decide +kernel
theorem dPR_exitMonitor_1 : decode prog_5_method_20_code 1 = .ok (.iload_n 1, 1) := by decide +kernel
theorem dPR_exitMonitor_2 : decode prog_5_method_20_code 2 = .ok (.invokestatic 263, 3) := by decide +kernel
theorem dPR_exitMonitor_5 : decode prog_5_method_20_code 5 = .ok (.putfield 117, 3) := by decide +kernel
theorem dPR_exitMonitor_8 : decode prog_5_method_20_code 8 = .ok (.aload_n 0, 1) := by decide +kernel
theorem dPR_exitMonitor_9 : decode prog_5_method_20_code 9 = .ok (.getfield 9, 3) := by decide +kernel
theorem dPR_exitMonitor_12 : decode prog_5_method_20_code 12 = .ok (.aload_n 0, 1) := by decide +kernel
theorem dPR_exitMonitor_13 : decode prog_5_method_20_code 13 = .ok (.getfield 117, 3) := by decide +kernel
theorem dPR_exitMonitor_16 : decode prog_5_method_20_code 16 = .ok (.iconst 0, 1) := by decide +kernel
theorem dPR_exitMonitor_17 : decode prog_5_method_20_code 17 = .ok (.invokevirtual 162, 3) := by decide +kernel
theorem dPR_exitMonitor_20 : decode prog_5_method_20_code 20 = .ok (.return_, 1) := by decide +kernel
theorem dPR_awaitCondition_0 : decode prog_5_method_21_code 0 = .ok (.aload_n 0, 1) := by decide +kernel
theorem dPR_awaitCondition_1 : decode prog_5_method_21_code 1 = .ok (.getfield 9, 3) := by decide +kernel
theorem dPR_awaitCondition_4 : decode prog_5_method_21_code 4 = .ok (.aload_n 0, 1) := by decide +kernel
theorem dPR_awaitCondition_5 : decode prog_5_method_21_code 5 = .ok (.getfield 175, 3) := by decide +kernel
theorem dPR_awaitCondition_8 : decode prog_5_method_21_code 8 = .ok (.invokevirtual 196, 3) := by decide +kernel
theorem dPR_awaitCondition_11 : decode prog_5_method_21_code 11 = .ok (.istore_n 1, 1) := by decide +kernel
theorem dPR_awaitCondition_12 : decode prog_5_method_21_code 12 = .ok (.aload_n 0, 1) := by decide +kernel
theorem dPR_awaitCondition_13 : decode prog_5_method_21_code 13 = .ok (.iload_n 1, 1) := by decide +kernel
theorem dPR_awaitCondition_14 : decode prog_5_method_21_code 14 = .ok (.iconst 1, 1) := by decide +kernel
theorem dPR_awaitCondition_15 : decode prog_5_method_21_code 15 = .ok (.iand, 1) := by decide +kernel
theorem dPR_awaitCondition_16 : decode prog_5_method_21_code 16 = .ok (.ifCond .ne 7, 3) := by decide +kernel
theorem dPR_awaitCondition_19 : decode prog_5_method_21_code 19 = .ok (.iconst 1, 1) := by decide +kernel
theorem dPR_awaitCondition_20 : decode prog_5_method_21_code 20 = .ok (.goto 4, 3) := by decide +kernel
theorem dPR_awaitCondition_23 : decode prog_5_method_21_code 23 = .ok (.iconst 0, 1) := by decide +kernel
theorem dPR_awaitCondition_24 : decode prog_5_method_21_code 24 = .ok (.putfield 147, 3) := by decide +kernel
theorem dPR_awaitCondition_27 : decode prog_5_method_21_code 27 = .ok (.aload_n 0, 1) := by decide +kernel
theorem dPR_awaitCondition_28 : decode prog_5_method_21_code 28 = .ok (.getfield 147, 3) := by decide +kernel
theorem dPR_awaitCondition_31 : decode prog_5_method_21_code 31 = .ok (.ifCond .ne 17, 3) := by decide +kernel
theorem dPR_awaitCondition_34 : decode prog_5_method_21_code 34 = .ok (.aload_n 0, 1) := by decide +kernel
theorem dPR_awaitCondition_35 : decode prog_5_method_21_code 35 = .ok (.getfield 9, 3) := by decide +kernel
theorem dPR_awaitCondition_38 : decode prog_5_method_21_code 38 = .ok (.aload_n 0, 1) := by decide +kernel
theorem dPR_awaitCondition_39 : decode prog_5_method_21_code 39 = .ok (.getfield 175, 3) := by decide +kernel
theorem dPR_awaitCondition_42 : decode prog_5_method_21_code 42 = .ok (.iload_n 1, 1) := by decide +kernel
theorem dPR_awaitCondition_43 : decode prog_5_method_21_code 43 = .ok (.iconst 1, 1) := by decide +kernel
theorem dPR_awaitCondition_44 : decode prog_5_method_21_code 44 = .ok (.isub, 1) := by decide +kernel
theorem dPR_awaitCondition_45 : decode prog_5_method_21_code 45 = .ok (.invokevirtual 162, 3) := by decide +kernel
theorem dPR_awaitCondition_48 : decode prog_5_method_21_code 48 = .ok (.return_, 1) := by decide +kernel
theorem dPR_coordinate_0 : decode prog_5_method_18_code 0 = .ok (.aload_n 0, 1) := by decide +kernel
theorem dPR_coordinate_1 : decode prog_5_method_18_code 1 = .ok (.getfield 40, 3) := by decide +kernel
theorem dPR_coordinate_4 : decode prog_5_method_18_code 4 = .ok (.getfield 92, 3) := by decide +kernel
theorem dPR_coordinate_7 : decode prog_5_method_18_code 7 = .ok (.tableswitch 121 40 44 #[33, 47, 61, 104, 104], 33) := by decide +kernel
theorem dPR_coordinate_40 : decode prog_5_method_18_code 40 = .ok (.aload_n 0, 1) := by decide +kernel
theorem dPR_coordinate_41 : decode prog_5_method_18_code 41 = .ok (.aload_n 0, 1) := by decide +kernel
theorem dPR_coordinate_42 : decode prog_5_method_18_code 42 = .ok (.getfield 31, 3) := by decide +kernel
theorem dPR_coordinate_45 : decode prog_5_method_18_code 45 = .ok (.invokevirtual 200, 3) := by decide +kernel
theorem dPR_coordinate_48 : decode prog_5_method_18_code 48 = .ok (.invokevirtual 257, 3) := by decide +kernel
theorem dPR_coordinate_51 : decode prog_5_method_18_code 51 = .ok (.goto 77, 3) := by decide +kernel
theorem dPR_coordinate_54 : decode prog_5_method_18_code 54 = .ok (.aload_n 0, 1) := by decide +kernel
theorem dPR_coordinate_55 : decode prog_5_method_18_code 55 = .ok (.aload_n 0, 1) := by decide +kernel
theorem dPR_coordinate_56 : decode prog_5_method_18_code 56 = .ok (.getfield 31, 3) := by decide +kernel
theorem dPR_coordinate_59 : decode prog_5_method_18_code 59 = .ok (.invokevirtual 200, 3) := by decide +kernel
theorem dPR_coordinate_62 : decode prog_5_method_18_code 62 = .ok (.invokevirtual 260, 3) := by decide +kernel
theorem dPR_coordinate_65 : decode prog_5_method_18_code 65 = .ok (.goto 63, 3) := by decide +kernel
theorem dPR_coordinate_68 : decode prog_5_method_18_code 68 = .ok (.aload_n 0, 1) := by decide +kernel
theorem dPR_coordinate_69 : decode prog_5_method_18_code 69 = .ok (.aload_n 0, 1) := by decide +kernel
theorem dPR_coordinate_70 : decode prog_5_method_18_code 70 = .ok (.getfield 31, 3) := by decide +kernel
theorem dPR_coordinate_73 : decode prog_5_method_18_code 73 = .ok (.invokevirtual 200, 3) := by decide +kernel
theorem dPR_coordinate_76 : decode prog_5_method_18_code 76 = .ok (.putfield 178, 3) := by decide +kernel
theorem dPR_coordinate_79 : decode prog_5_method_18_code 79 = .ok (.aload_n 0, 1) := by decide +kernel
theorem dPR_coordinate_80 : decode prog_5_method_18_code 80 = .ok (.aload_n 0, 1) := by decide +kernel
theorem dPR_coordinate_81 : decode prog_5_method_18_code 81 = .ok (.getfield 31, 3) := by decide +kernel
theorem dPR_coordinate_84 : decode prog_5_method_18_code 84 = .ok (.invokevirtual 200, 3) := by decide +kernel
theorem dPR_coordinate_87 : decode prog_5_method_18_code 87 = .ok (.invokestatic 263, 3) := by decide +kernel
theorem dPR_coordinate_90 : decode prog_5_method_18_code 90 = .ok (.putfield 175, 3) := by decide +kernel
theorem dPR_coordinate_93 : decode prog_5_method_18_code 93 = .ok (.aload_n 0, 1) := by decide +kernel
theorem dPR_coordinate_94 : decode prog_5_method_18_code 94 = .ok (.aload_n 0, 1) := by decide +kernel
theorem dPR_coordinate_95 : decode prog_5_method_18_code 95 = .ok (.getfield 31, 3) := by decide +kernel
theorem dPR_coordinate_98 : decode prog_5_method_18_code 98 = .ok (.invokevirtual 200, 3) := by decide +kernel
theorem dPR_coordinate_101 : decode prog_5_method_18_code 101 = .ok (.invokevirtual 260, 3) := by decide +kernel
theorem dPR_coordinate_104 : decode prog_5_method_18_code 104 = .ok (.aload_n 0, 1) := by decide +kernel
theorem dPR_coordinate_105 : decode prog_5_method_18_code 105 = .ok (.invokevirtual 266, 3) := by decide +kernel
theorem dPR_coordinate_108 : decode prog_5_method_18_code 108 = .ok (.goto 20, 3) := by decide +kernel
theorem dPR_coordinate_111 : decode prog_5_method_18_code 111 = .ok (.aload_n 0, 1) := by decide +kernel
theorem dPR_coordinate_112 : decode prog_5_method_18_code 112 = .ok (.aload_n 0, 1) := by decide +kernel
theorem dPR_coordinate_113 : decode prog_5_method_18_code 113 = .ok (.getfield 31, 3) := by decide +kernel
theorem dPR_coordinate_116 : decode prog_5_method_18_code 116 = .ok (.invokevirtual 200, 3) := by decide +kernel
theorem dPR_coordinate_119 : decode prog_5_method_18_code 119 = .ok (.invokestatic 263, 3) := by decide +kernel
theorem dPR_coordinate_122 : decode prog_5_method_18_code 122 = .ok (.putfield 175, 3) := by decide +kernel
theorem dPR_coordinate_125 : decode prog_5_method_18_code 125 = .ok (.goto 3, 3) := by decide +kernel
theorem dPR_coordinate_128 : decode prog_5_method_18_code 128 = .ok (.return_, 1) := by decide +kernel
theorem dRO_block_0 : decode prog_6_method_11_code 0 = .ok (.aload_n 1, 1) := by decide +kernel
theorem dRO_block_1 : decode prog_6_method_11_code 1 = .ok (.iconst 2, 1) := by decide +kernel
theorem dRO_block_2 : decode prog_6_method_11_code 2 = .ok (.aload_n 0, 1) := by decide +kernel
theorem dRO_block_3 : decode prog_6_method_11_code 3 = .ok (.invokevirtual 41, 3) := by decide +kernel
theorem dRO_block_6 : decode prog_6_method_11_code 6 = .ok (.invokevirtual 45, 3) := by decide +kernel
theorem dRO_block_9 : decode prog_6_method_11_code 9 = .ok (.aload_n 1, 1) := by decide +kernel
theorem dRO_block_10 : decode prog_6_method_11_code 10 = .ok (.iload_n 2, 1) := by decide +kernel
theorem dRO_block_11 : decode prog_6_method_11_code 11 = .ok (.putfield 28, 3) := by decide +kernel
theorem dRO_block_14 : decode prog_6_method_11_code 14 = .ok (.return_, 1) := by decide +kernel
theorem dWS_isOver_0 : decode prog_8_method_3_code 0 = .ok (.aload_n 0, 1) := by decide +kernel
theorem dWS_isOver_1 : decode prog_8_method_3_code 1 = .ok (.getfield 25, 3) := by decide +kernel
theorem dWS_isOver_4 : decode prog_8_method_3_code 4 = .ok (.bipush 8, 2) := by decide +kernel
theorem dWS_isOver_6 : decode prog_8_method_3_code 6 = .ok (.if_icmp .le 7, 3) := by decide +kernel
theorem dWS_isOver_9 : decode prog_8_method_3_code 9 = .ok (.iconst 1, 1) := by decide +kernel
theorem dWS_isOver_10 : decode prog_8_method_3_code 10 = .ok (.goto 4, 3) := by decide +kernel
theorem dWS_isOver_13 : decode prog_8_method_3_code 13 = .ok (.iconst 0, 1) := by decide +kernel
theorem dWS_isOver_14 : decode prog_8_method_3_code 14 = .ok (.ireturn, 1) := by decide +kernel
theorem dPR_endAtNext_0 : decode prog_5_method_5_code 0 = .ok (.aload_n 0, 1) := by decide +kernel
theorem dPR_endAtNext_1 : decode prog_5_method_5_code 1 = .ok (.getfield 31, 3) := by decide +kernel
theorem dPR_endAtNext_4 : decode prog_5_method_5_code 4 = .ok (.invokevirtual 150, 3) := by decide +kernel
theorem dPR_endAtNext_7 : decode prog_5_method_5_code 7 = .ok (.ifCond .eq 12, 3) := by decide +kernel
theorem dPR_endAtNext_10 : decode prog_5_method_5_code 10 = .ok (.aload_n 0, 1) := by decide +kernel
theorem dPR_endAtNext_11 : decode prog_5_method_5_code 11 = .ok (.getfield 9, 3) := by decide +kernel
theorem dPR_endAtNext_14 : decode prog_5_method_5_code 14 = .ok (.bipush 6, 2) := by decide +kernel
theorem dPR_endAtNext_16 : decode prog_5_method_5_code 16 = .ok (.invokevirtual 153, 3) := by decide +kernel
theorem dPR_endAtNext_19 : decode prog_5_method_5_code 19 = .ok (.aload_n 0, 1) := by decide +kernel
theorem dPR_endAtNext_20 : decode prog_5_method_5_code 20 = .ok (.getfield 141, 3) := by decide +kernel
theorem dPR_endAtNext_23 : decode prog_5_method_5_code 23 = .ok (.ifCond .eq 7, 3) := by decide +kernel
theorem dPR_endAtNext_26 : decode prog_5_method_5_code 26 = .ok (.aload_n 0, 1) := by decide +kernel
theorem dPR_endAtNext_27 : decode prog_5_method_5_code 27 = .ok (.invokevirtual 156, 3) := by decide +kernel
theorem dPR_endAtNext_30 : decode prog_5_method_5_code 30 = .ok (.return_, 1) := by decide +kernel
theorem dME_faultHeld_0 : decode prog_4_method_17_code 0 = .ok (.aload_n 0, 1) := by decide +kernel
theorem dME_faultHeld_1 : decode prog_4_method_17_code 1 = .ok (.getfield 44, 3) := by decide +kernel
theorem dME_faultHeld_4 : decode prog_4_method_17_code 4 = .ok (.ireturn, 1) := by decide +kernel
theorem dRO_halt_0 : decode prog_6_method_10_code 0 = .ok (.aload_n 1, 1) := by decide +kernel
theorem dRO_halt_1 : decode prog_6_method_10_code 1 = .ok (.iconst 4, 1) := by decide +kernel
theorem dRO_halt_2 : decode prog_6_method_10_code 2 = .ok (.aload_n 0, 1) := by decide +kernel
theorem dRO_halt_3 : decode prog_6_method_10_code 3 = .ok (.invokevirtual 41, 3) := by decide +kernel
theorem dRO_halt_6 : decode prog_6_method_10_code 6 = .ok (.invokevirtual 45, 3) := by decide +kernel
theorem dRO_halt_9 : decode prog_6_method_10_code 9 = .ok (.aload_n 1, 1) := by decide +kernel
theorem dRO_halt_10 : decode prog_6_method_10_code 10 = .ok (.iload_n 2, 1) := by decide +kernel
theorem dRO_halt_11 : decode prog_6_method_10_code 11 = .ok (.putfield 62, 3) := by decide +kernel
theorem dRO_halt_14 : decode prog_6_method_10_code 14 = .ok (.return_, 1) := by decide +kernel
theorem dWS_saveTo_0 : decode prog_8_method_4_code 0 = .ok (.aload_n 1, 1) := by decide +kernel
theorem dWS_saveTo_1 : decode prog_8_method_4_code 1 = .ok (.aload_n 0, 1) := by decide +kernel
theorem dWS_saveTo_2 : decode prog_8_method_4_code 2 = .ok (.getfield 25, 3) := by decide +kernel
theorem dWS_saveTo_5 : decode prog_8_method_4_code 5 = .ok (.putfield 21, 3) := by decide +kernel
theorem dWS_saveTo_8 : decode prog_8_method_4_code 8 = .ok (.iconst 0, 1) := by decide +kernel
theorem dWS_saveTo_9 : decode prog_8_method_4_code 9 = .ok (.istore_n 2, 1) := by decide +kernel
theorem dWS_saveTo_10 : decode prog_8_method_4_code 10 = .ok (.iload_n 2, 1) := by decide +kernel
theorem dWS_saveTo_11 : decode prog_8_method_4_code 11 = .ok (.aload_n 0, 1) := by decide +kernel
theorem dWS_saveTo_12 : decode prog_8_method_4_code 12 = .ok (.getfield 25, 3) := by decide +kernel
theorem dWS_saveTo_15 : decode prog_8_method_4_code 15 = .ok (.if_icmp .ge 21, 3) := by decide +kernel
theorem dWS_saveTo_18 : decode prog_8_method_4_code 18 = .ok (.aload_n 1, 1) := by decide +kernel
theorem dWS_saveTo_19 : decode prog_8_method_4_code 19 = .ok (.getfield 26, 3) := by decide +kernel
theorem dWS_saveTo_22 : decode prog_8_method_4_code 22 = .ok (.iload_n 2, 1) := by decide +kernel
theorem dWS_saveTo_23 : decode prog_8_method_4_code 23 = .ok (.aload_n 0, 1) := by decide +kernel
theorem dWS_saveTo_24 : decode prog_8_method_4_code 24 = .ok (.getfield 13, 3) := by decide +kernel
theorem dWS_saveTo_27 : decode prog_8_method_4_code 27 = .ok (.iload_n 2, 1) := by decide +kernel
theorem dWS_saveTo_28 : decode prog_8_method_4_code 28 = .ok (.iaload, 1) := by decide +kernel
theorem dWS_saveTo_29 : decode prog_8_method_4_code 29 = .ok (.iastore, 1) := by decide +kernel
theorem dWS_saveTo_30 : decode prog_8_method_4_code 30 = .ok (.iinc 2 1, 3) := by decide +kernel
theorem dWS_saveTo_33 : decode prog_8_method_4_code 33 = .ok (.goto (-23), 3) := by decide +kernel
theorem dWS_saveTo_36 : decode prog_8_method_4_code 36 = .ok (.return_, 1) := by decide +kernel
theorem dTA_clear_0 : decode prog_7_method_2_code 0 = .ok (.aload_n 0, 1) := by decide +kernel
theorem dTA_clear_1 : decode prog_7_method_2_code 1 = .ok (.iconst 0, 1) := by decide +kernel
theorem dTA_clear_2 : decode prog_7_method_2_code 2 = .ok (.iconst 0, 1) := by decide +kernel
theorem dTA_clear_3 : decode prog_7_method_2_code 3 = .ok (.invokevirtual 22, 3) := by decide +kernel
theorem dTA_clear_6 : decode prog_7_method_2_code 6 = .ok (.aload_n 0, 1) := by decide +kernel
theorem dTA_clear_7 : decode prog_7_method_2_code 7 = .ok (.iconst 0, 1) := by decide +kernel
theorem dTA_clear_8 : decode prog_7_method_2_code 8 = .ok (.putfield 26, 3) := by decide +kernel
theorem dTA_clear_11 : decode prog_7_method_2_code 11 = .ok (.aload_n 0, 1) := by decide +kernel
theorem dTA_clear_12 : decode prog_7_method_2_code 12 = .ok (.iconst 0, 1) := by decide +kernel
theorem dTA_clear_13 : decode prog_7_method_2_code 13 = .ok (.putfield 29, 3) := by decide +kernel
theorem dTA_clear_16 : decode prog_7_method_2_code 16 = .ok (.aload_n 0, 1) := by decide +kernel
theorem dTA_clear_17 : decode prog_7_method_2_code 17 = .ok (.iconst 0, 1) := by decide +kernel
theorem dTA_clear_18 : decode prog_7_method_2_code 18 = .ok (.putfield 32, 3) := by decide +kernel
theorem dTA_clear_21 : decode prog_7_method_2_code 21 = .ok (.return_, 1) := by decide +kernel
theorem dRO_wakeFirst_0 : decode prog_6_method_13_code 0 = .ok (.aload_n 0, 1) := by decide +kernel
theorem dRO_wakeFirst_1 : decode prog_6_method_13_code 1 = .ok (.iload_n 1, 1) := by decide +kernel
theorem dRO_wakeFirst_2 : decode prog_6_method_13_code 2 = .ok (.iload_n 2, 1) := by decide +kernel
theorem dRO_wakeFirst_3 : decode prog_6_method_13_code 3 = .ok (.invokevirtual 24, 3) := by decide +kernel
theorem dRO_wakeFirst_6 : decode prog_6_method_13_code 6 = .ok (.astore_n 3, 1) := by decide +kernel
theorem dRO_wakeFirst_7 : decode prog_6_method_13_code 7 = .ok (.aload_n 3, 1) := by decide +kernel
theorem dRO_wakeFirst_8 : decode prog_6_method_13_code 8 = .ok (.ifnonnull 5, 3) := by decide +kernel
theorem dRO_wakeFirst_11 : decode prog_6_method_13_code 11 = .ok (.iconst (-1), 1) := by decide +kernel
theorem dRO_wakeFirst_12 : decode prog_6_method_13_code 12 = .ok (.ireturn, 1) := by decide +kernel
theorem dRO_wakeFirst_13 : decode prog_6_method_13_code 13 = .ok (.aload_n 0, 1) := by decide +kernel
theorem dRO_wakeFirst_14 : decode prog_6_method_13_code 14 = .ok (.aload_n 3, 1) := by decide +kernel
theorem dRO_wakeFirst_15 : decode prog_6_method_13_code 15 = .ok (.invokevirtual 58, 3) := by decide +kernel
theorem dRO_wakeFirst_18 : decode prog_6_method_13_code 18 = .ok (.aload_n 3, 1) := by decide +kernel
theorem dRO_wakeFirst_19 : decode prog_6_method_13_code 19 = .ok (.getfield 68, 3) := by decide +kernel
theorem dRO_wakeFirst_22 : decode prog_6_method_13_code 22 = .ok (.ireturn, 1) := by decide +kernel
theorem dRO_await_0 : decode prog_6_method_12_code 0 = .ok (.aload_n 1, 1) := by decide +kernel
theorem dRO_await_1 : decode prog_6_method_12_code 1 = .ok (.iconst 3, 1) := by decide +kernel
theorem dRO_await_2 : decode prog_6_method_12_code 2 = .ok (.aload_n 0, 1) := by decide +kernel
theorem dRO_await_3 : decode prog_6_method_12_code 3 = .ok (.invokevirtual 41, 3) := by decide +kernel
theorem dRO_await_6 : decode prog_6_method_12_code 6 = .ok (.invokevirtual 45, 3) := by decide +kernel
theorem dRO_await_9 : decode prog_6_method_12_code 9 = .ok (.aload_n 1, 1) := by decide +kernel
theorem dRO_await_10 : decode prog_6_method_12_code 10 = .ok (.iload_n 2, 1) := by decide +kernel
theorem dRO_await_11 : decode prog_6_method_12_code 11 = .ok (.putfield 28, 3) := by decide +kernel
theorem dRO_await_14 : decode prog_6_method_12_code 14 = .ok (.aload_n 1, 1) := by decide +kernel
theorem dRO_await_15 : decode prog_6_method_12_code 15 = .ok (.iload_n 3, 1) := by decide +kernel
theorem dRO_await_16 : decode prog_6_method_12_code 16 = .ok (.putfield 65, 3) := by decide +kernel
theorem dRO_await_19 : decode prog_6_method_12_code 19 = .ok (.return_, 1) := by decide +kernel
theorem dRO_wakeAll_0 : decode prog_6_method_14_code 0 = .ok (.iconst 0, 1) := by decide +kernel
theorem dRO_wakeAll_1 : decode prog_6_method_14_code 1 = .ok (.istore_n 2, 1) := by decide +kernel
theorem dRO_wakeAll_2 : decode prog_6_method_14_code 2 = .ok (.iload_n 2, 1) := by decide +kernel
theorem dRO_wakeAll_3 : decode prog_6_method_14_code 3 = .ok (.bipush 6, 2) := by decide +kernel
theorem dRO_wakeAll_5 : decode prog_6_method_14_code 5 = .ok (.if_icmp .ge 16, 3) := by decide +kernel
theorem dRO_wakeAll_8 : decode prog_6_method_14_code 8 = .ok (.aload_n 0, 1) := by decide +kernel
theorem dRO_wakeAll_9 : decode prog_6_method_14_code 9 = .ok (.iconst 3, 1) := by decide +kernel
theorem dRO_wakeAll_10 : decode prog_6_method_14_code 10 = .ok (.iload_n 1, 1) := by decide +kernel
theorem dRO_wakeAll_11 : decode prog_6_method_14_code 11 = .ok (.invokevirtual 71, 3) := by decide +kernel
theorem dRO_wakeAll_14 : decode prog_6_method_14_code 14 = .ok (.pop, 1) := by decide +kernel
theorem dRO_wakeAll_15 : decode prog_6_method_14_code 15 = .ok (.iinc 2 1, 3) := by decide +kernel
theorem dRO_wakeAll_18 : decode prog_6_method_14_code 18 = .ok (.goto (-16), 3) := by decide +kernel
theorem dRO_wakeAll_21 : decode prog_6_method_14_code 21 = .ok (.return_, 1) := by decide +kernel
theorem dPR_settle_0 : decode prog_5_method_7_code 0 = .ok (.aload_n 0, 1) := by decide +kernel
theorem dPR_settle_1 : decode prog_5_method_7_code 1 = .ok (.getfield 31, 3) := by decide +kernel
theorem dPR_settle_4 : decode prog_5_method_7_code 4 = .ok (.aload_n 0, 1) := by decide +kernel
theorem dPR_settle_5 : decode prog_5_method_7_code 5 = .ok (.getfield 114, 3) := by decide +kernel
theorem dPR_settle_8 : decode prog_5_method_7_code 8 = .ok (.invokevirtual 165, 3) := by decide +kernel
theorem dPR_settle_11 : decode prog_5_method_7_code 11 = .ok (.aload_n 0, 1) := by decide +kernel
theorem dPR_settle_12 : decode prog_5_method_7_code 12 = .ok (.getfield 114, 3) := by decide +kernel
theorem dPR_settle_15 : decode prog_5_method_7_code 15 = .ok (.aload_n 0, 1) := by decide +kernel
theorem dPR_settle_16 : decode prog_5_method_7_code 16 = .ok (.getfield 85, 3) := by decide +kernel
theorem dPR_settle_19 : decode prog_5_method_7_code 19 = .ok (.putfield 140, 3) := by decide +kernel
theorem dPR_settle_22 : decode prog_5_method_7_code 22 = .ok (.aload_n 0, 1) := by decide +kernel
theorem dPR_settle_23 : decode prog_5_method_7_code 23 = .ok (.getfield 40, 3) := by decide +kernel
theorem dPR_settle_26 : decode prog_5_method_7_code 26 = .ok (.getfield 92, 3) := by decide +kernel
theorem dPR_settle_29 : decode prog_5_method_7_code 29 = .ok (.tableswitch 239 27 45 #[91, 239, 239, 239, 108, 239, 239, 239, 239, 239, 239, 239, 239, 239, 137, 153, 195, 211, 225], 91) := by decide +kernel
theorem dPR_settle_120 : decode prog_5_method_7_code 120 = .ok (.aload_n 0, 1) := by decide +kernel
theorem dPR_settle_121 : decode prog_5_method_7_code 121 = .ok (.getfield 144, 3) := by decide +kernel
theorem dPR_settle_124 : decode prog_5_method_7_code 124 = .ok (.ifCond .eq 144, 3) := by decide +kernel
theorem dPR_settle_127 : decode prog_5_method_7_code 127 = .ok (.aload_n 0, 1) := by decide +kernel
theorem dPR_settle_128 : decode prog_5_method_7_code 128 = .ok (.getfield 114, 3) := by decide +kernel
theorem dPR_settle_131 : decode prog_5_method_7_code 131 = .ok (.invokevirtual 168, 3) := by decide +kernel
