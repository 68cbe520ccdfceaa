theorem dMO_process_107 : decode prog_10_method_51_code 107 = .ok (.iaload, 1) := by decide +kernel
theorem dMO_process_108 : decode prog_10_method_51_code 108 = .ok (.goto 4, 3) := by decide +kernel
theorem dMO_process_111 : decode prog_10_method_51_code 111 = .ok (.iconst (-1), 1) := by decide +kernel
theorem dMO_process_112 : decode prog_10_method_51_code 112 = .ok (.ireturn, 1) := by decide +kernel
theorem dMO_process_113 : decode prog_10_method_51_code 113 = .ok (.iload_n 2, 1) := by decide +kernel
theorem dMO_process_114 : decode prog_10_method_51_code 114 = .ok (.iconst 5, 1) := by decide +kernel
theorem dMO_process_115 : decode prog_10_method_51_code 115 = .ok (.if_icmp .ne 19, 3) := by decide +kernel
theorem dMO_process_118 : decode prog_10_method_51_code 118 = .ok (.iload_n 3, 1) := by decide +kernel
theorem dMO_process_119 : decode prog_10_method_51_code 119 = .ok (.iconst 3, 1) := by decide +kernel
theorem dMO_process_120 : decode prog_10_method_51_code 120 = .ok (.if_icmp .ne 12, 3) := by decide +kernel
theorem dMO_process_123 : decode prog_10_method_51_code 123 = .ok (.aload_n 0, 1) := by decide +kernel
theorem dMO_process_124 : decode prog_10_method_51_code 124 = .ok (.getfield 41, 3) := by decide +kernel
theorem dMO_process_127 : decode prog_10_method_51_code 127 = .ok (.iload_n 1, 1) := by decide +kernel
theorem dMO_process_128 : decode prog_10_method_51_code 128 = .ok (.iaload, 1) := by decide +kernel
theorem dMO_process_129 : decode prog_10_method_51_code 129 = .ok (.goto 4, 3) := by decide +kernel
theorem dMO_process_132 : decode prog_10_method_51_code 132 = .ok (.iconst 0, 1) := by decide +kernel
theorem dMO_process_133 : decode prog_10_method_51_code 133 = .ok (.ireturn, 1) := by decide +kernel
theorem dMO_process_134 : decode prog_10_method_51_code 134 = .ok (.iload_n 2, 1) := by decide +kernel
theorem dMO_process_135 : decode prog_10_method_51_code 135 = .ok (.bipush 6, 2) := by decide +kernel
theorem dMO_process_137 : decode prog_10_method_51_code 137 = .ok (.if_icmp .ne 19, 3) := by decide +kernel
theorem dMO_process_140 : decode prog_10_method_51_code 140 = .ok (.iload_n 3, 1) := by decide +kernel
theorem dMO_process_141 : decode prog_10_method_51_code 141 = .ok (.iconst 4, 1) := by decide +kernel
theorem dMO_process_142 : decode prog_10_method_51_code 142 = .ok (.if_icmp .ne 12, 3) := by decide +kernel
theorem dMO_process_145 : decode prog_10_method_51_code 145 = .ok (.aload_n 0, 1) := by decide +kernel
theorem dMO_process_146 : decode prog_10_method_51_code 146 = .ok (.getfield 44, 3) := by decide +kernel
theorem dMO_process_149 : decode prog_10_method_51_code 149 = .ok (.iload_n 1, 1) := by decide +kernel
theorem dMO_process_150 : decode prog_10_method_51_code 150 = .ok (.iaload, 1) := by decide +kernel
theorem dMO_process_151 : decode prog_10_method_51_code 151 = .ok (.goto 4, 3) := by decide +kernel
theorem dMO_process_154 : decode prog_10_method_51_code 154 = .ok (.iconst 0, 1) := by decide +kernel
theorem dMO_process_155 : decode prog_10_method_51_code 155 = .ok (.ireturn, 1) := by decide +kernel
theorem dMO_process_156 : decode prog_10_method_51_code 156 = .ok (.iload_n 3, 1) := by decide +kernel
theorem dMO_process_157 : decode prog_10_method_51_code 157 = .ok (.iconst 1, 1) := by decide +kernel
theorem dMO_process_158 : decode prog_10_method_51_code 158 = .ok (.if_icmp .eq 5, 3) := by decide +kernel
theorem dMO_process_161 : decode prog_10_method_51_code 161 = .ok (.iconst (-1), 1) := by decide +kernel
theorem dMO_process_162 : decode prog_10_method_51_code 162 = .ok (.ireturn, 1) := by decide +kernel
theorem dMO_process_163 : decode prog_10_method_51_code 163 = .ok (.iconst 0, 1) := by decide +kernel
theorem dMO_process_164 : decode prog_10_method_51_code 164 = .ok (.istore 4, 2) := by decide +kernel
theorem dMO_process_166 : decode prog_10_method_51_code 166 = .ok (.iconst 0, 1) := by decide +kernel
theorem dMO_process_167 : decode prog_10_method_51_code 167 = .ok (.istore 5, 2) := by decide +kernel
theorem dMO_process_169 : decode prog_10_method_51_code 169 = .ok (.iload 5, 2) := by decide +kernel
theorem dMO_process_171 : decode prog_10_method_51_code 171 = .ok (.bipush 6, 2) := by decide +kernel
theorem dMO_process_173 : decode prog_10_method_51_code 173 = .ok (.if_icmp .ge 47, 3) := by decide +kernel
theorem dMO_process_176 : decode prog_10_method_51_code 176 = .ok (.iload 4, 2) := by decide +kernel
theorem dMO_process_178 : decode prog_10_method_51_code 178 = .ok (.aload_n 0, 1) := by decide +kernel
theorem dMO_process_179 : decode prog_10_method_51_code 179 = .ok (.getfield 23, 3) := by decide +kernel
theorem dMO_process_182 : decode prog_10_method_51_code 182 = .ok (.iload 5, 2) := by decide +kernel
theorem dMO_process_184 : decode prog_10_method_51_code 184 = .ok (.iaload, 1) := by decide +kernel
theorem dMO_process_185 : decode prog_10_method_51_code 185 = .ok (.iconst 1, 1) := by decide +kernel
theorem dMO_process_186 : decode prog_10_method_51_code 186 = .ok (.if_icmp .ne 24, 3) := by decide +kernel
theorem dMO_process_189 : decode prog_10_method_51_code 189 = .ok (.aload_n 0, 1) := by decide +kernel
theorem dMO_process_190 : decode prog_10_method_51_code 190 = .ok (.getfield 47, 3) := by decide +kernel
theorem dMO_process_193 : decode prog_10_method_51_code 193 = .ok (.iload 5, 2) := by decide +kernel
theorem dMO_process_195 : decode prog_10_method_51_code 195 = .ok (.laload, 1) := by decide +kernel
theorem dMO_process_196 : decode prog_10_method_51_code 196 = .ok (.aload_n 0, 1) := by decide +kernel
theorem dMO_process_197 : decode prog_10_method_51_code 197 = .ok (.getfield 47, 3) := by decide +kernel
theorem dMO_process_200 : decode prog_10_method_51_code 200 = .ok (.iload_n 1, 1) := by decide +kernel
theorem dMO_process_201 : decode prog_10_method_51_code 201 = .ok (.laload, 1) := by decide +kernel
theorem dMO_process_202 : decode prog_10_method_51_code 202 = .ok (.lcmp, 1) := by decide +kernel
theorem dMO_process_203 : decode prog_10_method_51_code 203 = .ok (.ifCond .ge 7, 3) := by decide +kernel
theorem dMO_process_206 : decode prog_10_method_51_code 206 = .ok (.iconst 1, 1) := by decide +kernel
theorem dMO_process_207 : decode prog_10_method_51_code 207 = .ok (.goto 4, 3) := by decide +kernel
theorem dMO_process_210 : decode prog_10_method_51_code 210 = .ok (.iconst 0, 1) := by decide +kernel
theorem dMO_process_211 : decode prog_10_method_51_code 211 = .ok (.iadd, 1) := by decide +kernel
theorem dMO_process_212 : decode prog_10_method_51_code 212 = .ok (.istore 4, 2) := by decide +kernel
theorem dMO_process_214 : decode prog_10_method_51_code 214 = .ok (.iinc 5 1, 3) := by decide +kernel
theorem dMO_process_217 : decode prog_10_method_51_code 217 = .ok (.goto (-48), 3) := by decide +kernel
theorem dMO_process_220 : decode prog_10_method_51_code 220 = .ok (.iload 4, 2) := by decide +kernel
theorem dMO_process_222 : decode prog_10_method_51_code 222 = .ok (.ireturn, 1) := by decide +kernel
theorem dMO_stack_0 : decode prog_10_method_52_code 0 = .ok (.aload_n 0, 1) := by decide +kernel
theorem dMO_stack_1 : decode prog_10_method_52_code 1 = .ok (.iconst 0, 1) := by decide +kernel
theorem dMO_stack_2 : decode prog_10_method_52_code 2 = .ok (.putfield 63, 3) := by decide +kernel
theorem dMO_stack_5 : decode prog_10_method_52_code 5 = .ok (.iload_n 1, 1) := by decide +kernel
theorem dMO_stack_6 : decode prog_10_method_52_code 6 = .ok (.bipush 6, 2) := by decide +kernel
theorem dMO_stack_8 : decode prog_10_method_52_code 8 = .ok (.invokestatic 228, 3) := by decide +kernel
theorem dMO_stack_11 : decode prog_10_method_52_code 11 = .ok (.ifCond .eq 26, 3) := by decide +kernel
theorem dMO_stack_14 : decode prog_10_method_52_code 14 = .ok (.aload_n 0, 1) := by decide +kernel
theorem dMO_stack_15 : decode prog_10_method_52_code 15 = .ok (.getfield 23, 3) := by decide +kernel
theorem dMO_stack_18 : decode prog_10_method_52_code 18 = .ok (.iload_n 1, 1) := by decide +kernel
theorem dMO_stack_19 : decode prog_10_method_52_code 19 = .ok (.iaload, 1) := by decide +kernel
theorem dMO_stack_20 : decode prog_10_method_52_code 20 = .ok (.ifCond .eq 17, 3) := by decide +kernel
theorem dMO_stack_23 : decode prog_10_method_52_code 23 = .ok (.iload_n 2, 1) := by decide +kernel
theorem dMO_stack_24 : decode prog_10_method_52_code 24 = .ok (.ifCond .lt 13, 3) := by decide +kernel
theorem dMO_stack_27 : decode prog_10_method_52_code 27 = .ok (.iload_n 2, 1) := by decide +kernel
theorem dMO_stack_28 : decode prog_10_method_52_code 28 = .ok (.aload_n 0, 1) := by decide +kernel
theorem dMO_stack_29 : decode prog_10_method_52_code 29 = .ok (.getfield 32, 3) := by decide +kernel
theorem dMO_stack_32 : decode prog_10_method_52_code 32 = .ok (.iload_n 1, 1) := by decide +kernel
theorem dMO_stack_33 : decode prog_10_method_52_code 33 = .ok (.iaload, 1) := by decide +kernel
theorem dMO_stack_34 : decode prog_10_method_52_code 34 = .ok (.if_icmp .lt 7, 3) := by decide +kernel
theorem dMO_stack_37 : decode prog_10_method_52_code 37 = .ok (.iconst (-1), 1) := by decide +kernel
theorem dMO_stack_38 : decode prog_10_method_52_code 38 = .ok (.goto 23, 3) := by decide +kernel
theorem dMO_stack_41 : decode prog_10_method_52_code 41 = .ok (.aload_n 0, 1) := by decide +kernel
theorem dMO_stack_42 : decode prog_10_method_52_code 42 = .ok (.getfield 35, 3) := by decide +kernel
theorem dMO_stack_45 : decode prog_10_method_52_code 45 = .ok (.bipush 8, 2) := by decide +kernel
theorem dMO_stack_47 : decode prog_10_method_52_code 47 = .ok (.iload_n 1, 1) := by decide +kernel
theorem dMO_stack_48 : decode prog_10_method_52_code 48 = .ok (.imul, 1) := by decide +kernel
theorem dMO_stack_49 : decode prog_10_method_52_code 49 = .ok (.aload_n 0, 1) := by decide +kernel
theorem dMO_stack_50 : decode prog_10_method_52_code 50 = .ok (.getfield 32, 3) := by decide +kernel
theorem dMO_stack_53 : decode prog_10_method_52_code 53 = .ok (.iload_n 1, 1) := by decide +kernel
theorem dMO_stack_54 : decode prog_10_method_52_code 54 = .ok (.iaload, 1) := by decide +kernel
theorem dMO_stack_55 : decode prog_10_method_52_code 55 = .ok (.iadd, 1) := by decide +kernel
theorem dMO_stack_56 : decode prog_10_method_52_code 56 = .ok (.iconst 1, 1) := by decide +kernel
theorem dMO_stack_57 : decode prog_10_method_52_code 57 = .ok (.isub, 1) := by decide +kernel
theorem dMO_stack_58 : decode prog_10_method_52_code 58 = .ok (.iload_n 2, 1) := by decide +kernel
theorem dMO_stack_59 : decode prog_10_method_52_code 59 = .ok (.isub, 1) := by decide +kernel
theorem dMO_stack_60 : decode prog_10_method_52_code 60 = .ok (.iaload, 1) := by decide +kernel
theorem dMO_stack_61 : decode prog_10_method_52_code 61 = .ok (.ireturn, 1) := by decide +kernel
theorem dMO_page_0 : decode prog_10_method_53_code 0 = .ok (.aload_n 0, 1) := by decide +kernel
theorem dMO_page_1 : decode prog_10_method_53_code 1 = .ok (.iconst 0, 1) := by decide +kernel
theorem dMO_page_2 : decode prog_10_method_53_code 2 = .ok (.putfield 63, 3) := by decide +kernel
theorem dMO_page_5 : decode prog_10_method_53_code 5 = .ok (.iload_n 1, 1) := by decide +kernel
theorem dMO_page_6 : decode prog_10_method_53_code 6 = .ok (.bipush 16, 2) := by decide +kernel
theorem dMO_page_8 : decode prog_10_method_53_code 8 = .ok (.invokestatic 228, 3) := by decide +kernel
theorem dMO_page_11 : decode prog_10_method_53_code 11 = .ok (.ifCond .ne 7, 3) := by decide +kernel
theorem dMO_page_14 : decode prog_10_method_53_code 14 = .ok (.iconst (-1), 1) := by decide +kernel
theorem dMO_page_15 : decode prog_10_method_53_code 15 = .ok (.goto 39, 3) := by decide +kernel
theorem dMO_page_18 : decode prog_10_method_53_code 18 = .ok (.iload_n 2, 1) := by decide +kernel
theorem dMO_page_19 : decode prog_10_method_53_code 19 = .ok (.ifCond .ne 12, 3) := by decide +kernel
theorem dMO_page_22 : decode prog_10_method_53_code 22 = .ok (.aload_n 0, 1) := by decide +kernel
theorem dMO_page_23 : decode prog_10_method_53_code 23 = .ok (.getfield 7, 3) := by decide +kernel
theorem dMO_page_26 : decode prog_10_method_53_code 26 = .ok (.iload_n 1, 1) := by decide +kernel
theorem dMO_page_27 : decode prog_10_method_53_code 27 = .ok (.iaload, 1) := by decide +kernel
theorem dMO_page_28 : decode prog_10_method_53_code 28 = .ok (.goto 26, 3) := by decide +kernel
theorem dMO_page_31 : decode prog_10_method_53_code 31 = .ok (.iload_n 2, 1) := by decide +kernel
theorem dMO_page_32 : decode prog_10_method_53_code 32 = .ok (.iconst 1, 1) := by decide +kernel
theorem dMO_page_33 : decode prog_10_method_53_code 33 = .ok (.if_icmp .ne 20, 3) := by decide +kernel
theorem dMO_page_36 : decode prog_10_method_53_code 36 = .ok (.aload_n 0, 1) := by decide +kernel
theorem dMO_page_37 : decode prog_10_method_53_code 37 = .ok (.getfield 19, 3) := by decide +kernel
theorem dMO_page_40 : decode prog_10_method_53_code 40 = .ok (.iload_n 1, 1) := by decide +kernel
theorem dMO_page_41 : decode prog_10_method_53_code 41 = .ok (.baload, 1) := by decide +kernel
theorem dMO_page_42 : decode prog_10_method_53_code 42 = .ok (.ifCond .eq 7, 3) := by decide +kernel
theorem dMO_page_45 : decode prog_10_method_53_code 45 = .ok (.iconst 1, 1) := by decide +kernel
theorem dMO_page_46 : decode prog_10_method_53_code 46 = .ok (.goto 8, 3) := by decide +kernel
theorem dMO_page_49 : decode prog_10_method_53_code 49 = .ok (.iconst 0, 1) := by decide +kernel
theorem dMO_page_50 : decode prog_10_method_53_code 50 = .ok (.goto 4, 3) := by decide +kernel
theorem dMO_page_53 : decode prog_10_method_53_code 53 = .ok (.iconst (-1), 1) := by decide +kernel
theorem dMO_page_54 : decode prog_10_method_53_code 54 = .ok (.ireturn, 1) := by decide +kernel
theorem dMO_free_0 : decode prog_10_method_54_code 0 = .ok (.aload_n 0, 1) := by decide +kernel
theorem dMO_free_1 : decode prog_10_method_54_code 1 = .ok (.iconst 0, 1) := by decide +kernel
theorem dMO_free_2 : decode prog_10_method_54_code 2 = .ok (.putfield 63, 3) := by decide +kernel
theorem dMO_free_5 : decode prog_10_method_54_code 5 = .ok (.iload_n 1, 1) := by decide +kernel
theorem dMO_free_6 : decode prog_10_method_54_code 6 = .ok (.bipush 8, 2) := by decide +kernel
theorem dMO_free_8 : decode prog_10_method_54_code 8 = .ok (.invokestatic 228, 3) := by decide +kernel
theorem dMO_free_11 : decode prog_10_method_54_code 11 = .ok (.ifCond .ne 5, 3) := by decide +kernel
theorem dMO_free_14 : decode prog_10_method_54_code 14 = .ok (.iconst (-1), 1) := by decide +kernel
theorem dMO_free_15 : decode prog_10_method_54_code 15 = .ok (.ireturn, 1) := by decide +kernel
theorem dMO_free_16 : decode prog_10_method_54_code 16 = .ok (.iconst 0, 1) := by decide +kernel
theorem dMO_free_17 : decode prog_10_method_54_code 17 = .ok (.istore_n 2, 1) := by decide +kernel
theorem dMO_free_18 : decode prog_10_method_54_code 18 = .ok (.aload_n 0, 1) := by decide +kernel
theorem dMO_free_19 : decode prog_10_method_54_code 19 = .ok (.bipush 16, 2) := by decide +kernel
theorem dMO_free_21 : decode prog_10_method_54_code 21 = .ok (.iload_n 1, 1) := by decide +kernel
theorem dMO_free_22 : decode prog_10_method_54_code 22 = .ok (.iadd, 1) := by decide +kernel
theorem dMO_free_23 : decode prog_10_method_54_code 23 = .ok (.invokevirtual 71, 3) := by decide +kernel
theorem dMO_free_26 : decode prog_10_method_54_code 26 = .ok (.istore_n 3, 1) := by decide +kernel
theorem dMO_free_27 : decode prog_10_method_54_code 27 = .ok (.iload_n 3, 1) := by decide +kernel
theorem dMO_free_28 : decode prog_10_method_54_code 28 = .ok (.ifCond .ge 7, 3) := by decide +kernel
theorem dMO_free_31 : decode prog_10_method_54_code 31 = .ok (.iconst 0, 1) := by decide +kernel
theorem dMO_free_32 : decode prog_10_method_54_code 32 = .ok (.goto 9, 3) := by decide +kernel
theorem dMO_free_35 : decode prog_10_method_54_code 35 = .ok (.aload_n 0, 1) := by decide +kernel
theorem dMO_free_36 : decode prog_10_method_54_code 36 = .ok (.getfield 16, 3) := by decide +kernel
theorem dMO_free_39 : decode prog_10_method_54_code 39 = .ok (.iload_n 3, 1) := by decide +kernel
theorem dMO_free_40 : decode prog_10_method_54_code 40 = .ok (.iaload, 1) := by decide +kernel
theorem dMO_free_41 : decode prog_10_method_54_code 41 = .ok (.istore 4, 2) := by decide +kernel
theorem dMO_free_43 : decode prog_10_method_54_code 43 = .ok (.iload 4, 2) := by decide +kernel
theorem dMO_free_45 : decode prog_10_method_54_code 45 = .ok (.ifCond .eq 39, 3) := by decide +kernel
theorem dMO_free_48 : decode prog_10_method_54_code 48 = .ok (.iload_n 2, 1) := by decide +kernel
theorem dMO_free_49 : decode prog_10_method_54_code 49 = .ok (.sipush 600, 3) := by decide +kernel
theorem dMO_free_52 : decode prog_10_method_54_code 52 = .ok (.if_icmp .ge 32, 3) := by decide +kernel
theorem dMO_free_55 : decode prog_10_method_54_code 55 = .ok (.iinc 2 1, 3) := by decide +kernel
theorem dMO_free_58 : decode prog_10_method_54_code 58 = .ok (.aload_n 0, 1) := by decide +kernel
theorem dMO_free_59 : decode prog_10_method_54_code 59 = .ok (.iload 4, 2) := by decide +kernel
theorem dMO_free_61 : decode prog_10_method_54_code 61 = .ok (.invokevirtual 71, 3) := by decide +kernel
theorem dMO_free_64 : decode prog_10_method_54_code 64 = .ok (.istore_n 3, 1) := by decide +kernel
theorem dMO_free_65 : decode prog_10_method_54_code 65 = .ok (.iload_n 3, 1) := by decide +kernel
theorem dMO_free_66 : decode prog_10_method_54_code 66 = .ok (.ifCond .ge 7, 3) := by decide +kernel
theorem dMO_free_69 : decode prog_10_method_54_code 69 = .ok (.iconst 0, 1) := by decide +kernel
theorem dMO_free_70 : decode prog_10_method_54_code 70 = .ok (.goto 9, 3) := by decide +kernel
theorem dMO_free_73 : decode prog_10_method_54_code 73 = .ok (.aload_n 0, 1) := by decide +kernel
theorem dMO_free_74 : decode prog_10_method_54_code 74 = .ok (.getfield 16, 3) := by decide +kernel
theorem dMO_free_77 : decode prog_10_method_54_code 77 = .ok (.iload_n 3, 1) := by decide +kernel
theorem dMO_free_78 : decode prog_10_method_54_code 78 = .ok (.iaload, 1) := by decide +kernel
theorem dMO_free_79 : decode prog_10_method_54_code 79 = .ok (.istore 4, 2) := by decide +kernel
theorem dMO_free_81 : decode prog_10_method_54_code 81 = .ok (.goto (-38), 3) := by decide +kernel
theorem dMO_free_84 : decode prog_10_method_54_code 84 = .ok (.iload_n 2, 1) := by decide +kernel
theorem dMO_free_85 : decode prog_10_method_54_code 85 = .ok (.ireturn, 1) := by decide +kernel
theorem dFP_map_0 : decode prog_1_method_2_code 0 = .ok (.iload_n 1, 1) := by decide +kernel
theorem dFP_map_1 : decode prog_1_method_2_code 1 = .ok (.invokestatic 32, 3) := by decide +kernel
theorem dFP_map_4 : decode prog_1_method_2_code 4 = .ok (.ifCond .eq 15, 3) := by decide +kernel
theorem dFP_map_7 : decode prog_1_method_2_code 7 = .ok (.iload_n 2, 1) := by decide +kernel
theorem dFP_map_8 : decode prog_1_method_2_code 8 = .ok (.iconst (-1), 1) := by decide +kernel
theorem dFP_map_9 : decode prog_1_method_2_code 9 = .ok (.if_icmp .eq 18, 3) := by decide +kernel
theorem dFP_map_12 : decode prog_1_method_2_code 12 = .ok (.iload_n 2, 1) := by decide +kernel
theorem dFP_map_13 : decode prog_1_method_2_code 13 = .ok (.invokestatic 36, 3) := by decide +kernel
theorem dFP_map_16 : decode prog_1_method_2_code 16 = .ok (.ifCond .ne 11, 3) := by decide +kernel
theorem dFP_map_19 : decode prog_1_method_2_code 19 = .ok (.new 39, 3) := by decide +kernel
theorem dFP_map_22 : decode prog_1_method_2_code 22 = .ok (.dup, 1) := by decide +kernel
theorem dFP_map_23 : decode prog_1_method_2_code 23 = .ok (.invokespecial 41, 3) := by decide +kernel
theorem dFP_map_26 : decode prog_1_method_2_code 26 = .ok (.athrow, 1) := by decide +kernel
theorem dFP_map_27 : decode prog_1_method_2_code 27 = .ok (.aload_n 0, 1) := by decide +kernel
theorem dFP_map_28 : decode prog_1_method_2_code 28 = .ok (.getfield 10, 3) := by decide +kernel
theorem dFP_map_31 : decode prog_1_method_2_code 31 = .ok (.iload_n 1, 1) := by decide +kernel
theorem dFP_map_32 : decode prog_1_method_2_code 32 = .ok (.iload_n 2, 1) := by decide +kernel
theorem dFP_map_33 : decode prog_1_method_2_code 33 = .ok (.invokevirtual 42, 3) := by decide +kernel
theorem dFP_map_36 : decode prog_1_method_2_code 36 = .ok (.return_, 1) := by decide +kernel
theorem dFP_protect_0 : decode prog_1_method_3_code 0 = .ok (.iload_n 1, 1) := by decide +kernel
theorem dFP_protect_1 : decode prog_1_method_3_code 1 = .ok (.invokestatic 32, 3) := by decide +kernel
theorem dFP_protect_4 : decode prog_1_method_3_code 4 = .ok (.ifCond .ne 11, 3) := by decide +kernel
theorem dFP_protect_7 : decode prog_1_method_3_code 7 = .ok (.new 39, 3) := by decide +kernel
theorem dFP_protect_10 : decode prog_1_method_3_code 10 = .ok (.dup, 1) := by decide +kernel
theorem dFP_protect_11 : decode prog_1_method_3_code 11 = .ok (.invokespecial 41, 3) := by decide +kernel
theorem dFP_protect_14 : decode prog_1_method_3_code 14 = .ok (.athrow, 1) := by decide +kernel
theorem dFP_protect_15 : decode prog_1_method_3_code 15 = .ok (.aload_n 0, 1) := by decide +kernel
theorem dFP_protect_16 : decode prog_1_method_3_code 16 = .ok (.getfield 10, 3) := by decide +kernel
theorem dFP_protect_19 : decode prog_1_method_3_code 19 = .ok (.iload_n 1, 1) := by decide +kernel
theorem dFP_protect_20 : decode prog_1_method_3_code 20 = .ok (.iload_n 2, 1) := by decide +kernel
theorem dFP_protect_21 : decode prog_1_method_3_code 21 = .ok (.invokevirtual 46, 3) := by decide +kernel
theorem dFP_protect_24 : decode prog_1_method_3_code 24 = .ok (.return_, 1) := by decide +kernel
theorem dFP_noted_0 : decode prog_1_method_4_code 0 = .ok (.iload_n 1, 1) := by decide +kernel
theorem dFP_noted_1 : decode prog_1_method_4_code 1 = .ok (.invokestatic 36, 3) := by decide +kernel
theorem dFP_noted_4 : decode prog_1_method_4_code 4 = .ok (.ifCond .ne 11, 3) := by decide +kernel
theorem dFP_noted_7 : decode prog_1_method_4_code 7 = .ok (.new 39, 3) := by decide +kernel
theorem dFP_noted_10 : decode prog_1_method_4_code 10 = .ok (.dup, 1) := by decide +kernel
theorem dFP_noted_11 : decode prog_1_method_4_code 11 = .ok (.invokespecial 41, 3) := by decide +kernel
theorem dFP_noted_14 : decode prog_1_method_4_code 14 = .ok (.athrow, 1) := by decide +kernel
theorem dFP_noted_15 : decode prog_1_method_4_code 15 = .ok (.aload_n 0, 1) := by decide +kernel
theorem dFP_noted_16 : decode prog_1_method_4_code 16 = .ok (.getfield 10, 3) := by decide +kernel
theorem dFP_noted_19 : decode prog_1_method_4_code 19 = .ok (.iload_n 1, 1) := by decide +kernel
theorem dFP_noted_20 : decode prog_1_method_4_code 20 = .ok (.invokevirtual 50, 3) := by decide +kernel
theorem dFP_noted_23 : decode prog_1_method_4_code 23 = .ok (.ireturn, 1) := by decide +kernel
theorem dFP_poke_0 : decode prog_1_method_5_code 0 = .ok (.iload_n 1, 1) := by decide +kernel
theorem dFP_poke_1 : decode prog_1_method_5_code 1 = .ok (.invokestatic 54, 3) := by decide +kernel
theorem dFP_poke_4 : decode prog_1_method_5_code 4 = .ok (.ifCond .ne 11, 3) := by decide +kernel
theorem dFP_poke_7 : decode prog_1_method_5_code 7 = .ok (.new 39, 3) := by decide +kernel
theorem dFP_poke_10 : decode prog_1_method_5_code 10 = .ok (.dup, 1) := by decide +kernel
theorem dFP_poke_11 : decode prog_1_method_5_code 11 = .ok (.invokespecial 41, 3) := by decide +kernel
theorem dFP_poke_14 : decode prog_1_method_5_code 14 = .ok (.athrow, 1) := by decide +kernel
theorem dFP_poke_15 : decode prog_1_method_5_code 15 = .ok (.aload_n 0, 1) := by decide +kernel
theorem dFP_poke_16 : decode prog_1_method_5_code 16 = .ok (.getfield 10, 3) := by decide +kernel
theorem dFP_poke_19 : decode prog_1_method_5_code 19 = .ok (.iload_n 1, 1) := by decide +kernel
theorem dFP_poke_20 : decode prog_1_method_5_code 20 = .ok (.invokevirtual 57, 3) := by decide +kernel
theorem dFP_poke_23 : decode prog_1_method_5_code 23 = .ok (.ifCond .ne 11, 3) := by decide +kernel
theorem dFP_poke_26 : decode prog_1_method_5_code 26 = .ok (.new 60, 3) := by decide +kernel
theorem dFP_poke_29 : decode prog_1_method_5_code 29 = .ok (.dup, 1) := by decide +kernel
theorem dFP_poke_30 : decode prog_1_method_5_code 30 = .ok (.invokespecial 62, 3) := by decide +kernel
theorem dFP_poke_33 : decode prog_1_method_5_code 33 = .ok (.athrow, 1) := by decide +kernel
theorem dFP_poke_34 : decode prog_1_method_5_code 34 = .ok (.aload_n 0, 1) := by decide +kernel
theorem dFP_poke_35 : decode prog_1_method_5_code 35 = .ok (.getfield 10, 3) := by decide +kernel
theorem dFP_poke_38 : decode prog_1_method_5_code 38 = .ok (.iload_n 1, 1) := by decide +kernel
theorem dFP_poke_39 : decode prog_1_method_5_code 39 = .ok (.iload_n 2, 1) := by decide +kernel
theorem dFP_poke_40 : decode prog_1_method_5_code 40 = .ok (.invokevirtual 63, 3) := by decide +kernel
theorem dFP_poke_43 : decode prog_1_method_5_code 43 = .ok (.return_, 1) := by decide +kernel
theorem dFP_peek_0 : decode prog_1_method_6_code 0 = .ok (.iload_n 1, 1) := by decide +kernel
theorem dFP_peek_1 : decode prog_1_method_6_code 1 = .ok (.invokestatic 54, 3) := by decide +kernel
theorem dFP_peek_4 : decode prog_1_method_6_code 4 = .ok (.ifCond .ne 11, 3) := by decide +kernel
theorem dFP_peek_7 : decode prog_1_method_6_code 7 = .ok (.new 39, 3) := by decide +kernel
theorem dFP_peek_10 : decode prog_1_method_6_code 10 = .ok (.dup, 1) := by decide +kernel
theorem dFP_peek_11 : decode prog_1_method_6_code 11 = .ok (.invokespecial 41, 3) := by decide +kernel
theorem dFP_peek_14 : decode prog_1_method_6_code 14 = .ok (.athrow, 1) := by decide +kernel
theorem dFP_peek_15 : decode prog_1_method_6_code 15 = .ok (.aload_n 0, 1) := by decide +kernel
theorem dFP_peek_16 : decode prog_1_method_6_code 16 = .ok (.getfield 10, 3) := by decide +kernel
theorem dFP_peek_19 : decode prog_1_method_6_code 19 = .ok (.iload_n 1, 1) := by decide +kernel
theorem dFP_peek_20 : decode prog_1_method_6_code 20 = .ok (.invokevirtual 57, 3) := by decide +kernel
theorem dFP_peek_23 : decode prog_1_method_6_code 23 = .ok (.ifCond .ne 11, 3) := by decide +kernel
theorem dFP_peek_26 : decode prog_1_method_6_code 26 = .ok (.new 60, 3) := by decide +kernel
theorem dFP_peek_29 : decode prog_1_method_6_code 29 = .ok (.dup, 1) := by decide +kernel
theorem dFP_peek_30 : decode prog_1_method_6_code 30 = .ok (.invokespecial 62, 3) := by decide +kernel
theorem dFP_peek_33 : decode prog_1_method_6_code 33 = .ok (.athrow, 1) := by decide +kernel
theorem dFP_peek_34 : decode prog_1_method_6_code 34 = .ok (.aload_n 0, 1) := by decide +kernel
theorem dFP_peek_35 : decode prog_1_method_6_code 35 = .ok (.getfield 10, 3) := by decide +kernel
theorem dFP_peek_38 : decode prog_1_method_6_code 38 = .ok (.iload_n 1, 1) := by decide +kernel
theorem dFP_peek_39 : decode prog_1_method_6_code 39 = .ok (.invokevirtual 66, 3) := by decide +kernel
theorem dFP_peek_42 : decode prog_1_method_6_code 42 = .ok (.ireturn, 1) := by decide +kernel
theorem dFP_start_0 : decode prog_1_method_7_code 0 = .ok (.aload_n 0, 1) := by decide +kernel
theorem dFP_start_1 : decode prog_1_method_7_code 1 = .ok (.getfield 28, 3) := by decide +kernel
theorem dFP_start_4 : decode prog_1_method_7_code 4 = .ok (.iload_n 1, 1) := by decide +kernel
theorem dFP_start_5 : decode prog_1_method_7_code 5 = .ok (.ldc 69, 2) := by decide +kernel
theorem dFP_start_7 : decode prog_1_method_7_code 7 = .ok (.iand, 1) := by decide +kernel
theorem dFP_start_8 : decode prog_1_method_7_code 8 = .ok (.iload_n 2, 1) := by decide +kernel
theorem dFP_start_9 : decode prog_1_method_7_code 9 = .ok (.invokevirtual 70, 3) := by decide +kernel
theorem dFP_start_12 : decode prog_1_method_7_code 12 = .ok (.istore_n 3, 1) := by decide +kernel
theorem dFP_start_13 : decode prog_1_method_7_code 13 = .ok (.iload_n 3, 1) := by decide +kernel
theorem dFP_start_14 : decode prog_1_method_7_code 14 = .ok (.iconst (-1), 1) := by decide +kernel
theorem dFP_start_15 : decode prog_1_method_7_code 15 = .ok (.if_icmp .ne 11, 3) := by decide +kernel
theorem dFP_start_18 : decode prog_1_method_7_code 18 = .ok (.new 60, 3) := by decide +kernel
theorem dFP_start_21 : decode prog_1_method_7_code 21 = .ok (.dup, 1) := by decide +kernel
theorem dFP_start_22 : decode prog_1_method_7_code 22 = .ok (.invokespecial 62, 3) := by decide +kernel
theorem dFP_start_25 : decode prog_1_method_7_code 25 = .ok (.athrow, 1) := by decide +kernel
theorem dFP_start_26 : decode prog_1_method_7_code 26 = .ok (.iload_n 3, 1) := by decide +kernel
theorem dFP_start_27 : decode prog_1_method_7_code 27 = .ok (.ireturn, 1) := by decide +kernel
theorem dFP_run_0 : decode prog_1_method_8_code 0 = .ok (.iload_n 1, 1) := by decide +kernel
theorem dFP_run_1 : decode prog_1_method_8_code 1 = .ok (.ifCond .lt 10, 3) := by decide +kernel
theorem dFP_run_4 : decode prog_1_method_8_code 4 = .ok (.iload_n 1, 1) := by decide +kernel
theorem dFP_run_5 : decode prog_1_method_8_code 5 = .ok (.sipush 500, 3) := by decide +kernel
theorem dFP_run_8 : decode prog_1_method_8_code 8 = .ok (.if_icmp .le 11, 3) := by decide +kernel
theorem dFP_run_11 : decode prog_1_method_8_code 11 = .ok (.new 74, 3) := by decide +kernel
theorem dFP_run_14 : decode prog_1_method_8_code 14 = .ok (.dup, 1) := by decide +kernel
theorem dFP_run_15 : decode prog_1_method_8_code 15 = .ok (.invokespecial 76, 3) := by decide +kernel
theorem dFP_run_18 : decode prog_1_method_8_code 18 = .ok (.athrow, 1) := by decide +kernel
theorem dFP_run_19 : decode prog_1_method_8_code 19 = .ok (.iconst 0, 1) := by decide +kernel
theorem dFP_run_20 : decode prog_1_method_8_code 20 = .ok (.istore_n 2, 1) := by decide +kernel
theorem dFP_run_21 : decode prog_1_method_8_code 21 = .ok (.iload_n 2, 1) := by decide +kernel
theorem dFP_run_22 : decode prog_1_method_8_code 22 = .ok (.iload_n 1, 1) := by decide +kernel
theorem dFP_run_23 : decode prog_1_method_8_code 23 = .ok (.if_icmp .ge 32, 3) := by decide +kernel
theorem dFP_run_26 : decode prog_1_method_8_code 26 = .ok (.aload_n 0, 1) := by decide +kernel
theorem dFP_run_27 : decode prog_1_method_8_code 27 = .ok (.getfield 19, 3) := by decide +kernel
theorem dFP_run_30 : decode prog_1_method_8_code 30 = .ok (.invokevirtual 77, 3) := by decide +kernel
theorem dFP_run_33 : decode prog_1_method_8_code 33 = .ok (.astore_n 3, 1) := by decide +kernel
theorem dFP_run_34 : decode prog_1_method_8_code 34 = .ok (.aload_n 3, 1) := by decide +kernel
theorem dFP_run_35 : decode prog_1_method_8_code 35 = .ok (.ifnonnull 6, 3) := by decide +kernel
theorem dFP_run_38 : decode prog_1_method_8_code 38 = .ok (.goto 17, 3) := by decide +kernel
theorem dFP_run_41 : decode prog_1_method_8_code 41 = .ok (.aload_n 0, 1) := by decide +kernel
theorem dFP_run_42 : decode prog_1_method_8_code 42 = .ok (.getfield 28, 3) := by decide +kernel
theorem dFP_run_45 : decode prog_1_method_8_code 45 = .ok (.aload_n 3, 1) := by decide +kernel
theorem dFP_run_46 : decode prog_1_method_8_code 46 = .ok (.invokevirtual 81, 3) := by decide +kernel
theorem dFP_run_49 : decode prog_1_method_8_code 49 = .ok (.iinc 2 1, 3) := by decide +kernel
theorem dFP_run_52 : decode prog_1_method_8_code 52 = .ok (.goto (-31), 3) := by decide +kernel
theorem dFP_run_55 : decode prog_1_method_8_code 55 = .ok (.iload_n 2, 1) := by decide +kernel
theorem dFP_run_56 : decode prog_1_method_8_code 56 = .ok (.ireturn, 1) := by decide +kernel
theorem dFP_resume_0 : decode prog_1_method_9_code 0 = .ok (.aload_n 0, 1) := by decide +kernel
theorem dFP_resume_1 : decode prog_1_method_9_code 1 = .ok (.getfield 19, 3) := by decide +kernel
theorem dFP_resume_4 : decode prog_1_method_9_code 4 = .ok (.iload_n 1, 1) := by decide +kernel
theorem dFP_resume_5 : decode prog_1_method_9_code 5 = .ok (.invokevirtual 85, 3) := by decide +kernel
theorem dFP_resume_8 : decode prog_1_method_9_code 8 = .ok (.astore_n 2, 1) := by decide +kernel
theorem dFP_resume_9 : decode prog_1_method_9_code 9 = .ok (.aload_n 2, 1) := by decide +kernel
theorem dFP_resume_10 : decode prog_1_method_9_code 10 = .ok (.ifnonnull 11, 3) := by decide +kernel
theorem dFP_resume_13 : decode prog_1_method_9_code 13 = .ok (.new 39, 3) := by decide +kernel
theorem dFP_resume_16 : decode prog_1_method_9_code 16 = .ok (.dup, 1) := by decide +kernel
theorem dFP_resume_17 : decode prog_1_method_9_code 17 = .ok (.invokespecial 41, 3) := by decide +kernel
theorem dFP_resume_20 : decode prog_1_method_9_code 20 = .ok (.athrow, 1) := by decide +kernel
theorem dFP_resume_21 : decode prog_1_method_9_code 21 = .ok (.aload_n 2, 1) := by decide +kernel
theorem dFP_resume_22 : decode prog_1_method_9_code 22 = .ok (.getfield 89, 3) := by decide +kernel
theorem dFP_resume_25 : decode prog_1_method_9_code 25 = .ok (.iconst 4, 1) := by decide +kernel
theorem dFP_resume_26 : decode prog_1_method_9_code 26 = .ok (.if_icmp .eq 11, 3) := by decide +kernel
theorem dFP_resume_29 : decode prog_1_method_9_code 29 = .ok (.new 60, 3) := by decide +kernel
theorem dFP_resume_32 : decode prog_1_method_9_code 32 = .ok (.dup, 1) := by decide +kernel
theorem dFP_resume_33 : decode prog_1_method_9_code 33 = .ok (.invokespecial 62, 3) := by decide +kernel
theorem dFP_resume_36 : decode prog_1_method_9_code 36 = .ok (.athrow, 1) := by decide +kernel
theorem dFP_resume_37 : decode prog_1_method_9_code 37 = .ok (.aload_n 0, 1) := by decide +kernel
theorem dFP_resume_38 : decode prog_1_method_9_code 38 = .ok (.getfield 19, 3) := by decide +kernel
theorem dFP_resume_41 : decode prog_1_method_9_code 41 = .ok (.aload_n 2, 1) := by decide +kernel
theorem dFP_resume_42 : decode prog_1_method_9_code 42 = .ok (.invokevirtual 95, 3) := by decide +kernel
theorem dFP_resume_45 : decode prog_1_method_9_code 45 = .ok (.return_, 1) := by decide +kernel
theorem dFP_kill_0 : decode prog_1_method_10_code 0 = .ok (.aload_n 0, 1) := by decide +kernel
theorem dFP_kill_1 : decode prog_1_method_10_code 1 = .ok (.getfield 19, 3) := by decide +kernel
theorem dFP_kill_4 : decode prog_1_method_10_code 4 = .ok (.iload_n 1, 1) := by decide +kernel
theorem dFP_kill_5 : decode prog_1_method_10_code 5 = .ok (.invokevirtual 85, 3) := by decide +kernel
theorem dFP_kill_8 : decode prog_1_method_10_code 8 = .ok (.astore_n 2, 1) := by decide +kernel
theorem dFP_kill_9 : decode prog_1_method_10_code 9 = .ok (.aload_n 2, 1) := by decide +kernel
theorem dFP_kill_10 : decode prog_1_method_10_code 10 = .ok (.ifnonnull 11, 3) := by decide +kernel
theorem dFP_kill_13 : decode prog_1_method_10_code 13 = .ok (.new 39, 3) := by decide +kernel
theorem dFP_kill_16 : decode prog_1_method_10_code 16 = .ok (.dup, 1) := by decide +kernel
theorem dFP_kill_17 : decode prog_1_method_10_code 17 = .ok (.invokespecial 41, 3) := by decide +kernel
theorem dFP_kill_20 : decode prog_1_method_10_code 20 = .ok (.athrow, 1) := by decide +kernel
theorem dFP_kill_21 : decode prog_1_method_10_code 21 = .ok (.aload_n 2, 1) := by decide +kernel
theorem dFP_kill_22 : decode prog_1_method_10_code 22 = .ok (.getfield 89, 3) := by decide +kernel
theorem dFP_kill_25 : decode prog_1_method_10_code 25 = .ok (.ifCond .ne 11, 3) := by decide +kernel
theorem dFP_kill_28 : decode prog_1_method_10_code 28 = .ok (.new 60, 3) := by decide +kernel
theorem dFP_kill_31 : decode prog_1_method_10_code 31 = .ok (.dup, 1) := by decide +kernel
theorem dFP_kill_32 : decode prog_1_method_10_code 32 = .ok (.invokespecial 62, 3) := by decide +kernel
theorem dFP_kill_35 : decode prog_1_method_10_code 35 = .ok (.athrow, 1) := by decide +kernel
theorem dFP_kill_36 : decode prog_1_method_10_code 36 = .ok (.aload_n 2, 1) := by decide +kernel
theorem dFP_kill_37 : decode prog_1_method_10_code 37 = .ok (.invokevirtual 98, 3) := by decide +kernel
theorem dFP_kill_40 : decode prog_1_method_10_code 40 = .ok (.return_, 1) := by decide +kernel
theorem dFP_interrupt_0 : decode prog_1_method_11_code 0 = .ok (.iload_n 1, 1) := by decide +kernel
theorem dFP_interrupt_1 : decode prog_1_method_11_code 1 = .ok (.invokestatic 54, 3) := by decide +kernel
theorem dFP_interrupt_4 : decode prog_1_method_11_code 4 = .ok (.ifCond .ne 11, 3) := by decide +kernel
theorem dFP_interrupt_7 : decode prog_1_method_11_code 7 = .ok (.new 39, 3) := by decide +kernel
theorem dFP_interrupt_10 : decode prog_1_method_11_code 10 = .ok (.dup, 1) := by decide +kernel
theorem dFP_interrupt_11 : decode prog_1_method_11_code 11 = .ok (.invokespecial 41, 3) := by decide +kernel
theorem dFP_interrupt_14 : decode prog_1_method_11_code 14 = .ok (.athrow, 1) := by decide +kernel
theorem dFP_interrupt_15 : decode prog_1_method_11_code 15 = .ok (.aload_n 0, 1) := by decide +kernel
theorem dFP_interrupt_16 : decode prog_1_method_11_code 16 = .ok (.getfield 19, 3) := by decide +kernel
theorem dFP_interrupt_19 : decode prog_1_method_11_code 19 = .ok (.iconst 3, 1) := by decide +kernel
theorem dFP_interrupt_20 : decode prog_1_method_11_code 20 = .ok (.iload_n 1, 1) := by decide +kernel
theorem dFP_interrupt_21 : decode prog_1_method_11_code 21 = .ok (.invokevirtual 101, 3) := by decide +kernel
theorem dFP_interrupt_24 : decode prog_1_method_11_code 24 = .ok (.istore_n 2, 1) := by decide +kernel
theorem dFP_interrupt_25 : decode prog_1_method_11_code 25 = .ok (.iload_n 2, 1) := by decide +kernel
theorem dFP_interrupt_26 : decode prog_1_method_11_code 26 = .ok (.iconst (-1), 1) := by decide +kernel
theorem dFP_interrupt_27 : decode prog_1_method_11_code 27 = .ok (.if_icmp .ne 11, 3) := by decide +kernel
theorem dFP_interrupt_30 : decode prog_1_method_11_code 30 = .ok (.aload_n 0, 1) := by decide +kernel
theorem dFP_interrupt_31 : decode prog_1_method_11_code 31 = .ok (.getfield 10, 3) := by decide +kernel
theorem dFP_interrupt_34 : decode prog_1_method_11_code 34 = .ok (.iload_n 1, 1) := by decide +kernel
theorem dFP_interrupt_35 : decode prog_1_method_11_code 35 = .ok (.invokevirtual 104, 3) := by decide +kernel
theorem dFP_interrupt_38 : decode prog_1_method_11_code 38 = .ok (.iload_n 2, 1) := by decide +kernel
theorem dFP_interrupt_39 : decode prog_1_method_11_code 39 = .ok (.ireturn, 1) := by decide +kernel
theorem dFP_tick_0 : decode prog_1_method_12_code 0 = .ok (.iload_n 1, 1) := by decide +kernel
theorem dFP_tick_1 : decode prog_1_method_12_code 1 = .ok (.ifCond .lt 9, 3) := by decide +kernel
theorem dFP_tick_4 : decode prog_1_method_12_code 4 = .ok (.iload_n 1, 1) := by decide +kernel
theorem dFP_tick_5 : decode prog_1_method_12_code 5 = .ok (.ldc 108, 2) := by decide +kernel
theorem dFP_tick_7 : decode prog_1_method_12_code 7 = .ok (.if_icmp .le 11, 3) := by decide +kernel
theorem dFP_tick_10 : decode prog_1_method_12_code 10 = .ok (.new 74, 3) := by decide +kernel
theorem dFP_tick_13 : decode prog_1_method_12_code 13 = .ok (.dup, 1) := by decide +kernel
theorem dFP_tick_14 : decode prog_1_method_12_code 14 = .ok (.invokespecial 76, 3) := by decide +kernel
theorem dFP_tick_17 : decode prog_1_method_12_code 17 = .ok (.athrow, 1) := by decide +kernel
theorem dFP_tick_18 : decode prog_1_method_12_code 18 = .ok (.aload_n 0, 1) := by decide +kernel
theorem dFP_tick_19 : decode prog_1_method_12_code 19 = .ok (.getfield 19, 3) := by decide +kernel
theorem dFP_tick_22 : decode prog_1_method_12_code 22 = .ok (.iload_n 1, 1) := by decide +kernel
theorem dFP_tick_23 : decode prog_1_method_12_code 23 = .ok (.invokevirtual 109, 3) := by decide +kernel
theorem dFP_tick_26 : decode prog_1_method_12_code 26 = .ok (.ireturn, 1) := by decide +kernel
