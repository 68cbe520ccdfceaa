theorem dMO_two_213 : decode prog_10_method_31_code 213 = .ok (.aload_n 0, 1) := by decide +kernel
theorem dMO_two_214 : decode prog_10_method_31_code 214 = .ok (.iload_n 3, 1) := by decide +kernel
theorem dMO_two_215 : decode prog_10_method_31_code 215 = .ok (.invokevirtual 145, 3) := by decide +kernel
theorem dMO_two_218 : decode prog_10_method_31_code 218 = .ok (.return_, 1) := by decide +kernel
theorem dMO_more_0 : decode prog_10_method_33_code 0 = .ok (.iload_n 1, 1) := by decide +kernel
theorem dMO_more_1 : decode prog_10_method_33_code 1 = .ok (.tableswitch 280 31 45 #[75, 280, 280, 280, 280, 280, 280, 280, 280, 82, 135, 146, 239, 255, 272], 75) := by decide +kernel
theorem dMO_more_76 : decode prog_10_method_33_code 76 = .ok (.aload_n 0, 1) := by decide +kernel
theorem dMO_more_77 : decode prog_10_method_33_code 77 = .ok (.invokevirtual 174, 3) := by decide +kernel
theorem dMO_more_80 : decode prog_10_method_33_code 80 = .ok (.goto 233, 3) := by decide +kernel
theorem dMO_more_83 : decode prog_10_method_33_code 83 = .ok (.aload_n 0, 1) := by decide +kernel
theorem dMO_more_84 : decode prog_10_method_33_code 84 = .ok (.invokevirtual 138, 3) := by decide +kernel
theorem dMO_more_87 : decode prog_10_method_33_code 87 = .ok (.istore_n 2, 1) := by decide +kernel
theorem dMO_more_88 : decode prog_10_method_33_code 88 = .ok (.aload_n 0, 1) := by decide +kernel
theorem dMO_more_89 : decode prog_10_method_33_code 89 = .ok (.iload_n 2, 1) := by decide +kernel
theorem dMO_more_90 : decode prog_10_method_33_code 90 = .ok (.invokevirtual 85, 3) := by decide +kernel
theorem dMO_more_93 : decode prog_10_method_33_code 93 = .ok (.ifCond .ne 12, 3) := by decide +kernel
theorem dMO_more_96 : decode prog_10_method_33_code 96 = .ok (.aload_n 0, 1) := by decide +kernel
theorem dMO_more_97 : decode prog_10_method_33_code 97 = .ok (.iload_n 2, 1) := by decide +kernel
theorem dMO_more_98 : decode prog_10_method_33_code 98 = .ok (.iconst 1, 1) := by decide +kernel
theorem dMO_more_99 : decode prog_10_method_33_code 99 = .ok (.invokevirtual 103, 3) := by decide +kernel
theorem dMO_more_102 : decode prog_10_method_33_code 102 = .ok (.goto 15, 3) := by decide +kernel
theorem dMO_more_105 : decode prog_10_method_33_code 105 = .ok (.aload_n 0, 1) := by decide +kernel
theorem dMO_more_106 : decode prog_10_method_33_code 106 = .ok (.getfield 68, 3) := by decide +kernel
theorem dMO_more_109 : decode prog_10_method_33_code 109 = .ok (.ifCond .ne 8, 3) := by decide +kernel
theorem dMO_more_112 : decode prog_10_method_33_code 112 = .ok (.aload_n 0, 1) := by decide +kernel
theorem dMO_more_113 : decode prog_10_method_33_code 113 = .ok (.iload_n 2, 1) := by decide +kernel
theorem dMO_more_114 : decode prog_10_method_33_code 114 = .ok (.invokevirtual 177, 3) := by decide +kernel
theorem dMO_more_117 : decode prog_10_method_33_code 117 = .ok (.aload_n 0, 1) := by decide +kernel
theorem dMO_more_118 : decode prog_10_method_33_code 118 = .ok (.getfield 23, 3) := by decide +kernel
theorem dMO_more_121 : decode prog_10_method_33_code 121 = .ok (.aload_n 0, 1) := by decide +kernel
theorem dMO_more_122 : decode prog_10_method_33_code 122 = .ok (.getfield 113, 3) := by decide +kernel
theorem dMO_more_125 : decode prog_10_method_33_code 125 = .ok (.iaload, 1) := by decide +kernel
theorem dMO_more_126 : decode prog_10_method_33_code 126 = .ok (.iconst 2, 1) := by decide +kernel
theorem dMO_more_127 : decode prog_10_method_33_code 127 = .ok (.if_icmp .eq 7, 3) := by decide +kernel
theorem dMO_more_130 : decode prog_10_method_33_code 130 = .ok (.iconst 1, 1) := by decide +kernel
theorem dMO_more_131 : decode prog_10_method_33_code 131 = .ok (.goto 4, 3) := by decide +kernel
theorem dMO_more_134 : decode prog_10_method_33_code 134 = .ok (.iconst 0, 1) := by decide +kernel
theorem dMO_more_135 : decode prog_10_method_33_code 135 = .ok (.ireturn, 1) := by decide +kernel
theorem dMO_more_136 : decode prog_10_method_33_code 136 = .ok (.aload_n 0, 1) := by decide +kernel
theorem dMO_more_137 : decode prog_10_method_33_code 137 = .ok (.aload_n 0, 1) := by decide +kernel
theorem dMO_more_138 : decode prog_10_method_33_code 138 = .ok (.invokevirtual 138, 3) := by decide +kernel
theorem dMO_more_141 : decode prog_10_method_33_code 141 = .ok (.invokevirtual 180, 3) := by decide +kernel
theorem dMO_more_144 : decode prog_10_method_33_code 144 = .ok (.goto 169, 3) := by decide +kernel
theorem dMO_more_147 : decode prog_10_method_33_code 147 = .ok (.aload_n 0, 1) := by decide +kernel
theorem dMO_more_148 : decode prog_10_method_33_code 148 = .ok (.invokevirtual 138, 3) := by decide +kernel
theorem dMO_more_151 : decode prog_10_method_33_code 151 = .ok (.istore_n 3, 1) := by decide +kernel
theorem dMO_more_152 : decode prog_10_method_33_code 152 = .ok (.aload_n 0, 1) := by decide +kernel
theorem dMO_more_153 : decode prog_10_method_33_code 153 = .ok (.invokevirtual 138, 3) := by decide +kernel
theorem dMO_more_156 : decode prog_10_method_33_code 156 = .ok (.istore 4, 2) := by decide +kernel
theorem dMO_more_158 : decode prog_10_method_33_code 158 = .ok (.aload_n 0, 1) := by decide +kernel
theorem dMO_more_159 : decode prog_10_method_33_code 159 = .ok (.aload_n 0, 1) := by decide +kernel
theorem dMO_more_160 : decode prog_10_method_33_code 160 = .ok (.invokevirtual 138, 3) := by decide +kernel
theorem dMO_more_163 : decode prog_10_method_33_code 163 = .ok (.invokevirtual 180, 3) := by decide +kernel
theorem dMO_more_166 : decode prog_10_method_33_code 166 = .ok (.aload_n 0, 1) := by decide +kernel
theorem dMO_more_167 : decode prog_10_method_33_code 167 = .ok (.iload 4, 2) := by decide +kernel
theorem dMO_more_169 : decode prog_10_method_33_code 169 = .ok (.invokevirtual 85, 3) := by decide +kernel
theorem dMO_more_172 : decode prog_10_method_33_code 172 = .ok (.istore 5, 2) := by decide +kernel
theorem dMO_more_174 : decode prog_10_method_33_code 174 = .ok (.iload 5, 2) := by decide +kernel
theorem dMO_more_176 : decode prog_10_method_33_code 176 = .ok (.iconst 2, 1) := by decide +kernel
theorem dMO_more_177 : decode prog_10_method_33_code 177 = .ok (.irem, 1) := by decide +kernel
theorem dMO_more_178 : decode prog_10_method_33_code 178 = .ok (.iconst 1, 1) := by decide +kernel
theorem dMO_more_179 : decode prog_10_method_33_code 179 = .ok (.if_icmp .ne 16, 3) := by decide +kernel
theorem dMO_more_182 : decode prog_10_method_33_code 182 = .ok (.aload_n 0, 1) := by decide +kernel
theorem dMO_more_183 : decode prog_10_method_33_code 183 = .ok (.iload 4, 2) := by decide +kernel
theorem dMO_more_185 : decode prog_10_method_33_code 185 = .ok (.iload 5, 2) := by decide +kernel
theorem dMO_more_187 : decode prog_10_method_33_code 187 = .ok (.iconst 1, 1) := by decide +kernel
theorem dMO_more_188 : decode prog_10_method_33_code 188 = .ok (.isub, 1) := by decide +kernel
theorem dMO_more_189 : decode prog_10_method_33_code 189 = .ok (.invokevirtual 103, 3) := by decide +kernel
theorem dMO_more_192 : decode prog_10_method_33_code 192 = .ok (.goto 121, 3) := by decide +kernel
theorem dMO_more_195 : decode prog_10_method_33_code 195 = .ok (.aload_n 0, 1) := by decide +kernel
theorem dMO_more_196 : decode prog_10_method_33_code 196 = .ok (.getfield 68, 3) := by decide +kernel
theorem dMO_more_199 : decode prog_10_method_33_code 199 = .ok (.ifCond .ne 114, 3) := by decide +kernel
theorem dMO_more_202 : decode prog_10_method_33_code 202 = .ok (.aload_n 0, 1) := by decide +kernel
theorem dMO_more_203 : decode prog_10_method_33_code 203 = .ok (.getfield 23, 3) := by decide +kernel
theorem dMO_more_206 : decode prog_10_method_33_code 206 = .ok (.aload_n 0, 1) := by decide +kernel
theorem dMO_more_207 : decode prog_10_method_33_code 207 = .ok (.getfield 113, 3) := by decide +kernel
theorem dMO_more_210 : decode prog_10_method_33_code 210 = .ok (.iconst 3, 1) := by decide +kernel
theorem dMO_more_211 : decode prog_10_method_33_code 211 = .ok (.iastore, 1) := by decide +kernel
theorem dMO_more_212 : decode prog_10_method_33_code 212 = .ok (.aload_n 0, 1) := by decide +kernel
theorem dMO_more_213 : decode prog_10_method_33_code 213 = .ok (.getfield 38, 3) := by decide +kernel
theorem dMO_more_216 : decode prog_10_method_33_code 216 = .ok (.aload_n 0, 1) := by decide +kernel
theorem dMO_more_217 : decode prog_10_method_33_code 217 = .ok (.getfield 113, 3) := by decide +kernel
theorem dMO_more_220 : decode prog_10_method_33_code 220 = .ok (.iload 4, 2) := by decide +kernel
theorem dMO_more_222 : decode prog_10_method_33_code 222 = .ok (.sipush 4095, 3) := by decide +kernel
theorem dMO_more_225 : decode prog_10_method_33_code 225 = .ok (.iand, 1) := by decide +kernel
theorem dMO_more_226 : decode prog_10_method_33_code 226 = .ok (.iastore, 1) := by decide +kernel
theorem dMO_more_227 : decode prog_10_method_33_code 227 = .ok (.aload_n 0, 1) := by decide +kernel
theorem dMO_more_228 : decode prog_10_method_33_code 228 = .ok (.getfield 41, 3) := by decide +kernel
theorem dMO_more_231 : decode prog_10_method_33_code 231 = .ok (.aload_n 0, 1) := by decide +kernel
theorem dMO_more_232 : decode prog_10_method_33_code 232 = .ok (.getfield 113, 3) := by decide +kernel
theorem dMO_more_235 : decode prog_10_method_33_code 235 = .ok (.iload_n 3, 1) := by decide +kernel
theorem dMO_more_236 : decode prog_10_method_33_code 236 = .ok (.iastore, 1) := by decide +kernel
theorem dMO_more_237 : decode prog_10_method_33_code 237 = .ok (.goto 76, 3) := by decide +kernel
theorem dMO_more_240 : decode prog_10_method_33_code 240 = .ok (.aload_n 0, 1) := by decide +kernel
theorem dMO_more_241 : decode prog_10_method_33_code 241 = .ok (.invokevirtual 138, 3) := by decide +kernel
theorem dMO_more_244 : decode prog_10_method_33_code 244 = .ok (.istore_n 2, 1) := by decide +kernel
theorem dMO_more_245 : decode prog_10_method_33_code 245 = .ok (.aload_n 0, 1) := by decide +kernel
theorem dMO_more_246 : decode prog_10_method_33_code 246 = .ok (.iconst 3, 1) := by decide +kernel
theorem dMO_more_247 : decode prog_10_method_33_code 247 = .ok (.iload_n 2, 1) := by decide +kernel
theorem dMO_more_248 : decode prog_10_method_33_code 248 = .ok (.invokevirtual 183, 3) := by decide +kernel
theorem dMO_more_251 : decode prog_10_method_33_code 251 = .ok (.istore 6, 2) := by decide +kernel
theorem dMO_more_253 : decode prog_10_method_33_code 253 = .ok (.goto 60, 3) := by decide +kernel
theorem dMO_more_256 : decode prog_10_method_33_code 256 = .ok (.aload_n 0, 1) := by decide +kernel
theorem dMO_more_257 : decode prog_10_method_33_code 257 = .ok (.invokevirtual 138, 3) := by decide +kernel
theorem dMO_more_260 : decode prog_10_method_33_code 260 = .ok (.istore_n 2, 1) := by decide +kernel
theorem dMO_more_261 : decode prog_10_method_33_code 261 = .ok (.aload_n 0, 1) := by decide +kernel
theorem dMO_more_262 : decode prog_10_method_33_code 262 = .ok (.iconst 3, 1) := by decide +kernel
theorem dMO_more_263 : decode prog_10_method_33_code 263 = .ok (.iload_n 2, 1) := by decide +kernel
theorem dMO_more_264 : decode prog_10_method_33_code 264 = .ok (.invokevirtual 183, 3) := by decide +kernel
theorem dMO_more_267 : decode prog_10_method_33_code 267 = .ok (.ifCond .eq 46, 3) := by decide +kernel
theorem dMO_more_270 : decode prog_10_method_33_code 270 = .ok (.goto (-9), 3) := by decide +kernel
theorem dMO_more_273 : decode prog_10_method_33_code 273 = .ok (.aload_n 0, 1) := by decide +kernel
theorem dMO_more_274 : decode prog_10_method_33_code 274 = .ok (.iconst 1, 1) := by decide +kernel
theorem dMO_more_275 : decode prog_10_method_33_code 275 = .ok (.putfield 187, 3) := by decide +kernel
theorem dMO_more_278 : decode prog_10_method_33_code 278 = .ok (.goto 35, 3) := by decide +kernel
theorem dMO_more_281 : decode prog_10_method_33_code 281 = .ok (.iload_n 1, 1) := by decide +kernel
theorem dMO_more_282 : decode prog_10_method_33_code 282 = .ok (.bipush 8, 2) := by decide +kernel
theorem dMO_more_284 : decode prog_10_method_33_code 284 = .ok (.if_icmp .le 9, 3) := by decide +kernel
theorem dMO_more_287 : decode prog_10_method_33_code 287 = .ok (.iload_n 1, 1) := by decide +kernel
theorem dMO_more_288 : decode prog_10_method_33_code 288 = .ok (.bipush 17, 2) := by decide +kernel
theorem dMO_more_290 : decode prog_10_method_33_code 290 = .ok (.if_icmp .lt 9, 3) := by decide +kernel
theorem dMO_more_293 : decode prog_10_method_33_code 293 = .ok (.iload_n 1, 1) := by decide +kernel
theorem dMO_more_294 : decode prog_10_method_33_code 294 = .ok (.bipush 19, 2) := by decide +kernel
theorem dMO_more_296 : decode prog_10_method_33_code 296 = .ok (.if_icmp .ne 11, 3) := by decide +kernel
theorem dMO_more_299 : decode prog_10_method_33_code 299 = .ok (.aload_n 0, 1) := by decide +kernel
theorem dMO_more_300 : decode prog_10_method_33_code 300 = .ok (.iload_n 1, 1) := by decide +kernel
theorem dMO_more_301 : decode prog_10_method_33_code 301 = .ok (.invokevirtual 191, 3) := by decide +kernel
theorem dMO_more_304 : decode prog_10_method_33_code 304 = .ok (.goto 9, 3) := by decide +kernel
theorem dMO_more_307 : decode prog_10_method_33_code 307 = .ok (.aload_n 0, 1) := by decide +kernel
theorem dMO_more_308 : decode prog_10_method_33_code 308 = .ok (.bipush 9, 2) := by decide +kernel
theorem dMO_more_310 : decode prog_10_method_33_code 310 = .ok (.invokevirtual 75, 3) := by decide +kernel
theorem dMO_more_313 : decode prog_10_method_33_code 313 = .ok (.iconst 1, 1) := by decide +kernel
theorem dMO_more_314 : decode prog_10_method_33_code 314 = .ok (.ireturn, 1) := by decide +kernel
theorem dMO_act_0 : decode prog_10_method_32_code 0 = .ok (.aload_n 0, 1) := by decide +kernel
theorem dMO_act_1 : decode prog_10_method_32_code 1 = .ok (.getfield 29, 3) := by decide +kernel
theorem dMO_act_4 : decode prog_10_method_32_code 4 = .ok (.aload_n 0, 1) := by decide +kernel
theorem dMO_act_5 : decode prog_10_method_32_code 5 = .ok (.getfield 113, 3) := by decide +kernel
theorem dMO_act_8 : decode prog_10_method_32_code 8 = .ok (.iaload, 1) := by decide +kernel
theorem dMO_act_9 : decode prog_10_method_32_code 9 = .ok (.istore_n 3, 1) := by decide +kernel
theorem dMO_act_10 : decode prog_10_method_32_code 10 = .ok (.iload_n 2, 1) := by decide +kernel
theorem dMO_act_11 : decode prog_10_method_32_code 11 = .ok (.ifCond .le 9, 3) := by decide +kernel
theorem dMO_act_14 : decode prog_10_method_32_code 14 = .ok (.iload_n 2, 1) := by decide +kernel
theorem dMO_act_15 : decode prog_10_method_32_code 15 = .ok (.bipush 9, 2) := by decide +kernel
theorem dMO_act_17 : decode prog_10_method_32_code 17 = .ok (.if_icmp .lt 21, 3) := by decide +kernel
theorem dMO_act_20 : decode prog_10_method_32_code 20 = .ok (.iload_n 2, 1) := by decide +kernel
theorem dMO_act_21 : decode prog_10_method_32_code 21 = .ok (.bipush 19, 2) := by decide +kernel
theorem dMO_act_23 : decode prog_10_method_32_code 23 = .ok (.if_icmp .le 9, 3) := by decide +kernel
theorem dMO_act_26 : decode prog_10_method_32_code 26 = .ok (.iload_n 2, 1) := by decide +kernel
theorem dMO_act_27 : decode prog_10_method_32_code 27 = .ok (.bipush 27, 2) := by decide +kernel
theorem dMO_act_29 : decode prog_10_method_32_code 29 = .ok (.if_icmp .lt 9, 3) := by decide +kernel
theorem dMO_act_32 : decode prog_10_method_32_code 32 = .ok (.iload_n 2, 1) := by decide +kernel
theorem dMO_act_33 : decode prog_10_method_32_code 33 = .ok (.bipush 29, 2) := by decide +kernel
theorem dMO_act_35 : decode prog_10_method_32_code 35 = .ok (.if_icmp .ne 10, 3) := by decide +kernel
theorem dMO_act_38 : decode prog_10_method_32_code 38 = .ok (.aload_n 0, 1) := by decide +kernel
theorem dMO_act_39 : decode prog_10_method_32_code 39 = .ok (.invokevirtual 148, 3) := by decide +kernel
theorem dMO_act_42 : decode prog_10_method_32_code 42 = .ok (.goto 4, 3) := by decide +kernel
theorem dMO_act_45 : decode prog_10_method_32_code 45 = .ok (.iconst 0, 1) := by decide +kernel
theorem dMO_act_46 : decode prog_10_method_32_code 46 = .ok (.istore 4, 2) := by decide +kernel
theorem dMO_act_48 : decode prog_10_method_32_code 48 = .ok (.iload_n 2, 1) := by decide +kernel
theorem dMO_act_49 : decode prog_10_method_32_code 49 = .ok (.tableswitch 539 0 30 #[139, 142, 151, 169, 186, 203, 223, 243, 261, 539, 539, 539, 539, 539, 539, 539, 539, 283, 304, 539, 313, 328, 364, 414, 430, 454, 477, 496, 502, 512, 528], 139) := by decide +kernel
theorem dMO_act_188 : decode prog_10_method_32_code 188 = .ok (.goto 406, 3) := by decide +kernel
theorem dMO_act_191 : decode prog_10_method_32_code 191 = .ok (.aload_n 0, 1) := by decide +kernel
theorem dMO_act_192 : decode prog_10_method_32_code 192 = .ok (.iload 4, 2) := by decide +kernel
theorem dMO_act_194 : decode prog_10_method_32_code 194 = .ok (.invokevirtual 145, 3) := by decide +kernel
theorem dMO_act_197 : decode prog_10_method_32_code 197 = .ok (.goto 397, 3) := by decide +kernel
theorem dMO_act_200 : decode prog_10_method_32_code 200 = .ok (.aload_n 0, 1) := by decide +kernel
theorem dMO_act_201 : decode prog_10_method_32_code 201 = .ok (.sipush 256, 3) := by decide +kernel
theorem dMO_act_204 : decode prog_10_method_32_code 204 = .ok (.iload 4, 2) := by decide +kernel
theorem dMO_act_206 : decode prog_10_method_32_code 206 = .ok (.imul, 1) := by decide +kernel
theorem dMO_act_207 : decode prog_10_method_32_code 207 = .ok (.aload_n 0, 1) := by decide +kernel
theorem dMO_act_208 : decode prog_10_method_32_code 208 = .ok (.invokevirtual 148, 3) := by decide +kernel
theorem dMO_act_211 : decode prog_10_method_32_code 211 = .ok (.iadd, 1) := by decide +kernel
theorem dMO_act_212 : decode prog_10_method_32_code 212 = .ok (.invokevirtual 145, 3) := by decide +kernel
theorem dMO_act_215 : decode prog_10_method_32_code 215 = .ok (.goto 379, 3) := by decide +kernel
theorem dMO_act_218 : decode prog_10_method_32_code 218 = .ok (.aload_n 0, 1) := by decide +kernel
theorem dMO_act_219 : decode prog_10_method_32_code 219 = .ok (.aload_n 0, 1) := by decide +kernel
theorem dMO_act_220 : decode prog_10_method_32_code 220 = .ok (.iload_n 3, 1) := by decide +kernel
theorem dMO_act_221 : decode prog_10_method_32_code 221 = .ok (.iconst 4, 1) := by decide +kernel
theorem dMO_act_222 : decode prog_10_method_32_code 222 = .ok (.iadd, 1) := by decide +kernel
theorem dMO_act_223 : decode prog_10_method_32_code 223 = .ok (.iload 4, 2) := by decide +kernel
theorem dMO_act_225 : decode prog_10_method_32_code 225 = .ok (.iadd, 1) := by decide +kernel
theorem dMO_act_226 : decode prog_10_method_32_code 226 = .ok (.invokevirtual 85, 3) := by decide +kernel
theorem dMO_act_229 : decode prog_10_method_32_code 229 = .ok (.invokevirtual 145, 3) := by decide +kernel
theorem dMO_act_232 : decode prog_10_method_32_code 232 = .ok (.goto 362, 3) := by decide +kernel
theorem dMO_act_235 : decode prog_10_method_32_code 235 = .ok (.aload_n 0, 1) := by decide +kernel
theorem dMO_act_236 : decode prog_10_method_32_code 236 = .ok (.iload_n 3, 1) := by decide +kernel
theorem dMO_act_237 : decode prog_10_method_32_code 237 = .ok (.iconst 4, 1) := by decide +kernel
theorem dMO_act_238 : decode prog_10_method_32_code 238 = .ok (.iadd, 1) := by decide +kernel
theorem dMO_act_239 : decode prog_10_method_32_code 239 = .ok (.iload 4, 2) := by decide +kernel
theorem dMO_act_241 : decode prog_10_method_32_code 241 = .ok (.iadd, 1) := by decide +kernel
theorem dMO_act_242 : decode prog_10_method_32_code 242 = .ok (.aload_n 0, 1) := by decide +kernel
theorem dMO_act_243 : decode prog_10_method_32_code 243 = .ok (.invokevirtual 138, 3) := by decide +kernel
theorem dMO_act_246 : decode prog_10_method_32_code 246 = .ok (.invokevirtual 103, 3) := by decide +kernel
theorem dMO_act_249 : decode prog_10_method_32_code 249 = .ok (.goto 345, 3) := by decide +kernel
theorem dMO_act_252 : decode prog_10_method_32_code 252 = .ok (.aload_n 0, 1) := by decide +kernel
theorem dMO_act_253 : decode prog_10_method_32_code 253 = .ok (.aload_n 0, 1) := by decide +kernel
theorem dMO_act_254 : decode prog_10_method_32_code 254 = .ok (.aload_n 0, 1) := by decide +kernel
theorem dMO_act_255 : decode prog_10_method_32_code 255 = .ok (.getfield 151, 3) := by decide +kernel
theorem dMO_act_258 : decode prog_10_method_32_code 258 = .ok (.iconst 1, 1) := by decide +kernel
theorem dMO_act_259 : decode prog_10_method_32_code 259 = .ok (.iadd, 1) := by decide +kernel
theorem dMO_act_260 : decode prog_10_method_32_code 260 = .ok (.iload 4, 2) := by decide +kernel
theorem dMO_act_262 : decode prog_10_method_32_code 262 = .ok (.iadd, 1) := by decide +kernel
theorem dMO_act_263 : decode prog_10_method_32_code 263 = .ok (.invokevirtual 85, 3) := by decide +kernel
theorem dMO_act_266 : decode prog_10_method_32_code 266 = .ok (.invokevirtual 145, 3) := by decide +kernel
theorem dMO_act_269 : decode prog_10_method_32_code 269 = .ok (.goto 325, 3) := by decide +kernel
theorem dMO_act_272 : decode prog_10_method_32_code 272 = .ok (.aload_n 0, 1) := by decide +kernel
theorem dMO_act_273 : decode prog_10_method_32_code 273 = .ok (.aload_n 0, 1) := by decide +kernel
theorem dMO_act_274 : decode prog_10_method_32_code 274 = .ok (.getfield 151, 3) := by decide +kernel
theorem dMO_act_277 : decode prog_10_method_32_code 277 = .ok (.iconst 1, 1) := by decide +kernel
theorem dMO_act_278 : decode prog_10_method_32_code 278 = .ok (.iadd, 1) := by decide +kernel
theorem dMO_act_279 : decode prog_10_method_32_code 279 = .ok (.iload 4, 2) := by decide +kernel
theorem dMO_act_281 : decode prog_10_method_32_code 281 = .ok (.iadd, 1) := by decide +kernel
theorem dMO_act_282 : decode prog_10_method_32_code 282 = .ok (.aload_n 0, 1) := by decide +kernel
theorem dMO_act_283 : decode prog_10_method_32_code 283 = .ok (.invokevirtual 138, 3) := by decide +kernel
theorem dMO_act_286 : decode prog_10_method_32_code 286 = .ok (.invokevirtual 103, 3) := by decide +kernel
theorem dMO_act_289 : decode prog_10_method_32_code 289 = .ok (.goto 305, 3) := by decide +kernel
theorem dMO_act_292 : decode prog_10_method_32_code 292 = .ok (.aload_n 0, 1) := by decide +kernel
theorem dMO_act_293 : decode prog_10_method_32_code 293 = .ok (.aload_n 0, 1) := by decide +kernel
theorem dMO_act_294 : decode prog_10_method_32_code 294 = .ok (.aload_n 0, 1) := by decide +kernel
theorem dMO_act_295 : decode prog_10_method_32_code 295 = .ok (.invokevirtual 138, 3) := by decide +kernel
theorem dMO_act_298 : decode prog_10_method_32_code 298 = .ok (.iload 4, 2) := by decide +kernel
theorem dMO_act_300 : decode prog_10_method_32_code 300 = .ok (.iadd, 1) := by decide +kernel
theorem dMO_act_301 : decode prog_10_method_32_code 301 = .ok (.invokevirtual 85, 3) := by decide +kernel
theorem dMO_act_304 : decode prog_10_method_32_code 304 = .ok (.invokevirtual 145, 3) := by decide +kernel
theorem dMO_act_307 : decode prog_10_method_32_code 307 = .ok (.goto 287, 3) := by decide +kernel
theorem dMO_act_310 : decode prog_10_method_32_code 310 = .ok (.aload_n 0, 1) := by decide +kernel
theorem dMO_act_311 : decode prog_10_method_32_code 311 = .ok (.invokevirtual 138, 3) := by decide +kernel
theorem dMO_act_314 : decode prog_10_method_32_code 314 = .ok (.istore 5, 2) := by decide +kernel
theorem dMO_act_316 : decode prog_10_method_32_code 316 = .ok (.aload_n 0, 1) := by decide +kernel
theorem dMO_act_317 : decode prog_10_method_32_code 317 = .ok (.iload 5, 2) := by decide +kernel
theorem dMO_act_319 : decode prog_10_method_32_code 319 = .ok (.iload 4, 2) := by decide +kernel
theorem dMO_act_321 : decode prog_10_method_32_code 321 = .ok (.iadd, 1) := by decide +kernel
theorem dMO_act_322 : decode prog_10_method_32_code 322 = .ok (.aload_n 0, 1) := by decide +kernel
theorem dMO_act_323 : decode prog_10_method_32_code 323 = .ok (.invokevirtual 138, 3) := by decide +kernel
theorem dMO_act_326 : decode prog_10_method_32_code 326 = .ok (.invokevirtual 103, 3) := by decide +kernel
theorem dMO_act_329 : decode prog_10_method_32_code 329 = .ok (.goto 265, 3) := by decide +kernel
theorem dMO_act_332 : decode prog_10_method_32_code 332 = .ok (.aload_n 0, 1) := by decide +kernel
theorem dMO_act_333 : decode prog_10_method_32_code 333 = .ok (.invokevirtual 138, 3) := by decide +kernel
theorem dMO_act_336 : decode prog_10_method_32_code 336 = .ok (.istore 5, 2) := by decide +kernel
theorem dMO_act_338 : decode prog_10_method_32_code 338 = .ok (.aload_n 0, 1) := by decide +kernel
theorem dMO_act_339 : decode prog_10_method_32_code 339 = .ok (.iload 5, 2) := by decide +kernel
theorem dMO_act_341 : decode prog_10_method_32_code 341 = .ok (.invokevirtual 145, 3) := by decide +kernel
theorem dMO_act_344 : decode prog_10_method_32_code 344 = .ok (.aload_n 0, 1) := by decide +kernel
theorem dMO_act_345 : decode prog_10_method_32_code 345 = .ok (.iload 5, 2) := by decide +kernel
theorem dMO_act_347 : decode prog_10_method_32_code 347 = .ok (.invokevirtual 145, 3) := by decide +kernel
theorem dMO_act_350 : decode prog_10_method_32_code 350 = .ok (.goto 244, 3) := by decide +kernel
theorem dMO_act_353 : decode prog_10_method_32_code 353 = .ok (.aload_n 0, 1) := by decide +kernel
theorem dMO_act_354 : decode prog_10_method_32_code 354 = .ok (.invokevirtual 138, 3) := by decide +kernel
theorem dMO_act_357 : decode prog_10_method_32_code 357 = .ok (.istore 5, 2) := by decide +kernel
theorem dMO_act_359 : decode prog_10_method_32_code 359 = .ok (.goto 235, 3) := by decide +kernel
theorem dMO_act_362 : decode prog_10_method_32_code 362 = .ok (.aload_n 0, 1) := by decide +kernel
theorem dMO_act_363 : decode prog_10_method_32_code 363 = .ok (.iload_n 1, 1) := by decide +kernel
theorem dMO_act_364 : decode prog_10_method_32_code 364 = .ok (.iload 4, 2) := by decide +kernel
theorem dMO_act_366 : decode prog_10_method_32_code 366 = .ok (.i2b, 1) := by decide +kernel
theorem dMO_act_367 : decode prog_10_method_32_code 367 = .ok (.iadd, 1) := by decide +kernel
theorem dMO_act_368 : decode prog_10_method_32_code 368 = .ok (.invokestatic 82, 3) := by decide +kernel
theorem dMO_act_371 : decode prog_10_method_32_code 371 = .ok (.putfield 91, 3) := by decide +kernel
theorem dMO_act_374 : decode prog_10_method_32_code 374 = .ok (.goto 220, 3) := by decide +kernel
theorem dMO_act_377 : decode prog_10_method_32_code 377 = .ok (.aload_n 0, 1) := by decide +kernel
theorem dMO_act_378 : decode prog_10_method_32_code 378 = .ok (.aload_n 0, 1) := by decide +kernel
theorem dMO_act_379 : decode prog_10_method_32_code 379 = .ok (.invokevirtual 138, 3) := by decide +kernel
theorem dMO_act_382 : decode prog_10_method_32_code 382 = .ok (.ifCond .ne 21, 3) := by decide +kernel
theorem dMO_act_385 : decode prog_10_method_32_code 385 = .ok (.aload_n 0, 1) := by decide +kernel
theorem dMO_act_386 : decode prog_10_method_32_code 386 = .ok (.getfield 68, 3) := by decide +kernel
theorem dMO_act_389 : decode prog_10_method_32_code 389 = .ok (.ifCond .ne 14, 3) := by decide +kernel
theorem dMO_act_392 : decode prog_10_method_32_code 392 = .ok (.iload_n 1, 1) := by decide +kernel
theorem dMO_act_393 : decode prog_10_method_32_code 393 = .ok (.iload 4, 2) := by decide +kernel
theorem dMO_act_395 : decode prog_10_method_32_code 395 = .ok (.i2b, 1) := by decide +kernel
theorem dMO_act_396 : decode prog_10_method_32_code 396 = .ok (.iadd, 1) := by decide +kernel
theorem dMO_act_397 : decode prog_10_method_32_code 397 = .ok (.invokestatic 82, 3) := by decide +kernel
theorem dMO_act_400 : decode prog_10_method_32_code 400 = .ok (.goto 7, 3) := by decide +kernel
theorem dMO_act_403 : decode prog_10_method_32_code 403 = .ok (.aload_n 0, 1) := by decide +kernel
theorem dMO_act_404 : decode prog_10_method_32_code 404 = .ok (.getfield 91, 3) := by decide +kernel
theorem dMO_act_407 : decode prog_10_method_32_code 407 = .ok (.putfield 91, 3) := by decide +kernel
theorem dMO_act_410 : decode prog_10_method_32_code 410 = .ok (.goto 184, 3) := by decide +kernel
theorem dMO_act_413 : decode prog_10_method_32_code 413 = .ok (.aload_n 0, 1) := by decide +kernel
theorem dMO_act_414 : decode prog_10_method_32_code 414 = .ok (.invokevirtual 138, 3) := by decide +kernel
theorem dMO_act_417 : decode prog_10_method_32_code 417 = .ok (.invokestatic 142, 3) := by decide +kernel
theorem dMO_act_420 : decode prog_10_method_32_code 420 = .ok (.istore 6, 2) := by decide +kernel
theorem dMO_act_422 : decode prog_10_method_32_code 422 = .ok (.aload_n 0, 1) := by decide +kernel
theorem dMO_act_423 : decode prog_10_method_32_code 423 = .ok (.aload_n 0, 1) := by decide +kernel
theorem dMO_act_424 : decode prog_10_method_32_code 424 = .ok (.invokevirtual 138, 3) := by decide +kernel
theorem dMO_act_427 : decode prog_10_method_32_code 427 = .ok (.invokestatic 142, 3) := by decide +kernel
theorem dMO_act_430 : decode prog_10_method_32_code 430 = .ok (.iload 6, 2) := by decide +kernel
theorem dMO_act_432 : decode prog_10_method_32_code 432 = .ok (.if_icmp .ge 21, 3) := by decide +kernel
theorem dMO_act_435 : decode prog_10_method_32_code 435 = .ok (.aload_n 0, 1) := by decide +kernel
theorem dMO_act_436 : decode prog_10_method_32_code 436 = .ok (.getfield 68, 3) := by decide +kernel
theorem dMO_act_439 : decode prog_10_method_32_code 439 = .ok (.ifCond .ne 14, 3) := by decide +kernel
theorem dMO_act_442 : decode prog_10_method_32_code 442 = .ok (.iload_n 1, 1) := by decide +kernel
theorem dMO_act_443 : decode prog_10_method_32_code 443 = .ok (.iload 4, 2) := by decide +kernel
theorem dMO_act_445 : decode prog_10_method_32_code 445 = .ok (.i2b, 1) := by decide +kernel
theorem dMO_act_446 : decode prog_10_method_32_code 446 = .ok (.iadd, 1) := by decide +kernel
theorem dMO_act_447 : decode prog_10_method_32_code 447 = .ok (.invokestatic 82, 3) := by decide +kernel
theorem dMO_act_450 : decode prog_10_method_32_code 450 = .ok (.goto 7, 3) := by decide +kernel
theorem dMO_act_453 : decode prog_10_method_32_code 453 = .ok (.aload_n 0, 1) := by decide +kernel
theorem dMO_act_454 : decode prog_10_method_32_code 454 = .ok (.getfield 91, 3) := by decide +kernel
theorem dMO_act_457 : decode prog_10_method_32_code 457 = .ok (.putfield 91, 3) := by decide +kernel
theorem dMO_act_460 : decode prog_10_method_32_code 460 = .ok (.goto 134, 3) := by decide +kernel
theorem dMO_act_463 : decode prog_10_method_32_code 463 = .ok (.aload_n 0, 1) := by decide +kernel
theorem dMO_act_464 : decode prog_10_method_32_code 464 = .ok (.aload_n 0, 1) := by decide +kernel
theorem dMO_act_465 : decode prog_10_method_32_code 465 = .ok (.invokevirtual 138, 3) := by decide +kernel
theorem dMO_act_468 : decode prog_10_method_32_code 468 = .ok (.iload 4, 2) := by decide +kernel
theorem dMO_act_470 : decode prog_10_method_32_code 470 = .ok (.invokestatic 154, 3) := by decide +kernel
theorem dMO_act_473 : decode prog_10_method_32_code 473 = .ok (.invokevirtual 145, 3) := by decide +kernel
theorem dMO_act_476 : decode prog_10_method_32_code 476 = .ok (.goto 118, 3) := by decide +kernel
theorem dMO_act_479 : decode prog_10_method_32_code 479 = .ok (.aload_n 0, 1) := by decide +kernel
theorem dMO_act_480 : decode prog_10_method_32_code 480 = .ok (.invokevirtual 138, 3) := by decide +kernel
theorem dMO_act_483 : decode prog_10_method_32_code 483 = .ok (.istore 5, 2) := by decide +kernel
theorem dMO_act_485 : decode prog_10_method_32_code 485 = .ok (.aload_n 0, 1) := by decide +kernel
theorem dMO_act_486 : decode prog_10_method_32_code 486 = .ok (.aload_n 0, 1) := by decide +kernel
theorem dMO_act_487 : decode prog_10_method_32_code 487 = .ok (.invokevirtual 138, 3) := by decide +kernel
theorem dMO_act_490 : decode prog_10_method_32_code 490 = .ok (.iload 5, 2) := by decide +kernel
theorem dMO_act_492 : decode prog_10_method_32_code 492 = .ok (.iload 4, 2) := by decide +kernel
theorem dMO_act_494 : decode prog_10_method_32_code 494 = .ok (.invokestatic 157, 3) := by decide +kernel
theorem dMO_act_497 : decode prog_10_method_32_code 497 = .ok (.invokevirtual 145, 3) := by decide +kernel
theorem dMO_act_500 : decode prog_10_method_32_code 500 = .ok (.goto 94, 3) := by decide +kernel
theorem dMO_act_503 : decode prog_10_method_32_code 503 = .ok (.aload_n 0, 1) := by decide +kernel
theorem dMO_act_504 : decode prog_10_method_32_code 504 = .ok (.bipush 32, 2) := by decide +kernel
theorem dMO_act_506 : decode prog_10_method_32_code 506 = .ok (.aload_n 0, 1) := by decide +kernel
theorem dMO_act_507 : decode prog_10_method_32_code 507 = .ok (.getfield 161, 3) := by decide +kernel
theorem dMO_act_510 : decode prog_10_method_32_code 510 = .ok (.imul, 1) := by decide +kernel
theorem dMO_act_511 : decode prog_10_method_32_code 511 = .ok (.iconst 2, 1) := by decide +kernel
theorem dMO_act_512 : decode prog_10_method_32_code 512 = .ok (.iload 4, 2) := by decide +kernel
theorem dMO_act_514 : decode prog_10_method_32_code 514 = .ok (.bipush 15, 2) := by decide +kernel
theorem dMO_act_516 : decode prog_10_method_32_code 516 = .ok (.iand, 1) := by decide +kernel
theorem dMO_act_517 : decode prog_10_method_32_code 517 = .ok (.imul, 1) := by decide +kernel
theorem dMO_act_518 : decode prog_10_method_32_code 518 = .ok (.iadd, 1) := by decide +kernel
theorem dMO_act_519 : decode prog_10_method_32_code 519 = .ok (.iconst 1, 1) := by decide +kernel
theorem dMO_act_520 : decode prog_10_method_32_code 520 = .ok (.iadd, 1) := by decide +kernel
theorem dMO_act_521 : decode prog_10_method_32_code 521 = .ok (.invokevirtual 164, 3) := by decide +kernel
theorem dMO_act_524 : decode prog_10_method_32_code 524 = .ok (.iconst 0, 1) := by decide +kernel
theorem dMO_act_525 : decode prog_10_method_32_code 525 = .ok (.ireturn, 1) := by decide +kernel
theorem dMO_act_526 : decode prog_10_method_32_code 526 = .ok (.aload_n 0, 1) := by decide +kernel
theorem dMO_act_527 : decode prog_10_method_32_code 527 = .ok (.aload_n 0, 1) := by decide +kernel
theorem dMO_act_528 : decode prog_10_method_32_code 528 = .ok (.aload_n 0, 1) := by decide +kernel
theorem dMO_act_529 : decode prog_10_method_32_code 529 = .ok (.getfield 151, 3) := by decide +kernel
theorem dMO_act_532 : decode prog_10_method_32_code 532 = .ok (.iconst 1, 1) := by decide +kernel
theorem dMO_act_533 : decode prog_10_method_32_code 533 = .ok (.isub, 1) := by decide +kernel
theorem dMO_act_534 : decode prog_10_method_32_code 534 = .ok (.iload 4, 2) := by decide +kernel
theorem dMO_act_536 : decode prog_10_method_32_code 536 = .ok (.isub, 1) := by decide +kernel
theorem dMO_act_537 : decode prog_10_method_32_code 537 = .ok (.invokevirtual 85, 3) := by decide +kernel
theorem dMO_act_540 : decode prog_10_method_32_code 540 = .ok (.invokevirtual 164, 3) := by decide +kernel
theorem dMO_act_543 : decode prog_10_method_32_code 543 = .ok (.iconst 0, 1) := by decide +kernel
theorem dMO_act_544 : decode prog_10_method_32_code 544 = .ok (.ireturn, 1) := by decide +kernel
theorem dMO_act_545 : decode prog_10_method_32_code 545 = .ok (.aload_n 0, 1) := by decide +kernel
theorem dMO_act_546 : decode prog_10_method_32_code 546 = .ok (.invokevirtual 167, 3) := by decide +kernel
theorem dMO_act_549 : decode prog_10_method_32_code 549 = .ok (.iconst 0, 1) := by decide +kernel
theorem dMO_act_550 : decode prog_10_method_32_code 550 = .ok (.ireturn, 1) := by decide +kernel
theorem dMO_act_551 : decode prog_10_method_32_code 551 = .ok (.aload_n 0, 1) := by decide +kernel
theorem dMO_act_552 : decode prog_10_method_32_code 552 = .ok (.aload_n 0, 1) := by decide +kernel
theorem dMO_act_553 : decode prog_10_method_32_code 553 = .ok (.invokevirtual 138, 3) := by decide +kernel
theorem dMO_act_556 : decode prog_10_method_32_code 556 = .ok (.invokevirtual 164, 3) := by decide +kernel
theorem dMO_act_559 : decode prog_10_method_32_code 559 = .ok (.iconst 0, 1) := by decide +kernel
theorem dMO_act_560 : decode prog_10_method_32_code 560 = .ok (.ireturn, 1) := by decide +kernel
theorem dMO_act_561 : decode prog_10_method_32_code 561 = .ok (.aload_n 0, 1) := by decide +kernel
theorem dMO_act_562 : decode prog_10_method_32_code 562 = .ok (.aload_n 0, 1) := by decide +kernel
theorem dMO_act_563 : decode prog_10_method_32_code 563 = .ok (.iload 4, 2) := by decide +kernel
theorem dMO_act_565 : decode prog_10_method_32_code 565 = .ok (.bipush 7, 2) := by decide +kernel
theorem dMO_act_567 : decode prog_10_method_32_code 567 = .ok (.iand, 1) := by decide +kernel
theorem dMO_act_568 : decode prog_10_method_32_code 568 = .ok (.invokevirtual 110, 3) := by decide +kernel
theorem dMO_act_571 : decode prog_10_method_32_code 571 = .ok (.invokevirtual 145, 3) := by decide +kernel
theorem dMO_act_574 : decode prog_10_method_32_code 574 = .ok (.goto 20, 3) := by decide +kernel
theorem dMO_act_577 : decode prog_10_method_32_code 577 = .ok (.aload_n 0, 1) := by decide +kernel
theorem dMO_act_578 : decode prog_10_method_32_code 578 = .ok (.aload_n 0, 1) := by decide +kernel
theorem dMO_act_579 : decode prog_10_method_32_code 579 = .ok (.invokevirtual 138, 3) := by decide +kernel
theorem dMO_act_582 : decode prog_10_method_32_code 582 = .ok (.invokevirtual 119, 3) := by decide +kernel
theorem dMO_act_585 : decode prog_10_method_32_code 585 = .ok (.goto 9, 3) := by decide +kernel
theorem dMO_act_588 : decode prog_10_method_32_code 588 = .ok (.aload_n 0, 1) := by decide +kernel
theorem dMO_act_589 : decode prog_10_method_32_code 589 = .ok (.iload_n 2, 1) := by decide +kernel
theorem dMO_act_590 : decode prog_10_method_32_code 590 = .ok (.invokevirtual 170, 3) := by decide +kernel
theorem dMO_act_593 : decode prog_10_method_32_code 593 = .ok (.ireturn, 1) := by decide +kernel
theorem dMO_act_594 : decode prog_10_method_32_code 594 = .ok (.iconst 1, 1) := by decide +kernel
theorem dMO_act_595 : decode prog_10_method_32_code 595 = .ok (.ireturn, 1) := by decide +kernel
theorem dMO_undo_0 : decode prog_10_method_8_code 0 = .ok (.aload_n 0, 1) := by decide +kernel
theorem dMO_undo_1 : decode prog_10_method_8_code 1 = .ok (.getfield 79, 3) := by decide +kernel
theorem dMO_undo_4 : decode prog_10_method_8_code 4 = .ok (.ifCond .le 39, 3) := by decide +kernel
theorem dMO_undo_7 : decode prog_10_method_8_code 7 = .ok (.aload_n 0, 1) := by decide +kernel
theorem dMO_undo_8 : decode prog_10_method_8_code 8 = .ok (.dup, 1) := by decide +kernel
theorem dMO_undo_9 : decode prog_10_method_8_code 9 = .ok (.getfield 79, 3) := by decide +kernel
theorem dMO_undo_12 : decode prog_10_method_8_code 12 = .ok (.iconst 1, 1) := by decide +kernel
theorem dMO_undo_13 : decode prog_10_method_8_code 13 = .ok (.isub, 1) := by decide +kernel
theorem dMO_undo_14 : decode prog_10_method_8_code 14 = .ok (.putfield 79, 3) := by decide +kernel
theorem dMO_undo_17 : decode prog_10_method_8_code 17 = .ok (.aload_n 0, 1) := by decide +kernel
theorem dMO_undo_18 : decode prog_10_method_8_code 18 = .ok (.getfield 16, 3) := by decide +kernel
theorem dMO_undo_21 : decode prog_10_method_8_code 21 = .ok (.aload_n 0, 1) := by decide +kernel
theorem dMO_undo_22 : decode prog_10_method_8_code 22 = .ok (.getfield 51, 3) := by decide +kernel
theorem dMO_undo_25 : decode prog_10_method_8_code 25 = .ok (.aload_n 0, 1) := by decide +kernel
theorem dMO_undo_26 : decode prog_10_method_8_code 26 = .ok (.getfield 79, 3) := by decide +kernel
theorem dMO_undo_29 : decode prog_10_method_8_code 29 = .ok (.iaload, 1) := by decide +kernel
theorem dMO_undo_30 : decode prog_10_method_8_code 30 = .ok (.aload_n 0, 1) := by decide +kernel
theorem dMO_undo_31 : decode prog_10_method_8_code 31 = .ok (.getfield 54, 3) := by decide +kernel
theorem dMO_undo_34 : decode prog_10_method_8_code 34 = .ok (.aload_n 0, 1) := by decide +kernel
theorem dMO_undo_35 : decode prog_10_method_8_code 35 = .ok (.getfield 79, 3) := by decide +kernel
theorem dMO_undo_38 : decode prog_10_method_8_code 38 = .ok (.iaload, 1) := by decide +kernel
theorem dMO_undo_39 : decode prog_10_method_8_code 39 = .ok (.iastore, 1) := by decide +kernel
theorem dMO_undo_40 : decode prog_10_method_8_code 40 = .ok (.goto (-40), 3) := by decide +kernel
theorem dMO_undo_43 : decode prog_10_method_8_code 43 = .ok (.return_, 1) := by decide +kernel
theorem dMO_become_0 : decode prog_10_method_21_code 0 = .ok (.aload_n 0, 1) := by decide +kernel
theorem dMO_become_1 : decode prog_10_method_21_code 1 = .ok (.getfield 23, 3) := by decide +kernel
theorem dMO_become_4 : decode prog_10_method_21_code 4 = .ok (.iload_n 1, 1) := by decide +kernel
theorem dMO_become_5 : decode prog_10_method_21_code 5 = .ok (.iload_n 2, 1) := by decide +kernel
theorem dMO_become_6 : decode prog_10_method_21_code 6 = .ok (.iastore, 1) := by decide +kernel
theorem dMO_become_7 : decode prog_10_method_21_code 7 = .ok (.aload_n 0, 1) := by decide +kernel
theorem dMO_become_8 : decode prog_10_method_21_code 8 = .ok (.getfield 47, 3) := by decide +kernel
theorem dMO_become_11 : decode prog_10_method_21_code 11 = .ok (.iload_n 1, 1) := by decide +kernel
theorem dMO_become_12 : decode prog_10_method_21_code 12 = .ok (.aload_n 0, 1) := by decide +kernel
theorem dMO_become_13 : decode prog_10_method_21_code 13 = .ok (.getfield 122, 3) := by decide +kernel
theorem dMO_become_16 : decode prog_10_method_21_code 16 = .ok (.lastore, 1) := by decide +kernel
theorem dMO_become_17 : decode prog_10_method_21_code 17 = .ok (.aload_n 0, 1) := by decide +kernel
theorem dMO_become_18 : decode prog_10_method_21_code 18 = .ok (.dup, 1) := by decide +kernel
theorem dMO_become_19 : decode prog_10_method_21_code 19 = .ok (.getfield 122, 3) := by decide +kernel
theorem dMO_become_22 : decode prog_10_method_21_code 22 = .ok (.lconst 1, 1) := by decide +kernel
theorem dMO_become_23 : decode prog_10_method_21_code 23 = .ok (.ladd, 1) := by decide +kernel
theorem dMO_become_24 : decode prog_10_method_21_code 24 = .ok (.putfield 122, 3) := by decide +kernel
theorem dMO_become_27 : decode prog_10_method_21_code 27 = .ok (.return_, 1) := by decide +kernel
theorem dMO_ready_0 : decode prog_10_method_24_code 0 = .ok (.aload_n 0, 1) := by decide +kernel
theorem dMO_ready_1 : decode prog_10_method_24_code 1 = .ok (.iload_n 1, 1) := by decide +kernel
theorem dMO_ready_2 : decode prog_10_method_24_code 2 = .ok (.iconst 1, 1) := by decide +kernel
theorem dMO_ready_3 : decode prog_10_method_24_code 3 = .ok (.invokevirtual 132, 3) := by decide +kernel
theorem dMO_ready_6 : decode prog_10_method_24_code 6 = .ok (.aload_n 0, 1) := by decide +kernel
theorem dMO_ready_7 : decode prog_10_method_24_code 7 = .ok (.getfield 41, 3) := by decide +kernel
theorem dMO_ready_10 : decode prog_10_method_24_code 10 = .ok (.iload_n 1, 1) := by decide +kernel
theorem dMO_ready_11 : decode prog_10_method_24_code 11 = .ok (.iconst 0, 1) := by decide +kernel
theorem dMO_ready_12 : decode prog_10_method_24_code 12 = .ok (.iastore, 1) := by decide +kernel
theorem dMO_ready_13 : decode prog_10_method_24_code 13 = .ok (.aload_n 0, 1) := by decide +kernel
theorem dMO_ready_14 : decode prog_10_method_24_code 14 = .ok (.getfield 44, 3) := by decide +kernel
theorem dMO_ready_17 : decode prog_10_method_24_code 17 = .ok (.iload_n 1, 1) := by decide +kernel
theorem dMO_ready_18 : decode prog_10_method_24_code 18 = .ok (.iconst 0, 1) := by decide +kernel
theorem dMO_ready_19 : decode prog_10_method_24_code 19 = .ok (.iastore, 1) := by decide +kernel
theorem dMO_ready_20 : decode prog_10_method_24_code 20 = .ok (.return_, 1) := by decide +kernel
theorem dMO_wakeAll_0 : decode prog_10_method_25_code 0 = .ok (.iconst 0, 1) := by decide +kernel
theorem dMO_wakeAll_1 : decode prog_10_method_25_code 1 = .ok (.istore_n 1, 1) := by decide +kernel
theorem dMO_wakeAll_2 : decode prog_10_method_25_code 2 = .ok (.iload_n 1, 1) := by decide +kernel
theorem dMO_wakeAll_3 : decode prog_10_method_25_code 3 = .ok (.aload_n 0, 1) := by decide +kernel
theorem dMO_wakeAll_4 : decode prog_10_method_25_code 4 = .ok (.getfield 126, 3) := by decide +kernel
theorem dMO_wakeAll_7 : decode prog_10_method_25_code 7 = .ok (.if_icmp .ge 19, 3) := by decide +kernel
theorem dMO_wakeAll_10 : decode prog_10_method_25_code 10 = .ok (.aload_n 0, 1) := by decide +kernel
theorem dMO_wakeAll_11 : decode prog_10_method_25_code 11 = .ok (.aload_n 0, 1) := by decide +kernel
theorem dMO_wakeAll_12 : decode prog_10_method_25_code 12 = .ok (.getfield 60, 3) := by decide +kernel
theorem dMO_wakeAll_15 : decode prog_10_method_25_code 15 = .ok (.iload_n 1, 1) := by decide +kernel
theorem dMO_wakeAll_16 : decode prog_10_method_25_code 16 = .ok (.iaload, 1) := by decide +kernel
theorem dMO_wakeAll_17 : decode prog_10_method_25_code 17 = .ok (.invokevirtual 135, 3) := by decide +kernel
theorem dMO_wakeAll_20 : decode prog_10_method_25_code 20 = .ok (.iinc 1 1, 3) := by decide +kernel
theorem dMO_wakeAll_23 : decode prog_10_method_25_code 23 = .ok (.goto (-21), 3) := by decide +kernel
theorem dMO_wakeAll_26 : decode prog_10_method_25_code 26 = .ok (.aload_n 0, 1) := by decide +kernel
theorem dMO_wakeAll_27 : decode prog_10_method_25_code 27 = .ok (.iconst 0, 1) := by decide +kernel
theorem dMO_wakeAll_28 : decode prog_10_method_25_code 28 = .ok (.putfield 126, 3) := by decide +kernel
theorem dMO_wakeAll_31 : decode prog_10_method_25_code 31 = .ok (.return_, 1) := by decide +kernel
theorem dMO_begin_0 : decode prog_10_method_27_code 0 = .ok (.aload_n 0, 1) := by decide +kernel
theorem dMO_begin_1 : decode prog_10_method_27_code 1 = .ok (.iload_n 1, 1) := by decide +kernel
theorem dMO_begin_2 : decode prog_10_method_27_code 2 = .ok (.invokevirtual 135, 3) := by decide +kernel
theorem dMO_begin_5 : decode prog_10_method_27_code 5 = .ok (.aload_n 0, 1) := by decide +kernel
theorem dMO_begin_6 : decode prog_10_method_27_code 6 = .ok (.getfield 29, 3) := by decide +kernel
theorem dMO_begin_9 : decode prog_10_method_27_code 9 = .ok (.iload_n 1, 1) := by decide +kernel
theorem dMO_begin_10 : decode prog_10_method_27_code 10 = .ok (.iload_n 2, 1) := by decide +kernel
theorem dMO_begin_11 : decode prog_10_method_27_code 11 = .ok (.iastore, 1) := by decide +kernel
theorem dMO_begin_12 : decode prog_10_method_27_code 12 = .ok (.aload_n 0, 1) := by decide +kernel
theorem dMO_begin_13 : decode prog_10_method_27_code 13 = .ok (.getfield 26, 3) := by decide +kernel
theorem dMO_begin_16 : decode prog_10_method_27_code 16 = .ok (.iload_n 1, 1) := by decide +kernel
theorem dMO_begin_17 : decode prog_10_method_27_code 17 = .ok (.iload_n 3, 1) := by decide +kernel
theorem dMO_begin_18 : decode prog_10_method_27_code 18 = .ok (.bipush 7, 2) := by decide +kernel
theorem dMO_begin_20 : decode prog_10_method_27_code 20 = .ok (.iand, 1) := by decide +kernel
theorem dMO_begin_21 : decode prog_10_method_27_code 21 = .ok (.iastore, 1) := by decide +kernel
theorem dMO_begin_22 : decode prog_10_method_27_code 22 = .ok (.aload_n 0, 1) := by decide +kernel
theorem dMO_begin_23 : decode prog_10_method_27_code 23 = .ok (.getfield 32, 3) := by decide +kernel
theorem dMO_begin_26 : decode prog_10_method_27_code 26 = .ok (.iload_n 1, 1) := by decide +kernel
theorem dMO_begin_27 : decode prog_10_method_27_code 27 = .ok (.iconst 0, 1) := by decide +kernel
theorem dMO_begin_28 : decode prog_10_method_27_code 28 = .ok (.iastore, 1) := by decide +kernel
theorem dMO_begin_29 : decode prog_10_method_27_code 29 = .ok (.return_, 1) := by decide +kernel
theorem dMO_instruction_0 : decode prog_10_method_37_code 0 = .ok (.aload_n 0, 1) := by decide +kernel
theorem dMO_instruction_1 : decode prog_10_method_37_code 1 = .ok (.iconst 0, 1) := by decide +kernel
theorem dMO_instruction_2 : decode prog_10_method_37_code 2 = .ok (.putfield 68, 3) := by decide +kernel
theorem dMO_instruction_5 : decode prog_10_method_37_code 5 = .ok (.aload_n 0, 1) := by decide +kernel
theorem dMO_instruction_6 : decode prog_10_method_37_code 6 = .ok (.iconst 0, 1) := by decide +kernel
theorem dMO_instruction_7 : decode prog_10_method_37_code 7 = .ok (.putfield 79, 3) := by decide +kernel
theorem dMO_instruction_10 : decode prog_10_method_37_code 10 = .ok (.aload_n 0, 1) := by decide +kernel
theorem dMO_instruction_11 : decode prog_10_method_37_code 11 = .ok (.iconst 0, 1) := by decide +kernel
theorem dMO_instruction_12 : decode prog_10_method_37_code 12 = .ok (.putfield 126, 3) := by decide +kernel
theorem dMO_instruction_15 : decode prog_10_method_37_code 15 = .ok (.aload_n 0, 1) := by decide +kernel
theorem dMO_instruction_16 : decode prog_10_method_37_code 16 = .ok (.iconst 0, 1) := by decide +kernel
theorem dMO_instruction_17 : decode prog_10_method_37_code 17 = .ok (.putfield 187, 3) := by decide +kernel
theorem dMO_instruction_20 : decode prog_10_method_37_code 20 = .ok (.aload_n 0, 1) := by decide +kernel
theorem dMO_instruction_21 : decode prog_10_method_37_code 21 = .ok (.iconst (-1), 1) := by decide +kernel
theorem dMO_instruction_22 : decode prog_10_method_37_code 22 = .ok (.putfield 200, 3) := by decide +kernel
theorem dMO_instruction_25 : decode prog_10_method_37_code 25 = .ok (.aload_n 0, 1) := by decide +kernel
theorem dMO_instruction_26 : decode prog_10_method_37_code 26 = .ok (.getfield 29, 3) := by decide +kernel
theorem dMO_instruction_29 : decode prog_10_method_37_code 29 = .ok (.aload_n 0, 1) := by decide +kernel
theorem dMO_instruction_30 : decode prog_10_method_37_code 30 = .ok (.getfield 113, 3) := by decide +kernel
theorem dMO_instruction_33 : decode prog_10_method_37_code 33 = .ok (.iaload, 1) := by decide +kernel
theorem dMO_instruction_34 : decode prog_10_method_37_code 34 = .ok (.istore_n 1, 1) := by decide +kernel
theorem dMO_instruction_35 : decode prog_10_method_37_code 35 = .ok (.aload_n 0, 1) := by decide +kernel
theorem dMO_instruction_36 : decode prog_10_method_37_code 36 = .ok (.aload_n 0, 1) := by decide +kernel
theorem dMO_instruction_37 : decode prog_10_method_37_code 37 = .ok (.getfield 32, 3) := by decide +kernel
theorem dMO_instruction_40 : decode prog_10_method_37_code 40 = .ok (.aload_n 0, 1) := by decide +kernel
theorem dMO_instruction_41 : decode prog_10_method_37_code 41 = .ok (.getfield 113, 3) := by decide +kernel
theorem dMO_instruction_44 : decode prog_10_method_37_code 44 = .ok (.iaload, 1) := by decide +kernel
theorem dMO_instruction_45 : decode prog_10_method_37_code 45 = .ok (.putfield 98, 3) := by decide +kernel
theorem dMO_instruction_48 : decode prog_10_method_37_code 48 = .ok (.iconst 0, 1) := by decide +kernel
theorem dMO_instruction_49 : decode prog_10_method_37_code 49 = .ok (.istore_n 2, 1) := by decide +kernel
theorem dMO_instruction_50 : decode prog_10_method_37_code 50 = .ok (.iload_n 2, 1) := by decide +kernel
theorem dMO_instruction_51 : decode prog_10_method_37_code 51 = .ok (.bipush 8, 2) := by decide +kernel
theorem dMO_instruction_53 : decode prog_10_method_37_code 53 = .ok (.if_icmp .ge 29, 3) := by decide +kernel
theorem dMO_instruction_56 : decode prog_10_method_37_code 56 = .ok (.aload_n 0, 1) := by decide +kernel
theorem dMO_instruction_57 : decode prog_10_method_37_code 57 = .ok (.getfield 57, 3) := by decide +kernel
theorem dMO_instruction_60 : decode prog_10_method_37_code 60 = .ok (.iload_n 2, 1) := by decide +kernel
theorem dMO_instruction_61 : decode prog_10_method_37_code 61 = .ok (.aload_n 0, 1) := by decide +kernel
theorem dMO_instruction_62 : decode prog_10_method_37_code 62 = .ok (.getfield 35, 3) := by decide +kernel
theorem dMO_instruction_65 : decode prog_10_method_37_code 65 = .ok (.bipush 8, 2) := by decide +kernel
theorem dMO_instruction_67 : decode prog_10_method_37_code 67 = .ok (.aload_n 0, 1) := by decide +kernel
theorem dMO_instruction_68 : decode prog_10_method_37_code 68 = .ok (.getfield 113, 3) := by decide +kernel
theorem dMO_instruction_71 : decode prog_10_method_37_code 71 = .ok (.imul, 1) := by decide +kernel
theorem dMO_instruction_72 : decode prog_10_method_37_code 72 = .ok (.iload_n 2, 1) := by decide +kernel
theorem dMO_instruction_73 : decode prog_10_method_37_code 73 = .ok (.iadd, 1) := by decide +kernel
theorem dMO_instruction_74 : decode prog_10_method_37_code 74 = .ok (.iaload, 1) := by decide +kernel
theorem dMO_instruction_75 : decode prog_10_method_37_code 75 = .ok (.iastore, 1) := by decide +kernel
theorem dMO_instruction_76 : decode prog_10_method_37_code 76 = .ok (.iinc 2 1, 3) := by decide +kernel
theorem dMO_instruction_79 : decode prog_10_method_37_code 79 = .ok (.goto (-29), 3) := by decide +kernel
theorem dMO_instruction_82 : decode prog_10_method_37_code 82 = .ok (.aload_n 0, 1) := by decide +kernel
theorem dMO_instruction_83 : decode prog_10_method_37_code 83 = .ok (.aload_n 0, 1) := by decide +kernel
theorem dMO_instruction_84 : decode prog_10_method_37_code 84 = .ok (.iload_n 1, 1) := by decide +kernel
theorem dMO_instruction_85 : decode prog_10_method_37_code 85 = .ok (.iconst 1, 1) := by decide +kernel
theorem dMO_instruction_86 : decode prog_10_method_37_code 86 = .ok (.iadd, 1) := by decide +kernel
theorem dMO_instruction_87 : decode prog_10_method_37_code 87 = .ok (.invokevirtual 85, 3) := by decide +kernel
theorem dMO_instruction_90 : decode prog_10_method_37_code 90 = .ok (.bipush 15, 2) := by decide +kernel
theorem dMO_instruction_92 : decode prog_10_method_37_code 92 = .ok (.iand, 1) := by decide +kernel
theorem dMO_instruction_93 : decode prog_10_method_37_code 93 = .ok (.putfield 161, 3) := by decide +kernel
theorem dMO_instruction_96 : decode prog_10_method_37_code 96 = .ok (.aload_n 0, 1) := by decide +kernel
theorem dMO_instruction_97 : decode prog_10_method_37_code 97 = .ok (.aload_n 0, 1) := by decide +kernel
theorem dMO_instruction_98 : decode prog_10_method_37_code 98 = .ok (.bipush 32, 2) := by decide +kernel
theorem dMO_instruction_100 : decode prog_10_method_37_code 100 = .ok (.aload_n 0, 1) := by decide +kernel
theorem dMO_instruction_101 : decode prog_10_method_37_code 101 = .ok (.getfield 161, 3) := by decide +kernel
theorem dMO_instruction_104 : decode prog_10_method_37_code 104 = .ok (.iadd, 1) := by decide +kernel
theorem dMO_instruction_105 : decode prog_10_method_37_code 105 = .ok (.invokevirtual 85, 3) := by decide +kernel
theorem dMO_instruction_108 : decode prog_10_method_37_code 108 = .ok (.putfield 151, 3) := by decide +kernel
theorem dMO_instruction_111 : decode prog_10_method_37_code 111 = .ok (.aload_n 0, 1) := by decide +kernel
theorem dMO_instruction_112 : decode prog_10_method_37_code 112 = .ok (.aload_n 0, 1) := by decide +kernel
theorem dMO_instruction_113 : decode prog_10_method_37_code 113 = .ok (.aload_n 0, 1) := by decide +kernel
theorem dMO_instruction_114 : decode prog_10_method_37_code 114 = .ok (.getfield 151, 3) := by decide +kernel
theorem dMO_instruction_117 : decode prog_10_method_37_code 117 = .ok (.invokevirtual 85, 3) := by decide +kernel
theorem dMO_instruction_120 : decode prog_10_method_37_code 120 = .ok (.putfield 88, 3) := by decide +kernel
theorem dMO_instruction_123 : decode prog_10_method_37_code 123 = .ok (.aload_n 0, 1) := by decide +kernel
theorem dMO_instruction_124 : decode prog_10_method_37_code 124 = .ok (.aload_n 0, 1) := by decide +kernel
theorem dMO_instruction_125 : decode prog_10_method_37_code 125 = .ok (.iload_n 1, 1) := by decide +kernel
theorem dMO_instruction_126 : decode prog_10_method_37_code 126 = .ok (.iconst 2, 1) := by decide +kernel
theorem dMO_instruction_127 : decode prog_10_method_37_code 127 = .ok (.iadd, 1) := by decide +kernel
theorem dMO_instruction_128 : decode prog_10_method_37_code 128 = .ok (.invokevirtual 85, 3) := by decide +kernel
theorem dMO_instruction_131 : decode prog_10_method_37_code 131 = .ok (.putfield 91, 3) := by decide +kernel
theorem dMO_instruction_134 : decode prog_10_method_37_code 134 = .ok (.aload_n 0, 1) := by decide +kernel
theorem dMO_instruction_135 : decode prog_10_method_37_code 135 = .ok (.getfield 91, 3) := by decide +kernel
theorem dMO_instruction_138 : decode prog_10_method_37_code 138 = .ok (.istore_n 2, 1) := by decide +kernel
theorem dMO_instruction_139 : decode prog_10_method_37_code 139 = .ok (.aload_n 0, 1) := by decide +kernel
theorem dMO_instruction_140 : decode prog_10_method_37_code 140 = .ok (.invokevirtual 148, 3) := by decide +kernel
theorem dMO_instruction_143 : decode prog_10_method_37_code 143 = .ok (.istore_n 3, 1) := by decide +kernel
theorem dMO_instruction_144 : decode prog_10_method_37_code 144 = .ok (.aload_n 0, 1) := by decide +kernel
theorem dMO_instruction_145 : decode prog_10_method_37_code 145 = .ok (.getfield 68, 3) := by decide +kernel
theorem dMO_instruction_148 : decode prog_10_method_37_code 148 = .ok (.ifCond .ne 16, 3) := by decide +kernel
theorem dMO_instruction_151 : decode prog_10_method_37_code 151 = .ok (.aload_n 0, 1) := by decide +kernel
theorem dMO_instruction_152 : decode prog_10_method_37_code 152 = .ok (.iload_n 2, 1) := by decide +kernel
theorem dMO_instruction_153 : decode prog_10_method_37_code 153 = .ok (.iload_n 3, 1) := by decide +kernel
theorem dMO_instruction_154 : decode prog_10_method_37_code 154 = .ok (.invokevirtual 209, 3) := by decide +kernel
theorem dMO_instruction_157 : decode prog_10_method_37_code 157 = .ok (.ifCond .eq 7, 3) := by decide +kernel
theorem dMO_instruction_160 : decode prog_10_method_37_code 160 = .ok (.iconst 1, 1) := by decide +kernel
theorem dMO_instruction_161 : decode prog_10_method_37_code 161 = .ok (.goto 4, 3) := by decide +kernel
theorem dMO_instruction_164 : decode prog_10_method_37_code 164 = .ok (.iconst 0, 1) := by decide +kernel
theorem dMO_instruction_165 : decode prog_10_method_37_code 165 = .ok (.istore 4, 2) := by decide +kernel
theorem dMO_instruction_167 : decode prog_10_method_37_code 167 = .ok (.aload_n 0, 1) := by decide +kernel
theorem dMO_instruction_168 : decode prog_10_method_37_code 168 = .ok (.getfield 68, 3) := by decide +kernel
theorem dMO_instruction_171 : decode prog_10_method_37_code 171 = .ok (.ifCond .ne 18, 3) := by decide +kernel
theorem dMO_instruction_174 : decode prog_10_method_37_code 174 = .ok (.aload_n 0, 1) := by decide +kernel
theorem dMO_instruction_175 : decode prog_10_method_37_code 175 = .ok (.getfield 98, 3) := by decide +kernel
theorem dMO_instruction_178 : decode prog_10_method_37_code 178 = .ok (.bipush 8, 2) := by decide +kernel
theorem dMO_instruction_180 : decode prog_10_method_37_code 180 = .ok (.if_icmp .le 9, 3) := by decide +kernel
theorem dMO_instruction_183 : decode prog_10_method_37_code 183 = .ok (.aload_n 0, 1) := by decide +kernel
theorem dMO_instruction_184 : decode prog_10_method_37_code 184 = .ok (.bipush 6, 2) := by decide +kernel
theorem dMO_instruction_186 : decode prog_10_method_37_code 186 = .ok (.invokevirtual 75, 3) := by decide +kernel
theorem dMO_instruction_189 : decode prog_10_method_37_code 189 = .ok (.aload_n 0, 1) := by decide +kernel
theorem dMO_instruction_190 : decode prog_10_method_37_code 190 = .ok (.getfield 68, 3) := by decide +kernel
theorem dMO_instruction_193 : decode prog_10_method_37_code 193 = .ok (.ifCond .ne 19, 3) := by decide +kernel
theorem dMO_instruction_196 : decode prog_10_method_37_code 196 = .ok (.iload 4, 2) := by decide +kernel
theorem dMO_instruction_198 : decode prog_10_method_37_code 198 = .ok (.ifCond .eq 14, 3) := by decide +kernel
theorem dMO_instruction_201 : decode prog_10_method_37_code 201 = .ok (.aload_n 0, 1) := by decide +kernel
theorem dMO_instruction_202 : decode prog_10_method_37_code 202 = .ok (.iload_n 1, 1) := by decide +kernel
theorem dMO_instruction_203 : decode prog_10_method_37_code 203 = .ok (.iconst 2, 1) := by decide +kernel
theorem dMO_instruction_204 : decode prog_10_method_37_code 204 = .ok (.iadd, 1) := by decide +kernel
theorem dMO_instruction_205 : decode prog_10_method_37_code 205 = .ok (.aload_n 0, 1) := by decide +kernel
theorem dMO_instruction_206 : decode prog_10_method_37_code 206 = .ok (.getfield 91, 3) := by decide +kernel
theorem dMO_instruction_209 : decode prog_10_method_37_code 209 = .ok (.invokevirtual 103, 3) := by decide +kernel
theorem dMO_instruction_212 : decode prog_10_method_37_code 212 = .ok (.aload_n 0, 1) := by decide +kernel
theorem dMO_instruction_213 : decode prog_10_method_37_code 213 = .ok (.getfield 68, 3) := by decide +kernel
theorem dMO_instruction_216 : decode prog_10_method_37_code 216 = .ok (.ifCond .le 51, 3) := by decide +kernel
theorem dMO_instruction_219 : decode prog_10_method_37_code 219 = .ok (.aload_n 0, 1) := by decide +kernel
theorem dMO_instruction_220 : decode prog_10_method_37_code 220 = .ok (.invokevirtual 212, 3) := by decide +kernel
theorem dMO_instruction_223 : decode prog_10_method_37_code 223 = .ok (.aload_n 0, 1) := by decide +kernel
theorem dMO_instruction_224 : decode prog_10_method_37_code 224 = .ok (.getfield 23, 3) := by decide +kernel
theorem dMO_instruction_227 : decode prog_10_method_37_code 227 = .ok (.aload_n 0, 1) := by decide +kernel
theorem dMO_instruction_228 : decode prog_10_method_37_code 228 = .ok (.getfield 113, 3) := by decide +kernel
theorem dMO_instruction_231 : decode prog_10_method_37_code 231 = .ok (.iconst 4, 1) := by decide +kernel
theorem dMO_instruction_232 : decode prog_10_method_37_code 232 = .ok (.iastore, 1) := by decide +kernel
theorem dMO_instruction_233 : decode prog_10_method_37_code 233 = .ok (.aload_n 0, 1) := by decide +kernel
theorem dMO_instruction_234 : decode prog_10_method_37_code 234 = .ok (.getfield 29, 3) := by decide +kernel
