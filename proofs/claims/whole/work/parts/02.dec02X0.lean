theorem dX0_ofOne_236 : decode cX0_ofOne 236 = .ok (.goto 10, 3) := by decide +kernel
theorem dX0_ofOne_239 : decode cX0_ofOne 239 = .ok (.aload_n 0, 1) := by decide +kernel
theorem dX0_ofOne_240 : decode cX0_ofOne 240 = .ok (.iload_n 2, 1) := by decide +kernel
theorem dX0_ofOne_241 : decode cX0_ofOne 241 = .ok (.iconst 0, 1) := by decide +kernel
theorem dX0_ofOne_242 : decode cX0_ofOne 242 = .ok (.iconst 0, 1) := by decide +kernel
theorem dX0_ofOne_243 : decode cX0_ofOne 243 = .ok (.invokevirtual 44, 3) := by decide +kernel
theorem dX0_ofOne_246 : decode cX0_ofOne 246 = .ok (.ireturn, 1) := by decide +kernel
theorem dX0_ofOne_247 : decode cX0_ofOne 247 = .ok (.aload_n 0, 1) := by decide +kernel
theorem dX0_ofOne_248 : decode cX0_ofOne 248 = .ok (.iload_n 2, 1) := by decide +kernel
theorem dX0_ofOne_249 : decode cX0_ofOne 249 = .ok (.iconst 0, 1) := by decide +kernel
theorem dX0_ofOne_250 : decode cX0_ofOne 250 = .ok (.iconst 0, 1) := by decide +kernel
theorem dX0_ofOne_251 : decode cX0_ofOne 251 = .ok (.invokevirtual 44, 3) := by decide +kernel
theorem dX0_ofOne_254 : decode cX0_ofOne 254 = .ok (.ireturn, 1) := by decide +kernel
theorem dX0_ofOne_255 : decode cX0_ofOne 255 = .ok (.aload_n 0, 1) := by decide +kernel
theorem dX0_ofOne_256 : decode cX0_ofOne 256 = .ok (.iload_n 2, 1) := by decide +kernel
theorem dX0_ofOne_257 : decode cX0_ofOne 257 = .ok (.invokevirtual 48, 3) := by decide +kernel
theorem dX0_ofOne_260 : decode cX0_ofOne 260 = .ok (.ireturn, 1) := by decide +kernel
theorem dX0_swapped_0 : decode cX0_swapped 0 = .ok (.iload_n 1, 1) := by decide +kernel
theorem dX0_swapped_1 : decode cX0_swapped 1 = .ok (.bipush 8, 2) := by decide +kernel
theorem dX0_swapped_3 : decode cX0_swapped 3 = .ok (.ishl, 1) := by decide +kernel
theorem dX0_swapped_4 : decode cX0_swapped 4 = .ok (.iload_n 1, 1) := by decide +kernel
theorem dX0_swapped_5 : decode cX0_swapped 5 = .ok (.bipush 8, 2) := by decide +kernel
theorem dX0_swapped_7 : decode cX0_swapped 7 = .ok (.ishr, 1) := by decide +kernel
theorem dX0_swapped_8 : decode cX0_swapped 8 = .ok (.ior, 1) := by decide +kernel
theorem dX0_swapped_9 : decode cX0_swapped 9 = .ok (.ldc 24, 2) := by decide +kernel
theorem dX0_swapped_11 : decode cX0_swapped 11 = .ok (.iand, 1) := by decide +kernel
theorem dX0_swapped_12 : decode cX0_swapped 12 = .ok (.istore_n 2, 1) := by decide +kernel
theorem dX0_swapped_13 : decode cX0_swapped 13 = .ok (.aload_n 0, 1) := by decide +kernel
theorem dX0_swapped_14 : decode cX0_swapped 14 = .ok (.iload_n 2, 1) := by decide +kernel
theorem dX0_swapped_15 : decode cX0_swapped 15 = .ok (.sipush 128, 3) := by decide +kernel
theorem dX0_swapped_18 : decode cX0_swapped 18 = .ok (.iand, 1) := by decide +kernel
theorem dX0_swapped_19 : decode cX0_swapped 19 = .ok (.ifCond .eq 7, 3) := by decide +kernel
theorem dX0_swapped_22 : decode cX0_swapped 22 = .ok (.iconst 1, 1) := by decide +kernel
theorem dX0_swapped_23 : decode cX0_swapped 23 = .ok (.goto 4, 3) := by decide +kernel
theorem dX0_swapped_26 : decode cX0_swapped 26 = .ok (.iconst 0, 1) := by decide +kernel
theorem dX0_swapped_27 : decode cX0_swapped 27 = .ok (.putfield 9, 3) := by decide +kernel
theorem dX0_swapped_30 : decode cX0_swapped 30 = .ok (.aload_n 0, 1) := by decide +kernel
theorem dX0_swapped_31 : decode cX0_swapped 31 = .ok (.iload_n 2, 1) := by decide +kernel
theorem dX0_swapped_32 : decode cX0_swapped 32 = .ok (.sipush 255, 3) := by decide +kernel
theorem dX0_swapped_35 : decode cX0_swapped 35 = .ok (.iand, 1) := by decide +kernel
theorem dX0_swapped_36 : decode cX0_swapped 36 = .ok (.ifCond .ne 7, 3) := by decide +kernel
theorem dX0_swapped_39 : decode cX0_swapped 39 = .ok (.iconst 1, 1) := by decide +kernel
theorem dX0_swapped_40 : decode cX0_swapped 40 = .ok (.goto 4, 3) := by decide +kernel
theorem dX0_swapped_43 : decode cX0_swapped 43 = .ok (.iconst 0, 1) := by decide +kernel
theorem dX0_swapped_44 : decode cX0_swapped 44 = .ok (.putfield 15, 3) := by decide +kernel
theorem dX0_swapped_47 : decode cX0_swapped 47 = .ok (.aload_n 0, 1) := by decide +kernel
theorem dX0_swapped_48 : decode cX0_swapped 48 = .ok (.iconst 0, 1) := by decide +kernel
theorem dX0_swapped_49 : decode cX0_swapped 49 = .ok (.putfield 18, 3) := by decide +kernel
theorem dX0_swapped_52 : decode cX0_swapped 52 = .ok (.aload_n 0, 1) := by decide +kernel
theorem dX0_swapped_53 : decode cX0_swapped 53 = .ok (.iconst 0, 1) := by decide +kernel
theorem dX0_swapped_54 : decode cX0_swapped 54 = .ok (.putfield 21, 3) := by decide +kernel
theorem dX0_swapped_57 : decode cX0_swapped 57 = .ok (.iload_n 2, 1) := by decide +kernel
theorem dX0_swapped_58 : decode cX0_swapped 58 = .ok (.ireturn, 1) := by decide +kernel
theorem dX0_allows_0 : decode cX0_allows 0 = .ok (.iload_n 1, 1) := by decide +kernel
theorem dX0_allows_1 : decode cX0_allows 1 = .ok (.lookupswitch 314 #[(1, 123), (2, 125), (3, 138), (4, 143), (5, 160), (6, 177), (7, 201), (128, 225), (129, 238), (130, 243), (131, 263), (132, 283), (133, 296), (134, 301)], 123) := by decide +kernel
theorem dX0_allows_124 : decode cX0_allows 124 = .ok (.iconst 1, 1) := by decide +kernel
theorem dX0_allows_125 : decode cX0_allows 125 = .ok (.ireturn, 1) := by decide +kernel
theorem dX0_allows_126 : decode cX0_allows 126 = .ok (.aload_n 0, 1) := by decide +kernel
theorem dX0_allows_127 : decode cX0_allows 127 = .ok (.getfield 15, 3) := by decide +kernel
theorem dX0_allows_130 : decode cX0_allows 130 = .ok (.ifCond .ne 7, 3) := by decide +kernel
theorem dX0_allows_133 : decode cX0_allows 133 = .ok (.iconst 1, 1) := by decide +kernel
theorem dX0_allows_134 : decode cX0_allows 134 = .ok (.goto 4, 3) := by decide +kernel
theorem dX0_allows_137 : decode cX0_allows 137 = .ok (.iconst 0, 1) := by decide +kernel
theorem dX0_allows_138 : decode cX0_allows 138 = .ok (.ireturn, 1) := by decide +kernel
theorem dX0_allows_139 : decode cX0_allows 139 = .ok (.aload_n 0, 1) := by decide +kernel
theorem dX0_allows_140 : decode cX0_allows 140 = .ok (.getfield 15, 3) := by decide +kernel
theorem dX0_allows_143 : decode cX0_allows 143 = .ok (.ireturn, 1) := by decide +kernel
theorem dX0_allows_144 : decode cX0_allows 144 = .ok (.aload_n 0, 1) := by decide +kernel
theorem dX0_allows_145 : decode cX0_allows 145 = .ok (.getfield 9, 3) := by decide +kernel
theorem dX0_allows_148 : decode cX0_allows 148 = .ok (.aload_n 0, 1) := by decide +kernel
theorem dX0_allows_149 : decode cX0_allows 149 = .ok (.getfield 18, 3) := by decide +kernel
theorem dX0_allows_152 : decode cX0_allows 152 = .ok (.if_icmp .ne 7, 3) := by decide +kernel
theorem dX0_allows_155 : decode cX0_allows 155 = .ok (.iconst 1, 1) := by decide +kernel
theorem dX0_allows_156 : decode cX0_allows 156 = .ok (.goto 4, 3) := by decide +kernel
theorem dX0_allows_159 : decode cX0_allows 159 = .ok (.iconst 0, 1) := by decide +kernel
theorem dX0_allows_160 : decode cX0_allows 160 = .ok (.ireturn, 1) := by decide +kernel
theorem dX0_allows_161 : decode cX0_allows 161 = .ok (.aload_n 0, 1) := by decide +kernel
theorem dX0_allows_162 : decode cX0_allows 162 = .ok (.getfield 9, 3) := by decide +kernel
theorem dX0_allows_165 : decode cX0_allows 165 = .ok (.aload_n 0, 1) := by decide +kernel
theorem dX0_allows_166 : decode cX0_allows 166 = .ok (.getfield 18, 3) := by decide +kernel
theorem dX0_allows_169 : decode cX0_allows 169 = .ok (.if_icmp .eq 7, 3) := by decide +kernel
theorem dX0_allows_172 : decode cX0_allows 172 = .ok (.iconst 1, 1) := by decide +kernel
theorem dX0_allows_173 : decode cX0_allows 173 = .ok (.goto 4, 3) := by decide +kernel
theorem dX0_allows_176 : decode cX0_allows 176 = .ok (.iconst 0, 1) := by decide +kernel
theorem dX0_allows_177 : decode cX0_allows 177 = .ok (.ireturn, 1) := by decide +kernel
theorem dX0_allows_178 : decode cX0_allows 178 = .ok (.aload_n 0, 1) := by decide +kernel
theorem dX0_allows_179 : decode cX0_allows 179 = .ok (.getfield 15, 3) := by decide +kernel
theorem dX0_allows_182 : decode cX0_allows 182 = .ok (.ifCond .ne 18, 3) := by decide +kernel
theorem dX0_allows_185 : decode cX0_allows 185 = .ok (.aload_n 0, 1) := by decide +kernel
theorem dX0_allows_186 : decode cX0_allows 186 = .ok (.getfield 9, 3) := by decide +kernel
theorem dX0_allows_189 : decode cX0_allows 189 = .ok (.aload_n 0, 1) := by decide +kernel
theorem dX0_allows_190 : decode cX0_allows 190 = .ok (.getfield 18, 3) := by decide +kernel
theorem dX0_allows_193 : decode cX0_allows 193 = .ok (.if_icmp .ne 7, 3) := by decide +kernel
theorem dX0_allows_196 : decode cX0_allows 196 = .ok (.iconst 1, 1) := by decide +kernel
theorem dX0_allows_197 : decode cX0_allows 197 = .ok (.goto 4, 3) := by decide +kernel
theorem dX0_allows_200 : decode cX0_allows 200 = .ok (.iconst 0, 1) := by decide +kernel
theorem dX0_allows_201 : decode cX0_allows 201 = .ok (.ireturn, 1) := by decide +kernel
theorem dX0_allows_202 : decode cX0_allows 202 = .ok (.aload_n 0, 1) := by decide +kernel
theorem dX0_allows_203 : decode cX0_allows 203 = .ok (.getfield 15, 3) := by decide +kernel
theorem dX0_allows_206 : decode cX0_allows 206 = .ok (.ifCond .ne 14, 3) := by decide +kernel
theorem dX0_allows_209 : decode cX0_allows 209 = .ok (.aload_n 0, 1) := by decide +kernel
theorem dX0_allows_210 : decode cX0_allows 210 = .ok (.getfield 9, 3) := by decide +kernel
theorem dX0_allows_213 : decode cX0_allows 213 = .ok (.aload_n 0, 1) := by decide +kernel
theorem dX0_allows_214 : decode cX0_allows 214 = .ok (.getfield 18, 3) := by decide +kernel
theorem dX0_allows_217 : decode cX0_allows 217 = .ok (.if_icmp .eq 7, 3) := by decide +kernel
theorem dX0_allows_220 : decode cX0_allows 220 = .ok (.iconst 1, 1) := by decide +kernel
theorem dX0_allows_221 : decode cX0_allows 221 = .ok (.goto 4, 3) := by decide +kernel
theorem dX0_allows_224 : decode cX0_allows 224 = .ok (.iconst 0, 1) := by decide +kernel
theorem dX0_allows_225 : decode cX0_allows 225 = .ok (.ireturn, 1) := by decide +kernel
theorem dX0_allows_226 : decode cX0_allows 226 = .ok (.aload_n 0, 1) := by decide +kernel
theorem dX0_allows_227 : decode cX0_allows 227 = .ok (.getfield 9, 3) := by decide +kernel
theorem dX0_allows_230 : decode cX0_allows 230 = .ok (.ifCond .ne 7, 3) := by decide +kernel
theorem dX0_allows_233 : decode cX0_allows 233 = .ok (.iconst 1, 1) := by decide +kernel
theorem dX0_allows_234 : decode cX0_allows 234 = .ok (.goto 4, 3) := by decide +kernel
theorem dX0_allows_237 : decode cX0_allows 237 = .ok (.iconst 0, 1) := by decide +kernel
theorem dX0_allows_238 : decode cX0_allows 238 = .ok (.ireturn, 1) := by decide +kernel
theorem dX0_allows_239 : decode cX0_allows 239 = .ok (.aload_n 0, 1) := by decide +kernel
theorem dX0_allows_240 : decode cX0_allows 240 = .ok (.getfield 9, 3) := by decide +kernel
theorem dX0_allows_243 : decode cX0_allows 243 = .ok (.ireturn, 1) := by decide +kernel
theorem dX0_allows_244 : decode cX0_allows 244 = .ok (.aload_n 0, 1) := by decide +kernel
theorem dX0_allows_245 : decode cX0_allows 245 = .ok (.getfield 21, 3) := by decide +kernel
theorem dX0_allows_248 : decode cX0_allows 248 = .ok (.ifCond .ne 14, 3) := by decide +kernel
theorem dX0_allows_251 : decode cX0_allows 251 = .ok (.aload_n 0, 1) := by decide +kernel
theorem dX0_allows_252 : decode cX0_allows 252 = .ok (.getfield 15, 3) := by decide +kernel
theorem dX0_allows_255 : decode cX0_allows 255 = .ok (.ifCond .ne 7, 3) := by decide +kernel
theorem dX0_allows_258 : decode cX0_allows 258 = .ok (.iconst 1, 1) := by decide +kernel
theorem dX0_allows_259 : decode cX0_allows 259 = .ok (.goto 4, 3) := by decide +kernel
theorem dX0_allows_262 : decode cX0_allows 262 = .ok (.iconst 0, 1) := by decide +kernel
theorem dX0_allows_263 : decode cX0_allows 263 = .ok (.ireturn, 1) := by decide +kernel
theorem dX0_allows_264 : decode cX0_allows 264 = .ok (.aload_n 0, 1) := by decide +kernel
theorem dX0_allows_265 : decode cX0_allows 265 = .ok (.getfield 21, 3) := by decide +kernel
theorem dX0_allows_268 : decode cX0_allows 268 = .ok (.ifCond .ne 10, 3) := by decide +kernel
theorem dX0_allows_271 : decode cX0_allows 271 = .ok (.aload_n 0, 1) := by decide +kernel
theorem dX0_allows_272 : decode cX0_allows 272 = .ok (.getfield 15, 3) := by decide +kernel
theorem dX0_allows_275 : decode cX0_allows 275 = .ok (.ifCond .eq 7, 3) := by decide +kernel
theorem dX0_allows_278 : decode cX0_allows 278 = .ok (.iconst 1, 1) := by decide +kernel
theorem dX0_allows_279 : decode cX0_allows 279 = .ok (.goto 4, 3) := by decide +kernel
theorem dX0_allows_282 : decode cX0_allows 282 = .ok (.iconst 0, 1) := by decide +kernel
theorem dX0_allows_283 : decode cX0_allows 283 = .ok (.ireturn, 1) := by decide +kernel
theorem dX0_allows_284 : decode cX0_allows 284 = .ok (.aload_n 0, 1) := by decide +kernel
theorem dX0_allows_285 : decode cX0_allows 285 = .ok (.getfield 18, 3) := by decide +kernel
theorem dX0_allows_288 : decode cX0_allows 288 = .ok (.ifCond .ne 7, 3) := by decide +kernel
theorem dX0_allows_291 : decode cX0_allows 291 = .ok (.iconst 1, 1) := by decide +kernel
theorem dX0_allows_292 : decode cX0_allows 292 = .ok (.goto 4, 3) := by decide +kernel
theorem dX0_allows_295 : decode cX0_allows 295 = .ok (.iconst 0, 1) := by decide +kernel
theorem dX0_allows_296 : decode cX0_allows 296 = .ok (.ireturn, 1) := by decide +kernel
theorem dX0_allows_297 : decode cX0_allows 297 = .ok (.aload_n 0, 1) := by decide +kernel
theorem dX0_allows_298 : decode cX0_allows 298 = .ok (.getfield 18, 3) := by decide +kernel
theorem dX0_allows_301 : decode cX0_allows 301 = .ok (.ireturn, 1) := by decide +kernel
theorem dX0_allows_302 : decode cX0_allows 302 = .ok (.aload_n 0, 1) := by decide +kernel
theorem dX0_allows_303 : decode cX0_allows 303 = .ok (.getfield 21, 3) := by decide +kernel
theorem dX0_allows_306 : decode cX0_allows 306 = .ok (.ifCond .ne 7, 3) := by decide +kernel
theorem dX0_allows_309 : decode cX0_allows 309 = .ok (.iconst 1, 1) := by decide +kernel
theorem dX0_allows_310 : decode cX0_allows 310 = .ok (.goto 4, 3) := by decide +kernel
theorem dX0_allows_313 : decode cX0_allows 313 = .ok (.iconst 0, 1) := by decide +kernel
theorem dX0_allows_314 : decode cX0_allows 314 = .ok (.ireturn, 1) := by decide +kernel
theorem dX0_allows_315 : decode cX0_allows 315 = .ok (.aload_n 0, 1) := by decide +kernel
theorem dX0_allows_316 : decode cX0_allows 316 = .ok (.getfield 21, 3) := by decide +kernel
theorem dX0_allows_319 : decode cX0_allows 319 = .ok (.ireturn, 1) := by decide +kernel
theorem dX0_change_0 : decode cX0_change 0 = .ok (.aload_n 0, 1) := by decide +kernel
theorem dX0_change_1 : decode cX0_change 1 = .ok (.iload_n 1, 1) := by decide +kernel
theorem dX0_change_2 : decode cX0_change 2 = .ok (.bipush 8, 2) := by decide +kernel
theorem dX0_change_4 : decode cX0_change 4 = .ok (.iand, 1) := by decide +kernel
theorem dX0_change_5 : decode cX0_change 5 = .ok (.ifCond .eq 7, 3) := by decide +kernel
theorem dX0_change_8 : decode cX0_change 8 = .ok (.iload_n 2, 1) := by decide +kernel
theorem dX0_change_9 : decode cX0_change 9 = .ok (.goto 7, 3) := by decide +kernel
theorem dX0_change_12 : decode cX0_change 12 = .ok (.aload_n 0, 1) := by decide +kernel
theorem dX0_change_13 : decode cX0_change 13 = .ok (.getfield 9, 3) := by decide +kernel
theorem dX0_change_16 : decode cX0_change 16 = .ok (.putfield 9, 3) := by decide +kernel
theorem dX0_change_19 : decode cX0_change 19 = .ok (.aload_n 0, 1) := by decide +kernel
theorem dX0_change_20 : decode cX0_change 20 = .ok (.iload_n 1, 1) := by decide +kernel
theorem dX0_change_21 : decode cX0_change 21 = .ok (.iconst 4, 1) := by decide +kernel
theorem dX0_change_22 : decode cX0_change 22 = .ok (.iand, 1) := by decide +kernel
theorem dX0_change_23 : decode cX0_change 23 = .ok (.ifCond .eq 7, 3) := by decide +kernel
theorem dX0_change_26 : decode cX0_change 26 = .ok (.iload_n 2, 1) := by decide +kernel
theorem dX0_change_27 : decode cX0_change 27 = .ok (.goto 7, 3) := by decide +kernel
theorem dX0_change_30 : decode cX0_change 30 = .ok (.aload_n 0, 1) := by decide +kernel
theorem dX0_change_31 : decode cX0_change 31 = .ok (.getfield 15, 3) := by decide +kernel
theorem dX0_change_34 : decode cX0_change 34 = .ok (.putfield 15, 3) := by decide +kernel
theorem dX0_change_37 : decode cX0_change 37 = .ok (.aload_n 0, 1) := by decide +kernel
theorem dX0_change_38 : decode cX0_change 38 = .ok (.iload_n 1, 1) := by decide +kernel
theorem dX0_change_39 : decode cX0_change 39 = .ok (.iconst 2, 1) := by decide +kernel
theorem dX0_change_40 : decode cX0_change 40 = .ok (.iand, 1) := by decide +kernel
theorem dX0_change_41 : decode cX0_change 41 = .ok (.ifCond .eq 7, 3) := by decide +kernel
theorem dX0_change_44 : decode cX0_change 44 = .ok (.iload_n 2, 1) := by decide +kernel
theorem dX0_change_45 : decode cX0_change 45 = .ok (.goto 7, 3) := by decide +kernel
theorem dX0_change_48 : decode cX0_change 48 = .ok (.aload_n 0, 1) := by decide +kernel
theorem dX0_change_49 : decode cX0_change 49 = .ok (.getfield 18, 3) := by decide +kernel
theorem dX0_change_52 : decode cX0_change 52 = .ok (.putfield 18, 3) := by decide +kernel
theorem dX0_change_55 : decode cX0_change 55 = .ok (.aload_n 0, 1) := by decide +kernel
theorem dX0_change_56 : decode cX0_change 56 = .ok (.iload_n 1, 1) := by decide +kernel
theorem dX0_change_57 : decode cX0_change 57 = .ok (.iconst 1, 1) := by decide +kernel
theorem dX0_change_58 : decode cX0_change 58 = .ok (.iand, 1) := by decide +kernel
theorem dX0_change_59 : decode cX0_change 59 = .ok (.ifCond .eq 7, 3) := by decide +kernel
theorem dX0_change_62 : decode cX0_change 62 = .ok (.iload_n 2, 1) := by decide +kernel
theorem dX0_change_63 : decode cX0_change 63 = .ok (.goto 7, 3) := by decide +kernel
theorem dX0_change_66 : decode cX0_change 66 = .ok (.aload_n 0, 1) := by decide +kernel
theorem dX0_change_67 : decode cX0_change 67 = .ok (.getfield 21, 3) := by decide +kernel
theorem dX0_change_70 : decode cX0_change 70 = .ok (.putfield 21, 3) := by decide +kernel
theorem dX0_change_73 : decode cX0_change 73 = .ok (.return_, 1) := by decide +kernel
