theorem dX2_one_25 : decode cX2_one 25 = .ok (.ifCond .eq 7, 3) := by decide +kernel
theorem dX2_one_28 : decode cX2_one 28 = .ok (.iconst 1, 1) := by decide +kernel
theorem dX2_one_29 : decode cX2_one 29 = .ok (.goto 4, 3) := by decide +kernel
theorem dX2_one_32 : decode cX2_one 32 = .ok (.iconst 0, 1) := by decide +kernel
theorem dX2_one_33 : decode cX2_one 33 = .ok (.istore 6, 2) := by decide +kernel
theorem dX2_one_35 : decode cX2_one 35 = .ok (.iload_n 1, 1) := by decide +kernel
theorem dX2_one_36 : decode cX2_one 36 = .ok (.ifCond .ne 7, 3) := by decide +kernel
theorem dX2_one_39 : decode cX2_one 39 = .ok (.iconst 0, 1) := by decide +kernel
theorem dX2_one_40 : decode cX2_one 40 = .ok (.goto 72, 3) := by decide +kernel
theorem dX2_one_43 : decode cX2_one 43 = .ok (.iload_n 1, 1) := by decide +kernel
theorem dX2_one_44 : decode cX2_one 44 = .ok (.iconst 1, 1) := by decide +kernel
theorem dX2_one_45 : decode cX2_one 45 = .ok (.if_icmp .ne 9, 3) := by decide +kernel
theorem dX2_one_48 : decode cX2_one 48 = .ok (.iload_n 2, 1) := by decide +kernel
theorem dX2_one_49 : decode cX2_one 49 = .ok (.iconst (-1), 1) := by decide +kernel
theorem dX2_one_50 : decode cX2_one 50 = .ok (.ixor, 1) := by decide +kernel
theorem dX2_one_51 : decode cX2_one 51 = .ok (.goto 61, 3) := by decide +kernel
theorem dX2_one_54 : decode cX2_one 54 = .ok (.iload_n 1, 1) := by decide +kernel
theorem dX2_one_55 : decode cX2_one 55 = .ok (.iconst 2, 1) := by decide +kernel
theorem dX2_one_56 : decode cX2_one 56 = .ok (.if_icmp .ne 9, 3) := by decide +kernel
theorem dX2_one_59 : decode cX2_one 59 = .ok (.iload_n 2, 1) := by decide +kernel
theorem dX2_one_60 : decode cX2_one 60 = .ok (.iconst 1, 1) := by decide +kernel
theorem dX2_one_61 : decode cX2_one 61 = .ok (.iadd, 1) := by decide +kernel
theorem dX2_one_62 : decode cX2_one 62 = .ok (.goto 50, 3) := by decide +kernel
theorem dX2_one_65 : decode cX2_one 65 = .ok (.iload_n 1, 1) := by decide +kernel
theorem dX2_one_66 : decode cX2_one 66 = .ok (.iconst 3, 1) := by decide +kernel
theorem dX2_one_67 : decode cX2_one 67 = .ok (.if_icmp .ne 9, 3) := by decide +kernel
theorem dX2_one_70 : decode cX2_one 70 = .ok (.iload_n 2, 1) := by decide +kernel
theorem dX2_one_71 : decode cX2_one 71 = .ok (.iconst 1, 1) := by decide +kernel
theorem dX2_one_72 : decode cX2_one 72 = .ok (.isub, 1) := by decide +kernel
theorem dX2_one_73 : decode cX2_one 73 = .ok (.goto 39, 3) := by decide +kernel
theorem dX2_one_76 : decode cX2_one 76 = .ok (.iload_n 1, 1) := by decide +kernel
theorem dX2_one_77 : decode cX2_one 77 = .ok (.iconst 4, 1) := by decide +kernel
theorem dX2_one_78 : decode cX2_one 78 = .ok (.if_icmp .ne 8, 3) := by decide +kernel
theorem dX2_one_81 : decode cX2_one 81 = .ok (.iload_n 2, 1) := by decide +kernel
theorem dX2_one_82 : decode cX2_one 82 = .ok (.ineg, 1) := by decide +kernel
theorem dX2_one_83 : decode cX2_one 83 = .ok (.goto 29, 3) := by decide +kernel
theorem dX2_one_86 : decode cX2_one 86 = .ok (.iload_n 1, 1) := by decide +kernel
theorem dX2_one_87 : decode cX2_one 87 = .ok (.iconst 5, 1) := by decide +kernel
theorem dX2_one_88 : decode cX2_one 88 = .ok (.if_icmp .ne 10, 3) := by decide +kernel
theorem dX2_one_91 : decode cX2_one 91 = .ok (.iload_n 2, 1) := by decide +kernel
theorem dX2_one_92 : decode cX2_one 92 = .ok (.iload 6, 2) := by decide +kernel
theorem dX2_one_94 : decode cX2_one 94 = .ok (.iadd, 1) := by decide +kernel
theorem dX2_one_95 : decode cX2_one 95 = .ok (.goto 17, 3) := by decide +kernel
theorem dX2_one_98 : decode cX2_one 98 = .ok (.iload_n 1, 1) := by decide +kernel
theorem dX2_one_99 : decode cX2_one 99 = .ok (.bipush 6, 2) := by decide +kernel
theorem dX2_one_101 : decode cX2_one 101 = .ok (.if_icmp .ne 10, 3) := by decide +kernel
theorem dX2_one_104 : decode cX2_one 104 = .ok (.iload_n 2, 1) := by decide +kernel
theorem dX2_one_105 : decode cX2_one 105 = .ok (.iload 6, 2) := by decide +kernel
theorem dX2_one_107 : decode cX2_one 107 = .ok (.isub, 1) := by decide +kernel
theorem dX2_one_108 : decode cX2_one 108 = .ok (.goto 4, 3) := by decide +kernel
theorem dX2_one_111 : decode cX2_one 111 = .ok (.iload_n 2, 1) := by decide +kernel
theorem dX2_one_112 : decode cX2_one 112 = .ok (.istore 7, 2) := by decide +kernel
theorem dX2_one_114 : decode cX2_one 114 = .ok (.iload 7, 2) := by decide +kernel
theorem dX2_one_116 : decode cX2_one 116 = .ok (.iload 4, 2) := by decide +kernel
theorem dX2_one_118 : decode cX2_one 118 = .ok (.iand, 1) := by decide +kernel
theorem dX2_one_119 : decode cX2_one 119 = .ok (.istore 7, 2) := by decide +kernel
theorem dX2_one_121 : decode cX2_one 121 = .ok (.iload_n 1, 1) := by decide +kernel
theorem dX2_one_122 : decode cX2_one 122 = .ok (.iconst 2, 1) := by decide +kernel
theorem dX2_one_123 : decode cX2_one 123 = .ok (.if_icmp .eq 8, 3) := by decide +kernel
theorem dX2_one_126 : decode cX2_one 126 = .ok (.iload_n 1, 1) := by decide +kernel
theorem dX2_one_127 : decode cX2_one 127 = .ok (.iconst 4, 1) := by decide +kernel
theorem dX2_one_128 : decode cX2_one 128 = .ok (.if_icmp .ne 17, 3) := by decide +kernel
theorem dX2_one_131 : decode cX2_one 131 = .ok (.iload 7, 2) := by decide +kernel
theorem dX2_one_133 : decode cX2_one 133 = .ok (.iload_n 3, 1) := by decide +kernel
theorem dX2_one_134 : decode cX2_one 134 = .ok (.if_icmp .ne 7, 3) := by decide +kernel
theorem dX2_one_137 : decode cX2_one 137 = .ok (.iconst 1, 1) := by decide +kernel
theorem dX2_one_138 : decode cX2_one 138 = .ok (.goto 70, 3) := by decide +kernel
theorem dX2_one_141 : decode cX2_one 141 = .ok (.iconst 0, 1) := by decide +kernel
theorem dX2_one_142 : decode cX2_one 142 = .ok (.goto 66, 3) := by decide +kernel
theorem dX2_one_145 : decode cX2_one 145 = .ok (.iload_n 1, 1) := by decide +kernel
theorem dX2_one_146 : decode cX2_one 146 = .ok (.iconst 3, 1) := by decide +kernel
theorem dX2_one_147 : decode cX2_one 147 = .ok (.if_icmp .ne 16, 3) := by decide +kernel
theorem dX2_one_150 : decode cX2_one 150 = .ok (.iload_n 2, 1) := by decide +kernel
theorem dX2_one_151 : decode cX2_one 151 = .ok (.iload_n 3, 1) := by decide +kernel
theorem dX2_one_152 : decode cX2_one 152 = .ok (.if_icmp .ne 7, 3) := by decide +kernel
theorem dX2_one_155 : decode cX2_one 155 = .ok (.iconst 1, 1) := by decide +kernel
theorem dX2_one_156 : decode cX2_one 156 = .ok (.goto 52, 3) := by decide +kernel
theorem dX2_one_159 : decode cX2_one 159 = .ok (.iconst 0, 1) := by decide +kernel
theorem dX2_one_160 : decode cX2_one 160 = .ok (.goto 48, 3) := by decide +kernel
theorem dX2_one_163 : decode cX2_one 163 = .ok (.iload_n 1, 1) := by decide +kernel
theorem dX2_one_164 : decode cX2_one 164 = .ok (.iconst 5, 1) := by decide +kernel
theorem dX2_one_165 : decode cX2_one 165 = .ok (.if_icmp .ne 22, 3) := by decide +kernel
theorem dX2_one_168 : decode cX2_one 168 = .ok (.iload 5, 2) := by decide +kernel
theorem dX2_one_170 : decode cX2_one 170 = .ok (.ifCond .eq 13, 3) := by decide +kernel
theorem dX2_one_173 : decode cX2_one 173 = .ok (.iload 7, 2) := by decide +kernel
theorem dX2_one_175 : decode cX2_one 175 = .ok (.iload_n 3, 1) := by decide +kernel
theorem dX2_one_176 : decode cX2_one 176 = .ok (.if_icmp .ne 7, 3) := by decide +kernel
theorem dX2_one_179 : decode cX2_one 179 = .ok (.iconst 1, 1) := by decide +kernel
theorem dX2_one_180 : decode cX2_one 180 = .ok (.goto 28, 3) := by decide +kernel
theorem dX2_one_183 : decode cX2_one 183 = .ok (.iconst 0, 1) := by decide +kernel
theorem dX2_one_184 : decode cX2_one 184 = .ok (.goto 24, 3) := by decide +kernel
theorem dX2_one_187 : decode cX2_one 187 = .ok (.iload_n 1, 1) := by decide +kernel
theorem dX2_one_188 : decode cX2_one 188 = .ok (.bipush 6, 2) := by decide +kernel
theorem dX2_one_190 : decode cX2_one 190 = .ok (.if_icmp .ne 17, 3) := by decide +kernel
theorem dX2_one_193 : decode cX2_one 193 = .ok (.iload 5, 2) := by decide +kernel
theorem dX2_one_195 : decode cX2_one 195 = .ok (.ifCond .eq 12, 3) := by decide +kernel
theorem dX2_one_198 : decode cX2_one 198 = .ok (.iload_n 2, 1) := by decide +kernel
theorem dX2_one_199 : decode cX2_one 199 = .ok (.iload_n 3, 1) := by decide +kernel
theorem dX2_one_200 : decode cX2_one 200 = .ok (.if_icmp .ne 7, 3) := by decide +kernel
theorem dX2_one_203 : decode cX2_one 203 = .ok (.iconst 1, 1) := by decide +kernel
theorem dX2_one_204 : decode cX2_one 204 = .ok (.goto 4, 3) := by decide +kernel
theorem dX2_one_207 : decode cX2_one 207 = .ok (.iconst 0, 1) := by decide +kernel
theorem dX2_one_208 : decode cX2_one 208 = .ok (.istore 8, 2) := by decide +kernel
theorem dX2_one_210 : decode cX2_one 210 = .ok (.iload_n 1, 1) := by decide +kernel
theorem dX2_one_211 : decode cX2_one 211 = .ok (.iconst 1, 1) := by decide +kernel
theorem dX2_one_212 : decode cX2_one 212 = .ok (.if_icmp .eq 58, 3) := by decide +kernel
theorem dX2_one_215 : decode cX2_one 215 = .ok (.iload_n 1, 1) := by decide +kernel
theorem dX2_one_216 : decode cX2_one 216 = .ok (.iconst 2, 1) := by decide +kernel
theorem dX2_one_217 : decode cX2_one 217 = .ok (.if_icmp .eq 8, 3) := by decide +kernel
theorem dX2_one_220 : decode cX2_one 220 = .ok (.iload_n 1, 1) := by decide +kernel
theorem dX2_one_221 : decode cX2_one 221 = .ok (.iconst 3, 1) := by decide +kernel
theorem dX2_one_222 : decode cX2_one 222 = .ok (.if_icmp .ne 8, 3) := by decide +kernel
theorem dX2_one_225 : decode cX2_one 225 = .ok (.iload 5, 2) := by decide +kernel
theorem dX2_one_227 : decode cX2_one 227 = .ok (.ifCond .ne 43, 3) := by decide +kernel
theorem dX2_one_230 : decode cX2_one 230 = .ok (.iload_n 1, 1) := by decide +kernel
theorem dX2_one_231 : decode cX2_one 231 = .ok (.iconst 4, 1) := by decide +kernel
theorem dX2_one_232 : decode cX2_one 232 = .ok (.if_icmp .ne 8, 3) := by decide +kernel
theorem dX2_one_235 : decode cX2_one 235 = .ok (.iload 7, 2) := by decide +kernel
theorem dX2_one_237 : decode cX2_one 237 = .ok (.ifCond .ne 33, 3) := by decide +kernel
theorem dX2_one_240 : decode cX2_one 240 = .ok (.iload_n 1, 1) := by decide +kernel
theorem dX2_one_241 : decode cX2_one 241 = .ok (.iconst 5, 1) := by decide +kernel
theorem dX2_one_242 : decode cX2_one 242 = .ok (.if_icmp .ne 13, 3) := by decide +kernel
theorem dX2_one_245 : decode cX2_one 245 = .ok (.iload 5, 2) := by decide +kernel
theorem dX2_one_247 : decode cX2_one 247 = .ok (.ifCond .eq 8, 3) := by decide +kernel
theorem dX2_one_250 : decode cX2_one 250 = .ok (.iload 7, 2) := by decide +kernel
theorem dX2_one_252 : decode cX2_one 252 = .ok (.ifCond .eq 18, 3) := by decide +kernel
theorem dX2_one_255 : decode cX2_one 255 = .ok (.iload_n 1, 1) := by decide +kernel
theorem dX2_one_256 : decode cX2_one 256 = .ok (.bipush 6, 2) := by decide +kernel
theorem dX2_one_258 : decode cX2_one 258 = .ok (.if_icmp .ne 16, 3) := by decide +kernel
theorem dX2_one_261 : decode cX2_one 261 = .ok (.iload 5, 2) := by decide +kernel
theorem dX2_one_263 : decode cX2_one 263 = .ok (.ifCond .eq 11, 3) := by decide +kernel
theorem dX2_one_266 : decode cX2_one 266 = .ok (.iload_n 2, 1) := by decide +kernel
theorem dX2_one_267 : decode cX2_one 267 = .ok (.ifCond .ne 7, 3) := by decide +kernel
theorem dX2_one_270 : decode cX2_one 270 = .ok (.iconst 1, 1) := by decide +kernel
theorem dX2_one_271 : decode cX2_one 271 = .ok (.goto 4, 3) := by decide +kernel
theorem dX2_one_274 : decode cX2_one 274 = .ok (.iconst 0, 1) := by decide +kernel
theorem dX2_one_275 : decode cX2_one 275 = .ok (.istore 9, 2) := by decide +kernel
theorem dX2_one_277 : decode cX2_one 277 = .ok (.aload_n 0, 1) := by decide +kernel
theorem dX2_one_278 : decode cX2_one 278 = .ok (.iload 7, 2) := by decide +kernel
theorem dX2_one_280 : decode cX2_one 280 = .ok (.iload_n 3, 1) := by decide +kernel
theorem dX2_one_281 : decode cX2_one 281 = .ok (.iload 8, 2) := by decide +kernel
theorem dX2_one_283 : decode cX2_one 283 = .ok (.iload 9, 2) := by decide +kernel
theorem dX2_one_285 : decode cX2_one 285 = .ok (.invokevirtual 50, 3) := by decide +kernel
theorem dX2_one_288 : decode cX2_one 288 = .ok (.iload 7, 2) := by decide +kernel
theorem dX2_one_290 : decode cX2_one 290 = .ok (.ireturn, 1) := by decide +kernel
theorem dX2_moved_0 : decode cX2_moved 0 = .ok (.aload_n 0, 1) := by decide +kernel
theorem dX2_moved_1 : decode cX2_moved 1 = .ok (.getfield 17, 3) := by decide +kernel
theorem dX2_moved_4 : decode cX2_moved 4 = .ok (.iconst 1, 1) := by decide +kernel
theorem dX2_moved_5 : decode cX2_moved 5 = .ok (.iand, 1) := by decide +kernel
theorem dX2_moved_6 : decode cX2_moved 6 = .ok (.ifCond .eq 7, 3) := by decide +kernel
theorem dX2_moved_9 : decode cX2_moved 9 = .ok (.iconst 1, 1) := by decide +kernel
theorem dX2_moved_10 : decode cX2_moved 10 = .ok (.goto 4, 3) := by decide +kernel
theorem dX2_moved_13 : decode cX2_moved 13 = .ok (.iconst 0, 1) := by decide +kernel
theorem dX2_moved_14 : decode cX2_moved 14 = .ok (.istore 4, 2) := by decide +kernel
theorem dX2_moved_16 : decode cX2_moved 16 = .ok (.iload_n 1, 1) := by decide +kernel
theorem dX2_moved_17 : decode cX2_moved 17 = .ok (.iconst 2, 1) := by decide +kernel
theorem dX2_moved_18 : decode cX2_moved 18 = .ok (.irem, 1) := by decide +kernel
theorem dX2_moved_19 : decode cX2_moved 19 = .ok (.ifCond .ne 7, 3) := by decide +kernel
theorem dX2_moved_22 : decode cX2_moved 22 = .ok (.iconst 1, 1) := by decide +kernel
theorem dX2_moved_23 : decode cX2_moved 23 = .ok (.goto 4, 3) := by decide +kernel
theorem dX2_moved_26 : decode cX2_moved 26 = .ok (.iconst 0, 1) := by decide +kernel
theorem dX2_moved_27 : decode cX2_moved 27 = .ok (.istore 5, 2) := by decide +kernel
theorem dX2_moved_29 : decode cX2_moved 29 = .ok (.iload 5, 2) := by decide +kernel
theorem dX2_moved_31 : decode cX2_moved 31 = .ok (.ifCond .eq 9, 3) := by decide +kernel
theorem dX2_moved_34 : decode cX2_moved 34 = .ok (.iload_n 2, 1) := by decide +kernel
theorem dX2_moved_35 : decode cX2_moved 35 = .ok (.iconst 1, 1) := by decide +kernel
theorem dX2_moved_36 : decode cX2_moved 36 = .ok (.ishr, 1) := by decide +kernel
theorem dX2_moved_37 : decode cX2_moved 37 = .ok (.goto 12, 3) := by decide +kernel
theorem dX2_moved_40 : decode cX2_moved 40 = .ok (.iload_n 2, 1) := by decide +kernel
theorem dX2_moved_41 : decode cX2_moved 41 = .ok (.iconst 1, 1) := by decide +kernel
theorem dX2_moved_42 : decode cX2_moved 42 = .ok (.ishl, 1) := by decide +kernel
theorem dX2_moved_43 : decode cX2_moved 43 = .ok (.iconst 2, 1) := by decide +kernel
theorem dX2_moved_44 : decode cX2_moved 44 = .ok (.iload_n 3, 1) := by decide +kernel
theorem dX2_moved_45 : decode cX2_moved 45 = .ok (.imul, 1) := by decide +kernel
theorem dX2_moved_46 : decode cX2_moved 46 = .ok (.iconst 1, 1) := by decide +kernel
theorem dX2_moved_47 : decode cX2_moved 47 = .ok (.isub, 1) := by decide +kernel
theorem dX2_moved_48 : decode cX2_moved 48 = .ok (.iand, 1) := by decide +kernel
theorem dX2_moved_49 : decode cX2_moved 49 = .ok (.istore 6, 2) := by decide +kernel
theorem dX2_moved_51 : decode cX2_moved 51 = .ok (.iload_n 1, 1) := by decide +kernel
theorem dX2_moved_52 : decode cX2_moved 52 = .ok (.ifCond .ne 8, 3) := by decide +kernel
theorem dX2_moved_55 : decode cX2_moved 55 = .ok (.iload 4, 2) := by decide +kernel
theorem dX2_moved_57 : decode cX2_moved 57 = .ok (.ifCond .ne 14, 3) := by decide +kernel
theorem dX2_moved_60 : decode cX2_moved 60 = .ok (.iload_n 1, 1) := by decide +kernel
theorem dX2_moved_61 : decode cX2_moved 61 = .ok (.iconst 2, 1) := by decide +kernel
theorem dX2_moved_62 : decode cX2_moved 62 = .ok (.if_icmp .ne 15, 3) := by decide +kernel
theorem dX2_moved_65 : decode cX2_moved 65 = .ok (.iload_n 2, 1) := by decide +kernel
theorem dX2_moved_66 : decode cX2_moved 66 = .ok (.iload_n 3, 1) := by decide +kernel
theorem dX2_moved_67 : decode cX2_moved 67 = .ok (.iand, 1) := by decide +kernel
theorem dX2_moved_68 : decode cX2_moved 68 = .ok (.ifCond .eq 9, 3) := by decide +kernel
theorem dX2_moved_71 : decode cX2_moved 71 = .ok (.iload 6, 2) := by decide +kernel
theorem dX2_moved_73 : decode cX2_moved 73 = .ok (.iload_n 3, 1) := by decide +kernel
theorem dX2_moved_74 : decode cX2_moved 74 = .ok (.ior, 1) := by decide +kernel
theorem dX2_moved_75 : decode cX2_moved 75 = .ok (.istore 6, 2) := by decide +kernel
theorem dX2_moved_77 : decode cX2_moved 77 = .ok (.iload_n 1, 1) := by decide +kernel
theorem dX2_moved_78 : decode cX2_moved 78 = .ok (.iconst 1, 1) := by decide +kernel
theorem dX2_moved_79 : decode cX2_moved 79 = .ok (.if_icmp .ne 14, 3) := by decide +kernel
theorem dX2_moved_82 : decode cX2_moved 82 = .ok (.iload 4, 2) := by decide +kernel
theorem dX2_moved_84 : decode cX2_moved 84 = .ok (.ifCond .eq 9, 3) := by decide +kernel
theorem dX2_moved_87 : decode cX2_moved 87 = .ok (.iload 6, 2) := by decide +kernel
theorem dX2_moved_89 : decode cX2_moved 89 = .ok (.iconst 1, 1) := by decide +kernel
theorem dX2_moved_90 : decode cX2_moved 90 = .ok (.ior, 1) := by decide +kernel
theorem dX2_moved_91 : decode cX2_moved 91 = .ok (.istore 6, 2) := by decide +kernel
theorem dX2_moved_93 : decode cX2_moved 93 = .ok (.iload_n 2, 1) := by decide +kernel
theorem dX2_moved_94 : decode cX2_moved 94 = .ok (.iload 5, 2) := by decide +kernel
theorem dX2_moved_96 : decode cX2_moved 96 = .ok (.ifCond .eq 7, 3) := by decide +kernel
theorem dX2_moved_99 : decode cX2_moved 99 = .ok (.iconst 1, 1) := by decide +kernel
theorem dX2_moved_100 : decode cX2_moved 100 = .ok (.goto 4, 3) := by decide +kernel
theorem dX2_moved_103 : decode cX2_moved 103 = .ok (.iload_n 3, 1) := by decide +kernel
theorem dX2_moved_104 : decode cX2_moved 104 = .ok (.iand, 1) := by decide +kernel
theorem dX2_moved_105 : decode cX2_moved 105 = .ok (.ifCond .eq 7, 3) := by decide +kernel
theorem dX2_moved_108 : decode cX2_moved 108 = .ok (.iconst 1, 1) := by decide +kernel
theorem dX2_moved_109 : decode cX2_moved 109 = .ok (.goto 4, 3) := by decide +kernel
theorem dX2_moved_112 : decode cX2_moved 112 = .ok (.iconst 0, 1) := by decide +kernel
theorem dX2_moved_113 : decode cX2_moved 113 = .ok (.istore 7, 2) := by decide +kernel
theorem dX2_moved_115 : decode cX2_moved 115 = .ok (.aload_n 0, 1) := by decide +kernel
theorem dX2_moved_116 : decode cX2_moved 116 = .ok (.iload 6, 2) := by decide +kernel
theorem dX2_moved_118 : decode cX2_moved 118 = .ok (.iload_n 3, 1) := by decide +kernel
theorem dX2_moved_119 : decode cX2_moved 119 = .ok (.iload 6, 2) := by decide +kernel
theorem dX2_moved_121 : decode cX2_moved 121 = .ok (.iload_n 3, 1) := by decide +kernel
theorem dX2_moved_122 : decode cX2_moved 122 = .ok (.iand, 1) := by decide +kernel
theorem dX2_moved_123 : decode cX2_moved 123 = .ok (.ifCond .eq 7, 3) := by decide +kernel
theorem dX2_moved_126 : decode cX2_moved 126 = .ok (.iconst 1, 1) := by decide +kernel
theorem dX2_moved_127 : decode cX2_moved 127 = .ok (.goto 4, 3) := by decide +kernel
theorem dX2_moved_130 : decode cX2_moved 130 = .ok (.iconst 0, 1) := by decide +kernel
theorem dX2_moved_131 : decode cX2_moved 131 = .ok (.iload 7, 2) := by decide +kernel
theorem dX2_moved_133 : decode cX2_moved 133 = .ok (.if_icmp .eq 7, 3) := by decide +kernel
theorem dX2_moved_136 : decode cX2_moved 136 = .ok (.iconst 1, 1) := by decide +kernel
theorem dX2_moved_137 : decode cX2_moved 137 = .ok (.goto 4, 3) := by decide +kernel
theorem dX2_moved_140 : decode cX2_moved 140 = .ok (.iconst 0, 1) := by decide +kernel
theorem dX2_moved_141 : decode cX2_moved 141 = .ok (.iload 7, 2) := by decide +kernel
theorem dX2_moved_143 : decode cX2_moved 143 = .ok (.invokevirtual 50, 3) := by decide +kernel
theorem dX2_moved_146 : decode cX2_moved 146 = .ok (.iload 6, 2) := by decide +kernel
theorem dX2_moved_148 : decode cX2_moved 148 = .ok (.ireturn, 1) := by decide +kernel
theorem dX2_put_0 : decode cX2_put 0 = .ok (.aload_n 0, 1) := by decide +kernel
theorem dX2_put_1 : decode cX2_put 1 = .ok (.dup, 1) := by decide +kernel
theorem dX2_put_2 : decode cX2_put 2 = .ok (.getfield 39, 3) := by decide +kernel
theorem dX2_put_5 : decode cX2_put 5 = .ok (.iconst 1, 1) := by decide +kernel
theorem dX2_put_6 : decode cX2_put 6 = .ok (.iadd, 1) := by decide +kernel
theorem dX2_put_7 : decode cX2_put 7 = .ok (.putfield 39, 3) := by decide +kernel
theorem dX2_put_10 : decode cX2_put 10 = .ok (.aload_n 0, 1) := by decide +kernel
theorem dX2_put_11 : decode cX2_put 11 = .ok (.getfield 36, 3) := by decide +kernel
theorem dX2_put_14 : decode cX2_put 14 = .ok (.ifCond .ge 62, 3) := by decide +kernel
theorem dX2_put_17 : decode cX2_put 17 = .ok (.iconst (-1), 1) := by decide +kernel
theorem dX2_put_18 : decode cX2_put 18 = .ok (.aload_n 0, 1) := by decide +kernel
theorem dX2_put_19 : decode cX2_put 19 = .ok (.getfield 36, 3) := by decide +kernel
theorem dX2_put_22 : decode cX2_put 22 = .ok (.isub, 1) := by decide +kernel
theorem dX2_put_23 : decode cX2_put 23 = .ok (.istore 4, 2) := by decide +kernel
theorem dX2_put_25 : decode cX2_put 25 = .ok (.aload_n 0, 1) := by decide +kernel
theorem dX2_put_26 : decode cX2_put 26 = .ok (.getfield 13, 3) := by decide +kernel
theorem dX2_put_29 : decode cX2_put 29 = .ok (.iload 4, 2) := by decide +kernel
theorem dX2_put_31 : decode cX2_put 31 = .ok (.iload_n 2, 1) := by decide +kernel
theorem dX2_put_32 : decode cX2_put 32 = .ok (.ifCond .ne 7, 3) := by decide +kernel
theorem dX2_put_35 : decode cX2_put 35 = .ok (.iload_n 1, 1) := by decide +kernel
theorem dX2_put_36 : decode cX2_put 36 = .ok (.goto 36, 3) := by decide +kernel
theorem dX2_put_39 : decode cX2_put 39 = .ok (.iload_n 3, 1) := by decide +kernel
theorem dX2_put_40 : decode cX2_put 40 = .ok (.ifCond .eq 20, 3) := by decide +kernel
theorem dX2_put_43 : decode cX2_put 43 = .ok (.iload_n 1, 1) := by decide +kernel
theorem dX2_put_44 : decode cX2_put 44 = .ok (.bipush 127, 2) := by decide +kernel
theorem dX2_put_46 : decode cX2_put 46 = .ok (.if_icmp .le 10, 3) := by decide +kernel
theorem dX2_put_49 : decode cX2_put 49 = .ok (.iload_n 1, 1) := by decide +kernel
theorem dX2_put_50 : decode cX2_put 50 = .ok (.ldc 49, 2) := by decide +kernel
theorem dX2_put_52 : decode cX2_put 52 = .ok (.ior, 1) := by decide +kernel
theorem dX2_put_53 : decode cX2_put 53 = .ok (.goto 19, 3) := by decide +kernel
theorem dX2_put_56 : decode cX2_put 56 = .ok (.iload_n 1, 1) := by decide +kernel
theorem dX2_put_57 : decode cX2_put 57 = .ok (.goto 15, 3) := by decide +kernel
theorem dX2_put_60 : decode cX2_put 60 = .ok (.aload_n 0, 1) := by decide +kernel
theorem dX2_put_61 : decode cX2_put 61 = .ok (.getfield 13, 3) := by decide +kernel
theorem dX2_put_64 : decode cX2_put 64 = .ok (.iload 4, 2) := by decide +kernel
theorem dX2_put_66 : decode cX2_put 66 = .ok (.iaload, 1) := by decide +kernel
theorem dX2_put_67 : decode cX2_put 67 = .ok (.ldc 49, 2) := by decide +kernel
theorem dX2_put_69 : decode cX2_put 69 = .ok (.iand, 1) := by decide +kernel
theorem dX2_put_70 : decode cX2_put 70 = .ok (.iload_n 1, 1) := by decide +kernel
theorem dX2_put_71 : decode cX2_put 71 = .ok (.ior, 1) := by decide +kernel
theorem dX2_put_72 : decode cX2_put 72 = .ok (.iastore, 1) := by decide +kernel
theorem dX2_put_73 : decode cX2_put 73 = .ok (.goto 69, 3) := by decide +kernel
theorem dX2_put_76 : decode cX2_put 76 = .ok (.iload_n 2, 1) := by decide +kernel
theorem dX2_put_77 : decode cX2_put 77 = .ok (.ifCond .eq 53, 3) := by decide +kernel
theorem dX2_put_80 : decode cX2_put 80 = .ok (.bipush 8, 2) := by decide +kernel
theorem dX2_put_82 : decode cX2_put 82 = .ok (.aload_n 0, 1) := by decide +kernel
theorem dX2_put_83 : decode cX2_put 83 = .ok (.getfield 36, 3) := by decide +kernel
theorem dX2_put_86 : decode cX2_put 86 = .ok (.iconst 2, 1) := by decide +kernel
theorem dX2_put_87 : decode cX2_put 87 = .ok (.irem, 1) := by decide +kernel
theorem dX2_put_88 : decode cX2_put 88 = .ok (.imul, 1) := by decide +kernel
theorem dX2_put_89 : decode cX2_put 89 = .ok (.istore 4, 2) := by decide +kernel
theorem dX2_put_91 : decode cX2_put 91 = .ok (.aload_n 0, 1) := by decide +kernel
theorem dX2_put_92 : decode cX2_put 92 = .ok (.getfield 7, 3) := by decide +kernel
theorem dX2_put_95 : decode cX2_put 95 = .ok (.aload_n 0, 1) := by decide +kernel
theorem dX2_put_96 : decode cX2_put 96 = .ok (.getfield 36, 3) := by decide +kernel
theorem dX2_put_99 : decode cX2_put 99 = .ok (.iconst 2, 1) := by decide +kernel
theorem dX2_put_100 : decode cX2_put 100 = .ok (.idiv, 1) := by decide +kernel
theorem dX2_put_101 : decode cX2_put 101 = .ok (.aload_n 0, 1) := by decide +kernel
theorem dX2_put_102 : decode cX2_put 102 = .ok (.getfield 7, 3) := by decide +kernel
theorem dX2_put_105 : decode cX2_put 105 = .ok (.aload_n 0, 1) := by decide +kernel
theorem dX2_put_106 : decode cX2_put 106 = .ok (.getfield 36, 3) := by decide +kernel
theorem dX2_put_109 : decode cX2_put 109 = .ok (.iconst 2, 1) := by decide +kernel
theorem dX2_put_110 : decode cX2_put 110 = .ok (.idiv, 1) := by decide +kernel
theorem dX2_put_111 : decode cX2_put 111 = .ok (.iaload, 1) := by decide +kernel
theorem dX2_put_112 : decode cX2_put 112 = .ok (.sipush 255, 3) := by decide +kernel
theorem dX2_put_115 : decode cX2_put 115 = .ok (.iload 4, 2) := by decide +kernel
theorem dX2_put_117 : decode cX2_put 117 = .ok (.ishl, 1) := by decide +kernel
theorem dX2_put_118 : decode cX2_put 118 = .ok (.iconst (-1), 1) := by decide +kernel
theorem dX2_put_119 : decode cX2_put 119 = .ok (.ixor, 1) := by decide +kernel
theorem dX2_put_120 : decode cX2_put 120 = .ok (.iand, 1) := by decide +kernel
theorem dX2_put_121 : decode cX2_put 121 = .ok (.iload_n 1, 1) := by decide +kernel
theorem dX2_put_122 : decode cX2_put 122 = .ok (.iload 4, 2) := by decide +kernel
theorem dX2_put_124 : decode cX2_put 124 = .ok (.ishl, 1) := by decide +kernel
theorem dX2_put_125 : decode cX2_put 125 = .ok (.ior, 1) := by decide +kernel
theorem dX2_put_126 : decode cX2_put 126 = .ok (.iastore, 1) := by decide +kernel
theorem dX2_put_127 : decode cX2_put 127 = .ok (.goto 15, 3) := by decide +kernel
theorem dX2_put_130 : decode cX2_put 130 = .ok (.aload_n 0, 1) := by decide +kernel
theorem dX2_put_131 : decode cX2_put 131 = .ok (.getfield 7, 3) := by decide +kernel
theorem dX2_put_134 : decode cX2_put 134 = .ok (.aload_n 0, 1) := by decide +kernel
theorem dX2_put_135 : decode cX2_put 135 = .ok (.getfield 36, 3) := by decide +kernel
theorem dX2_put_138 : decode cX2_put 138 = .ok (.iconst 2, 1) := by decide +kernel
theorem dX2_put_139 : decode cX2_put 139 = .ok (.idiv, 1) := by decide +kernel
theorem dX2_put_140 : decode cX2_put 140 = .ok (.iload_n 1, 1) := by decide +kernel
theorem dX2_put_141 : decode cX2_put 141 = .ok (.iastore, 1) := by decide +kernel
theorem dX2_put_142 : decode cX2_put 142 = .ok (.return_, 1) := by decide +kernel
theorem dX2_jump_0 : decode cX2_jump 0 = .ok (.iload_n 1, 1) := by decide +kernel
theorem dX2_jump_1 : decode cX2_jump 1 = .ok (.iconst 3, 1) := by decide +kernel
theorem dX2_jump_2 : decode cX2_jump 2 = .ok (.ishr, 1) := by decide +kernel
theorem dX2_jump_3 : decode cX2_jump 3 = .ok (.bipush 7, 2) := by decide +kernel
theorem dX2_jump_5 : decode cX2_jump 5 = .ok (.iand, 1) := by decide +kernel
theorem dX2_jump_6 : decode cX2_jump 6 = .ok (.ifCond .ne 9, 3) := by decide +kernel
theorem dX2_jump_9 : decode cX2_jump 9 = .ok (.aload_n 0, 1) := by decide +kernel
theorem dX2_jump_10 : decode cX2_jump 10 = .ok (.iconst 2, 1) := by decide +kernel
theorem dX2_jump_11 : decode cX2_jump 11 = .ok (.putfield 25, 3) := by decide +kernel
theorem dX2_jump_14 : decode cX2_jump 14 = .ok (.return_, 1) := by decide +kernel
theorem dX2_jump_15 : decode cX2_jump 15 = .ok (.aload_n 0, 1) := by decide +kernel
theorem dX2_jump_16 : decode cX2_jump 16 = .ok (.iload_n 1, 1) := by decide +kernel
theorem dX2_jump_17 : decode cX2_jump 17 = .ok (.bipush 63, 2) := by decide +kernel
theorem dX2_jump_19 : decode cX2_jump 19 = .ok (.iand, 1) := by decide +kernel
theorem dX2_jump_20 : decode cX2_jump 20 = .ok (.iconst 0, 1) := by decide +kernel
theorem dX2_jump_21 : decode cX2_jump 21 = .ok (.invokevirtual 54, 3) := by decide +kernel
theorem dX2_jump_24 : decode cX2_jump 24 = .ok (.aload_n 0, 1) := by decide +kernel
theorem dX2_jump_25 : decode cX2_jump 25 = .ok (.getfield 25, 3) := by decide +kernel
theorem dX2_jump_28 : decode cX2_jump 28 = .ok (.ifCond .le 4, 3) := by decide +kernel
theorem dX2_jump_31 : decode cX2_jump 31 = .ok (.return_, 1) := by decide +kernel
theorem dX2_jump_32 : decode cX2_jump 32 = .ok (.aload_n 0, 1) := by decide +kernel
theorem dX2_jump_33 : decode cX2_jump 33 = .ok (.getfield 36, 3) := by decide +kernel
theorem dX2_jump_36 : decode cX2_jump 36 = .ok (.istore_n 2, 1) := by decide +kernel
theorem dX2_jump_37 : decode cX2_jump 37 = .ok (.iload_n 1, 1) := by decide +kernel
theorem dX2_jump_38 : decode cX2_jump 38 = .ok (.bipush 6, 2) := by decide +kernel
theorem dX2_jump_40 : decode cX2_jump 40 = .ok (.ishr, 1) := by decide +kernel
theorem dX2_jump_41 : decode cX2_jump 41 = .ok (.iconst 1, 1) := by decide +kernel
theorem dX2_jump_42 : decode cX2_jump 42 = .ok (.if_icmp .ne 22, 3) := by decide +kernel
theorem dX2_jump_45 : decode cX2_jump 45 = .ok (.aload_n 0, 1) := by decide +kernel
theorem dX2_jump_46 : decode cX2_jump 46 = .ok (.dup, 1) := by decide +kernel
theorem dX2_jump_47 : decode cX2_jump 47 = .ok (.getfield 39, 3) := by decide +kernel
theorem dX2_jump_50 : decode cX2_jump 50 = .ok (.iconst 1, 1) := by decide +kernel
theorem dX2_jump_51 : decode cX2_jump 51 = .ok (.iadd, 1) := by decide +kernel
theorem dX2_jump_52 : decode cX2_jump 52 = .ok (.putfield 39, 3) := by decide +kernel
theorem dX2_jump_55 : decode cX2_jump 55 = .ok (.aload_n 0, 1) := by decide +kernel
theorem dX2_jump_56 : decode cX2_jump 56 = .ok (.getfield 13, 3) := by decide +kernel
theorem dX2_jump_59 : decode cX2_jump 59 = .ok (.bipush 7, 2) := by decide +kernel
theorem dX2_jump_61 : decode cX2_jump 61 = .ok (.iload_n 2, 1) := by decide +kernel
theorem dX2_jump_62 : decode cX2_jump 62 = .ok (.iastore, 1) := by decide +kernel
theorem dX2_jump_63 : decode cX2_jump 63 = .ok (.return_, 1) := by decide +kernel
theorem dX2_jump_64 : decode cX2_jump 64 = .ok (.iload_n 1, 1) := by decide +kernel
theorem dX2_jump_65 : decode cX2_jump 65 = .ok (.bipush 6, 2) := by decide +kernel
theorem dX2_jump_67 : decode cX2_jump 67 = .ok (.ishr, 1) := by decide +kernel
theorem dX2_jump_68 : decode cX2_jump 68 = .ok (.bipush 7, 2) := by decide +kernel
theorem dX2_jump_70 : decode cX2_jump 70 = .ok (.iand, 1) := by decide +kernel
theorem dX2_jump_71 : decode cX2_jump 71 = .ok (.istore_n 3, 1) := by decide +kernel
theorem dX2_jump_72 : decode cX2_jump 72 = .ok (.aload_n 0, 1) := by decide +kernel
theorem dX2_jump_73 : decode cX2_jump 73 = .ok (.bipush 6, 2) := by decide +kernel
theorem dX2_jump_75 : decode cX2_jump 75 = .ok (.bipush (-2), 2) := by decide +kernel
theorem dX2_jump_77 : decode cX2_jump 77 = .ok (.invokevirtual 28, 3) := by decide +kernel
theorem dX2_jump_80 : decode cX2_jump 80 = .ok (.aload_n 0, 1) := by decide +kernel
theorem dX2_jump_81 : decode cX2_jump 81 = .ok (.aload_n 0, 1) := by decide +kernel
theorem dX2_jump_82 : decode cX2_jump 82 = .ok (.getfield 13, 3) := by decide +kernel
theorem dX2_jump_85 : decode cX2_jump 85 = .ok (.bipush 6, 2) := by decide +kernel
theorem dX2_jump_87 : decode cX2_jump 87 = .ok (.iaload, 1) := by decide +kernel
theorem dX2_jump_88 : decode cX2_jump 88 = .ok (.invokevirtual 32, 3) := by decide +kernel
theorem dX2_jump_91 : decode cX2_jump 91 = .ok (.istore 4, 2) := by decide +kernel
theorem dX2_jump_93 : decode cX2_jump 93 = .ok (.aload_n 0, 1) := by decide +kernel
theorem dX2_jump_94 : decode cX2_jump 94 = .ok (.getfield 25, 3) := by decide +kernel
theorem dX2_jump_97 : decode cX2_jump 97 = .ok (.ifCond .le 4, 3) := by decide +kernel
theorem dX2_jump_100 : decode cX2_jump 100 = .ok (.return_, 1) := by decide +kernel
theorem dX2_jump_101 : decode cX2_jump 101 = .ok (.aload_n 0, 1) := by decide +kernel
theorem dX2_jump_102 : decode cX2_jump 102 = .ok (.getfield 7, 3) := by decide +kernel
theorem dX2_jump_105 : decode cX2_jump 105 = .ok (.aload_n 0, 1) := by decide +kernel
theorem dX2_jump_106 : decode cX2_jump 106 = .ok (.getfield 13, 3) := by decide +kernel
theorem dX2_jump_109 : decode cX2_jump 109 = .ok (.bipush 6, 2) := by decide +kernel
theorem dX2_jump_111 : decode cX2_jump 111 = .ok (.iaload, 1) := by decide +kernel
theorem dX2_jump_112 : decode cX2_jump 112 = .ok (.iconst 2, 1) := by decide +kernel
theorem dX2_jump_113 : decode cX2_jump 113 = .ok (.idiv, 1) := by decide +kernel
theorem dX2_jump_114 : decode cX2_jump 114 = .ok (.aload_n 0, 1) := by decide +kernel
theorem dX2_jump_115 : decode cX2_jump 115 = .ok (.getfield 13, 3) := by decide +kernel
theorem dX2_jump_118 : decode cX2_jump 118 = .ok (.iload_n 3, 1) := by decide +kernel
theorem dX2_jump_119 : decode cX2_jump 119 = .ok (.iaload, 1) := by decide +kernel
theorem dX2_jump_120 : decode cX2_jump 120 = .ok (.iastore, 1) := by decide +kernel
theorem dX2_jump_121 : decode cX2_jump 121 = .ok (.aload_n 0, 1) := by decide +kernel
theorem dX2_jump_122 : decode cX2_jump 122 = .ok (.getfield 13, 3) := by decide +kernel
theorem dX2_jump_125 : decode cX2_jump 125 = .ok (.iload_n 3, 1) := by decide +kernel
theorem dX2_jump_126 : decode cX2_jump 126 = .ok (.aload_n 0, 1) := by decide +kernel
theorem dX2_jump_127 : decode cX2_jump 127 = .ok (.getfield 13, 3) := by decide +kernel
theorem dX2_jump_130 : decode cX2_jump 130 = .ok (.bipush 7, 2) := by decide +kernel
theorem dX2_jump_132 : decode cX2_jump 132 = .ok (.iaload, 1) := by decide +kernel
theorem dX2_jump_133 : decode cX2_jump 133 = .ok (.iastore, 1) := by decide +kernel
theorem dX2_jump_134 : decode cX2_jump 134 = .ok (.aload_n 0, 1) := by decide +kernel
theorem dX2_jump_135 : decode cX2_jump 135 = .ok (.getfield 13, 3) := by decide +kernel
theorem dX2_jump_138 : decode cX2_jump 138 = .ok (.bipush 7, 2) := by decide +kernel
theorem dX2_jump_140 : decode cX2_jump 140 = .ok (.iload_n 2, 1) := by decide +kernel
theorem dX2_jump_141 : decode cX2_jump 141 = .ok (.iastore, 1) := by decide +kernel
theorem dX2_jump_142 : decode cX2_jump 142 = .ok (.aload_n 0, 1) := by decide +kernel
theorem dX2_jump_143 : decode cX2_jump 143 = .ok (.dup, 1) := by decide +kernel
theorem dX2_jump_144 : decode cX2_jump 144 = .ok (.getfield 39, 3) := by decide +kernel
theorem dX2_jump_147 : decode cX2_jump 147 = .ok (.bipush 6, 2) := by decide +kernel
theorem dX2_jump_149 : decode cX2_jump 149 = .ok (.iadd, 1) := by decide +kernel
theorem dX2_jump_150 : decode cX2_jump 150 = .ok (.putfield 39, 3) := by decide +kernel
theorem dX2_jump_153 : decode cX2_jump 153 = .ok (.return_, 1) := by decide +kernel
theorem dX2_back_0 : decode cX2_back 0 = .ok (.iload_n 1, 1) := by decide +kernel
theorem dX2_back_1 : decode cX2_back 1 = .ok (.bipush 7, 2) := by decide +kernel
theorem dX2_back_3 : decode cX2_back 3 = .ok (.iand, 1) := by decide +kernel
theorem dX2_back_4 : decode cX2_back 4 = .ok (.istore_n 2, 1) := by decide +kernel
theorem dX2_back_5 : decode cX2_back 5 = .ok (.aload_n 0, 1) := by decide +kernel
theorem dX2_back_6 : decode cX2_back 6 = .ok (.getfield 13, 3) := by decide +kernel
theorem dX2_back_9 : decode cX2_back 9 = .ok (.bipush 7, 2) := by decide +kernel
theorem dX2_back_11 : decode cX2_back 11 = .ok (.aload_n 0, 1) := by decide +kernel
