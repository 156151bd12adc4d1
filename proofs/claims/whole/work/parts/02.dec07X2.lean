theorem dX2_isTrue_40 : decode cX2_isTrue 40 = .ok (.iconst 1, 1) := by decide +kernel
theorem dX2_isTrue_41 : decode cX2_isTrue 41 = .ok (.goto 4, 3) := by decide +kernel
theorem dX2_isTrue_44 : decode cX2_isTrue 44 = .ok (.iconst 0, 1) := by decide +kernel
theorem dX2_isTrue_45 : decode cX2_isTrue 45 = .ok (.istore 4, 2) := by decide +kernel
theorem dX2_isTrue_47 : decode cX2_isTrue 47 = .ok (.aload_n 0, 1) := by decide +kernel
theorem dX2_isTrue_48 : decode cX2_isTrue 48 = .ok (.getfield 17, 3) := by decide +kernel
theorem dX2_isTrue_51 : decode cX2_isTrue 51 = .ok (.iconst 1, 1) := by decide +kernel
theorem dX2_isTrue_52 : decode cX2_isTrue 52 = .ok (.iand, 1) := by decide +kernel
theorem dX2_isTrue_53 : decode cX2_isTrue 53 = .ok (.ifCond .eq 7, 3) := by decide +kernel
theorem dX2_isTrue_56 : decode cX2_isTrue 56 = .ok (.iconst 1, 1) := by decide +kernel
theorem dX2_isTrue_57 : decode cX2_isTrue 57 = .ok (.goto 4, 3) := by decide +kernel
theorem dX2_isTrue_60 : decode cX2_isTrue 60 = .ok (.iconst 0, 1) := by decide +kernel
theorem dX2_isTrue_61 : decode cX2_isTrue 61 = .ok (.istore 5, 2) := by decide +kernel
theorem dX2_isTrue_63 : decode cX2_isTrue 63 = .ok (.iload_n 1, 1) := by decide +kernel
theorem dX2_isTrue_64 : decode cX2_isTrue 64 = .ok (.bipush 8, 2) := by decide +kernel
theorem dX2_isTrue_66 : decode cX2_isTrue 66 = .ok (.if_icmp .ge 61, 3) := by decide +kernel
theorem dX2_isTrue_69 : decode cX2_isTrue 69 = .ok (.iload_n 1, 1) := by decide +kernel
theorem dX2_isTrue_70 : decode cX2_isTrue 70 = .ok (.iconst 2, 1) := by decide +kernel
theorem dX2_isTrue_71 : decode cX2_isTrue 71 = .ok (.idiv, 1) := by decide +kernel
theorem dX2_isTrue_72 : decode cX2_isTrue 72 = .ok (.iconst 1, 1) := by decide +kernel
theorem dX2_isTrue_73 : decode cX2_isTrue 73 = .ok (.if_icmp .ne 15, 3) := by decide +kernel
theorem dX2_isTrue_76 : decode cX2_isTrue 76 = .ok (.iload_n 3, 1) := by decide +kernel
theorem dX2_isTrue_77 : decode cX2_isTrue 77 = .ok (.ifCond .ne 7, 3) := by decide +kernel
theorem dX2_isTrue_80 : decode cX2_isTrue 80 = .ok (.iconst 1, 1) := by decide +kernel
theorem dX2_isTrue_81 : decode cX2_isTrue 81 = .ok (.goto 122, 3) := by decide +kernel
theorem dX2_isTrue_84 : decode cX2_isTrue 84 = .ok (.iconst 0, 1) := by decide +kernel
theorem dX2_isTrue_85 : decode cX2_isTrue 85 = .ok (.goto 118, 3) := by decide +kernel
theorem dX2_isTrue_88 : decode cX2_isTrue 88 = .ok (.iload_n 1, 1) := by decide +kernel
theorem dX2_isTrue_89 : decode cX2_isTrue 89 = .ok (.iconst 2, 1) := by decide +kernel
theorem dX2_isTrue_90 : decode cX2_isTrue 90 = .ok (.idiv, 1) := by decide +kernel
theorem dX2_isTrue_91 : decode cX2_isTrue 91 = .ok (.iconst 2, 1) := by decide +kernel
theorem dX2_isTrue_92 : decode cX2_isTrue 92 = .ok (.if_icmp .ne 17, 3) := by decide +kernel
theorem dX2_isTrue_95 : decode cX2_isTrue 95 = .ok (.iload_n 2, 1) := by decide +kernel
theorem dX2_isTrue_96 : decode cX2_isTrue 96 = .ok (.iload 4, 2) := by decide +kernel
theorem dX2_isTrue_98 : decode cX2_isTrue 98 = .ok (.if_icmp .ne 7, 3) := by decide +kernel
theorem dX2_isTrue_101 : decode cX2_isTrue 101 = .ok (.iconst 1, 1) := by decide +kernel
theorem dX2_isTrue_102 : decode cX2_isTrue 102 = .ok (.goto 101, 3) := by decide +kernel
theorem dX2_isTrue_105 : decode cX2_isTrue 105 = .ok (.iconst 0, 1) := by decide +kernel
theorem dX2_isTrue_106 : decode cX2_isTrue 106 = .ok (.goto 97, 3) := by decide +kernel
theorem dX2_isTrue_109 : decode cX2_isTrue 109 = .ok (.iload_n 3, 1) := by decide +kernel
theorem dX2_isTrue_110 : decode cX2_isTrue 110 = .ok (.ifCond .ne 13, 3) := by decide +kernel
theorem dX2_isTrue_113 : decode cX2_isTrue 113 = .ok (.iload_n 2, 1) := by decide +kernel
theorem dX2_isTrue_114 : decode cX2_isTrue 114 = .ok (.iload 4, 2) := by decide +kernel
theorem dX2_isTrue_116 : decode cX2_isTrue 116 = .ok (.if_icmp .ne 7, 3) := by decide +kernel
theorem dX2_isTrue_119 : decode cX2_isTrue 119 = .ok (.iconst 1, 1) := by decide +kernel
theorem dX2_isTrue_120 : decode cX2_isTrue 120 = .ok (.goto 83, 3) := by decide +kernel
theorem dX2_isTrue_123 : decode cX2_isTrue 123 = .ok (.iconst 0, 1) := by decide +kernel
theorem dX2_isTrue_124 : decode cX2_isTrue 124 = .ok (.goto 79, 3) := by decide +kernel
theorem dX2_isTrue_127 : decode cX2_isTrue 127 = .ok (.iload_n 1, 1) := by decide +kernel
theorem dX2_isTrue_128 : decode cX2_isTrue 128 = .ok (.iconst 2, 1) := by decide +kernel
theorem dX2_isTrue_129 : decode cX2_isTrue 129 = .ok (.idiv, 1) := by decide +kernel
theorem dX2_isTrue_130 : decode cX2_isTrue 130 = .ok (.bipush 64, 2) := by decide +kernel
theorem dX2_isTrue_132 : decode cX2_isTrue 132 = .ok (.if_icmp .ne 15, 3) := by decide +kernel
theorem dX2_isTrue_135 : decode cX2_isTrue 135 = .ok (.iload_n 2, 1) := by decide +kernel
theorem dX2_isTrue_136 : decode cX2_isTrue 136 = .ok (.ifCond .ne 7, 3) := by decide +kernel
theorem dX2_isTrue_139 : decode cX2_isTrue 139 = .ok (.iconst 1, 1) := by decide +kernel
theorem dX2_isTrue_140 : decode cX2_isTrue 140 = .ok (.goto 63, 3) := by decide +kernel
theorem dX2_isTrue_143 : decode cX2_isTrue 143 = .ok (.iconst 0, 1) := by decide +kernel
theorem dX2_isTrue_144 : decode cX2_isTrue 144 = .ok (.goto 59, 3) := by decide +kernel
theorem dX2_isTrue_147 : decode cX2_isTrue 147 = .ok (.iload_n 1, 1) := by decide +kernel
theorem dX2_isTrue_148 : decode cX2_isTrue 148 = .ok (.iconst 2, 1) := by decide +kernel
theorem dX2_isTrue_149 : decode cX2_isTrue 149 = .ok (.idiv, 1) := by decide +kernel
theorem dX2_isTrue_150 : decode cX2_isTrue 150 = .ok (.bipush 65, 2) := by decide +kernel
theorem dX2_isTrue_152 : decode cX2_isTrue 152 = .ok (.if_icmp .ne 20, 3) := by decide +kernel
theorem dX2_isTrue_155 : decode cX2_isTrue 155 = .ok (.iload 5, 2) := by decide +kernel
theorem dX2_isTrue_157 : decode cX2_isTrue 157 = .ok (.ifCond .ne 11, 3) := by decide +kernel
theorem dX2_isTrue_160 : decode cX2_isTrue 160 = .ok (.iload_n 3, 1) := by decide +kernel
theorem dX2_isTrue_161 : decode cX2_isTrue 161 = .ok (.ifCond .ne 7, 3) := by decide +kernel
theorem dX2_isTrue_164 : decode cX2_isTrue 164 = .ok (.iconst 1, 1) := by decide +kernel
theorem dX2_isTrue_165 : decode cX2_isTrue 165 = .ok (.goto 38, 3) := by decide +kernel
theorem dX2_isTrue_168 : decode cX2_isTrue 168 = .ok (.iconst 0, 1) := by decide +kernel
theorem dX2_isTrue_169 : decode cX2_isTrue 169 = .ok (.goto 34, 3) := by decide +kernel
theorem dX2_isTrue_172 : decode cX2_isTrue 172 = .ok (.iload_n 1, 1) := by decide +kernel
theorem dX2_isTrue_173 : decode cX2_isTrue 173 = .ok (.iconst 2, 1) := by decide +kernel
theorem dX2_isTrue_174 : decode cX2_isTrue 174 = .ok (.idiv, 1) := by decide +kernel
theorem dX2_isTrue_175 : decode cX2_isTrue 175 = .ok (.bipush 66, 2) := by decide +kernel
theorem dX2_isTrue_177 : decode cX2_isTrue 177 = .ok (.if_icmp .ne 16, 3) := by decide +kernel
theorem dX2_isTrue_180 : decode cX2_isTrue 180 = .ok (.iload 4, 2) := by decide +kernel
theorem dX2_isTrue_182 : decode cX2_isTrue 182 = .ok (.ifCond .ne 7, 3) := by decide +kernel
theorem dX2_isTrue_185 : decode cX2_isTrue 185 = .ok (.iconst 1, 1) := by decide +kernel
theorem dX2_isTrue_186 : decode cX2_isTrue 186 = .ok (.goto 17, 3) := by decide +kernel
theorem dX2_isTrue_189 : decode cX2_isTrue 189 = .ok (.iconst 0, 1) := by decide +kernel
theorem dX2_isTrue_190 : decode cX2_isTrue 190 = .ok (.goto 13, 3) := by decide +kernel
theorem dX2_isTrue_193 : decode cX2_isTrue 193 = .ok (.iload 5, 2) := by decide +kernel
theorem dX2_isTrue_195 : decode cX2_isTrue 195 = .ok (.ifCond .ne 7, 3) := by decide +kernel
theorem dX2_isTrue_198 : decode cX2_isTrue 198 = .ok (.iconst 1, 1) := by decide +kernel
theorem dX2_isTrue_199 : decode cX2_isTrue 199 = .ok (.goto 4, 3) := by decide +kernel
theorem dX2_isTrue_202 : decode cX2_isTrue 202 = .ok (.iconst 0, 1) := by decide +kernel
theorem dX2_isTrue_203 : decode cX2_isTrue 203 = .ok (.istore 6, 2) := by decide +kernel
theorem dX2_isTrue_205 : decode cX2_isTrue 205 = .ok (.iload_n 1, 1) := by decide +kernel
theorem dX2_isTrue_206 : decode cX2_isTrue 206 = .ok (.iconst 1, 1) := by decide +kernel
theorem dX2_isTrue_207 : decode cX2_isTrue 207 = .ok (.if_icmp .eq 19, 3) := by decide +kernel
theorem dX2_isTrue_210 : decode cX2_isTrue 210 = .ok (.iload_n 1, 1) := by decide +kernel
theorem dX2_isTrue_211 : decode cX2_isTrue 211 = .ok (.iconst 2, 1) := by decide +kernel
theorem dX2_isTrue_212 : decode cX2_isTrue 212 = .ok (.irem, 1) := by decide +kernel
theorem dX2_isTrue_213 : decode cX2_isTrue 213 = .ok (.ifCond .ne 7, 3) := by decide +kernel
theorem dX2_isTrue_216 : decode cX2_isTrue 216 = .ok (.iconst 1, 1) := by decide +kernel
theorem dX2_isTrue_217 : decode cX2_isTrue 217 = .ok (.goto 4, 3) := by decide +kernel
theorem dX2_isTrue_220 : decode cX2_isTrue 220 = .ok (.iconst 0, 1) := by decide +kernel
theorem dX2_isTrue_221 : decode cX2_isTrue 221 = .ok (.iload 6, 2) := by decide +kernel
theorem dX2_isTrue_223 : decode cX2_isTrue 223 = .ok (.if_icmp .ne 7, 3) := by decide +kernel
theorem dX2_isTrue_226 : decode cX2_isTrue 226 = .ok (.iconst 1, 1) := by decide +kernel
theorem dX2_isTrue_227 : decode cX2_isTrue 227 = .ok (.goto 4, 3) := by decide +kernel
theorem dX2_isTrue_230 : decode cX2_isTrue 230 = .ok (.iconst 0, 1) := by decide +kernel
theorem dX2_isTrue_231 : decode cX2_isTrue 231 = .ok (.ireturn, 1) := by decide +kernel
theorem dX2_doOne_0 : decode cX2_doOne 0 = .ok (.aload_n 0, 1) := by decide +kernel
theorem dX2_doOne_1 : decode cX2_doOne 1 = .ok (.iload_n 1, 1) := by decide +kernel
theorem dX2_doOne_2 : decode cX2_doOne 2 = .ok (.bipush 63, 2) := by decide +kernel
theorem dX2_doOne_4 : decode cX2_doOne 4 = .ok (.iand, 1) := by decide +kernel
theorem dX2_doOne_5 : decode cX2_doOne 5 = .ok (.iload_n 3, 1) := by decide +kernel
theorem dX2_doOne_6 : decode cX2_doOne 6 = .ok (.invokevirtual 54, 3) := by decide +kernel
theorem dX2_doOne_9 : decode cX2_doOne 9 = .ok (.aload_n 0, 1) := by decide +kernel
theorem dX2_doOne_10 : decode cX2_doOne 10 = .ok (.iload_n 3, 1) := by decide +kernel
theorem dX2_doOne_11 : decode cX2_doOne 11 = .ok (.invokevirtual 58, 3) := by decide +kernel
theorem dX2_doOne_14 : decode cX2_doOne 14 = .ok (.istore 4, 2) := by decide +kernel
theorem dX2_doOne_16 : decode cX2_doOne 16 = .ok (.aload_n 0, 1) := by decide +kernel
theorem dX2_doOne_17 : decode cX2_doOne 17 = .ok (.getfield 25, 3) := by decide +kernel
theorem dX2_doOne_20 : decode cX2_doOne 20 = .ok (.ifCond .le 4, 3) := by decide +kernel
theorem dX2_doOne_23 : decode cX2_doOne 23 = .ok (.return_, 1) := by decide +kernel
theorem dX2_doOne_24 : decode cX2_doOne 24 = .ok (.aload_n 0, 1) := by decide +kernel
theorem dX2_doOne_25 : decode cX2_doOne 25 = .ok (.dup, 1) := by decide +kernel
theorem dX2_doOne_26 : decode cX2_doOne 26 = .ok (.getfield 39, 3) := by decide +kernel
theorem dX2_doOne_29 : decode cX2_doOne 29 = .ok (.iconst 1, 1) := by decide +kernel
theorem dX2_doOne_30 : decode cX2_doOne 30 = .ok (.iadd, 1) := by decide +kernel
theorem dX2_doOne_31 : decode cX2_doOne 31 = .ok (.putfield 39, 3) := by decide +kernel
theorem dX2_doOne_34 : decode cX2_doOne 34 = .ok (.iload_n 3, 1) := by decide +kernel
theorem dX2_doOne_35 : decode cX2_doOne 35 = .ok (.ifCond .eq 9, 3) := by decide +kernel
theorem dX2_doOne_38 : decode cX2_doOne 38 = .ok (.sipush 128, 3) := by decide +kernel
theorem dX2_doOne_41 : decode cX2_doOne 41 = .ok (.goto 5, 3) := by decide +kernel
theorem dX2_doOne_44 : decode cX2_doOne 44 = .ok (.ldc 62, 2) := by decide +kernel
theorem dX2_doOne_46 : decode cX2_doOne 46 = .ok (.istore 5, 2) := by decide +kernel
theorem dX2_doOne_48 : decode cX2_doOne 48 = .ok (.iconst 0, 1) := by decide +kernel
theorem dX2_doOne_49 : decode cX2_doOne 49 = .ok (.istore 6, 2) := by decide +kernel
theorem dX2_doOne_51 : decode cX2_doOne 51 = .ok (.iload_n 2, 1) := by decide +kernel
theorem dX2_doOne_52 : decode cX2_doOne 52 = .ok (.iconst 3, 1) := by decide +kernel
theorem dX2_doOne_53 : decode cX2_doOne 53 = .ok (.if_icmp .ne 38, 3) := by decide +kernel
theorem dX2_doOne_56 : decode cX2_doOne 56 = .ok (.iload 4, 2) := by decide +kernel
theorem dX2_doOne_58 : decode cX2_doOne 58 = .ok (.bipush 8, 2) := by decide +kernel
theorem dX2_doOne_60 : decode cX2_doOne 60 = .ok (.ishr, 1) := by decide +kernel
theorem dX2_doOne_61 : decode cX2_doOne 61 = .ok (.iload 4, 2) := by decide +kernel
theorem dX2_doOne_63 : decode cX2_doOne 63 = .ok (.sipush 255, 3) := by decide +kernel
theorem dX2_doOne_66 : decode cX2_doOne 66 = .ok (.iand, 1) := by decide +kernel
theorem dX2_doOne_67 : decode cX2_doOne 67 = .ok (.bipush 8, 2) := by decide +kernel
theorem dX2_doOne_69 : decode cX2_doOne 69 = .ok (.ishl, 1) := by decide +kernel
theorem dX2_doOne_70 : decode cX2_doOne 70 = .ok (.ior, 1) := by decide +kernel
theorem dX2_doOne_71 : decode cX2_doOne 71 = .ok (.istore 6, 2) := by decide +kernel
theorem dX2_doOne_73 : decode cX2_doOne 73 = .ok (.aload_n 0, 1) := by decide +kernel
theorem dX2_doOne_74 : decode cX2_doOne 74 = .ok (.iload 6, 2) := by decide +kernel
theorem dX2_doOne_76 : decode cX2_doOne 76 = .ok (.sipush 255, 3) := by decide +kernel
theorem dX2_doOne_79 : decode cX2_doOne 79 = .ok (.iand, 1) := by decide +kernel
theorem dX2_doOne_80 : decode cX2_doOne 80 = .ok (.sipush 128, 3) := by decide +kernel
theorem dX2_doOne_83 : decode cX2_doOne 83 = .ok (.iconst 0, 1) := by decide +kernel
theorem dX2_doOne_84 : decode cX2_doOne 84 = .ok (.iconst 0, 1) := by decide +kernel
theorem dX2_doOne_85 : decode cX2_doOne 85 = .ok (.invokevirtual 50, 3) := by decide +kernel
theorem dX2_doOne_88 : decode cX2_doOne 88 = .ok (.goto 38, 3) := by decide +kernel
theorem dX2_doOne_91 : decode cX2_doOne 91 = .ok (.iload_n 2, 1) := by decide +kernel
theorem dX2_doOne_92 : decode cX2_doOne 92 = .ok (.bipush 48, 2) := by decide +kernel
theorem dX2_doOne_94 : decode cX2_doOne 94 = .ok (.if_icmp .ge 18, 3) := by decide +kernel
theorem dX2_doOne_97 : decode cX2_doOne 97 = .ok (.aload_n 0, 1) := by decide +kernel
theorem dX2_doOne_98 : decode cX2_doOne 98 = .ok (.iload_n 2, 1) := by decide +kernel
theorem dX2_doOne_99 : decode cX2_doOne 99 = .ok (.bipush 40, 2) := by decide +kernel
theorem dX2_doOne_101 : decode cX2_doOne 101 = .ok (.isub, 1) := by decide +kernel
theorem dX2_doOne_102 : decode cX2_doOne 102 = .ok (.iload 4, 2) := by decide +kernel
theorem dX2_doOne_104 : decode cX2_doOne 104 = .ok (.iload 5, 2) := by decide +kernel
theorem dX2_doOne_106 : decode cX2_doOne 106 = .ok (.invokevirtual 71, 3) := by decide +kernel
theorem dX2_doOne_109 : decode cX2_doOne 109 = .ok (.goto 15, 3) := by decide +kernel
theorem dX2_doOne_112 : decode cX2_doOne 112 = .ok (.aload_n 0, 1) := by decide +kernel
theorem dX2_doOne_113 : decode cX2_doOne 113 = .ok (.iload_n 2, 1) := by decide +kernel
theorem dX2_doOne_114 : decode cX2_doOne 114 = .ok (.bipush 48, 2) := by decide +kernel
theorem dX2_doOne_116 : decode cX2_doOne 116 = .ok (.isub, 1) := by decide +kernel
theorem dX2_doOne_117 : decode cX2_doOne 117 = .ok (.iload 4, 2) := by decide +kernel
theorem dX2_doOne_119 : decode cX2_doOne 119 = .ok (.iload 5, 2) := by decide +kernel
theorem dX2_doOne_121 : decode cX2_doOne 121 = .ok (.invokevirtual 75, 3) := by decide +kernel
theorem dX2_doOne_124 : decode cX2_doOne 124 = .ok (.istore 6, 2) := by decide +kernel
theorem dX2_doOne_126 : decode cX2_doOne 126 = .ok (.iload_n 2, 1) := by decide +kernel
theorem dX2_doOne_127 : decode cX2_doOne 127 = .ok (.bipush 47, 2) := by decide +kernel
theorem dX2_doOne_129 : decode cX2_doOne 129 = .ok (.if_icmp .eq 11, 3) := by decide +kernel
theorem dX2_doOne_132 : decode cX2_doOne 132 = .ok (.aload_n 0, 1) := by decide +kernel
theorem dX2_doOne_133 : decode cX2_doOne 133 = .ok (.iload 6, 2) := by decide +kernel
theorem dX2_doOne_135 : decode cX2_doOne 135 = .ok (.iload_n 3, 1) := by decide +kernel
theorem dX2_doOne_136 : decode cX2_doOne 136 = .ok (.iconst 0, 1) := by decide +kernel
theorem dX2_doOne_137 : decode cX2_doOne 137 = .ok (.invokevirtual 67, 3) := by decide +kernel
theorem dX2_doOne_140 : decode cX2_doOne 140 = .ok (.return_, 1) := by decide +kernel
theorem dX2_find_0 : decode cX2_find 0 = .ok (.iload_n 1, 1) := by decide +kernel
theorem dX2_find_1 : decode cX2_find 1 = .ok (.iconst 3, 1) := by decide +kernel
theorem dX2_find_2 : decode cX2_find 2 = .ok (.ishr, 1) := by decide +kernel
theorem dX2_find_3 : decode cX2_find 3 = .ok (.bipush 7, 2) := by decide +kernel
theorem dX2_find_5 : decode cX2_find 5 = .ok (.iand, 1) := by decide +kernel
theorem dX2_find_6 : decode cX2_find 6 = .ok (.istore_n 3, 1) := by decide +kernel
theorem dX2_find_7 : decode cX2_find 7 = .ok (.iload_n 1, 1) := by decide +kernel
theorem dX2_find_8 : decode cX2_find 8 = .ok (.bipush 7, 2) := by decide +kernel
theorem dX2_find_10 : decode cX2_find 10 = .ok (.iand, 1) := by decide +kernel
theorem dX2_find_11 : decode cX2_find 11 = .ok (.istore 4, 2) := by decide +kernel
theorem dX2_find_13 : decode cX2_find 13 = .ok (.iload_n 2, 1) := by decide +kernel
theorem dX2_find_14 : decode cX2_find 14 = .ok (.ifCond .eq 20, 3) := by decide +kernel
theorem dX2_find_17 : decode cX2_find 17 = .ok (.iload_n 3, 1) := by decide +kernel
theorem dX2_find_18 : decode cX2_find 18 = .ok (.iconst 2, 1) := by decide +kernel
theorem dX2_find_19 : decode cX2_find 19 = .ok (.irem, 1) := by decide +kernel
theorem dX2_find_20 : decode cX2_find 20 = .ok (.ifCond .ne 14, 3) := by decide +kernel
theorem dX2_find_23 : decode cX2_find 23 = .ok (.iload 4, 2) := by decide +kernel
theorem dX2_find_25 : decode cX2_find 25 = .ok (.bipush 6, 2) := by decide +kernel
theorem dX2_find_27 : decode cX2_find 27 = .ok (.if_icmp .ge 7, 3) := by decide +kernel
theorem dX2_find_30 : decode cX2_find 30 = .ok (.iconst 1, 1) := by decide +kernel
theorem dX2_find_31 : decode cX2_find 31 = .ok (.goto 4, 3) := by decide +kernel
theorem dX2_find_34 : decode cX2_find 34 = .ok (.iconst 2, 1) := by decide +kernel
theorem dX2_find_35 : decode cX2_find 35 = .ok (.istore 5, 2) := by decide +kernel
theorem dX2_find_37 : decode cX2_find 37 = .ok (.aload_n 0, 1) := by decide +kernel
theorem dX2_find_38 : decode cX2_find 38 = .ok (.iconst (-1), 1) := by decide +kernel
theorem dX2_find_39 : decode cX2_find 39 = .ok (.iload 4, 2) := by decide +kernel
theorem dX2_find_41 : decode cX2_find 41 = .ok (.isub, 1) := by decide +kernel
theorem dX2_find_42 : decode cX2_find 42 = .ok (.putfield 36, 3) := by decide +kernel
theorem dX2_find_45 : decode cX2_find 45 = .ok (.iload_n 3, 1) := by decide +kernel
theorem dX2_find_46 : decode cX2_find 46 = .ok (.ifCond .ne 4, 3) := by decide +kernel
theorem dX2_find_49 : decode cX2_find 49 = .ok (.return_, 1) := by decide +kernel
theorem dX2_find_50 : decode cX2_find 50 = .ok (.iload_n 3, 1) := by decide +kernel
theorem dX2_find_51 : decode cX2_find 51 = .ok (.iconst 2, 1) := by decide +kernel
theorem dX2_find_52 : decode cX2_find 52 = .ok (.idiv, 1) := by decide +kernel
theorem dX2_find_53 : decode cX2_find 53 = .ok (.istore 6, 2) := by decide +kernel
theorem dX2_find_55 : decode cX2_find 55 = .ok (.aload_n 0, 1) := by decide +kernel
theorem dX2_find_56 : decode cX2_find 56 = .ok (.dup, 1) := by decide +kernel
theorem dX2_find_57 : decode cX2_find 57 = .ok (.getfield 39, 3) := by decide +kernel
theorem dX2_find_60 : decode cX2_find 60 = .ok (.iload 6, 2) := by decide +kernel
theorem dX2_find_62 : decode cX2_find 62 = .ok (.ifCond .ne 7, 3) := by decide +kernel
theorem dX2_find_65 : decode cX2_find 65 = .ok (.iconst 1, 1) := by decide +kernel
theorem dX2_find_66 : decode cX2_find 66 = .ok (.goto 24, 3) := by decide +kernel
theorem dX2_find_69 : decode cX2_find 69 = .ok (.iload 6, 2) := by decide +kernel
theorem dX2_find_71 : decode cX2_find 71 = .ok (.iconst 1, 1) := by decide +kernel
theorem dX2_find_72 : decode cX2_find 72 = .ok (.if_icmp .ne 7, 3) := by decide +kernel
theorem dX2_find_75 : decode cX2_find 75 = .ok (.iconst 1, 1) := by decide +kernel
theorem dX2_find_76 : decode cX2_find 76 = .ok (.goto 14, 3) := by decide +kernel
theorem dX2_find_79 : decode cX2_find 79 = .ok (.iload 6, 2) := by decide +kernel
theorem dX2_find_81 : decode cX2_find 81 = .ok (.iconst 2, 1) := by decide +kernel
theorem dX2_find_82 : decode cX2_find 82 = .ok (.if_icmp .ne 7, 3) := by decide +kernel
theorem dX2_find_85 : decode cX2_find 85 = .ok (.iconst 2, 1) := by decide +kernel
theorem dX2_find_86 : decode cX2_find 86 = .ok (.goto 4, 3) := by decide +kernel
theorem dX2_find_89 : decode cX2_find 89 = .ok (.iconst 3, 1) := by decide +kernel
theorem dX2_find_90 : decode cX2_find 90 = .ok (.iadd, 1) := by decide +kernel
theorem dX2_find_91 : decode cX2_find 91 = .ok (.putfield 39, 3) := by decide +kernel
theorem dX2_find_94 : decode cX2_find 94 = .ok (.aload_n 0, 1) := by decide +kernel
theorem dX2_find_95 : decode cX2_find 95 = .ok (.aload_n 0, 1) := by decide +kernel
theorem dX2_find_96 : decode cX2_find 96 = .ok (.getfield 13, 3) := by decide +kernel
theorem dX2_find_99 : decode cX2_find 99 = .ok (.iload 4, 2) := by decide +kernel
theorem dX2_find_101 : decode cX2_find 101 = .ok (.iaload, 1) := by decide +kernel
theorem dX2_find_102 : decode cX2_find 102 = .ok (.putfield 36, 3) := by decide +kernel
theorem dX2_find_105 : decode cX2_find 105 = .ok (.iload 6, 2) := by decide +kernel
theorem dX2_find_107 : decode cX2_find 107 = .ok (.iconst 1, 1) := by decide +kernel
theorem dX2_find_108 : decode cX2_find 108 = .ok (.if_icmp .ne 11, 3) := by decide +kernel
theorem dX2_find_111 : decode cX2_find 111 = .ok (.aload_n 0, 1) := by decide +kernel
theorem dX2_find_112 : decode cX2_find 112 = .ok (.iload 4, 2) := by decide +kernel
theorem dX2_find_114 : decode cX2_find 114 = .ok (.iload 5, 2) := by decide +kernel
theorem dX2_find_116 : decode cX2_find 116 = .ok (.invokevirtual 28, 3) := by decide +kernel
theorem dX2_find_119 : decode cX2_find 119 = .ok (.iload 6, 2) := by decide +kernel
theorem dX2_find_121 : decode cX2_find 121 = .ok (.iconst 2, 1) := by decide +kernel
theorem dX2_find_122 : decode cX2_find 122 = .ok (.if_icmp .ne 23, 3) := by decide +kernel
theorem dX2_find_125 : decode cX2_find 125 = .ok (.aload_n 0, 1) := by decide +kernel
theorem dX2_find_126 : decode cX2_find 126 = .ok (.iload 4, 2) := by decide +kernel
theorem dX2_find_128 : decode cX2_find 128 = .ok (.iload 5, 2) := by decide +kernel
theorem dX2_find_130 : decode cX2_find 130 = .ok (.ineg, 1) := by decide +kernel
theorem dX2_find_131 : decode cX2_find 131 = .ok (.invokevirtual 28, 3) := by decide +kernel
theorem dX2_find_134 : decode cX2_find 134 = .ok (.aload_n 0, 1) := by decide +kernel
theorem dX2_find_135 : decode cX2_find 135 = .ok (.aload_n 0, 1) := by decide +kernel
theorem dX2_find_136 : decode cX2_find 136 = .ok (.getfield 13, 3) := by decide +kernel
theorem dX2_find_139 : decode cX2_find 139 = .ok (.iload 4, 2) := by decide +kernel
theorem dX2_find_141 : decode cX2_find 141 = .ok (.iaload, 1) := by decide +kernel
theorem dX2_find_142 : decode cX2_find 142 = .ok (.putfield 36, 3) := by decide +kernel
theorem dX2_find_145 : decode cX2_find 145 = .ok (.iload 6, 2) := by decide +kernel
theorem dX2_find_147 : decode cX2_find 147 = .ok (.iconst 3, 1) := by decide +kernel
theorem dX2_find_148 : decode cX2_find 148 = .ok (.if_icmp .ne 26, 3) := by decide +kernel
theorem dX2_find_151 : decode cX2_find 151 = .ok (.aload_n 0, 1) := by decide +kernel
theorem dX2_find_152 : decode cX2_find 152 = .ok (.invokevirtual 42, 3) := by decide +kernel
theorem dX2_find_155 : decode cX2_find 155 = .ok (.istore 7, 2) := by decide +kernel
theorem dX2_find_157 : decode cX2_find 157 = .ok (.aload_n 0, 1) := by decide +kernel
theorem dX2_find_158 : decode cX2_find 158 = .ok (.iload 7, 2) := by decide +kernel
theorem dX2_find_160 : decode cX2_find 160 = .ok (.aload_n 0, 1) := by decide +kernel
theorem dX2_find_161 : decode cX2_find 161 = .ok (.getfield 13, 3) := by decide +kernel
theorem dX2_find_164 : decode cX2_find 164 = .ok (.iload 4, 2) := by decide +kernel
theorem dX2_find_166 : decode cX2_find 166 = .ok (.iaload, 1) := by decide +kernel
theorem dX2_find_167 : decode cX2_find 167 = .ok (.iadd, 1) := by decide +kernel
theorem dX2_find_168 : decode cX2_find 168 = .ok (.ldc 16, 2) := by decide +kernel
theorem dX2_find_170 : decode cX2_find 170 = .ok (.iand, 1) := by decide +kernel
theorem dX2_find_171 : decode cX2_find 171 = .ok (.putfield 36, 3) := by decide +kernel
theorem dX2_find_174 : decode cX2_find 174 = .ok (.iload_n 3, 1) := by decide +kernel
theorem dX2_find_175 : decode cX2_find 175 = .ok (.iconst 3, 1) := by decide +kernel
theorem dX2_find_176 : decode cX2_find 176 = .ok (.if_icmp .eq 14, 3) := by decide +kernel
theorem dX2_find_179 : decode cX2_find 179 = .ok (.iload_n 3, 1) := by decide +kernel
theorem dX2_find_180 : decode cX2_find 180 = .ok (.iconst 5, 1) := by decide +kernel
theorem dX2_find_181 : decode cX2_find 181 = .ok (.if_icmp .eq 9, 3) := by decide +kernel
theorem dX2_find_184 : decode cX2_find 184 = .ok (.iload_n 3, 1) := by decide +kernel
theorem dX2_find_185 : decode cX2_find 185 = .ok (.bipush 7, 2) := by decide +kernel
theorem dX2_find_187 : decode cX2_find 187 = .ok (.if_icmp .ne 25, 3) := by decide +kernel
theorem dX2_find_190 : decode cX2_find 190 = .ok (.aload_n 0, 1) := by decide +kernel
theorem dX2_find_191 : decode cX2_find 191 = .ok (.dup, 1) := by decide +kernel
theorem dX2_find_192 : decode cX2_find 192 = .ok (.getfield 39, 3) := by decide +kernel
theorem dX2_find_195 : decode cX2_find 195 = .ok (.iconst 1, 1) := by decide +kernel
theorem dX2_find_196 : decode cX2_find 196 = .ok (.iadd, 1) := by decide +kernel
theorem dX2_find_197 : decode cX2_find 197 = .ok (.putfield 39, 3) := by decide +kernel
theorem dX2_find_200 : decode cX2_find 200 = .ok (.aload_n 0, 1) := by decide +kernel
theorem dX2_find_201 : decode cX2_find 201 = .ok (.aload_n 0, 1) := by decide +kernel
theorem dX2_find_202 : decode cX2_find 202 = .ok (.aload_n 0, 1) := by decide +kernel
theorem dX2_find_203 : decode cX2_find 203 = .ok (.getfield 36, 3) := by decide +kernel
theorem dX2_find_206 : decode cX2_find 206 = .ok (.invokevirtual 32, 3) := by decide +kernel
theorem dX2_find_209 : decode cX2_find 209 = .ok (.putfield 36, 3) := by decide +kernel
theorem dX2_find_212 : decode cX2_find 212 = .ok (.return_, 1) := by decide +kernel
theorem dX2_read_0 : decode cX2_read 0 = .ok (.aload_n 0, 1) := by decide +kernel
theorem dX2_read_1 : decode cX2_read 1 = .ok (.dup, 1) := by decide +kernel
theorem dX2_read_2 : decode cX2_read 2 = .ok (.getfield 39, 3) := by decide +kernel
theorem dX2_read_5 : decode cX2_read 5 = .ok (.iconst 1, 1) := by decide +kernel
theorem dX2_read_6 : decode cX2_read 6 = .ok (.iadd, 1) := by decide +kernel
theorem dX2_read_7 : decode cX2_read 7 = .ok (.putfield 39, 3) := by decide +kernel
theorem dX2_read_10 : decode cX2_read 10 = .ok (.aload_n 0, 1) := by decide +kernel
theorem dX2_read_11 : decode cX2_read 11 = .ok (.getfield 25, 3) := by decide +kernel
theorem dX2_read_14 : decode cX2_read 14 = .ok (.ifCond .le 5, 3) := by decide +kernel
theorem dX2_read_17 : decode cX2_read 17 = .ok (.iconst 0, 1) := by decide +kernel
theorem dX2_read_18 : decode cX2_read 18 = .ok (.ireturn, 1) := by decide +kernel
theorem dX2_read_19 : decode cX2_read 19 = .ok (.aload_n 0, 1) := by decide +kernel
theorem dX2_read_20 : decode cX2_read 20 = .ok (.getfield 36, 3) := by decide +kernel
theorem dX2_read_23 : decode cX2_read 23 = .ok (.ifCond .ge 28, 3) := by decide +kernel
theorem dX2_read_26 : decode cX2_read 26 = .ok (.aload_n 0, 1) := by decide +kernel
theorem dX2_read_27 : decode cX2_read 27 = .ok (.getfield 13, 3) := by decide +kernel
theorem dX2_read_30 : decode cX2_read 30 = .ok (.iconst (-1), 1) := by decide +kernel
theorem dX2_read_31 : decode cX2_read 31 = .ok (.aload_n 0, 1) := by decide +kernel
theorem dX2_read_32 : decode cX2_read 32 = .ok (.getfield 36, 3) := by decide +kernel
theorem dX2_read_35 : decode cX2_read 35 = .ok (.isub, 1) := by decide +kernel
theorem dX2_read_36 : decode cX2_read 36 = .ok (.iaload, 1) := by decide +kernel
theorem dX2_read_37 : decode cX2_read 37 = .ok (.iload_n 1, 1) := by decide +kernel
theorem dX2_read_38 : decode cX2_read 38 = .ok (.ifCond .eq 9, 3) := by decide +kernel
theorem dX2_read_41 : decode cX2_read 41 = .ok (.sipush 255, 3) := by decide +kernel
theorem dX2_read_44 : decode cX2_read 44 = .ok (.goto 5, 3) := by decide +kernel
theorem dX2_read_47 : decode cX2_read 47 = .ok (.ldc 16, 2) := by decide +kernel
theorem dX2_read_49 : decode cX2_read 49 = .ok (.iand, 1) := by decide +kernel
theorem dX2_read_50 : decode cX2_read 50 = .ok (.ireturn, 1) := by decide +kernel
theorem dX2_read_51 : decode cX2_read 51 = .ok (.iload_n 1, 1) := by decide +kernel
theorem dX2_read_52 : decode cX2_read 52 = .ok (.ifCond .eq 14, 3) := by decide +kernel
theorem dX2_read_55 : decode cX2_read 55 = .ok (.aload_n 0, 1) := by decide +kernel
theorem dX2_read_56 : decode cX2_read 56 = .ok (.aload_n 0, 1) := by decide +kernel
theorem dX2_read_57 : decode cX2_read 57 = .ok (.getfield 36, 3) := by decide +kernel
theorem dX2_read_60 : decode cX2_read 60 = .ok (.invokevirtual 46, 3) := by decide +kernel
theorem dX2_read_63 : decode cX2_read 63 = .ok (.goto 11, 3) := by decide +kernel
theorem dX2_read_66 : decode cX2_read 66 = .ok (.aload_n 0, 1) := by decide +kernel
theorem dX2_read_67 : decode cX2_read 67 = .ok (.aload_n 0, 1) := by decide +kernel
theorem dX2_read_68 : decode cX2_read 68 = .ok (.getfield 36, 3) := by decide +kernel
theorem dX2_read_71 : decode cX2_read 71 = .ok (.invokevirtual 32, 3) := by decide +kernel
theorem dX2_read_74 : decode cX2_read 74 = .ok (.ireturn, 1) := by decide +kernel
theorem dX2_octet_0 : decode cX2_octet 0 = .ok (.aload_n 0, 1) := by decide +kernel
theorem dX2_octet_1 : decode cX2_octet 1 = .ok (.getfield 25, 3) := by decide +kernel
theorem dX2_octet_4 : decode cX2_octet 4 = .ok (.ifCond .le 5, 3) := by decide +kernel
theorem dX2_octet_7 : decode cX2_octet 7 = .ok (.iconst 0, 1) := by decide +kernel
theorem dX2_octet_8 : decode cX2_octet 8 = .ok (.ireturn, 1) := by decide +kernel
theorem dX2_octet_9 : decode cX2_octet 9 = .ok (.aload_n 0, 1) := by decide +kernel
theorem dX2_octet_10 : decode cX2_octet 10 = .ok (.iload_n 1, 1) := by decide +kernel
theorem dX2_octet_11 : decode cX2_octet 11 = .ok (.sipush 4096, 3) := by decide +kernel
theorem dX2_octet_14 : decode cX2_octet 14 = .ok (.if_icmp .lt 7, 3) := by decide +kernel
theorem dX2_octet_17 : decode cX2_octet 17 = .ok (.iconst 4, 1) := by decide +kernel
theorem dX2_octet_18 : decode cX2_octet 18 = .ok (.goto 4, 3) := by decide +kernel
theorem dX2_octet_21 : decode cX2_octet 21 = .ok (.iconst 0, 1) := by decide +kernel
theorem dX2_octet_22 : decode cX2_octet 22 = .ok (.putfield 25, 3) := by decide +kernel
theorem dX2_octet_25 : decode cX2_octet 25 = .ok (.aload_n 0, 1) := by decide +kernel
theorem dX2_octet_26 : decode cX2_octet 26 = .ok (.getfield 25, 3) := by decide +kernel
theorem dX2_octet_29 : decode cX2_octet 29 = .ok (.ifCond .le 7, 3) := by decide +kernel
theorem dX2_octet_32 : decode cX2_octet 32 = .ok (.iconst 0, 1) := by decide +kernel
theorem dX2_octet_33 : decode cX2_octet 33 = .ok (.goto 22, 3) := by decide +kernel
theorem dX2_octet_36 : decode cX2_octet 36 = .ok (.aload_n 0, 1) := by decide +kernel
theorem dX2_octet_37 : decode cX2_octet 37 = .ok (.getfield 7, 3) := by decide +kernel
theorem dX2_octet_40 : decode cX2_octet 40 = .ok (.iload_n 1, 1) := by decide +kernel
theorem dX2_octet_41 : decode cX2_octet 41 = .ok (.iconst 2, 1) := by decide +kernel
theorem dX2_octet_42 : decode cX2_octet 42 = .ok (.idiv, 1) := by decide +kernel
theorem dX2_octet_43 : decode cX2_octet 43 = .ok (.iaload, 1) := by decide +kernel
theorem dX2_octet_44 : decode cX2_octet 44 = .ok (.bipush 8, 2) := by decide +kernel
theorem dX2_octet_46 : decode cX2_octet 46 = .ok (.iload_n 1, 1) := by decide +kernel
theorem dX2_octet_47 : decode cX2_octet 47 = .ok (.iconst 2, 1) := by decide +kernel
theorem dX2_octet_48 : decode cX2_octet 48 = .ok (.irem, 1) := by decide +kernel
theorem dX2_octet_49 : decode cX2_octet 49 = .ok (.imul, 1) := by decide +kernel
theorem dX2_octet_50 : decode cX2_octet 50 = .ok (.ishr, 1) := by decide +kernel
theorem dX2_octet_51 : decode cX2_octet 51 = .ok (.sipush 255, 3) := by decide +kernel
theorem dX2_octet_54 : decode cX2_octet 54 = .ok (.iand, 1) := by decide +kernel
theorem dX2_octet_55 : decode cX2_octet 55 = .ok (.ireturn, 1) := by decide +kernel
theorem dX2_tell_0 : decode cX2_tell 0 = .ok (.aload_n 0, 1) := by decide +kernel
theorem dX2_tell_1 : decode cX2_tell 1 = .ok (.iload_n 1, 1) := by decide +kernel
theorem dX2_tell_2 : decode cX2_tell 2 = .ok (.iload_n 2, 1) := by decide +kernel
theorem dX2_tell_3 : decode cX2_tell 3 = .ok (.iand, 1) := by decide +kernel
theorem dX2_tell_4 : decode cX2_tell 4 = .ok (.ifCond .eq 8, 3) := by decide +kernel
theorem dX2_tell_7 : decode cX2_tell 7 = .ok (.bipush 8, 2) := by decide +kernel
theorem dX2_tell_9 : decode cX2_tell 9 = .ok (.goto 4, 3) := by decide +kernel
theorem dX2_tell_12 : decode cX2_tell 12 = .ok (.iconst 0, 1) := by decide +kernel
theorem dX2_tell_13 : decode cX2_tell 13 = .ok (.iload_n 1, 1) := by decide +kernel
theorem dX2_tell_14 : decode cX2_tell 14 = .ok (.ifCond .ne 7, 3) := by decide +kernel
theorem dX2_tell_17 : decode cX2_tell 17 = .ok (.iconst 4, 1) := by decide +kernel
theorem dX2_tell_18 : decode cX2_tell 18 = .ok (.goto 4, 3) := by decide +kernel
theorem dX2_tell_21 : decode cX2_tell 21 = .ok (.iconst 0, 1) := by decide +kernel
theorem dX2_tell_22 : decode cX2_tell 22 = .ok (.iadd, 1) := by decide +kernel
theorem dX2_tell_23 : decode cX2_tell 23 = .ok (.iload_n 3, 1) := by decide +kernel
theorem dX2_tell_24 : decode cX2_tell 24 = .ok (.ifCond .eq 7, 3) := by decide +kernel
theorem dX2_tell_27 : decode cX2_tell 27 = .ok (.iconst 2, 1) := by decide +kernel
theorem dX2_tell_28 : decode cX2_tell 28 = .ok (.goto 4, 3) := by decide +kernel
theorem dX2_tell_31 : decode cX2_tell 31 = .ok (.iconst 0, 1) := by decide +kernel
theorem dX2_tell_32 : decode cX2_tell 32 = .ok (.iadd, 1) := by decide +kernel
theorem dX2_tell_33 : decode cX2_tell 33 = .ok (.iload 4, 2) := by decide +kernel
theorem dX2_tell_35 : decode cX2_tell 35 = .ok (.ifCond .eq 7, 3) := by decide +kernel
theorem dX2_tell_38 : decode cX2_tell 38 = .ok (.iconst 1, 1) := by decide +kernel
theorem dX2_tell_39 : decode cX2_tell 39 = .ok (.goto 4, 3) := by decide +kernel
theorem dX2_tell_42 : decode cX2_tell 42 = .ok (.iconst 0, 1) := by decide +kernel
theorem dX2_tell_43 : decode cX2_tell 43 = .ok (.iadd, 1) := by decide +kernel
theorem dX2_tell_44 : decode cX2_tell 44 = .ok (.putfield 17, 3) := by decide +kernel
theorem dX2_tell_47 : decode cX2_tell 47 = .ok (.return_, 1) := by decide +kernel
theorem dX2_one_0 : decode cX2_one 0 = .ok (.iconst 2, 1) := by decide +kernel
theorem dX2_one_1 : decode cX2_one 1 = .ok (.iload_n 3, 1) := by decide +kernel
theorem dX2_one_2 : decode cX2_one 2 = .ok (.imul, 1) := by decide +kernel
theorem dX2_one_3 : decode cX2_one 3 = .ok (.iconst 1, 1) := by decide +kernel
theorem dX2_one_4 : decode cX2_one 4 = .ok (.isub, 1) := by decide +kernel
theorem dX2_one_5 : decode cX2_one 5 = .ok (.istore 4, 2) := by decide +kernel
theorem dX2_one_7 : decode cX2_one 7 = .ok (.aload_n 0, 1) := by decide +kernel
theorem dX2_one_8 : decode cX2_one 8 = .ok (.getfield 17, 3) := by decide +kernel
theorem dX2_one_11 : decode cX2_one 11 = .ok (.iconst 1, 1) := by decide +kernel
theorem dX2_one_12 : decode cX2_one 12 = .ok (.iand, 1) := by decide +kernel
theorem dX2_one_13 : decode cX2_one 13 = .ok (.ifCond .eq 7, 3) := by decide +kernel
theorem dX2_one_16 : decode cX2_one 16 = .ok (.iconst 1, 1) := by decide +kernel
theorem dX2_one_17 : decode cX2_one 17 = .ok (.goto 4, 3) := by decide +kernel
theorem dX2_one_20 : decode cX2_one 20 = .ok (.iconst 0, 1) := by decide +kernel
theorem dX2_one_21 : decode cX2_one 21 = .ok (.istore 5, 2) := by decide +kernel
theorem dX2_one_23 : decode cX2_one 23 = .ok (.iload 5, 2) := by decide +kernel
